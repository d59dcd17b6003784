set_option maxHeartbeats 4000000 in
set_option maxRecDepth 100000 in
theorem c_MO_reach (K : xK) (n : Nat) (h : xH) (p th ma w : Nat) (E : Nat → Nat → Nat → Bool) (Tg : Nat → Nat → Bool) (cs : Nat → Nat) (TX : Nat → Nat → Nat) (SZ SX : Nat → Nat) (s : Nat) (os : List Nat) (a : Nat) (bw : Bool) (r : mo_W K h p th ma w E Tg cs TX SZ SX) (hs4 : s < 4) (hsl : sl_T (TX s) (SZ s) os) (ha4 : a < 32) : XM K xy_MO_reach xw_MO_reach (xrm 8 162 0 0) [.ref p, .int (nI s), .int (nI a), .int (xb bw)] n h (x_pi fun r n' h' => n = n' ∧ mw_fr p h h' ∧ mo_W K h' p 0 (ma) w (E) (Tg) (cs) (TX) (SZ) (SX) ∧ ∃ M, pd_mn (oA E Tg os 0) M ∧ (∀ j, j < 32 → bt r j = decide ((if bw then M j a else M a j) < 1000000))) 0 0 := by
  obtain ⟨⟨ln, at_, f, op, mk, tx, S, so, ba, r1⟩, r2⟩ := id r
  have ho := r1.1
  refine xm_i (by decide +kernel) (Nat.le_of_ble_eq_true rfl) (fun G hF hR => ?_)
  refine xv_iload_n (pc' := 1) (i := 1) hF xd_MO_reach_0 rfl rfl rfl ?_
  refine xv_iconstN (pc' := 2) 4 hF xd_MO_reach_1 (by decide +kernel) rfl ?_
  refine xv_callSi (pc' := 5) hF (c_MO_in K n h _ 4) xq_MO_in xk_MO_m52 xk_t_MO_in ⟨(Nat.le_of_ble_eq_true rfl), (Nat.le_of_ble_eq_true rfl)⟩ rfl rfl (Nat.le_of_ble_eq_true rfl) ⟨(Nat.le_of_ble_eq_true rfl), (Nat.le_of_ble_eq_true rfl)⟩ xd_MO_reach_2 rfl (fun q0 n1 h1 q1 => ?_)
  obtain ⟨rfl, rfl, rfl⟩ := q1
  rw [x_in_nI hs4 (by decide)]
  refine xv_istore (pc' := 7) hF xd_MO_reach_5 (Nat.le_of_ble_eq_true rfl) rfl rfl ?_
  refine xv_aload_n (pc' := 8) (i := 0) hF xd_MO_reach_7 rfl rfl rfl ?_
  refine xv_iload (pc' := 10) hF xd_MO_reach_8 rfl rfl ?_
  refine xv_if_neB (pc' := 13) (tgt := 17) hF xd_MO_reach_10 (by decide) rfl (fun e1 => ?_) (fun e1 => ?_)
  · refine xv_iconstN (pc' := 18) 0 hF xd_MO_reach_17 (by decide +kernel) rfl ?_
    refine xv_topi (v' := xb false) (by decide +kernel) ?_
    refine xv_iload (pc' := 20) hF xd_MO_reach_18 rfl rfl ?_
    refine xv_if_eqB (pc' := 23) (tgt := 36) hF xd_MO_reach_20 (by decide) rfl (fun e9 => ?_) (fun e9 => ?_)
    · cases e9
    · skip
      refine xv_iload_n (pc' := 24) (i := 2) hF xd_MO_reach_23 rfl rfl rfl ?_
      refine xv_bipushN (pc' := 26) 32 hF xd_MO_reach_24 (by decide +kernel) rfl ?_
      refine xv_callSi (pc' := 29) hF (c_MO_in K n h _ 32) xq_MO_in xk_MO_m52 xk_t_MO_in ⟨(Nat.le_of_ble_eq_true rfl), (Nat.le_of_ble_eq_true rfl)⟩ rfl rfl (Nat.le_of_ble_eq_true rfl) ⟨(Nat.le_of_ble_eq_true rfl), (Nat.le_of_ble_eq_true rfl)⟩ xd_MO_reach_26 rfl (fun q0 n1 h1 q1 => ?_)
      obtain ⟨rfl, rfl, rfl⟩ := q1
      rw [x_in_nI ha4 (by decide)]
      refine xv_if_neB (pc' := 32) (tgt := 36) hF xd_MO_reach_29 (by decide) rfl (fun e3 => ?_) (fun e3 => ?_)
      · refine xv_iconstN (pc' := 37) 0 hF xd_MO_reach_36 (by decide +kernel) rfl ?_
        refine xv_topi (v' := xb false) (by decide +kernel) ?_
        refine xv_callVi (pc' := 40) (ci := 6) hF (c_MO_fails K n h p th ma w ln at_ f op mk false false ho) xq_MO_fails xk_MO_m56 xk_i_MO_fails xk_s_MO_fails (by first | assumption | exact xu_self | (refine (xu_ne (by omega)).trans ?_; first | assumption | exact xu_self | (refine (xu_ne (by omega)).trans ?_; first | assumption | exact xu_self | (refine (xu_ne (by omega)).trans ?_; first | assumption | exact xu_self | (refine (xu_ne (by omega)).trans ?_; first | assumption | exact xu_self))))) rfl ⟨(Nat.le_of_ble_eq_true rfl), (Nat.le_of_ble_eq_true rfl)⟩ rfl rfl (Nat.le_of_ble_eq_true rfl) ⟨(Nat.le_of_ble_eq_true rfl), (Nat.le_of_ble_eq_true rfl)⟩ xd_MO_reach_37 rfl (fun q0 n1 h1 q1 => ?_)
        obtain ⟨rfl, rfl, rfl⟩ := q1
        have r3 := r1.mm (th' := 0) (ma' := ma) (sz' := w)
        have f3 : mw_fr p h (xu h p (.inr (6, [.int (nI 0), .ref (p + 1), .ref (p + 2), .int (nI ma), .ref (p + 3), .int (nI w), .ref (p + 4), .ref (p + 5), .ref (p + 6), .ref (p + 7), .int (nI ln), .int (nI at_), .int (xm1 f), .int (xb mk), .ref (p + 8), .ref (p + 9), .ref (p + 10), .int (nI op), .ref (p + 11), .ref (p + 12)]))) := mw_fr.rf.x (by omega)
        have r4 : mw_X K (xu h p (.inr (6, [.int (nI 0), .ref (p + 1), .ref (p + 2), .int (nI ma), .ref (p + 3), .int (nI w), .ref (p + 4), .ref (p + 5), .ref (p + 6), .ref (p + 7), .int (nI ln), .int (nI at_), .int (xm1 f), .int (xb mk), .ref (p + 8), .ref (p + 9), .ref (p + 10), .int (nI op), .ref (p + 11), .ref (p + 12)]))) p cs w TX SZ SX := r2.keep (fun q a1 _ _ _ _ _ _ => xu_ne a1)
        simp only [Bool.false_eq_true, if_false, Bool.or_false]
        generalize xu h p (.inr (6, [.int (nI 0), .ref (p + 1), .ref (p + 2), .int (nI ma), .ref (p + 3), .int (nI w), .ref (p + 4), .ref (p + 5), .ref (p + 6), .ref (p + 7), .int (nI ln), .int (nI at_), .int (xm1 f), .int (xb mk), .ref (p + 8), .ref (p + 9), .ref (p + 10), .int (nI op), .ref (p + 11), .ref (p + 12)])) = h3 at r3 f3 r4 ⊢
        clear ho
        have ho := r3.1
        refine xv_if_eqB (pc' := 43) (tgt := 45) hF xd_MO_reach_40 (by decide) rfl (fun e2 => ?_) (fun e2 => ?_)
        · refine xv_aload_n (pc' := 46) (i := 0) hF xd_MO_reach_45 rfl rfl rfl ?_
          refine xv_iload_n (pc' := 47) (i := 1) hF xd_MO_reach_46 rfl rfl rfl ?_
          refine xv_aload_n (pc' := 48) (i := 0) hF xd_MO_reach_47 rfl rfl rfl ?_
          refine xv_get (pc' := 51) (ci := 6) hF (by first | assumption | exact xu_self | (refine (xu_ne (by omega)).trans ?_; first | assumption | exact xu_self | (refine (xu_ne (by omega)).trans ?_; first | assumption | exact xu_self | (refine (xu_ne (by omega)).trans ?_; first | assumption | exact xu_self | (refine (xu_ne (by omega)).trans ?_; first | assumption | exact xu_self))))) rfl xu_MO 18 (by decide) xk_MO_f42 (by rfl) xd_MO_reach_48 rfl ?_
          refine xv_callVv (pc' := 54) (ci := 6) hF (c_MO_lengths K n h3 p 0 ma w E Tg cs TX SZ SX s (p + 11) os ⟨⟨_, _, _, _, _, _, _, _, _, r3⟩, r4⟩ hs4 (Or.inl rfl) hsl) xq_MO_lengths xk_MO_m166 xk_i_MO_lengths xk_s_MO_lengths (by first | assumption | exact xu_self | (refine (xu_ne (by omega)).trans ?_; first | assumption | exact xu_self | (refine (xu_ne (by omega)).trans ?_; first | assumption | exact xu_self | (refine (xu_ne (by omega)).trans ?_; first | assumption | exact xu_self | (refine (xu_ne (by omega)).trans ?_; first | assumption | exact xu_self))))) rfl ⟨(Nat.le_of_ble_eq_true rfl), (Nat.le_of_ble_eq_true rfl)⟩ rfl rfl (Nat.le_of_ble_eq_true rfl) ⟨(Nat.le_of_ble_eq_true rfl), (Nat.le_of_ble_eq_true rfl)⟩ xd_MO_reach_51 rfl (fun n5 h5 q5 => ?_)
          obtain ⟨rfl, f5, w5, ⟨S5, so5, ba5, ln5, at5, f5', op5, tx5, r5⟩, af, M, ha, hM, hmn⟩ := q5
          have f6 : mw_fr p h h5 := f3.tr (fun q c => f5 q (by omega) (by omega))
          clear ho
          have ho := r5.1
          have hb : ∀ z, z < 1024 → M (z / 32) (z % 32) ≤ 1000000 := fun z hz => (hmn _ _ (by omega) (by omega)).1
          refine xv_iconstN (pc' := 55) 0 hF xd_MO_reach_54 (by decide +kernel) rfl ?_
          refine xv_istore (pc' := 57) hF xd_MO_reach_55 (Nat.le_of_ble_eq_true rfl) rfl rfl ?_
          refine xv_iconstN (pc' := 58) 0 hF xd_MO_reach_57 (by decide +kernel) rfl ?_
          refine xv_istore (pc' := 60) hF xd_MO_reach_58 (Nat.le_of_ble_eq_true rfl) rfl rfl ?_
          have loop : ∀ d k x, 32 - k = d → k ≤ 32 → (∀ j, j < 32 → bt x j = (decide (j < k) && decide ((if bw then M j a else M a j) < 1000000))) → XV G (0 + 0 + 0 + 0 + 0) (0 + 0 + 0 + 0 + 0) 60 [(6, .int (nI k)), (5, .int x), (0, .ref p), (1, .int (nI s)), (2, .int (nI a)), (3, .int (xb bw))] [] n h5 := by
            intro d
            induction d using Nat.strongRecOn with
            | ind d ih =>
              intro k x hd hk hv
              refine xv_iload (pc' := 62) hF xd_MO_reach_60 rfl rfl ?_
              refine xv_bipushN (pc' := 64) 32 hF xd_MO_reach_62 (by decide +kernel) rfl ?_
              refine xv_icmp_geN (pc' := 67) (tgt := 117) hF (by omega) (by omega) xd_MO_reach_64 (by decide) rfl (fun e4 => ?_) (fun e4 => ?_)
              · have : k = 32 := by omega
                subst this
                refine xv_iload (pc' := 119) hF xd_MO_reach_117 rfl rfl ?_
                refine hR _ _ _ _ _ _ _ (by omega) (by omega) ?_ xd_MO_reach_119
                refine ⟨rfl, f6, w5, M, hmn, fun j hj => ?_⟩
                rw [hv j hj, decide_eq_true hj, Bool.true_and]
              · have go : ∀ z, z < 1024 → M (z / 32) (z % 32) = (if bw then M k a else M a k) → XV G (0 + 0 + 0 + 0 + 0) (0 + 0 + 0 + 0 + 0) 94 [(6, .int (nI k)), (5, .int x), (0, .ref p), (1, .int (nI s)), (2, .int (nI a)), (3, .int (xb bw))] [.int (nI z), .ref (p + 11), .int x] n h5 := by
                  intro z hz ez
                  have h1 := hM z hz
                  have h2 := hb z hz
                  rw [ez] at h1 h2
                  first | refine xv_ialdN (pc' := 95) hF (by first | assumption | exact xu_self | (refine (xu_ne (by omega)).trans ?_; first | assumption | exact xu_self | (refine (xu_ne (by omega)).trans ?_; first | assumption | exact xu_self | (refine (xu_ne (by omega)).trans ?_; first | assumption | exact xu_self | (refine (xu_ne (by omega)).trans ?_; first | assumption | exact xu_self))))) (by omega) (by decide) xd_MO_reach_94 rfl ?_ | refine xv_iald (pc' := 95) hF (by first | assumption | exact xu_self | (refine (xu_ne (by omega)).trans ?_; first | assumption | exact xu_self | (refine (xu_ne (by omega)).trans ?_; first | assumption | exact xu_self | (refine (xu_ne (by omega)).trans ?_; first | assumption | exact xu_self | (refine (xu_ne (by omega)).trans ?_; first | assumption | exact xu_self))))) (by omega) xd_MO_reach_94 rfl ?_
                  refine xv_topi h1 ?_
                  refine xv_ldc (pc' := 97) hF xk_MO_k96 xd_MO_reach_95 rfl ?_
                  refine xv_topi (v' := nI 1000000) (by decide +kernel) ?_
                  refine xv_icmp_geN (pc' := 100) (tgt := 107) hF (by omega) (by omega) xd_MO_reach_97 (by decide) rfl (fun e5 => ?_) (fun e5 => ?_)
                  · refine xv_iconstN (pc' := 108) 0 hF xd_MO_reach_107 (by decide +kernel) rfl ?_
                    refine xv_ior (pc' := 109) hF xd_MO_reach_108 rfl ?_
                    refine xv_istore (pc' := 111) hF xd_MO_reach_109 (Nat.le_of_ble_eq_true rfl) rfl rfl ?_
                    first | refine xv_iincN (pc' := 114) hF xd_MO_reach_111 rfl rfl (Nat.le_of_ble_eq_true rfl) rfl rfl ?_ | refine xv_iinc (pc' := 114) hF xd_MO_reach_111 rfl rfl (Nat.le_of_ble_eq_true rfl) rfl rfl ?_
                    refine xv_goto (tgt := 60) hF xd_MO_reach_114 (by decide) ?_
                    refine xv_loc _ (by repeat (first | exact trivial | refine ⟨rfl, ?_⟩)) (ih _ (by omega) (k + 1) _ rfl (by omega) (fun j hj => ?_))
                    rw [b_or, hv j hj, show nI 0 = 0 from by decide +kernel, b_0, Bool.or_false]
                    by_cases c : j = k
                    · subst c
                      rw [decide_eq_false (Nat.lt_irrefl _), decide_eq_false (show ¬ (if bw then M j a else M a j) < 1000000 by omega)]
                      simp
                    · have : (j < k + 1) ↔ (j < k) := by omega
                      simp only [this]
                  · refine xv_iconstN (pc' := 101) 1 hF xd_MO_reach_100 (by decide +kernel) rfl ?_
                    refine xv_iload (pc' := 103) hF xd_MO_reach_101 rfl rfl ?_
                    refine xv_ishl (pc' := 104) hF xd_MO_reach_103 rfl ?_
                    refine xv_goto (tgt := 108) hF xd_MO_reach_104 (by decide) ?_
                    refine xv_ior (pc' := 109) hF xd_MO_reach_108 rfl ?_
                    refine xv_istore (pc' := 111) hF xd_MO_reach_109 (Nat.le_of_ble_eq_true rfl) rfl rfl ?_
                    first | refine xv_iincN (pc' := 114) hF xd_MO_reach_111 rfl rfl (Nat.le_of_ble_eq_true rfl) rfl rfl ?_ | refine xv_iinc (pc' := 114) hF xd_MO_reach_111 rfl rfl (Nat.le_of_ble_eq_true rfl) rfl rfl ?_
                    refine xv_goto (tgt := 60) hF xd_MO_reach_114 (by decide) ?_
                    refine xv_loc _ (by repeat (first | exact trivial | refine ⟨rfl, ?_⟩)) (ih _ (by omega) (k + 1) _ rfl (by omega) (fun j hj => ?_))
                    rw [b_or, hv j hj, show nI 1 = 1 from by decide +kernel, bt_one k (by omega) j hj]
                    by_cases c : j = k
                    · subst c
                      rw [decide_eq_true (show j = j from rfl), decide_eq_true (show j < j + 1 by omega), decide_eq_true e5]
                      simp
                    · have : (j < k + 1) ↔ (j < k) := by omega
                      rw [decide_eq_false c, Bool.or_false]
                      simp only [this]
                refine xv_iload (pc' := 69) hF xd_MO_reach_67 rfl rfl ?_
                refine xv_aload_n (pc' := 70) (i := 0) hF xd_MO_reach_69 rfl rfl rfl ?_
                refine xv_get (pc' := 73) (ci := 6) hF (by first | assumption | exact xu_self | (refine (xu_ne (by omega)).trans ?_; first | assumption | exact xu_self | (refine (xu_ne (by omega)).trans ?_; first | assumption | exact xu_self | (refine (xu_ne (by omega)).trans ?_; first | assumption | exact xu_self | (refine (xu_ne (by omega)).trans ?_; first | assumption | exact xu_self))))) rfl xu_MO 18 (by decide) xk_MO_f42 (by rfl) xd_MO_reach_70 rfl ?_
                refine xv_iload_n (pc' := 74) (i := 3) hF xd_MO_reach_73 rfl rfl rfl ?_
                refine xv_if_eqB (pc' := 77) (tgt := 87) hF xd_MO_reach_74 (by decide) rfl (fun e5 => ?_) (fun e5 => ?_)
                · refine xv_bipushN (pc' := 89) 32 hF xd_MO_reach_87 (by decide +kernel) rfl ?_
                  refine xv_iload_n (pc' := 90) (i := 2) hF xd_MO_reach_89 rfl rfl rfl ?_
                  first | refine xv_imulN (pc' := 91) hF xd_MO_reach_90 rfl ?_ | refine xv_imul (pc' := 91) hF xd_MO_reach_90 rfl ?_
                  refine xv_iload (pc' := 93) hF xd_MO_reach_91 rfl rfl ?_
                  first | refine xv_iaddN (pc' := 94) hF xd_MO_reach_93 rfl ?_ | refine xv_iadd (pc' := 94) hF xd_MO_reach_93 rfl ?_
                  exact xv_loc _ (by repeat (first | exact trivial | refine ⟨rfl, ?_⟩)) (go (32 * a + k) (by omega) (by rw [show (32 * a + k) / 32 = a by omega, show (32 * a + k) % 32 = k by omega, e5]; rfl))
                · refine xv_bipushN (pc' := 79) 32 hF xd_MO_reach_77 (by decide +kernel) rfl ?_
                  refine xv_iload (pc' := 81) hF xd_MO_reach_79 rfl rfl ?_
                  first | refine xv_imulN (pc' := 82) hF xd_MO_reach_81 rfl ?_ | refine xv_imul (pc' := 82) hF xd_MO_reach_81 rfl ?_
                  refine xv_iload_n (pc' := 83) (i := 2) hF xd_MO_reach_82 rfl rfl rfl ?_
                  first | refine xv_iaddN (pc' := 84) hF xd_MO_reach_83 rfl ?_ | refine xv_iadd (pc' := 84) hF xd_MO_reach_83 rfl ?_
                  refine xv_goto (tgt := 94) hF xd_MO_reach_84 (by decide) ?_
                  exact xv_loc _ (by repeat (first | exact trivial | refine ⟨rfl, ?_⟩)) (go (32 * k + a) (by omega) (by rw [show (32 * k + a) / 32 = k by omega, show (32 * k + a) % 32 = a by omega, e5]; rfl))
          exact xv_loc _ (by repeat (first | exact trivial | refine ⟨rfl, ?_⟩)) (loop 32 0 _ (by omega) (by omega) (fun j hj => by rw [show nI 0 = 0 from by decide +kernel, b_0]; rfl))
        · cases e2
      · cases e3
  · cases e1
