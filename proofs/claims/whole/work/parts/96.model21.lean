set_option maxHeartbeats 4000000 in
set_option maxRecDepth 100000 in
theorem c_MO_count (K : xK) (n : Nat) (h : xH) (p th ma w : Nat) (E : Nat → Nat → Nat → Bool) (Tg : Nat → Nat → Bool) (cs : Nat → Nat) (TX : Nat → Nat → Nat) (SZ SX : Nat → Nat) (k : Nat) (r : mo_W K h p th ma w E Tg cs TX SZ SX) (hk : k < 18) : XM K xy_MO_count xw_MO_count (xrm 1 22 0 0) [.ref p, .int (nI k)] n h (x_pi fun r n' h' => n = n' ∧ mw_fr p h h' ∧ r = nI (dk_cn E Tg ma w SX k) ∧ mo_W K h' p 0 (ma) w (E) (Tg) (cs) (TX) (SZ) (SX)) 0 0 := by
  obtain ⟨⟨ln, at_, f, op, mk, tx, S, so, ba, r1⟩, r2⟩ := id r
  have ho := r1.1
  refine xm_i (by decide +kernel) (Nat.le_of_ble_eq_true rfl) (fun G hF hR => ?_)
  refine xv_aload_n (pc' := 1) (i := 0) hF xd_MO_count_0 rfl rfl rfl ?_
  refine xv_iconstN (pc' := 2) 0 hF xd_MO_count_1 (by decide +kernel) rfl ?_
  refine xv_put (pc' := 5) (ci := 6) (ty := xt_MO 0) hF (by first | assumption | exact xu_self | (refine (xu_ne (by omega)).trans ?_; first | assumption | exact xu_self | (refine (xu_ne (by omega)).trans ?_; first | assumption | exact xu_self | (refine (xu_ne (by omega)).trans ?_; first | assumption | exact xu_self | (refine (xu_ne (by omega)).trans ?_; first | assumption | exact xu_self))))) rfl xu_MO xt_MO xo_MO xn_MO 0 (by decide) xk_MO_f48 rfl (by decide +kernel) (by first | rfl | exact xb_nw _ | decide +kernel) (by first | rfl | exact xb_ft _ | decide +kernel) (by exact Nat.le_of_ble_eq_true rfl) (by dsimp only [List.set] <;> rfl) xd_MO_count_2 rfl ?_
  refine xv_iconstN (pc' := 6) 0 hF xd_MO_count_5 (by decide +kernel) rfl ?_
  refine xv_istore_n (pc' := 7) (i := 2) hF xd_MO_count_6 rfl (Nat.le_of_ble_eq_true rfl) rfl rfl ?_
  refine xv_iload_n (pc' := 8) (i := 1) hF xd_MO_count_7 rfl rfl rfl ?_
  have r3 := r1.mm (th' := 0) (ma' := ma) (sz' := w)
  have f3 : mw_fr p h (xu h p (.inr (6, [.int (nI 0), .ref (p + 1), .ref (p + 2), .int (nI ma), .ref (p + 3), .int (nI w), .ref (p + 4), .ref (p + 5), .ref (p + 6), .ref (p + 7), .int (nI ln), .int (nI at_), .int (xm1 f), .int (xb mk), .ref (p + 8), .ref (p + 9), .ref (p + 10), .int (nI op), .ref (p + 11), .ref (p + 12)]))) := mw_fr.rf.x (by omega)
  have r4 : mw_X K (xu h p (.inr (6, [.int (nI 0), .ref (p + 1), .ref (p + 2), .int (nI ma), .ref (p + 3), .int (nI w), .ref (p + 4), .ref (p + 5), .ref (p + 6), .ref (p + 7), .int (nI ln), .int (nI at_), .int (xm1 f), .int (xb mk), .ref (p + 8), .ref (p + 9), .ref (p + 10), .int (nI op), .ref (p + 11), .ref (p + 12)]))) p cs w TX SZ SX := r2.keep (fun q a1 _ _ _ _ _ _ => xu_ne a1)
  generalize xu h p (.inr (6, [.int (nI 0), .ref (p + 1), .ref (p + 2), .int (nI ma), .ref (p + 3), .int (nI w), .ref (p + 4), .ref (p + 5), .ref (p + 6), .ref (p + 7), .int (nI ln), .int (nI at_), .int (xm1 f), .int (xb mk), .ref (p + 8), .ref (p + 9), .ref (p + 10), .int (nI op), .ref (p + 11), .ref (p + 12)])) = h3 at r3 f3 r4 ⊢
  clear ho
  obtain ⟨ho, -, -, -, -, ⟨ef, hed, hed2⟩, ⟨gf, htg, htg2⟩, -⟩ := id r3
  obtain ⟨-, -, -, -, -, ⟨yf, x9, xa⟩, -⟩ := id r4
  refine xv_if_neN (pc' := 11) (tgt := 16) hF (by omega) xd_MO_count_8 (by decide) rfl (fun e1 => ?_) (fun e1 => ?_)
  · refine xv_iload_n (pc' := 17) (i := 1) hF xd_MO_count_16 rfl rfl rfl ?_
    refine xv_iconstN (pc' := 18) 1 hF xd_MO_count_17 (by decide +kernel) rfl ?_
    refine xv_icmp_neN (pc' := 21) (tgt := 26) hF (by omega) (by omega) xd_MO_count_18 (by decide) rfl (fun e2 => ?_) (fun e2 => ?_)
    · refine xv_iload_n (pc' := 27) (i := 1) hF xd_MO_count_26 rfl rfl rfl ?_
      refine xv_iconstN (pc' := 28) 2 hF xd_MO_count_27 (by decide +kernel) rfl ?_
      first | refine xv_isubN (pc' := 29) hF (by omega) xd_MO_count_28 rfl ?_ | refine xv_isub (pc' := 29) hF xd_MO_count_28 rfl ?_
      refine xv_iconstN (pc' := 30) 4 hF xd_MO_count_29 (by decide +kernel) rfl ?_
      refine xv_callSi (pc' := 33) hF (c_MO_in K n h3 _ 4) xq_MO_in xk_MO_m52 xk_t_MO_in ⟨(Nat.le_of_ble_eq_true rfl), (Nat.le_of_ble_eq_true rfl)⟩ rfl rfl (Nat.le_of_ble_eq_true rfl) ⟨(Nat.le_of_ble_eq_true rfl), (Nat.le_of_ble_eq_true rfl)⟩ xd_MO_count_30 rfl (fun q0 n5 h5 q5 => ?_)
      obtain ⟨rfl, rfl, rfl⟩ := q5
      by_cases c6 : k < 6
      · rw [x_in_nI (by omega) (by decide)]
        refine xv_if_eqB (pc' := 36) (tgt := 45) hF xd_MO_count_33 (by decide) rfl (fun e3 => ?_) (fun e3 => ?_)
        · cases e3
        · refine xv_aload_n (pc' := 37) (i := 0) hF xd_MO_count_36 rfl rfl rfl ?_
          refine xv_get (pc' := 40) (ci := 6) hF (by first | assumption | exact xu_self | (refine (xu_ne (by omega)).trans ?_; first | assumption | exact xu_self | (refine (xu_ne (by omega)).trans ?_; first | assumption | exact xu_self | (refine (xu_ne (by omega)).trans ?_; first | assumption | exact xu_self | (refine (xu_ne (by omega)).trans ?_; first | assumption | exact xu_self))))) rfl xu_MO 8 (by decide) xk_MO_f26 (by rfl) xd_MO_count_37 rfl ?_
          refine xv_iload_n (pc' := 41) (i := 1) hF xd_MO_count_40 rfl rfl rfl ?_
          refine xv_iconstN (pc' := 42) 2 hF xd_MO_count_41 (by decide +kernel) rfl ?_
          first | refine xv_isubN (pc' := 43) hF (by omega) xd_MO_count_42 rfl ?_ | refine xv_isub (pc' := 43) hF xd_MO_count_42 rfl ?_
          first | refine xv_ialdN (pc' := 44) hF (by first | assumption | exact xu_self | (refine (xu_ne (by omega)).trans ?_; first | assumption | exact xu_self | (refine (xu_ne (by omega)).trans ?_; first | assumption | exact xu_self | (refine (xu_ne (by omega)).trans ?_; first | assumption | exact xu_self | (refine (xu_ne (by omega)).trans ?_; first | assumption | exact xu_self))))) (by omega) (by decide) xd_MO_count_43 rfl ?_ | refine xv_iald (pc' := 44) hF (by first | assumption | exact xu_self | (refine (xu_ne (by omega)).trans ?_; first | assumption | exact xu_self | (refine (xu_ne (by omega)).trans ?_; first | assumption | exact xu_self | (refine (xu_ne (by omega)).trans ?_; first | assumption | exact xu_self | (refine (xu_ne (by omega)).trans ?_; first | assumption | exact xu_self))))) (by omega) xd_MO_count_43 rfl ?_
          refine hR _ _ _ _ _ _ _ (by omega) (by omega) ?_ xd_MO_count_44
          refine ⟨rfl, f3, ?_, ⟨_, _, _, _, _, _, _, _, _, r3⟩, r4⟩
          unfold dk_cn
          rw [if_neg (by omega), if_neg (by omega), if_pos c6]
          exact xa _ (by omega)
      · rw [x_in_no (by omega) (by omega)]
        refine xv_if_eqB (pc' := 36) (tgt := 45) hF xd_MO_count_33 (by decide) rfl (fun e3 => ?_) (fun e3 => ?_)
        · have fin : ∀ acc j, acc = dk_cn E Tg ma w SX k → XV G (0 + 0) (0 + 0) 147 [(3, .int (nI j)), (2, .int (nI acc)), (0, .ref p), (1, .int (nI k))] [] n h3 := by
            intro acc j hacc
            refine xv_iload_n (pc' := 148) (i := 1) hF xd_MO_count_147 rfl rfl rfl ?_
            refine xv_bipushN (pc' := 150) 6 hF xd_MO_count_148 (by decide +kernel) rfl ?_
            first | refine xv_isubN (pc' := 151) hF (by omega) xd_MO_count_150 rfl ?_ | refine xv_isub (pc' := 151) hF xd_MO_count_150 rfl ?_
            refine xv_bipushN (pc' := 153) 12 hF xd_MO_count_151 (by decide +kernel) rfl ?_
            refine xv_callSi (pc' := 156) hF (c_MO_in K n h3 _ 12) xq_MO_in xk_MO_m52 xk_t_MO_in ⟨(Nat.le_of_ble_eq_true rfl), (Nat.le_of_ble_eq_true rfl)⟩ rfl rfl (Nat.le_of_ble_eq_true rfl) ⟨(Nat.le_of_ble_eq_true rfl), (Nat.le_of_ble_eq_true rfl)⟩ xd_MO_count_153 rfl (fun q0 n5 h5 q5 => ?_)
            obtain ⟨rfl, rfl, rfl⟩ := q5
            rw [x_in_nI (by omega) (by decide)]
            refine xv_if_eqB (pc' := 159) (tgt := 163) hF xd_MO_count_156 (by decide) rfl (fun e4 => ?_) (fun e4 => ?_)
            · cases e4
            · refine xv_iload_n (pc' := 160) (i := 2) hF xd_MO_count_159 rfl rfl rfl ?_
              refine xv_goto (tgt := 164) hF xd_MO_count_160 (by decide) ?_
              refine hR _ _ _ _ _ _ _ (by omega) (by omega) ?_ xd_MO_count_164
              exact ⟨rfl, f3, by rw [hacc], ⟨_, _, _, _, _, _, _, _, _, r3⟩, r4⟩
          have tb : ∀ acc j, (k < 14 → acc = dk_cn E Tg ma w SX k) → (14 ≤ k → acc = 0) → XV G (0 + 0) (0 + 0) 98 [(3, .int (nI j)), (2, .int (nI acc)), (0, .ref p), (1, .int (nI k))] [] n h3 := by
            intro acc j h1 h2
            refine xv_iconstN (pc' := 99) 0 hF xd_MO_count_98 (by decide +kernel) rfl ?_
            refine xv_istore_n (pc' := 100) (i := 3) hF xd_MO_count_99 rfl (Nat.le_of_ble_eq_true rfl) rfl rfl ?_
            by_cases c14 : k < 14
            · refine xv_iload_n (pc' := 101) (i := 3) hF xd_MO_count_100 rfl rfl rfl ?_
              refine xv_bipushN (pc' := 103) 32 hF xd_MO_count_101 (by decide +kernel) rfl ?_
              refine xv_icmp_geN (pc' := 106) (tgt := 147) hF (by omega) (by omega) xd_MO_count_103 (by decide) rfl (fun e4 => ?_) (fun e4 => ?_)
              · omega
              · refine xv_iload_n (pc' := 107) (i := 1) hF xd_MO_count_106 rfl rfl rfl ?_
                refine xv_bipushN (pc' := 109) 14 hF xd_MO_count_107 (by decide +kernel) rfl ?_
                first | refine xv_isubN (pc' := 110) hF (by omega) xd_MO_count_109 rfl ?_ | refine xv_isub (pc' := 110) hF xd_MO_count_109 rfl ?_
                refine xv_iconstN (pc' := 111) 4 hF xd_MO_count_110 (by decide +kernel) rfl ?_
                refine xv_callSi (pc' := 114) hF (c_MO_in K n h3 _ 4) xq_MO_in xk_MO_m52 xk_t_MO_in ⟨(Nat.le_of_ble_eq_true rfl), (Nat.le_of_ble_eq_true rfl)⟩ rfl rfl (Nat.le_of_ble_eq_true rfl) ⟨(Nat.le_of_ble_eq_true rfl), (Nat.le_of_ble_eq_true rfl)⟩ xd_MO_count_111 rfl (fun q0 n5 h5 q5 => ?_)
                obtain ⟨rfl, rfl, rfl⟩ := q5
                rw [x_in_14 k c14]
                refine xv_if_eqB (pc' := 117) (tgt := 147) hF xd_MO_count_114 (by decide) rfl (fun e5 => ?_) (fun e5 => ?_)
                · exact xv_loc _ (by repeat (first | exact trivial | refine ⟨rfl, ?_⟩)) (fin acc 0 (h1 c14))
                · cases e5
            · have := h2 (by omega)
              subst this
              have loop : ∀ d i, 32 - i = d → i ≤ 32 → XV G (0 + 0) (0 + 0) 100 [(3, .int (nI i)), (2, .int (nI (bc_n (Tg (k - 14)) i))), (0, .ref p), (1, .int (nI k))] [] n h3 := by
                intro d
                induction d using Nat.strongRecOn with
                | ind d ih =>
                  intro i hd hi
                  refine xv_iload_n (pc' := 101) (i := 3) hF xd_MO_count_100 rfl rfl rfl ?_
                  refine xv_bipushN (pc' := 103) 32 hF xd_MO_count_101 (by decide +kernel) rfl ?_
                  refine xv_icmp_geN (pc' := 106) (tgt := 147) hF (by omega) (by omega) xd_MO_count_103 (by decide) rfl (fun e4 => ?_) (fun e4 => ?_)
                  · have : i = 32 := by omega
                    subst this
                    refine xv_loc _ (by repeat (first | exact trivial | refine ⟨rfl, ?_⟩)) (fin _ 32 ?_)
                    unfold dk_cn
                    rw [if_neg (by omega), if_neg (by omega), if_neg (by omega), if_neg (by omega)]
                  · refine xv_iload_n (pc' := 107) (i := 1) hF xd_MO_count_106 rfl rfl rfl ?_
                    refine xv_bipushN (pc' := 109) 14 hF xd_MO_count_107 (by decide +kernel) rfl ?_
                    first | refine xv_isubN (pc' := 110) hF (by omega) xd_MO_count_109 rfl ?_ | refine xv_isub (pc' := 110) hF xd_MO_count_109 rfl ?_
                    refine xv_iconstN (pc' := 111) 4 hF xd_MO_count_110 (by decide +kernel) rfl ?_
                    refine xv_callSi (pc' := 114) hF (c_MO_in K n h3 _ 4) xq_MO_in xk_MO_m52 xk_t_MO_in ⟨(Nat.le_of_ble_eq_true rfl), (Nat.le_of_ble_eq_true rfl)⟩ rfl rfl (Nat.le_of_ble_eq_true rfl) ⟨(Nat.le_of_ble_eq_true rfl), (Nat.le_of_ble_eq_true rfl)⟩ xd_MO_count_111 rfl (fun q0 n5 h5 q5 => ?_)
                    obtain ⟨rfl, rfl, rfl⟩ := q5
                    rw [x_in_nI (by omega) (by decide)]
                    have go := ih _ (by omega) (i + 1) rfl (by omega)
                    refine xv_if_eqB (pc' := 117) (tgt := 147) hF xd_MO_count_114 (by decide) rfl (fun e5 => ?_) (fun e5 => ?_)
                    · cases e5
                    · refine xv_iload_n (pc' := 118) (i := 2) hF xd_MO_count_117 rfl rfl rfl ?_
                      refine xv_aload_n (pc' := 119) (i := 0) hF xd_MO_count_118 rfl rfl rfl ?_
                      refine xv_get (pc' := 122) (ci := 6) hF (by first | assumption | exact xu_self | (refine (xu_ne (by omega)).trans ?_; first | assumption | exact xu_self | (refine (xu_ne (by omega)).trans ?_; first | assumption | exact xu_self | (refine (xu_ne (by omega)).trans ?_; first | assumption | exact xu_self | (refine (xu_ne (by omega)).trans ?_; first | assumption | exact xu_self))))) rfl xu_MO 2 (by decide) xk_MO_f13 (by rfl) xd_MO_count_119 rfl ?_
                      refine xv_iconstN (pc' := 123) 4 hF xd_MO_count_122 (by decide +kernel) rfl ?_
                      refine xv_iload_n (pc' := 124) (i := 3) hF xd_MO_count_123 rfl rfl rfl ?_
                      first | refine xv_imulN (pc' := 125) hF xd_MO_count_124 rfl ?_ | refine xv_imul (pc' := 125) hF xd_MO_count_124 rfl ?_
                      refine xv_iload_n (pc' := 126) (i := 1) hF xd_MO_count_125 rfl rfl rfl ?_
                      first | refine xv_iaddN (pc' := 127) hF xd_MO_count_126 rfl ?_ | refine xv_iadd (pc' := 127) hF xd_MO_count_126 rfl ?_
                      refine xv_bipushN (pc' := 129) 14 hF xd_MO_count_127 (by decide +kernel) rfl ?_
                      first | refine xv_isubN (pc' := 130) hF (by omega) xd_MO_count_129 rfl ?_ | refine xv_isub (pc' := 130) hF xd_MO_count_129 rfl ?_
                      refine xv_zaldN (pc' := 131) hF (by first | assumption | exact xu_self | (refine (xu_ne (by omega)).trans ?_; first | assumption | exact xu_self | (refine (xu_ne (by omega)).trans ?_; first | assumption | exact xu_self | (refine (xu_ne (by omega)).trans ?_; first | assumption | exact xu_self | (refine (xu_ne (by omega)).trans ?_; first | assumption | exact xu_self))))) (by omega) (by decide) xd_MO_count_130 rfl ?_
                      refine xv_topi (v' := xb (Tg (k - 14) i)) (by rw [show 4 * i + k - 14 = 4 * i + (k - 14) by omega]; exact htg2 _ _ (by omega) e4) ?_
                      refine xv_if_eqB (pc' := 134) (tgt := 138) hF xd_MO_count_131 (by decide) rfl (fun e6 => ?_) (fun e6 => ?_)
                      · rw [show bc_n (Tg (k - 14)) (i + 1) = bc_n (Tg (k - 14)) i + 0 by simp only [bc_n]; rw [e6]; rfl] at go
                        refine xv_iconstN (pc' := 139) 0 hF xd_MO_count_138 (by decide +kernel) rfl ?_
                        first | refine xv_iaddN (pc' := 140) hF xd_MO_count_139 rfl ?_ | refine xv_iadd (pc' := 140) hF xd_MO_count_139 rfl ?_
                        refine xv_istore_n (pc' := 141) (i := 2) hF xd_MO_count_140 rfl (Nat.le_of_ble_eq_true rfl) rfl rfl ?_
                        first | refine xv_iincN (pc' := 144) hF xd_MO_count_141 rfl rfl (Nat.le_of_ble_eq_true rfl) rfl rfl ?_ | refine xv_iinc (pc' := 144) hF xd_MO_count_141 rfl rfl (Nat.le_of_ble_eq_true rfl) rfl rfl ?_
                        refine xv_goto (tgt := 100) hF xd_MO_count_144 (by decide) ?_
                        exact xv_loc _ (by repeat (first | exact trivial | refine ⟨rfl, ?_⟩)) go
                      · rw [show bc_n (Tg (k - 14)) (i + 1) = bc_n (Tg (k - 14)) i + 1 by simp only [bc_n]; rw [e6]; rfl] at go
                        refine xv_iconstN (pc' := 135) 1 hF xd_MO_count_134 (by decide +kernel) rfl ?_
                        refine xv_goto (tgt := 139) hF xd_MO_count_135 (by decide) ?_
                        first | refine xv_iaddN (pc' := 140) hF xd_MO_count_139 rfl ?_ | refine xv_iadd (pc' := 140) hF xd_MO_count_139 rfl ?_
                        refine xv_istore_n (pc' := 141) (i := 2) hF xd_MO_count_140 rfl (Nat.le_of_ble_eq_true rfl) rfl rfl ?_
                        first | refine xv_iincN (pc' := 144) hF xd_MO_count_141 rfl rfl (Nat.le_of_ble_eq_true rfl) rfl rfl ?_ | refine xv_iinc (pc' := 144) hF xd_MO_count_141 rfl rfl (Nat.le_of_ble_eq_true rfl) rfl rfl ?_
                        refine xv_goto (tgt := 100) hF xd_MO_count_144 (by decide) ?_
                        exact xv_loc _ (by repeat (first | exact trivial | refine ⟨rfl, ?_⟩)) go
              exact xv_loc _ (by repeat (first | exact trivial | refine ⟨rfl, ?_⟩)) (loop 32 0 (by omega) (by omega))
          refine xv_iconstN (pc' := 46) 0 hF xd_MO_count_45 (by decide +kernel) rfl ?_
          refine xv_istore_n (pc' := 47) (i := 3) hF xd_MO_count_46 rfl (Nat.le_of_ble_eq_true rfl) rfl rfl ?_
          by_cases c14 : k < 14
          · have loop : ∀ d i, 1024 - i = d → i ≤ 1024 → XV G (0 + 0) (0 + 0) 47 [(3, .int (nI i)), (2, .int (nI (md_cn (E (k - 6)) i))), (0, .ref p), (1, .int (nI k))] [] n h3 := by
              intro d
              induction d using Nat.strongRecOn with
              | ind d ih =>
                intro i hd hi
                refine xv_iload_n (pc' := 48) (i := 3) hF xd_MO_count_47 rfl rfl rfl ?_
                refine xv_sipushN (pc' := 51) 1024 hF xd_MO_count_48 (by decide +kernel) rfl ?_
                refine xv_icmp_geN (pc' := 54) (tgt := 98) hF (by omega) (by omega) xd_MO_count_51 (by decide) rfl (fun e4 => ?_) (fun e4 => ?_)
                · have : i = 1024 := by omega
                  subst this
                  refine xv_loc _ (by repeat (first | exact trivial | refine ⟨rfl, ?_⟩)) (tb _ 1024 (fun _ => ?_) (fun h => by omega))
                  unfold dk_cn
                  rw [if_neg (by omega), if_neg (by omega), if_neg (by omega), if_pos c14]
                · refine xv_iload_n (pc' := 55) (i := 1) hF xd_MO_count_54 rfl rfl rfl ?_
                  refine xv_bipushN (pc' := 57) 6 hF xd_MO_count_55 (by decide +kernel) rfl ?_
                  first | refine xv_isubN (pc' := 58) hF (by omega) xd_MO_count_57 rfl ?_ | refine xv_isub (pc' := 58) hF xd_MO_count_57 rfl ?_
                  refine xv_bipushN (pc' := 60) 8 hF xd_MO_count_58 (by decide +kernel) rfl ?_
                  refine xv_callSi (pc' := 63) hF (c_MO_in K n h3 _ 8) xq_MO_in xk_MO_m52 xk_t_MO_in ⟨(Nat.le_of_ble_eq_true rfl), (Nat.le_of_ble_eq_true rfl)⟩ rfl rfl (Nat.le_of_ble_eq_true rfl) ⟨(Nat.le_of_ble_eq_true rfl), (Nat.le_of_ble_eq_true rfl)⟩ xd_MO_count_60 rfl (fun q0 n5 h5 q5 => ?_)
                  obtain ⟨rfl, rfl, rfl⟩ := q5
                  rw [x_in_nI (by omega) (by decide)]
                  have go := ih _ (by omega) (i + 1) rfl (by omega)
                  refine xv_if_eqB (pc' := 66) (tgt := 98) hF xd_MO_count_63 (by decide) rfl (fun e5 => ?_) (fun e5 => ?_)
                  · cases e5
                  · refine xv_iload_n (pc' := 67) (i := 2) hF xd_MO_count_66 rfl rfl rfl ?_
                    refine xv_aload_n (pc' := 68) (i := 0) hF xd_MO_count_67 rfl rfl rfl ?_
                    refine xv_get (pc' := 71) (ci := 6) hF (by first | assumption | exact xu_self | (refine (xu_ne (by omega)).trans ?_; first | assumption | exact xu_self | (refine (xu_ne (by omega)).trans ?_; first | assumption | exact xu_self | (refine (xu_ne (by omega)).trans ?_; first | assumption | exact xu_self | (refine (xu_ne (by omega)).trans ?_; first | assumption | exact xu_self))))) rfl xu_MO 1 (by decide) xk_MO_f7 (by rfl) xd_MO_count_68 rfl ?_
                    refine xv_sipushN (pc' := 74) 1024 hF xd_MO_count_71 (by decide +kernel) rfl ?_
                    refine xv_iload_n (pc' := 75) (i := 1) hF xd_MO_count_74 rfl rfl rfl ?_
                    refine xv_bipushN (pc' := 77) 6 hF xd_MO_count_75 (by decide +kernel) rfl ?_
                    first | refine xv_isubN (pc' := 78) hF (by omega) xd_MO_count_77 rfl ?_ | refine xv_isub (pc' := 78) hF xd_MO_count_77 rfl ?_
                    first | refine xv_imulN (pc' := 79) hF xd_MO_count_78 rfl ?_ | refine xv_imul (pc' := 79) hF xd_MO_count_78 rfl ?_
                    refine xv_iload_n (pc' := 80) (i := 3) hF xd_MO_count_79 rfl rfl rfl ?_
                    first | refine xv_iaddN (pc' := 81) hF xd_MO_count_80 rfl ?_ | refine xv_iadd (pc' := 81) hF xd_MO_count_80 rfl ?_
                    refine xv_zaldN (pc' := 82) hF (by first | assumption | exact xu_self | (refine (xu_ne (by omega)).trans ?_; first | assumption | exact xu_self | (refine (xu_ne (by omega)).trans ?_; first | assumption | exact xu_self | (refine (xu_ne (by omega)).trans ?_; first | assumption | exact xu_self | (refine (xu_ne (by omega)).trans ?_; first | assumption | exact xu_self))))) (by omega) (by decide) xd_MO_count_81 rfl ?_
                    refine xv_topi (v' := xb (E (k - 6) (i / 32) (i % 32))) (by rw [hed2 _ (by omega), show (1024 * (k - 6) + i) / 1024 = k - 6 by omega, show (1024 * (k - 6) + i) / 32 % 32 = i / 32 by omega, show (1024 * (k - 6) + i) % 32 = i % 32 by omega]) ?_
                    refine xv_if_eqB (pc' := 85) (tgt := 89) hF xd_MO_count_82 (by decide) rfl (fun e6 => ?_) (fun e6 => ?_)
                    · rw [show md_cn (E (k - 6)) (i + 1) = md_cn (E (k - 6)) i + 0 by unfold md_cn; simp only [bc_n]; simp [e6]] at go
                      refine xv_iconstN (pc' := 90) 0 hF xd_MO_count_89 (by decide +kernel) rfl ?_
                      first | refine xv_iaddN (pc' := 91) hF xd_MO_count_90 rfl ?_ | refine xv_iadd (pc' := 91) hF xd_MO_count_90 rfl ?_
                      refine xv_istore_n (pc' := 92) (i := 2) hF xd_MO_count_91 rfl (Nat.le_of_ble_eq_true rfl) rfl rfl ?_
                      first | refine xv_iincN (pc' := 95) hF xd_MO_count_92 rfl rfl (Nat.le_of_ble_eq_true rfl) rfl rfl ?_ | refine xv_iinc (pc' := 95) hF xd_MO_count_92 rfl rfl (Nat.le_of_ble_eq_true rfl) rfl rfl ?_
                      refine xv_goto (tgt := 47) hF xd_MO_count_95 (by decide) ?_
                      exact xv_loc _ (by repeat (first | exact trivial | refine ⟨rfl, ?_⟩)) go
                    · rw [show md_cn (E (k - 6)) (i + 1) = md_cn (E (k - 6)) i + 1 by unfold md_cn; simp only [bc_n]; simp [e6]] at go
                      refine xv_iconstN (pc' := 86) 1 hF xd_MO_count_85 (by decide +kernel) rfl ?_
                      refine xv_goto (tgt := 90) hF xd_MO_count_86 (by decide) ?_
                      first | refine xv_iaddN (pc' := 91) hF xd_MO_count_90 rfl ?_ | refine xv_iadd (pc' := 91) hF xd_MO_count_90 rfl ?_
                      refine xv_istore_n (pc' := 92) (i := 2) hF xd_MO_count_91 rfl (Nat.le_of_ble_eq_true rfl) rfl rfl ?_
                      first | refine xv_iincN (pc' := 95) hF xd_MO_count_92 rfl rfl (Nat.le_of_ble_eq_true rfl) rfl rfl ?_ | refine xv_iinc (pc' := 95) hF xd_MO_count_92 rfl rfl (Nat.le_of_ble_eq_true rfl) rfl rfl ?_
                      refine xv_goto (tgt := 47) hF xd_MO_count_95 (by decide) ?_
                      exact xv_loc _ (by repeat (first | exact trivial | refine ⟨rfl, ?_⟩)) go
            exact xv_loc _ (by repeat (first | exact trivial | refine ⟨rfl, ?_⟩)) (loop 1024 0 (by omega) (by omega))
          · refine xv_iload_n (pc' := 48) (i := 3) hF xd_MO_count_47 rfl rfl rfl ?_
            refine xv_sipushN (pc' := 51) 1024 hF xd_MO_count_48 (by decide +kernel) rfl ?_
            refine xv_icmp_geN (pc' := 54) (tgt := 98) hF (by omega) (by omega) xd_MO_count_51 (by decide) rfl (fun e4 => ?_) (fun e4 => ?_)
            · omega
            · refine xv_iload_n (pc' := 55) (i := 1) hF xd_MO_count_54 rfl rfl rfl ?_
              refine xv_bipushN (pc' := 57) 6 hF xd_MO_count_55 (by decide +kernel) rfl ?_
              first | refine xv_isubN (pc' := 58) hF (by omega) xd_MO_count_57 rfl ?_ | refine xv_isub (pc' := 58) hF xd_MO_count_57 rfl ?_
              refine xv_bipushN (pc' := 60) 8 hF xd_MO_count_58 (by decide +kernel) rfl ?_
              refine xv_callSi (pc' := 63) hF (c_MO_in K n h3 _ 8) xq_MO_in xk_MO_m52 xk_t_MO_in ⟨(Nat.le_of_ble_eq_true rfl), (Nat.le_of_ble_eq_true rfl)⟩ rfl rfl (Nat.le_of_ble_eq_true rfl) ⟨(Nat.le_of_ble_eq_true rfl), (Nat.le_of_ble_eq_true rfl)⟩ xd_MO_count_60 rfl (fun q0 n5 h5 q5 => ?_)
              obtain ⟨rfl, rfl, rfl⟩ := q5
              rw [x_in_no (by omega) (by omega)]
              refine xv_if_eqB (pc' := 66) (tgt := 98) hF xd_MO_count_63 (by decide) rfl (fun e5 => ?_) (fun e5 => ?_)
              · exact xv_loc _ (by repeat (first | exact trivial | refine ⟨rfl, ?_⟩)) (tb 0 0 (fun h => by omega) (fun _ => rfl))
              · cases e5
        · cases e3
    · refine xv_aload_n (pc' := 22) (i := 0) hF xd_MO_count_21 rfl rfl rfl ?_
      refine xv_get (pc' := 25) (ci := 6) hF (by first | assumption | exact xu_self | (refine (xu_ne (by omega)).trans ?_; first | assumption | exact xu_self | (refine (xu_ne (by omega)).trans ?_; first | assumption | exact xu_self | (refine (xu_ne (by omega)).trans ?_; first | assumption | exact xu_self | (refine (xu_ne (by omega)).trans ?_; first | assumption | exact xu_self))))) rfl xu_MO 5 (by decide) xk_MO_f67 (by rfl) xd_MO_count_22 rfl ?_
      refine hR _ _ _ _ _ _ _ (by omega) (by omega) ?_ xd_MO_count_25
      exact ⟨rfl, f3, by unfold dk_cn; rw [if_neg (by omega), if_pos (by omega)], ⟨_, _, _, _, _, _, _, _, _, r3⟩, r4⟩
  · refine xv_aload_n (pc' := 12) (i := 0) hF xd_MO_count_11 rfl rfl rfl ?_
    refine xv_get (pc' := 15) (ci := 6) hF (by first | assumption | exact xu_self | (refine (xu_ne (by omega)).trans ?_; first | assumption | exact xu_self | (refine (xu_ne (by omega)).trans ?_; first | assumption | exact xu_self | (refine (xu_ne (by omega)).trans ?_; first | assumption | exact xu_self | (refine (xu_ne (by omega)).trans ?_; first | assumption | exact xu_self))))) rfl xu_MO 3 (by decide) xk_MO_f64 (by rfl) xd_MO_count_12 rfl ?_
    refine hR _ _ _ _ _ _ _ (by omega) (by omega) ?_ xd_MO_count_15
    exact ⟨rfl, f3, by unfold dk_cn; rw [if_pos (by omega)], ⟨_, _, _, _, _, _, _, _, _, r3⟩, r4⟩
