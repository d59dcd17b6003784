/-! the reference: questions -/
set_option maxHeartbeats 4000000 in
set_option maxRecDepth 100000 in
theorem c_MO_circle (K : xK) (n : Nat) (h : xH) (p th ma w : Nat) (E : Nat → Nat → Nat → Bool) (Tg : Nat → Nat → Bool) (cs : Nat → Nat) (TX : Nat → Nat → Nat) (SZ SX : Nat → Nat) (s : Nat) (os : List Nat) (r : mo_W K h p th ma w E Tg cs TX SZ SX) (hs4 : s < 4) (hsl : sl_T (TX s) (SZ s) os) : XM K xy_MO_circle xw_MO_circle (xrm 8 162 0 0) [.ref p, .int (nI s)] n h (x_pi fun r n' h' => n = n' ∧ mw_fr p h h' ∧ mo_W K h' p 0 (ma) w (E) (Tg) (cs) (TX) (SZ) (SX) ∧ ∃ M, pd_mn (oA E Tg os 0) M ∧ md_fst (fun i => M i i < 1000000) r) 0 0 := by
  obtain ⟨⟨ln, at_, f, op, mk, tx, S, so, ba, r1⟩, r2⟩ := id r
  have ho := r1.1
  refine xm_i (by decide +kernel) (Nat.le_of_ble_eq_true rfl) (fun G hF hR => ?_)
  refine xv_aload_n (pc' := 1) (i := 0) hF xd_MO_circle_0 rfl rfl rfl ?_
  refine xv_iload_n (pc' := 2) (i := 1) hF xd_MO_circle_1 rfl rfl rfl ?_
  refine xv_iconstN (pc' := 3) 4 hF xd_MO_circle_2 (by decide +kernel) rfl ?_
  refine xv_callSi (pc' := 6) hF (c_MO_in K n h _ 4) xq_MO_in xk_MO_m52 xk_t_MO_in ⟨(Nat.le_of_ble_eq_true rfl), (Nat.le_of_ble_eq_true rfl)⟩ rfl rfl (Nat.le_of_ble_eq_true rfl) ⟨(Nat.le_of_ble_eq_true rfl), (Nat.le_of_ble_eq_true rfl)⟩ xd_MO_circle_3 rfl (fun q0 n1 h1 q1 => ?_)
  obtain ⟨rfl, rfl, rfl⟩ := q1
  rw [x_in_nI hs4 (by decide)]
  refine xv_if_neB (pc' := 9) (tgt := 13) hF xd_MO_circle_6 (by decide) rfl (fun e1 => ?_) (fun e1 => ?_)
  · refine xv_iconstN (pc' := 14) 0 hF xd_MO_circle_13 (by decide +kernel) rfl ?_
    refine xv_topi (v' := xb false) (by decide +kernel) ?_
    refine xv_iconstN (pc' := 15) 0 hF xd_MO_circle_14 (by decide +kernel) rfl ?_
    refine xv_topi (v' := xb false) (by decide +kernel) ?_
    refine xv_callVi (pc' := 18) (ci := 6) hF (c_MO_fails K n h p th ma w ln at_ f op mk false false ho) xq_MO_fails xk_MO_m56 xk_i_MO_fails xk_s_MO_fails (by first | assumption | exact xu_self | (refine (xu_ne (by omega)).trans ?_; first | assumption | exact xu_self | (refine (xu_ne (by omega)).trans ?_; first | assumption | exact xu_self | (refine (xu_ne (by omega)).trans ?_; first | assumption | exact xu_self | (refine (xu_ne (by omega)).trans ?_; first | assumption | exact xu_self))))) rfl ⟨(Nat.le_of_ble_eq_true rfl), (Nat.le_of_ble_eq_true rfl)⟩ rfl rfl (Nat.le_of_ble_eq_true rfl) ⟨(Nat.le_of_ble_eq_true rfl), (Nat.le_of_ble_eq_true rfl)⟩ xd_MO_circle_15 rfl (fun q0 n1 h1 q1 => ?_)
    obtain ⟨rfl, rfl, rfl⟩ := q1
    have r3 := r1.mm (th' := 0) (ma' := ma) (sz' := w)
    have f3 : mw_fr p h (xu h p (.inr (6, [.int (nI 0), .ref (p + 1), .ref (p + 2), .int (nI ma), .ref (p + 3), .int (nI w), .ref (p + 4), .ref (p + 5), .ref (p + 6), .ref (p + 7), .int (nI ln), .int (nI at_), .int (xm1 f), .int (xb mk), .ref (p + 8), .ref (p + 9), .ref (p + 10), .int (nI op), .ref (p + 11), .ref (p + 12)]))) := mw_fr.rf.x (by omega)
    have r4 : mw_X K (xu h p (.inr (6, [.int (nI 0), .ref (p + 1), .ref (p + 2), .int (nI ma), .ref (p + 3), .int (nI w), .ref (p + 4), .ref (p + 5), .ref (p + 6), .ref (p + 7), .int (nI ln), .int (nI at_), .int (xm1 f), .int (xb mk), .ref (p + 8), .ref (p + 9), .ref (p + 10), .int (nI op), .ref (p + 11), .ref (p + 12)]))) p cs w TX SZ SX := r2.keep (fun q a1 _ _ _ _ _ _ => xu_ne a1)
    simp only [Bool.false_eq_true, if_false, Bool.or_false]
    generalize xu h p (.inr (6, [.int (nI 0), .ref (p + 1), .ref (p + 2), .int (nI ma), .ref (p + 3), .int (nI w), .ref (p + 4), .ref (p + 5), .ref (p + 6), .ref (p + 7), .int (nI ln), .int (nI at_), .int (xm1 f), .int (xb mk), .ref (p + 8), .ref (p + 9), .ref (p + 10), .int (nI op), .ref (p + 11), .ref (p + 12)])) = h3 at r3 f3 r4 ⊢
    clear ho
    have ho := r3.1
    refine xv_if_eqB (pc' := 21) (tgt := 23) hF xd_MO_circle_18 (by decide) rfl (fun e2 => ?_) (fun e2 => ?_)
    · refine xv_aload_n (pc' := 24) (i := 0) hF xd_MO_circle_23 rfl rfl rfl ?_
      refine xv_iload_n (pc' := 25) (i := 1) hF xd_MO_circle_24 rfl rfl rfl ?_
      refine xv_aload_n (pc' := 26) (i := 0) hF xd_MO_circle_25 rfl rfl rfl ?_
      refine xv_get (pc' := 29) (ci := 6) hF (by first | assumption | exact xu_self | (refine (xu_ne (by omega)).trans ?_; first | assumption | exact xu_self | (refine (xu_ne (by omega)).trans ?_; first | assumption | exact xu_self | (refine (xu_ne (by omega)).trans ?_; first | assumption | exact xu_self | (refine (xu_ne (by omega)).trans ?_; first | assumption | exact xu_self))))) rfl xu_MO 18 (by decide) xk_MO_f42 (by rfl) xd_MO_circle_26 rfl ?_
      refine xv_callVv (pc' := 32) (ci := 6) hF (c_MO_lengths K n h3 p 0 ma w E Tg cs TX SZ SX s (p + 11) os ⟨⟨_, _, _, _, _, _, _, _, _, r3⟩, r4⟩ hs4 (Or.inl rfl) hsl) xq_MO_lengths xk_MO_m166 xk_i_MO_lengths xk_s_MO_lengths (by first | assumption | exact xu_self | (refine (xu_ne (by omega)).trans ?_; first | assumption | exact xu_self | (refine (xu_ne (by omega)).trans ?_; first | assumption | exact xu_self | (refine (xu_ne (by omega)).trans ?_; first | assumption | exact xu_self | (refine (xu_ne (by omega)).trans ?_; first | assumption | exact xu_self))))) rfl ⟨(Nat.le_of_ble_eq_true rfl), (Nat.le_of_ble_eq_true rfl)⟩ rfl rfl (Nat.le_of_ble_eq_true rfl) ⟨(Nat.le_of_ble_eq_true rfl), (Nat.le_of_ble_eq_true rfl)⟩ xd_MO_circle_29 rfl (fun n5 h5 q5 => ?_)
      obtain ⟨rfl, f5, w5, ⟨S5, so5, ba5, ln5, at5, f5', op5, tx5, r5⟩, af, M, ha, hM, hmn⟩ := q5
      have f6 : mw_fr p h h5 := f3.tr (fun q c => f5 q (by omega) (by omega))
      clear ho
      have ho := r5.1
      have hb : ∀ z, z < 1024 → M (z / 32) (z % 32) ≤ 1000000 := fun z hz => (hmn _ _ (by omega) (by omega)).1
      refine xv_iconstN (pc' := 33) 0 hF xd_MO_circle_32 (by decide +kernel) rfl ?_
      refine xv_istore_n (pc' := 34) (i := 2) hF xd_MO_circle_33 rfl (Nat.le_of_ble_eq_true rfl) rfl rfl ?_
      have loop : ∀ d k, 32 - k = d → k ≤ 32 → (∀ j, j < k → ¬ M j j < 1000000) → XV G (0 + 0 + 0 + 0) (0 + 0 + 0 + 0) 34 [(2, .int (nI k)), (0, .ref p), (1, .int (nI s))] [] n h5 := by
        intro d
        induction d using Nat.strongRecOn with
        | ind d ih =>
          intro k hd hk hv
          refine xv_iload_n (pc' := 35) (i := 2) hF xd_MO_circle_34 rfl rfl rfl ?_
          refine xv_bipushN (pc' := 37) 32 hF xd_MO_circle_35 (by decide +kernel) rfl ?_
          refine xv_icmp_geN (pc' := 40) (tgt := 62) hF (by omega) (by omega) xd_MO_circle_37 (by decide) rfl (fun e3 => ?_) (fun e3 => ?_)
          · have : k = 32 := by omega
            subst this
            refine xv_iconst (pc' := 63) (v := -1) hF xd_MO_circle_62 (by decide +kernel) rfl ?_
            refine hR _ _ _ _ _ _ _ (by omega) (by omega) ?_ xd_MO_circle_63
            exact ⟨rfl, f6, w5, M, hmn, Or.inr ⟨hv, rfl⟩⟩
          · have hz := hM (k * 33) (by omega)
            have hz2 := hb (k * 33) (by omega)
            rw [show k * 33 / 32 = k by omega, show k * 33 % 32 = k by omega] at hz hz2
            refine xv_aload_n (pc' := 41) (i := 0) hF xd_MO_circle_40 rfl rfl rfl ?_
            refine xv_get (pc' := 44) (ci := 6) hF (by first | assumption | exact xu_self | (refine (xu_ne (by omega)).trans ?_; first | assumption | exact xu_self | (refine (xu_ne (by omega)).trans ?_; first | assumption | exact xu_self | (refine (xu_ne (by omega)).trans ?_; first | assumption | exact xu_self | (refine (xu_ne (by omega)).trans ?_; first | assumption | exact xu_self))))) rfl xu_MO 18 (by decide) xk_MO_f42 (by rfl) xd_MO_circle_41 rfl ?_
            refine xv_iload_n (pc' := 45) (i := 2) hF xd_MO_circle_44 rfl rfl rfl ?_
            refine xv_bipushN (pc' := 47) 33 hF xd_MO_circle_45 (by decide +kernel) rfl ?_
            first | refine xv_imulN (pc' := 48) hF xd_MO_circle_47 rfl ?_ | refine xv_imul (pc' := 48) hF xd_MO_circle_47 rfl ?_
            first | refine xv_ialdN (pc' := 49) hF (by first | assumption | exact xu_self | (refine (xu_ne (by omega)).trans ?_; first | assumption | exact xu_self | (refine (xu_ne (by omega)).trans ?_; first | assumption | exact xu_self | (refine (xu_ne (by omega)).trans ?_; first | assumption | exact xu_self | (refine (xu_ne (by omega)).trans ?_; first | assumption | exact xu_self))))) (by omega) (by decide) xd_MO_circle_48 rfl ?_ | refine xv_iald (pc' := 49) hF (by first | assumption | exact xu_self | (refine (xu_ne (by omega)).trans ?_; first | assumption | exact xu_self | (refine (xu_ne (by omega)).trans ?_; first | assumption | exact xu_self | (refine (xu_ne (by omega)).trans ?_; first | assumption | exact xu_self | (refine (xu_ne (by omega)).trans ?_; first | assumption | exact xu_self))))) (by omega) xd_MO_circle_48 rfl ?_
            refine xv_topi hz ?_
            refine xv_ldc (pc' := 51) hF xk_MO_k96 xd_MO_circle_49 rfl ?_
            refine xv_topi (v' := nI 1000000) (by decide +kernel) ?_
            refine xv_icmp_geN (pc' := 54) (tgt := 56) hF (by omega) (by omega) xd_MO_circle_51 (by decide) rfl (fun e4 => ?_) (fun e4 => ?_)
            · first | refine xv_iincN (pc' := 59) hF xd_MO_circle_56 rfl rfl (Nat.le_of_ble_eq_true rfl) rfl rfl ?_ | refine xv_iinc (pc' := 59) hF xd_MO_circle_56 rfl rfl (Nat.le_of_ble_eq_true rfl) rfl rfl ?_
              refine xv_goto (tgt := 34) hF xd_MO_circle_59 (by decide) ?_
              refine xv_loc _ (by repeat (first | exact trivial | refine ⟨rfl, ?_⟩)) (ih _ (by omega) (k + 1) rfl (by omega) (fun j hj => ?_))
              by_cases c : j = k
              · subst c; omega
              · exact hv j (by omega)
            · refine xv_iload_n (pc' := 55) (i := 2) hF xd_MO_circle_54 rfl rfl rfl ?_
              refine hR _ _ _ _ _ _ _ (by omega) (by omega) ?_ xd_MO_circle_55
              exact ⟨rfl, f6, w5, M, hmn, Or.inl ⟨k, e3, e4, hv, rfl⟩⟩
      exact xv_loc _ (by repeat (first | exact trivial | refine ⟨rfl, ?_⟩)) (loop 32 0 (by omega) (by omega) (fun j hj => absurd hj (Nat.not_lt_zero _)))
    · cases e2
  · cases e1
set_option maxHeartbeats 4000000 in
set_option maxRecDepth 100000 in
theorem c_MO_best (K : xK) (n : Nat) (h : xH) (p th ma w : Nat) (E : Nat → Nat → Nat → Bool) (Tg : Nat → Nat → Bool) (cs : Nat → Nat) (TX : Nat → Nat → Nat) (SZ SX : Nat → Nat) (s : Nat) (os : List Nat) (r : mo_W K h p th ma w E Tg cs TX SZ SX) (hs4 : s < 4) (hsl : sl_T (TX s) (SZ s) os) : XM K xy_MO_best xw_MO_best (xrm 8 162 0 0) [.ref p, .int (nI s)] n h (x_pi fun r n' h' => n = n' ∧ mw_fr p h h' ∧ mo_W K h' p 0 (ma) w (E) (Tg) (cs) (TX) (SZ) (SX) ∧ ∃ M, pd_mn (oA E Tg os 0) M ∧ r = xm1 (md_be M 32).1) 0 0 := by
  obtain ⟨⟨ln, at_, f, op, mk, tx, S, so, ba, r1⟩, r2⟩ := id r
  have ho := r1.1
  refine xm_i (by decide +kernel) (Nat.le_of_ble_eq_true rfl) (fun G hF hR => ?_)
  refine xv_aload_n (pc' := 1) (i := 0) hF xd_MO_best_0 rfl rfl rfl ?_
  refine xv_iload_n (pc' := 2) (i := 1) hF xd_MO_best_1 rfl rfl rfl ?_
  refine xv_iconstN (pc' := 3) 4 hF xd_MO_best_2 (by decide +kernel) rfl ?_
  refine xv_callSi (pc' := 6) hF (c_MO_in K n h _ 4) xq_MO_in xk_MO_m52 xk_t_MO_in ⟨(Nat.le_of_ble_eq_true rfl), (Nat.le_of_ble_eq_true rfl)⟩ rfl rfl (Nat.le_of_ble_eq_true rfl) ⟨(Nat.le_of_ble_eq_true rfl), (Nat.le_of_ble_eq_true rfl)⟩ xd_MO_best_3 rfl (fun q0 n1 h1 q1 => ?_)
  obtain ⟨rfl, rfl, rfl⟩ := q1
  rw [x_in_nI hs4 (by decide)]
  refine xv_if_neB (pc' := 9) (tgt := 13) hF xd_MO_best_6 (by decide) rfl (fun e1 => ?_) (fun e1 => ?_)
  · refine xv_iconstN (pc' := 14) 0 hF xd_MO_best_13 (by decide +kernel) rfl ?_
    refine xv_topi (v' := xb false) (by decide +kernel) ?_
    refine xv_iconstN (pc' := 15) 0 hF xd_MO_best_14 (by decide +kernel) rfl ?_
    refine xv_topi (v' := xb false) (by decide +kernel) ?_
    refine xv_callVi (pc' := 18) (ci := 6) hF (c_MO_fails K n h p th ma w ln at_ f op mk false false ho) xq_MO_fails xk_MO_m56 xk_i_MO_fails xk_s_MO_fails (by first | assumption | exact xu_self | (refine (xu_ne (by omega)).trans ?_; first | assumption | exact xu_self | (refine (xu_ne (by omega)).trans ?_; first | assumption | exact xu_self | (refine (xu_ne (by omega)).trans ?_; first | assumption | exact xu_self | (refine (xu_ne (by omega)).trans ?_; first | assumption | exact xu_self))))) rfl ⟨(Nat.le_of_ble_eq_true rfl), (Nat.le_of_ble_eq_true rfl)⟩ rfl rfl (Nat.le_of_ble_eq_true rfl) ⟨(Nat.le_of_ble_eq_true rfl), (Nat.le_of_ble_eq_true rfl)⟩ xd_MO_best_15 rfl (fun q0 n1 h1 q1 => ?_)
    obtain ⟨rfl, rfl, rfl⟩ := q1
    have r3 := r1.mm (th' := 0) (ma' := ma) (sz' := w)
    have f3 : mw_fr p h (xu h p (.inr (6, [.int (nI 0), .ref (p + 1), .ref (p + 2), .int (nI ma), .ref (p + 3), .int (nI w), .ref (p + 4), .ref (p + 5), .ref (p + 6), .ref (p + 7), .int (nI ln), .int (nI at_), .int (xm1 f), .int (xb mk), .ref (p + 8), .ref (p + 9), .ref (p + 10), .int (nI op), .ref (p + 11), .ref (p + 12)]))) := mw_fr.rf.x (by omega)
    have r4 : mw_X K (xu h p (.inr (6, [.int (nI 0), .ref (p + 1), .ref (p + 2), .int (nI ma), .ref (p + 3), .int (nI w), .ref (p + 4), .ref (p + 5), .ref (p + 6), .ref (p + 7), .int (nI ln), .int (nI at_), .int (xm1 f), .int (xb mk), .ref (p + 8), .ref (p + 9), .ref (p + 10), .int (nI op), .ref (p + 11), .ref (p + 12)]))) p cs w TX SZ SX := r2.keep (fun q a1 _ _ _ _ _ _ => xu_ne a1)
    simp only [Bool.false_eq_true, if_false, Bool.or_false]
    generalize xu h p (.inr (6, [.int (nI 0), .ref (p + 1), .ref (p + 2), .int (nI ma), .ref (p + 3), .int (nI w), .ref (p + 4), .ref (p + 5), .ref (p + 6), .ref (p + 7), .int (nI ln), .int (nI at_), .int (xm1 f), .int (xb mk), .ref (p + 8), .ref (p + 9), .ref (p + 10), .int (nI op), .ref (p + 11), .ref (p + 12)])) = h3 at r3 f3 r4 ⊢
    clear ho
    have ho := r3.1
    refine xv_if_eqB (pc' := 21) (tgt := 23) hF xd_MO_best_18 (by decide) rfl (fun e2 => ?_) (fun e2 => ?_)
    · refine xv_aload_n (pc' := 24) (i := 0) hF xd_MO_best_23 rfl rfl rfl ?_
      refine xv_iload_n (pc' := 25) (i := 1) hF xd_MO_best_24 rfl rfl rfl ?_
      refine xv_aload_n (pc' := 26) (i := 0) hF xd_MO_best_25 rfl rfl rfl ?_
      refine xv_get (pc' := 29) (ci := 6) hF (by first | assumption | exact xu_self | (refine (xu_ne (by omega)).trans ?_; first | assumption | exact xu_self | (refine (xu_ne (by omega)).trans ?_; first | assumption | exact xu_self | (refine (xu_ne (by omega)).trans ?_; first | assumption | exact xu_self | (refine (xu_ne (by omega)).trans ?_; first | assumption | exact xu_self))))) rfl xu_MO 18 (by decide) xk_MO_f42 (by rfl) xd_MO_best_26 rfl ?_
      refine xv_callVv (pc' := 32) (ci := 6) hF (c_MO_lengths K n h3 p 0 ma w E Tg cs TX SZ SX s (p + 11) os ⟨⟨_, _, _, _, _, _, _, _, _, r3⟩, r4⟩ hs4 (Or.inl rfl) hsl) xq_MO_lengths xk_MO_m166 xk_i_MO_lengths xk_s_MO_lengths (by first | assumption | exact xu_self | (refine (xu_ne (by omega)).trans ?_; first | assumption | exact xu_self | (refine (xu_ne (by omega)).trans ?_; first | assumption | exact xu_self | (refine (xu_ne (by omega)).trans ?_; first | assumption | exact xu_self | (refine (xu_ne (by omega)).trans ?_; first | assumption | exact xu_self))))) rfl ⟨(Nat.le_of_ble_eq_true rfl), (Nat.le_of_ble_eq_true rfl)⟩ rfl rfl (Nat.le_of_ble_eq_true rfl) ⟨(Nat.le_of_ble_eq_true rfl), (Nat.le_of_ble_eq_true rfl)⟩ xd_MO_best_29 rfl (fun n5 h5 q5 => ?_)
      obtain ⟨rfl, f5, w5, ⟨S5, so5, ba5, ln5, at5, f5', op5, tx5, r5⟩, af, M, ha, hM, hmn⟩ := q5
      have f6 : mw_fr p h h5 := f3.tr (fun q c => f5 q (by omega) (by omega))
      clear ho
      have ho := r5.1
      have hb : ∀ z, z < 1024 → M (z / 32) (z % 32) ≤ 1000000 := fun z hz => (hmn _ _ (by omega) (by omega)).1
      refine xv_iconst (pc' := 33) (v := -1) hF xd_MO_best_32 (by decide +kernel) rfl ?_
      refine xv_istore_n (pc' := 34) (i := 2) hF xd_MO_best_33 rfl (Nat.le_of_ble_eq_true rfl) rfl rfl ?_
      refine xv_iconstN (pc' := 35) 0 hF xd_MO_best_34 (by decide +kernel) rfl ?_
      refine xv_istore_n (pc' := 36) (i := 3) hF xd_MO_best_35 rfl (Nat.le_of_ble_eq_true rfl) rfl rfl ?_
      refine xv_iconstN (pc' := 37) 0 hF xd_MO_best_36 (by decide +kernel) rfl ?_
      refine xv_istore (pc' := 39) hF xd_MO_best_37 (Nat.le_of_ble_eq_true rfl) rfl rfl ?_
      have loop : ∀ d k, 32 - k = d → k ≤ 32 → XV G (0 + 0 + 0 + 0) (0 + 0 + 0 + 0) 39 [(4, .int (nI k)), (3, .int (nI (md_be M k).2)), (2, .int (xm1 (md_be M k).1)), (0, .ref p), (1, .int (nI s))] [] n h5 := by
        intro d
        induction d using Nat.strongRecOn with
        | ind d ih =>
          intro k hd hk
          have hle := md_be_le M k
          refine xv_iload (pc' := 41) hF xd_MO_best_39 rfl rfl ?_
          refine xv_bipushN (pc' := 43) 32 hF xd_MO_best_41 (by decide +kernel) rfl ?_
          refine xv_icmp_geN (pc' := 46) (tgt := 114) hF (by omega) (by omega) xd_MO_best_43 (by decide) rfl (fun e3 => ?_) (fun e3 => ?_)
          · have : k = 32 := by omega
            subst this
            refine xv_iload_n (pc' := 115) (i := 2) hF xd_MO_best_114 rfl rfl rfl ?_
            refine hR _ _ _ _ _ _ _ (by omega) (by omega) ?_ xd_MO_best_115
            exact ⟨rfl, f6, w5, M, hmn, rfl⟩
          · refine xv_iconstN (pc' := 47) 0 hF xd_MO_best_46 (by decide +kernel) rfl ?_
            refine xv_istore (pc' := 49) hF xd_MO_best_47 (Nat.le_of_ble_eq_true rfl) rfl rfl ?_
            refine xv_iconstN (pc' := 50) 0 hF xd_MO_best_49 (by decide +kernel) rfl ?_
            refine xv_istore (pc' := 52) hF xd_MO_best_50 (Nat.le_of_ble_eq_true rfl) rfl rfl ?_
            have loop2 : ∀ d2 j, 32 - j = d2 → j ≤ 32 → XV G (0 + 0 + 0 + 0) (0 + 0 + 0 + 0) 52 [(6, .int (nI j)), (5, .int (nI (bc_n (fun j => decide (M k j < 1000000)) j))), (4, .int (nI k)), (3, .int (nI (md_be M k).2)), (2, .int (xm1 (md_be M k).1)), (0, .ref p), (1, .int (nI s))] [] n h5 := by
              intro d2
              induction d2 using Nat.strongRecOn with
              | ind d2 ih2 =>
                intro j hd2 hj
                have hbn := bc_le (fun j => decide (M k j < 1000000)) j
                refine xv_iload (pc' := 54) hF xd_MO_best_52 rfl rfl ?_
                refine xv_bipushN (pc' := 56) 32 hF xd_MO_best_54 (by decide +kernel) rfl ?_
                refine xv_icmp_geN (pc' := 59) (tgt := 93) hF (by omega) (by omega) xd_MO_best_56 (by decide) rfl (fun e4 => ?_) (fun e4 => ?_)
                · have : j = 32 := by omega
                  subst this
                  refine xv_iload (pc' := 95) hF xd_MO_best_93 rfl rfl ?_
                  refine xv_iload_n (pc' := 96) (i := 3) hF xd_MO_best_95 rfl rfl rfl ?_
                  refine xv_icmp_gtN (pc' := 99) (tgt := 102) hF (by omega) (by omega) xd_MO_best_96 (by decide) rfl (fun e5 => ?_) (fun e5 => ?_)
                  · refine xv_iload (pc' := 104) hF xd_MO_best_102 rfl rfl ?_
                    refine xv_istore_n (pc' := 105) (i := 3) hF xd_MO_best_104 rfl (Nat.le_of_ble_eq_true rfl) rfl rfl ?_
                    refine xv_iload (pc' := 107) hF xd_MO_best_105 rfl rfl ?_
                    refine xv_istore_n (pc' := 108) (i := 2) hF xd_MO_best_107 rfl (Nat.le_of_ble_eq_true rfl) rfl rfl ?_
                    first | refine xv_iincN (pc' := 111) hF xd_MO_best_108 rfl rfl (Nat.le_of_ble_eq_true rfl) rfl rfl ?_ | refine xv_iinc (pc' := 111) hF xd_MO_best_108 rfl rfl (Nat.le_of_ble_eq_true rfl) rfl rfl ?_
                    refine xv_goto (tgt := 39) hF xd_MO_best_111 (by decide) ?_
                    have e9 : md_be M (k + 1) = (k + 1, bc_n (fun j => decide (M k j < 1000000)) 32) := by
                      show (if _ then _ else _) = _
                      rw [if_pos e5]
                    have := ih _ (by omega) (k + 1) rfl (by omega)
                    rw [e9, xm1_s] at this
                    exact xv_loc _ (by repeat (first | exact trivial | refine ⟨rfl, ?_⟩)) this
                  · refine xv_goto (tgt := 108) hF xd_MO_best_99 (by decide) ?_
                    first | refine xv_iincN (pc' := 111) hF xd_MO_best_108 rfl rfl (Nat.le_of_ble_eq_true rfl) rfl rfl ?_ | refine xv_iinc (pc' := 111) hF xd_MO_best_108 rfl rfl (Nat.le_of_ble_eq_true rfl) rfl rfl ?_
                    refine xv_goto (tgt := 39) hF xd_MO_best_111 (by decide) ?_
                    have e9 : md_be M (k + 1) = md_be M k := by
                      show (if _ then _ else _) = _
                      rw [if_neg (by omega)]
                    have := ih _ (by omega) (k + 1) rfl (by omega)
                    rw [e9] at this
                    exact xv_loc _ (by repeat (first | exact trivial | refine ⟨rfl, ?_⟩)) this
                · have hz := hM (32 * k + j) (by omega)
                  have hz2 := hb (32 * k + j) (by omega)
                  rw [show (32 * k + j) / 32 = k by omega, show (32 * k + j) % 32 = j by omega] at hz hz2
                  have nx : bc_n (fun j => decide (M k j < 1000000)) (j + 1) = bc_n (fun j => decide (M k j < 1000000)) j + if M k j < 1000000 then 1 else 0 := by
                    simp only [bc_n, decide_eq_true_eq]
                  have := ih2 _ (by omega) (j + 1) rfl (by omega)
                  rw [nx] at this
                  refine xv_iload (pc' := 61) hF xd_MO_best_59 rfl rfl ?_
                  refine xv_aload_n (pc' := 62) (i := 0) hF xd_MO_best_61 rfl rfl rfl ?_
                  refine xv_get (pc' := 65) (ci := 6) hF (by first | assumption | exact xu_self | (refine (xu_ne (by omega)).trans ?_; first | assumption | exact xu_self | (refine (xu_ne (by omega)).trans ?_; first | assumption | exact xu_self | (refine (xu_ne (by omega)).trans ?_; first | assumption | exact xu_self | (refine (xu_ne (by omega)).trans ?_; first | assumption | exact xu_self))))) rfl xu_MO 18 (by decide) xk_MO_f42 (by rfl) xd_MO_best_62 rfl ?_
                  refine xv_bipushN (pc' := 67) 32 hF xd_MO_best_65 (by decide +kernel) rfl ?_
                  refine xv_iload (pc' := 69) hF xd_MO_best_67 rfl rfl ?_
                  first | refine xv_imulN (pc' := 70) hF xd_MO_best_69 rfl ?_ | refine xv_imul (pc' := 70) hF xd_MO_best_69 rfl ?_
                  refine xv_iload (pc' := 72) hF xd_MO_best_70 rfl rfl ?_
                  first | refine xv_iaddN (pc' := 73) hF xd_MO_best_72 rfl ?_ | refine xv_iadd (pc' := 73) hF xd_MO_best_72 rfl ?_
                  first | refine xv_ialdN (pc' := 74) hF (by first | assumption | exact xu_self | (refine (xu_ne (by omega)).trans ?_; first | assumption | exact xu_self | (refine (xu_ne (by omega)).trans ?_; first | assumption | exact xu_self | (refine (xu_ne (by omega)).trans ?_; first | assumption | exact xu_self | (refine (xu_ne (by omega)).trans ?_; first | assumption | exact xu_self))))) (by omega) (by decide) xd_MO_best_73 rfl ?_ | refine xv_iald (pc' := 74) hF (by first | assumption | exact xu_self | (refine (xu_ne (by omega)).trans ?_; first | assumption | exact xu_self | (refine (xu_ne (by omega)).trans ?_; first | assumption | exact xu_self | (refine (xu_ne (by omega)).trans ?_; first | assumption | exact xu_self | (refine (xu_ne (by omega)).trans ?_; first | assumption | exact xu_self))))) (by omega) xd_MO_best_73 rfl ?_
                  refine xv_topi hz ?_
                  refine xv_ldc (pc' := 76) hF xk_MO_k96 xd_MO_best_74 rfl ?_
                  refine xv_topi (v' := nI 1000000) (by decide +kernel) ?_
                  refine xv_icmp_geN (pc' := 79) (tgt := 83) hF (by omega) (by omega) xd_MO_best_76 (by decide) rfl (fun e5 => ?_) (fun e5 => ?_)
                  · rw [if_neg (by omega)] at this
                    refine xv_iconstN (pc' := 84) 0 hF xd_MO_best_83 (by decide +kernel) rfl ?_
                    first | refine xv_iaddN (pc' := 85) hF xd_MO_best_84 rfl ?_ | refine xv_iadd (pc' := 85) hF xd_MO_best_84 rfl ?_
                    refine xv_istore (pc' := 87) hF xd_MO_best_85 (Nat.le_of_ble_eq_true rfl) rfl rfl ?_
                    first | refine xv_iincN (pc' := 90) hF xd_MO_best_87 rfl rfl (Nat.le_of_ble_eq_true rfl) rfl rfl ?_ | refine xv_iinc (pc' := 90) hF xd_MO_best_87 rfl rfl (Nat.le_of_ble_eq_true rfl) rfl rfl ?_
                    refine xv_goto (tgt := 52) hF xd_MO_best_90 (by decide) ?_
                    exact xv_loc _ (by repeat (first | exact trivial | refine ⟨rfl, ?_⟩)) this
                  · rw [if_pos e5] at this
                    refine xv_iconstN (pc' := 80) 1 hF xd_MO_best_79 (by decide +kernel) rfl ?_
                    refine xv_goto (tgt := 84) hF xd_MO_best_80 (by decide) ?_
                    first | refine xv_iaddN (pc' := 85) hF xd_MO_best_84 rfl ?_ | refine xv_iadd (pc' := 85) hF xd_MO_best_84 rfl ?_
                    refine xv_istore (pc' := 87) hF xd_MO_best_85 (Nat.le_of_ble_eq_true rfl) rfl rfl ?_
                    first | refine xv_iincN (pc' := 90) hF xd_MO_best_87 rfl rfl (Nat.le_of_ble_eq_true rfl) rfl rfl ?_ | refine xv_iinc (pc' := 90) hF xd_MO_best_87 rfl rfl (Nat.le_of_ble_eq_true rfl) rfl rfl ?_
                    refine xv_goto (tgt := 52) hF xd_MO_best_90 (by decide) ?_
                    exact xv_loc _ (by repeat (first | exact trivial | refine ⟨rfl, ?_⟩)) this
            exact xv_loc _ (by repeat (first | exact trivial | refine ⟨rfl, ?_⟩)) (loop2 32 0 (by omega) (by omega))
      exact xv_loc _ (by repeat (first | exact trivial | refine ⟨rfl, ?_⟩)) (loop 32 0 (by omega) (by omega))
    · cases e2
  · cases e1
