set_option maxHeartbeats 4000000 in
set_option maxRecDepth 100000 in
theorem c_MO_cut (K : xK) (n : Nat) (h : xH) (p th ma w : Nat) (E : Nat → Nat → Nat → Bool) (Tg : Nat → Nat → Bool) (cs : Nat → Nat) (TX : Nat → Nat → Nat) (SZ SX : Nat → Nat) (i l j : Nat) (r : mo_W K h p th ma w E Tg cs TX SZ SX) (hi : i < 32) (hl : l < 8) (hj : j < 32) (hma : E l i j = true → 1 ≤ ma) : XM K xy_MO_cut xw_MO_cut (xrm 1 22 0 0) [.ref p, .int (nI i), .int (nI l), .int (nI j)] n h (x_pi fun r n' h' => n = n' ∧ mw_fr p h h' ∧ r = xb (E l i j) ∧ mo_W K h' p 0 (ma - (if E l i j then 1 else 0)) w (ed_set E l i j false) (Tg) (cs) (TX) (SZ) (SX)) 0 0 := by
  obtain ⟨⟨ln, at_, f, op, mk, tx, S, so, ba, r1⟩, r2⟩ := id r
  have ho := r1.1
  refine xm_z (by decide +kernel) (Nat.le_of_ble_eq_true rfl) (fun G hF hR => ?_)
  refine xv_aload_n (pc' := 1) (i := 0) hF xd_MO_cut_0 rfl rfl rfl ?_
  refine xv_iload_n (pc' := 2) (i := 1) hF xd_MO_cut_1 rfl rfl rfl ?_
  refine xv_bipushN (pc' := 4) 32 hF xd_MO_cut_2 (by decide +kernel) rfl ?_
  refine xv_callSi (pc' := 7) hF (c_MO_in K n h _ 32) xq_MO_in xk_MO_m52 xk_t_MO_in ⟨(Nat.le_of_ble_eq_true rfl), (Nat.le_of_ble_eq_true rfl)⟩ rfl rfl (Nat.le_of_ble_eq_true rfl) ⟨(Nat.le_of_ble_eq_true rfl), (Nat.le_of_ble_eq_true rfl)⟩ xd_MO_cut_4 rfl (fun q0 n1 h1 q1 => ?_)
  obtain ⟨rfl, rfl, rfl⟩ := q1
  rw [x_in_nI hi (by decide)]
  refine xv_if_eqB (pc' := 10) (tgt := 28) hF xd_MO_cut_7 (by decide) rfl (fun e1 => ?_) (fun e1 => ?_)
  · cases e1
  · refine xv_iload_n (pc' := 11) (i := 2) hF xd_MO_cut_10 rfl rfl rfl ?_
    refine xv_bipushN (pc' := 13) 8 hF xd_MO_cut_11 (by decide +kernel) rfl ?_
    refine xv_callSi (pc' := 16) hF (c_MO_in K n h _ 8) xq_MO_in xk_MO_m52 xk_t_MO_in ⟨(Nat.le_of_ble_eq_true rfl), (Nat.le_of_ble_eq_true rfl)⟩ rfl rfl (Nat.le_of_ble_eq_true rfl) ⟨(Nat.le_of_ble_eq_true rfl), (Nat.le_of_ble_eq_true rfl)⟩ xd_MO_cut_13 rfl (fun q0 n1 h1 q1 => ?_)
    obtain ⟨rfl, rfl, rfl⟩ := q1
    rw [x_in_nI hl (by decide)]
    refine xv_if_eqB (pc' := 19) (tgt := 28) hF xd_MO_cut_16 (by decide) rfl (fun e1 => ?_) (fun e1 => ?_)
    · cases e1
    · refine xv_iload_n (pc' := 20) (i := 3) hF xd_MO_cut_19 rfl rfl rfl ?_
      refine xv_bipushN (pc' := 22) 32 hF xd_MO_cut_20 (by decide +kernel) rfl ?_
      refine xv_callSi (pc' := 25) hF (c_MO_in K n h _ 32) xq_MO_in xk_MO_m52 xk_t_MO_in ⟨(Nat.le_of_ble_eq_true rfl), (Nat.le_of_ble_eq_true rfl)⟩ rfl rfl (Nat.le_of_ble_eq_true rfl) ⟨(Nat.le_of_ble_eq_true rfl), (Nat.le_of_ble_eq_true rfl)⟩ xd_MO_cut_22 rfl (fun q0 n1 h1 q1 => ?_)
      obtain ⟨rfl, rfl, rfl⟩ := q1
      rw [x_in_nI hj (by decide)]
      refine xv_if_neB (pc' := 28) (tgt := 32) hF xd_MO_cut_25 (by decide) rfl (fun e1 => ?_) (fun e1 => ?_)
      · refine xv_iconstN (pc' := 33) 0 hF xd_MO_cut_32 (by decide +kernel) rfl ?_
        refine xv_topi (v' := xb false) (by decide +kernel) ?_
        refine xv_iconstN (pc' := 34) 0 hF xd_MO_cut_33 (by decide +kernel) rfl ?_
        refine xv_topi (v' := xb false) (by decide +kernel) ?_
        refine xv_callVi (pc' := 37) (ci := 6) hF (c_MO_fails K n h p th ma w ln at_ f op mk false false ho) xq_MO_fails xk_MO_m56 xk_i_MO_fails xk_s_MO_fails (by first | assumption | exact xu_self | (refine (xu_ne (by omega)).trans ?_; first | assumption | exact xu_self | (refine (xu_ne (by omega)).trans ?_; first | assumption | exact xu_self | (refine (xu_ne (by omega)).trans ?_; first | assumption | exact xu_self | (refine (xu_ne (by omega)).trans ?_; first | assumption | exact xu_self))))) rfl ⟨(Nat.le_of_ble_eq_true rfl), (Nat.le_of_ble_eq_true rfl)⟩ rfl rfl (Nat.le_of_ble_eq_true rfl) ⟨(Nat.le_of_ble_eq_true rfl), (Nat.le_of_ble_eq_true rfl)⟩ xd_MO_cut_34 rfl (fun q0 n1 h1 q1 => ?_)
        obtain ⟨rfl, rfl, rfl⟩ := q1
        have r3 := r1.mm (th' := 0) (ma' := ma) (sz' := w)
        have f3 : mw_fr p h (xu h p (.inr (6, [.int (nI 0), .ref (p + 1), .ref (p + 2), .int (nI ma), .ref (p + 3), .int (nI w), .ref (p + 4), .ref (p + 5), .ref (p + 6), .ref (p + 7), .int (nI ln), .int (nI at_), .int (xm1 f), .int (xb mk), .ref (p + 8), .ref (p + 9), .ref (p + 10), .int (nI op), .ref (p + 11), .ref (p + 12)]))) := mw_fr.rf.x (by omega)
        have r4 : mw_X K (xu h p (.inr (6, [.int (nI 0), .ref (p + 1), .ref (p + 2), .int (nI ma), .ref (p + 3), .int (nI w), .ref (p + 4), .ref (p + 5), .ref (p + 6), .ref (p + 7), .int (nI ln), .int (nI at_), .int (xm1 f), .int (xb mk), .ref (p + 8), .ref (p + 9), .ref (p + 10), .int (nI op), .ref (p + 11), .ref (p + 12)]))) p cs w TX SZ SX := r2.keep (fun q a1 _ _ _ _ _ _ => xu_ne a1)
        simp only [Bool.false_eq_true, if_false, Bool.or_false]
        generalize xu h p (.inr (6, [.int (nI 0), .ref (p + 1), .ref (p + 2), .int (nI ma), .ref (p + 3), .int (nI w), .ref (p + 4), .ref (p + 5), .ref (p + 6), .ref (p + 7), .int (nI ln), .int (nI at_), .int (xm1 f), .int (xb mk), .ref (p + 8), .ref (p + 9), .ref (p + 10), .int (nI op), .ref (p + 11), .ref (p + 12)])) = h3 at r3 f3 r4 ⊢
        clear ho
        obtain ⟨ho, -, -, -, -, ⟨ef, hed, hed2⟩, -⟩ := id r3
        refine xv_if_eqB (pc' := 40) (tgt := 42) hF xd_MO_cut_37 (by decide) rfl (fun e2 => ?_) (fun e2 => ?_)
        · refine xv_iload_n (pc' := 43) (i := 1) hF xd_MO_cut_42 rfl rfl rfl ?_
          refine xv_iload_n (pc' := 44) (i := 2) hF xd_MO_cut_43 rfl rfl rfl ?_
          refine xv_iload_n (pc' := 45) (i := 3) hF xd_MO_cut_44 rfl rfl rfl ?_
          refine xv_callSi (pc' := 48) hF (c_MO_place K n h3 i l j) xq_MO_place xk_MO_m60 xk_t_MO_place ⟨(Nat.le_of_ble_eq_true rfl), (Nat.le_of_ble_eq_true rfl)⟩ rfl rfl (Nat.le_of_ble_eq_true rfl) ⟨(Nat.le_of_ble_eq_true rfl), (Nat.le_of_ble_eq_true rfl)⟩ xd_MO_cut_45 rfl (fun q0 n1 h1 q1 => ?_)
          obtain ⟨rfl, rfl, rfl⟩ := q1
          refine xv_istore (pc' := 50) hF xd_MO_cut_48 (Nat.le_of_ble_eq_true rfl) rfl rfl ?_
          refine xv_aload_n (pc' := 51) (i := 0) hF xd_MO_cut_50 rfl rfl rfl ?_
          refine xv_get (pc' := 54) (ci := 6) hF (by first | assumption | exact xu_self | (refine (xu_ne (by omega)).trans ?_; first | assumption | exact xu_self | (refine (xu_ne (by omega)).trans ?_; first | assumption | exact xu_self | (refine (xu_ne (by omega)).trans ?_; first | assumption | exact xu_self | (refine (xu_ne (by omega)).trans ?_; first | assumption | exact xu_self))))) rfl xu_MO 1 (by decide) xk_MO_f7 (by rfl) xd_MO_cut_51 rfl ?_
          refine xv_iload (pc' := 56) hF xd_MO_cut_54 rfl rfl ?_
          refine xv_zaldN (pc' := 57) hF (by first | assumption | exact xu_self | (refine (xu_ne (by omega)).trans ?_; first | assumption | exact xu_self | (refine (xu_ne (by omega)).trans ?_; first | assumption | exact xu_self | (refine (xu_ne (by omega)).trans ?_; first | assumption | exact xu_self | (refine (xu_ne (by omega)).trans ?_; first | assumption | exact xu_self))))) (by omega) (by decide) xd_MO_cut_56 rfl ?_
          refine xv_topi (v' := xb (E l i j)) (by rw [hed2 _ (by omega), show ((32 * l + i) * 32 + j) / 1024 = l by omega, show ((32 * l + i) * 32 + j) / 32 % 32 = i by omega, show ((32 * l + i) * 32 + j) % 32 = j by omega]) ?_
          refine xv_istore (pc' := 59) hF xd_MO_cut_57 (Nat.le_of_ble_eq_true rfl) rfl rfl ?_
          refine xv_aload_n (pc' := 60) (i := 0) hF xd_MO_cut_59 rfl rfl rfl ?_
          refine xv_get (pc' := 63) (ci := 6) hF (by first | assumption | exact xu_self | (refine (xu_ne (by omega)).trans ?_; first | assumption | exact xu_self | (refine (xu_ne (by omega)).trans ?_; first | assumption | exact xu_self | (refine (xu_ne (by omega)).trans ?_; first | assumption | exact xu_self | (refine (xu_ne (by omega)).trans ?_; first | assumption | exact xu_self))))) rfl xu_MO 1 (by decide) xk_MO_f7 (by rfl) xd_MO_cut_60 rfl ?_
          refine xv_iload (pc' := 65) hF xd_MO_cut_63 rfl rfl ?_
          refine xv_iconstN (pc' := 66) 0 hF xd_MO_cut_65 (by decide +kernel) rfl ?_
          refine xv_zastN (pc' := 67) hF (by first | assumption | exact xu_self | (refine (xu_ne (by omega)).trans ?_; first | assumption | exact xu_self | (refine (xu_ne (by omega)).trans ?_; first | assumption | exact xu_self | (refine (xu_ne (by omega)).trans ?_; first | assumption | exact xu_self | (refine (xu_ne (by omega)).trans ?_; first | assumption | exact xu_self))))) (by omega) (by decide) xd_MO_cut_66 rfl ?_
          refine xv_aload_n (pc' := 68) (i := 0) hF xd_MO_cut_67 rfl rfl rfl ?_
          refine xv_dup (pc' := 69) hF xd_MO_cut_68 rfl rfl ?_
          refine xv_get (pc' := 72) (ci := 6) hF (by first | assumption | exact xu_self | (refine (xu_ne (by omega)).trans ?_; first | assumption | exact xu_self | (refine (xu_ne (by omega)).trans ?_; first | assumption | exact xu_self | (refine (xu_ne (by omega)).trans ?_; first | assumption | exact xu_self | (refine (xu_ne (by omega)).trans ?_; first | assumption | exact xu_self))))) rfl xu_MO 3 (by decide) xk_MO_f64 (by rfl) xd_MO_cut_69 rfl ?_
          refine xv_iload (pc' := 74) hF xd_MO_cut_72 rfl rfl ?_
          have r5 := r3.ed (ed_up (b := false) (v := vp_nar .boolean (nI 0)) hed2 hl hi hj (by decide +kernel))
          refine xv_if_eqB (pc' := 77) (tgt := 81) hF xd_MO_cut_74 (by decide) rfl (fun e3 => ?_) (fun e3 => ?_)
          · refine xv_iconstN (pc' := 82) 0 hF xd_MO_cut_81 (by decide +kernel) rfl ?_
            first | refine xv_isubN (pc' := 83) hF (by omega) xd_MO_cut_82 rfl ?_ | refine xv_isub (pc' := 83) hF xd_MO_cut_82 rfl ?_
            refine xv_put (pc' := 86) (ci := 6) (ty := xt_MO 3) hF (by first | assumption | exact xu_self | (refine (xu_ne (by omega)).trans ?_; first | assumption | exact xu_self | (refine (xu_ne (by omega)).trans ?_; first | assumption | exact xu_self | (refine (xu_ne (by omega)).trans ?_; first | assumption | exact xu_self | (refine (xu_ne (by omega)).trans ?_; first | assumption | exact xu_self))))) rfl xu_MO xt_MO xo_MO xn_MO 3 (by decide) xk_MO_f64 rfl (by decide +kernel) (by first | rfl | exact xb_nw _ | decide +kernel) (by first | rfl | exact xb_ft _ | decide +kernel) (by exact Nat.le_of_ble_eq_true rfl) (by dsimp only [List.set] <;> rfl) xd_MO_cut_83 rfl ?_
            refine xv_iload (pc' := 88) hF xd_MO_cut_86 rfl rfl ?_
            have r6 := r5.mm (th' := 0) (ma' := ma - 0) (sz' := w)
            refine hR _ _ _ _ _ _ _ (by omega) (by omega) ?_ (by first | rfl | exact xb_nw _ | decide +kernel) xd_MO_cut_88
            refine ⟨rfl, (f3.x (by omega)).x (by omega), rfl, ⟨ln, at_, f, op, mk, tx, S, so, ba, ?_⟩, r4.keep (fun q a1 a2 _ _ _ _ _ => by rw [xu_ne a1, xu_ne a2])⟩
            rw [e3]
            exact r6
          · have := hma e3
            refine xv_iconstN (pc' := 78) 1 hF xd_MO_cut_77 (by decide +kernel) rfl ?_
            refine xv_goto (tgt := 82) hF xd_MO_cut_78 (by decide) ?_
            first | refine xv_isubN (pc' := 83) hF (by omega) xd_MO_cut_82 rfl ?_ | refine xv_isub (pc' := 83) hF xd_MO_cut_82 rfl ?_
            refine xv_put (pc' := 86) (ci := 6) (ty := xt_MO 3) hF (by first | assumption | exact xu_self | (refine (xu_ne (by omega)).trans ?_; first | assumption | exact xu_self | (refine (xu_ne (by omega)).trans ?_; first | assumption | exact xu_self | (refine (xu_ne (by omega)).trans ?_; first | assumption | exact xu_self | (refine (xu_ne (by omega)).trans ?_; first | assumption | exact xu_self))))) rfl xu_MO xt_MO xo_MO xn_MO 3 (by decide) xk_MO_f64 rfl (by decide +kernel) (by first | rfl | exact xb_nw _ | decide +kernel) (by first | rfl | exact xb_ft _ | decide +kernel) (by exact Nat.le_of_ble_eq_true rfl) (by dsimp only [List.set] <;> rfl) xd_MO_cut_83 rfl ?_
            refine xv_iload (pc' := 88) hF xd_MO_cut_86 rfl rfl ?_
            have r6 := r5.mm (th' := 0) (ma' := ma - 1) (sz' := w)
            refine hR _ _ _ _ _ _ _ (by omega) (by omega) ?_ (by first | rfl | exact xb_nw _ | decide +kernel) xd_MO_cut_88
            refine ⟨rfl, (f3.x (by omega)).x (by omega), rfl, ⟨ln, at_, f, op, mk, tx, S, so, ba, ?_⟩, r4.keep (fun q a1 a2 _ _ _ _ _ => by rw [xu_ne a1, xu_ne a2])⟩
            rw [e3]
            exact r6
        · cases e2
      · cases e1
theorem tg_up {gf : Nat → Int32} {Tg : Nat → Nat → Bool} {t0 i0 : Nat} {v : Int32} {b : Bool} (h : ∀ t i, t < 4 → i < 32 → gf (4 * i + t) = xb (Tg t i)) (ht : t0 < 4) (hi : i0 < 32) (hv : v = xb b) : ∀ t i, t < 4 → i < 32 → upd gf (4 * i0 + t0) v (4 * i + t) = xb (tg_set Tg t0 i0 b t i) := by
  intro t i h1 h2
  unfold tg_set
  by_cases c : t = t0 ∧ i = i0
  · rw [if_pos c, c.1, c.2, pk_us, hv]
  · rw [if_neg c, pk_un (by omega)]
    exact h t i h1 h2
theorem nar_xb (b : Bool) : vp_nar .boolean (xb b) = xb b := by cases b <;> decide +kernel
set_option maxHeartbeats 4000000 in
set_option maxRecDepth 100000 in
theorem c_MO_tag (K : xK) (n : Nat) (h : xH) (p th ma w : Nat) (E : Nat → Nat → Nat → Bool) (Tg : Nat → Nat → Bool) (cs : Nat → Nat) (TX : Nat → Nat → Nat) (SZ SX : Nat → Nat) (i t : Nat) (b : Bool) (r : mo_W K h p th ma w E Tg cs TX SZ SX) (hi : i < 32) (ht : t < 4) : XM K xy_MO_tag xw_MO_tag (xrm 1 22 0 0) [.ref p, .int (nI i), .int (nI t), .int (xb b)] n h (x_pv fun n' h' => n = n' ∧ mw_fr p h h' ∧ mo_W K h' p 0 (ma) w (E) (tg_set Tg t i b) (cs) (TX) (SZ) (SX)) 0 0 := by
  obtain ⟨⟨ln, at_, f, op, mk, tx, S, so, ba, r1⟩, r2⟩ := id r
  have ho := r1.1
  refine xm_v (by decide +kernel) (Nat.le_of_ble_eq_true rfl) (fun G hF hR => ?_)
  refine xv_aload_n (pc' := 1) (i := 0) hF xd_MO_tag_0 rfl rfl rfl ?_
  refine xv_iload_n (pc' := 2) (i := 1) hF xd_MO_tag_1 rfl rfl rfl ?_
  refine xv_bipushN (pc' := 4) 32 hF xd_MO_tag_2 (by decide +kernel) rfl ?_
  refine xv_callSi (pc' := 7) hF (c_MO_in K n h _ 32) xq_MO_in xk_MO_m52 xk_t_MO_in ⟨(Nat.le_of_ble_eq_true rfl), (Nat.le_of_ble_eq_true rfl)⟩ rfl rfl (Nat.le_of_ble_eq_true rfl) ⟨(Nat.le_of_ble_eq_true rfl), (Nat.le_of_ble_eq_true rfl)⟩ xd_MO_tag_4 rfl (fun q0 n1 h1 q1 => ?_)
  obtain ⟨rfl, rfl, rfl⟩ := q1
  rw [x_in_nI hi (by decide)]
  refine xv_if_eqB (pc' := 10) (tgt := 18) hF xd_MO_tag_7 (by decide) rfl (fun e1 => ?_) (fun e1 => ?_)
  · cases e1
  · refine xv_iload_n (pc' := 11) (i := 2) hF xd_MO_tag_10 rfl rfl rfl ?_
    refine xv_iconstN (pc' := 12) 4 hF xd_MO_tag_11 (by decide +kernel) rfl ?_
    refine xv_callSi (pc' := 15) hF (c_MO_in K n h _ 4) xq_MO_in xk_MO_m52 xk_t_MO_in ⟨(Nat.le_of_ble_eq_true rfl), (Nat.le_of_ble_eq_true rfl)⟩ rfl rfl (Nat.le_of_ble_eq_true rfl) ⟨(Nat.le_of_ble_eq_true rfl), (Nat.le_of_ble_eq_true rfl)⟩ xd_MO_tag_12 rfl (fun q0 n1 h1 q1 => ?_)
    obtain ⟨rfl, rfl, rfl⟩ := q1
    rw [x_in_nI ht (by decide)]
    refine xv_if_neB (pc' := 18) (tgt := 22) hF xd_MO_tag_15 (by decide) rfl (fun e1 => ?_) (fun e1 => ?_)
    · refine xv_iconstN (pc' := 23) 0 hF xd_MO_tag_22 (by decide +kernel) rfl ?_
      refine xv_topi (v' := xb false) (by decide +kernel) ?_
      refine xv_iconstN (pc' := 24) 0 hF xd_MO_tag_23 (by decide +kernel) rfl ?_
      refine xv_topi (v' := xb false) (by decide +kernel) ?_
      refine xv_callVi (pc' := 27) (ci := 6) hF (c_MO_fails K n h p th ma w ln at_ f op mk false false ho) xq_MO_fails xk_MO_m56 xk_i_MO_fails xk_s_MO_fails (by first | assumption | exact xu_self | (refine (xu_ne (by omega)).trans ?_; first | assumption | exact xu_self | (refine (xu_ne (by omega)).trans ?_; first | assumption | exact xu_self | (refine (xu_ne (by omega)).trans ?_; first | assumption | exact xu_self | (refine (xu_ne (by omega)).trans ?_; first | assumption | exact xu_self))))) rfl ⟨(Nat.le_of_ble_eq_true rfl), (Nat.le_of_ble_eq_true rfl)⟩ rfl rfl (Nat.le_of_ble_eq_true rfl) ⟨(Nat.le_of_ble_eq_true rfl), (Nat.le_of_ble_eq_true rfl)⟩ xd_MO_tag_24 rfl (fun q0 n1 h1 q1 => ?_)
      obtain ⟨rfl, rfl, rfl⟩ := q1
      have r3 := r1.mm (th' := 0) (ma' := ma) (sz' := w)
      have f3 : mw_fr p h (xu h p (.inr (6, [.int (nI 0), .ref (p + 1), .ref (p + 2), .int (nI ma), .ref (p + 3), .int (nI w), .ref (p + 4), .ref (p + 5), .ref (p + 6), .ref (p + 7), .int (nI ln), .int (nI at_), .int (xm1 f), .int (xb mk), .ref (p + 8), .ref (p + 9), .ref (p + 10), .int (nI op), .ref (p + 11), .ref (p + 12)]))) := mw_fr.rf.x (by omega)
      have r4 : mw_X K (xu h p (.inr (6, [.int (nI 0), .ref (p + 1), .ref (p + 2), .int (nI ma), .ref (p + 3), .int (nI w), .ref (p + 4), .ref (p + 5), .ref (p + 6), .ref (p + 7), .int (nI ln), .int (nI at_), .int (xm1 f), .int (xb mk), .ref (p + 8), .ref (p + 9), .ref (p + 10), .int (nI op), .ref (p + 11), .ref (p + 12)]))) p cs w TX SZ SX := r2.keep (fun q a1 _ _ _ _ _ _ => xu_ne a1)
      simp only [Bool.false_eq_true, if_false, Bool.or_false]
      generalize xu h p (.inr (6, [.int (nI 0), .ref (p + 1), .ref (p + 2), .int (nI ma), .ref (p + 3), .int (nI w), .ref (p + 4), .ref (p + 5), .ref (p + 6), .ref (p + 7), .int (nI ln), .int (nI at_), .int (xm1 f), .int (xb mk), .ref (p + 8), .ref (p + 9), .ref (p + 10), .int (nI op), .ref (p + 11), .ref (p + 12)])) = h3 at r3 f3 r4 ⊢
      clear ho
      obtain ⟨ho, -, -, -, -, -, ⟨gf, htg, htg2⟩, -⟩ := id r3
      refine xv_if_eqB (pc' := 30) (tgt := 31) hF xd_MO_tag_27 (by decide) rfl (fun e2 => ?_) (fun e2 => ?_)
      · refine xv_aload_n (pc' := 32) (i := 0) hF xd_MO_tag_31 rfl rfl rfl ?_
        refine xv_get (pc' := 35) (ci := 6) hF (by first | assumption | exact xu_self | (refine (xu_ne (by omega)).trans ?_; first | assumption | exact xu_self | (refine (xu_ne (by omega)).trans ?_; first | assumption | exact xu_self | (refine (xu_ne (by omega)).trans ?_; first | assumption | exact xu_self | (refine (xu_ne (by omega)).trans ?_; first | assumption | exact xu_self))))) rfl xu_MO 2 (by decide) xk_MO_f13 (by rfl) xd_MO_tag_32 rfl ?_
        refine xv_iconstN (pc' := 36) 4 hF xd_MO_tag_35 (by decide +kernel) rfl ?_
        refine xv_iload_n (pc' := 37) (i := 1) hF xd_MO_tag_36 rfl rfl rfl ?_
        first | refine xv_imulN (pc' := 38) hF xd_MO_tag_37 rfl ?_ | refine xv_imul (pc' := 38) hF xd_MO_tag_37 rfl ?_
        refine xv_iload_n (pc' := 39) (i := 2) hF xd_MO_tag_38 rfl rfl rfl ?_
        first | refine xv_iaddN (pc' := 40) hF xd_MO_tag_39 rfl ?_ | refine xv_iadd (pc' := 40) hF xd_MO_tag_39 rfl ?_
        refine xv_iload_n (pc' := 41) (i := 3) hF xd_MO_tag_40 rfl rfl rfl ?_
        refine xv_zastN (pc' := 42) hF (by first | assumption | exact xu_self | (refine (xu_ne (by omega)).trans ?_; first | assumption | exact xu_self | (refine (xu_ne (by omega)).trans ?_; first | assumption | exact xu_self | (refine (xu_ne (by omega)).trans ?_; first | assumption | exact xu_self | (refine (xu_ne (by omega)).trans ?_; first | assumption | exact xu_self))))) (by omega) (by decide) xd_MO_tag_41 rfl ?_
        have r5 := r3.tg (tg_up (b := b) (v := vp_nar .boolean (xb b)) htg2 ht hi (nar_xb b))
        refine hR _ _ _ _ _ _ (by omega) (by omega) ?_ xd_MO_tag_42
        exact ⟨rfl, f3.x (by omega), ⟨_, _, _, _, _, _, _, _, _, r5⟩, r4.keep (fun q _ _ a3 _ _ _ _ => xu_ne a3)⟩
      · cases e2
    · cases e1
set_option maxHeartbeats 4000000 in
set_option maxRecDepth 100000 in
theorem c_MO_edgeO (K : xK) (n : Nat) (h : xH) (p th ma w : Nat) (E : Nat → Nat → Nat → Bool) (Tg : Nat → Nat → Bool) (cs : Nat → Nat) (TX : Nat → Nat → Nat) (SZ SX : Nat → Nat) (x y z : Int32) (r : mo_W K h p th ma w E Tg cs TX SZ SX) (hno : (x_in x 32 && (x_in y 8 && x_in z 32)) = false) : XM K xy_MO_edge xw_MO_edge (xrm 1 22 0 0) [.ref p, .int x, .int y, .int z] n h (x_pi fun r n' h' => n = n' ∧ mw_fr p h h' ∧ r = xb false ∧ mo_W K h' p 1 (ma) w (E) (Tg) (cs) (TX) (SZ) (SX)) 0 0 := by
  obtain ⟨⟨ln, at_, f, op, mk, tx, S, so, ba, r1⟩, r2⟩ := id r
  have ho := r1.1
  refine xm_z (by decide +kernel) (Nat.le_of_ble_eq_true rfl) (fun G hF hR => ?_)
  have end1 : XV G 0 0 28 [(0, .ref p), (1, .int x), (2, .int y), (3, .int z)] [.ref p] n h := by
    refine xv_iconstN (pc' := 29) 1 hF xd_MO_edge_28 (by decide +kernel) rfl ?_
    refine xv_goto (tgt := 33) hF xd_MO_edge_29 (by decide) ?_
    refine xv_topi (v' := xb true) (by decide +kernel) ?_
    refine xv_iconstN (pc' := 34) 0 hF xd_MO_edge_33 (by decide +kernel) rfl ?_
    refine xv_topi (v' := xb false) (by decide +kernel) ?_
    refine xv_callVi (pc' := 37) (ci := 6) hF (c_MO_fails K n h p th ma w ln at_ f op mk true false ho) xq_MO_fails xk_MO_m56 xk_i_MO_fails xk_s_MO_fails (by first | assumption | exact xu_self | (refine (xu_ne (by omega)).trans ?_; first | assumption | exact xu_self | (refine (xu_ne (by omega)).trans ?_; first | assumption | exact xu_self | (refine (xu_ne (by omega)).trans ?_; first | assumption | exact xu_self | (refine (xu_ne (by omega)).trans ?_; first | assumption | exact xu_self))))) rfl ⟨(Nat.le_of_ble_eq_true rfl), (Nat.le_of_ble_eq_true rfl)⟩ rfl rfl (Nat.le_of_ble_eq_true rfl) ⟨(Nat.le_of_ble_eq_true rfl), (Nat.le_of_ble_eq_true rfl)⟩ xd_MO_edge_34 rfl (fun q0 n1 h1 q1 => ?_)
    obtain ⟨rfl, rfl, rfl⟩ := q1
    have r3 := r1.mm (th' := 1) (ma' := ma) (sz' := w)
    refine xv_if_eqB (pc' := 40) (tgt := 42) hF xd_MO_edge_37 (by decide) rfl (fun e2 => ?_) (fun e2 => ?_)
    · cases e2
    · refine xv_iconstN (pc' := 41) 0 hF xd_MO_edge_40 (by decide +kernel) rfl ?_
      refine hR _ _ _ _ _ _ _ (by omega) (by omega) ?_ (by first | rfl | exact xb_nw _ | decide +kernel) xd_MO_edge_41
      exact ⟨rfl, mw_fr.rf.x (by omega), by decide +kernel, ⟨_, _, _, _, _, _, _, _, _, r3⟩, r2.keep (fun q a1 _ _ _ _ _ _ => xu_ne a1)⟩
  refine xv_aload_n (pc' := 1) (i := 0) hF xd_MO_edge_0 rfl rfl rfl ?_
  refine xv_iload_n (pc' := 2) (i := 1) hF xd_MO_edge_1 rfl rfl rfl ?_
  refine xv_bipushN (pc' := 4) 32 hF xd_MO_edge_2 (by decide +kernel) rfl ?_
  refine xv_callSi (pc' := 7) hF (c_MO_in K n h _ 32) xq_MO_in xk_MO_m52 xk_t_MO_in ⟨(Nat.le_of_ble_eq_true rfl), (Nat.le_of_ble_eq_true rfl)⟩ rfl rfl (Nat.le_of_ble_eq_true rfl) ⟨(Nat.le_of_ble_eq_true rfl), (Nat.le_of_ble_eq_true rfl)⟩ xd_MO_edge_4 rfl (fun q0 n1 h1 q1 => ?_)
  obtain ⟨rfl, rfl, rfl⟩ := q1
  refine xv_if_eqB (pc' := 10) (tgt := 28) hF xd_MO_edge_7 (by decide) rfl (fun e1 => ?_) (fun e1 => ?_)
  · exact xv_loc _ (by repeat (first | exact trivial | refine ⟨rfl, ?_⟩)) end1
  · skip
    refine xv_iload_n (pc' := 11) (i := 2) hF xd_MO_edge_10 rfl rfl rfl ?_
    refine xv_bipushN (pc' := 13) 8 hF xd_MO_edge_11 (by decide +kernel) rfl ?_
    refine xv_callSi (pc' := 16) hF (c_MO_in K n h _ 8) xq_MO_in xk_MO_m52 xk_t_MO_in ⟨(Nat.le_of_ble_eq_true rfl), (Nat.le_of_ble_eq_true rfl)⟩ rfl rfl (Nat.le_of_ble_eq_true rfl) ⟨(Nat.le_of_ble_eq_true rfl), (Nat.le_of_ble_eq_true rfl)⟩ xd_MO_edge_13 rfl (fun q0 n1 h1 q1 => ?_)
    obtain ⟨rfl, rfl, rfl⟩ := q1
    refine xv_if_eqB (pc' := 19) (tgt := 28) hF xd_MO_edge_16 (by decide) rfl (fun e2 => ?_) (fun e2 => ?_)
    · exact xv_loc _ (by repeat (first | exact trivial | refine ⟨rfl, ?_⟩)) end1
    · skip
      refine xv_iload_n (pc' := 20) (i := 3) hF xd_MO_edge_19 rfl rfl rfl ?_
      refine xv_bipushN (pc' := 22) 32 hF xd_MO_edge_20 (by decide +kernel) rfl ?_
      refine xv_callSi (pc' := 25) hF (c_MO_in K n h _ 32) xq_MO_in xk_MO_m52 xk_t_MO_in ⟨(Nat.le_of_ble_eq_true rfl), (Nat.le_of_ble_eq_true rfl)⟩ rfl rfl (Nat.le_of_ble_eq_true rfl) ⟨(Nat.le_of_ble_eq_true rfl), (Nat.le_of_ble_eq_true rfl)⟩ xd_MO_edge_22 rfl (fun q0 n1 h1 q1 => ?_)
      obtain ⟨rfl, rfl, rfl⟩ := q1
      refine xv_if_neB (pc' := 28) (tgt := 32) hF xd_MO_edge_25 (by decide) rfl (fun e3 => ?_) (fun e3 => ?_)
      · rw [e1, e2, e3] at hno
        cases hno
      · exact xv_loc _ (by repeat (first | exact trivial | refine ⟨rfl, ?_⟩)) end1
set_option maxHeartbeats 4000000 in
set_option maxRecDepth 100000 in
theorem c_MO_cutO (K : xK) (n : Nat) (h : xH) (p th ma w : Nat) (E : Nat → Nat → Nat → Bool) (Tg : Nat → Nat → Bool) (cs : Nat → Nat) (TX : Nat → Nat → Nat) (SZ SX : Nat → Nat) (x y z : Int32) (r : mo_W K h p th ma w E Tg cs TX SZ SX) (hno : (x_in x 32 && (x_in y 8 && x_in z 32)) = false) : XM K xy_MO_cut xw_MO_cut (xrm 1 22 0 0) [.ref p, .int x, .int y, .int z] n h (x_pi fun r n' h' => n = n' ∧ mw_fr p h h' ∧ r = xb false ∧ mo_W K h' p 1 (ma) w (E) (Tg) (cs) (TX) (SZ) (SX)) 0 0 := by
  obtain ⟨⟨ln, at_, f, op, mk, tx, S, so, ba, r1⟩, r2⟩ := id r
  have ho := r1.1
  refine xm_z (by decide +kernel) (Nat.le_of_ble_eq_true rfl) (fun G hF hR => ?_)
  have end1 : XV G 0 0 28 [(0, .ref p), (1, .int x), (2, .int y), (3, .int z)] [.ref p] n h := by
    refine xv_iconstN (pc' := 29) 1 hF xd_MO_cut_28 (by decide +kernel) rfl ?_
    refine xv_goto (tgt := 33) hF xd_MO_cut_29 (by decide) ?_
    refine xv_topi (v' := xb true) (by decide +kernel) ?_
    refine xv_iconstN (pc' := 34) 0 hF xd_MO_cut_33 (by decide +kernel) rfl ?_
    refine xv_topi (v' := xb false) (by decide +kernel) ?_
    refine xv_callVi (pc' := 37) (ci := 6) hF (c_MO_fails K n h p th ma w ln at_ f op mk true false ho) xq_MO_fails xk_MO_m56 xk_i_MO_fails xk_s_MO_fails (by first | assumption | exact xu_self | (refine (xu_ne (by omega)).trans ?_; first | assumption | exact xu_self | (refine (xu_ne (by omega)).trans ?_; first | assumption | exact xu_self | (refine (xu_ne (by omega)).trans ?_; first | assumption | exact xu_self | (refine (xu_ne (by omega)).trans ?_; first | assumption | exact xu_self))))) rfl ⟨(Nat.le_of_ble_eq_true rfl), (Nat.le_of_ble_eq_true rfl)⟩ rfl rfl (Nat.le_of_ble_eq_true rfl) ⟨(Nat.le_of_ble_eq_true rfl), (Nat.le_of_ble_eq_true rfl)⟩ xd_MO_cut_34 rfl (fun q0 n1 h1 q1 => ?_)
    obtain ⟨rfl, rfl, rfl⟩ := q1
    have r3 := r1.mm (th' := 1) (ma' := ma) (sz' := w)
    refine xv_if_eqB (pc' := 40) (tgt := 42) hF xd_MO_cut_37 (by decide) rfl (fun e2 => ?_) (fun e2 => ?_)
    · cases e2
    · refine xv_iconstN (pc' := 41) 0 hF xd_MO_cut_40 (by decide +kernel) rfl ?_
      refine hR _ _ _ _ _ _ _ (by omega) (by omega) ?_ (by first | rfl | exact xb_nw _ | decide +kernel) xd_MO_cut_41
      exact ⟨rfl, mw_fr.rf.x (by omega), by decide +kernel, ⟨_, _, _, _, _, _, _, _, _, r3⟩, r2.keep (fun q a1 _ _ _ _ _ _ => xu_ne a1)⟩
  refine xv_aload_n (pc' := 1) (i := 0) hF xd_MO_cut_0 rfl rfl rfl ?_
  refine xv_iload_n (pc' := 2) (i := 1) hF xd_MO_cut_1 rfl rfl rfl ?_
  refine xv_bipushN (pc' := 4) 32 hF xd_MO_cut_2 (by decide +kernel) rfl ?_
  refine xv_callSi (pc' := 7) hF (c_MO_in K n h _ 32) xq_MO_in xk_MO_m52 xk_t_MO_in ⟨(Nat.le_of_ble_eq_true rfl), (Nat.le_of_ble_eq_true rfl)⟩ rfl rfl (Nat.le_of_ble_eq_true rfl) ⟨(Nat.le_of_ble_eq_true rfl), (Nat.le_of_ble_eq_true rfl)⟩ xd_MO_cut_4 rfl (fun q0 n1 h1 q1 => ?_)
  obtain ⟨rfl, rfl, rfl⟩ := q1
  refine xv_if_eqB (pc' := 10) (tgt := 28) hF xd_MO_cut_7 (by decide) rfl (fun e1 => ?_) (fun e1 => ?_)
  · exact xv_loc _ (by repeat (first | exact trivial | refine ⟨rfl, ?_⟩)) end1
  · skip
    refine xv_iload_n (pc' := 11) (i := 2) hF xd_MO_cut_10 rfl rfl rfl ?_
    refine xv_bipushN (pc' := 13) 8 hF xd_MO_cut_11 (by decide +kernel) rfl ?_
    refine xv_callSi (pc' := 16) hF (c_MO_in K n h _ 8) xq_MO_in xk_MO_m52 xk_t_MO_in ⟨(Nat.le_of_ble_eq_true rfl), (Nat.le_of_ble_eq_true rfl)⟩ rfl rfl (Nat.le_of_ble_eq_true rfl) ⟨(Nat.le_of_ble_eq_true rfl), (Nat.le_of_ble_eq_true rfl)⟩ xd_MO_cut_13 rfl (fun q0 n1 h1 q1 => ?_)
    obtain ⟨rfl, rfl, rfl⟩ := q1
    refine xv_if_eqB (pc' := 19) (tgt := 28) hF xd_MO_cut_16 (by decide) rfl (fun e2 => ?_) (fun e2 => ?_)
    · exact xv_loc _ (by repeat (first | exact trivial | refine ⟨rfl, ?_⟩)) end1
    · skip
      refine xv_iload_n (pc' := 20) (i := 3) hF xd_MO_cut_19 rfl rfl rfl ?_
      refine xv_bipushN (pc' := 22) 32 hF xd_MO_cut_20 (by decide +kernel) rfl ?_
      refine xv_callSi (pc' := 25) hF (c_MO_in K n h _ 32) xq_MO_in xk_MO_m52 xk_t_MO_in ⟨(Nat.le_of_ble_eq_true rfl), (Nat.le_of_ble_eq_true rfl)⟩ rfl rfl (Nat.le_of_ble_eq_true rfl) ⟨(Nat.le_of_ble_eq_true rfl), (Nat.le_of_ble_eq_true rfl)⟩ xd_MO_cut_22 rfl (fun q0 n1 h1 q1 => ?_)
      obtain ⟨rfl, rfl, rfl⟩ := q1
      refine xv_if_neB (pc' := 28) (tgt := 32) hF xd_MO_cut_25 (by decide) rfl (fun e3 => ?_) (fun e3 => ?_)
      · rw [e1, e2, e3] at hno
        cases hno
      · exact xv_loc _ (by repeat (first | exact trivial | refine ⟨rfl, ?_⟩)) end1
set_option maxHeartbeats 4000000 in
set_option maxRecDepth 100000 in
theorem c_MO_tagO (K : xK) (n : Nat) (h : xH) (p th ma w : Nat) (E : Nat → Nat → Nat → Bool) (Tg : Nat → Nat → Bool) (cs : Nat → Nat) (TX : Nat → Nat → Nat) (SZ SX : Nat → Nat) (x y : Int32) (b : Bool) (r : mo_W K h p th ma w E Tg cs TX SZ SX) (hno : (x_in x 32 && x_in y 4) = false) : XM K xy_MO_tag xw_MO_tag (xrm 1 22 0 0) [.ref p, .int x, .int y, .int (xb b)] n h (x_pv fun n' h' => n = n' ∧ mw_fr p h h' ∧ mo_W K h' p 1 (ma) w (E) (Tg) (cs) (TX) (SZ) (SX)) 0 0 := by
  obtain ⟨⟨ln, at_, f, op, mk, tx, S, so, ba, r1⟩, r2⟩ := id r
  have ho := r1.1
  refine xm_v (by decide +kernel) (Nat.le_of_ble_eq_true rfl) (fun G hF hR => ?_)
  have end1 : XV G 0 0 18 [(0, .ref p), (1, .int x), (2, .int y), (3, .int (xb b))] [.ref p] n h := by
    refine xv_iconstN (pc' := 19) 1 hF xd_MO_tag_18 (by decide +kernel) rfl ?_
    refine xv_goto (tgt := 23) hF xd_MO_tag_19 (by decide) ?_
    refine xv_topi (v' := xb true) (by decide +kernel) ?_
    refine xv_iconstN (pc' := 24) 0 hF xd_MO_tag_23 (by decide +kernel) rfl ?_
    refine xv_topi (v' := xb false) (by decide +kernel) ?_
    refine xv_callVi (pc' := 27) (ci := 6) hF (c_MO_fails K n h p th ma w ln at_ f op mk true false ho) xq_MO_fails xk_MO_m56 xk_i_MO_fails xk_s_MO_fails (by first | assumption | exact xu_self | (refine (xu_ne (by omega)).trans ?_; first | assumption | exact xu_self | (refine (xu_ne (by omega)).trans ?_; first | assumption | exact xu_self | (refine (xu_ne (by omega)).trans ?_; first | assumption | exact xu_self | (refine (xu_ne (by omega)).trans ?_; first | assumption | exact xu_self))))) rfl ⟨(Nat.le_of_ble_eq_true rfl), (Nat.le_of_ble_eq_true rfl)⟩ rfl rfl (Nat.le_of_ble_eq_true rfl) ⟨(Nat.le_of_ble_eq_true rfl), (Nat.le_of_ble_eq_true rfl)⟩ xd_MO_tag_24 rfl (fun q0 n1 h1 q1 => ?_)
    obtain ⟨rfl, rfl, rfl⟩ := q1
    have r3 := r1.mm (th' := 1) (ma' := ma) (sz' := w)
    refine xv_if_eqB (pc' := 30) (tgt := 31) hF xd_MO_tag_27 (by decide) rfl (fun e2 => ?_) (fun e2 => ?_)
    · cases e2
    · refine hR _ _ _ _ _ _ (by omega) (by omega) ?_ xd_MO_tag_30
      exact ⟨rfl, mw_fr.rf.x (by omega), ⟨_, _, _, _, _, _, _, _, _, r3⟩, r2.keep (fun q a1 _ _ _ _ _ _ => xu_ne a1)⟩
  refine xv_aload_n (pc' := 1) (i := 0) hF xd_MO_tag_0 rfl rfl rfl ?_
  refine xv_iload_n (pc' := 2) (i := 1) hF xd_MO_tag_1 rfl rfl rfl ?_
  refine xv_bipushN (pc' := 4) 32 hF xd_MO_tag_2 (by decide +kernel) rfl ?_
  refine xv_callSi (pc' := 7) hF (c_MO_in K n h _ 32) xq_MO_in xk_MO_m52 xk_t_MO_in ⟨(Nat.le_of_ble_eq_true rfl), (Nat.le_of_ble_eq_true rfl)⟩ rfl rfl (Nat.le_of_ble_eq_true rfl) ⟨(Nat.le_of_ble_eq_true rfl), (Nat.le_of_ble_eq_true rfl)⟩ xd_MO_tag_4 rfl (fun q0 n1 h1 q1 => ?_)
  obtain ⟨rfl, rfl, rfl⟩ := q1
  refine xv_if_eqB (pc' := 10) (tgt := 18) hF xd_MO_tag_7 (by decide) rfl (fun e1 => ?_) (fun e1 => ?_)
  · exact xv_loc _ (by repeat (first | exact trivial | refine ⟨rfl, ?_⟩)) end1
  · skip
    refine xv_iload_n (pc' := 11) (i := 2) hF xd_MO_tag_10 rfl rfl rfl ?_
    refine xv_iconstN (pc' := 12) 4 hF xd_MO_tag_11 (by decide +kernel) rfl ?_
    refine xv_callSi (pc' := 15) hF (c_MO_in K n h _ 4) xq_MO_in xk_MO_m52 xk_t_MO_in ⟨(Nat.le_of_ble_eq_true rfl), (Nat.le_of_ble_eq_true rfl)⟩ rfl rfl (Nat.le_of_ble_eq_true rfl) ⟨(Nat.le_of_ble_eq_true rfl), (Nat.le_of_ble_eq_true rfl)⟩ xd_MO_tag_12 rfl (fun q0 n1 h1 q1 => ?_)
    obtain ⟨rfl, rfl, rfl⟩ := q1
    refine xv_if_neB (pc' := 18) (tgt := 22) hF xd_MO_tag_15 (by decide) rfl (fun e2 => ?_) (fun e2 => ?_)
    · rw [e1, e2] at hno
      cases hno
    · exact xv_loc _ (by repeat (first | exact trivial | refine ⟨rfl, ?_⟩)) end1
