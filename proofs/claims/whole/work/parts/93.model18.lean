/-! the reference: no such slot, no such node -/
set_option maxHeartbeats 4000000 in
set_option maxRecDepth 100000 in
theorem c_MO_loadO (K : xK) (n : Nat) (h : xH) (p th ma w : Nat) (E : Nat → Nat → Nat → Bool) (Tg : Nat → Nat → Bool) (cs : Nat → Nat) (TX : Nat → Nat → Nat) (SZ SX : Nat → Nat) (x : Int32) (r : mo_W K h p th ma w E Tg cs TX SZ SX) (hno : x_in x 4 = false) : XM K xy_MO_load xw_MO_load (xrm 1 22 0 0) [.ref p, .int x] n h (x_pi fun r n' h' => n = n' ∧ mw_fr p h h' ∧ mo_W K h' p 1 (ma) w (E) (Tg) (cs) (TX) (SZ) (SX)) 0 0 := by
  obtain ⟨⟨ln, at_, f, op, mk, tx, S, so, ba, r1⟩, r2⟩ := id r
  have ho := r1.1
  refine xm_i (by decide +kernel) (Nat.le_of_ble_eq_true rfl) (fun G hF hR => ?_)
  refine xv_aload_n (pc' := 1) (i := 0) hF xd_MO_load_0 rfl rfl rfl ?_
  refine xv_iload_n (pc' := 2) (i := 1) hF xd_MO_load_1 rfl rfl rfl ?_
  refine xv_iconstN (pc' := 3) 4 hF xd_MO_load_2 (by decide +kernel) rfl ?_
  refine xv_callSi (pc' := 6) hF (c_MO_in K n h _ 4) xq_MO_in xk_MO_m52 xk_t_MO_in ⟨(Nat.le_of_ble_eq_true rfl), (Nat.le_of_ble_eq_true rfl)⟩ rfl rfl (Nat.le_of_ble_eq_true rfl) ⟨(Nat.le_of_ble_eq_true rfl), (Nat.le_of_ble_eq_true rfl)⟩ xd_MO_load_3 rfl (fun q0 n1 h1 q1 => ?_)
  obtain ⟨rfl, rfl, rfl⟩ := q1
  rw [hno]
  refine xv_if_neB (pc' := 9) (tgt := 13) hF xd_MO_load_6 (by decide) rfl (fun e1 => ?_) (fun e1 => ?_)
  · cases e1
  · refine xv_iconstN (pc' := 10) 1 hF xd_MO_load_9 (by decide +kernel) rfl ?_
    refine xv_goto (tgt := 14) hF xd_MO_load_10 (by decide) ?_
    refine xv_topi (v' := xb true) (by decide +kernel) ?_
    refine xv_iconstN (pc' := 15) 0 hF xd_MO_load_14 (by decide +kernel) rfl ?_
    refine xv_topi (v' := xb false) (by decide +kernel) ?_
    refine xv_callVi (pc' := 18) (ci := 6) hF (c_MO_fails K n h p th ma w ln at_ f op mk true false ho) xq_MO_fails xk_MO_m56 xk_i_MO_fails xk_s_MO_fails (by first | assumption | exact xu_self | (refine (xu_ne (by omega)).trans ?_; first | assumption | exact xu_self | (refine (xu_ne (by omega)).trans ?_; first | assumption | exact xu_self | (refine (xu_ne (by omega)).trans ?_; first | assumption | exact xu_self | (refine (xu_ne (by omega)).trans ?_; first | assumption | exact xu_self))))) rfl ⟨(Nat.le_of_ble_eq_true rfl), (Nat.le_of_ble_eq_true rfl)⟩ rfl rfl (Nat.le_of_ble_eq_true rfl) ⟨(Nat.le_of_ble_eq_true rfl), (Nat.le_of_ble_eq_true rfl)⟩ xd_MO_load_15 rfl (fun q0 n1 h1 q1 => ?_)
    obtain ⟨rfl, rfl, rfl⟩ := q1
    have r3 := r1.mm (th' := 1) (ma' := ma) (sz' := w)
    refine xv_if_eqB (pc' := 21) (tgt := 23) hF xd_MO_load_18 (by decide) rfl (fun e2 => ?_) (fun e2 => ?_)
    · cases e2
    · refine xv_iconstN (pc' := 22) 0 hF xd_MO_load_21 (by decide +kernel) rfl ?_
      refine hR _ _ _ _ _ _ _ (by omega) (by omega) ?_ xd_MO_load_22
      exact ⟨rfl, mw_fr.rf.x (by omega), ⟨_, _, _, _, _, _, _, _, _, r3⟩, r2.keep (fun q a1 _ _ _ _ _ _ => xu_ne a1)⟩
set_option maxHeartbeats 4000000 in
set_option maxRecDepth 100000 in
theorem c_MO_spanO (K : xK) (n : Nat) (h : xH) (p th ma w : Nat) (E : Nat → Nat → Nat → Bool) (Tg : Nat → Nat → Bool) (cs : Nat → Nat) (TX : Nat → Nat → Nat) (SZ SX : Nat → Nat) (x : Int32) (r : mo_W K h p th ma w E Tg cs TX SZ SX) (hno : x_in x 4 = false) : XM K xy_MO_span xw_MO_span (xrm 1 22 0 0) [.ref p, .int x] n h (x_pi fun r n' h' => n = n' ∧ mw_fr p h h' ∧ mo_W K h' p 1 (ma) w (E) (Tg) (cs) (TX) (SZ) (SX)) 0 0 := by
  obtain ⟨⟨ln, at_, f, op, mk, tx, S, so, ba, r1⟩, r2⟩ := id r
  have ho := r1.1
  refine xm_i (by decide +kernel) (Nat.le_of_ble_eq_true rfl) (fun G hF hR => ?_)
  refine xv_aload_n (pc' := 1) (i := 0) hF xd_MO_span_0 rfl rfl rfl ?_
  refine xv_iload_n (pc' := 2) (i := 1) hF xd_MO_span_1 rfl rfl rfl ?_
  refine xv_iconstN (pc' := 3) 4 hF xd_MO_span_2 (by decide +kernel) rfl ?_
  refine xv_callSi (pc' := 6) hF (c_MO_in K n h _ 4) xq_MO_in xk_MO_m52 xk_t_MO_in ⟨(Nat.le_of_ble_eq_true rfl), (Nat.le_of_ble_eq_true rfl)⟩ rfl rfl (Nat.le_of_ble_eq_true rfl) ⟨(Nat.le_of_ble_eq_true rfl), (Nat.le_of_ble_eq_true rfl)⟩ xd_MO_span_3 rfl (fun q0 n1 h1 q1 => ?_)
  obtain ⟨rfl, rfl, rfl⟩ := q1
  rw [hno]
  refine xv_if_neB (pc' := 9) (tgt := 13) hF xd_MO_span_6 (by decide) rfl (fun e1 => ?_) (fun e1 => ?_)
  · cases e1
  · refine xv_iconstN (pc' := 10) 1 hF xd_MO_span_9 (by decide +kernel) rfl ?_
    refine xv_goto (tgt := 14) hF xd_MO_span_10 (by decide) ?_
    refine xv_topi (v' := xb true) (by decide +kernel) ?_
    refine xv_iconstN (pc' := 15) 0 hF xd_MO_span_14 (by decide +kernel) rfl ?_
    refine xv_topi (v' := xb false) (by decide +kernel) ?_
    refine xv_callVi (pc' := 18) (ci := 6) hF (c_MO_fails K n h p th ma w ln at_ f op mk true false ho) xq_MO_fails xk_MO_m56 xk_i_MO_fails xk_s_MO_fails (by first | assumption | exact xu_self | (refine (xu_ne (by omega)).trans ?_; first | assumption | exact xu_self | (refine (xu_ne (by omega)).trans ?_; first | assumption | exact xu_self | (refine (xu_ne (by omega)).trans ?_; first | assumption | exact xu_self | (refine (xu_ne (by omega)).trans ?_; first | assumption | exact xu_self))))) rfl ⟨(Nat.le_of_ble_eq_true rfl), (Nat.le_of_ble_eq_true rfl)⟩ rfl rfl (Nat.le_of_ble_eq_true rfl) ⟨(Nat.le_of_ble_eq_true rfl), (Nat.le_of_ble_eq_true rfl)⟩ xd_MO_span_15 rfl (fun q0 n1 h1 q1 => ?_)
    obtain ⟨rfl, rfl, rfl⟩ := q1
    have r3 := r1.mm (th' := 1) (ma' := ma) (sz' := w)
    refine xv_if_eqB (pc' := 21) (tgt := 23) hF xd_MO_span_18 (by decide) rfl (fun e2 => ?_) (fun e2 => ?_)
    · cases e2
    · refine xv_iconstN (pc' := 22) 0 hF xd_MO_span_21 (by decide +kernel) rfl ?_
      refine hR _ _ _ _ _ _ _ (by omega) (by omega) ?_ xd_MO_span_22
      exact ⟨rfl, mw_fr.rf.x (by omega), ⟨_, _, _, _, _, _, _, _, _, r3⟩, r2.keep (fun q a1 _ _ _ _ _ _ => xu_ne a1)⟩
set_option maxHeartbeats 4000000 in
set_option maxRecDepth 100000 in
theorem c_MO_circleO (K : xK) (n : Nat) (h : xH) (p th ma w : Nat) (E : Nat → Nat → Nat → Bool) (Tg : Nat → Nat → Bool) (cs : Nat → Nat) (TX : Nat → Nat → Nat) (SZ SX : Nat → Nat) (x : Int32) (r : mo_W K h p th ma w E Tg cs TX SZ SX) (hno : x_in x 4 = false) : XM K xy_MO_circle xw_MO_circle (xrm 1 22 0 0) [.ref p, .int x] n h (x_pi fun r n' h' => n = n' ∧ mw_fr p h h' ∧ mo_W K h' p 1 (ma) w (E) (Tg) (cs) (TX) (SZ) (SX)) 0 0 := by
  obtain ⟨⟨ln, at_, f, op, mk, tx, S, so, ba, r1⟩, r2⟩ := id r
  have ho := r1.1
  refine xm_i (by decide +kernel) (Nat.le_of_ble_eq_true rfl) (fun G hF hR => ?_)
  refine xv_aload_n (pc' := 1) (i := 0) hF xd_MO_circle_0 rfl rfl rfl ?_
  refine xv_iload_n (pc' := 2) (i := 1) hF xd_MO_circle_1 rfl rfl rfl ?_
  refine xv_iconstN (pc' := 3) 4 hF xd_MO_circle_2 (by decide +kernel) rfl ?_
  refine xv_callSi (pc' := 6) hF (c_MO_in K n h _ 4) xq_MO_in xk_MO_m52 xk_t_MO_in ⟨(Nat.le_of_ble_eq_true rfl), (Nat.le_of_ble_eq_true rfl)⟩ rfl rfl (Nat.le_of_ble_eq_true rfl) ⟨(Nat.le_of_ble_eq_true rfl), (Nat.le_of_ble_eq_true rfl)⟩ xd_MO_circle_3 rfl (fun q0 n1 h1 q1 => ?_)
  obtain ⟨rfl, rfl, rfl⟩ := q1
  rw [hno]
  refine xv_if_neB (pc' := 9) (tgt := 13) hF xd_MO_circle_6 (by decide) rfl (fun e1 => ?_) (fun e1 => ?_)
  · cases e1
  · refine xv_iconstN (pc' := 10) 1 hF xd_MO_circle_9 (by decide +kernel) rfl ?_
    refine xv_goto (tgt := 14) hF xd_MO_circle_10 (by decide) ?_
    refine xv_topi (v' := xb true) (by decide +kernel) ?_
    refine xv_iconstN (pc' := 15) 0 hF xd_MO_circle_14 (by decide +kernel) rfl ?_
    refine xv_topi (v' := xb false) (by decide +kernel) ?_
    refine xv_callVi (pc' := 18) (ci := 6) hF (c_MO_fails K n h p th ma w ln at_ f op mk true false ho) xq_MO_fails xk_MO_m56 xk_i_MO_fails xk_s_MO_fails (by first | assumption | exact xu_self | (refine (xu_ne (by omega)).trans ?_; first | assumption | exact xu_self | (refine (xu_ne (by omega)).trans ?_; first | assumption | exact xu_self | (refine (xu_ne (by omega)).trans ?_; first | assumption | exact xu_self | (refine (xu_ne (by omega)).trans ?_; first | assumption | exact xu_self))))) rfl ⟨(Nat.le_of_ble_eq_true rfl), (Nat.le_of_ble_eq_true rfl)⟩ rfl rfl (Nat.le_of_ble_eq_true rfl) ⟨(Nat.le_of_ble_eq_true rfl), (Nat.le_of_ble_eq_true rfl)⟩ xd_MO_circle_15 rfl (fun q0 n1 h1 q1 => ?_)
    obtain ⟨rfl, rfl, rfl⟩ := q1
    have r3 := r1.mm (th' := 1) (ma' := ma) (sz' := w)
    refine xv_if_eqB (pc' := 21) (tgt := 23) hF xd_MO_circle_18 (by decide) rfl (fun e2 => ?_) (fun e2 => ?_)
    · cases e2
    · refine xv_iconstN (pc' := 22) 0 hF xd_MO_circle_21 (by decide +kernel) rfl ?_
      refine hR _ _ _ _ _ _ _ (by omega) (by omega) ?_ xd_MO_circle_22
      exact ⟨rfl, mw_fr.rf.x (by omega), ⟨_, _, _, _, _, _, _, _, _, r3⟩, r2.keep (fun q a1 _ _ _ _ _ _ => xu_ne a1)⟩
set_option maxHeartbeats 4000000 in
set_option maxRecDepth 100000 in
theorem c_MO_bestO (K : xK) (n : Nat) (h : xH) (p th ma w : Nat) (E : Nat → Nat → Nat → Bool) (Tg : Nat → Nat → Bool) (cs : Nat → Nat) (TX : Nat → Nat → Nat) (SZ SX : Nat → Nat) (x : Int32) (r : mo_W K h p th ma w E Tg cs TX SZ SX) (hno : x_in x 4 = false) : XM K xy_MO_best xw_MO_best (xrm 1 22 0 0) [.ref p, .int x] n h (x_pi fun r n' h' => n = n' ∧ mw_fr p h h' ∧ mo_W K h' p 1 (ma) w (E) (Tg) (cs) (TX) (SZ) (SX)) 0 0 := by
  obtain ⟨⟨ln, at_, f, op, mk, tx, S, so, ba, r1⟩, r2⟩ := id r
  have ho := r1.1
  refine xm_i (by decide +kernel) (Nat.le_of_ble_eq_true rfl) (fun G hF hR => ?_)
  refine xv_aload_n (pc' := 1) (i := 0) hF xd_MO_best_0 rfl rfl rfl ?_
  refine xv_iload_n (pc' := 2) (i := 1) hF xd_MO_best_1 rfl rfl rfl ?_
  refine xv_iconstN (pc' := 3) 4 hF xd_MO_best_2 (by decide +kernel) rfl ?_
  refine xv_callSi (pc' := 6) hF (c_MO_in K n h _ 4) xq_MO_in xk_MO_m52 xk_t_MO_in ⟨(Nat.le_of_ble_eq_true rfl), (Nat.le_of_ble_eq_true rfl)⟩ rfl rfl (Nat.le_of_ble_eq_true rfl) ⟨(Nat.le_of_ble_eq_true rfl), (Nat.le_of_ble_eq_true rfl)⟩ xd_MO_best_3 rfl (fun q0 n1 h1 q1 => ?_)
  obtain ⟨rfl, rfl, rfl⟩ := q1
  rw [hno]
  refine xv_if_neB (pc' := 9) (tgt := 13) hF xd_MO_best_6 (by decide) rfl (fun e1 => ?_) (fun e1 => ?_)
  · cases e1
  · refine xv_iconstN (pc' := 10) 1 hF xd_MO_best_9 (by decide +kernel) rfl ?_
    refine xv_goto (tgt := 14) hF xd_MO_best_10 (by decide) ?_
    refine xv_topi (v' := xb true) (by decide +kernel) ?_
    refine xv_iconstN (pc' := 15) 0 hF xd_MO_best_14 (by decide +kernel) rfl ?_
    refine xv_topi (v' := xb false) (by decide +kernel) ?_
    refine xv_callVi (pc' := 18) (ci := 6) hF (c_MO_fails K n h p th ma w ln at_ f op mk true false ho) xq_MO_fails xk_MO_m56 xk_i_MO_fails xk_s_MO_fails (by first | assumption | exact xu_self | (refine (xu_ne (by omega)).trans ?_; first | assumption | exact xu_self | (refine (xu_ne (by omega)).trans ?_; first | assumption | exact xu_self | (refine (xu_ne (by omega)).trans ?_; first | assumption | exact xu_self | (refine (xu_ne (by omega)).trans ?_; first | assumption | exact xu_self))))) rfl ⟨(Nat.le_of_ble_eq_true rfl), (Nat.le_of_ble_eq_true rfl)⟩ rfl rfl (Nat.le_of_ble_eq_true rfl) ⟨(Nat.le_of_ble_eq_true rfl), (Nat.le_of_ble_eq_true rfl)⟩ xd_MO_best_15 rfl (fun q0 n1 h1 q1 => ?_)
    obtain ⟨rfl, rfl, rfl⟩ := q1
    have r3 := r1.mm (th' := 1) (ma' := ma) (sz' := w)
    refine xv_if_eqB (pc' := 21) (tgt := 23) hF xd_MO_best_18 (by decide) rfl (fun e2 => ?_) (fun e2 => ?_)
    · cases e2
    · refine xv_iconstN (pc' := 22) 0 hF xd_MO_best_21 (by decide +kernel) rfl ?_
      refine hR _ _ _ _ _ _ _ (by omega) (by omega) ?_ xd_MO_best_22
      exact ⟨rfl, mw_fr.rf.x (by omega), ⟨_, _, _, _, _, _, _, _, _, r3⟩, r2.keep (fun q a1 _ _ _ _ _ _ => xu_ne a1)⟩
set_option maxHeartbeats 4000000 in
set_option maxRecDepth 100000 in
theorem c_MO_reachO (K : xK) (n : Nat) (h : xH) (p th ma w : Nat) (E : Nat → Nat → Nat → Bool) (Tg : Nat → Nat → Bool) (cs : Nat → Nat) (TX : Nat → Nat → Nat) (SZ SX : Nat → Nat) (x : Int32) (y : Int32) (bw : Bool) (r : mo_W K h p th ma w E Tg cs TX SZ SX) (hno : (x_in x 4 && x_in y 32) = false) : XM K xy_MO_reach xw_MO_reach (xrm 1 23 0 0) [.ref p, .int x, .int y, .int (xb bw)] n h (x_pi fun r n' h' => n = n' ∧ mw_fr p h h' ∧ mo_W K h' p (if x_in x 4 then 2 else 1) (ma) w (E) (Tg) (cs) (TX) (SZ) (SX)) 0 0 := by
  obtain ⟨⟨ln, at_, f, op, mk, tx, S, so, ba, r1⟩, r2⟩ := id r
  have ho := r1.1
  refine xm_i (by decide +kernel) (Nat.le_of_ble_eq_true rfl) (fun G hF hR => ?_)
  refine xv_iload_n (pc' := 1) (i := 1) hF xd_MO_reach_0 rfl rfl rfl ?_
  refine xv_iconstN (pc' := 2) 4 hF xd_MO_reach_1 (by decide +kernel) rfl ?_
  refine xv_callSi (pc' := 5) hF (c_MO_in K n h _ 4) xq_MO_in xk_MO_m52 xk_t_MO_in ⟨(Nat.le_of_ble_eq_true rfl), (Nat.le_of_ble_eq_true rfl)⟩ rfl rfl (Nat.le_of_ble_eq_true rfl) ⟨(Nat.le_of_ble_eq_true rfl), (Nat.le_of_ble_eq_true rfl)⟩ xd_MO_reach_2 rfl (fun q0 n1 h1 q1 => ?_)
  obtain ⟨rfl, rfl, rfl⟩ := q1
  have end1 : ∀ b1 b2 : Bool, (b1 || b2) = true → (if b1 then 1 else if b2 then 2 else 0) = (if x_in x 4 then 2 else 1) → XV G (0 + 0) (0 + 0) 37 [(4, .int (xb (x_in x 4))), (0, .ref p), (1, .int x), (2, .int y), (3, .int (xb bw))] [.int (xb b2), .int (xb b1), .ref p] n h := by
    intro b1 b2 hb hth
    refine xv_callVi (pc' := 40) (ci := 6) hF (c_MO_fails K n h p th ma w ln at_ f op mk b1 b2 ho) xq_MO_fails xk_MO_m56 xk_i_MO_fails xk_s_MO_fails (by first | assumption | exact xu_self | (refine (xu_ne (by omega)).trans ?_; first | assumption | exact xu_self | (refine (xu_ne (by omega)).trans ?_; first | assumption | exact xu_self | (refine (xu_ne (by omega)).trans ?_; first | assumption | exact xu_self | (refine (xu_ne (by omega)).trans ?_; first | assumption | exact xu_self))))) rfl ⟨(Nat.le_of_ble_eq_true rfl), (Nat.le_of_ble_eq_true rfl)⟩ rfl rfl (Nat.le_of_ble_eq_true rfl) ⟨(Nat.le_of_ble_eq_true rfl), (Nat.le_of_ble_eq_true rfl)⟩ xd_MO_reach_37 rfl (fun q0 n1 h1 q1 => ?_)
    obtain ⟨rfl, rfl, rfl⟩ := q1
    rw [hth, hb]
    have r3 := r1.mm (th' := if x_in x 4 then 2 else 1) (ma' := ma) (sz' := w)
    refine xv_if_eqB (pc' := 43) (tgt := 45) hF xd_MO_reach_40 (by decide) rfl (fun e2 => ?_) (fun e2 => ?_)
    · cases e2
    · refine xv_iconstN (pc' := 44) 0 hF xd_MO_reach_43 (by decide +kernel) rfl ?_
      refine hR _ _ _ _ _ _ _ (by omega) (by omega) ?_ xd_MO_reach_44
      exact ⟨rfl, mw_fr.rf.x (by omega), ⟨_, _, _, _, _, _, _, _, _, r3⟩, r2.keep (fun q a1 _ _ _ _ _ _ => xu_ne a1)⟩
  refine xv_istore (pc' := 7) hF xd_MO_reach_5 (Nat.le_of_ble_eq_true rfl) rfl rfl ?_
  refine xv_aload_n (pc' := 8) (i := 0) hF xd_MO_reach_7 rfl rfl rfl ?_
  refine xv_iload (pc' := 10) hF xd_MO_reach_8 rfl rfl ?_
  cases hx : x_in x 4 with
  | false =>
    rw [hx] at end1
    refine xv_if_neB (pc' := 13) (tgt := 17) hF xd_MO_reach_10 (by decide) rfl (fun e1 => ?_) (fun e1 => ?_)
    · cases e1
    · refine xv_iconstN (pc' := 14) 1 hF xd_MO_reach_13 (by decide +kernel) rfl ?_
      refine xv_goto (tgt := 18) hF xd_MO_reach_14 (by decide) ?_
      refine xv_topi (v' := xb true) (by decide +kernel) ?_
      refine xv_iload (pc' := 20) hF xd_MO_reach_18 rfl rfl ?_
      refine xv_if_eqB (pc' := 23) (tgt := 36) hF xd_MO_reach_20 (by decide) rfl (fun e2 => ?_) (fun e2 => ?_)
      · refine xv_iconstN (pc' := 37) 0 hF xd_MO_reach_36 (by decide +kernel) rfl ?_
        refine xv_topi (v' := xb false) (by decide +kernel) ?_
        exact xv_loc _ (by repeat (first | exact trivial | refine ⟨rfl, ?_⟩)) (end1 true false rfl rfl)
      · cases e2
  | true =>
    rw [hx, Bool.true_and] at hno
    rw [hx] at end1
    refine xv_if_neB (pc' := 13) (tgt := 17) hF xd_MO_reach_10 (by decide) rfl (fun e1 => ?_) (fun e1 => ?_)
    · refine xv_iconstN (pc' := 18) 0 hF xd_MO_reach_17 (by decide +kernel) rfl ?_
      refine xv_topi (v' := xb false) (by decide +kernel) ?_
      refine xv_iload (pc' := 20) hF xd_MO_reach_18 rfl rfl ?_
      refine xv_if_eqB (pc' := 23) (tgt := 36) hF xd_MO_reach_20 (by decide) rfl (fun e2 => ?_) (fun e2 => ?_)
      · cases e2
      · have bad : XV G (0 + 0) (0 + 0) 32 [(4, .int (xb true)), (0, .ref p), (1, .int x), (2, .int y), (3, .int (xb bw))] [.int (xb false), .ref p] n h := by
          refine xv_iconstN (pc' := 33) 1 hF xd_MO_reach_32 (by decide +kernel) rfl ?_
          refine xv_goto (tgt := 37) hF xd_MO_reach_33 (by decide) ?_
          refine xv_topi (v' := xb true) (by decide +kernel) ?_
          exact xv_loc _ (by repeat (first | exact trivial | refine ⟨rfl, ?_⟩)) (end1 false true rfl rfl)
        refine xv_iload_n (pc' := 24) (i := 2) hF xd_MO_reach_23 rfl rfl rfl ?_
        refine xv_bipushN (pc' := 26) 32 hF xd_MO_reach_24 (by decide +kernel) rfl ?_
        refine xv_callSi (pc' := 29) hF (c_MO_in K n h _ 32) xq_MO_in xk_MO_m52 xk_t_MO_in ⟨(Nat.le_of_ble_eq_true rfl), (Nat.le_of_ble_eq_true rfl)⟩ rfl rfl (Nat.le_of_ble_eq_true rfl) ⟨(Nat.le_of_ble_eq_true rfl), (Nat.le_of_ble_eq_true rfl)⟩ xd_MO_reach_26 rfl (fun q0 n1 h1 q1 => ?_)
        obtain ⟨rfl, rfl, rfl⟩ := q1
        refine xv_if_neB (pc' := 32) (tgt := 36) hF xd_MO_reach_29 (by decide) rfl (fun w0 => ?_) (fun w0 => ?_)
        · rw [w0] at hno
          cases hno
        · exact xv_loc _ (by repeat (first | exact trivial | refine ⟨rfl, ?_⟩)) bad
    · cases e1
set_option maxHeartbeats 4000000 in
set_option maxRecDepth 100000 in
theorem c_MO_distanceO (K : xK) (n : Nat) (h : xH) (p th ma w : Nat) (E : Nat → Nat → Nat → Bool) (Tg : Nat → Nat → Bool) (cs : Nat → Nat) (TX : Nat → Nat → Nat) (SZ SX : Nat → Nat) (x : Int32) (y z : Int32) (r : mo_W K h p th ma w E Tg cs TX SZ SX) (hno : (x_in x 4 && (x_in y 32 && x_in z 32)) = false) : XM K xy_MO_distance xw_MO_distance (xrm 1 23 0 0) [.ref p, .int x, .int y, .int z] n h (x_pi fun r n' h' => n = n' ∧ mw_fr p h h' ∧ mo_W K h' p (if x_in x 4 then 2 else 1) (ma) w (E) (Tg) (cs) (TX) (SZ) (SX)) 0 0 := by
  obtain ⟨⟨ln, at_, f, op, mk, tx, S, so, ba, r1⟩, r2⟩ := id r
  have ho := r1.1
  refine xm_i (by decide +kernel) (Nat.le_of_ble_eq_true rfl) (fun G hF hR => ?_)
  refine xv_iload_n (pc' := 1) (i := 1) hF xd_MO_distance_0 rfl rfl rfl ?_
  refine xv_iconstN (pc' := 2) 4 hF xd_MO_distance_1 (by decide +kernel) rfl ?_
  refine xv_callSi (pc' := 5) hF (c_MO_in K n h _ 4) xq_MO_in xk_MO_m52 xk_t_MO_in ⟨(Nat.le_of_ble_eq_true rfl), (Nat.le_of_ble_eq_true rfl)⟩ rfl rfl (Nat.le_of_ble_eq_true rfl) ⟨(Nat.le_of_ble_eq_true rfl), (Nat.le_of_ble_eq_true rfl)⟩ xd_MO_distance_2 rfl (fun q0 n1 h1 q1 => ?_)
  obtain ⟨rfl, rfl, rfl⟩ := q1
  have end1 : ∀ b1 b2 : Bool, (b1 || b2) = true → (if b1 then 1 else if b2 then 2 else 0) = (if x_in x 4 then 2 else 1) → XV G (0 + 0) (0 + 0) 46 [(4, .int (xb (x_in x 4))), (0, .ref p), (1, .int x), (2, .int y), (3, .int z)] [.int (xb b2), .int (xb b1), .ref p] n h := by
    intro b1 b2 hb hth
    refine xv_callVi (pc' := 49) (ci := 6) hF (c_MO_fails K n h p th ma w ln at_ f op mk b1 b2 ho) xq_MO_fails xk_MO_m56 xk_i_MO_fails xk_s_MO_fails (by first | assumption | exact xu_self | (refine (xu_ne (by omega)).trans ?_; first | assumption | exact xu_self | (refine (xu_ne (by omega)).trans ?_; first | assumption | exact xu_self | (refine (xu_ne (by omega)).trans ?_; first | assumption | exact xu_self | (refine (xu_ne (by omega)).trans ?_; first | assumption | exact xu_self))))) rfl ⟨(Nat.le_of_ble_eq_true rfl), (Nat.le_of_ble_eq_true rfl)⟩ rfl rfl (Nat.le_of_ble_eq_true rfl) ⟨(Nat.le_of_ble_eq_true rfl), (Nat.le_of_ble_eq_true rfl)⟩ xd_MO_distance_46 rfl (fun q0 n1 h1 q1 => ?_)
    obtain ⟨rfl, rfl, rfl⟩ := q1
    rw [hth, hb]
    have r3 := r1.mm (th' := if x_in x 4 then 2 else 1) (ma' := ma) (sz' := w)
    refine xv_if_eqB (pc' := 52) (tgt := 54) hF xd_MO_distance_49 (by decide) rfl (fun e2 => ?_) (fun e2 => ?_)
    · cases e2
    · refine xv_iconstN (pc' := 53) 0 hF xd_MO_distance_52 (by decide +kernel) rfl ?_
      refine hR _ _ _ _ _ _ _ (by omega) (by omega) ?_ xd_MO_distance_53
      exact ⟨rfl, mw_fr.rf.x (by omega), ⟨_, _, _, _, _, _, _, _, _, r3⟩, r2.keep (fun q a1 _ _ _ _ _ _ => xu_ne a1)⟩
  refine xv_istore (pc' := 7) hF xd_MO_distance_5 (Nat.le_of_ble_eq_true rfl) rfl rfl ?_
  refine xv_aload_n (pc' := 8) (i := 0) hF xd_MO_distance_7 rfl rfl rfl ?_
  refine xv_iload (pc' := 10) hF xd_MO_distance_8 rfl rfl ?_
  cases hx : x_in x 4 with
  | false =>
    rw [hx] at end1
    refine xv_if_neB (pc' := 13) (tgt := 17) hF xd_MO_distance_10 (by decide) rfl (fun e1 => ?_) (fun e1 => ?_)
    · cases e1
    · refine xv_iconstN (pc' := 14) 1 hF xd_MO_distance_13 (by decide +kernel) rfl ?_
      refine xv_goto (tgt := 18) hF xd_MO_distance_14 (by decide) ?_
      refine xv_topi (v' := xb true) (by decide +kernel) ?_
      refine xv_iload (pc' := 20) hF xd_MO_distance_18 rfl rfl ?_
      refine xv_if_eqB (pc' := 23) (tgt := 45) hF xd_MO_distance_20 (by decide) rfl (fun e2 => ?_) (fun e2 => ?_)
      · refine xv_iconstN (pc' := 46) 0 hF xd_MO_distance_45 (by decide +kernel) rfl ?_
        refine xv_topi (v' := xb false) (by decide +kernel) ?_
        exact xv_loc _ (by repeat (first | exact trivial | refine ⟨rfl, ?_⟩)) (end1 true false rfl rfl)
      · cases e2
  | true =>
    rw [hx, Bool.true_and] at hno
    rw [hx] at end1
    refine xv_if_neB (pc' := 13) (tgt := 17) hF xd_MO_distance_10 (by decide) rfl (fun e1 => ?_) (fun e1 => ?_)
    · refine xv_iconstN (pc' := 18) 0 hF xd_MO_distance_17 (by decide +kernel) rfl ?_
      refine xv_topi (v' := xb false) (by decide +kernel) ?_
      refine xv_iload (pc' := 20) hF xd_MO_distance_18 rfl rfl ?_
      refine xv_if_eqB (pc' := 23) (tgt := 45) hF xd_MO_distance_20 (by decide) rfl (fun e2 => ?_) (fun e2 => ?_)
      · cases e2
      · have bad : XV G (0 + 0) (0 + 0) 41 [(4, .int (xb true)), (0, .ref p), (1, .int x), (2, .int y), (3, .int z)] [.int (xb false), .ref p] n h := by
          refine xv_iconstN (pc' := 42) 1 hF xd_MO_distance_41 (by decide +kernel) rfl ?_
          refine xv_goto (tgt := 46) hF xd_MO_distance_42 (by decide) ?_
          refine xv_topi (v' := xb true) (by decide +kernel) ?_
          exact xv_loc _ (by repeat (first | exact trivial | refine ⟨rfl, ?_⟩)) (end1 false true rfl rfl)
        refine xv_iload_n (pc' := 24) (i := 2) hF xd_MO_distance_23 rfl rfl rfl ?_
        refine xv_bipushN (pc' := 26) 32 hF xd_MO_distance_24 (by decide +kernel) rfl ?_
        refine xv_callSi (pc' := 29) hF (c_MO_in K n h _ 32) xq_MO_in xk_MO_m52 xk_t_MO_in ⟨(Nat.le_of_ble_eq_true rfl), (Nat.le_of_ble_eq_true rfl)⟩ rfl rfl (Nat.le_of_ble_eq_true rfl) ⟨(Nat.le_of_ble_eq_true rfl), (Nat.le_of_ble_eq_true rfl)⟩ xd_MO_distance_26 rfl (fun q0 n1 h1 q1 => ?_)
        obtain ⟨rfl, rfl, rfl⟩ := q1
        refine xv_if_eqB (pc' := 32) (tgt := 41) hF xd_MO_distance_29 (by decide) rfl (fun w0 => ?_) (fun w0 => ?_)
        · exact xv_loc _ (by repeat (first | exact trivial | refine ⟨rfl, ?_⟩)) bad
        · skip
          refine xv_iload_n (pc' := 33) (i := 3) hF xd_MO_distance_32 rfl rfl rfl ?_
          refine xv_bipushN (pc' := 35) 32 hF xd_MO_distance_33 (by decide +kernel) rfl ?_
          refine xv_callSi (pc' := 38) hF (c_MO_in K n h _ 32) xq_MO_in xk_MO_m52 xk_t_MO_in ⟨(Nat.le_of_ble_eq_true rfl), (Nat.le_of_ble_eq_true rfl)⟩ rfl rfl (Nat.le_of_ble_eq_true rfl) ⟨(Nat.le_of_ble_eq_true rfl), (Nat.le_of_ble_eq_true rfl)⟩ xd_MO_distance_35 rfl (fun q0 n1 h1 q1 => ?_)
          obtain ⟨rfl, rfl, rfl⟩ := q1
          refine xv_if_neB (pc' := 41) (tgt := 45) hF xd_MO_distance_38 (by decide) rfl (fun w1 => ?_) (fun w1 => ?_)
          · rw [w0, w1] at hno
            cases hno
          · exact xv_loc _ (by repeat (first | exact trivial | refine ⟨rfl, ?_⟩)) bad
    · cases e1
