/-! the reference: pairs, not in range -/
set_option maxHeartbeats 4000000 in
set_option maxRecDepth 100000 in
theorem c_MO_pairsO (K : xK) (n : Nat) (h : xH) (p th ma w : Nat) (E : Nat → Nat → Nat → Bool) (Tg : Nat → Nat → Bool) (cs : Nat → Nat) (TX : Nat → Nat → Nat) (SZ SX : Nat → Nat) (x y z : Int32) (r : mo_W K h p th ma w E Tg cs TX SZ SX) (hno : ((x_in x 4 && x_in y 4) && x_in z 5) = false) : XM K xy_MO_pairs xw_MO_pairs (xrm 1 23 0 0) [.ref p, .int x, .int y, .int z] n h (x_pi fun r n' h' => n = n' ∧ mw_fr p h h' ∧ mo_W K h' p (if (x_in x 4 && x_in y 4) then 2 else 1) (ma) w (E) (Tg) (cs) (TX) (SZ) (SX)) 0 0 := by
  obtain ⟨⟨ln, at_, f, op, mk, tx, S, so, ba, r1⟩, r2⟩ := id r
  have ho := r1.1
  refine xm_i (by decide +kernel) (Nat.le_of_ble_eq_true rfl) (fun G hF hR => ?_)
  have end1 : ∀ b1 b2 : Bool, (b1 || b2) = true → (if b1 then 1 else if b2 then 2 else 0) = (if (x_in x 4 && x_in y 4) then 2 else 1) → XV G 0 0 52 [(4, .int (xb (x_in x 4 && x_in y 4))), (0, .ref p), (1, .int x), (2, .int y), (3, .int z)] [.int (xb b2), .int (xb b1), .ref p] n h := by
    intro b1 b2 hb hth
    refine xv_callVi (pc' := 55) (ci := 6) hF (c_MO_fails K n h p th ma w ln at_ f op mk b1 b2 ho) xq_MO_fails xk_MO_m56 xk_i_MO_fails xk_s_MO_fails (by first | assumption | exact xu_self | (refine (xu_ne (by omega)).trans ?_; first | assumption | exact xu_self | (refine (xu_ne (by omega)).trans ?_; first | assumption | exact xu_self | (refine (xu_ne (by omega)).trans ?_; first | assumption | exact xu_self | (refine (xu_ne (by omega)).trans ?_; first | assumption | exact xu_self))))) rfl ⟨(Nat.le_of_ble_eq_true rfl), (Nat.le_of_ble_eq_true rfl)⟩ rfl rfl (Nat.le_of_ble_eq_true rfl) ⟨(Nat.le_of_ble_eq_true rfl), (Nat.le_of_ble_eq_true rfl)⟩ xd_MO_pairs_52 rfl (fun q0 n1 h1 q1 => ?_)
    obtain ⟨rfl, rfl, rfl⟩ := q1
    rw [hth, hb]
    have r3 := r1.mm (th' := if (x_in x 4 && x_in y 4) then 2 else 1) (ma' := ma) (sz' := w)
    refine xv_if_eqB (pc' := 58) (tgt := 60) hF xd_MO_pairs_55 (by decide) rfl (fun e2 => ?_) (fun e2 => ?_)
    · cases e2
    · refine xv_iconstN (pc' := 59) 0 hF xd_MO_pairs_58 (by decide +kernel) rfl ?_
      refine hR _ _ _ _ _ _ _ (by omega) (by omega) ?_ xd_MO_pairs_59
      exact ⟨rfl, mw_fr.rf.x (by omega), ⟨_, _, _, _, _, _, _, _, _, r3⟩, r2.keep (fun q a1 _ _ _ _ _ _ => xu_ne a1)⟩
  have mid : XV G 0 0 21 [(0, .ref p), (1, .int x), (2, .int y), (3, .int z)] [.int (xb (x_in x 4 && x_in y 4))] n h := by
    refine xv_istore (pc' := 23) hF xd_MO_pairs_21 (Nat.le_of_ble_eq_true rfl) rfl rfl ?_
    refine xv_aload_n (pc' := 24) (i := 0) hF xd_MO_pairs_23 rfl rfl rfl ?_
    refine xv_iload (pc' := 26) hF xd_MO_pairs_24 rfl rfl ?_
    cases hx : (x_in x 4 && x_in y 4) with
    | false =>
      rw [hx] at end1
      refine xv_if_neB (pc' := 29) (tgt := 33) hF xd_MO_pairs_26 (by decide) rfl (fun e1 => ?_) (fun e1 => ?_)
      · cases e1
      · refine xv_iconstN (pc' := 30) 1 hF xd_MO_pairs_29 (by decide +kernel) rfl ?_
        refine xv_goto (tgt := 34) hF xd_MO_pairs_30 (by decide) ?_
        refine xv_topi (v' := xb true) (by decide +kernel) ?_
        refine xv_iload (pc' := 36) hF xd_MO_pairs_34 rfl rfl ?_
        refine xv_if_eqB (pc' := 39) (tgt := 51) hF xd_MO_pairs_36 (by decide) rfl (fun e2 => ?_) (fun e2 => ?_)
        · refine xv_iconstN (pc' := 52) 0 hF xd_MO_pairs_51 (by decide +kernel) rfl ?_
          refine xv_topi (v' := xb false) (by decide +kernel) ?_
          exact xv_loc _ (by repeat (first | exact trivial | refine ⟨rfl, ?_⟩)) (end1 true false rfl rfl)
        · cases e2
    | true =>
      rw [hx, Bool.true_and] at hno
      rw [hx] at end1
      refine xv_if_neB (pc' := 29) (tgt := 33) hF xd_MO_pairs_26 (by decide) rfl (fun e1 => ?_) (fun e1 => ?_)
      · refine xv_iconstN (pc' := 34) 0 hF xd_MO_pairs_33 (by decide +kernel) rfl ?_
        refine xv_topi (v' := xb false) (by decide +kernel) ?_
        refine xv_iload (pc' := 36) hF xd_MO_pairs_34 rfl rfl ?_
        refine xv_if_eqB (pc' := 39) (tgt := 51) hF xd_MO_pairs_36 (by decide) rfl (fun e2 => ?_) (fun e2 => ?_)
        · cases e2
        · refine xv_iload_n (pc' := 40) (i := 3) hF xd_MO_pairs_39 rfl rfl rfl ?_
          refine xv_iconstN (pc' := 41) 5 hF xd_MO_pairs_40 (by decide +kernel) rfl ?_
          refine xv_callSi (pc' := 44) hF (c_MO_in K n h _ 5) xq_MO_in xk_MO_m52 xk_t_MO_in ⟨(Nat.le_of_ble_eq_true rfl), (Nat.le_of_ble_eq_true rfl)⟩ rfl rfl (Nat.le_of_ble_eq_true rfl) ⟨(Nat.le_of_ble_eq_true rfl), (Nat.le_of_ble_eq_true rfl)⟩ xd_MO_pairs_41 rfl (fun q0 n1 h1 q1 => ?_)
          obtain ⟨rfl, rfl, rfl⟩ := q1
          rw [hno]
          refine xv_if_neB (pc' := 47) (tgt := 51) hF xd_MO_pairs_44 (by decide) rfl (fun e3 => ?_) (fun e3 => ?_)
          · cases e3
          · refine xv_iconstN (pc' := 48) 1 hF xd_MO_pairs_47 (by decide +kernel) rfl ?_
            refine xv_goto (tgt := 52) hF xd_MO_pairs_48 (by decide) ?_
            refine xv_topi (v' := xb true) (by decide +kernel) ?_
            exact xv_loc _ (by repeat (first | exact trivial | refine ⟨rfl, ?_⟩)) (end1 false true rfl rfl)
      · cases e1
  refine xv_iload_n (pc' := 1) (i := 1) hF xd_MO_pairs_0 rfl rfl rfl ?_
  refine xv_iconstN (pc' := 2) 4 hF xd_MO_pairs_1 (by decide +kernel) rfl ?_
  refine xv_callSi (pc' := 5) hF (c_MO_in K n h _ 4) xq_MO_in xk_MO_m52 xk_t_MO_in ⟨(Nat.le_of_ble_eq_true rfl), (Nat.le_of_ble_eq_true rfl)⟩ rfl rfl (Nat.le_of_ble_eq_true rfl) ⟨(Nat.le_of_ble_eq_true rfl), (Nat.le_of_ble_eq_true rfl)⟩ xd_MO_pairs_2 rfl (fun q0 n1 h1 q1 => ?_)
  obtain ⟨rfl, rfl, rfl⟩ := q1
  refine xv_if_eqB (pc' := 8) (tgt := 20) hF xd_MO_pairs_5 (by decide) rfl (fun e1 => ?_) (fun e1 => ?_)
  · refine xv_iconstN (pc' := 21) 0 hF xd_MO_pairs_20 (by decide +kernel) rfl ?_
    refine xv_topi (v' := xb (x_in x 4 && x_in y 4)) (by rw [e1, Bool.false_and]; decide +kernel) ?_
    exact xv_loc _ (by repeat (first | exact trivial | refine ⟨rfl, ?_⟩)) mid
  · refine xv_iload_n (pc' := 9) (i := 2) hF xd_MO_pairs_8 rfl rfl rfl ?_
    refine xv_iconstN (pc' := 10) 4 hF xd_MO_pairs_9 (by decide +kernel) rfl ?_
    refine xv_callSi (pc' := 13) hF (c_MO_in K n h _ 4) xq_MO_in xk_MO_m52 xk_t_MO_in ⟨(Nat.le_of_ble_eq_true rfl), (Nat.le_of_ble_eq_true rfl)⟩ rfl rfl (Nat.le_of_ble_eq_true rfl) ⟨(Nat.le_of_ble_eq_true rfl), (Nat.le_of_ble_eq_true rfl)⟩ xd_MO_pairs_10 rfl (fun q0 n1 h1 q1 => ?_)
    obtain ⟨rfl, rfl, rfl⟩ := q1
    refine xv_if_eqB (pc' := 16) (tgt := 20) hF xd_MO_pairs_13 (by decide) rfl (fun e2 => ?_) (fun e2 => ?_)
    · refine xv_iconstN (pc' := 21) 0 hF xd_MO_pairs_20 (by decide +kernel) rfl ?_
      refine xv_topi (v' := xb (x_in x 4 && x_in y 4)) (by rw [e2, Bool.and_false]; decide +kernel) ?_
      exact xv_loc _ (by repeat (first | exact trivial | refine ⟨rfl, ?_⟩)) mid
    · refine xv_iconstN (pc' := 17) 1 hF xd_MO_pairs_16 (by decide +kernel) rfl ?_
      refine xv_goto (tgt := 21) hF xd_MO_pairs_17 (by decide) ?_
      refine xv_topi (v' := xb (x_in x 4 && x_in y 4)) (by rw [e1, e2]; decide +kernel) ?_
      exact xv_loc _ (by repeat (first | exact trivial | refine ⟨rfl, ?_⟩)) mid
