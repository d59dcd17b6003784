/-! the reference: what is in range -/
def x_in (x : Int32) (t : Nat) : Bool := decide (0 ≤ x) && decide (x < nI t)
theorem x_in_nI {i t : Nat} (h : i < t) (ht : t < 2 ^ 31) : x_in (nI i) t = true := by
  unfold x_in
  rw [decide_eq_true (nI_pos' (by omega)), decide_eq_true ((nI_ltI (by omega) ht).mpr h)]
  rfl
theorem x_in_of {x : Int32} {t : Nat} (ht : t < 2 ^ 31) (h : x_in x t = true) : ∃ i, i < t ∧ x = nI i := by
  unfold x_in at h
  rw [Bool.and_eq_true, decide_eq_true_iff, decide_eq_true_iff] at h
  obtain ⟨i, hi, rfl⟩ := nI_of (x := x) (Int32.not_lt.mpr h.1)
  exact ⟨i, (nI_ltI hi ht).mp h.2, rfl⟩
theorem xm1_m1 {f : Nat} (hf : f < 2 ^ 31) : xm1 f = -1 ↔ f = 0 := by
  constructor
  · intro h
    cases f with
    | zero => rfl
    | succ f =>
      rw [xm1_s] at h
      have := congrArg Int32.toInt h
      rw [nI_toInt (by omega)] at this
      have e2 : (-1 : Int32).toInt = -1 := by decide +kernel
      omega
  · rintro rfl; rfl
set_option maxHeartbeats 4000000 in
set_option maxRecDepth 100000 in
theorem c_MO_in (K : xK) (n : Nat) (h : xH) (x : Int32) (t : Nat) : XM K xy_MO_in xw_MO_in (xrm 0 0 0 0) [.int x, .int (nI t)] n h (x_pi fun r n' h' => r = xb (x_in x t) ∧ n = n' ∧ h = h') 0 0 := by
  refine xm_z (by decide +kernel) (Nat.le_of_ble_eq_true rfl) (fun G hF hR => ?_)
  refine xv_iload_n (pc' := 1) (i := 0) hF xd_MO_in_0 rfl rfl rfl ?_
  refine xv_if_lt (pc' := 4) (tgt := 13) hF xd_MO_in_1 (by decide) rfl (fun e1 => ?_) (fun e1 => ?_)
  · refine xv_iconstN (pc' := 14) 0 hF xd_MO_in_13 (by decide +kernel) rfl ?_
    refine hR _ _ _ _ _ _ _ (by omega) (by omega) ?_ (by first | rfl | exact xb_nw _ | decide +kernel) xd_MO_in_14
    refine ⟨?_, rfl, rfl⟩
    unfold x_in
    rw [decide_eq_false (Int32.not_le.mpr e1), Bool.false_and]
    decide +kernel
  · refine xv_iload_n (pc' := 5) (i := 0) hF xd_MO_in_4 rfl rfl rfl ?_
    refine xv_iload_n (pc' := 6) (i := 1) hF xd_MO_in_5 rfl rfl rfl ?_
    refine xv_icmp_ge (pc' := 9) (tgt := 13) hF xd_MO_in_6 (by decide) rfl (fun e2 => ?_) (fun e2 => ?_)
    · refine xv_iconstN (pc' := 14) 0 hF xd_MO_in_13 (by decide +kernel) rfl ?_
      refine hR _ _ _ _ _ _ _ (by omega) (by omega) ?_ (by first | rfl | exact xb_nw _ | decide +kernel) xd_MO_in_14
      refine ⟨?_, rfl, rfl⟩
      unfold x_in
      rw [decide_eq_false (Int32.not_lt.mpr e2), Bool.and_false]
      decide +kernel
    · refine xv_iconstN (pc' := 10) 1 hF xd_MO_in_9 (by decide +kernel) rfl ?_
      refine xv_goto (tgt := 14) hF xd_MO_in_10 (by decide) ?_
      refine hR _ _ _ _ _ _ _ (by omega) (by omega) ?_ (by first | rfl | exact xb_nw _ | decide +kernel) xd_MO_in_14
      refine ⟨?_, rfl, rfl⟩
      unfold x_in
      rw [decide_eq_true (Int32.not_lt.mp e1), decide_eq_true (Int32.not_le.mp e2)]
      decide +kernel
set_option maxHeartbeats 4000000 in
set_option maxRecDepth 100000 in
theorem c_MO_isLetter (K : xK) (n : Nat) (h : xH) (c : Nat) (hc : c < 2 ^ 31) : XM K xy_MO_isLetter xw_MO_isLetter (xrm 0 0 0 0) [.int (nI c)] n h (x_pi fun r n' h' => r = xb (decide (97 ≤ c ∧ c < 105)) ∧ n = n' ∧ h = h') 0 0 := by
  refine xm_z (by decide +kernel) (Nat.le_of_ble_eq_true rfl) (fun G hF hR => ?_)
  refine xv_iload_n (pc' := 1) (i := 0) hF xd_MO_isLetter_0 rfl rfl rfl ?_
  refine xv_bipushN (pc' := 3) 97 hF xd_MO_isLetter_1 (by decide +kernel) rfl ?_
  refine xv_icmp_ltN (pc' := 6) (tgt := 16) hF (by omega) (by omega) xd_MO_isLetter_3 (by decide) rfl (fun e1 => ?_) (fun e1 => ?_)
  · refine xv_iconstN (pc' := 17) 0 hF xd_MO_isLetter_16 (by decide +kernel) rfl ?_
    refine hR _ _ _ _ _ _ _ (by omega) (by omega) ?_ (by first | rfl | exact xb_nw _ | decide +kernel) xd_MO_isLetter_17
    exact ⟨by rw [decide_eq_false (by omega)]; decide +kernel, rfl, rfl⟩
  · refine xv_iload_n (pc' := 7) (i := 0) hF xd_MO_isLetter_6 rfl rfl rfl ?_
    refine xv_bipushN (pc' := 9) 104 hF xd_MO_isLetter_7 (by decide +kernel) rfl ?_
    refine xv_icmp_gtN (pc' := 12) (tgt := 16) hF (by omega) (by omega) xd_MO_isLetter_9 (by decide) rfl (fun e2 => ?_) (fun e2 => ?_)
    · refine xv_iconstN (pc' := 17) 0 hF xd_MO_isLetter_16 (by decide +kernel) rfl ?_
      refine hR _ _ _ _ _ _ _ (by omega) (by omega) ?_ (by first | rfl | exact xb_nw _ | decide +kernel) xd_MO_isLetter_17
      exact ⟨by rw [decide_eq_false (by omega)]; decide +kernel, rfl, rfl⟩
    · refine xv_iconstN (pc' := 13) 1 hF xd_MO_isLetter_12 (by decide +kernel) rfl ?_
      refine xv_goto (tgt := 17) hF xd_MO_isLetter_13 (by decide) ?_
      refine hR _ _ _ _ _ _ _ (by omega) (by omega) ?_ (by first | rfl | exact xb_nw _ | decide +kernel) xd_MO_isLetter_17
      exact ⟨by rw [decide_eq_true (by omega)]; decide +kernel, rfl, rfl⟩
set_option maxHeartbeats 4000000 in
set_option maxRecDepth 100000 in
theorem c_MO_thrown (K : xK) (n : Nat) (h : xH) (p th ma sz ln at_ f op : Nat) (mk : Bool) (ho : h p = some (.inr (6, [.int (nI th), .ref (p + 1), .ref (p + 2), .int (nI ma), .ref (p + 3), .int (nI sz), .ref (p + 4), .ref (p + 5), .ref (p + 6), .ref (p + 7), .int (nI ln), .int (nI at_), .int (xm1 f), .int (xb mk), .ref (p + 8), .ref (p + 9), .ref (p + 10), .int (nI op), .ref (p + 11), .ref (p + 12)]))) : XM K xy_MO_thrown xw_MO_thrown (xrm 0 0 0 0) [.ref p] n h (x_pi fun r n' h' => r = nI th ∧ n = n' ∧ h = h') 0 0 := by
  refine xm_i (by decide +kernel) (Nat.le_of_ble_eq_true rfl) (fun G hF hR => ?_)
  refine xv_aload_n (pc' := 1) (i := 0) hF xd_MO_thrown_0 rfl rfl rfl ?_
  refine xv_get (pc' := 4) (ci := 6) hF (by first | assumption | exact xu_self | (refine (xu_ne (by omega)).trans ?_; first | assumption | exact xu_self | (refine (xu_ne (by omega)).trans ?_; first | assumption | exact xu_self | (refine (xu_ne (by omega)).trans ?_; first | assumption | exact xu_self | (refine (xu_ne (by omega)).trans ?_; first | assumption | exact xu_self))))) rfl xu_MO 0 (by decide) xk_MO_f48 (by rfl) xd_MO_thrown_1 rfl ?_
  refine hR _ _ _ _ _ _ _ (by omega) (by omega) ?_ xd_MO_thrown_4
  exact ⟨rfl, rfl, rfl⟩
set_option maxHeartbeats 4000000 in
set_option maxRecDepth 100000 in
theorem c_MO_fails (K : xK) (n : Nat) (h : xH) (p th ma sz ln at_ f op : Nat) (mk : Bool) (b1 b2 : Bool) (ho : h p = some (.inr (6, [.int (nI th), .ref (p + 1), .ref (p + 2), .int (nI ma), .ref (p + 3), .int (nI sz), .ref (p + 4), .ref (p + 5), .ref (p + 6), .ref (p + 7), .int (nI ln), .int (nI at_), .int (xm1 f), .int (xb mk), .ref (p + 8), .ref (p + 9), .ref (p + 10), .int (nI op), .ref (p + 11), .ref (p + 12)]))) : XM K xy_MO_fails xw_MO_fails (xrm 0 0 0 0) [.ref p, .int (xb b1), .int (xb b2)] n h (x_pi fun r n' h' => r = xb (b1 || b2) ∧ n = n' ∧ h' = xu h p (.inr (6, [.int (nI (if b1 then 1 else if b2 then 2 else 0)), .ref (p + 1), .ref (p + 2), .int (nI ma), .ref (p + 3), .int (nI sz), .ref (p + 4), .ref (p + 5), .ref (p + 6), .ref (p + 7), .int (nI ln), .int (nI at_), .int (xm1 f), .int (xb mk), .ref (p + 8), .ref (p + 9), .ref (p + 10), .int (nI op), .ref (p + 11), .ref (p + 12)]))) 0 0 := by
  refine xm_z (by decide +kernel) (Nat.le_of_ble_eq_true rfl) (fun G hF hR => ?_)
  refine xv_aload_n (pc' := 1) (i := 0) hF xd_MO_fails_0 rfl rfl rfl ?_
  refine xv_iload_n (pc' := 2) (i := 1) hF xd_MO_fails_1 rfl rfl rfl ?_
  cases b1 with
  | true =>
    refine xv_if_eqB (pc' := 5) (tgt := 9) hF xd_MO_fails_2 (by decide) rfl (fun e => ?_) (fun e => ?_)
    · cases e
    · refine xv_iconstN (pc' := 6) 1 hF xd_MO_fails_5 (by decide +kernel) rfl ?_
      refine xv_goto (tgt := 18) hF xd_MO_fails_6 (by decide) ?_
      refine xv_put (pc' := 21) (ci := 6) (ty := xt_MO 0) hF (by first | assumption | exact xu_self | (refine (xu_ne (by omega)).trans ?_; first | assumption | exact xu_self | (refine (xu_ne (by omega)).trans ?_; first | assumption | exact xu_self | (refine (xu_ne (by omega)).trans ?_; first | assumption | exact xu_self | (refine (xu_ne (by omega)).trans ?_; first | assumption | exact xu_self))))) rfl xu_MO xt_MO xo_MO xn_MO 0 (by decide) xk_MO_f48 rfl (by decide +kernel) (by first | rfl | exact xb_nw _ | decide +kernel) (by first | rfl | exact xb_ft _ | decide +kernel) (by exact Nat.le_of_ble_eq_true rfl) (by dsimp only [List.set] <;> rfl) xd_MO_fails_18 rfl ?_
      refine xv_aload_n (pc' := 22) (i := 0) hF xd_MO_fails_21 rfl rfl rfl ?_
      refine xv_get (pc' := 25) (ci := 6) hF (by first | assumption | exact xu_self | (refine (xu_ne (by omega)).trans ?_; first | assumption | exact xu_self | (refine (xu_ne (by omega)).trans ?_; first | assumption | exact xu_self | (refine (xu_ne (by omega)).trans ?_; first | assumption | exact xu_self | (refine (xu_ne (by omega)).trans ?_; first | assumption | exact xu_self))))) rfl xu_MO 0 (by decide) xk_MO_f48 (by rfl) xd_MO_fails_22 rfl ?_
      refine xv_if_leN (pc' := 28) (tgt := 32) hF (by omega) xd_MO_fails_25 (by decide) rfl (fun e2 => ?_) (fun e2 => ?_)
      · omega
      · refine xv_iconstN (pc' := 29) 1 hF xd_MO_fails_28 (by decide +kernel) rfl ?_
        refine xv_goto (tgt := 33) hF xd_MO_fails_29 (by decide) ?_
        refine hR _ _ _ _ _ _ _ (by omega) (by omega) ?_ (by first | rfl | exact xb_nw _ | decide +kernel) xd_MO_fails_33
        exact ⟨by rw [Bool.true_or]; decide +kernel, rfl, rfl⟩
  | false =>
    refine xv_if_eqB (pc' := 5) (tgt := 9) hF xd_MO_fails_2 (by decide) rfl (fun e => ?_) (fun e => ?_)
    · refine xv_iload_n (pc' := 10) (i := 2) hF xd_MO_fails_9 rfl rfl rfl ?_
      cases b2 with
      | true =>
        refine xv_if_eqB (pc' := 13) (tgt := 17) hF xd_MO_fails_10 (by decide) rfl (fun e3 => ?_) (fun e3 => ?_)
        · cases e3
        · refine xv_iconstN (pc' := 14) 2 hF xd_MO_fails_13 (by decide +kernel) rfl ?_
          refine xv_goto (tgt := 18) hF xd_MO_fails_14 (by decide) ?_
          refine xv_put (pc' := 21) (ci := 6) (ty := xt_MO 0) hF (by first | assumption | exact xu_self | (refine (xu_ne (by omega)).trans ?_; first | assumption | exact xu_self | (refine (xu_ne (by omega)).trans ?_; first | assumption | exact xu_self | (refine (xu_ne (by omega)).trans ?_; first | assumption | exact xu_self | (refine (xu_ne (by omega)).trans ?_; first | assumption | exact xu_self))))) rfl xu_MO xt_MO xo_MO xn_MO 0 (by decide) xk_MO_f48 rfl (by decide +kernel) (by first | rfl | exact xb_nw _ | decide +kernel) (by first | rfl | exact xb_ft _ | decide +kernel) (by exact Nat.le_of_ble_eq_true rfl) (by dsimp only [List.set] <;> rfl) xd_MO_fails_18 rfl ?_
          refine xv_aload_n (pc' := 22) (i := 0) hF xd_MO_fails_21 rfl rfl rfl ?_
          refine xv_get (pc' := 25) (ci := 6) hF (by first | assumption | exact xu_self | (refine (xu_ne (by omega)).trans ?_; first | assumption | exact xu_self | (refine (xu_ne (by omega)).trans ?_; first | assumption | exact xu_self | (refine (xu_ne (by omega)).trans ?_; first | assumption | exact xu_self | (refine (xu_ne (by omega)).trans ?_; first | assumption | exact xu_self))))) rfl xu_MO 0 (by decide) xk_MO_f48 (by rfl) xd_MO_fails_22 rfl ?_
          refine xv_if_leN (pc' := 28) (tgt := 32) hF (by omega) xd_MO_fails_25 (by decide) rfl (fun e2 => ?_) (fun e2 => ?_)
          · omega
          · refine xv_iconstN (pc' := 29) 1 hF xd_MO_fails_28 (by decide +kernel) rfl ?_
            refine xv_goto (tgt := 33) hF xd_MO_fails_29 (by decide) ?_
            refine hR _ _ _ _ _ _ _ (by omega) (by omega) ?_ (by first | rfl | exact xb_nw _ | decide +kernel) xd_MO_fails_33
            exact ⟨by decide +kernel, rfl, rfl⟩
      | false =>
        refine xv_if_eqB (pc' := 13) (tgt := 17) hF xd_MO_fails_10 (by decide) rfl (fun e3 => ?_) (fun e3 => ?_)
        · refine xv_iconstN (pc' := 18) 0 hF xd_MO_fails_17 (by decide +kernel) rfl ?_
          refine xv_put (pc' := 21) (ci := 6) (ty := xt_MO 0) hF (by first | assumption | exact xu_self | (refine (xu_ne (by omega)).trans ?_; first | assumption | exact xu_self | (refine (xu_ne (by omega)).trans ?_; first | assumption | exact xu_self | (refine (xu_ne (by omega)).trans ?_; first | assumption | exact xu_self | (refine (xu_ne (by omega)).trans ?_; first | assumption | exact xu_self))))) rfl xu_MO xt_MO xo_MO xn_MO 0 (by decide) xk_MO_f48 rfl (by decide +kernel) (by first | rfl | exact xb_nw _ | decide +kernel) (by first | rfl | exact xb_ft _ | decide +kernel) (by exact Nat.le_of_ble_eq_true rfl) (by dsimp only [List.set] <;> rfl) xd_MO_fails_18 rfl ?_
          refine xv_aload_n (pc' := 22) (i := 0) hF xd_MO_fails_21 rfl rfl rfl ?_
          refine xv_get (pc' := 25) (ci := 6) hF (by first | assumption | exact xu_self | (refine (xu_ne (by omega)).trans ?_; first | assumption | exact xu_self | (refine (xu_ne (by omega)).trans ?_; first | assumption | exact xu_self | (refine (xu_ne (by omega)).trans ?_; first | assumption | exact xu_self | (refine (xu_ne (by omega)).trans ?_; first | assumption | exact xu_self))))) rfl xu_MO 0 (by decide) xk_MO_f48 (by rfl) xd_MO_fails_22 rfl ?_
          refine xv_if_leN (pc' := 28) (tgt := 32) hF (by omega) xd_MO_fails_25 (by decide) rfl (fun e2 => ?_) (fun e2 => ?_)
          · refine xv_iconstN (pc' := 33) 0 hF xd_MO_fails_32 (by decide +kernel) rfl ?_
            refine hR _ _ _ _ _ _ _ (by omega) (by omega) ?_ (by first | rfl | exact xb_nw _ | decide +kernel) xd_MO_fails_33
            exact ⟨by decide +kernel, rfl, rfl⟩
          · omega
        · cases e3
    · cases e
set_option maxHeartbeats 4000000 in
set_option maxRecDepth 100000 in
theorem c_MO_goes (K : xK) (n : Nat) (h : xH) (p th ma sz ln at_ f op : Nat) (mk : Bool) (ho : h p = some (.inr (6, [.int (nI th), .ref (p + 1), .ref (p + 2), .int (nI ma), .ref (p + 3), .int (nI sz), .ref (p + 4), .ref (p + 5), .ref (p + 6), .ref (p + 7), .int (nI ln), .int (nI at_), .int (xm1 f), .int (xb mk), .ref (p + 8), .ref (p + 9), .ref (p + 10), .int (nI op), .ref (p + 11), .ref (p + 12)]))) (hf : f < 1000) : XM K xy_MO_goes xw_MO_goes (xrm 0 0 0 0) [.ref p] n h (x_pi fun r n' h' => r = xb (decide (f = 0)) ∧ n = n' ∧ h = h') 0 0 := by
  refine xm_z (by decide +kernel) (Nat.le_of_ble_eq_true rfl) (fun G hF hR => ?_)
  refine xv_aload_n (pc' := 1) (i := 0) hF xd_MO_goes_0 rfl rfl rfl ?_
  refine xv_get (pc' := 4) (ci := 6) hF (by first | assumption | exact xu_self | (refine (xu_ne (by omega)).trans ?_; first | assumption | exact xu_self | (refine (xu_ne (by omega)).trans ?_; first | assumption | exact xu_self | (refine (xu_ne (by omega)).trans ?_; first | assumption | exact xu_self | (refine (xu_ne (by omega)).trans ?_; first | assumption | exact xu_self))))) rfl xu_MO 12 (by decide) xk_MO_f78 (by rfl) xd_MO_goes_1 rfl ?_
  refine xv_iconst (pc' := 5) (v := -1) hF xd_MO_goes_4 (by decide +kernel) rfl ?_
  refine xv_icmp_ne (pc' := 8) (tgt := 12) hF xd_MO_goes_5 (by decide) rfl (fun e => ?_) (fun e => ?_)
  · rw [xm1_m1 (by omega)] at e
    refine xv_iconstN (pc' := 13) 0 hF xd_MO_goes_12 (by decide +kernel) rfl ?_
    refine hR _ _ _ _ _ _ _ (by omega) (by omega) ?_ (by first | rfl | exact xb_nw _ | decide +kernel) xd_MO_goes_13
    exact ⟨by rw [decide_eq_false e]; decide +kernel, rfl, rfl⟩
  · rw [xm1_m1 (by omega)] at e
    refine xv_iconstN (pc' := 9) 1 hF xd_MO_goes_8 (by decide +kernel) rfl ?_
    refine xv_goto (tgt := 13) hF xd_MO_goes_9 (by decide) ?_
    refine hR _ _ _ _ _ _ _ (by omega) (by omega) ?_ (by first | rfl | exact xb_nw _ | decide +kernel) xd_MO_goes_13
    exact ⟨by rw [decide_eq_true e]; decide +kernel, rfl, rfl⟩
set_option maxHeartbeats 4000000 in
set_option maxRecDepth 100000 in
theorem c_MO_fail (K : xK) (n : Nat) (h : xH) (p th ma sz ln at_ f op : Nat) (mk : Bool) (ho : h p = some (.inr (6, [.int (nI th), .ref (p + 1), .ref (p + 2), .int (nI ma), .ref (p + 3), .int (nI sz), .ref (p + 4), .ref (p + 5), .ref (p + 6), .ref (p + 7), .int (nI ln), .int (nI at_), .int (xm1 f), .int (xb mk), .ref (p + 8), .ref (p + 9), .ref (p + 10), .int (nI op), .ref (p + 11), .ref (p + 12)]))) (hf : f < 1000) : XM K xy_MO_fail xw_MO_fail (xrm 0 0 0 0) [.ref p] n h (x_pv fun n' h' => n = n' ∧ h' = xu h p (.inr (6, [.int (nI th), .ref (p + 1), .ref (p + 2), .int (nI ma), .ref (p + 3), .int (nI sz), .ref (p + 4), .ref (p + 5), .ref (p + 6), .ref (p + 7), .int (nI ln), .int (nI at_), .int (xm1 (if f = 0 then at_ + 1 else f)), .int (xb mk), .ref (p + 8), .ref (p + 9), .ref (p + 10), .int (nI op), .ref (p + 11), .ref (p + 12)]))) 0 0 := by
  refine xm_v (by decide +kernel) (Nat.le_of_ble_eq_true rfl) (fun G hF hR => ?_)
  refine xv_aload_n (pc' := 1) (i := 0) hF xd_MO_fail_0 rfl rfl rfl ?_
  refine xv_aload_n (pc' := 2) (i := 0) hF xd_MO_fail_1 rfl rfl rfl ?_
  refine xv_get (pc' := 5) (ci := 6) hF (by first | assumption | exact xu_self | (refine (xu_ne (by omega)).trans ?_; first | assumption | exact xu_self | (refine (xu_ne (by omega)).trans ?_; first | assumption | exact xu_self | (refine (xu_ne (by omega)).trans ?_; first | assumption | exact xu_self | (refine (xu_ne (by omega)).trans ?_; first | assumption | exact xu_self))))) rfl xu_MO 12 (by decide) xk_MO_f78 (by rfl) xd_MO_fail_2 rfl ?_
  refine xv_iconst (pc' := 6) (v := -1) hF xd_MO_fail_5 (by decide +kernel) rfl ?_
  refine xv_icmp_ne (pc' := 9) (tgt := 16) hF xd_MO_fail_6 (by decide) rfl (fun e => ?_) (fun e => ?_)
  · rw [xm1_m1 (by omega)] at e
    refine xv_aload_n (pc' := 17) (i := 0) hF xd_MO_fail_16 rfl rfl rfl ?_
    refine xv_get (pc' := 20) (ci := 6) hF (by first | assumption | exact xu_self | (refine (xu_ne (by omega)).trans ?_; first | assumption | exact xu_self | (refine (xu_ne (by omega)).trans ?_; first | assumption | exact xu_self | (refine (xu_ne (by omega)).trans ?_; first | assumption | exact xu_self | (refine (xu_ne (by omega)).trans ?_; first | assumption | exact xu_self))))) rfl xu_MO 12 (by decide) xk_MO_f78 (by rfl) xd_MO_fail_17 rfl ?_
    refine xv_put (pc' := 23) (ci := 6) (ty := xt_MO 12) hF (by first | assumption | exact xu_self | (refine (xu_ne (by omega)).trans ?_; first | assumption | exact xu_self | (refine (xu_ne (by omega)).trans ?_; first | assumption | exact xu_self | (refine (xu_ne (by omega)).trans ?_; first | assumption | exact xu_self | (refine (xu_ne (by omega)).trans ?_; first | assumption | exact xu_self))))) rfl xu_MO xt_MO xo_MO xn_MO 12 (by decide) xk_MO_f78 rfl (by decide +kernel) (by first | rfl | exact xb_nw _ | decide +kernel) (by first | rfl | exact xb_ft _ | decide +kernel) (by exact Nat.le_of_ble_eq_true rfl) (by dsimp only [List.set] <;> rfl) xd_MO_fail_20 rfl ?_
    refine hR _ _ _ _ _ _ (by omega) (by omega) ?_ xd_MO_fail_23
    exact ⟨rfl, by rw [if_neg e]⟩
  · rw [xm1_m1 (by omega)] at e
    refine xv_aload_n (pc' := 10) (i := 0) hF xd_MO_fail_9 rfl rfl rfl ?_
    refine xv_get (pc' := 13) (ci := 6) hF (by first | assumption | exact xu_self | (refine (xu_ne (by omega)).trans ?_; first | assumption | exact xu_self | (refine (xu_ne (by omega)).trans ?_; first | assumption | exact xu_self | (refine (xu_ne (by omega)).trans ?_; first | assumption | exact xu_self | (refine (xu_ne (by omega)).trans ?_; first | assumption | exact xu_self))))) rfl xu_MO 11 (by decide) xk_MO_f72 (by rfl) xd_MO_fail_10 rfl ?_
    refine xv_goto (tgt := 20) hF xd_MO_fail_13 (by decide) ?_
    refine xv_topi (v' := xm1 (at_ + 1)) (xm1_s at_).symm ?_
    refine xv_put (pc' := 23) (ci := 6) (ty := xt_MO 12) hF (by first | assumption | exact xu_self | (refine (xu_ne (by omega)).trans ?_; first | assumption | exact xu_self | (refine (xu_ne (by omega)).trans ?_; first | assumption | exact xu_self | (refine (xu_ne (by omega)).trans ?_; first | assumption | exact xu_self | (refine (xu_ne (by omega)).trans ?_; first | assumption | exact xu_self))))) rfl xu_MO xt_MO xo_MO xn_MO 12 (by decide) xk_MO_f78 rfl (by decide +kernel) (by first | rfl | exact xb_nw _ | decide +kernel) (by first | rfl | exact xb_ft _ | decide +kernel) (by exact Nat.le_of_ble_eq_true rfl) (by dsimp only [List.set] <;> rfl) xd_MO_fail_20 rfl ?_
    refine hR _ _ _ _ _ _ (by omega) (by omega) ?_ xd_MO_fail_23
    exact ⟨rfl, by rw [if_pos e]⟩
set_option maxHeartbeats 4000000 in
set_option maxRecDepth 100000 in
theorem c_MO_now (K : xK) (n : Nat) (h : xH) (p th ma sz ln at_ f op : Nat) (mk : Bool) (ho : h p = some (.inr (6, [.int (nI th), .ref (p + 1), .ref (p + 2), .int (nI ma), .ref (p + 3), .int (nI sz), .ref (p + 4), .ref (p + 5), .ref (p + 6), .ref (p + 7), .int (nI ln), .int (nI at_), .int (xm1 f), .int (xb mk), .ref (p + 8), .ref (p + 9), .ref (p + 10), .int (nI op), .ref (p + 11), .ref (p + 12)]))) (tf : Nat → Int32) (tx : Nat → Nat) (ht : h (p + 7) = some (.inl (K.2.2.1 0, 101, .inl tf))) (htx : ∀ i, i < ln → tf i = nI (tx i)) (hln : ln ≤ 100) (hat : at_ < 1000) : XM K xy_MO_now xw_MO_now (xrm 0 0 0 0) [.ref p] n h (x_pi fun r n' h' => r = nI (if at_ < ln then tx at_ else 0) ∧ n = n' ∧ h = h') 0 0 := by
  refine xm_i (by decide +kernel) (Nat.le_of_ble_eq_true rfl) (fun G hF hR => ?_)
  refine xv_aload_n (pc' := 1) (i := 0) hF xd_MO_now_0 rfl rfl rfl ?_
  refine xv_get (pc' := 4) (ci := 6) hF (by first | assumption | exact xu_self | (refine (xu_ne (by omega)).trans ?_; first | assumption | exact xu_self | (refine (xu_ne (by omega)).trans ?_; first | assumption | exact xu_self | (refine (xu_ne (by omega)).trans ?_; first | assumption | exact xu_self | (refine (xu_ne (by omega)).trans ?_; first | assumption | exact xu_self))))) rfl xu_MO 11 (by decide) xk_MO_f72 (by rfl) xd_MO_now_1 rfl ?_
  refine xv_aload_n (pc' := 5) (i := 0) hF xd_MO_now_4 rfl rfl rfl ?_
  refine xv_get (pc' := 8) (ci := 6) hF (by first | assumption | exact xu_self | (refine (xu_ne (by omega)).trans ?_; first | assumption | exact xu_self | (refine (xu_ne (by omega)).trans ?_; first | assumption | exact xu_self | (refine (xu_ne (by omega)).trans ?_; first | assumption | exact xu_self | (refine (xu_ne (by omega)).trans ?_; first | assumption | exact xu_self))))) rfl xu_MO 10 (by decide) xk_MO_f75 (by rfl) xd_MO_now_5 rfl ?_
  refine xv_icmp_geN (pc' := 11) (tgt := 23) hF (by omega) (by omega) xd_MO_now_8 (by decide) rfl (fun e => ?_) (fun e => ?_)
  · refine xv_iconstN (pc' := 24) 0 hF xd_MO_now_23 (by decide +kernel) rfl ?_
    refine hR _ _ _ _ _ _ _ (by omega) (by omega) ?_ xd_MO_now_24
    exact ⟨by rw [if_neg (by omega)], rfl, rfl⟩
  · refine xv_aload_n (pc' := 12) (i := 0) hF xd_MO_now_11 rfl rfl rfl ?_
    refine xv_get (pc' := 15) (ci := 6) hF (by first | assumption | exact xu_self | (refine (xu_ne (by omega)).trans ?_; first | assumption | exact xu_self | (refine (xu_ne (by omega)).trans ?_; first | assumption | exact xu_self | (refine (xu_ne (by omega)).trans ?_; first | assumption | exact xu_self | (refine (xu_ne (by omega)).trans ?_; first | assumption | exact xu_self))))) rfl xu_MO 9 (by decide) xk_MO_f29 (by rfl) xd_MO_now_12 rfl ?_
    refine xv_aload_n (pc' := 16) (i := 0) hF xd_MO_now_15 rfl rfl rfl ?_
    refine xv_get (pc' := 19) (ci := 6) hF (by first | assumption | exact xu_self | (refine (xu_ne (by omega)).trans ?_; first | assumption | exact xu_self | (refine (xu_ne (by omega)).trans ?_; first | assumption | exact xu_self | (refine (xu_ne (by omega)).trans ?_; first | assumption | exact xu_self | (refine (xu_ne (by omega)).trans ?_; first | assumption | exact xu_self))))) rfl xu_MO 11 (by decide) xk_MO_f72 (by rfl) xd_MO_now_16 rfl ?_
    first | refine xv_ialdN (pc' := 20) hF (by first | assumption | exact xu_self | (refine (xu_ne (by omega)).trans ?_; first | assumption | exact xu_self | (refine (xu_ne (by omega)).trans ?_; first | assumption | exact xu_self | (refine (xu_ne (by omega)).trans ?_; first | assumption | exact xu_self | (refine (xu_ne (by omega)).trans ?_; first | assumption | exact xu_self))))) (by omega) (by decide) xd_MO_now_19 rfl ?_ | refine xv_iald (pc' := 20) hF (by first | assumption | exact xu_self | (refine (xu_ne (by omega)).trans ?_; first | assumption | exact xu_self | (refine (xu_ne (by omega)).trans ?_; first | assumption | exact xu_self | (refine (xu_ne (by omega)).trans ?_; first | assumption | exact xu_self | (refine (xu_ne (by omega)).trans ?_; first | assumption | exact xu_self))))) (by omega) xd_MO_now_19 rfl ?_
    refine xv_goto (tgt := 24) hF xd_MO_now_20 (by decide) ?_
    refine hR _ _ _ _ _ _ _ (by omega) (by omega) ?_ xd_MO_now_24
    exact ⟨by rw [if_pos (by omega)]; exact htx _ e, rfl, rfl⟩
