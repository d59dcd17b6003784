/-! the reference: count -/
theorem x_in_no {i t : Nat} (h : t ≤ i) (hi : i < 2 ^ 31) : x_in (nI i) t = false := by
  unfold x_in
  rw [decide_eq_false (p := nI i < nI t) (fun c => by have := (nI_ltI hi (by omega)).mp c; omega), Bool.and_false]
theorem x_in_sub {x : Int32} {a t u : Nat} (hu : a + t ≤ u) (hu2 : u < 2 ^ 31) (h : x_in x u = false) : x_in (x - nI a) t = false := by
  cases e : x_in (x - nI a) t with
  | false => rfl
  | true =>
    obtain ⟨i, hi, e2⟩ := x_in_of (by omega) e
    have e3 : x = nI (i + a) := by rw [← nI_add, ← e2, Int32.sub_add_cancel]
    rw [e3, x_in_nI (by omega) hu2] at h
    cases h
theorem x_in_14 : ∀ k, k < 14 → x_in (nI k - nI 14) 4 = false := by decide +kernel
set_option maxHeartbeats 4000000 in
set_option maxRecDepth 100000 in
theorem c_MO_countO (K : xK) (n : Nat) (h : xH) (p th ma w : Nat) (E : Nat → Nat → Nat → Bool) (Tg : Nat → Nat → Bool) (cs : Nat → Nat) (TX : Nat → Nat → Nat) (SZ SX : Nat → Nat) (x : Int32) (r : mo_W K h p th ma w E Tg cs TX SZ SX) (hno : x_in x 18 = false) : XM K xy_MO_count xw_MO_count (xrm 1 22 0 0) [.ref p, .int x] n h (x_pi fun r n' h' => n = n' ∧ mw_fr p h h' ∧ r = -1 ∧ mo_W K h' p 0 (ma) w (E) (Tg) (cs) (TX) (SZ) (SX)) 0 0 := by
  obtain ⟨⟨ln, at_, f, op, mk, tx, S, so, ba, r1⟩, r2⟩ := id r
  have ho := r1.1
  have n0 : ¬ x = 0 := fun e => by rw [e, ← nI_0, x_in_nI (by decide) (by decide)] at hno; cases hno
  have n1 : ¬ x = nI 1 := fun e => by rw [e, x_in_nI (by decide) (by decide)] at hno; cases hno
  refine xm_i (by decide +kernel) (Nat.le_of_ble_eq_true rfl) (fun G hF hR => ?_)
  refine xv_aload_n (pc' := 1) (i := 0) hF xd_MO_count_0 rfl rfl rfl ?_
  refine xv_iconstN (pc' := 2) 0 hF xd_MO_count_1 (by decide +kernel) rfl ?_
  refine xv_put (pc' := 5) (ci := 6) (ty := xt_MO 0) hF (by first | assumption | exact xu_self | (refine (xu_ne (by omega)).trans ?_; first | assumption | exact xu_self | (refine (xu_ne (by omega)).trans ?_; first | assumption | exact xu_self | (refine (xu_ne (by omega)).trans ?_; first | assumption | exact xu_self | (refine (xu_ne (by omega)).trans ?_; first | assumption | exact xu_self))))) rfl xu_MO xt_MO xo_MO xn_MO 0 (by decide) xk_MO_f48 rfl (by decide +kernel) (by first | rfl | exact xb_nw _ | decide +kernel) (by first | rfl | exact xb_ft _ | decide +kernel) (by exact Nat.le_of_ble_eq_true rfl) (by dsimp only [List.set] <;> rfl) xd_MO_count_2 rfl ?_
  refine xv_iconstN (pc' := 6) 0 hF xd_MO_count_5 (by decide +kernel) rfl ?_
  refine xv_istore_n (pc' := 7) (i := 2) hF xd_MO_count_6 rfl (Nat.le_of_ble_eq_true rfl) rfl rfl ?_
  refine xv_iload_n (pc' := 8) (i := 1) hF xd_MO_count_7 rfl rfl rfl ?_
  have r3 := r1.mm (th' := 0) (ma' := ma) (sz' := w)
  have f3 : mw_fr p h (xu h p (.inr (6, [.int (nI 0), .ref (p + 1), .ref (p + 2), .int (nI ma), .ref (p + 3), .int (nI w), .ref (p + 4), .ref (p + 5), .ref (p + 6), .ref (p + 7), .int (nI ln), .int (nI at_), .int (xm1 f), .int (xb mk), .ref (p + 8), .ref (p + 9), .ref (p + 10), .int (nI op), .ref (p + 11), .ref (p + 12)]))) := mw_fr.rf.x (by omega)
  have r4 : mw_X K (xu h p (.inr (6, [.int (nI 0), .ref (p + 1), .ref (p + 2), .int (nI ma), .ref (p + 3), .int (nI w), .ref (p + 4), .ref (p + 5), .ref (p + 6), .ref (p + 7), .int (nI ln), .int (nI at_), .int (xm1 f), .int (xb mk), .ref (p + 8), .ref (p + 9), .ref (p + 10), .int (nI op), .ref (p + 11), .ref (p + 12)]))) p cs w TX SZ SX := r2.keep (fun q a1 _ _ _ _ _ _ => xu_ne a1)
  generalize xu h p (.inr (6, [.int (nI 0), .ref (p + 1), .ref (p + 2), .int (nI ma), .ref (p + 3), .int (nI w), .ref (p + 4), .ref (p + 5), .ref (p + 6), .ref (p + 7), .int (nI ln), .int (nI at_), .int (xm1 f), .int (xb mk), .ref (p + 8), .ref (p + 9), .ref (p + 10), .int (nI op), .ref (p + 11), .ref (p + 12)])) = h3 at r3 f3 r4 ⊢
  clear ho
  have ho := r3.1
  refine xv_if_ne (pc' := 11) (tgt := 16) hF xd_MO_count_8 (by decide) rfl (fun e1 => ?_) (fun e1 => ?_)
  · refine xv_iload_n (pc' := 17) (i := 1) hF xd_MO_count_16 rfl rfl rfl ?_
    refine xv_iconstN (pc' := 18) 1 hF xd_MO_count_17 (by decide +kernel) rfl ?_
    refine xv_icmp_ne (pc' := 21) (tgt := 26) hF xd_MO_count_18 (by decide) rfl (fun e2 => ?_) (fun e2 => ?_)
    · refine xv_iload_n (pc' := 27) (i := 1) hF xd_MO_count_26 rfl rfl rfl ?_
      refine xv_iconstN (pc' := 28) 2 hF xd_MO_count_27 (by decide +kernel) rfl ?_
      first | refine xv_isubN (pc' := 29) hF (by omega) xd_MO_count_28 rfl ?_ | refine xv_isub (pc' := 29) hF xd_MO_count_28 rfl ?_
      refine xv_iconstN (pc' := 30) 4 hF xd_MO_count_29 (by decide +kernel) rfl ?_
      refine xv_callSi (pc' := 33) hF (c_MO_in K n h3 _ 4) xq_MO_in xk_MO_m52 xk_t_MO_in ⟨(Nat.le_of_ble_eq_true rfl), (Nat.le_of_ble_eq_true rfl)⟩ rfl rfl (Nat.le_of_ble_eq_true rfl) ⟨(Nat.le_of_ble_eq_true rfl), (Nat.le_of_ble_eq_true rfl)⟩ xd_MO_count_30 rfl (fun q0 n5 h5 q5 => ?_)
      obtain ⟨rfl, rfl, rfl⟩ := q5
      rw [x_in_sub (u := 18) (by decide) (by decide) hno]
      refine xv_if_eqB (pc' := 36) (tgt := 45) hF xd_MO_count_33 (by decide) rfl (fun e3 => ?_) (fun e3 => ?_)
      · refine xv_iconstN (pc' := 46) 0 hF xd_MO_count_45 (by decide +kernel) rfl ?_
        refine xv_istore_n (pc' := 47) (i := 3) hF xd_MO_count_46 rfl (Nat.le_of_ble_eq_true rfl) rfl rfl ?_
        refine xv_iload_n (pc' := 48) (i := 3) hF xd_MO_count_47 rfl rfl rfl ?_
        refine xv_sipushN (pc' := 51) 1024 hF xd_MO_count_48 (by decide +kernel) rfl ?_
        refine xv_icmp_geN (pc' := 54) (tgt := 98) hF (by omega) (by omega) xd_MO_count_51 (by decide) rfl (fun e4 => ?_) (fun e4 => ?_)
        · omega
        · refine xv_iload_n (pc' := 55) (i := 1) hF xd_MO_count_54 rfl rfl rfl ?_
          refine xv_bipushN (pc' := 57) 6 hF xd_MO_count_55 (by decide +kernel) rfl ?_
          first | refine xv_isubN (pc' := 58) hF (by omega) xd_MO_count_57 rfl ?_ | refine xv_isub (pc' := 58) hF xd_MO_count_57 rfl ?_
          refine xv_bipushN (pc' := 60) 8 hF xd_MO_count_58 (by decide +kernel) rfl ?_
          refine xv_callSi (pc' := 63) hF (c_MO_in K n h3 _ 8) xq_MO_in xk_MO_m52 xk_t_MO_in ⟨(Nat.le_of_ble_eq_true rfl), (Nat.le_of_ble_eq_true rfl)⟩ rfl rfl (Nat.le_of_ble_eq_true rfl) ⟨(Nat.le_of_ble_eq_true rfl), (Nat.le_of_ble_eq_true rfl)⟩ xd_MO_count_60 rfl (fun q0 n5 h5 q5 => ?_)
          obtain ⟨rfl, rfl, rfl⟩ := q5
          rw [x_in_sub (u := 18) (by decide) (by decide) hno]
          refine xv_if_eqB (pc' := 66) (tgt := 98) hF xd_MO_count_63 (by decide) rfl (fun e5 => ?_) (fun e5 => ?_)
          · refine xv_iconstN (pc' := 99) 0 hF xd_MO_count_98 (by decide +kernel) rfl ?_
            refine xv_istore_n (pc' := 100) (i := 3) hF xd_MO_count_99 rfl (Nat.le_of_ble_eq_true rfl) rfl rfl ?_
            refine xv_iload_n (pc' := 101) (i := 3) hF xd_MO_count_100 rfl rfl rfl ?_
            refine xv_bipushN (pc' := 103) 32 hF xd_MO_count_101 (by decide +kernel) rfl ?_
            refine xv_icmp_geN (pc' := 106) (tgt := 147) hF (by omega) (by omega) xd_MO_count_103 (by decide) rfl (fun e6 => ?_) (fun e6 => ?_)
            · omega
            · refine xv_iload_n (pc' := 107) (i := 1) hF xd_MO_count_106 rfl rfl rfl ?_
              refine xv_bipushN (pc' := 109) 14 hF xd_MO_count_107 (by decide +kernel) rfl ?_
              first | refine xv_isubN (pc' := 110) hF (by omega) xd_MO_count_109 rfl ?_ | refine xv_isub (pc' := 110) hF xd_MO_count_109 rfl ?_
              refine xv_iconstN (pc' := 111) 4 hF xd_MO_count_110 (by decide +kernel) rfl ?_
              refine xv_callSi (pc' := 114) hF (c_MO_in K n h3 _ 4) xq_MO_in xk_MO_m52 xk_t_MO_in ⟨(Nat.le_of_ble_eq_true rfl), (Nat.le_of_ble_eq_true rfl)⟩ rfl rfl (Nat.le_of_ble_eq_true rfl) ⟨(Nat.le_of_ble_eq_true rfl), (Nat.le_of_ble_eq_true rfl)⟩ xd_MO_count_111 rfl (fun q0 n5 h5 q5 => ?_)
              obtain ⟨rfl, rfl, rfl⟩ := q5
              rw [x_in_sub (u := 18) (by decide) (by decide) hno]
              refine xv_if_eqB (pc' := 117) (tgt := 147) hF xd_MO_count_114 (by decide) rfl (fun e7 => ?_) (fun e7 => ?_)
              · refine xv_iload_n (pc' := 148) (i := 1) hF xd_MO_count_147 rfl rfl rfl ?_
                refine xv_bipushN (pc' := 150) 6 hF xd_MO_count_148 (by decide +kernel) rfl ?_
                first | refine xv_isubN (pc' := 151) hF (by omega) xd_MO_count_150 rfl ?_ | refine xv_isub (pc' := 151) hF xd_MO_count_150 rfl ?_
                refine xv_bipushN (pc' := 153) 12 hF xd_MO_count_151 (by decide +kernel) rfl ?_
                refine xv_callSi (pc' := 156) hF (c_MO_in K n h3 _ 12) xq_MO_in xk_MO_m52 xk_t_MO_in ⟨(Nat.le_of_ble_eq_true rfl), (Nat.le_of_ble_eq_true rfl)⟩ rfl rfl (Nat.le_of_ble_eq_true rfl) ⟨(Nat.le_of_ble_eq_true rfl), (Nat.le_of_ble_eq_true rfl)⟩ xd_MO_count_153 rfl (fun q0 n5 h5 q5 => ?_)
                obtain ⟨rfl, rfl, rfl⟩ := q5
                rw [x_in_sub (u := 18) (by decide) (by decide) hno]
                refine xv_if_eqB (pc' := 159) (tgt := 163) hF xd_MO_count_156 (by decide) rfl (fun e8 => ?_) (fun e8 => ?_)
                · refine xv_iconst (pc' := 164) (v := -1) hF xd_MO_count_163 (by decide +kernel) rfl ?_
                  refine hR _ _ _ _ _ _ _ (by omega) (by omega) ?_ xd_MO_count_164
                  exact ⟨rfl, f3, rfl, ⟨_, _, _, _, _, _, _, _, _, r3⟩, r4⟩
                · cases e8
              · cases e7
          · cases e5
      · cases e3
    · exact absurd e2 n1
  · exact absurd e1 n0
set_option maxHeartbeats 4000000 in
set_option maxRecDepth 100000 in
theorem c_PD_countO (K : xK) (n : Nat) (h : xH) (o : Nat) (x : Int32) (hno : x_in x 18 = false) : XM K xy_PD_count xw_PD_count (xrm 2 44 0 0) [.ref o, .int x] n h (x_pi fun r n' h' => r = -1 ∧ n = n' ∧ h = h') 0 0 := by
  refine xm_i (by decide +kernel) (Nat.le_of_ble_eq_true rfl) (fun G hF hR => ?_)
  have fin : XV G 0 0 10 [(0, .ref o), (1, .int x)] [] n h := by
    refine xv_iconst (pc' := 11) (v := -1) hF xd_PD_count_10 (by decide +kernel) rfl ?_
    refine hR _ _ _ _ _ _ _ (by omega) (by omega) ?_ xd_PD_count_11
    exact ⟨rfl, rfl, rfl⟩
  refine xv_iload_n (pc' := 1) (i := 1) hF xd_PD_count_0 rfl rfl rfl ?_
  refine xv_if_lt (pc' := 4) (tgt := 10) hF xd_PD_count_1 (by decide) rfl (fun e1 => ?_) (fun e1 => ?_)
  · exact xv_loc _ (by repeat (first | exact trivial | refine ⟨rfl, ?_⟩)) fin
  · refine xv_iload_n (pc' := 5) (i := 1) hF xd_PD_count_4 rfl rfl rfl ?_
    refine xv_bipushN (pc' := 7) 18 hF xd_PD_count_5 (by decide +kernel) rfl ?_
    refine xv_icmp_lt (pc' := 10) (tgt := 12) hF xd_PD_count_7 (by decide) rfl (fun e2 => ?_) (fun e2 => ?_)
    · unfold x_in at hno
      rw [decide_eq_true (Int32.not_lt.mp e1), decide_eq_true e2] at hno
      cases hno
    · exact xv_loc _ (by repeat (first | exact trivial | refine ⟨rfl, ?_⟩)) fin
