theorem sp_le {v m : Nat} (hv : v ≤ 1000000) (hm : m ≤ 1000000) : nI v ≤ xm1 m ↔ v + 1 ≤ m := by
  cases m with
  | zero =>
    have e1 : xm1 0 < 0 := by decide +kernel
    have e2 := nI_pos' (n := v) (by omega)
    exact ⟨fun h => (Int32.lt_irrefl (Int32.lt_of_le_of_lt (Int32.le_trans e2 h) e1)).elim, fun h => by omega⟩
  | succ m => rw [xm1_s, nI_leI (by omega) (by omega)]; omega
set_option maxHeartbeats 4000000 in
set_option maxRecDepth 100000 in
theorem c_MO_span (K : xK) (n : Nat) (h : xH) (p th ma w : Nat) (E : Nat → Nat → Nat → Bool) (Tg : Nat → Nat → Bool) (cs : Nat → Nat) (TX : Nat → Nat → Nat) (SZ SX : Nat → Nat) (s : Nat) (os : List Nat) (r : mo_W K h p th ma w E Tg cs TX SZ SX) (hs4 : s < 4) (hsl : sl_T (TX s) (SZ s) os) : XM K xy_MO_span xw_MO_span (xrm 8 162 0 0) [.ref p, .int (nI s)] n h (x_pi fun r n' h' => n = n' ∧ mw_fr p h h' ∧ mo_W K h' p 0 (ma) w (E) (Tg) (cs) (TX) (SZ) (SX) ∧ ∃ M, pd_mn (oA E Tg os 0) M ∧ r = xm1 (md_sp M 1024)) 0 0 := by
  obtain ⟨⟨ln, at_, f, op, mk, tx, S, so, ba, r1⟩, r2⟩ := id r
  have ho := r1.1
  refine xm_i (by decide +kernel) (Nat.le_of_ble_eq_true rfl) (fun G hF hR => ?_)
  refine xv_aload_n (pc' := 1) (i := 0) hF xd_MO_span_0 rfl rfl rfl ?_
  refine xv_iload_n (pc' := 2) (i := 1) hF xd_MO_span_1 rfl rfl rfl ?_
  refine xv_iconstN (pc' := 3) 4 hF xd_MO_span_2 (by decide +kernel) rfl ?_
  refine xv_callSi (pc' := 6) hF (c_MO_in K n h _ 4) xq_MO_in xk_MO_m52 xk_t_MO_in ⟨(Nat.le_of_ble_eq_true rfl), (Nat.le_of_ble_eq_true rfl)⟩ rfl rfl (Nat.le_of_ble_eq_true rfl) ⟨(Nat.le_of_ble_eq_true rfl), (Nat.le_of_ble_eq_true rfl)⟩ xd_MO_span_3 rfl (fun q0 n1 h1 q1 => ?_)
  obtain ⟨rfl, rfl, rfl⟩ := q1
  rw [x_in_nI hs4 (by decide)]
  refine xv_if_neB (pc' := 9) (tgt := 13) hF xd_MO_span_6 (by decide) rfl (fun e1 => ?_) (fun e1 => ?_)
  · refine xv_iconstN (pc' := 14) 0 hF xd_MO_span_13 (by decide +kernel) rfl ?_
    refine xv_topi (v' := xb false) (by decide +kernel) ?_
    refine xv_iconstN (pc' := 15) 0 hF xd_MO_span_14 (by decide +kernel) rfl ?_
    refine xv_topi (v' := xb false) (by decide +kernel) ?_
    refine xv_callVi (pc' := 18) (ci := 6) hF (c_MO_fails K n h p th ma w ln at_ f op mk false false ho) xq_MO_fails xk_MO_m56 xk_i_MO_fails xk_s_MO_fails (by first | assumption | exact xu_self | (refine (xu_ne (by omega)).trans ?_; first | assumption | exact xu_self | (refine (xu_ne (by omega)).trans ?_; first | assumption | exact xu_self | (refine (xu_ne (by omega)).trans ?_; first | assumption | exact xu_self | (refine (xu_ne (by omega)).trans ?_; first | assumption | exact xu_self))))) rfl ⟨(Nat.le_of_ble_eq_true rfl), (Nat.le_of_ble_eq_true rfl)⟩ rfl rfl (Nat.le_of_ble_eq_true rfl) ⟨(Nat.le_of_ble_eq_true rfl), (Nat.le_of_ble_eq_true rfl)⟩ xd_MO_span_15 rfl (fun q0 n1 h1 q1 => ?_)
    obtain ⟨rfl, rfl, rfl⟩ := q1
    have r3 := r1.mm (th' := 0) (ma' := ma) (sz' := w)
    have f3 : mw_fr p h (xu h p (.inr (6, [.int (nI 0), .ref (p + 1), .ref (p + 2), .int (nI ma), .ref (p + 3), .int (nI w), .ref (p + 4), .ref (p + 5), .ref (p + 6), .ref (p + 7), .int (nI ln), .int (nI at_), .int (xm1 f), .int (xb mk), .ref (p + 8), .ref (p + 9), .ref (p + 10), .int (nI op), .ref (p + 11), .ref (p + 12)]))) := mw_fr.rf.x (by omega)
    have r4 : mw_X K (xu h p (.inr (6, [.int (nI 0), .ref (p + 1), .ref (p + 2), .int (nI ma), .ref (p + 3), .int (nI w), .ref (p + 4), .ref (p + 5), .ref (p + 6), .ref (p + 7), .int (nI ln), .int (nI at_), .int (xm1 f), .int (xb mk), .ref (p + 8), .ref (p + 9), .ref (p + 10), .int (nI op), .ref (p + 11), .ref (p + 12)]))) p cs w TX SZ SX := r2.keep (fun q a1 _ _ _ _ _ _ => xu_ne a1)
    simp only [Bool.false_eq_true, if_false, Bool.or_false]
    generalize xu h p (.inr (6, [.int (nI 0), .ref (p + 1), .ref (p + 2), .int (nI ma), .ref (p + 3), .int (nI w), .ref (p + 4), .ref (p + 5), .ref (p + 6), .ref (p + 7), .int (nI ln), .int (nI at_), .int (xm1 f), .int (xb mk), .ref (p + 8), .ref (p + 9), .ref (p + 10), .int (nI op), .ref (p + 11), .ref (p + 12)])) = h3 at r3 f3 r4 ⊢
    clear ho
    have ho := r3.1
    refine xv_if_eqB (pc' := 21) (tgt := 23) hF xd_MO_span_18 (by decide) rfl (fun e2 => ?_) (fun e2 => ?_)
    · refine xv_aload_n (pc' := 24) (i := 0) hF xd_MO_span_23 rfl rfl rfl ?_
      refine xv_iload_n (pc' := 25) (i := 1) hF xd_MO_span_24 rfl rfl rfl ?_
      refine xv_aload_n (pc' := 26) (i := 0) hF xd_MO_span_25 rfl rfl rfl ?_
      refine xv_get (pc' := 29) (ci := 6) hF (by first | assumption | exact xu_self | (refine (xu_ne (by omega)).trans ?_; first | assumption | exact xu_self | (refine (xu_ne (by omega)).trans ?_; first | assumption | exact xu_self | (refine (xu_ne (by omega)).trans ?_; first | assumption | exact xu_self | (refine (xu_ne (by omega)).trans ?_; first | assumption | exact xu_self))))) rfl xu_MO 18 (by decide) xk_MO_f42 (by rfl) xd_MO_span_26 rfl ?_
      refine xv_callVv (pc' := 32) (ci := 6) hF (c_MO_lengths K n h3 p 0 ma w E Tg cs TX SZ SX s (p + 11) os ⟨⟨_, _, _, _, _, _, _, _, _, r3⟩, r4⟩ hs4 (Or.inl rfl) hsl) xq_MO_lengths xk_MO_m166 xk_i_MO_lengths xk_s_MO_lengths (by first | assumption | exact xu_self | (refine (xu_ne (by omega)).trans ?_; first | assumption | exact xu_self | (refine (xu_ne (by omega)).trans ?_; first | assumption | exact xu_self | (refine (xu_ne (by omega)).trans ?_; first | assumption | exact xu_self | (refine (xu_ne (by omega)).trans ?_; first | assumption | exact xu_self))))) rfl ⟨(Nat.le_of_ble_eq_true rfl), (Nat.le_of_ble_eq_true rfl)⟩ rfl rfl (Nat.le_of_ble_eq_true rfl) ⟨(Nat.le_of_ble_eq_true rfl), (Nat.le_of_ble_eq_true rfl)⟩ xd_MO_span_29 rfl (fun n5 h5 q5 => ?_)
      obtain ⟨rfl, f5, w5, ⟨S5, so5, ba5, ln5, at5, f5', op5, tx5, r5⟩, af, M, ha, hM, hmn⟩ := q5
      have f6 : mw_fr p h h5 := f3.tr (fun q c => f5 q (by omega) (by omega))
      clear ho
      have ho := r5.1
      have hb : ∀ z, z < 1024 → M (z / 32) (z % 32) ≤ 1000000 := fun z hz => (hmn _ _ (by omega) (by omega)).1
      refine xv_iconst (pc' := 33) (v := -1) hF xd_MO_span_32 (by decide +kernel) rfl ?_
      refine xv_istore_n (pc' := 34) (i := 2) hF xd_MO_span_33 rfl (Nat.le_of_ble_eq_true rfl) rfl rfl ?_
      refine xv_iconstN (pc' := 35) 0 hF xd_MO_span_34 (by decide +kernel) rfl ?_
      refine xv_istore_n (pc' := 36) (i := 3) hF xd_MO_span_35 rfl (Nat.le_of_ble_eq_true rfl) rfl rfl ?_
      have loop : ∀ d k, 1024 - k = d → k ≤ 1024 → XV G (0 + 0 + 0 + 0) (0 + 0 + 0 + 0) 36 [(3, .int (nI k)), (2, .int (xm1 (md_sp M k))), (0, .ref p), (1, .int (nI s))] [] n h5 := by
        intro d
        induction d using Nat.strongRecOn with
        | ind d ih =>
          intro k hd hk
          have hle := md_sp_le M k
          refine xv_iload_n (pc' := 37) (i := 3) hF xd_MO_span_36 rfl rfl rfl ?_
          refine xv_sipushN (pc' := 40) 1024 hF xd_MO_span_37 (by decide +kernel) rfl ?_
          refine xv_icmp_geN (pc' := 43) (tgt := 81) hF (by omega) (by omega) xd_MO_span_40 (by decide) rfl (fun e3 => ?_) (fun e3 => ?_)
          · have : k = 1024 := by omega
            subst this
            refine xv_iload_n (pc' := 82) (i := 2) hF xd_MO_span_81 rfl rfl rfl ?_
            refine hR _ _ _ _ _ _ _ (by omega) (by omega) ?_ xd_MO_span_82
            exact ⟨rfl, f6, w5, M, hmn, rfl⟩
          · have hz := hM k e3
            have hz2 := hb k e3
            have nx : md_sp M (k + 1) = if M (k / 32) (k % 32) < 1000000 then max (md_sp M k) (M (k / 32) (k % 32) + 1) else md_sp M k := rfl
            have go := ih _ (by omega) (k + 1) rfl (by omega)
            have keep : md_sp M (k + 1) = md_sp M k → XV G (0 + 0 + 0 + 0) (0 + 0 + 0 + 0) 73 [(3, .int (nI k)), (2, .int (xm1 (md_sp M k))), (0, .ref p), (1, .int (nI s))] [] n h5 := by
              intro hk2
              rw [hk2] at go
              refine xv_iload_n (pc' := 74) (i := 2) hF xd_MO_span_73 rfl rfl rfl ?_
              refine xv_istore_n (pc' := 75) (i := 2) hF xd_MO_span_74 rfl (Nat.le_of_ble_eq_true rfl) rfl rfl ?_
              first | refine xv_iincN (pc' := 78) hF xd_MO_span_75 rfl rfl (Nat.le_of_ble_eq_true rfl) rfl rfl ?_ | refine xv_iinc (pc' := 78) hF xd_MO_span_75 rfl rfl (Nat.le_of_ble_eq_true rfl) rfl rfl ?_
              refine xv_goto (tgt := 36) hF xd_MO_span_78 (by decide) ?_
              exact xv_loc _ (by repeat (first | exact trivial | refine ⟨rfl, ?_⟩)) go
            refine xv_aload_n (pc' := 44) (i := 0) hF xd_MO_span_43 rfl rfl rfl ?_
            refine xv_get (pc' := 47) (ci := 6) hF (by first | assumption | exact xu_self | (refine (xu_ne (by omega)).trans ?_; first | assumption | exact xu_self | (refine (xu_ne (by omega)).trans ?_; first | assumption | exact xu_self | (refine (xu_ne (by omega)).trans ?_; first | assumption | exact xu_self | (refine (xu_ne (by omega)).trans ?_; first | assumption | exact xu_self))))) rfl xu_MO 18 (by decide) xk_MO_f42 (by rfl) xd_MO_span_44 rfl ?_
            refine xv_iload_n (pc' := 48) (i := 3) hF xd_MO_span_47 rfl rfl rfl ?_
            first | refine xv_ialdN (pc' := 49) hF (by first | assumption | exact xu_self | (refine (xu_ne (by omega)).trans ?_; first | assumption | exact xu_self | (refine (xu_ne (by omega)).trans ?_; first | assumption | exact xu_self | (refine (xu_ne (by omega)).trans ?_; first | assumption | exact xu_self | (refine (xu_ne (by omega)).trans ?_; first | assumption | exact xu_self))))) (by omega) (by decide) xd_MO_span_48 rfl ?_ | refine xv_iald (pc' := 49) hF (by first | assumption | exact xu_self | (refine (xu_ne (by omega)).trans ?_; first | assumption | exact xu_self | (refine (xu_ne (by omega)).trans ?_; first | assumption | exact xu_self | (refine (xu_ne (by omega)).trans ?_; first | assumption | exact xu_self | (refine (xu_ne (by omega)).trans ?_; first | assumption | exact xu_self))))) (by omega) xd_MO_span_48 rfl ?_
            refine xv_topi hz ?_
            refine xv_ldc (pc' := 51) hF xk_MO_k96 xd_MO_span_49 rfl ?_
            refine xv_topi (v' := nI 1000000) (by decide +kernel) ?_
            refine xv_icmp_geN (pc' := 54) (tgt := 73) hF (by omega) (by omega) xd_MO_span_51 (by decide) rfl (fun e4 => ?_) (fun e4 => ?_)
            · exact xv_loc _ (by repeat (first | exact trivial | refine ⟨rfl, ?_⟩)) (keep (by rw [nx, if_neg (by omega)]))
            · refine xv_aload_n (pc' := 55) (i := 0) hF xd_MO_span_54 rfl rfl rfl ?_
              refine xv_get (pc' := 58) (ci := 6) hF (by first | assumption | exact xu_self | (refine (xu_ne (by omega)).trans ?_; first | assumption | exact xu_self | (refine (xu_ne (by omega)).trans ?_; first | assumption | exact xu_self | (refine (xu_ne (by omega)).trans ?_; first | assumption | exact xu_self | (refine (xu_ne (by omega)).trans ?_; first | assumption | exact xu_self))))) rfl xu_MO 18 (by decide) xk_MO_f42 (by rfl) xd_MO_span_55 rfl ?_
              refine xv_iload_n (pc' := 59) (i := 3) hF xd_MO_span_58 rfl rfl rfl ?_
              first | refine xv_ialdN (pc' := 60) hF (by first | assumption | exact xu_self | (refine (xu_ne (by omega)).trans ?_; first | assumption | exact xu_self | (refine (xu_ne (by omega)).trans ?_; first | assumption | exact xu_self | (refine (xu_ne (by omega)).trans ?_; first | assumption | exact xu_self | (refine (xu_ne (by omega)).trans ?_; first | assumption | exact xu_self))))) (by omega) (by decide) xd_MO_span_59 rfl ?_ | refine xv_iald (pc' := 60) hF (by first | assumption | exact xu_self | (refine (xu_ne (by omega)).trans ?_; first | assumption | exact xu_self | (refine (xu_ne (by omega)).trans ?_; first | assumption | exact xu_self | (refine (xu_ne (by omega)).trans ?_; first | assumption | exact xu_self | (refine (xu_ne (by omega)).trans ?_; first | assumption | exact xu_self))))) (by omega) xd_MO_span_59 rfl ?_
              refine xv_topi hz ?_
              refine xv_iload_n (pc' := 61) (i := 2) hF xd_MO_span_60 rfl rfl rfl ?_
              refine xv_icmp_le (pc' := 64) (tgt := 73) hF xd_MO_span_61 (by decide) rfl (fun e5 => ?_) (fun e5 => ?_)
              · rw [sp_le (by omega) hle] at e5
                exact xv_loc _ (by repeat (first | exact trivial | refine ⟨rfl, ?_⟩)) (keep (by rw [nx, if_pos e4]; omega))
              · rw [sp_le (by omega) hle] at e5
                refine xv_aload_n (pc' := 65) (i := 0) hF xd_MO_span_64 rfl rfl rfl ?_
                refine xv_get (pc' := 68) (ci := 6) hF (by first | assumption | exact xu_self | (refine (xu_ne (by omega)).trans ?_; first | assumption | exact xu_self | (refine (xu_ne (by omega)).trans ?_; first | assumption | exact xu_self | (refine (xu_ne (by omega)).trans ?_; first | assumption | exact xu_self | (refine (xu_ne (by omega)).trans ?_; first | assumption | exact xu_self))))) rfl xu_MO 18 (by decide) xk_MO_f42 (by rfl) xd_MO_span_65 rfl ?_
                refine xv_iload_n (pc' := 69) (i := 3) hF xd_MO_span_68 rfl rfl rfl ?_
                first | refine xv_ialdN (pc' := 70) hF (by first | assumption | exact xu_self | (refine (xu_ne (by omega)).trans ?_; first | assumption | exact xu_self | (refine (xu_ne (by omega)).trans ?_; first | assumption | exact xu_self | (refine (xu_ne (by omega)).trans ?_; first | assumption | exact xu_self | (refine (xu_ne (by omega)).trans ?_; first | assumption | exact xu_self))))) (by omega) (by decide) xd_MO_span_69 rfl ?_ | refine xv_iald (pc' := 70) hF (by first | assumption | exact xu_self | (refine (xu_ne (by omega)).trans ?_; first | assumption | exact xu_self | (refine (xu_ne (by omega)).trans ?_; first | assumption | exact xu_self | (refine (xu_ne (by omega)).trans ?_; first | assumption | exact xu_self | (refine (xu_ne (by omega)).trans ?_; first | assumption | exact xu_self))))) (by omega) xd_MO_span_69 rfl ?_
                refine xv_topi hz ?_
                rw [show md_sp M (k + 1) = M (k / 32) (k % 32) + 1 by rw [nx, if_pos e4]; omega, xm1_s] at go
                refine xv_goto (tgt := 74) hF xd_MO_span_70 (by decide) ?_
                refine xv_istore_n (pc' := 75) (i := 2) hF xd_MO_span_74 rfl (Nat.le_of_ble_eq_true rfl) rfl rfl ?_
                first | refine xv_iincN (pc' := 78) hF xd_MO_span_75 rfl rfl (Nat.le_of_ble_eq_true rfl) rfl rfl ?_ | refine xv_iinc (pc' := 78) hF xd_MO_span_75 rfl rfl (Nat.le_of_ble_eq_true rfl) rfl rfl ?_
                refine xv_goto (tgt := 36) hF xd_MO_span_78 (by decide) ?_
                exact xv_loc _ (by repeat (first | exact trivial | refine ⟨rfl, ?_⟩)) go
      exact xv_loc _ (by repeat (first | exact trivial | refine ⟨rfl, ?_⟩)) (loop 1024 0 (by omega) (by omega))
    · cases e2
  · cases e1
set_option maxHeartbeats 4000000 in
set_option maxRecDepth 100000 in
theorem c_MO_distance (K : xK) (n : Nat) (h : xH) (p th ma w : Nat) (E : Nat → Nat → Nat → Bool) (Tg : Nat → Nat → Bool) (cs : Nat → Nat) (TX : Nat → Nat → Nat) (SZ SX : Nat → Nat) (s : Nat) (os : List Nat) (i j : Nat) (r : mo_W K h p th ma w E Tg cs TX SZ SX) (hs4 : s < 4) (hsl : sl_T (TX s) (SZ s) os) (hi : i < 32) (hj : j < 32) : XM K xy_MO_distance xw_MO_distance (xrm 8 162 0 0) [.ref p, .int (nI s), .int (nI i), .int (nI j)] n h (x_pi fun r n' h' => n = n' ∧ mw_fr p h h' ∧ mo_W K h' p 0 (ma) w (E) (Tg) (cs) (TX) (SZ) (SX) ∧ ∃ M, pd_mn (oA E Tg os 0) M ∧ r = md_len (M i j)) 0 0 := by
  obtain ⟨⟨ln, at_, f, op, mk, tx, S, so, ba, r1⟩, r2⟩ := id r
  have ho := r1.1
  refine xm_i (by decide +kernel) (Nat.le_of_ble_eq_true rfl) (fun G hF hR => ?_)
  refine xv_iload_n (pc' := 1) (i := 1) hF xd_MO_distance_0 rfl rfl rfl ?_
  refine xv_iconstN (pc' := 2) 4 hF xd_MO_distance_1 (by decide +kernel) rfl ?_
  refine xv_callSi (pc' := 5) hF (c_MO_in K n h _ 4) xq_MO_in xk_MO_m52 xk_t_MO_in ⟨(Nat.le_of_ble_eq_true rfl), (Nat.le_of_ble_eq_true rfl)⟩ rfl rfl (Nat.le_of_ble_eq_true rfl) ⟨(Nat.le_of_ble_eq_true rfl), (Nat.le_of_ble_eq_true rfl)⟩ xd_MO_distance_2 rfl (fun q0 n1 h1 q1 => ?_)
  obtain ⟨rfl, rfl, rfl⟩ := q1
  rw [x_in_nI hs4 (by decide)]
  refine xv_istore (pc' := 7) hF xd_MO_distance_5 (Nat.le_of_ble_eq_true rfl) rfl rfl ?_
  refine xv_aload_n (pc' := 8) (i := 0) hF xd_MO_distance_7 rfl rfl rfl ?_
  refine xv_iload (pc' := 10) hF xd_MO_distance_8 rfl rfl ?_
  refine xv_if_neB (pc' := 13) (tgt := 17) hF xd_MO_distance_10 (by decide) rfl (fun e1 => ?_) (fun e1 => ?_)
  · refine xv_iconstN (pc' := 18) 0 hF xd_MO_distance_17 (by decide +kernel) rfl ?_
    refine xv_topi (v' := xb false) (by decide +kernel) ?_
    refine xv_iload (pc' := 20) hF xd_MO_distance_18 rfl rfl ?_
    refine xv_if_eqB (pc' := 23) (tgt := 45) hF xd_MO_distance_20 (by decide) rfl (fun e9 => ?_) (fun e9 => ?_)
    · cases e9
    · skip
      refine xv_iload_n (pc' := 24) (i := 2) hF xd_MO_distance_23 rfl rfl rfl ?_
      refine xv_bipushN (pc' := 26) 32 hF xd_MO_distance_24 (by decide +kernel) rfl ?_
      refine xv_callSi (pc' := 29) hF (c_MO_in K n h _ 32) xq_MO_in xk_MO_m52 xk_t_MO_in ⟨(Nat.le_of_ble_eq_true rfl), (Nat.le_of_ble_eq_true rfl)⟩ rfl rfl (Nat.le_of_ble_eq_true rfl) ⟨(Nat.le_of_ble_eq_true rfl), (Nat.le_of_ble_eq_true rfl)⟩ xd_MO_distance_26 rfl (fun q0 n1 h1 q1 => ?_)
      obtain ⟨rfl, rfl, rfl⟩ := q1
      rw [x_in_nI hi (by decide)]
      refine xv_if_eqB (pc' := 32) (tgt := 41) hF xd_MO_distance_29 (by decide) rfl (fun e3 => ?_) (fun e3 => ?_)
      · cases e3
      · skip
        refine xv_iload_n (pc' := 33) (i := 3) hF xd_MO_distance_32 rfl rfl rfl ?_
        refine xv_bipushN (pc' := 35) 32 hF xd_MO_distance_33 (by decide +kernel) rfl ?_
        refine xv_callSi (pc' := 38) hF (c_MO_in K n h _ 32) xq_MO_in xk_MO_m52 xk_t_MO_in ⟨(Nat.le_of_ble_eq_true rfl), (Nat.le_of_ble_eq_true rfl)⟩ rfl rfl (Nat.le_of_ble_eq_true rfl) ⟨(Nat.le_of_ble_eq_true rfl), (Nat.le_of_ble_eq_true rfl)⟩ xd_MO_distance_35 rfl (fun q0 n1 h1 q1 => ?_)
        obtain ⟨rfl, rfl, rfl⟩ := q1
        rw [x_in_nI hj (by decide)]
        refine xv_if_neB (pc' := 41) (tgt := 45) hF xd_MO_distance_38 (by decide) rfl (fun e3 => ?_) (fun e3 => ?_)
        · refine xv_iconstN (pc' := 46) 0 hF xd_MO_distance_45 (by decide +kernel) rfl ?_
          refine xv_topi (v' := xb false) (by decide +kernel) ?_
          refine xv_callVi (pc' := 49) (ci := 6) hF (c_MO_fails K n h p th ma w ln at_ f op mk false false ho) xq_MO_fails xk_MO_m56 xk_i_MO_fails xk_s_MO_fails (by first | assumption | exact xu_self | (refine (xu_ne (by omega)).trans ?_; first | assumption | exact xu_self | (refine (xu_ne (by omega)).trans ?_; first | assumption | exact xu_self | (refine (xu_ne (by omega)).trans ?_; first | assumption | exact xu_self | (refine (xu_ne (by omega)).trans ?_; first | assumption | exact xu_self))))) rfl ⟨(Nat.le_of_ble_eq_true rfl), (Nat.le_of_ble_eq_true rfl)⟩ rfl rfl (Nat.le_of_ble_eq_true rfl) ⟨(Nat.le_of_ble_eq_true rfl), (Nat.le_of_ble_eq_true rfl)⟩ xd_MO_distance_46 rfl (fun q0 n1 h1 q1 => ?_)
          obtain ⟨rfl, rfl, rfl⟩ := q1
          have r3 := r1.mm (th' := 0) (ma' := ma) (sz' := w)
          have f3 : mw_fr p h (xu h p (.inr (6, [.int (nI 0), .ref (p + 1), .ref (p + 2), .int (nI ma), .ref (p + 3), .int (nI w), .ref (p + 4), .ref (p + 5), .ref (p + 6), .ref (p + 7), .int (nI ln), .int (nI at_), .int (xm1 f), .int (xb mk), .ref (p + 8), .ref (p + 9), .ref (p + 10), .int (nI op), .ref (p + 11), .ref (p + 12)]))) := mw_fr.rf.x (by omega)
          have r4 : mw_X K (xu h p (.inr (6, [.int (nI 0), .ref (p + 1), .ref (p + 2), .int (nI ma), .ref (p + 3), .int (nI w), .ref (p + 4), .ref (p + 5), .ref (p + 6), .ref (p + 7), .int (nI ln), .int (nI at_), .int (xm1 f), .int (xb mk), .ref (p + 8), .ref (p + 9), .ref (p + 10), .int (nI op), .ref (p + 11), .ref (p + 12)]))) p cs w TX SZ SX := r2.keep (fun q a1 _ _ _ _ _ _ => xu_ne a1)
          simp only [Bool.false_eq_true, if_false, Bool.or_false]
          generalize xu h p (.inr (6, [.int (nI 0), .ref (p + 1), .ref (p + 2), .int (nI ma), .ref (p + 3), .int (nI w), .ref (p + 4), .ref (p + 5), .ref (p + 6), .ref (p + 7), .int (nI ln), .int (nI at_), .int (xm1 f), .int (xb mk), .ref (p + 8), .ref (p + 9), .ref (p + 10), .int (nI op), .ref (p + 11), .ref (p + 12)])) = h3 at r3 f3 r4 ⊢
          clear ho
          have ho := r3.1
          refine xv_if_eqB (pc' := 52) (tgt := 54) hF xd_MO_distance_49 (by decide) rfl (fun e2 => ?_) (fun e2 => ?_)
          · refine xv_aload_n (pc' := 55) (i := 0) hF xd_MO_distance_54 rfl rfl rfl ?_
            refine xv_iload_n (pc' := 56) (i := 1) hF xd_MO_distance_55 rfl rfl rfl ?_
            refine xv_aload_n (pc' := 57) (i := 0) hF xd_MO_distance_56 rfl rfl rfl ?_
            refine xv_get (pc' := 60) (ci := 6) hF (by first | assumption | exact xu_self | (refine (xu_ne (by omega)).trans ?_; first | assumption | exact xu_self | (refine (xu_ne (by omega)).trans ?_; first | assumption | exact xu_self | (refine (xu_ne (by omega)).trans ?_; first | assumption | exact xu_self | (refine (xu_ne (by omega)).trans ?_; first | assumption | exact xu_self))))) rfl xu_MO 18 (by decide) xk_MO_f42 (by rfl) xd_MO_distance_57 rfl ?_
            refine xv_callVv (pc' := 63) (ci := 6) hF (c_MO_lengths K n h3 p 0 ma w E Tg cs TX SZ SX s (p + 11) os ⟨⟨_, _, _, _, _, _, _, _, _, r3⟩, r4⟩ hs4 (Or.inl rfl) hsl) xq_MO_lengths xk_MO_m166 xk_i_MO_lengths xk_s_MO_lengths (by first | assumption | exact xu_self | (refine (xu_ne (by omega)).trans ?_; first | assumption | exact xu_self | (refine (xu_ne (by omega)).trans ?_; first | assumption | exact xu_self | (refine (xu_ne (by omega)).trans ?_; first | assumption | exact xu_self | (refine (xu_ne (by omega)).trans ?_; first | assumption | exact xu_self))))) rfl ⟨(Nat.le_of_ble_eq_true rfl), (Nat.le_of_ble_eq_true rfl)⟩ rfl rfl (Nat.le_of_ble_eq_true rfl) ⟨(Nat.le_of_ble_eq_true rfl), (Nat.le_of_ble_eq_true rfl)⟩ xd_MO_distance_60 rfl (fun n5 h5 q5 => ?_)
            obtain ⟨rfl, f5, w5, ⟨S5, so5, ba5, ln5, at5, f5', op5, tx5, r5⟩, af, M, ha, hM, hmn⟩ := q5
            have f6 : mw_fr p h h5 := f3.tr (fun q c => f5 q (by omega) (by omega))
            clear ho
            have ho := r5.1
            have hb : ∀ z, z < 1024 → M (z / 32) (z % 32) ≤ 1000000 := fun z hz => (hmn _ _ (by omega) (by omega)).1
            have hz := hM (32 * i + j) (by omega)
            have hz2 := hb (32 * i + j) (by omega)
            rw [show (32 * i + j) / 32 = i by omega, show (32 * i + j) % 32 = j by omega] at hz hz2
            refine xv_aload_n (pc' := 64) (i := 0) hF xd_MO_distance_63 rfl rfl rfl ?_
            refine xv_get (pc' := 67) (ci := 6) hF (by first | assumption | exact xu_self | (refine (xu_ne (by omega)).trans ?_; first | assumption | exact xu_self | (refine (xu_ne (by omega)).trans ?_; first | assumption | exact xu_self | (refine (xu_ne (by omega)).trans ?_; first | assumption | exact xu_self | (refine (xu_ne (by omega)).trans ?_; first | assumption | exact xu_self))))) rfl xu_MO 18 (by decide) xk_MO_f42 (by rfl) xd_MO_distance_64 rfl ?_
            refine xv_bipushN (pc' := 69) 32 hF xd_MO_distance_67 (by decide +kernel) rfl ?_
            refine xv_iload_n (pc' := 70) (i := 2) hF xd_MO_distance_69 rfl rfl rfl ?_
            first | refine xv_imulN (pc' := 71) hF xd_MO_distance_70 rfl ?_ | refine xv_imul (pc' := 71) hF xd_MO_distance_70 rfl ?_
            refine xv_iload_n (pc' := 72) (i := 3) hF xd_MO_distance_71 rfl rfl rfl ?_
            first | refine xv_iaddN (pc' := 73) hF xd_MO_distance_72 rfl ?_ | refine xv_iadd (pc' := 73) hF xd_MO_distance_72 rfl ?_
            first | refine xv_ialdN (pc' := 74) hF (by first | assumption | exact xu_self | (refine (xu_ne (by omega)).trans ?_; first | assumption | exact xu_self | (refine (xu_ne (by omega)).trans ?_; first | assumption | exact xu_self | (refine (xu_ne (by omega)).trans ?_; first | assumption | exact xu_self | (refine (xu_ne (by omega)).trans ?_; first | assumption | exact xu_self))))) (by omega) (by decide) xd_MO_distance_73 rfl ?_ | refine xv_iald (pc' := 74) hF (by first | assumption | exact xu_self | (refine (xu_ne (by omega)).trans ?_; first | assumption | exact xu_self | (refine (xu_ne (by omega)).trans ?_; first | assumption | exact xu_self | (refine (xu_ne (by omega)).trans ?_; first | assumption | exact xu_self | (refine (xu_ne (by omega)).trans ?_; first | assumption | exact xu_self))))) (by omega) xd_MO_distance_73 rfl ?_
            refine xv_topi hz ?_
            refine xv_istore (pc' := 76) hF xd_MO_distance_74 (Nat.le_of_ble_eq_true rfl) rfl rfl ?_
            refine xv_iload (pc' := 78) hF xd_MO_distance_76 rfl rfl ?_
            refine xv_ldc (pc' := 80) hF xk_MO_k96 xd_MO_distance_78 rfl ?_
            refine xv_topi (v' := nI 1000000) (by decide +kernel) ?_
            refine xv_icmp_neN (pc' := 83) (tgt := 87) hF (by omega) (by omega) xd_MO_distance_80 (by decide) rfl (fun e5 => ?_) (fun e5 => ?_)
            · refine xv_iload (pc' := 89) hF xd_MO_distance_87 rfl rfl ?_
              refine hR _ _ _ _ _ _ _ (by omega) (by omega) ?_ xd_MO_distance_89
              exact ⟨rfl, f6, w5, M, hmn, by unfold md_len; rw [if_pos (by omega)]⟩
            · refine xv_iconst (pc' := 84) (v := -1) hF xd_MO_distance_83 (by decide +kernel) rfl ?_
              refine xv_goto (tgt := 89) hF xd_MO_distance_84 (by decide) ?_
              refine hR _ _ _ _ _ _ _ (by omega) (by omega) ?_ xd_MO_distance_89
              exact ⟨rfl, f6, w5, M, hmn, by unfold md_len; rw [if_neg (by omega)]⟩
          · cases e2
        · cases e3
  · cases e1
