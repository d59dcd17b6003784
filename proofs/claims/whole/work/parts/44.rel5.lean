/-! Relation: what is asked of it -/
set_option maxHeartbeats 4000000 in
set_option maxRecDepth 100000 in
theorem c_RE_sourcesOf (K : xK) (n : Nat) (h : xH) (a j : Nat) (M : Nat → Nat → Nat) (hr : re_R K h a M) (hj : j < 32) : XM K xy_RE_sourcesOf xw_RE_sourcesOf (xrm 1 21 0 0) [.ref a, .int (nI j)] n h (x_pi fun r n' h' => (∀ i, i < 32 → bt r i = decide (M i j < 1000000)) ∧ n = n' ∧ h = h') 0 0 := by
  obtain ⟨f, g, ⟨ha, hf, hg⟩, hM⟩ := hr
  refine xm_i (by decide +kernel) (Nat.le_of_ble_eq_true rfl) (fun G hF hR => ?_)
  refine xv_iconstN (pc' := 1) 0 hF xd_RE_sourcesOf_0 (by decide +kernel) rfl ?_
  refine xv_istore_n (pc' := 2) (i := 2) hF xd_RE_sourcesOf_1 rfl (Nat.le_of_ble_eq_true rfl) rfl rfl ?_
  refine xv_iconstN (pc' := 3) 0 hF xd_RE_sourcesOf_2 (by decide +kernel) rfl ?_
  refine xv_istore_n (pc' := 4) (i := 3) hF xd_RE_sourcesOf_3 rfl (Nat.le_of_ble_eq_true rfl) rfl rfl ?_
  have loop : ∀ d t r, 32 - t = d → t ≤ 32 → (∀ i, i < 32 → bt r i = (decide (i < t) && decide (M i j < 1000000))) → XV G 0 0 4 [(3, .int (nI t)), (2, .int r), (0, .ref a), (1, .int (nI j))] [] n h := by
    intro d
    induction d using Nat.strongRecOn with
    | ind d ih =>
      intro t r hd ht hb
      refine xv_iload_n (pc' := 5) (i := 3) hF xd_RE_sourcesOf_4 rfl rfl rfl ?_
      refine xv_bipushN (pc' := 7) 32 hF xd_RE_sourcesOf_5 (by decide +kernel) rfl ?_
      refine xv_icmp_geN (pc' := 10) (tgt := 35) hF (by omega) (by omega) xd_RE_sourcesOf_7 (by decide) rfl (fun e => ?_) (fun e => ?_)
      · refine xv_iload_n (pc' := 36) (i := 2) hF xd_RE_sourcesOf_35 rfl rfl rfl ?_
        refine hR _ _ _ _ _ _ _ (by omega) (by omega) ?_ xd_RE_sourcesOf_36
        refine ⟨fun i hi => ?_, rfl, rfl⟩
        rw [hb i hi]
        simp [show i < t by omega]
      · refine xv_aload_n (pc' := 11) (i := 0) hF xd_RE_sourcesOf_10 rfl rfl rfl ?_
        refine xv_get (pc' := 14) (ci := 2) hF (by first | assumption | exact xu_self | (refine (xu_ne (by omega)).trans ?_; first | assumption | exact xu_self | (refine (xu_ne (by omega)).trans ?_; first | assumption | exact xu_self | (refine (xu_ne (by omega)).trans ?_; first | assumption | exact xu_self | (refine (xu_ne (by omega)).trans ?_; first | assumption | exact xu_self))))) rfl xu_RE 0 (by decide) xk_RE_f9 (by rfl) xd_RE_sourcesOf_11 rfl ?_
        refine xv_iload_n (pc' := 15) (i := 3) hF xd_RE_sourcesOf_14 rfl rfl rfl ?_
        first | refine xv_ialdN (pc' := 16) hF (by first | assumption | exact xu_self | (refine (xu_ne (by omega)).trans ?_; first | assumption | exact xu_self | (refine (xu_ne (by omega)).trans ?_; first | assumption | exact xu_self | (refine (xu_ne (by omega)).trans ?_; first | assumption | exact xu_self | (refine (xu_ne (by omega)).trans ?_; first | assumption | exact xu_self))))) (by omega) (by decide) xd_RE_sourcesOf_15 rfl ?_ | refine xv_iald (pc' := 16) hF (by first | assumption | exact xu_self | (refine (xu_ne (by omega)).trans ?_; first | assumption | exact xu_self | (refine (xu_ne (by omega)).trans ?_; first | assumption | exact xu_self | (refine (xu_ne (by omega)).trans ?_; first | assumption | exact xu_self | (refine (xu_ne (by omega)).trans ?_; first | assumption | exact xu_self))))) (by omega) xd_RE_sourcesOf_15 rfl ?_
        refine xv_iload_n (pc' := 17) (i := 1) hF xd_RE_sourcesOf_16 rfl rfl rfl ?_
        refine xv_callSNi (pc' := 20) hF (c_PD_isIn K n h (f t) j hj) xq_PD_isIn xk_RE_m24 xk_t_PD_isIn ⟨(Nat.le_of_ble_eq_true rfl), (Nat.le_of_ble_eq_true rfl)⟩ rfl rfl (Nat.le_of_ble_eq_true rfl) ⟨(Nat.le_of_ble_eq_true rfl), (Nat.le_of_ble_eq_true rfl)⟩ xd_RE_sourcesOf_17 rfl (fun r2 n3 h3 p3 => ?_)
        obtain ⟨rfl, rfl, rfl⟩ := p3
        refine xv_if_eqB (pc' := 23) (tgt := 29) hF xd_RE_sourcesOf_20 (by decide) rfl (fun e5 => ?_) (fun e5 => ?_)
        · rw [(hM t j e hj).1] at e5
          have e5 := of_decide_eq_false e5
          first | refine xv_iincN (pc' := 32) hF xd_RE_sourcesOf_29 rfl rfl (Nat.le_of_ble_eq_true rfl) rfl rfl ?_ | refine xv_iinc (pc' := 32) hF xd_RE_sourcesOf_29 rfl rfl (Nat.le_of_ble_eq_true rfl) rfl rfl ?_
          refine xv_goto (tgt := 4) hF xd_RE_sourcesOf_32 (by decide) ?_
          refine xv_loc _ (by repeat (first | exact trivial | refine ⟨rfl, ?_⟩)) (ih _ (by omega) (t + 1) _ rfl (by omega) ?_)
          intro i hi
          rw [hb i hi]
          by_cases c0 : i = t
          · subst c0; simp [e5]
          · have : i < t + 1 ↔ i < t := by omega
            simp only [this]
        · rw [(hM t j e hj).1] at e5
          have e5 := of_decide_eq_true e5
          refine xv_iload_n (pc' := 24) (i := 2) hF xd_RE_sourcesOf_23 rfl rfl rfl ?_
          refine xv_iconstN (pc' := 25) 1 hF xd_RE_sourcesOf_24 (by decide +kernel) rfl ?_
          refine xv_iload_n (pc' := 26) (i := 3) hF xd_RE_sourcesOf_25 rfl rfl rfl ?_
          refine xv_ishl (pc' := 27) hF xd_RE_sourcesOf_26 rfl ?_
          refine xv_ior (pc' := 28) hF xd_RE_sourcesOf_27 rfl ?_
          refine xv_istore_n (pc' := 29) (i := 2) hF xd_RE_sourcesOf_28 rfl (Nat.le_of_ble_eq_true rfl) rfl rfl ?_
          first | refine xv_iincN (pc' := 32) hF xd_RE_sourcesOf_29 rfl rfl (Nat.le_of_ble_eq_true rfl) rfl rfl ?_ | refine xv_iinc (pc' := 32) hF xd_RE_sourcesOf_29 rfl rfl (Nat.le_of_ble_eq_true rfl) rfl rfl ?_
          refine xv_goto (tgt := 4) hF xd_RE_sourcesOf_32 (by decide) ?_
          refine xv_loc _ (by repeat (first | exact trivial | refine ⟨rfl, ?_⟩)) (ih _ (by omega) (t + 1) _ rfl (by omega) ?_)
          intro i hi
          rw [b_or, hb i hi, bt_oneN t e i hi]
          by_cases c0 : i = t
          · subst c0; simp [e5]
          · have : i < t + 1 ↔ i < t := by omega
            simp [this, c0]
  refine xv_loc _ (by repeat (first | exact trivial | refine ⟨rfl, ?_⟩)) (loop 32 0 _ (by omega) (by omega) ?_)
  intro i hi
  rw [show nI 0 = 0 from nI_0, b_0]
  simp
/-! the greatest length, one more (0: none) -/
def md_sp (M : Nat → Nat → Nat) : Nat → Nat
  | 0 => 0
  | k + 1 => if M (k / 32) (k % 32) < 1000000 then max (md_sp M k) (M (k / 32) (k % 32) + 1) else md_sp M k
theorem md_sp_le (M : Nat → Nat → Nat) : ∀ k, md_sp M k ≤ 1000000
  | 0 => Nat.zero_le _
  | k + 1 => by
    have := md_sp_le M k
    unfold md_sp
    split
    · exact Nat.max_le.mpr ⟨this, by omega⟩
    · exact this
theorem xm1_lt {s t : Nat} (hs : s ≤ 1000000) (ht : t ≤ 1000000) : xm1 s < xm1 t ↔ s < t := by
  have key : ∀ u, u ≤ 1000000 → (xm1 u).toInt = (u : Int) - 1 := by
    intro u hu
    unfold xm1
    split
    · rename_i h; rw [h]; decide +kernel
    · rw [nI_toInt (by omega)]; omega
  rw [Int32.lt_iff_toInt_lt, key s hs, key t ht]
  omega
theorem md_sp_s (M : Nat → Nat → Nat) (k : Nat) : (if xm1 (md_sp M k) < md_len (M (k / 32) (k % 32)) then md_len (M (k / 32) (k % 32)) else xm1 (md_sp M k)) = xm1 (md_sp M (k + 1)) := by
  have h0 := md_sp_le M k
  show _ = xm1 (if M (k / 32) (k % 32) < 1000000 then _ else _)
  by_cases c : M (k / 32) (k % 32) < 1000000
  · have e : md_len (M (k / 32) (k % 32)) = xm1 (M (k / 32) (k % 32) + 1) := by
      unfold md_len xm1
      rw [if_pos c, if_neg (by omega)]
      rfl
    rw [if_pos c, e]
    by_cases c2 : md_sp M k < M (k / 32) (k % 32) + 1
    · rw [if_pos ((xm1_lt h0 (by omega)).mpr c2), Nat.max_eq_right (by omega)]
    · rw [if_neg (fun h => c2 ((xm1_lt h0 (by omega)).mp h)), Nat.max_eq_left (by omega)]
  · have e : md_len (M (k / 32) (k % 32)) = xm1 0 := by
      unfold md_len xm1
      rw [if_neg c, if_pos rfl]
    rw [if_neg c, e, if_neg (fun h => by have := (xm1_lt h0 (by omega)).mp h; omega)]
set_option maxHeartbeats 4000000 in
set_option maxRecDepth 100000 in
theorem c_RE_greatestLength (K : xK) (n : Nat) (h : xH) (a : Nat) (M : Nat → Nat → Nat) (hr : re_R K h a M) : XM K xy_RE_greatestLength xw_RE_greatestLength (xrm 2 44 0 0) [.ref a] n h (x_pi fun r n' h' => r = xm1 (md_sp M 1024) ∧ n = n' ∧ h = h') 0 0 := by
  obtain ⟨f, g, ⟨ha, hf, hg⟩, hM⟩ := id hr
  refine xm_i (by decide +kernel) (Nat.le_of_ble_eq_true rfl) (fun G hF hR => ?_)
  refine xv_iconst (pc' := 1) (v := -1) hF xd_RE_greatestLength_0 (by decide +kernel) rfl ?_
  refine xv_istore_n (pc' := 2) (i := 1) hF xd_RE_greatestLength_1 rfl (Nat.le_of_ble_eq_true rfl) rfl rfl ?_
  refine xv_iconstN (pc' := 3) 0 hF xd_RE_greatestLength_2 (by decide +kernel) rfl ?_
  refine xv_istore_n (pc' := 4) (i := 2) hF xd_RE_greatestLength_3 rfl (Nat.le_of_ble_eq_true rfl) rfl rfl ?_
  have loop : ∀ d t, 32 - t = d → t ≤ 32 → XV G 0 0 4 [(2, .int (nI t)), (1, .int (xm1 (md_sp M (t * 32)))), (0, .ref a)] [] n h := by
    intro d
    induction d using Nat.strongRecOn with
    | ind d ih =>
      intro t hd ht
      refine xv_iload_n (pc' := 5) (i := 2) hF xd_RE_greatestLength_4 rfl rfl rfl ?_
      refine xv_bipushN (pc' := 7) 32 hF xd_RE_greatestLength_5 (by decide +kernel) rfl ?_
      refine xv_icmp_geN (pc' := 10) (tgt := 41) hF (by omega) (by omega) xd_RE_greatestLength_7 (by decide) rfl (fun e => ?_) (fun e => ?_)
      · refine xv_iload_n (pc' := 42) (i := 1) hF xd_RE_greatestLength_41 rfl rfl rfl ?_
        refine hR _ _ _ _ _ _ _ (by omega) (by omega) ?_ xd_RE_greatestLength_42
        have : t = 32 := by omega
        subst this
        exact ⟨rfl, rfl, rfl⟩
      · refine xv_iconstN (pc' := 11) 0 hF xd_RE_greatestLength_10 (by decide +kernel) rfl ?_
        refine xv_istore_n (pc' := 12) (i := 3) hF xd_RE_greatestLength_11 rfl (Nat.le_of_ble_eq_true rfl) rfl rfl ?_
        have loop2 : ∀ d2 u, 32 - u = d2 → u ≤ 32 → XV G 0 0 12 [(3, .int (nI u)), (2, .int (nI t)), (1, .int (xm1 (md_sp M (t * 32 + u)))), (0, .ref a)] [] n h := by
          intro d2
          induction d2 using Nat.strongRecOn with
          | ind d2 ih2 =>
            intro u hd2 hu
            refine xv_iload_n (pc' := 13) (i := 3) hF xd_RE_greatestLength_12 rfl rfl rfl ?_
            refine xv_bipushN (pc' := 15) 32 hF xd_RE_greatestLength_13 (by decide +kernel) rfl ?_
            refine xv_icmp_geN (pc' := 18) (tgt := 35) hF (by omega) (by omega) xd_RE_greatestLength_15 (by decide) rfl (fun e3 => ?_) (fun e3 => ?_)
            · first | refine xv_iincN (pc' := 38) hF xd_RE_greatestLength_35 rfl rfl (Nat.le_of_ble_eq_true rfl) rfl rfl ?_ | refine xv_iinc (pc' := 38) hF xd_RE_greatestLength_35 rfl rfl (Nat.le_of_ble_eq_true rfl) rfl rfl ?_
              refine xv_goto (tgt := 4) hF xd_RE_greatestLength_38 (by decide) ?_
              have : t * 32 + u = (t + 1) * 32 := by omega
              rw [this]
              exact xv_loc _ (by repeat (first | exact trivial | refine ⟨rfl, ?_⟩)) (ih _ (by omega) (t + 1) rfl (by omega))
            · refine xv_iload_n (pc' := 19) (i := 1) hF xd_RE_greatestLength_18 rfl rfl rfl ?_
              refine xv_aload_n (pc' := 20) (i := 0) hF xd_RE_greatestLength_19 rfl rfl rfl ?_
              refine xv_iload_n (pc' := 21) (i := 2) hF xd_RE_greatestLength_20 rfl rfl rfl ?_
              refine xv_iload_n (pc' := 22) (i := 3) hF xd_RE_greatestLength_21 rfl rfl rfl ?_
              refine xv_callVi (pc' := 25) (ci := 2) hF (c_RE_lengthOf K n h a t u M hr e e3) xq_RE_lengthOf xk_RE_m45 xk_i_RE_lengthOf xk_s_RE_lengthOf (by first | assumption | exact xu_self | (refine (xu_ne (by omega)).trans ?_; first | assumption | exact xu_self | (refine (xu_ne (by omega)).trans ?_; first | assumption | exact xu_self | (refine (xu_ne (by omega)).trans ?_; first | assumption | exact xu_self | (refine (xu_ne (by omega)).trans ?_; first | assumption | exact xu_self))))) rfl ⟨(Nat.le_of_ble_eq_true rfl), (Nat.le_of_ble_eq_true rfl)⟩ rfl rfl (Nat.le_of_ble_eq_true rfl) ⟨(Nat.le_of_ble_eq_true rfl), (Nat.le_of_ble_eq_true rfl)⟩ xd_RE_greatestLength_22 rfl (fun r n3 h3 p3 => ?_)
              obtain ⟨rfl, rfl, rfl⟩ := p3
              refine xv_mmax (pc' := 28) hF xk_RE_m48 xk_t_JM_max xk_n_JM xk_c_JM_max (Nat.le_of_ble_eq_true rfl) (Nat.le_of_ble_eq_true rfl) (Nat.le_of_ble_eq_true rfl) (Nat.le_of_ble_eq_true rfl) xd_RE_greatestLength_25 rfl ?_
              refine xv_topi (v' := xm1 (md_sp M (t * 32 + (u + 1)))) ?_ ?_
              · have := md_sp_s M (t * 32 + u)
                rw [show (t * 32 + u) / 32 = t by omega, show (t * 32 + u) % 32 = u by omega] at this
                exact this
              · refine xv_istore_n (pc' := 29) (i := 1) hF xd_RE_greatestLength_28 rfl (Nat.le_of_ble_eq_true rfl) rfl rfl ?_
                first | refine xv_iincN (pc' := 32) hF xd_RE_greatestLength_29 rfl rfl (Nat.le_of_ble_eq_true rfl) rfl rfl ?_ | refine xv_iinc (pc' := 32) hF xd_RE_greatestLength_29 rfl rfl (Nat.le_of_ble_eq_true rfl) rfl rfl ?_
                refine xv_goto (tgt := 12) hF xd_RE_greatestLength_32 (by decide) ?_
                exact xv_loc _ (by repeat (first | exact trivial | refine ⟨rfl, ?_⟩)) (ih2 _ (by omega) (u + 1) rfl (by omega))
        exact xv_loc _ (by repeat (first | exact trivial | refine ⟨rfl, ?_⟩)) (loop2 32 0 (by omega) (by omega))
  exact xv_loc _ (by repeat (first | exact trivial | refine ⟨rfl, ?_⟩)) (loop 32 0 (by omega) (by omega))
/-! counted pairs: k counts the places of the square -/
def md_cn (P : Nat → Nat → Bool) (k : Nat) : Nat := bc_n (fun z => P (z / 32) (z % 32)) k
theorem md_cn_row (P : Nat → Nat → Bool) (t : Nat) : md_cn P ((t + 1) * 32) = md_cn P (t * 32) + bc_n (P t) 32 := by
  unfold md_cn
  rw [show (t + 1) * 32 = t * 32 + 32 by omega, bc_add]
  congr 1
  refine bc_congr fun i hi => ?_
  rw [show (t * 32 + i) / 32 = t by omega, show (t * 32 + i) % 32 = i by omega]
theorem md_cn_le (P : Nat → Nat → Bool) (k : Nat) : md_cn P k ≤ k := bc_le _ k
set_option maxHeartbeats 4000000 in
set_option maxRecDepth 100000 in
theorem c_RE_pairCount (K : xK) (n : Nat) (h : xH) (a : Nat) (M : Nat → Nat → Nat) (hr : re_R K h a M) : XM K xy_RE_pairCount xw_RE_pairCount (xrm 1 20 0 0) [.ref a] n h (x_pi fun r n' h' => r = nI (md_cn (fun i j => decide (M i j < 1000000)) 1024) ∧ n = n' ∧ h = h') 0 0 := by
  obtain ⟨f, g, ⟨ha, hf, hg⟩, hM⟩ := hr
  refine xm_i (by decide +kernel) (Nat.le_of_ble_eq_true rfl) (fun G hF hR => ?_)
  refine xv_iconstN (pc' := 1) 0 hF xd_RE_pairCount_0 (by decide +kernel) rfl ?_
  refine xv_istore_n (pc' := 2) (i := 1) hF xd_RE_pairCount_1 rfl (Nat.le_of_ble_eq_true rfl) rfl rfl ?_
  refine xv_iconstN (pc' := 3) 0 hF xd_RE_pairCount_2 (by decide +kernel) rfl ?_
  refine xv_istore_n (pc' := 4) (i := 2) hF xd_RE_pairCount_3 rfl (Nat.le_of_ble_eq_true rfl) rfl rfl ?_
  have loop : ∀ d t, 32 - t = d → t ≤ 32 → XV G 0 0 4 [(2, .int (nI t)), (1, .int (nI (md_cn (fun i j => decide (M i j < 1000000)) (t * 32)))), (0, .ref a)] [] n h := by
    intro d
    induction d using Nat.strongRecOn with
    | ind d ih =>
      intro t hd ht
      refine xv_iload_n (pc' := 5) (i := 2) hF xd_RE_pairCount_4 rfl rfl rfl ?_
      refine xv_bipushN (pc' := 7) 32 hF xd_RE_pairCount_5 (by decide +kernel) rfl ?_
      refine xv_icmp_geN (pc' := 10) (tgt := 28) hF (by omega) (by omega) xd_RE_pairCount_7 (by decide) rfl (fun e => ?_) (fun e => ?_)
      · refine xv_iload_n (pc' := 29) (i := 1) hF xd_RE_pairCount_28 rfl rfl rfl ?_
        refine hR _ _ _ _ _ _ _ (by omega) (by omega) ?_ xd_RE_pairCount_29
        have : t = 32 := by omega
        subst this
        exact ⟨rfl, rfl, rfl⟩
      · refine xv_iload_n (pc' := 11) (i := 1) hF xd_RE_pairCount_10 rfl rfl rfl ?_
        refine xv_aload_n (pc' := 12) (i := 0) hF xd_RE_pairCount_11 rfl rfl rfl ?_
        refine xv_get (pc' := 15) (ci := 2) hF (by first | assumption | exact xu_self | (refine (xu_ne (by omega)).trans ?_; first | assumption | exact xu_self | (refine (xu_ne (by omega)).trans ?_; first | assumption | exact xu_self | (refine (xu_ne (by omega)).trans ?_; first | assumption | exact xu_self | (refine (xu_ne (by omega)).trans ?_; first | assumption | exact xu_self))))) rfl xu_RE 0 (by decide) xk_RE_f9 (by rfl) xd_RE_pairCount_12 rfl ?_
        refine xv_iload_n (pc' := 16) (i := 2) hF xd_RE_pairCount_15 rfl rfl rfl ?_
        first | refine xv_ialdN (pc' := 17) hF (by first | assumption | exact xu_self | (refine (xu_ne (by omega)).trans ?_; first | assumption | exact xu_self | (refine (xu_ne (by omega)).trans ?_; first | assumption | exact xu_self | (refine (xu_ne (by omega)).trans ?_; first | assumption | exact xu_self | (refine (xu_ne (by omega)).trans ?_; first | assumption | exact xu_self))))) (by omega) (by decide) xd_RE_pairCount_16 rfl ?_ | refine xv_iald (pc' := 17) hF (by first | assumption | exact xu_self | (refine (xu_ne (by omega)).trans ?_; first | assumption | exact xu_self | (refine (xu_ne (by omega)).trans ?_; first | assumption | exact xu_self | (refine (xu_ne (by omega)).trans ?_; first | assumption | exact xu_self | (refine (xu_ne (by omega)).trans ?_; first | assumption | exact xu_self))))) (by omega) xd_RE_pairCount_16 rfl ?_
        refine xv_callSi (pc' := 20) hF (c_JI_bitCount K n h (f t)) xq_JI_bitCount xk_RE_m53 xk_t_JI_bitCount ⟨(Nat.le_of_ble_eq_true rfl), (Nat.le_of_ble_eq_true rfl)⟩ rfl rfl (Nat.le_of_ble_eq_true rfl) ⟨(Nat.le_of_ble_eq_true rfl), (Nat.le_of_ble_eq_true rfl)⟩ xd_RE_pairCount_17 rfl (fun r n3 h3 p3 => ?_)
        obtain ⟨rfl, rfl, rfl⟩ := p3
        first | refine xv_iaddN (pc' := 21) hF xd_RE_pairCount_20 rfl ?_ | refine xv_iadd (pc' := 21) hF xd_RE_pairCount_20 rfl ?_
        refine xv_topi (v' := nI (md_cn (fun i j => decide (M i j < 1000000)) ((t + 1) * 32))) ?_ ?_
        · rw [md_cn_row, bc_congr (fun i hi => (hM t i e hi).1)]
        · refine xv_istore_n (pc' := 22) (i := 1) hF xd_RE_pairCount_21 rfl (Nat.le_of_ble_eq_true rfl) rfl rfl ?_
          first | refine xv_iincN (pc' := 25) hF xd_RE_pairCount_22 rfl rfl (Nat.le_of_ble_eq_true rfl) rfl rfl ?_ | refine xv_iinc (pc' := 25) hF xd_RE_pairCount_22 rfl rfl (Nat.le_of_ble_eq_true rfl) rfl rfl ?_
          refine xv_goto (tgt := 4) hF xd_RE_pairCount_25 (by decide) ?_
          exact xv_loc _ (by repeat (first | exact trivial | refine ⟨rfl, ?_⟩)) (ih _ (by omega) (t + 1) rfl (by omega))
  exact xv_loc _ (by repeat (first | exact trivial | refine ⟨rfl, ?_⟩)) (loop 32 0 (by omega) (by omega))
set_option maxHeartbeats 4000000 in
set_option maxRecDepth 100000 in
theorem c_RE_pairsSharedWith (K : xK) (n : Nat) (h : xH) (a c : Nat) (M N : Nat → Nat → Nat) (hr : re_R K h a M) (hc : re_R K h c N) : XM K xy_RE_pairsSharedWith xw_RE_pairsSharedWith (xrm 1 20 0 0) [.ref a, .ref c] n h (x_pi fun r n' h' => r = nI (md_cn (fun i j => decide (M i j < 1000000) && decide (N i j < 1000000)) 1024) ∧ n = n' ∧ h = h') 0 0 := by
  obtain ⟨f, g, ⟨ha, hf, hg⟩, hM⟩ := hr
  obtain ⟨fN, gN, ⟨hc1, hc2, hc3⟩, hN⟩ := hc
  refine xm_i (by decide +kernel) (Nat.le_of_ble_eq_true rfl) (fun G hF hR => ?_)
  refine xv_iconstN (pc' := 1) 0 hF xd_RE_pairsSharedWith_0 (by decide +kernel) rfl ?_
  refine xv_istore_n (pc' := 2) (i := 2) hF xd_RE_pairsSharedWith_1 rfl (Nat.le_of_ble_eq_true rfl) rfl rfl ?_
  refine xv_iconstN (pc' := 3) 0 hF xd_RE_pairsSharedWith_2 (by decide +kernel) rfl ?_
  refine xv_istore_n (pc' := 4) (i := 3) hF xd_RE_pairsSharedWith_3 rfl (Nat.le_of_ble_eq_true rfl) rfl rfl ?_
  have loop : ∀ d t, 32 - t = d → t ≤ 32 → XV G 0 0 4 [(3, .int (nI t)), (2, .int (nI (md_cn (fun i j => decide (M i j < 1000000) && decide (N i j < 1000000)) (t * 32)))), (0, .ref a), (1, .ref c)] [] n h := by
    intro d
    induction d using Nat.strongRecOn with
    | ind d ih =>
      intro t hd ht
      refine xv_iload_n (pc' := 5) (i := 3) hF xd_RE_pairsSharedWith_4 rfl rfl rfl ?_
      refine xv_bipushN (pc' := 7) 32 hF xd_RE_pairsSharedWith_5 (by decide +kernel) rfl ?_
      refine xv_icmp_geN (pc' := 10) (tgt := 35) hF (by omega) (by omega) xd_RE_pairsSharedWith_7 (by decide) rfl (fun e => ?_) (fun e => ?_)
      · refine xv_iload_n (pc' := 36) (i := 2) hF xd_RE_pairsSharedWith_35 rfl rfl rfl ?_
        refine hR _ _ _ _ _ _ _ (by omega) (by omega) ?_ xd_RE_pairsSharedWith_36
        have : t = 32 := by omega
        subst this
        exact ⟨rfl, rfl, rfl⟩
      · refine xv_iload_n (pc' := 11) (i := 2) hF xd_RE_pairsSharedWith_10 rfl rfl rfl ?_
        refine xv_aload_n (pc' := 12) (i := 0) hF xd_RE_pairsSharedWith_11 rfl rfl rfl ?_
        refine xv_get (pc' := 15) (ci := 2) hF (by first | assumption | exact xu_self | (refine (xu_ne (by omega)).trans ?_; first | assumption | exact xu_self | (refine (xu_ne (by omega)).trans ?_; first | assumption | exact xu_self | (refine (xu_ne (by omega)).trans ?_; first | assumption | exact xu_self | (refine (xu_ne (by omega)).trans ?_; first | assumption | exact xu_self))))) rfl xu_RE 0 (by decide) xk_RE_f9 (by rfl) xd_RE_pairsSharedWith_12 rfl ?_
        refine xv_iload_n (pc' := 16) (i := 3) hF xd_RE_pairsSharedWith_15 rfl rfl rfl ?_
        first | refine xv_ialdN (pc' := 17) hF (by first | assumption | exact xu_self | (refine (xu_ne (by omega)).trans ?_; first | assumption | exact xu_self | (refine (xu_ne (by omega)).trans ?_; first | assumption | exact xu_self | (refine (xu_ne (by omega)).trans ?_; first | assumption | exact xu_self | (refine (xu_ne (by omega)).trans ?_; first | assumption | exact xu_self))))) (by omega) (by decide) xd_RE_pairsSharedWith_16 rfl ?_ | refine xv_iald (pc' := 17) hF (by first | assumption | exact xu_self | (refine (xu_ne (by omega)).trans ?_; first | assumption | exact xu_self | (refine (xu_ne (by omega)).trans ?_; first | assumption | exact xu_self | (refine (xu_ne (by omega)).trans ?_; first | assumption | exact xu_self | (refine (xu_ne (by omega)).trans ?_; first | assumption | exact xu_self))))) (by omega) xd_RE_pairsSharedWith_16 rfl ?_
        refine xv_aload_n (pc' := 18) (i := 1) hF xd_RE_pairsSharedWith_17 rfl rfl rfl ?_
        refine xv_get (pc' := 21) (ci := 2) hF (by first | assumption | exact xu_self | (refine (xu_ne (by omega)).trans ?_; first | assumption | exact xu_self | (refine (xu_ne (by omega)).trans ?_; first | assumption | exact xu_self | (refine (xu_ne (by omega)).trans ?_; first | assumption | exact xu_self | (refine (xu_ne (by omega)).trans ?_; first | assumption | exact xu_self))))) rfl xu_RE 0 (by decide) xk_RE_f9 (by rfl) xd_RE_pairsSharedWith_18 rfl ?_
        refine xv_iload_n (pc' := 22) (i := 3) hF xd_RE_pairsSharedWith_21 rfl rfl rfl ?_
        first | refine xv_ialdN (pc' := 23) hF (by first | assumption | exact xu_self | (refine (xu_ne (by omega)).trans ?_; first | assumption | exact xu_self | (refine (xu_ne (by omega)).trans ?_; first | assumption | exact xu_self | (refine (xu_ne (by omega)).trans ?_; first | assumption | exact xu_self | (refine (xu_ne (by omega)).trans ?_; first | assumption | exact xu_self))))) (by omega) (by decide) xd_RE_pairsSharedWith_22 rfl ?_ | refine xv_iald (pc' := 23) hF (by first | assumption | exact xu_self | (refine (xu_ne (by omega)).trans ?_; first | assumption | exact xu_self | (refine (xu_ne (by omega)).trans ?_; first | assumption | exact xu_self | (refine (xu_ne (by omega)).trans ?_; first | assumption | exact xu_self | (refine (xu_ne (by omega)).trans ?_; first | assumption | exact xu_self))))) (by omega) xd_RE_pairsSharedWith_22 rfl ?_
        first | refine xv_iandN (pc' := 24) hF xd_RE_pairsSharedWith_23 rfl ?_ | refine xv_iand (pc' := 24) hF xd_RE_pairsSharedWith_23 rfl ?_
        refine xv_callSi (pc' := 27) hF (c_JI_bitCount K n h (f t &&& fN t)) xq_JI_bitCount xk_RE_m53 xk_t_JI_bitCount ⟨(Nat.le_of_ble_eq_true rfl), (Nat.le_of_ble_eq_true rfl)⟩ rfl rfl (Nat.le_of_ble_eq_true rfl) ⟨(Nat.le_of_ble_eq_true rfl), (Nat.le_of_ble_eq_true rfl)⟩ xd_RE_pairsSharedWith_24 rfl (fun r n3 h3 p3 => ?_)
        obtain ⟨rfl, rfl, rfl⟩ := p3
        first | refine xv_iaddN (pc' := 28) hF xd_RE_pairsSharedWith_27 rfl ?_ | refine xv_iadd (pc' := 28) hF xd_RE_pairsSharedWith_27 rfl ?_
        refine xv_topi (v' := nI (md_cn (fun i j => decide (M i j < 1000000) && decide (N i j < 1000000)) ((t + 1) * 32))) ?_ ?_
        · rw [md_cn_row, bc_congr (fun i hi => (b_and _ _ i).trans (by rw [(hM t i e hi).1, (hN t i e hi).1]))]
        · refine xv_istore_n (pc' := 29) (i := 2) hF xd_RE_pairsSharedWith_28 rfl (Nat.le_of_ble_eq_true rfl) rfl rfl ?_
          first | refine xv_iincN (pc' := 32) hF xd_RE_pairsSharedWith_29 rfl rfl (Nat.le_of_ble_eq_true rfl) rfl rfl ?_ | refine xv_iinc (pc' := 32) hF xd_RE_pairsSharedWith_29 rfl rfl (Nat.le_of_ble_eq_true rfl) rfl rfl ?_
          refine xv_goto (tgt := 4) hF xd_RE_pairsSharedWith_32 (by decide) ?_
          exact xv_loc _ (by repeat (first | exact trivial | refine ⟨rfl, ?_⟩)) (ih _ (by omega) (t + 1) rfl (by omega))
  exact xv_loc _ (by repeat (first | exact trivial | refine ⟨rfl, ?_⟩)) (loop 32 0 (by omega) (by omega))
set_option maxHeartbeats 4000000 in
set_option maxRecDepth 100000 in
theorem c_RE_pairsTurnedIn (K : xK) (n : Nat) (h : xH) (a c : Nat) (M N : Nat → Nat → Nat) (hr : re_R K h a M) (hc : re_R K h c N) : XM K xy_RE_pairsTurnedIn xw_RE_pairsTurnedIn (xrm 2 44 0 0) [.ref a, .ref c] n h (x_pi fun r n' h' => r = nI (md_cn (fun i j => decide (M i j < 1000000) && decide (N j i < 1000000)) 1024) ∧ n = n' ∧ h = h') 0 0 := by
  obtain ⟨f, g, ⟨ha, hf, hg⟩, hM⟩ := hr
  obtain ⟨fN, gN, ⟨hc1, hc2, hc3⟩, hN⟩ := id hc
  refine xm_i (by decide +kernel) (Nat.le_of_ble_eq_true rfl) (fun G hF hR => ?_)
  refine xv_iconstN (pc' := 1) 0 hF xd_RE_pairsTurnedIn_0 (by decide +kernel) rfl ?_
  refine xv_istore_n (pc' := 2) (i := 2) hF xd_RE_pairsTurnedIn_1 rfl (Nat.le_of_ble_eq_true rfl) rfl rfl ?_
  refine xv_iconstN (pc' := 3) 0 hF xd_RE_pairsTurnedIn_2 (by decide +kernel) rfl ?_
  refine xv_istore_n (pc' := 4) (i := 3) hF xd_RE_pairsTurnedIn_3 rfl (Nat.le_of_ble_eq_true rfl) rfl rfl ?_
  have loop : ∀ d t, 32 - t = d → t ≤ 32 → XV G 0 0 4 [(3, .int (nI t)), (2, .int (nI (md_cn (fun i j => decide (M i j < 1000000) && decide (N j i < 1000000)) (t * 32)))), (0, .ref a), (1, .ref c)] [] n h := by
    intro d
    induction d using Nat.strongRecOn with
    | ind d ih =>
      intro t hd ht
      refine xv_iload_n (pc' := 5) (i := 3) hF xd_RE_pairsTurnedIn_4 rfl rfl rfl ?_
      refine xv_bipushN (pc' := 7) 32 hF xd_RE_pairsTurnedIn_5 (by decide +kernel) rfl ?_
      refine xv_icmp_geN (pc' := 10) (tgt := 34) hF (by omega) (by omega) xd_RE_pairsTurnedIn_7 (by decide) rfl (fun e => ?_) (fun e => ?_)
      · refine xv_iload_n (pc' := 35) (i := 2) hF xd_RE_pairsTurnedIn_34 rfl rfl rfl ?_
        refine hR _ _ _ _ _ _ _ (by omega) (by omega) ?_ xd_RE_pairsTurnedIn_35
        have : t = 32 := by omega
        subst this
        exact ⟨rfl, rfl, rfl⟩
      · refine xv_iload_n (pc' := 11) (i := 2) hF xd_RE_pairsTurnedIn_10 rfl rfl rfl ?_
        refine xv_aload_n (pc' := 12) (i := 0) hF xd_RE_pairsTurnedIn_11 rfl rfl rfl ?_
        refine xv_get (pc' := 15) (ci := 2) hF (by first | assumption | exact xu_self | (refine (xu_ne (by omega)).trans ?_; first | assumption | exact xu_self | (refine (xu_ne (by omega)).trans ?_; first | assumption | exact xu_self | (refine (xu_ne (by omega)).trans ?_; first | assumption | exact xu_self | (refine (xu_ne (by omega)).trans ?_; first | assumption | exact xu_self))))) rfl xu_RE 0 (by decide) xk_RE_f9 (by rfl) xd_RE_pairsTurnedIn_12 rfl ?_
        refine xv_iload_n (pc' := 16) (i := 3) hF xd_RE_pairsTurnedIn_15 rfl rfl rfl ?_
        first | refine xv_ialdN (pc' := 17) hF (by first | assumption | exact xu_self | (refine (xu_ne (by omega)).trans ?_; first | assumption | exact xu_self | (refine (xu_ne (by omega)).trans ?_; first | assumption | exact xu_self | (refine (xu_ne (by omega)).trans ?_; first | assumption | exact xu_self | (refine (xu_ne (by omega)).trans ?_; first | assumption | exact xu_self))))) (by omega) (by decide) xd_RE_pairsTurnedIn_16 rfl ?_ | refine xv_iald (pc' := 17) hF (by first | assumption | exact xu_self | (refine (xu_ne (by omega)).trans ?_; first | assumption | exact xu_self | (refine (xu_ne (by omega)).trans ?_; first | assumption | exact xu_self | (refine (xu_ne (by omega)).trans ?_; first | assumption | exact xu_self | (refine (xu_ne (by omega)).trans ?_; first | assumption | exact xu_self))))) (by omega) xd_RE_pairsTurnedIn_16 rfl ?_
        refine xv_aload_n (pc' := 18) (i := 1) hF xd_RE_pairsTurnedIn_17 rfl rfl rfl ?_
        refine xv_iload_n (pc' := 19) (i := 3) hF xd_RE_pairsTurnedIn_18 rfl rfl rfl ?_
        refine xv_callVi (pc' := 22) (ci := 2) hF (c_RE_sourcesOf K n h c t N hc e) xq_RE_sourcesOf xk_RE_m59 xk_i_RE_sourcesOf xk_s_RE_sourcesOf (by first | assumption | exact xu_self | (refine (xu_ne (by omega)).trans ?_; first | assumption | exact xu_self | (refine (xu_ne (by omega)).trans ?_; first | assumption | exact xu_self | (refine (xu_ne (by omega)).trans ?_; first | assumption | exact xu_self | (refine (xu_ne (by omega)).trans ?_; first | assumption | exact xu_self))))) rfl ⟨(Nat.le_of_ble_eq_true rfl), (Nat.le_of_ble_eq_true rfl)⟩ rfl rfl (Nat.le_of_ble_eq_true rfl) ⟨(Nat.le_of_ble_eq_true rfl), (Nat.le_of_ble_eq_true rfl)⟩ xd_RE_pairsTurnedIn_19 rfl (fun r n3 h3 p3 => ?_)
        obtain ⟨hs, rfl, rfl⟩ := p3
        first | refine xv_iandN (pc' := 23) hF xd_RE_pairsTurnedIn_22 rfl ?_ | refine xv_iand (pc' := 23) hF xd_RE_pairsTurnedIn_22 rfl ?_
        refine xv_callSi (pc' := 26) hF (c_JI_bitCount K n h (f t &&& r)) xq_JI_bitCount xk_RE_m53 xk_t_JI_bitCount ⟨(Nat.le_of_ble_eq_true rfl), (Nat.le_of_ble_eq_true rfl)⟩ rfl rfl (Nat.le_of_ble_eq_true rfl) ⟨(Nat.le_of_ble_eq_true rfl), (Nat.le_of_ble_eq_true rfl)⟩ xd_RE_pairsTurnedIn_23 rfl (fun r4 n4 h4 p4 => ?_)
        obtain ⟨rfl, rfl, rfl⟩ := p4
        first | refine xv_iaddN (pc' := 27) hF xd_RE_pairsTurnedIn_26 rfl ?_ | refine xv_iadd (pc' := 27) hF xd_RE_pairsTurnedIn_26 rfl ?_
        refine xv_topi (v' := nI (md_cn (fun i j => decide (M i j < 1000000) && decide (N j i < 1000000)) ((t + 1) * 32))) ?_ ?_
        · rw [md_cn_row, bc_congr (fun i hi => (b_and _ _ i).trans (by rw [(hM t i e hi).1, hs i hi]))]
        · refine xv_istore_n (pc' := 28) (i := 2) hF xd_RE_pairsTurnedIn_27 rfl (Nat.le_of_ble_eq_true rfl) rfl rfl ?_
          first | refine xv_iincN (pc' := 31) hF xd_RE_pairsTurnedIn_28 rfl rfl (Nat.le_of_ble_eq_true rfl) rfl rfl ?_ | refine xv_iinc (pc' := 31) hF xd_RE_pairsTurnedIn_28 rfl rfl (Nat.le_of_ble_eq_true rfl) rfl rfl ?_
          refine xv_goto (tgt := 4) hF xd_RE_pairsTurnedIn_31 (by decide) ?_
          exact xv_loc _ (by repeat (first | exact trivial | refine ⟨rfl, ?_⟩)) (ih _ (by omega) (t + 1) rfl (by omega))
  exact xv_loc _ (by repeat (first | exact trivial | refine ⟨rfl, ?_⟩)) (loop 32 0 (by omega) (by omega))
/-- some node in between -/
def md_via (M N : Nat → Nat → Nat) (i j : Nat) : Nat → Bool
  | 0 => false
  | v + 1 => md_via M N i j v || (decide (M i v < 1000000) && decide (N v j < 1000000))
set_option maxHeartbeats 4000000 in
set_option maxRecDepth 100000 in
theorem c_RE_pairsLedOnBy (K : xK) (n : Nat) (h : xH) (a c : Nat) (M N : Nat → Nat → Nat) (hr : re_R K h a M) (hc : re_R K h c N) : XM K xy_RE_pairsLedOnBy xw_RE_pairsLedOnBy (xrm 1 21 0 0) [.ref a, .ref c] n h (x_pi fun r n' h' => r = nI (md_cn (fun i j => md_via M N i j 32) 1024) ∧ n = n' ∧ h = h') 0 0 := by
  obtain ⟨f, g, ⟨ha, hf, hg⟩, hM⟩ := hr
  obtain ⟨fN, gN, ⟨hc1, hc2, hc3⟩, hN⟩ := id hc
  refine xm_i (by decide +kernel) (Nat.le_of_ble_eq_true rfl) (fun G hF hR => ?_)
  refine xv_iconstN (pc' := 1) 0 hF xd_RE_pairsLedOnBy_0 (by decide +kernel) rfl ?_
  refine xv_istore_n (pc' := 2) (i := 2) hF xd_RE_pairsLedOnBy_1 rfl (Nat.le_of_ble_eq_true rfl) rfl rfl ?_
  refine xv_iconstN (pc' := 3) 0 hF xd_RE_pairsLedOnBy_2 (by decide +kernel) rfl ?_
  refine xv_istore_n (pc' := 4) (i := 3) hF xd_RE_pairsLedOnBy_3 rfl (Nat.le_of_ble_eq_true rfl) rfl rfl ?_
  have loop : ∀ d t, 32 - t = d → t ≤ 32 → XV G 0 0 4 [(3, .int (nI t)), (2, .int (nI (md_cn (fun i j => md_via M N i j 32) (t * 32)))), (0, .ref a), (1, .ref c)] [] n h := by
    intro d
    induction d using Nat.strongRecOn with
    | ind d ih =>
      intro t hd ht
      refine xv_iload_n (pc' := 5) (i := 3) hF xd_RE_pairsLedOnBy_4 rfl rfl rfl ?_
      refine xv_bipushN (pc' := 7) 32 hF xd_RE_pairsLedOnBy_5 (by decide +kernel) rfl ?_
      refine xv_icmp_geN (pc' := 10) (tgt := 69) hF (by omega) (by omega) xd_RE_pairsLedOnBy_7 (by decide) rfl (fun e => ?_) (fun e => ?_)
      · refine xv_iload_n (pc' := 70) (i := 2) hF xd_RE_pairsLedOnBy_69 rfl rfl rfl ?_
        refine hR _ _ _ _ _ _ _ (by omega) (by omega) ?_ xd_RE_pairsLedOnBy_70
        have : t = 32 := by omega
        subst this
        exact ⟨rfl, rfl, rfl⟩
      · refine xv_iconstN (pc' := 11) 0 hF xd_RE_pairsLedOnBy_10 (by decide +kernel) rfl ?_
        refine xv_istore (pc' := 13) hF xd_RE_pairsLedOnBy_11 (Nat.le_of_ble_eq_true rfl) rfl rfl ?_
        refine xv_iconstN (pc' := 14) 0 hF xd_RE_pairsLedOnBy_13 (by decide +kernel) rfl ?_
        refine xv_istore (pc' := 16) hF xd_RE_pairsLedOnBy_14 (Nat.le_of_ble_eq_true rfl) rfl rfl ?_
        have loop2 : ∀ d2 v r, 32 - v = d2 → v ≤ 32 → (∀ j, j < 32 → bt r j = md_via M N t j v) → XV G 0 0 16 [(5, .int (nI v)), (4, .int r), (3, .int (nI t)), (2, .int (nI (md_cn (fun i j => md_via M N i j 32) (t * 32)))), (0, .ref a), (1, .ref c)] [] n h := by
          intro d2
          induction d2 using Nat.strongRecOn with
          | ind d2 ih2 =>
            intro v r hd2 hv hb
            refine xv_iload (pc' := 18) hF xd_RE_pairsLedOnBy_16 rfl rfl ?_
            refine xv_bipushN (pc' := 20) 32 hF xd_RE_pairsLedOnBy_18 (by decide +kernel) rfl ?_
            refine xv_icmp_geN (pc' := 23) (tgt := 55) hF (by omega) (by omega) xd_RE_pairsLedOnBy_20 (by decide) rfl (fun e3 => ?_) (fun e3 => ?_)
            · have : v = 32 := by omega
              subst this
              refine xv_iload_n (pc' := 56) (i := 2) hF xd_RE_pairsLedOnBy_55 rfl rfl rfl ?_
              refine xv_iload (pc' := 58) hF xd_RE_pairsLedOnBy_56 rfl rfl ?_
              refine xv_callSi (pc' := 61) hF (c_JI_bitCount K n h r) xq_JI_bitCount xk_RE_m53 xk_t_JI_bitCount ⟨(Nat.le_of_ble_eq_true rfl), (Nat.le_of_ble_eq_true rfl)⟩ rfl rfl (Nat.le_of_ble_eq_true rfl) ⟨(Nat.le_of_ble_eq_true rfl), (Nat.le_of_ble_eq_true rfl)⟩ xd_RE_pairsLedOnBy_58 rfl (fun r4 n4 h4 p4 => ?_)
              obtain ⟨rfl, rfl, rfl⟩ := p4
              first | refine xv_iaddN (pc' := 62) hF xd_RE_pairsLedOnBy_61 rfl ?_ | refine xv_iadd (pc' := 62) hF xd_RE_pairsLedOnBy_61 rfl ?_
              refine xv_topi (v' := nI (md_cn (fun i j => md_via M N i j 32) ((t + 1) * 32))) ?_ ?_
              · rw [md_cn_row, bc_congr (fun i hi => hb i hi)]
              · refine xv_istore_n (pc' := 63) (i := 2) hF xd_RE_pairsLedOnBy_62 rfl (Nat.le_of_ble_eq_true rfl) rfl rfl ?_
                first | refine xv_iincN (pc' := 66) hF xd_RE_pairsLedOnBy_63 rfl rfl (Nat.le_of_ble_eq_true rfl) rfl rfl ?_ | refine xv_iinc (pc' := 66) hF xd_RE_pairsLedOnBy_63 rfl rfl (Nat.le_of_ble_eq_true rfl) rfl rfl ?_
                refine xv_goto (tgt := 4) hF xd_RE_pairsLedOnBy_66 (by decide) ?_
                exact xv_loc _ (by repeat (first | exact trivial | refine ⟨rfl, ?_⟩)) (ih _ (by omega) (t + 1) rfl (by omega))
            · refine xv_aload_n (pc' := 24) (i := 0) hF xd_RE_pairsLedOnBy_23 rfl rfl rfl ?_
              refine xv_get (pc' := 27) (ci := 2) hF (by first | assumption | exact xu_self | (refine (xu_ne (by omega)).trans ?_; first | assumption | exact xu_self | (refine (xu_ne (by omega)).trans ?_; first | assumption | exact xu_self | (refine (xu_ne (by omega)).trans ?_; first | assumption | exact xu_self | (refine (xu_ne (by omega)).trans ?_; first | assumption | exact xu_self))))) rfl xu_RE 0 (by decide) xk_RE_f9 (by rfl) xd_RE_pairsLedOnBy_24 rfl ?_
              refine xv_iload_n (pc' := 28) (i := 3) hF xd_RE_pairsLedOnBy_27 rfl rfl rfl ?_
              first | refine xv_ialdN (pc' := 29) hF (by first | assumption | exact xu_self | (refine (xu_ne (by omega)).trans ?_; first | assumption | exact xu_self | (refine (xu_ne (by omega)).trans ?_; first | assumption | exact xu_self | (refine (xu_ne (by omega)).trans ?_; first | assumption | exact xu_self | (refine (xu_ne (by omega)).trans ?_; first | assumption | exact xu_self))))) (by omega) (by decide) xd_RE_pairsLedOnBy_28 rfl ?_ | refine xv_iald (pc' := 29) hF (by first | assumption | exact xu_self | (refine (xu_ne (by omega)).trans ?_; first | assumption | exact xu_self | (refine (xu_ne (by omega)).trans ?_; first | assumption | exact xu_self | (refine (xu_ne (by omega)).trans ?_; first | assumption | exact xu_self | (refine (xu_ne (by omega)).trans ?_; first | assumption | exact xu_self))))) (by omega) xd_RE_pairsLedOnBy_28 rfl ?_
              refine xv_iload (pc' := 31) hF xd_RE_pairsLedOnBy_29 rfl rfl ?_
              refine xv_callSNi (pc' := 34) hF (c_PD_isIn K n h (f t) v e3) xq_PD_isIn xk_RE_m24 xk_t_PD_isIn ⟨(Nat.le_of_ble_eq_true rfl), (Nat.le_of_ble_eq_true rfl)⟩ rfl rfl (Nat.le_of_ble_eq_true rfl) ⟨(Nat.le_of_ble_eq_true rfl), (Nat.le_of_ble_eq_true rfl)⟩ xd_RE_pairsLedOnBy_31 rfl (fun r4 n4 h4 p4 => ?_)
              obtain ⟨rfl, rfl, rfl⟩ := p4
              refine xv_if_eqB (pc' := 37) (tgt := 49) hF xd_RE_pairsLedOnBy_34 (by decide) rfl (fun e5 => ?_) (fun e5 => ?_)
              · rw [(hM t v e e3).1] at e5
                first | refine xv_iincN (pc' := 52) hF xd_RE_pairsLedOnBy_49 rfl rfl (Nat.le_of_ble_eq_true rfl) rfl rfl ?_ | refine xv_iinc (pc' := 52) hF xd_RE_pairsLedOnBy_49 rfl rfl (Nat.le_of_ble_eq_true rfl) rfl rfl ?_
                refine xv_goto (tgt := 16) hF xd_RE_pairsLedOnBy_52 (by decide) ?_
                refine xv_loc _ (by repeat (first | exact trivial | refine ⟨rfl, ?_⟩)) (ih2 _ (by omega) (v + 1) _ rfl (by omega) ?_)
                intro j hj
                rw [hb j hj]
                show _ = (md_via M N t j v || (decide (M t v < 1000000) && decide (N v j < 1000000)))
                rw [e5]; simp
              · rw [(hM t v e e3).1] at e5
                refine xv_iload (pc' := 39) hF xd_RE_pairsLedOnBy_37 rfl rfl ?_
                refine xv_aload_n (pc' := 40) (i := 1) hF xd_RE_pairsLedOnBy_39 rfl rfl rfl ?_
                refine xv_get (pc' := 43) (ci := 2) hF (by first | assumption | exact xu_self | (refine (xu_ne (by omega)).trans ?_; first | assumption | exact xu_self | (refine (xu_ne (by omega)).trans ?_; first | assumption | exact xu_self | (refine (xu_ne (by omega)).trans ?_; first | assumption | exact xu_self | (refine (xu_ne (by omega)).trans ?_; first | assumption | exact xu_self))))) rfl xu_RE 0 (by decide) xk_RE_f9 (by rfl) xd_RE_pairsLedOnBy_40 rfl ?_
                refine xv_iload (pc' := 45) hF xd_RE_pairsLedOnBy_43 rfl rfl ?_
                first | refine xv_ialdN (pc' := 46) hF (by first | assumption | exact xu_self | (refine (xu_ne (by omega)).trans ?_; first | assumption | exact xu_self | (refine (xu_ne (by omega)).trans ?_; first | assumption | exact xu_self | (refine (xu_ne (by omega)).trans ?_; first | assumption | exact xu_self | (refine (xu_ne (by omega)).trans ?_; first | assumption | exact xu_self))))) (by omega) (by decide) xd_RE_pairsLedOnBy_45 rfl ?_ | refine xv_iald (pc' := 46) hF (by first | assumption | exact xu_self | (refine (xu_ne (by omega)).trans ?_; first | assumption | exact xu_self | (refine (xu_ne (by omega)).trans ?_; first | assumption | exact xu_self | (refine (xu_ne (by omega)).trans ?_; first | assumption | exact xu_self | (refine (xu_ne (by omega)).trans ?_; first | assumption | exact xu_self))))) (by omega) xd_RE_pairsLedOnBy_45 rfl ?_
                refine xv_ior (pc' := 47) hF xd_RE_pairsLedOnBy_46 rfl ?_
                refine xv_istore (pc' := 49) hF xd_RE_pairsLedOnBy_47 (Nat.le_of_ble_eq_true rfl) rfl rfl ?_
                first | refine xv_iincN (pc' := 52) hF xd_RE_pairsLedOnBy_49 rfl rfl (Nat.le_of_ble_eq_true rfl) rfl rfl ?_ | refine xv_iinc (pc' := 52) hF xd_RE_pairsLedOnBy_49 rfl rfl (Nat.le_of_ble_eq_true rfl) rfl rfl ?_
                refine xv_goto (tgt := 16) hF xd_RE_pairsLedOnBy_52 (by decide) ?_
                refine xv_loc _ (by repeat (first | exact trivial | refine ⟨rfl, ?_⟩)) (ih2 _ (by omega) (v + 1) _ rfl (by omega) ?_)
                intro j hj
                rw [b_or, hb j hj, (hN v j e3 hj).1]
                show _ = (md_via M N t j v || (decide (M t v < 1000000) && decide (N v j < 1000000)))
                rw [e5]; simp
        refine xv_loc _ (by repeat (first | exact trivial | refine ⟨rfl, ?_⟩)) (loop2 32 0 _ (by omega) (by omega) ?_)
        intro j hj
        rw [show nI 0 = 0 from nI_0, b_0]
        rfl
  exact xv_loc _ (by repeat (first | exact trivial | refine ⟨rfl, ?_⟩)) (loop 32 0 (by omega) (by omega))
/-! the first node with P -/
def md_fst (P : Nat → Prop) (r : Int32) : Prop := (∃ i, i < 32 ∧ P i ∧ (∀ j, j < i → ¬ P j) ∧ r = nI i) ∨ ((∀ i, i < 32 → ¬ P i) ∧ r = -1)
set_option maxHeartbeats 4000000 in
set_option maxRecDepth 100000 in
theorem c_RE_leastOnCircle (K : xK) (n : Nat) (h : xH) (a : Nat) (M : Nat → Nat → Nat) (hr : re_R K h a M) : XM K xy_RE_leastOnCircle xw_RE_leastOnCircle (xrm 1 21 0 0) [.ref a] n h (x_pi fun r n' h' => md_fst (fun i => M i i < 1000000) r ∧ n = n' ∧ h = h') 0 0 := by
  obtain ⟨f, g, ⟨ha, hf, hg⟩, hM⟩ := hr
  refine xm_i (by decide +kernel) (Nat.le_of_ble_eq_true rfl) (fun G hF hR => ?_)
  refine xv_iconstN (pc' := 1) 0 hF xd_RE_leastOnCircle_0 (by decide +kernel) rfl ?_
  refine xv_istore_n (pc' := 2) (i := 1) hF xd_RE_leastOnCircle_1 rfl (Nat.le_of_ble_eq_true rfl) rfl rfl ?_
  have loop : ∀ d t, 32 - t = d → t ≤ 32 → (∀ j, j < t → ¬ M j j < 1000000) → XV G 0 0 2 [(1, .int (nI t)), (0, .ref a)] [] n h := by
    intro d
    induction d using Nat.strongRecOn with
    | ind d ih =>
      intro t hd ht hn
      refine xv_iload_n (pc' := 3) (i := 1) hF xd_RE_leastOnCircle_2 rfl rfl rfl ?_
      refine xv_bipushN (pc' := 5) 32 hF xd_RE_leastOnCircle_3 (by decide +kernel) rfl ?_
      refine xv_icmp_geN (pc' := 8) (tgt := 29) hF (by omega) (by omega) xd_RE_leastOnCircle_5 (by decide) rfl (fun e => ?_) (fun e => ?_)
      · refine xv_iconst (pc' := 30) (v := -1) hF xd_RE_leastOnCircle_29 (by decide +kernel) rfl ?_
        refine hR _ _ _ _ _ _ _ (by omega) (by omega) ?_ xd_RE_leastOnCircle_30
        exact ⟨Or.inr ⟨fun i hi => hn i (by omega), rfl⟩, rfl, rfl⟩
      · refine xv_aload_n (pc' := 9) (i := 0) hF xd_RE_leastOnCircle_8 rfl rfl rfl ?_
        refine xv_get (pc' := 12) (ci := 2) hF (by first | assumption | exact xu_self | (refine (xu_ne (by omega)).trans ?_; first | assumption | exact xu_self | (refine (xu_ne (by omega)).trans ?_; first | assumption | exact xu_self | (refine (xu_ne (by omega)).trans ?_; first | assumption | exact xu_self | (refine (xu_ne (by omega)).trans ?_; first | assumption | exact xu_self))))) rfl xu_RE 0 (by decide) xk_RE_f9 (by rfl) xd_RE_leastOnCircle_9 rfl ?_
        refine xv_iload_n (pc' := 13) (i := 1) hF xd_RE_leastOnCircle_12 rfl rfl rfl ?_
        first | refine xv_ialdN (pc' := 14) hF (by first | assumption | exact xu_self | (refine (xu_ne (by omega)).trans ?_; first | assumption | exact xu_self | (refine (xu_ne (by omega)).trans ?_; first | assumption | exact xu_self | (refine (xu_ne (by omega)).trans ?_; first | assumption | exact xu_self | (refine (xu_ne (by omega)).trans ?_; first | assumption | exact xu_self))))) (by omega) (by decide) xd_RE_leastOnCircle_13 rfl ?_ | refine xv_iald (pc' := 14) hF (by first | assumption | exact xu_self | (refine (xu_ne (by omega)).trans ?_; first | assumption | exact xu_self | (refine (xu_ne (by omega)).trans ?_; first | assumption | exact xu_self | (refine (xu_ne (by omega)).trans ?_; first | assumption | exact xu_self | (refine (xu_ne (by omega)).trans ?_; first | assumption | exact xu_self))))) (by omega) xd_RE_leastOnCircle_13 rfl ?_
        refine xv_iload_n (pc' := 15) (i := 1) hF xd_RE_leastOnCircle_14 rfl rfl rfl ?_
        refine xv_callSNi (pc' := 18) hF (c_PD_isIn K n h (f t) t e) xq_PD_isIn xk_RE_m24 xk_t_PD_isIn ⟨(Nat.le_of_ble_eq_true rfl), (Nat.le_of_ble_eq_true rfl)⟩ rfl rfl (Nat.le_of_ble_eq_true rfl) ⟨(Nat.le_of_ble_eq_true rfl), (Nat.le_of_ble_eq_true rfl)⟩ xd_RE_leastOnCircle_15 rfl (fun r4 n4 h4 p4 => ?_)
        obtain ⟨rfl, rfl, rfl⟩ := p4
        refine xv_if_eqB (pc' := 21) (tgt := 23) hF xd_RE_leastOnCircle_18 (by decide) rfl (fun e5 => ?_) (fun e5 => ?_)
        · rw [(hM t t e e).1] at e5
          have e5 := of_decide_eq_false e5
          first | refine xv_iincN (pc' := 26) hF xd_RE_leastOnCircle_23 rfl rfl (Nat.le_of_ble_eq_true rfl) rfl rfl ?_ | refine xv_iinc (pc' := 26) hF xd_RE_leastOnCircle_23 rfl rfl (Nat.le_of_ble_eq_true rfl) rfl rfl ?_
          refine xv_goto (tgt := 2) hF xd_RE_leastOnCircle_26 (by decide) ?_
          refine xv_loc _ (by repeat (first | exact trivial | refine ⟨rfl, ?_⟩)) (ih _ (by omega) (t + 1) rfl (by omega) ?_)
          intro j hj
          by_cases c0 : j = t
          · subst c0; exact e5
          · exact hn j (by omega)
        · rw [(hM t t e e).1] at e5
          have e5 := of_decide_eq_true e5
          refine xv_iload_n (pc' := 22) (i := 1) hF xd_RE_leastOnCircle_21 rfl rfl rfl ?_
          refine hR _ _ _ _ _ _ _ (by omega) (by omega) ?_ xd_RE_leastOnCircle_22
          exact ⟨Or.inl ⟨t, e, e5, hn, rfl⟩, rfl, rfl⟩
  exact xv_loc _ (by repeat (first | exact trivial | refine ⟨rfl, ?_⟩)) (loop 32 0 (by omega) (by omega) (fun j hj => by omega))
/-! the node with most ends: its number, one more (0: none), and how many -/
def md_be (M : Nat → Nat → Nat) : Nat → Nat × Nat
  | 0 => (0, 0)
  | k + 1 => if (md_be M k).2 < bc_n (fun j => decide (M k j < 1000000)) 32 then (k + 1, bc_n (fun j => decide (M k j < 1000000)) 32) else md_be M k
theorem md_be_le (M : Nat → Nat → Nat) : ∀ k, (md_be M k).2 ≤ 32
  | 0 => Nat.zero_le _
  | k + 1 => by
    unfold md_be
    split
    · exact bc_le _ _
    · exact md_be_le M k
set_option maxHeartbeats 4000000 in
set_option maxRecDepth 100000 in
theorem c_RE_richestNode (K : xK) (n : Nat) (h : xH) (a : Nat) (M : Nat → Nat → Nat) (hr : re_R K h a M) : XM K xy_RE_richestNode xw_RE_richestNode (xrm 1 20 0 0) [.ref a] n h (x_pi fun r n' h' => r = xm1 (md_be M 32).1 ∧ n = n' ∧ h = h') 0 0 := by
  obtain ⟨f, g, ⟨ha, hf, hg⟩, hM⟩ := hr
  refine xm_i (by decide +kernel) (Nat.le_of_ble_eq_true rfl) (fun G hF hR => ?_)
  refine xv_iconst (pc' := 1) (v := -1) hF xd_RE_richestNode_0 (by decide +kernel) rfl ?_
  refine xv_istore_n (pc' := 2) (i := 1) hF xd_RE_richestNode_1 rfl (Nat.le_of_ble_eq_true rfl) rfl rfl ?_
  refine xv_iconstN (pc' := 3) 0 hF xd_RE_richestNode_2 (by decide +kernel) rfl ?_
  refine xv_istore_n (pc' := 4) (i := 2) hF xd_RE_richestNode_3 rfl (Nat.le_of_ble_eq_true rfl) rfl rfl ?_
  refine xv_iconstN (pc' := 5) 0 hF xd_RE_richestNode_4 (by decide +kernel) rfl ?_
  refine xv_istore_n (pc' := 6) (i := 3) hF xd_RE_richestNode_5 rfl (Nat.le_of_ble_eq_true rfl) rfl rfl ?_
  have loop : ∀ d t, 32 - t = d → t ≤ 32 → XV G 0 0 6 [(3, .int (nI t)), (2, .int (nI (md_be M t).2)), (1, .int (xm1 (md_be M t).1)), (0, .ref a)] [] n h := by
    intro d
    induction d using Nat.strongRecOn with
    | ind d ih =>
      intro t hd ht
      have hle := md_be_le M t
      refine xv_iload_n (pc' := 7) (i := 3) hF xd_RE_richestNode_6 rfl rfl rfl ?_
      refine xv_bipushN (pc' := 9) 32 hF xd_RE_richestNode_7 (by decide +kernel) rfl ?_
      refine xv_icmp_geN (pc' := 12) (tgt := 40) hF (by omega) (by omega) xd_RE_richestNode_9 (by decide) rfl (fun e => ?_) (fun e => ?_)
      · refine xv_iload_n (pc' := 41) (i := 1) hF xd_RE_richestNode_40 rfl rfl rfl ?_
        refine hR _ _ _ _ _ _ _ (by omega) (by omega) ?_ xd_RE_richestNode_41
        have : t = 32 := by omega
        subst this
        exact ⟨rfl, rfl, rfl⟩
      · refine xv_aload_n (pc' := 13) (i := 0) hF xd_RE_richestNode_12 rfl rfl rfl ?_
        refine xv_get (pc' := 16) (ci := 2) hF (by first | assumption | exact xu_self | (refine (xu_ne (by omega)).trans ?_; first | assumption | exact xu_self | (refine (xu_ne (by omega)).trans ?_; first | assumption | exact xu_self | (refine (xu_ne (by omega)).trans ?_; first | assumption | exact xu_self | (refine (xu_ne (by omega)).trans ?_; first | assumption | exact xu_self))))) rfl xu_RE 0 (by decide) xk_RE_f9 (by rfl) xd_RE_richestNode_13 rfl ?_
        refine xv_iload_n (pc' := 17) (i := 3) hF xd_RE_richestNode_16 rfl rfl rfl ?_
        first | refine xv_ialdN (pc' := 18) hF (by first | assumption | exact xu_self | (refine (xu_ne (by omega)).trans ?_; first | assumption | exact xu_self | (refine (xu_ne (by omega)).trans ?_; first | assumption | exact xu_self | (refine (xu_ne (by omega)).trans ?_; first | assumption | exact xu_self | (refine (xu_ne (by omega)).trans ?_; first | assumption | exact xu_self))))) (by omega) (by decide) xd_RE_richestNode_17 rfl ?_ | refine xv_iald (pc' := 18) hF (by first | assumption | exact xu_self | (refine (xu_ne (by omega)).trans ?_; first | assumption | exact xu_self | (refine (xu_ne (by omega)).trans ?_; first | assumption | exact xu_self | (refine (xu_ne (by omega)).trans ?_; first | assumption | exact xu_self | (refine (xu_ne (by omega)).trans ?_; first | assumption | exact xu_self))))) (by omega) xd_RE_richestNode_17 rfl ?_
        refine xv_callSi (pc' := 21) hF (c_JI_bitCount K n h (f t)) xq_JI_bitCount xk_RE_m53 xk_t_JI_bitCount ⟨(Nat.le_of_ble_eq_true rfl), (Nat.le_of_ble_eq_true rfl)⟩ rfl rfl (Nat.le_of_ble_eq_true rfl) ⟨(Nat.le_of_ble_eq_true rfl), (Nat.le_of_ble_eq_true rfl)⟩ xd_RE_richestNode_18 rfl (fun r4 n4 h4 p4 => ?_)
        obtain ⟨rfl, rfl, rfl⟩ := p4
        rw [bc_congr (fun i hi => (hM t i e hi).1)]
        have hl2 := bc_le (fun j => decide (M t j < 1000000)) 32
        refine xv_istore (pc' := 23) hF xd_RE_richestNode_21 (Nat.le_of_ble_eq_true rfl) rfl rfl ?_
        refine xv_iload (pc' := 25) hF xd_RE_richestNode_23 rfl rfl ?_
        refine xv_iload_n (pc' := 26) (i := 2) hF xd_RE_richestNode_25 rfl rfl rfl ?_
        refine xv_icmp_leN (pc' := 29) (tgt := 34) hF (by omega) (by omega) xd_RE_richestNode_26 (by decide) rfl (fun e5 => ?_) (fun e5 => ?_)
        · have es : md_be M (t + 1) = md_be M t := by
            show (if _ then _ else _) = _
            rw [if_neg (by omega)]
          first | refine xv_iincN (pc' := 37) hF xd_RE_richestNode_34 rfl rfl (Nat.le_of_ble_eq_true rfl) rfl rfl ?_ | refine xv_iinc (pc' := 37) hF xd_RE_richestNode_34 rfl rfl (Nat.le_of_ble_eq_true rfl) rfl rfl ?_
          refine xv_goto (tgt := 6) hF xd_RE_richestNode_37 (by decide) ?_
          have q := ih _ (by omega) (t + 1) rfl (by omega)
          rw [es] at q
          exact xv_loc _ (by repeat (first | exact trivial | refine ⟨rfl, ?_⟩)) q
        · have es : md_be M (t + 1) = (t + 1, bc_n (fun j => decide (M t j < 1000000)) 32) := by
            show (if _ then _ else _) = _
            rw [if_pos e5]
          refine xv_iload_n (pc' := 30) (i := 3) hF xd_RE_richestNode_29 rfl rfl rfl ?_
          refine xv_istore_n (pc' := 31) (i := 1) hF xd_RE_richestNode_30 rfl (Nat.le_of_ble_eq_true rfl) rfl rfl ?_
          refine xv_iload (pc' := 33) hF xd_RE_richestNode_31 rfl rfl ?_
          refine xv_istore_n (pc' := 34) (i := 2) hF xd_RE_richestNode_33 rfl (Nat.le_of_ble_eq_true rfl) rfl rfl ?_
          first | refine xv_iincN (pc' := 37) hF xd_RE_richestNode_34 rfl rfl (Nat.le_of_ble_eq_true rfl) rfl rfl ?_ | refine xv_iinc (pc' := 37) hF xd_RE_richestNode_34 rfl rfl (Nat.le_of_ble_eq_true rfl) rfl rfl ?_
          refine xv_goto (tgt := 6) hF xd_RE_richestNode_37 (by decide) ?_
          have q := ih _ (by omega) (t + 1) rfl (by omega)
          rw [es] at q
          exact xv_loc _ (by repeat (first | exact trivial | refine ⟨rfl, ?_⟩)) q
  exact xv_loc _ (by repeat (first | exact trivial | refine ⟨rfl, ?_⟩)) (loop 32 0 (by omega) (by omega))
