/-! the reference's squares: S t i j in the t-th -/
def sq_is (g : Nat → Int32) (S : Nat → Nat → Nat → Nat) : Prop := ∀ t z, t < 40 → z < 1024 → g (1024 * t + z) = nI (S t (z / 32) (z % 32)) ∧ S t (z / 32) (z % 32) ≤ 1000000
theorem sq_is.at {g : Nat → Int32} {S : Nat → Nat → Nat → Nat} (h : sq_is g S) {t i j : Nat} (ht : t < 40) (hi : i < 32) (hj : j < 32) : g (1024 * t + (32 * i + j)) = nI (S t i j) ∧ S t i j ≤ 1000000 := by
  have := h t (32 * i + j) ht (by omega)
  rw [show (32 * i + j) / 32 = i by omega, show (32 * i + j) % 32 = j by omega] at this
  exact this
theorem sq_is.congr {g : Nat → Int32} {S S' : Nat → Nat → Nat → Nat} (h : sq_is g S) (he : ∀ t i j, t < 40 → i < 32 → j < 32 → S' t i j = S t i j) : sq_is g S' := by
  intro t z ht hz
  rw [he t _ _ ht (by omega) (by omega)]
  exact h t z ht hz
/-- the first k of the t-th told anew -/
def sq_up (S : Nat → Nat → Nat → Nat) (to : Nat) (X : Nat → Nat → Nat) (k : Nat) : Nat → Nat → Nat → Nat := va_up S to (fun i j => if 32 * i + j < k then X i j else S to i j)
theorem sq_0 {g : Nat → Int32} {S : Nat → Nat → Nat → Nat} (to : Nat) (X : Nat → Nat → Nat) (h : sq_is g S) : sq_is g (sq_up S to X 0) := by
  refine h.congr fun t i j _ _ _ => ?_
  unfold sq_up va_up
  split
  · rename_i e; dsimp only; rw [if_neg (by omega), e]
  · rfl
theorem sq_end {g : Nat → Int32} {S : Nat → Nat → Nat → Nat} {to : Nat} {X : Nat → Nat → Nat} (h : sq_is g (sq_up S to X 1024)) : sq_is g (va_up S to X) := by
  refine h.congr fun t i j _ hi hj => ?_
  unfold sq_up va_up
  split
  · dsimp only; rw [if_pos (by omega)]
  · rfl
theorem sq_step {g : Nat → Int32} {S : Nat → Nat → Nat → Nat} {to k : Nat} {X : Nat → Nat → Nat} {v : Int32} (h : sq_is g (sq_up S to X k)) (hto : to < 40) (hk : k < 1024) (hv : v = nI (X (k / 32) (k % 32))) (hX : X (k / 32) (k % 32) ≤ 1000000) : sq_is (upd g (1024 * to + k) v) (sq_up S to X (k + 1)) := by
  intro t z ht hz
  by_cases c : t = to ∧ z = k
  · obtain ⟨rfl, rfl⟩ := c
    rw [pk_us]
    unfold sq_up va_up
    rw [if_pos rfl, if_pos (by omega)]
    exact ⟨hv, hX⟩
  · rw [pk_un (by omega)]
    have := h t z ht hz
    unfold sq_up va_up at this ⊢
    by_cases c1 : t = to
    · subst c1
      rw [if_pos rfl] at this ⊢
      by_cases c2 : 32 * (z / 32) + z % 32 < k
      · rw [if_pos c2] at this
        rw [if_pos (by omega)]
        exact this
      · rw [if_neg c2] at this
        rw [if_neg (by omega)]
        exact this
    · rw [if_neg c1] at this ⊢
      exact this
theorem sq_old {S : Nat → Nat → Nat → Nat} {to k t z : Nat} {X : Nat → Nat → Nat} (hz : t ≠ to ∨ k ≤ z) : sq_up S to X k t (z / 32) (z % 32) = S t (z / 32) (z % 32) := by
  unfold sq_up va_up
  by_cases c : t = to
  · subst c
    rw [if_pos rfl, if_neg (by omega)]
  · rw [if_neg c]
def md_1 : Nat → Nat → Nat := fun i j => if i = j then 0 else 1000000
theorem mn_1 : pd_mn pd_id md_1 := pd_mn_id fun i j _ _ => ⟨fun h => by unfold md_1; rw [if_pos h], fun h => by unfold md_1; rw [if_neg h]⟩
set_option maxHeartbeats 4000000 in
set_option maxRecDepth 100000 in
theorem c_MO_plain (K : xK) (n : Nat) (h : xH) (p th ma sz ln at_ f op : Nat) (mk : Bool) (to : Nat) (nd : Bool) (g : Nat → Int32) (S : Nat → Nat → Nat → Nat) (ho : h p = some (.inr (6, [.int (nI th), .ref (p + 1), .ref (p + 2), .int (nI ma), .ref (p + 3), .int (nI sz), .ref (p + 4), .ref (p + 5), .ref (p + 6), .ref (p + 7), .int (nI ln), .int (nI at_), .int (xm1 f), .int (xb mk), .ref (p + 8), .ref (p + 9), .ref (p + 10), .int (nI op), .ref (p + 11), .ref (p + 12)]))) (hs : h (p + 8) = some (.inl (K.2.2.1 0, 40960, .inl g))) (hg : sq_is g S) (hto : to < 40) : XM K xy_MO_plain xw_MO_plain (xrm 0 0 0 0) [.ref p, .int (nI to), .int (xb nd)] n h (x_pv fun n' h' => n = n' ∧ ∃ g', h' = xu h (p + 8) (.inl (K.2.2.1 0, 40960, .inl g')) ∧ sq_is g' (if mk then va_up S to (if nd then md_1 else md_no) else S)) 0 0 := by
  obtain ⟨X, eX⟩ : ∃ X, X = (if nd then md_1 else md_no) := ⟨_, rfl⟩
  rw [← eX]
  have hX : ∀ i j, X i j = if nd = true ∧ i = j then 0 else 1000000 := by
    intro i j
    rw [eX]
    cases nd
    · simp [md_no]
    · by_cases c : i = j <;> simp [md_1, c]
  clear eX
  refine xm_v (by decide +kernel) (Nat.le_of_ble_eq_true rfl) (fun G hF hR => ?_)
  refine xv_iconstN (pc' := 1) 0 hF xd_MO_plain_0 (by decide +kernel) rfl ?_
  refine xv_istore_n (pc' := 2) (i := 3) hF xd_MO_plain_1 rfl (Nat.le_of_ble_eq_true rfl) rfl rfl ?_
  cases mk with
  | false =>
    refine xv_aload_n (pc' := 3) (i := 0) hF xd_MO_plain_2 rfl rfl rfl ?_
    refine xv_get (pc' := 6) (ci := 6) hF (by first | assumption | exact xu_self | (refine (xu_ne (by omega)).trans ?_; first | assumption | exact xu_self | (refine (xu_ne (by omega)).trans ?_; first | assumption | exact xu_self | (refine (xu_ne (by omega)).trans ?_; first | assumption | exact xu_self | (refine (xu_ne (by omega)).trans ?_; first | assumption | exact xu_self))))) rfl xu_MO 13 (by decide) xk_MO_f92 (by rfl) xd_MO_plain_3 rfl ?_
    refine xv_if_eqB (pc' := 9) (tgt := 51) hF xd_MO_plain_6 (by decide) rfl (fun e => ?_) (fun e => ?_)
    · refine hR _ _ _ _ _ _ (by omega) (by omega) ?_ xd_MO_plain_51
      exact ⟨rfl, g, (xu_same hs).symm, hg⟩
    · cases e
  | true =>
    have loop : ∀ d k g1, 1024 - k = d → k ≤ 1024 → sq_is g1 (sq_up S to X k) → XV G 0 0 2 [(3, .int (nI k)), (0, .ref p), (1, .int (nI to)), (2, .int (xb nd))] [] n (xu h (p + 8) (.inl (K.2.2.1 0, 40960, .inl g1))) := by
      intro d
      induction d using Nat.strongRecOn with
      | ind d ih =>
        intro k g1 hd hk hg1
        refine xv_aload_n (pc' := 3) (i := 0) hF xd_MO_plain_2 rfl rfl rfl ?_
        refine xv_get (pc' := 6) (ci := 6) hF (by first | assumption | exact xu_self | (refine (xu_ne (by omega)).trans ?_; first | assumption | exact xu_self | (refine (xu_ne (by omega)).trans ?_; first | assumption | exact xu_self | (refine (xu_ne (by omega)).trans ?_; first | assumption | exact xu_self | (refine (xu_ne (by omega)).trans ?_; first | assumption | exact xu_self))))) rfl xu_MO 13 (by decide) xk_MO_f92 (by rfl) xd_MO_plain_3 rfl ?_
        refine xv_if_eqB (pc' := 9) (tgt := 51) hF xd_MO_plain_6 (by decide) rfl (fun e => ?_) (fun e => ?_)
        · cases e
        · refine xv_iload_n (pc' := 10) (i := 3) hF xd_MO_plain_9 rfl rfl rfl ?_
          refine xv_sipushN (pc' := 13) 1024 hF xd_MO_plain_10 (by decide +kernel) rfl ?_
          refine xv_icmp_geN (pc' := 16) (tgt := 51) hF (by omega) (by omega) xd_MO_plain_13 (by decide) rfl (fun e2 => ?_) (fun e2 => ?_)
          · refine hR _ _ _ _ _ _ (by omega) (by omega) ?_ xd_MO_plain_51
            have : k = 1024 := by omega
            subst this
            exact ⟨rfl, g1, rfl, sq_end hg1⟩
          · have fin : ∀ v, v = X (k / 32) (k % 32) → XV G 0 0 44 [(3, .int (nI k)), (0, .ref p), (1, .int (nI to)), (2, .int (xb nd))] [.int (nI v), .int (nI (1024 * to + k)), .ref (p + 8)] n (xu h (p + 8) (.inl (K.2.2.1 0, 40960, .inl g1))) := by
              intro v hv
              refine xv_iastN (pc' := 45) hF (by first | assumption | exact xu_self | (refine (xu_ne (by omega)).trans ?_; first | assumption | exact xu_self | (refine (xu_ne (by omega)).trans ?_; first | assumption | exact xu_self | (refine (xu_ne (by omega)).trans ?_; first | assumption | exact xu_self | (refine (xu_ne (by omega)).trans ?_; first | assumption | exact xu_self))))) (by omega) (by decide) xd_MO_plain_44 rfl ?_
              first | refine xv_iincN (pc' := 48) hF xd_MO_plain_45 rfl rfl (Nat.le_of_ble_eq_true rfl) rfl rfl ?_ | refine xv_iinc (pc' := 48) hF xd_MO_plain_45 rfl rfl (Nat.le_of_ble_eq_true rfl) rfl rfl ?_
              refine xv_goto (tgt := 2) hF xd_MO_plain_48 (by decide) ?_
              rw [xu_xu]
              refine xv_loc _ (by repeat (first | exact trivial | refine ⟨rfl, ?_⟩)) (ih _ (by omega) (k + 1) _ rfl (by omega) (sq_step hg1 hto e2 (by rw [hv]) ?_))
              rw [hX]
              split <;> omega
            refine xv_aload_n (pc' := 17) (i := 0) hF xd_MO_plain_16 rfl rfl rfl ?_
            refine xv_get (pc' := 20) (ci := 6) hF (by first | assumption | exact xu_self | (refine (xu_ne (by omega)).trans ?_; first | assumption | exact xu_self | (refine (xu_ne (by omega)).trans ?_; first | assumption | exact xu_self | (refine (xu_ne (by omega)).trans ?_; first | assumption | exact xu_self | (refine (xu_ne (by omega)).trans ?_; first | assumption | exact xu_self))))) rfl xu_MO 14 (by decide) xk_MO_f33 (by rfl) xd_MO_plain_17 rfl ?_
            refine xv_sipushN (pc' := 23) 1024 hF xd_MO_plain_20 (by decide +kernel) rfl ?_
            refine xv_iload_n (pc' := 24) (i := 1) hF xd_MO_plain_23 rfl rfl rfl ?_
            first | refine xv_imulN (pc' := 25) hF xd_MO_plain_24 rfl ?_ | refine xv_imul (pc' := 25) hF xd_MO_plain_24 rfl ?_
            refine xv_iload_n (pc' := 26) (i := 3) hF xd_MO_plain_25 rfl rfl rfl ?_
            first | refine xv_iaddN (pc' := 27) hF xd_MO_plain_26 rfl ?_ | refine xv_iadd (pc' := 27) hF xd_MO_plain_26 rfl ?_
            refine xv_iload_n (pc' := 28) (i := 2) hF xd_MO_plain_27 rfl rfl rfl ?_
            refine xv_if_eqB (pc' := 31) (tgt := 42) hF xd_MO_plain_28 (by decide) rfl (fun e3 => ?_) (fun e3 => ?_)
            · refine xv_ldc (pc' := 44) hF xk_MO_k96 xd_MO_plain_42 rfl ?_
              refine xv_topi (v' := nI 1000000) (by decide +kernel) ?_
              exact xv_loc _ (by repeat (first | exact trivial | refine ⟨rfl, ?_⟩)) (fin 1000000 (by rw [hX, if_neg (by rw [e3]; simp)]))
            · refine xv_iload_n (pc' := 32) (i := 3) hF xd_MO_plain_31 rfl rfl rfl ?_
              refine xv_bipushN (pc' := 34) 33 hF xd_MO_plain_32 (by decide +kernel) rfl ?_
              refine xv_iremN (pc' := 35) hF (by omega) (by decide) (by decide) xd_MO_plain_34 rfl ?_
              refine xv_if_neN (pc' := 38) (tgt := 42) hF (by omega) xd_MO_plain_35 (by decide) rfl (fun e4 => ?_) (fun e4 => ?_)
              · refine xv_ldc (pc' := 44) hF xk_MO_k96 xd_MO_plain_42 rfl ?_
                refine xv_topi (v' := nI 1000000) (by decide +kernel) ?_
                exact xv_loc _ (by repeat (first | exact trivial | refine ⟨rfl, ?_⟩)) (fin 1000000 (by rw [hX, if_neg (by omega)]))
              · refine xv_iconstN (pc' := 39) 0 hF xd_MO_plain_38 (by decide +kernel) rfl ?_
                refine xv_goto (tgt := 44) hF xd_MO_plain_39 (by decide) ?_
                exact xv_loc _ (by repeat (first | exact trivial | refine ⟨rfl, ?_⟩)) (fin 0 (by rw [hX, if_pos ⟨e3, by omega⟩]))
    have l0 := loop 1024 0 g (by omega) (by omega) (sq_0 to X hg)
    rw [xu_same hs] at l0
    exact xv_loc _ (by repeat (first | exact trivial | refine ⟨rfl, ?_⟩)) l0
set_option maxHeartbeats 4000000 in
set_option maxRecDepth 100000 in
theorem c_MO_copy (K : xK) (n : Nat) (h : xH) (p th ma sz ln at_ f op : Nat) (mk : Bool) (fr to : Nat) (g : Nat → Int32) (S : Nat → Nat → Nat → Nat) (ho : h p = some (.inr (6, [.int (nI th), .ref (p + 1), .ref (p + 2), .int (nI ma), .ref (p + 3), .int (nI sz), .ref (p + 4), .ref (p + 5), .ref (p + 6), .ref (p + 7), .int (nI ln), .int (nI at_), .int (xm1 f), .int (xb mk), .ref (p + 8), .ref (p + 9), .ref (p + 10), .int (nI op), .ref (p + 11), .ref (p + 12)]))) (hs : h (p + 8) = some (.inl (K.2.2.1 0, 40960, .inl g))) (hg : sq_is g S) (hfr : fr < 40) (hto : to < 40) : XM K xy_MO_copy xw_MO_copy (xrm 0 0 0 0) [.ref p, .int (nI fr), .int (nI to)] n h (x_pv fun n' h' => n = n' ∧ ∃ g', h' = xu h (p + 8) (.inl (K.2.2.1 0, 40960, .inl g')) ∧ sq_is g' (if mk then va_up S to (S fr) else S)) 0 0 := by
  refine xm_v (by decide +kernel) (Nat.le_of_ble_eq_true rfl) (fun G hF hR => ?_)
  refine xv_iconstN (pc' := 1) 0 hF xd_MO_copy_0 (by decide +kernel) rfl ?_
  refine xv_istore_n (pc' := 2) (i := 3) hF xd_MO_copy_1 rfl (Nat.le_of_ble_eq_true rfl) rfl rfl ?_
  cases mk with
  | false =>
    refine xv_aload_n (pc' := 3) (i := 0) hF xd_MO_copy_2 rfl rfl rfl ?_
    refine xv_get (pc' := 6) (ci := 6) hF (by first | assumption | exact xu_self | (refine (xu_ne (by omega)).trans ?_; first | assumption | exact xu_self | (refine (xu_ne (by omega)).trans ?_; first | assumption | exact xu_self | (refine (xu_ne (by omega)).trans ?_; first | assumption | exact xu_self | (refine (xu_ne (by omega)).trans ?_; first | assumption | exact xu_self))))) rfl xu_MO 13 (by decide) xk_MO_f92 (by rfl) xd_MO_copy_3 rfl ?_
    refine xv_if_eqB (pc' := 9) (tgt := 46) hF xd_MO_copy_6 (by decide) rfl (fun e => ?_) (fun e => ?_)
    · refine hR _ _ _ _ _ _ (by omega) (by omega) ?_ xd_MO_copy_46
      exact ⟨rfl, g, (xu_same hs).symm, hg⟩
    · cases e
  | true =>
    have loop : ∀ d k g1, 1024 - k = d → k ≤ 1024 → sq_is g1 (sq_up S to (S fr) k) → XV G 0 0 2 [(3, .int (nI k)), (0, .ref p), (1, .int (nI fr)), (2, .int (nI to))] [] n (xu h (p + 8) (.inl (K.2.2.1 0, 40960, .inl g1))) := by
      intro d
      induction d using Nat.strongRecOn with
      | ind d ih =>
        intro k g1 hd hk hg1
        refine xv_aload_n (pc' := 3) (i := 0) hF xd_MO_copy_2 rfl rfl rfl ?_
        refine xv_get (pc' := 6) (ci := 6) hF (by first | assumption | exact xu_self | (refine (xu_ne (by omega)).trans ?_; first | assumption | exact xu_self | (refine (xu_ne (by omega)).trans ?_; first | assumption | exact xu_self | (refine (xu_ne (by omega)).trans ?_; first | assumption | exact xu_self | (refine (xu_ne (by omega)).trans ?_; first | assumption | exact xu_self))))) rfl xu_MO 13 (by decide) xk_MO_f92 (by rfl) xd_MO_copy_3 rfl ?_
        refine xv_if_eqB (pc' := 9) (tgt := 46) hF xd_MO_copy_6 (by decide) rfl (fun e => ?_) (fun e => ?_)
        · cases e
        · refine xv_iload_n (pc' := 10) (i := 3) hF xd_MO_copy_9 rfl rfl rfl ?_
          refine xv_sipushN (pc' := 13) 1024 hF xd_MO_copy_10 (by decide +kernel) rfl ?_
          refine xv_icmp_geN (pc' := 16) (tgt := 46) hF (by omega) (by omega) xd_MO_copy_13 (by decide) rfl (fun e2 => ?_) (fun e2 => ?_)
          · refine hR _ _ _ _ _ _ (by omega) (by omega) ?_ xd_MO_copy_46
            have : k = 1024 := by omega
            subst this
            exact ⟨rfl, g1, rfl, sq_end hg1⟩
          · refine xv_aload_n (pc' := 17) (i := 0) hF xd_MO_copy_16 rfl rfl rfl ?_
            refine xv_get (pc' := 20) (ci := 6) hF (by first | assumption | exact xu_self | (refine (xu_ne (by omega)).trans ?_; first | assumption | exact xu_self | (refine (xu_ne (by omega)).trans ?_; first | assumption | exact xu_self | (refine (xu_ne (by omega)).trans ?_; first | assumption | exact xu_self | (refine (xu_ne (by omega)).trans ?_; first | assumption | exact xu_self))))) rfl xu_MO 14 (by decide) xk_MO_f33 (by rfl) xd_MO_copy_17 rfl ?_
            refine xv_sipushN (pc' := 23) 1024 hF xd_MO_copy_20 (by decide +kernel) rfl ?_
            refine xv_iload_n (pc' := 24) (i := 2) hF xd_MO_copy_23 rfl rfl rfl ?_
            first | refine xv_imulN (pc' := 25) hF xd_MO_copy_24 rfl ?_ | refine xv_imul (pc' := 25) hF xd_MO_copy_24 rfl ?_
            refine xv_iload_n (pc' := 26) (i := 3) hF xd_MO_copy_25 rfl rfl rfl ?_
            first | refine xv_iaddN (pc' := 27) hF xd_MO_copy_26 rfl ?_ | refine xv_iadd (pc' := 27) hF xd_MO_copy_26 rfl ?_
            refine xv_aload_n (pc' := 28) (i := 0) hF xd_MO_copy_27 rfl rfl rfl ?_
            refine xv_get (pc' := 31) (ci := 6) hF (by first | assumption | exact xu_self | (refine (xu_ne (by omega)).trans ?_; first | assumption | exact xu_self | (refine (xu_ne (by omega)).trans ?_; first | assumption | exact xu_self | (refine (xu_ne (by omega)).trans ?_; first | assumption | exact xu_self | (refine (xu_ne (by omega)).trans ?_; first | assumption | exact xu_self))))) rfl xu_MO 14 (by decide) xk_MO_f33 (by rfl) xd_MO_copy_28 rfl ?_
            refine xv_sipushN (pc' := 34) 1024 hF xd_MO_copy_31 (by decide +kernel) rfl ?_
            refine xv_iload_n (pc' := 35) (i := 1) hF xd_MO_copy_34 rfl rfl rfl ?_
            first | refine xv_imulN (pc' := 36) hF xd_MO_copy_35 rfl ?_ | refine xv_imul (pc' := 36) hF xd_MO_copy_35 rfl ?_
            refine xv_iload_n (pc' := 37) (i := 3) hF xd_MO_copy_36 rfl rfl rfl ?_
            first | refine xv_iaddN (pc' := 38) hF xd_MO_copy_37 rfl ?_ | refine xv_iadd (pc' := 38) hF xd_MO_copy_37 rfl ?_
            first | refine xv_ialdN (pc' := 39) hF (by first | assumption | exact xu_self | (refine (xu_ne (by omega)).trans ?_; first | assumption | exact xu_self | (refine (xu_ne (by omega)).trans ?_; first | assumption | exact xu_self | (refine (xu_ne (by omega)).trans ?_; first | assumption | exact xu_self | (refine (xu_ne (by omega)).trans ?_; first | assumption | exact xu_self))))) (by omega) (by decide) xd_MO_copy_38 rfl ?_ | refine xv_iald (pc' := 39) hF (by first | assumption | exact xu_self | (refine (xu_ne (by omega)).trans ?_; first | assumption | exact xu_self | (refine (xu_ne (by omega)).trans ?_; first | assumption | exact xu_self | (refine (xu_ne (by omega)).trans ?_; first | assumption | exact xu_self | (refine (xu_ne (by omega)).trans ?_; first | assumption | exact xu_self))))) (by omega) xd_MO_copy_38 rfl ?_
            have hv := hg1 fr k hfr e2
            rw [sq_old (by omega)] at hv
            refine xv_iastN (pc' := 40) hF (by first | assumption | exact xu_self | (refine (xu_ne (by omega)).trans ?_; first | assumption | exact xu_self | (refine (xu_ne (by omega)).trans ?_; first | assumption | exact xu_self | (refine (xu_ne (by omega)).trans ?_; first | assumption | exact xu_self | (refine (xu_ne (by omega)).trans ?_; first | assumption | exact xu_self))))) (by omega) (by decide) xd_MO_copy_39 rfl ?_
            first | refine xv_iincN (pc' := 43) hF xd_MO_copy_40 rfl rfl (Nat.le_of_ble_eq_true rfl) rfl rfl ?_ | refine xv_iinc (pc' := 43) hF xd_MO_copy_40 rfl rfl (Nat.le_of_ble_eq_true rfl) rfl rfl ?_
            refine xv_goto (tgt := 2) hF xd_MO_copy_43 (by decide) ?_
            rw [xu_xu]
            exact xv_loc _ (by repeat (first | exact trivial | refine ⟨rfl, ?_⟩)) (ih _ (by omega) (k + 1) _ rfl (by omega) (sq_step hg1 hto e2 hv.1 hv.2))
    have l0 := loop 1024 0 g (by omega) (by omega) (sq_0 to _ hg)
    rw [xu_same hs] at l0
    exact xv_loc _ (by repeat (first | exact trivial | refine ⟨rfl, ?_⟩)) l0
set_option maxHeartbeats 4000000 in
set_option maxRecDepth 100000 in
theorem c_MO_either (K : xK) (n : Nat) (h : xH) (p th ma sz ln at_ f op : Nat) (mk : Bool) (to fr : Nat) (g : Nat → Int32) (S : Nat → Nat → Nat → Nat) (ho : h p = some (.inr (6, [.int (nI th), .ref (p + 1), .ref (p + 2), .int (nI ma), .ref (p + 3), .int (nI sz), .ref (p + 4), .ref (p + 5), .ref (p + 6), .ref (p + 7), .int (nI ln), .int (nI at_), .int (xm1 f), .int (xb mk), .ref (p + 8), .ref (p + 9), .ref (p + 10), .int (nI op), .ref (p + 11), .ref (p + 12)]))) (hs : h (p + 8) = some (.inl (K.2.2.1 0, 40960, .inl g))) (hg : sq_is g S) (hfr : fr < 40) (hto : to < 40) (hne : fr ≠ to) : XM K xy_MO_either xw_MO_either (xrm 0 0 0 0) [.ref p, .int (nI to), .int (nI fr)] n h (x_pv fun n' h' => n = n' ∧ ∃ g', h' = xu h (p + 8) (.inl (K.2.2.1 0, 40960, .inl g')) ∧ sq_is g' (if mk then va_up S to (fun i j => min (S to i j) (S fr i j)) else S)) 0 0 := by
  refine xm_v (by decide +kernel) (Nat.le_of_ble_eq_true rfl) (fun G hF hR => ?_)
  refine xv_iconstN (pc' := 1) 0 hF xd_MO_either_0 (by decide +kernel) rfl ?_
  refine xv_istore_n (pc' := 2) (i := 3) hF xd_MO_either_1 rfl (Nat.le_of_ble_eq_true rfl) rfl rfl ?_
  cases mk with
  | false =>
    refine xv_aload_n (pc' := 3) (i := 0) hF xd_MO_either_2 rfl rfl rfl ?_
    refine xv_get (pc' := 6) (ci := 6) hF (by first | assumption | exact xu_self | (refine (xu_ne (by omega)).trans ?_; first | assumption | exact xu_self | (refine (xu_ne (by omega)).trans ?_; first | assumption | exact xu_self | (refine (xu_ne (by omega)).trans ?_; first | assumption | exact xu_self | (refine (xu_ne (by omega)).trans ?_; first | assumption | exact xu_self))))) rfl xu_MO 13 (by decide) xk_MO_f92 (by rfl) xd_MO_either_3 rfl ?_
    refine xv_if_eqB (pc' := 9) (tgt := 82) hF xd_MO_either_6 (by decide) rfl (fun e => ?_) (fun e => ?_)
    · refine hR _ _ _ _ _ _ (by omega) (by omega) ?_ xd_MO_either_82
      exact ⟨rfl, g, (xu_same hs).symm, hg⟩
    · cases e
  | true =>
    have loop : ∀ d k g1, 1024 - k = d → k ≤ 1024 → sq_is g1 (sq_up S to (fun i j => min (S to i j) (S fr i j)) k) → XV G 0 0 2 [(3, .int (nI k)), (0, .ref p), (1, .int (nI to)), (2, .int (nI fr))] [] n (xu h (p + 8) (.inl (K.2.2.1 0, 40960, .inl g1))) := by
      intro d
      induction d using Nat.strongRecOn with
      | ind d ih =>
        intro k g1 hd hk hg1
        refine xv_aload_n (pc' := 3) (i := 0) hF xd_MO_either_2 rfl rfl rfl ?_
        refine xv_get (pc' := 6) (ci := 6) hF (by first | assumption | exact xu_self | (refine (xu_ne (by omega)).trans ?_; first | assumption | exact xu_self | (refine (xu_ne (by omega)).trans ?_; first | assumption | exact xu_self | (refine (xu_ne (by omega)).trans ?_; first | assumption | exact xu_self | (refine (xu_ne (by omega)).trans ?_; first | assumption | exact xu_self))))) rfl xu_MO 13 (by decide) xk_MO_f92 (by rfl) xd_MO_either_3 rfl ?_
        refine xv_if_eqB (pc' := 9) (tgt := 82) hF xd_MO_either_6 (by decide) rfl (fun e => ?_) (fun e => ?_)
        · cases e
        · refine xv_iload_n (pc' := 10) (i := 3) hF xd_MO_either_9 rfl rfl rfl ?_
          refine xv_sipushN (pc' := 13) 1024 hF xd_MO_either_10 (by decide +kernel) rfl ?_
          refine xv_icmp_geN (pc' := 16) (tgt := 82) hF (by omega) (by omega) xd_MO_either_13 (by decide) rfl (fun e2 => ?_) (fun e2 => ?_)
          · refine hR _ _ _ _ _ _ (by omega) (by omega) ?_ xd_MO_either_82
            have : k = 1024 := by omega
            subst this
            exact ⟨rfl, g1, rfl, sq_end hg1⟩
          · have hv := hg1 fr k hfr e2
            rw [sq_old (by omega)] at hv
            have hw := hg1 to k hto e2
            rw [sq_old (by omega)] at hw
            have fin : ∀ v, v = min (S to (k / 32) (k % 32)) (S fr (k / 32) (k % 32)) → XV G 0 0 75 [(4, .int (nI (S fr (k / 32) (k % 32)))), (3, .int (nI k)), (0, .ref p), (1, .int (nI to)), (2, .int (nI fr))] [.int (nI v), .int (nI (1024 * to + k)), .ref (p + 8)] n (xu h (p + 8) (.inl (K.2.2.1 0, 40960, .inl g1))) := by
              intro v hv'
              refine xv_iastN (pc' := 76) hF (by first | assumption | exact xu_self | (refine (xu_ne (by omega)).trans ?_; first | assumption | exact xu_self | (refine (xu_ne (by omega)).trans ?_; first | assumption | exact xu_self | (refine (xu_ne (by omega)).trans ?_; first | assumption | exact xu_self | (refine (xu_ne (by omega)).trans ?_; first | assumption | exact xu_self))))) (by omega) (by decide) xd_MO_either_75 rfl ?_
              first | refine xv_iincN (pc' := 79) hF xd_MO_either_76 rfl rfl (Nat.le_of_ble_eq_true rfl) rfl rfl ?_ | refine xv_iinc (pc' := 79) hF xd_MO_either_76 rfl rfl (Nat.le_of_ble_eq_true rfl) rfl rfl ?_
              refine xv_goto (tgt := 2) hF xd_MO_either_79 (by decide) ?_
              rw [xu_xu]
              refine xv_loc _ (by repeat (first | exact trivial | refine ⟨rfl, ?_⟩)) (ih _ (by omega) (k + 1) _ rfl (by omega) (sq_step hg1 hto e2 (by rw [hv']) ?_))
              show min _ _ ≤ _
              omega
            refine xv_aload_n (pc' := 17) (i := 0) hF xd_MO_either_16 rfl rfl rfl ?_
            refine xv_get (pc' := 20) (ci := 6) hF (by first | assumption | exact xu_self | (refine (xu_ne (by omega)).trans ?_; first | assumption | exact xu_self | (refine (xu_ne (by omega)).trans ?_; first | assumption | exact xu_self | (refine (xu_ne (by omega)).trans ?_; first | assumption | exact xu_self | (refine (xu_ne (by omega)).trans ?_; first | assumption | exact xu_self))))) rfl xu_MO 14 (by decide) xk_MO_f33 (by rfl) xd_MO_either_17 rfl ?_
            refine xv_sipushN (pc' := 23) 1024 hF xd_MO_either_20 (by decide +kernel) rfl ?_
            refine xv_iload_n (pc' := 24) (i := 2) hF xd_MO_either_23 rfl rfl rfl ?_
            first | refine xv_imulN (pc' := 25) hF xd_MO_either_24 rfl ?_ | refine xv_imul (pc' := 25) hF xd_MO_either_24 rfl ?_
            refine xv_iload_n (pc' := 26) (i := 3) hF xd_MO_either_25 rfl rfl rfl ?_
            first | refine xv_iaddN (pc' := 27) hF xd_MO_either_26 rfl ?_ | refine xv_iadd (pc' := 27) hF xd_MO_either_26 rfl ?_
            first | refine xv_ialdN (pc' := 28) hF (by first | assumption | exact xu_self | (refine (xu_ne (by omega)).trans ?_; first | assumption | exact xu_self | (refine (xu_ne (by omega)).trans ?_; first | assumption | exact xu_self | (refine (xu_ne (by omega)).trans ?_; first | assumption | exact xu_self | (refine (xu_ne (by omega)).trans ?_; first | assumption | exact xu_self))))) (by omega) (by decide) xd_MO_either_27 rfl ?_ | refine xv_iald (pc' := 28) hF (by first | assumption | exact xu_self | (refine (xu_ne (by omega)).trans ?_; first | assumption | exact xu_self | (refine (xu_ne (by omega)).trans ?_; first | assumption | exact xu_self | (refine (xu_ne (by omega)).trans ?_; first | assumption | exact xu_self | (refine (xu_ne (by omega)).trans ?_; first | assumption | exact xu_self))))) (by omega) xd_MO_either_27 rfl ?_
            refine xv_topi hv.1 ?_
            refine xv_istore (pc' := 30) hF xd_MO_either_28 (Nat.le_of_ble_eq_true rfl) rfl rfl ?_
            refine xv_aload_n (pc' := 31) (i := 0) hF xd_MO_either_30 rfl rfl rfl ?_
            refine xv_get (pc' := 34) (ci := 6) hF (by first | assumption | exact xu_self | (refine (xu_ne (by omega)).trans ?_; first | assumption | exact xu_self | (refine (xu_ne (by omega)).trans ?_; first | assumption | exact xu_self | (refine (xu_ne (by omega)).trans ?_; first | assumption | exact xu_self | (refine (xu_ne (by omega)).trans ?_; first | assumption | exact xu_self))))) rfl xu_MO 14 (by decide) xk_MO_f33 (by rfl) xd_MO_either_31 rfl ?_
            refine xv_sipushN (pc' := 37) 1024 hF xd_MO_either_34 (by decide +kernel) rfl ?_
            refine xv_iload_n (pc' := 38) (i := 1) hF xd_MO_either_37 rfl rfl rfl ?_
            first | refine xv_imulN (pc' := 39) hF xd_MO_either_38 rfl ?_ | refine xv_imul (pc' := 39) hF xd_MO_either_38 rfl ?_
            refine xv_iload_n (pc' := 40) (i := 3) hF xd_MO_either_39 rfl rfl rfl ?_
            first | refine xv_iaddN (pc' := 41) hF xd_MO_either_40 rfl ?_ | refine xv_iadd (pc' := 41) hF xd_MO_either_40 rfl ?_
            refine xv_iload (pc' := 43) hF xd_MO_either_41 rfl rfl ?_
            refine xv_aload_n (pc' := 44) (i := 0) hF xd_MO_either_43 rfl rfl rfl ?_
            refine xv_get (pc' := 47) (ci := 6) hF (by first | assumption | exact xu_self | (refine (xu_ne (by omega)).trans ?_; first | assumption | exact xu_self | (refine (xu_ne (by omega)).trans ?_; first | assumption | exact xu_self | (refine (xu_ne (by omega)).trans ?_; first | assumption | exact xu_self | (refine (xu_ne (by omega)).trans ?_; first | assumption | exact xu_self))))) rfl xu_MO 14 (by decide) xk_MO_f33 (by rfl) xd_MO_either_44 rfl ?_
            refine xv_sipushN (pc' := 50) 1024 hF xd_MO_either_47 (by decide +kernel) rfl ?_
            refine xv_iload_n (pc' := 51) (i := 1) hF xd_MO_either_50 rfl rfl rfl ?_
            first | refine xv_imulN (pc' := 52) hF xd_MO_either_51 rfl ?_ | refine xv_imul (pc' := 52) hF xd_MO_either_51 rfl ?_
            refine xv_iload_n (pc' := 53) (i := 3) hF xd_MO_either_52 rfl rfl rfl ?_
            first | refine xv_iaddN (pc' := 54) hF xd_MO_either_53 rfl ?_ | refine xv_iadd (pc' := 54) hF xd_MO_either_53 rfl ?_
            first | refine xv_ialdN (pc' := 55) hF (by first | assumption | exact xu_self | (refine (xu_ne (by omega)).trans ?_; first | assumption | exact xu_self | (refine (xu_ne (by omega)).trans ?_; first | assumption | exact xu_self | (refine (xu_ne (by omega)).trans ?_; first | assumption | exact xu_self | (refine (xu_ne (by omega)).trans ?_; first | assumption | exact xu_self))))) (by omega) (by decide) xd_MO_either_54 rfl ?_ | refine xv_iald (pc' := 55) hF (by first | assumption | exact xu_self | (refine (xu_ne (by omega)).trans ?_; first | assumption | exact xu_self | (refine (xu_ne (by omega)).trans ?_; first | assumption | exact xu_self | (refine (xu_ne (by omega)).trans ?_; first | assumption | exact xu_self | (refine (xu_ne (by omega)).trans ?_; first | assumption | exact xu_self))))) (by omega) xd_MO_either_54 rfl ?_
            refine xv_topi hw.1 ?_
            refine xv_icmp_geN (pc' := 58) (tgt := 63) hF (by omega) (by omega) xd_MO_either_55 (by decide) rfl (fun e3 => ?_) (fun e3 => ?_)
            · refine xv_aload_n (pc' := 64) (i := 0) hF xd_MO_either_63 rfl rfl rfl ?_
              refine xv_get (pc' := 67) (ci := 6) hF (by first | assumption | exact xu_self | (refine (xu_ne (by omega)).trans ?_; first | assumption | exact xu_self | (refine (xu_ne (by omega)).trans ?_; first | assumption | exact xu_self | (refine (xu_ne (by omega)).trans ?_; first | assumption | exact xu_self | (refine (xu_ne (by omega)).trans ?_; first | assumption | exact xu_self))))) rfl xu_MO 14 (by decide) xk_MO_f33 (by rfl) xd_MO_either_64 rfl ?_
              refine xv_sipushN (pc' := 70) 1024 hF xd_MO_either_67 (by decide +kernel) rfl ?_
              refine xv_iload_n (pc' := 71) (i := 1) hF xd_MO_either_70 rfl rfl rfl ?_
              first | refine xv_imulN (pc' := 72) hF xd_MO_either_71 rfl ?_ | refine xv_imul (pc' := 72) hF xd_MO_either_71 rfl ?_
              refine xv_iload_n (pc' := 73) (i := 3) hF xd_MO_either_72 rfl rfl rfl ?_
              first | refine xv_iaddN (pc' := 74) hF xd_MO_either_73 rfl ?_ | refine xv_iadd (pc' := 74) hF xd_MO_either_73 rfl ?_
              first | refine xv_ialdN (pc' := 75) hF (by first | assumption | exact xu_self | (refine (xu_ne (by omega)).trans ?_; first | assumption | exact xu_self | (refine (xu_ne (by omega)).trans ?_; first | assumption | exact xu_self | (refine (xu_ne (by omega)).trans ?_; first | assumption | exact xu_self | (refine (xu_ne (by omega)).trans ?_; first | assumption | exact xu_self))))) (by omega) (by decide) xd_MO_either_74 rfl ?_ | refine xv_iald (pc' := 75) hF (by first | assumption | exact xu_self | (refine (xu_ne (by omega)).trans ?_; first | assumption | exact xu_self | (refine (xu_ne (by omega)).trans ?_; first | assumption | exact xu_self | (refine (xu_ne (by omega)).trans ?_; first | assumption | exact xu_self | (refine (xu_ne (by omega)).trans ?_; first | assumption | exact xu_self))))) (by omega) xd_MO_either_74 rfl ?_
              refine xv_topi hw.1 ?_
              exact xv_loc _ (by repeat (first | exact trivial | refine ⟨rfl, ?_⟩)) (fin _ (by omega))
            · refine xv_iload (pc' := 60) hF xd_MO_either_58 rfl rfl ?_
              refine xv_goto (tgt := 75) hF xd_MO_either_60 (by decide) ?_
              exact xv_loc _ (by repeat (first | exact trivial | refine ⟨rfl, ?_⟩)) (fin _ (by omega))
    have l0 := loop 1024 0 g (by omega) (by omega) (sq_0 to _ hg)
    rw [xu_same hs] at l0
    exact xv_loc _ (by repeat (first | exact trivial | refine ⟨rfl, ?_⟩)) l0
