/-! new relations, graphs, expressions -/
set_option maxHeartbeats 4000000 in
set_option maxRecDepth 100000 in
theorem c_RE_init (K : xK) (a : Nat) (h : xH) (ha : h a = some (.inr (2, [.null, .null]))) : XM K xy_RE_init xw_RE_init (xrm 1 12 2 1056) [.ref a] (a + 1) h (x_pv fun n' h' => n' = a + 3 ∧ (∀ q, q < a → h' q = h q) ∧ re_R K h' a md_no) 2 1056 := by
  refine xm_c (by decide +kernel) rfl (Nat.le_of_ble_eq_true rfl) (fun G hF hX hR => ?_)
  refine xv_aload_n (pc' := 1) (i := 0) hF xd_RE_init_0 rfl rfl rfl ?_
  refine xv_obj (pc' := 4) hF xk_RE_m3 xk_i_JO_init xk_c_JO_init xd_RE_init_1 (Nat.le_of_ble_eq_true rfl) (Nat.le_of_ble_eq_true rfl) rfl ?_
  refine xv_aload_n (pc' := 5) (i := 0) hF xd_RE_init_4 rfl rfl rfl ?_
  refine xv_bipushN (pc' := 7) 32 hF xd_RE_init_5 (by decide +kernel) rfl ?_
  refine xv_newa (pc' := 9) (atype := .int) (a0 := (32, .inl (fun _ => 0))) (N' := 32) 0 hF xk_ac_int rfl rfl (fun C hC => by cases hC) (fun cA => by rfl) (nI_pos (by decide)) (nI_clamp (by decide)) (by decide) (Nat.le_of_ble_eq_true rfl) (Nat.le_of_ble_eq_true rfl) xd_RE_init_7 rfl (fun hnw => ?_)
  refine xv_putF (pc' := 12) (ci := 2) (ty := xt_RE 0) hF hX (by first | assumption | exact xu_self | (refine (xu_ne (by omega)).trans ?_; first | assumption | exact xu_self | (refine (xu_ne (by omega)).trans ?_; first | assumption | exact xu_self | (refine (xu_ne (by omega)).trans ?_; first | assumption | exact xu_self | (refine (xu_ne (by omega)).trans ?_; first | assumption | exact xu_self))))) rfl xu_RE xt_RE xo_RE xn_RE 0 (by decide) xk_RE_f9 rfl rfl (by decide +kernel) (by first | rfl | exact xb_nw _ | decide +kernel) (by first | rfl | exact xb_ft _ | decide +kernel) (by exact Nat.le_of_ble_eq_true rfl) (by dsimp only [List.set] <;> rfl) xd_RE_init_9 rfl ?_
  refine xv_aload_n (pc' := 13) (i := 0) hF xd_RE_init_12 rfl rfl rfl ?_
  refine xv_sipushN (pc' := 16) 1024 hF xd_RE_init_13 (by decide +kernel) rfl ?_
  refine xv_newa (pc' := 18) (atype := .int) (a0 := (1024, .inl (fun _ => 0))) (N' := 1024) 0 hF xk_ac_int rfl rfl (fun C hC => by cases hC) (fun cA => by rfl) (nI_pos (by decide)) (nI_clamp (by decide)) (by decide) (Nat.le_of_ble_eq_true rfl) (Nat.le_of_ble_eq_true rfl) xd_RE_init_16 rfl (fun hnw => ?_)
  refine xv_putF (pc' := 21) (ci := 2) (ty := xt_RE 1) hF hX (by first | assumption | exact xu_self | (refine (xu_ne (by omega)).trans ?_; first | assumption | exact xu_self | (refine (xu_ne (by omega)).trans ?_; first | assumption | exact xu_self | (refine (xu_ne (by omega)).trans ?_; first | assumption | exact xu_self | (refine (xu_ne (by omega)).trans ?_; first | assumption | exact xu_self))))) rfl xu_RE xt_RE xo_RE xn_RE 1 (by decide) xk_RE_f15 rfl rfl (by decide +kernel) (by first | rfl | exact xb_nw _ | decide +kernel) (by first | rfl | exact xb_ft _ | decide +kernel) (by exact Nat.le_of_ble_eq_true rfl) (by dsimp only [List.set] <;> rfl) xd_RE_init_18 rfl ?_
  refine hR _ _ _ _ _ _ (by omega) (by omega) ?_ xd_RE_init_21
  refine ⟨rfl, fun q hq => ?_, fun _ => 0, fun _ => 0, ⟨xu_self, ?_, ?_⟩, fun i j hi hj => ⟨?_, fun hx => absurd hx (by unfold md_no; omega)⟩⟩
  · rw [xu_ne (by omega), xu_ne (by omega), xu_ne (by omega), xu_ne (by omega)]
  · rw [xu_ne (by omega), xu_ne (by omega), xu_ne (by omega)]; exact xu_self
  · rw [xu_ne (by omega)]; exact xu_self
  · exact (b_0 j).trans (by unfold md_no; decide)
set_option maxHeartbeats 4000000 in
set_option maxRecDepth 100000 in
theorem c_GR_init (K : xK) (a : Nat) (h : xH) (ha : h a = some (.inr (1, [.null, .null, .int 0]))) : XM K xy_GR_init xw_GR_init (xrm 1 12 2 260) [.ref a] (a + 1) h (x_pv fun n' h' => n' = a + 3 ∧ (∀ q, q < a → h' q = h q) ∧ gh_R K h' a (fun _ _ _ => false) (fun _ _ => false) 0) 2 260 := by
  refine xm_c (by decide +kernel) rfl (Nat.le_of_ble_eq_true rfl) (fun G hF hX hR => ?_)
  refine xv_aload_n (pc' := 1) (i := 0) hF xd_GR_init_0 rfl rfl rfl ?_
  refine xv_obj (pc' := 4) hF xk_GR_m3 xk_i_JO_init xk_c_JO_init xd_GR_init_1 (Nat.le_of_ble_eq_true rfl) (Nat.le_of_ble_eq_true rfl) rfl ?_
  refine xv_aload_n (pc' := 5) (i := 0) hF xd_GR_init_4 rfl rfl rfl ?_
  refine xv_sipushN (pc' := 8) 256 hF xd_GR_init_5 (by decide +kernel) rfl ?_
  refine xv_newa (pc' := 10) (atype := .int) (a0 := (256, .inl (fun _ => 0))) (N' := 256) 0 hF xk_ac_int rfl rfl (fun C hC => by cases hC) (fun cA => by rfl) (nI_pos (by decide)) (nI_clamp (by decide)) (by decide) (Nat.le_of_ble_eq_true rfl) (Nat.le_of_ble_eq_true rfl) xd_GR_init_8 rfl (fun hnw => ?_)
  refine xv_putF (pc' := 13) (ci := 1) (ty := xt_GR 0) hF hX (by first | assumption | exact xu_self | (refine (xu_ne (by omega)).trans ?_; first | assumption | exact xu_self | (refine (xu_ne (by omega)).trans ?_; first | assumption | exact xu_self | (refine (xu_ne (by omega)).trans ?_; first | assumption | exact xu_self | (refine (xu_ne (by omega)).trans ?_; first | assumption | exact xu_self))))) rfl xu_GR xt_GR xo_GR xn_GR 0 (by decide) xk_GR_f9 rfl rfl (by decide +kernel) (by first | rfl | exact xb_nw _ | decide +kernel) (by first | rfl | exact xb_ft _ | decide +kernel) (by exact Nat.le_of_ble_eq_true rfl) (by dsimp only [List.set] <;> rfl) xd_GR_init_10 rfl ?_
  refine xv_aload_n (pc' := 14) (i := 0) hF xd_GR_init_13 rfl rfl rfl ?_
  refine xv_iconstN (pc' := 15) 4 hF xd_GR_init_14 (by decide +kernel) rfl ?_
  refine xv_newa (pc' := 17) (atype := .int) (a0 := (4, .inl (fun _ => 0))) (N' := 4) 0 hF xk_ac_int rfl rfl (fun C hC => by cases hC) (fun cA => by rfl) (nI_pos (by decide)) (nI_clamp (by decide)) (by decide) (Nat.le_of_ble_eq_true rfl) (Nat.le_of_ble_eq_true rfl) xd_GR_init_15 rfl (fun hnw => ?_)
  refine xv_putF (pc' := 20) (ci := 1) (ty := xt_GR 1) hF hX (by first | assumption | exact xu_self | (refine (xu_ne (by omega)).trans ?_; first | assumption | exact xu_self | (refine (xu_ne (by omega)).trans ?_; first | assumption | exact xu_self | (refine (xu_ne (by omega)).trans ?_; first | assumption | exact xu_self | (refine (xu_ne (by omega)).trans ?_; first | assumption | exact xu_self))))) rfl xu_GR xt_GR xo_GR xn_GR 1 (by decide) xk_GR_f15 rfl rfl (by decide +kernel) (by first | rfl | exact xb_nw _ | decide +kernel) (by first | rfl | exact xb_ft _ | decide +kernel) (by exact Nat.le_of_ble_eq_true rfl) (by dsimp only [List.set] <;> rfl) xd_GR_init_17 rfl ?_
  refine xv_aload_n (pc' := 21) (i := 0) hF xd_GR_init_20 rfl rfl rfl ?_
  refine xv_iconstN (pc' := 22) 0 hF xd_GR_init_21 (by decide +kernel) rfl ?_
  refine xv_put (pc' := 25) (ci := 1) (ty := xt_GR 2) hF (by first | assumption | exact xu_self | (refine (xu_ne (by omega)).trans ?_; first | assumption | exact xu_self | (refine (xu_ne (by omega)).trans ?_; first | assumption | exact xu_self | (refine (xu_ne (by omega)).trans ?_; first | assumption | exact xu_self | (refine (xu_ne (by omega)).trans ?_; first | assumption | exact xu_self))))) rfl xu_GR xt_GR xo_GR xn_GR 2 (by decide) xk_GR_f18 rfl (by decide +kernel) (by first | rfl | exact xb_nw _ | decide +kernel) (by first | rfl | exact xb_ft _ | decide +kernel) (by exact Nat.le_of_ble_eq_true rfl) (by dsimp only [List.set] <;> rfl) xd_GR_init_22 rfl ?_
  refine hR _ _ _ _ _ _ (by omega) (by omega) ?_ xd_GR_init_25
  refine ⟨rfl, fun q hq => ?_, fun _ => 0, fun _ => 0, ⟨xu_self, ?_, ?_⟩, fun l i j hl hi hj => b_0 j, fun t i ht hi => b_0 i⟩
  · rw [xu_ne (by omega), xu_ne (by omega), xu_ne (by omega), xu_ne (by omega), xu_ne (by omega)]
  · rw [xu_ne (by omega), xu_ne (by omega), xu_ne (by omega), xu_ne (by omega)]; exact xu_self
  · rw [xu_ne (by omega), xu_ne (by omega)]; exact xu_self
/-! Expression: the orders os, and the steps -/
def ex_at (K : xK) (h : xH) (a : Nat) (f : Nat → Int32) (sz st : Nat) : Prop := h a = some (.inr (3, [.ref (a + 1), .int (nI sz), .int (nI st)])) ∧ h (a + 1) = some (.inl (K.2.2.1 0, 203, .inl f))
def ex_R (K : xK) (h : xH) (a : Nat) (os : List Nat) (st : Nat) : Prop := os.length ≤ 203 ∧ ∃ f, ex_at K h a f os.length st ∧ ∀ i, i < os.length → f i = nI (os.getD i 0)
def ex_fr (h h' : xH) (a : Nat) : Prop := ∀ q, q ≠ a → q ≠ a + 1 → h' q = h q
theorem ex_fr.tr {h h1 h2 : xH} {a : Nat} (p : ex_fr h h1 a) (q : ex_fr h1 h2 a) : ex_fr h h2 a := fun x h1 h2 => (q x h1 h2).trans (p x h1 h2)
theorem ex_word {k m : Nat} (hk : k < 16) (hm : m < 100000) : nI k ||| (nI m <<< (nI 4 &&& 31)) = nI (k + 16 * m) := by
  rw [pk_shlN (nI 4 &&& 31) 4 (s_l 4 (by decide)) (by omega), nx_orN]
  congr 1
  have := Nat.shiftLeft_add_eq_or_of_lt (i := 4) (b := k) (by omega) m
  rw [Nat.shiftLeft_eq] at this
  rw [Nat.or_comm, ← this]
  omega
set_option maxHeartbeats 4000000 in
set_option maxRecDepth 100000 in
theorem c_EX_append (K : xK) (n : Nat) (h : xH) (a k m : Nat) (os : List Nat) (st : Nat) (hr : ex_R K h a os st) (hk : k < 16) (hm : m < 100000) (hl : os.length < 203) : XM K xy_EX_append xw_EX_append (xrm 0 0 0 0) [.ref a, .int (nI k), .int (nI m)] n h (x_pv fun n' h' => n = n' ∧ ex_fr h h' a ∧ ex_R K h' a (os ++ [k + 16 * m]) st) 0 0 := by
  obtain ⟨-, f, ⟨ha, hf⟩, ho⟩ := hr
  refine xm_v (by decide +kernel) (Nat.le_of_ble_eq_true rfl) (fun G hF hR => ?_)
  refine xv_aload_n (pc' := 1) (i := 0) hF xd_EX_append_0 rfl rfl rfl ?_
  refine xv_get (pc' := 4) (ci := 3) hF (by first | assumption | exact xu_self | (refine (xu_ne (by omega)).trans ?_; first | assumption | exact xu_self | (refine (xu_ne (by omega)).trans ?_; first | assumption | exact xu_self | (refine (xu_ne (by omega)).trans ?_; first | assumption | exact xu_self | (refine (xu_ne (by omega)).trans ?_; first | assumption | exact xu_self))))) rfl xu_EX 1 (by decide) xk_EX_f15 (by rfl) xd_EX_append_1 rfl ?_
  refine xv_sipushN (pc' := 7) 203 hF xd_EX_append_4 (by decide +kernel) rfl ?_
  refine xv_icmp_geN (pc' := 10) (tgt := 34) hF (by omega) (by omega) xd_EX_append_7 (by decide) rfl (fun e => ?_) (fun e => ?_)
  · omega
  · refine xv_aload_n (pc' := 11) (i := 0) hF xd_EX_append_10 rfl rfl rfl ?_
    refine xv_get (pc' := 14) (ci := 3) hF (by first | assumption | exact xu_self | (refine (xu_ne (by omega)).trans ?_; first | assumption | exact xu_self | (refine (xu_ne (by omega)).trans ?_; first | assumption | exact xu_self | (refine (xu_ne (by omega)).trans ?_; first | assumption | exact xu_self | (refine (xu_ne (by omega)).trans ?_; first | assumption | exact xu_self))))) rfl xu_EX 0 (by decide) xk_EX_f11 (by rfl) xd_EX_append_11 rfl ?_
    refine xv_aload_n (pc' := 15) (i := 0) hF xd_EX_append_14 rfl rfl rfl ?_
    refine xv_get (pc' := 18) (ci := 3) hF (by first | assumption | exact xu_self | (refine (xu_ne (by omega)).trans ?_; first | assumption | exact xu_self | (refine (xu_ne (by omega)).trans ?_; first | assumption | exact xu_self | (refine (xu_ne (by omega)).trans ?_; first | assumption | exact xu_self | (refine (xu_ne (by omega)).trans ?_; first | assumption | exact xu_self))))) rfl xu_EX 1 (by decide) xk_EX_f15 (by rfl) xd_EX_append_15 rfl ?_
    refine xv_iload_n (pc' := 19) (i := 1) hF xd_EX_append_18 rfl rfl rfl ?_
    refine xv_iload_n (pc' := 20) (i := 2) hF xd_EX_append_19 rfl rfl rfl ?_
    refine xv_iconstN (pc' := 21) 4 hF xd_EX_append_20 (by decide +kernel) rfl ?_
    refine xv_ishl (pc' := 22) hF xd_EX_append_21 rfl ?_
    refine xv_ior (pc' := 23) hF xd_EX_append_22 rfl ?_
    refine xv_topi (ex_word hk hm) ?_
    refine xv_iastN (pc' := 24) hF (by first | assumption | exact xu_self | (refine (xu_ne (by omega)).trans ?_; first | assumption | exact xu_self | (refine (xu_ne (by omega)).trans ?_; first | assumption | exact xu_self | (refine (xu_ne (by omega)).trans ?_; first | assumption | exact xu_self | (refine (xu_ne (by omega)).trans ?_; first | assumption | exact xu_self))))) (by omega) (by decide) xd_EX_append_23 rfl ?_
    refine xv_aload_n (pc' := 25) (i := 0) hF xd_EX_append_24 rfl rfl rfl ?_
    refine xv_dup (pc' := 26) hF xd_EX_append_25 rfl rfl ?_
    refine xv_get (pc' := 29) (ci := 3) hF (by first | assumption | exact xu_self | (refine (xu_ne (by omega)).trans ?_; first | assumption | exact xu_self | (refine (xu_ne (by omega)).trans ?_; first | assumption | exact xu_self | (refine (xu_ne (by omega)).trans ?_; first | assumption | exact xu_self | (refine (xu_ne (by omega)).trans ?_; first | assumption | exact xu_self))))) rfl xu_EX 1 (by decide) xk_EX_f15 (by rfl) xd_EX_append_26 rfl ?_
    refine xv_iconstN (pc' := 30) 1 hF xd_EX_append_29 (by decide +kernel) rfl ?_
    first | refine xv_iaddN (pc' := 31) hF xd_EX_append_30 rfl ?_ | refine xv_iadd (pc' := 31) hF xd_EX_append_30 rfl ?_
    refine xv_put (pc' := 34) (ci := 3) (ty := xt_EX 1) hF (by first | assumption | exact xu_self | (refine (xu_ne (by omega)).trans ?_; first | assumption | exact xu_self | (refine (xu_ne (by omega)).trans ?_; first | assumption | exact xu_self | (refine (xu_ne (by omega)).trans ?_; first | assumption | exact xu_self | (refine (xu_ne (by omega)).trans ?_; first | assumption | exact xu_self))))) rfl xu_EX xt_EX xo_EX xn_EX 1 (by decide) xk_EX_f15 rfl (by decide +kernel) (by first | rfl | exact xb_nw _ | decide +kernel) (by first | rfl | exact xb_ft _ | decide +kernel) (by exact Nat.le_of_ble_eq_true rfl) (by dsimp only [List.set] <;> rfl) xd_EX_append_31 rfl ?_
    refine hR _ _ _ _ _ _ (by omega) (by omega) ?_ xd_EX_append_34
    refine ⟨rfl, fun q h1 h2 => ?_, by simp; omega, _, ⟨by rw [List.length_append]; exact xu_self, by rw [xu_ne (by omega)]; exact xu_self⟩, fun i hi => ?_⟩
    · rw [xu_ne h1, xu_ne h2]
    · rw [List.length_append] at hi
      by_cases c : i = os.length
      · subst c
        rw [pk_us]
        simp
      · rw [pk_un c, ho i (by simp at hi; omega)]
        congr 1
        simp at hi
        rw [List.getD_eq_getElem?_getD, List.getD_eq_getElem?_getD, List.getElem?_append_left (by omega)]
set_option maxHeartbeats 4000000 in
set_option maxRecDepth 100000 in
theorem c_EX_clear (K : xK) (n : Nat) (h : xH) (a : Nat) (os : List Nat) (st : Nat) (hr : ex_R K h a os st) : XM K xy_EX_clear xw_EX_clear (xrm 0 0 0 0) [.ref a] n h (x_pv fun n' h' => n = n' ∧ ex_fr h h' a ∧ ex_R K h' a [] 0) 0 0 := by
  obtain ⟨-, f, ⟨ha, hf⟩, ho⟩ := hr
  refine xm_v (by decide +kernel) (Nat.le_of_ble_eq_true rfl) (fun G hF hR => ?_)
  refine xv_aload_n (pc' := 1) (i := 0) hF xd_EX_clear_0 rfl rfl rfl ?_
  refine xv_iconstN (pc' := 2) 0 hF xd_EX_clear_1 (by decide +kernel) rfl ?_
  refine xv_put (pc' := 5) (ci := 3) (ty := xt_EX 1) hF (by first | assumption | exact xu_self | (refine (xu_ne (by omega)).trans ?_; first | assumption | exact xu_self | (refine (xu_ne (by omega)).trans ?_; first | assumption | exact xu_self | (refine (xu_ne (by omega)).trans ?_; first | assumption | exact xu_self | (refine (xu_ne (by omega)).trans ?_; first | assumption | exact xu_self))))) rfl xu_EX xt_EX xo_EX xn_EX 1 (by decide) xk_EX_f15 rfl (by decide +kernel) (by first | rfl | exact xb_nw _ | decide +kernel) (by first | rfl | exact xb_ft _ | decide +kernel) (by exact Nat.le_of_ble_eq_true rfl) (by dsimp only [List.set] <;> rfl) xd_EX_clear_2 rfl ?_
  refine xv_aload_n (pc' := 6) (i := 0) hF xd_EX_clear_5 rfl rfl rfl ?_
  refine xv_iconstN (pc' := 7) 0 hF xd_EX_clear_6 (by decide +kernel) rfl ?_
  refine xv_put (pc' := 10) (ci := 3) (ty := xt_EX 2) hF (by first | assumption | exact xu_self | (refine (xu_ne (by omega)).trans ?_; first | assumption | exact xu_self | (refine (xu_ne (by omega)).trans ?_; first | assumption | exact xu_self | (refine (xu_ne (by omega)).trans ?_; first | assumption | exact xu_self | (refine (xu_ne (by omega)).trans ?_; first | assumption | exact xu_self))))) rfl xu_EX xt_EX xo_EX xn_EX 2 (by decide) xk_EX_f19 rfl (by decide +kernel) (by first | rfl | exact xb_nw _ | decide +kernel) (by first | rfl | exact xb_ft _ | decide +kernel) (by exact Nat.le_of_ble_eq_true rfl) (by dsimp only [List.set] <;> rfl) xd_EX_clear_7 rfl ?_
  refine hR _ _ _ _ _ _ (by omega) (by omega) ?_ xd_EX_clear_10
  refine ⟨rfl, fun q h1 h2 => ?_, by decide, f, ⟨xu_self, by rw [xu_ne (by omega), xu_ne (by omega)]; exact hf⟩, fun i hi => absurd hi (Nat.not_lt_zero _)⟩
  rw [xu_ne h1, xu_ne h1]
set_option maxHeartbeats 4000000 in
set_option maxRecDepth 100000 in
theorem c_EX_makeEmptyRow (K : xK) (n : Nat) (h : xH) (a : Nat) (os : List Nat) (st : Nat) (hr : ex_R K h a os st) : XM K xy_EX_makeEmptyRow xw_EX_makeEmptyRow (xrm 1 22 0 0) [.ref a] n h (x_pv fun n' h' => n = n' ∧ ex_fr h h' a ∧ ex_R K h' a [1] 0) 0 0 := by
  obtain ⟨-, f, ⟨ha, hf⟩, ho⟩ := id hr
  refine xm_v (by decide +kernel) (Nat.le_of_ble_eq_true rfl) (fun G hF hR => ?_)
  refine xv_aload_n (pc' := 1) (i := 0) hF xd_EX_makeEmptyRow_0 rfl rfl rfl ?_
  refine xv_callVv (pc' := 4) (ci := 3) hF (c_EX_clear K n h a os st hr) xq_EX_clear xk_EX_m22 xk_i_EX_clear xk_s_EX_clear (by first | assumption | exact xu_self | (refine (xu_ne (by omega)).trans ?_; first | assumption | exact xu_self | (refine (xu_ne (by omega)).trans ?_; first | assumption | exact xu_self | (refine (xu_ne (by omega)).trans ?_; first | assumption | exact xu_self | (refine (xu_ne (by omega)).trans ?_; first | assumption | exact xu_self))))) rfl ⟨(Nat.le_of_ble_eq_true rfl), (Nat.le_of_ble_eq_true rfl)⟩ rfl rfl (Nat.le_of_ble_eq_true rfl) ⟨(Nat.le_of_ble_eq_true rfl), (Nat.le_of_ble_eq_true rfl)⟩ xd_EX_makeEmptyRow_1 rfl (fun n1 h1 p1 => ?_)
  obtain ⟨rfl, f1, r1⟩ := p1
  obtain ⟨-, f2, ⟨ha2, hf2⟩, ho2⟩ := id r1
  refine xv_aload_n (pc' := 5) (i := 0) hF xd_EX_makeEmptyRow_4 rfl rfl rfl ?_
  refine xv_iconstN (pc' := 6) 1 hF xd_EX_makeEmptyRow_5 (by decide +kernel) rfl ?_
  refine xv_iconstN (pc' := 7) 0 hF xd_EX_makeEmptyRow_6 (by decide +kernel) rfl ?_
  refine xv_callVv (pc' := 10) (ci := 3) hF (c_EX_append K n h1 a 1 0 [] 0 r1 (by decide) (by decide) (by decide)) xq_EX_append xk_EX_m25 xk_i_EX_append xk_s_EX_append (by first | assumption | exact xu_self | (refine (xu_ne (by omega)).trans ?_; first | assumption | exact xu_self | (refine (xu_ne (by omega)).trans ?_; first | assumption | exact xu_self | (refine (xu_ne (by omega)).trans ?_; first | assumption | exact xu_self | (refine (xu_ne (by omega)).trans ?_; first | assumption | exact xu_self))))) rfl ⟨(Nat.le_of_ble_eq_true rfl), (Nat.le_of_ble_eq_true rfl)⟩ rfl rfl (Nat.le_of_ble_eq_true rfl) ⟨(Nat.le_of_ble_eq_true rfl), (Nat.le_of_ble_eq_true rfl)⟩ xd_EX_makeEmptyRow_7 rfl (fun n2 h2 p2 => ?_)
  obtain ⟨rfl, f3, r3⟩ := p2
  refine hR _ _ _ _ _ _ (by omega) (by omega) ?_ xd_EX_makeEmptyRow_10
  exact ⟨rfl, f1.tr f3, r3⟩
set_option maxHeartbeats 4000000 in
set_option maxRecDepth 100000 in
theorem c_EX_init (K : xK) (a : Nat) (h : xH) (ha : h a = some (.inr (3, [.null, .int 0, .int 0]))) : XM K xy_EX_init xw_EX_init (xrm 1 12 1 203) [.ref a] (a + 1) h (x_pv fun n' h' => n' = a + 2 ∧ (∀ q, q < a → h' q = h q) ∧ ex_R K h' a [1] 0) 1 203 := by
  refine xm_c (by decide +kernel) rfl (Nat.le_of_ble_eq_true rfl) (fun G hF hX hR => ?_)
  refine xv_aload_n (pc' := 1) (i := 0) hF xd_EX_init_0 rfl rfl rfl ?_
  refine xv_obj (pc' := 4) hF xk_EX_m5 xk_i_JO_init xk_c_JO_init xd_EX_init_1 (Nat.le_of_ble_eq_true rfl) (Nat.le_of_ble_eq_true rfl) rfl ?_
  refine xv_aload_n (pc' := 5) (i := 0) hF xd_EX_init_4 rfl rfl rfl ?_
  refine xv_sipushN (pc' := 8) 203 hF xd_EX_init_5 (by decide +kernel) rfl ?_
  refine xv_newa (pc' := 10) (atype := .int) (a0 := (203, .inl (fun _ => 0))) (N' := 203) 0 hF xk_ac_int rfl rfl (fun C hC => by cases hC) (fun cA => by rfl) (nI_pos (by decide)) (nI_clamp (by decide)) (by decide) (Nat.le_of_ble_eq_true rfl) (Nat.le_of_ble_eq_true rfl) xd_EX_init_8 rfl (fun hnw => ?_)
  refine xv_putF (pc' := 13) (ci := 3) (ty := xt_EX 0) hF hX (by first | assumption | exact xu_self | (refine (xu_ne (by omega)).trans ?_; first | assumption | exact xu_self | (refine (xu_ne (by omega)).trans ?_; first | assumption | exact xu_self | (refine (xu_ne (by omega)).trans ?_; first | assumption | exact xu_self | (refine (xu_ne (by omega)).trans ?_; first | assumption | exact xu_self))))) rfl xu_EX xt_EX xo_EX xn_EX 0 (by decide) xk_EX_f11 rfl rfl (by decide +kernel) (by first | rfl | exact xb_nw _ | decide +kernel) (by first | rfl | exact xb_ft _ | decide +kernel) (by exact Nat.le_of_ble_eq_true rfl) (by dsimp only [List.set] <;> rfl) xd_EX_init_10 rfl ?_
  refine xv_aload_n (pc' := 14) (i := 0) hF xd_EX_init_13 rfl rfl rfl ?_
  refine xv_iconstN (pc' := 15) 0 hF xd_EX_init_14 (by decide +kernel) rfl ?_
  refine xv_put (pc' := 18) (ci := 3) (ty := xt_EX 1) hF (by first | assumption | exact xu_self | (refine (xu_ne (by omega)).trans ?_; first | assumption | exact xu_self | (refine (xu_ne (by omega)).trans ?_; first | assumption | exact xu_self | (refine (xu_ne (by omega)).trans ?_; first | assumption | exact xu_self | (refine (xu_ne (by omega)).trans ?_; first | assumption | exact xu_self))))) rfl xu_EX xt_EX xo_EX xn_EX 1 (by decide) xk_EX_f15 rfl (by decide +kernel) (by first | rfl | exact xb_nw _ | decide +kernel) (by first | rfl | exact xb_ft _ | decide +kernel) (by exact Nat.le_of_ble_eq_true rfl) (by dsimp only [List.set] <;> rfl) xd_EX_init_15 rfl ?_
  refine xv_aload_n (pc' := 19) (i := 0) hF xd_EX_init_18 rfl rfl rfl ?_
  refine xv_iconstN (pc' := 20) 0 hF xd_EX_init_19 (by decide +kernel) rfl ?_
  refine xv_put (pc' := 23) (ci := 3) (ty := xt_EX 2) hF (by first | assumption | exact xu_self | (refine (xu_ne (by omega)).trans ?_; first | assumption | exact xu_self | (refine (xu_ne (by omega)).trans ?_; first | assumption | exact xu_self | (refine (xu_ne (by omega)).trans ?_; first | assumption | exact xu_self | (refine (xu_ne (by omega)).trans ?_; first | assumption | exact xu_self))))) rfl xu_EX xt_EX xo_EX xn_EX 2 (by decide) xk_EX_f19 rfl (by decide +kernel) (by first | rfl | exact xb_nw _ | decide +kernel) (by first | rfl | exact xb_ft _ | decide +kernel) (by exact Nat.le_of_ble_eq_true rfl) (by dsimp only [List.set] <;> rfl) xd_EX_init_20 rfl ?_
  refine xv_aload_n (pc' := 24) (i := 0) hF xd_EX_init_23 rfl rfl rfl ?_
  refine xv_get (pc' := 27) (ci := 3) hF (by first | assumption | exact xu_self | (refine (xu_ne (by omega)).trans ?_; first | assumption | exact xu_self | (refine (xu_ne (by omega)).trans ?_; first | assumption | exact xu_self | (refine (xu_ne (by omega)).trans ?_; first | assumption | exact xu_self | (refine (xu_ne (by omega)).trans ?_; first | assumption | exact xu_self))))) rfl xu_EX 0 (by decide) xk_EX_f11 (by rfl) xd_EX_init_24 rfl ?_
  refine xv_iconstN (pc' := 28) 0 hF xd_EX_init_27 (by decide +kernel) rfl ?_
  refine xv_iconstN (pc' := 29) 1 hF xd_EX_init_28 (by decide +kernel) rfl ?_
  refine xv_iastN (pc' := 30) hF (by first | assumption | exact xu_self | (refine (xu_ne (by omega)).trans ?_; first | assumption | exact xu_self | (refine (xu_ne (by omega)).trans ?_; first | assumption | exact xu_self | (refine (xu_ne (by omega)).trans ?_; first | assumption | exact xu_self | (refine (xu_ne (by omega)).trans ?_; first | assumption | exact xu_self))))) (by omega) (by decide) xd_EX_init_29 rfl ?_
  refine xv_aload_n (pc' := 31) (i := 0) hF xd_EX_init_30 rfl rfl rfl ?_
  refine xv_iconstN (pc' := 32) 1 hF xd_EX_init_31 (by decide +kernel) rfl ?_
  refine xv_put (pc' := 35) (ci := 3) (ty := xt_EX 1) hF (by first | assumption | exact xu_self | (refine (xu_ne (by omega)).trans ?_; first | assumption | exact xu_self | (refine (xu_ne (by omega)).trans ?_; first | assumption | exact xu_self | (refine (xu_ne (by omega)).trans ?_; first | assumption | exact xu_self | (refine (xu_ne (by omega)).trans ?_; first | assumption | exact xu_self))))) rfl xu_EX xt_EX xo_EX xn_EX 1 (by decide) xk_EX_f15 rfl (by decide +kernel) (by first | rfl | exact xb_nw _ | decide +kernel) (by first | rfl | exact xb_ft _ | decide +kernel) (by exact Nat.le_of_ble_eq_true rfl) (by dsimp only [List.set] <;> rfl) xd_EX_init_32 rfl ?_
  refine hR _ _ _ _ _ _ (by omega) (by omega) ?_ xd_EX_init_35
  refine ⟨rfl, fun q hq => ?_, by decide, upd (fun _ => 0) 0 (nI 1), ⟨xu_self, ?_⟩, fun i hi => ?_⟩
  · rw [xu_ne (by omega), xu_ne (by omega), xu_ne (by omega), xu_ne (by omega), xu_ne (by omega), xu_ne (by omega)]
  · rw [xu_ne (by omega)]; exact xu_self
  · have : i = 0 := by simp at hi; exact hi
    subst this
    rfl
/-! Relation.addEdges -/
def md_eg (M : Nat → Nat → Nat) (nx : Nat → Nat → Bool) (P : Nat → Nat → Prop) : Nat → Nat → Prop := fun x y => nx x y = true ∧ P x y
def md_ae (M : Nat → Nat → Nat) (nx : Nat → Nat → Bool) (bw : Bool) (i t : Nat) : Nat → Nat → Nat := fun x y =>
  if (if bw then (y < i ∨ (y = i ∧ x < t)) ∧ nx y x = true else (x < i ∨ (x = i ∧ y < t)) ∧ nx x y = true) then min (M x y) 1 else M x y
theorem md_ae_row {M : Nat → Nat → Nat} {nx : Nat → Nat → Bool} {bw : Bool} {i t : Nat} (h : ∀ j, t ≤ j → j < 32 → nx i j = false) {x y : Nat} (hx : x < 32) (hy : y < 32) : md_ae M nx bw (i + 1) 0 x y = md_ae M nx bw i t x y := by
  unfold md_ae
  cases bw with
  | true =>
    simp only [if_true]
    by_cases c : y = i
    · subst c
      by_cases c2 : x < t
      · simp [c2]
      · simp [h x (by omega) hx]
    · have e1 : (y < i + 1 ∨ y = i + 1 ∧ x < 0) ↔ y < i := by omega
      have e2 : (y < i ∨ y = i ∧ x < t) ↔ y < i := by omega
      simp only [e1, e2]
  | false =>
    simp only [Bool.false_eq_true, if_false]
    by_cases c : x = i
    · subst c
      by_cases c2 : y < t
      · simp [c2]
      · simp [h y (by omega) hy]
    · have e1 : (x < i + 1 ∨ x = i + 1 ∧ y < 0) ↔ x < i := by omega
      have e2 : (x < i ∨ x = i ∧ y < t) ↔ x < i := by omega
      simp only [e1, e2]
theorem md_ae_no {M : Nat → Nat → Nat} {nx : Nat → Nat → Bool} {bw : Bool} {i t : Nat} (h : nx i t = false) {x y : Nat} : md_ae M nx bw i (t + 1) x y = md_ae M nx bw i t x y := by
  unfold md_ae
  cases bw with
  | true =>
    simp only [if_true]
    by_cases c : y = i ∧ x = t
    · obtain ⟨rfl, rfl⟩ := c; simp [h]
    · have e1 : (y < i ∨ y = i ∧ x < t + 1) ↔ (y < i ∨ y = i ∧ x < t) := by omega
      simp only [e1]
  | false =>
    simp only [Bool.false_eq_true, if_false]
    by_cases c : x = i ∧ y = t
    · obtain ⟨rfl, rfl⟩ := c; simp [h]
    · have e1 : (x < i ∨ x = i ∧ y < t + 1) ↔ (x < i ∨ x = i ∧ y < t) := by omega
      simp only [e1]
theorem md_ae_b {M : Nat → Nat → Nat} {nx : Nat → Nat → Bool} {i t : Nat} (h : nx i t = true) {x y : Nat} : md_ae M nx true i (t + 1) x y = md_set (md_ae M nx true i t) t i (min (md_ae M nx true i t t i) 1) x y := by
  unfold md_set md_ae
  simp only [if_true]
  by_cases c : x = t ∧ y = i
  · obtain ⟨rfl, rfl⟩ := c; simp [h]
  · rw [if_neg c]
    have e1 : (y < i ∨ y = i ∧ x < t + 1) ↔ (y < i ∨ y = i ∧ x < t) := by omega
    simp only [e1]
theorem md_ae_f {M : Nat → Nat → Nat} {nx : Nat → Nat → Bool} {i t : Nat} (h : nx i t = true) {x y : Nat} : md_ae M nx false i (t + 1) x y = md_set (md_ae M nx false i t) i t (min (md_ae M nx false i t i t) 1) x y := by
  unfold md_set md_ae
  simp only [Bool.false_eq_true, if_false]
  by_cases c : x = i ∧ y = t
  · obtain ⟨rfl, rfl⟩ := c; simp [h]
  · rw [if_neg c]
    have e1 : (x < i ∨ x = i ∧ y < t + 1) ↔ (x < i ∨ x = i ∧ y < t) := by omega
    simp only [e1]
theorem gh_R.keepR {K : xK} {h h' : xH} {a o e : Nat} {E : Nat → Nat → Nat → Bool} {Tg : Nat → Nat → Bool} (hfr : re_fr h h' a) (hap : re_ap a o) (p : gh_R K h o E Tg e) : gh_R K h' o E Tg e := by
  obtain ⟨f, g, ⟨h1, h2, h3⟩, h4⟩ := p
  unfold re_ap at hap
  exact ⟨f, g, ⟨(hfr _ (by omega) (by omega)).trans h1, (hfr _ (by omega) (by omega)).trans h2, (hfr _ (by omega) (by omega)).trans h3⟩, h4⟩
set_option maxHeartbeats 4000000 in
set_option maxRecDepth 100000 in
theorem c_RE_addEdges (K : xK) (n : Nat) (h : xH) (a o e0 : Nat) (x : Int32) (bw : Bool) (M : Nat → Nat → Nat) (E : Nat → Nat → Nat → Bool) (Tg : Nat → Nat → Bool) (hr : re_R K h a M) (hg : gh_R K h o E Tg e0) (hap : re_ap a o) : XM K xy_RE_addEdges xw_RE_addEdges (xrm 1 25 0 0) [.ref a, .ref o, .int x, .int (xb bw)] n h (x_pv fun n' h' => n = n' ∧ re_fr h h' a ∧ re_R K h' a (md_ae M (fun i j => gh_nx E x i j 8) bw 32 0)) 0 0 := by
  refine xm_v (by decide +kernel) (Nat.le_of_ble_eq_true rfl) (fun G hF hR => ?_)
  refine xv_iconstN (pc' := 1) 0 hF xd_RE_addEdges_0 (by decide +kernel) rfl ?_
  refine xv_istore (pc' := 3) hF xd_RE_addEdges_1 (Nat.le_of_ble_eq_true rfl) rfl rfl ?_
  have loop : ∀ d i h1, 32 - i = d → i ≤ 32 → re_fr h h1 a → re_R K h1 a (md_ae M (fun i j => gh_nx E x i j 8) bw i 0) → XV G 0 0 3 [(4, .int (nI i)), (0, .ref a), (1, .ref o), (2, .int x), (3, .int (xb bw))] [] n h1 := by
    intro d
    induction d using Nat.strongRecOn with
    | ind d ih =>
      intro i h1 hd hi hfr hr1
      refine xv_iload (pc' := 5) hF xd_RE_addEdges_3 rfl rfl ?_
      refine xv_bipushN (pc' := 7) 32 hF xd_RE_addEdges_5 (by decide +kernel) rfl ?_
      refine xv_icmp_geN (pc' := 10) (tgt := 87) hF (by omega) (by omega) xd_RE_addEdges_7 (by decide) rfl (fun e => ?_) (fun e => ?_)
      · refine hR _ _ _ _ _ _ (by omega) (by omega) ?_ xd_RE_addEdges_87
        have : i = 32 := by omega
        subst this
        exact ⟨rfl, hfr, hr1⟩
      · have hgK := hg.keepR hfr hap
        obtain ⟨T, g, ⟨j1, j2, j3⟩, j4⟩ := id hgK
        refine xv_aload_n (pc' := 11) (i := 1) hF xd_RE_addEdges_10 rfl rfl rfl ?_
        refine xv_iload (pc' := 13) hF xd_RE_addEdges_11 rfl rfl ?_
        refine xv_iload_n (pc' := 14) (i := 2) hF xd_RE_addEdges_13 rfl rfl rfl ?_
        refine xv_callVi (pc' := 17) (ci := 1) hF (c_GR_nextOf K n h1 o i e0 x E Tg hgK e) xq_GR_nextOf xk_RE_m32 xk_i_GR_nextOf xk_s_GR_nextOf (by first | assumption | exact xu_self | (refine (xu_ne (by omega)).trans ?_; first | assumption | exact xu_self | (refine (xu_ne (by omega)).trans ?_; first | assumption | exact xu_self | (refine (xu_ne (by omega)).trans ?_; first | assumption | exact xu_self | (refine (xu_ne (by omega)).trans ?_; first | assumption | exact xu_self))))) rfl ⟨(Nat.le_of_ble_eq_true rfl), (Nat.le_of_ble_eq_true rfl)⟩ rfl rfl (Nat.le_of_ble_eq_true rfl) ⟨(Nat.le_of_ble_eq_true rfl), (Nat.le_of_ble_eq_true rfl)⟩ xd_RE_addEdges_14 rfl (fun r n2 h2 p2 => ?_)
        obtain ⟨hx, rfl, rfl⟩ := p2
        clear j1 j2 j3 j4 hgK
        refine xv_istore (pc' := 19) hF xd_RE_addEdges_17 (Nat.le_of_ble_eq_true rfl) rfl rfl ?_
        refine xv_iconstN (pc' := 20) 0 hF xd_RE_addEdges_19 (by decide +kernel) rfl ?_
        refine xv_istore (pc' := 22) hF xd_RE_addEdges_20 (Nat.le_of_ble_eq_true rfl) rfl rfl ?_
        have loop2 : ∀ d2 t h2, 32 - t = d2 → t ≤ 32 → re_fr h h2 a → re_R K h2 a (md_ae M (fun i j => gh_nx E x i j 8) bw i t) → XV G 0 0 22 [(6, .int (nI t)), (5, .int r), (4, .int (nI i)), (0, .ref a), (1, .ref o), (2, .int x), (3, .int (xb bw))] [] n h2 := by
          intro d2
          induction d2 using Nat.strongRecOn with
          | ind d2 ih2 =>
            intro t h2 hd2 ht hfr2 hr2
            have fin : (∀ j, t ≤ j → j < 32 → gh_nx E x i j 8 = false) → XV G 0 0 81 [(6, .int (nI t)), (5, .int r), (4, .int (nI i)), (0, .ref a), (1, .ref o), (2, .int x), (3, .int (xb bw))] [] n h2 := by
              intro hz
              first | refine xv_iincN (pc' := 84) hF xd_RE_addEdges_81 rfl rfl (Nat.le_of_ble_eq_true rfl) rfl rfl ?_ | refine xv_iinc (pc' := 84) hF xd_RE_addEdges_81 rfl rfl (Nat.le_of_ble_eq_true rfl) rfl rfl ?_
              refine xv_goto (tgt := 3) hF xd_RE_addEdges_84 (by decide) ?_
              exact xv_loc _ (by repeat (first | exact trivial | refine ⟨rfl, ?_⟩)) (ih _ (by omega) (i + 1) _ rfl (by omega) hfr2 (hr2.congr fun y z hy hz2 => md_ae_row (nx := fun i j => gh_nx E x i j 8) hz hy hz2))
            refine xv_iload (pc' := 24) hF xd_RE_addEdges_22 rfl rfl ?_
            refine xv_bipushN (pc' := 26) 32 hF xd_RE_addEdges_24 (by decide +kernel) rfl ?_
            refine xv_icmp_geN (pc' := 29) (tgt := 81) hF (by omega) (by omega) xd_RE_addEdges_26 (by decide) rfl (fun e3 => ?_) (fun e3 => ?_)
            · exact fin fun j q1 q2 => by omega
            · refine xv_iload (pc' := 31) hF xd_RE_addEdges_29 rfl rfl ?_
              refine xv_iload (pc' := 33) hF xd_RE_addEdges_31 rfl rfl ?_
              first | refine xv_iushrN (pc' := 34) hF (by omega) (by decide) xd_RE_addEdges_33 rfl ?_ | refine xv_iushr (pc' := 34) hF xd_RE_addEdges_33 rfl rfl ?_
              refine xv_if_eq (pc' := 37) (tgt := 81) hF xd_RE_addEdges_34 (by decide) rfl (fun e4 => ?_) (fun e4 => ?_)
              · rw [bt_ush r e3] at e4
                exact fin fun j q1 q2 => by rw [← hx j q2]; exact e4 j q1 q2
              · clear e4
                refine xv_iload (pc' := 39) hF xd_RE_addEdges_37 rfl rfl ?_
                refine xv_iload (pc' := 41) hF xd_RE_addEdges_39 rfl rfl ?_
                refine xv_callSNi (pc' := 44) hF (c_PD_isIn K n h2 r t e3) xq_PD_isIn xk_RE_m24 xk_t_PD_isIn ⟨(Nat.le_of_ble_eq_true rfl), (Nat.le_of_ble_eq_true rfl)⟩ rfl rfl (Nat.le_of_ble_eq_true rfl) ⟨(Nat.le_of_ble_eq_true rfl), (Nat.le_of_ble_eq_true rfl)⟩ xd_RE_addEdges_41 rfl (fun r4 n4 h4 p4 => ?_)
                obtain ⟨rfl, rfl, rfl⟩ := p4
                refine xv_if_neB (pc' := 47) (tgt := 50) hF xd_RE_addEdges_44 (by decide) rfl (fun e5 => ?_) (fun e5 => ?_)
                · rw [hx t e3] at e5
                  obtain ⟨f1, g1, ⟨k1, k2, k3⟩, k4⟩ := id hr2
                  refine xv_iload_n (pc' := 51) (i := 3) hF xd_RE_addEdges_50 rfl rfl rfl ?_
                  refine xv_if_eqB (pc' := 54) (tgt := 66) hF xd_RE_addEdges_51 (by decide) rfl (fun e6 => ?_) (fun e6 => ?_)
                  · subst e6
                    refine xv_aload_n (pc' := 67) (i := 0) hF xd_RE_addEdges_66 rfl rfl rfl ?_
                    refine xv_iload (pc' := 69) hF xd_RE_addEdges_67 rfl rfl ?_
                    refine xv_iload (pc' := 71) hF xd_RE_addEdges_69 rfl rfl ?_
                    refine xv_iconstN (pc' := 72) 1 hF xd_RE_addEdges_71 (by decide +kernel) rfl ?_
                    refine xv_callVv (pc' := 75) (ci := 2) hF (c_RE_offer K n h2 a i t 1 _ hr2 e e3 (by decide)) xq_RE_offer xk_RE_m28 xk_i_RE_offer xk_s_RE_offer (by first | assumption | exact xu_self | (refine (xu_ne (by omega)).trans ?_; first | assumption | exact xu_self | (refine (xu_ne (by omega)).trans ?_; first | assumption | exact xu_self | (refine (xu_ne (by omega)).trans ?_; first | assumption | exact xu_self | (refine (xu_ne (by omega)).trans ?_; first | assumption | exact xu_self))))) rfl ⟨(Nat.le_of_ble_eq_true rfl), (Nat.le_of_ble_eq_true rfl)⟩ rfl rfl (Nat.le_of_ble_eq_true rfl) ⟨(Nat.le_of_ble_eq_true rfl), (Nat.le_of_ble_eq_true rfl)⟩ xd_RE_addEdges_72 rfl (fun n5 h5 p5 => ?_)
                    obtain ⟨rfl, hfr5, hr5⟩ := p5
                    first | refine xv_iincN (pc' := 78) hF xd_RE_addEdges_75 rfl rfl (Nat.le_of_ble_eq_true rfl) rfl rfl ?_ | refine xv_iinc (pc' := 78) hF xd_RE_addEdges_75 rfl rfl (Nat.le_of_ble_eq_true rfl) rfl rfl ?_
                    refine xv_goto (tgt := 22) hF xd_RE_addEdges_78 (by decide) ?_
                    exact xv_loc _ (by repeat (first | exact trivial | refine ⟨rfl, ?_⟩)) (ih2 _ (by omega) (t + 1) _ rfl (by omega) (hfr2.tr hfr5) (hr5.congr fun y z hy hz => md_ae_f (nx := fun i j => gh_nx E x i j 8) e5))
                  · subst e6
                    refine xv_aload_n (pc' := 55) (i := 0) hF xd_RE_addEdges_54 rfl rfl rfl ?_
                    refine xv_iload (pc' := 57) hF xd_RE_addEdges_55 rfl rfl ?_
                    refine xv_iload (pc' := 59) hF xd_RE_addEdges_57 rfl rfl ?_
                    refine xv_iconstN (pc' := 60) 1 hF xd_RE_addEdges_59 (by decide +kernel) rfl ?_
                    refine xv_callVv (pc' := 63) (ci := 2) hF (c_RE_offer K n h2 a t i 1 _ hr2 e3 e (by decide)) xq_RE_offer xk_RE_m28 xk_i_RE_offer xk_s_RE_offer (by first | assumption | exact xu_self | (refine (xu_ne (by omega)).trans ?_; first | assumption | exact xu_self | (refine (xu_ne (by omega)).trans ?_; first | assumption | exact xu_self | (refine (xu_ne (by omega)).trans ?_; first | assumption | exact xu_self | (refine (xu_ne (by omega)).trans ?_; first | assumption | exact xu_self))))) rfl ⟨(Nat.le_of_ble_eq_true rfl), (Nat.le_of_ble_eq_true rfl)⟩ rfl rfl (Nat.le_of_ble_eq_true rfl) ⟨(Nat.le_of_ble_eq_true rfl), (Nat.le_of_ble_eq_true rfl)⟩ xd_RE_addEdges_60 rfl (fun n5 h5 p5 => ?_)
                    obtain ⟨rfl, hfr5, hr5⟩ := p5
                    refine xv_goto (tgt := 75) hF xd_RE_addEdges_63 (by decide) ?_
                    first | refine xv_iincN (pc' := 78) hF xd_RE_addEdges_75 rfl rfl (Nat.le_of_ble_eq_true rfl) rfl rfl ?_ | refine xv_iinc (pc' := 78) hF xd_RE_addEdges_75 rfl rfl (Nat.le_of_ble_eq_true rfl) rfl rfl ?_
                    refine xv_goto (tgt := 22) hF xd_RE_addEdges_78 (by decide) ?_
                    exact xv_loc _ (by repeat (first | exact trivial | refine ⟨rfl, ?_⟩)) (ih2 _ (by omega) (t + 1) _ rfl (by omega) (hfr2.tr hfr5) (hr5.congr fun y z hy hz => md_ae_b (nx := fun i j => gh_nx E x i j 8) e5))
                · rw [hx t e3] at e5
                  refine xv_goto (tgt := 75) hF xd_RE_addEdges_47 (by decide) ?_
                  first | refine xv_iincN (pc' := 78) hF xd_RE_addEdges_75 rfl rfl (Nat.le_of_ble_eq_true rfl) rfl rfl ?_ | refine xv_iinc (pc' := 78) hF xd_RE_addEdges_75 rfl rfl (Nat.le_of_ble_eq_true rfl) rfl rfl ?_
                  refine xv_goto (tgt := 22) hF xd_RE_addEdges_78 (by decide) ?_
                  exact xv_loc _ (by repeat (first | exact trivial | refine ⟨rfl, ?_⟩)) (ih2 _ (by omega) (t + 1) _ rfl (by omega) hfr2 (hr2.congr fun y z hy hz => md_ae_no (nx := fun i j => gh_nx E x i j 8) e5))
        exact xv_loc _ (by repeat (first | exact trivial | refine ⟨rfl, ?_⟩)) (loop2 32 0 h1 (by omega) (by omega) hfr hr1)
  refine xv_loc _ (by repeat (first | exact trivial | refine ⟨rfl, ?_⟩)) (loop 32 0 h (by omega) (by omega) re_fr.rf (hr.congr ?_))
  intro y z hy hz
  unfold md_ae
  cases bw <;> simp
