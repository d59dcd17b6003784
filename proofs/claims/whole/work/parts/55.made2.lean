/-! new readers, benches, desks -/
set_option maxHeartbeats 4000000 in
set_option maxRecDepth 100000 in
theorem c_RD_init (K : xK) (a : Nat) (h : xH) (ha : h (a + 4) = some (.inr (4, [.null, .null, .int 0, .int 0, .int 0, .int 0, .int 0, .int 0]))) : XM K xy_RD_init xw_RD_init (xrm 2 32 3 217) [.ref (a + 4)] (a + 5) h (x_pv fun n' h' => n' = a + 8 ∧ (∀ q, q < a + 4 → h' q = h q) ∧ rd_R K h' a (a + 6) (0, 0, false, 0, 0, 0, fun _ => 0, [1]) 0) 3 217 := by
  refine xm_c (by decide +kernel) rfl (Nat.le_of_ble_eq_true rfl) (fun G hF hX hR => ?_)
  refine xv_aload_n (pc' := 1) (i := 0) hF xd_RD_init_0 rfl rfl rfl ?_
  refine xv_obj (pc' := 4) hF xk_RD_m3 xk_i_JO_init xk_c_JO_init xd_RD_init_1 (Nat.le_of_ble_eq_true rfl) (Nat.le_of_ble_eq_true rfl) rfl ?_
  refine xv_aload_n (pc' := 5) (i := 0) hF xd_RD_init_4 rfl rfl rfl ?_
  refine xv_bipushN (pc' := 7) 11 hF xd_RD_init_5 (by decide +kernel) rfl ?_
  refine xv_newa (pc' := 9) (atype := .int) (a0 := (11, .inl (fun _ => 0))) (N' := 11) 0 hF xk_ac_int rfl rfl (fun C hC => by cases hC) (fun cA => by rfl) (nI_pos (by decide)) (nI_clamp (by decide)) (by decide) (Nat.le_of_ble_eq_true rfl) (Nat.le_of_ble_eq_true rfl) xd_RD_init_7 rfl (fun hnw => ?_)
  refine xv_putF (pc' := 12) (ci := 4) (ty := xt_RD 0) hF hX (by first | assumption | exact xu_self | (refine (xu_ne (by omega)).trans ?_; first | assumption | exact xu_self | (refine (xu_ne (by omega)).trans ?_; first | assumption | exact xu_self | (refine (xu_ne (by omega)).trans ?_; first | assumption | exact xu_self | (refine (xu_ne (by omega)).trans ?_; first | assumption | exact xu_self))))) rfl xu_RD xt_RD xo_RD xn_RD 0 (by decide) xk_RD_f9 rfl rfl (by decide +kernel) (by first | rfl | exact xb_nw _ | decide +kernel) (by first | rfl | exact xb_ft _ | decide +kernel) (by exact Nat.le_of_ble_eq_true rfl) (by dsimp only [List.set] <;> rfl) xd_RD_init_9 rfl ?_
  refine xv_aload_n (pc' := 13) (i := 0) hF xd_RD_init_12 rfl rfl rfl ?_
  refine xv_new (pc' := 16) (ci := 3) (fs := [.null, .int 0, .int 0]) hF rfl xu_EX xt_EX xo_EX xk_RD_c15 xk_a_EX xk_n_EX (by decide +kernel) (Nat.le_of_ble_eq_true rfl) (Nat.le_of_ble_eq_true rfl) xd_RD_init_13 rfl (fun hnw => ?_)
  refine xv_dup (pc' := 17) hF xd_RD_init_16 rfl rfl ?_
  refine xv_callIv (pc' := 20) hF (c_EX_init K (a + 6) _ xu_self) xq_EX_init xk_RD_m17 xk_i_EX_init rfl ⟨(Nat.le_of_ble_eq_true rfl), (Nat.le_of_ble_eq_true rfl)⟩ rfl rfl (Nat.le_of_ble_eq_true rfl) ⟨(Nat.le_of_ble_eq_true rfl), (Nat.le_of_ble_eq_true rfl)⟩ xd_RD_init_17 rfl (fun n1 h1 p1 => ?_)
  obtain ⟨rfl, hlo, hx⟩ := p1
  have q1 : h1 (a + 4) = some (.inr (4, [.ref (a + 5), .null, .int 0, .int 0, .int 0, .int 0, .int 0, .int 0])) := by rw [hlo _ (by omega), xu_ne (by omega)]; exact xu_self
  have q2 : h1 (a + 5) = some (.inl (K.2.2.1 0, 11, .inl (fun _ => 0))) := by rw [hlo _ (by omega), xu_ne (by omega), xu_ne (by omega)]; exact xu_self
  have hf : ∀ q, q < a + 4 → h1 q = h q := fun q hq => by rw [hlo q (by omega), xu_ne (by omega), xu_ne (by omega), xu_ne (by omega)]
  refine xv_put (pc' := 23) (ci := 4) (ty := xt_RD 1) hF (by first | assumption | exact xu_self | (refine (xu_ne (by omega)).trans ?_; first | assumption | exact xu_self | (refine (xu_ne (by omega)).trans ?_; first | assumption | exact xu_self | (refine (xu_ne (by omega)).trans ?_; first | assumption | exact xu_self | (refine (xu_ne (by omega)).trans ?_; first | assumption | exact xu_self))))) rfl xu_RD xt_RD xo_RD xn_RD 1 (by decide) xk_RD_f18 rfl (by decide +kernel) (by first | rfl | exact xb_nw _ | decide +kernel) (by first | rfl | exact xb_ft _ | decide +kernel) (by exact Nat.le_of_ble_eq_true rfl) (by dsimp only [List.set] <;> rfl) xd_RD_init_20 rfl ?_
  refine xv_aload_n (pc' := 24) (i := 0) hF xd_RD_init_23 rfl rfl rfl ?_
  refine xv_iconstN (pc' := 25) 0 hF xd_RD_init_24 (by decide +kernel) rfl ?_
  refine xv_put (pc' := 28) (ci := 4) (ty := xt_RD 2) hF (by first | assumption | exact xu_self | (refine (xu_ne (by omega)).trans ?_; first | assumption | exact xu_self | (refine (xu_ne (by omega)).trans ?_; first | assumption | exact xu_self | (refine (xu_ne (by omega)).trans ?_; first | assumption | exact xu_self | (refine (xu_ne (by omega)).trans ?_; first | assumption | exact xu_self))))) rfl xu_RD xt_RD xo_RD xn_RD 2 (by decide) xk_RD_f22 rfl (by decide +kernel) (by first | rfl | exact xb_nw _ | decide +kernel) (by first | rfl | exact xb_ft _ | decide +kernel) (by exact Nat.le_of_ble_eq_true rfl) (by dsimp only [List.set] <;> rfl) xd_RD_init_25 rfl ?_
  refine xv_aload_n (pc' := 29) (i := 0) hF xd_RD_init_28 rfl rfl rfl ?_
  refine xv_iconstN (pc' := 30) 0 hF xd_RD_init_29 (by decide +kernel) rfl ?_
  refine xv_put (pc' := 33) (ci := 4) (ty := xt_RD 3) hF (by first | assumption | exact xu_self | (refine (xu_ne (by omega)).trans ?_; first | assumption | exact xu_self | (refine (xu_ne (by omega)).trans ?_; first | assumption | exact xu_self | (refine (xu_ne (by omega)).trans ?_; first | assumption | exact xu_self | (refine (xu_ne (by omega)).trans ?_; first | assumption | exact xu_self))))) rfl xu_RD xt_RD xo_RD xn_RD 3 (by decide) xk_RD_f26 rfl (by decide +kernel) (by first | rfl | exact xb_nw _ | decide +kernel) (by first | rfl | exact xb_ft _ | decide +kernel) (by exact Nat.le_of_ble_eq_true rfl) (by dsimp only [List.set] <;> rfl) xd_RD_init_30 rfl ?_
  refine xv_aload_n (pc' := 34) (i := 0) hF xd_RD_init_33 rfl rfl rfl ?_
  refine xv_iconstN (pc' := 35) 0 hF xd_RD_init_34 (by decide +kernel) rfl ?_
  refine xv_put (pc' := 38) (ci := 4) (ty := xt_RD 4) hF (by first | assumption | exact xu_self | (refine (xu_ne (by omega)).trans ?_; first | assumption | exact xu_self | (refine (xu_ne (by omega)).trans ?_; first | assumption | exact xu_self | (refine (xu_ne (by omega)).trans ?_; first | assumption | exact xu_self | (refine (xu_ne (by omega)).trans ?_; first | assumption | exact xu_self))))) rfl xu_RD xt_RD xo_RD xn_RD 4 (by decide) xk_RD_f29 rfl (by decide +kernel) (by first | rfl | exact xb_nw _ | decide +kernel) (by first | rfl | exact xb_ft _ | decide +kernel) (by exact Nat.le_of_ble_eq_true rfl) (by dsimp only [List.set] <;> rfl) xd_RD_init_35 rfl ?_
  refine xv_aload_n (pc' := 39) (i := 0) hF xd_RD_init_38 rfl rfl rfl ?_
  refine xv_iconstN (pc' := 40) 0 hF xd_RD_init_39 (by decide +kernel) rfl ?_
  refine xv_put (pc' := 43) (ci := 4) (ty := xt_RD 5) hF (by first | assumption | exact xu_self | (refine (xu_ne (by omega)).trans ?_; first | assumption | exact xu_self | (refine (xu_ne (by omega)).trans ?_; first | assumption | exact xu_self | (refine (xu_ne (by omega)).trans ?_; first | assumption | exact xu_self | (refine (xu_ne (by omega)).trans ?_; first | assumption | exact xu_self))))) rfl xu_RD xt_RD xo_RD xn_RD 5 (by decide) xk_RD_f33 rfl (by decide +kernel) (by first | rfl | exact xb_nw _ | decide +kernel) (by first | rfl | exact xb_ft _ | decide +kernel) (by exact Nat.le_of_ble_eq_true rfl) (by dsimp only [List.set] <;> rfl) xd_RD_init_40 rfl ?_
  refine xv_aload_n (pc' := 44) (i := 0) hF xd_RD_init_43 rfl rfl rfl ?_
  refine xv_iconstN (pc' := 45) 0 hF xd_RD_init_44 (by decide +kernel) rfl ?_
  refine xv_put (pc' := 48) (ci := 4) (ty := xt_RD 6) hF (by first | assumption | exact xu_self | (refine (xu_ne (by omega)).trans ?_; first | assumption | exact xu_self | (refine (xu_ne (by omega)).trans ?_; first | assumption | exact xu_self | (refine (xu_ne (by omega)).trans ?_; first | assumption | exact xu_self | (refine (xu_ne (by omega)).trans ?_; first | assumption | exact xu_self))))) rfl xu_RD xt_RD xo_RD xn_RD 6 (by decide) xk_RD_f36 rfl (by decide +kernel) (by first | rfl | exact xb_nw _ | decide +kernel) (by first | rfl | exact xb_ft _ | decide +kernel) (by exact Nat.le_of_ble_eq_true rfl) (by dsimp only [List.set] <;> rfl) xd_RD_init_45 rfl ?_
  refine xv_aload_n (pc' := 49) (i := 0) hF xd_RD_init_48 rfl rfl rfl ?_
  refine xv_iconstN (pc' := 50) 0 hF xd_RD_init_49 (by decide +kernel) rfl ?_
  refine xv_put (pc' := 53) (ci := 4) (ty := xt_RD 7) hF (by first | assumption | exact xu_self | (refine (xu_ne (by omega)).trans ?_; first | assumption | exact xu_self | (refine (xu_ne (by omega)).trans ?_; first | assumption | exact xu_self | (refine (xu_ne (by omega)).trans ?_; first | assumption | exact xu_self | (refine (xu_ne (by omega)).trans ?_; first | assumption | exact xu_self))))) rfl xu_RD xt_RD xo_RD xn_RD 7 (by decide) xk_RD_f39 rfl (by decide +kernel) (by first | rfl | exact xb_nw _ | decide +kernel) (by first | rfl | exact xb_ft _ | decide +kernel) (by exact Nat.le_of_ble_eq_true rfl) (by dsimp only [List.set] <;> rfl) xd_RD_init_50 rfl ?_
  rw [xu_xu, xu_xu, xu_xu, xu_xu, xu_xu, xu_xu]
  refine hR _ _ _ _ _ _ (by omega) (by omega) ?_ xd_RD_init_53
  refine ⟨rfl, fun q hq => by rw [xu_ne (by omega)]; exact hf q hq, xu_self, ⟨_, by rw [xu_ne (by omega)]; exact q2, fun i hi => nI_0.symm⟩, ex_R.own (o := a) (h := h1) (Or.inr (by omega)) (fun q h1 _ => xu_ne h1) hx, Or.inr (by omega), by decide, by decide, by decide, by decide, by decide, fun _ => Nat.zero_le _⟩
set_option maxHeartbeats 4000000 in
set_option maxRecDepth 100000 in
theorem c_BE_init (K : xK) (a : Nat) (h : xH) (ha : h (a + 8) = some (.inr (5, [.null, .int 0, .null]))) : XM K xy_BE_init xw_BE_init (xrm 2 32 4 1082) [.ref (a + 8)] (a + 9) h (x_pv fun n' h' => n' = a + 13 ∧ (∀ q, q < a + 8 → h' q = h q) ∧ be_at K h' a 0 0 (fun _ => 0) (a + 10) ∧ re_R K h' (a + 10) md_no) 4 1082 := by
  refine xm_c (by decide +kernel) rfl (Nat.le_of_ble_eq_true rfl) (fun G hF hX hR => ?_)
  refine xv_aload_n (pc' := 1) (i := 0) hF xd_BE_init_0 rfl rfl rfl ?_
  refine xv_obj (pc' := 4) hF xk_BE_m3 xk_i_JO_init xk_c_JO_init xd_BE_init_1 (Nat.le_of_ble_eq_true rfl) (Nat.le_of_ble_eq_true rfl) rfl ?_
  refine xv_aload_n (pc' := 5) (i := 0) hF xd_BE_init_4 rfl rfl rfl ?_
  refine xv_bipushN (pc' := 7) 24 hF xd_BE_init_5 (by decide +kernel) rfl ?_
  refine xv_newq (pc' := 10) (N' := 24) 4 hF xk_BE_c11 (fun U z => z.2.1) rfl (nI_pos (by decide)) (nI_clamp (by decide)) (by decide) (Nat.le_of_ble_eq_true rfl) (Nat.le_of_ble_eq_true rfl) xd_BE_init_7 rfl (fun hnw => ?_)
  refine xv_putF (pc' := 13) (ci := 5) (ty := xt_BE 0) hF hX (by first | assumption | exact xu_self | (refine (xu_ne (by omega)).trans ?_; first | assumption | exact xu_self | (refine (xu_ne (by omega)).trans ?_; first | assumption | exact xu_self | (refine (xu_ne (by omega)).trans ?_; first | assumption | exact xu_self | (refine (xu_ne (by omega)).trans ?_; first | assumption | exact xu_self))))) rfl xu_BE xt_BE xo_BE xn_BE 0 (by decide) xk_BE_f13 rfl rfl (by decide +kernel) (by first | rfl | exact xb_nw _ | decide +kernel) (by first | rfl | exact xb_ft _ | decide +kernel) (by exact Nat.le_of_ble_eq_true rfl) (by dsimp only [List.set] <;> rfl) xd_BE_init_10 rfl ?_
  refine xv_aload_n (pc' := 14) (i := 0) hF xd_BE_init_13 rfl rfl rfl ?_
  refine xv_iconstN (pc' := 15) 0 hF xd_BE_init_14 (by decide +kernel) rfl ?_
  refine xv_put (pc' := 18) (ci := 5) (ty := xt_BE 1) hF (by first | assumption | exact xu_self | (refine (xu_ne (by omega)).trans ?_; first | assumption | exact xu_self | (refine (xu_ne (by omega)).trans ?_; first | assumption | exact xu_self | (refine (xu_ne (by omega)).trans ?_; first | assumption | exact xu_self | (refine (xu_ne (by omega)).trans ?_; first | assumption | exact xu_self))))) rfl xu_BE xt_BE xo_BE xn_BE 1 (by decide) xk_BE_f17 rfl (by decide +kernel) (by first | rfl | exact xb_nw _ | decide +kernel) (by first | rfl | exact xb_ft _ | decide +kernel) (by exact Nat.le_of_ble_eq_true rfl) (by dsimp only [List.set] <;> rfl) xd_BE_init_15 rfl ?_
  refine xv_aload_n (pc' := 19) (i := 0) hF xd_BE_init_18 rfl rfl rfl ?_
  refine xv_new (pc' := 22) (ci := 2) (fs := [.null, .null]) hF rfl xu_RE xt_RE xo_RE xk_BE_c11 xk_a_RE xk_n_RE (by decide +kernel) (Nat.le_of_ble_eq_true rfl) (Nat.le_of_ble_eq_true rfl) xd_BE_init_19 rfl (fun hnw => ?_)
  refine xv_dup (pc' := 23) hF xd_BE_init_22 rfl rfl ?_
  refine xv_callINv (pc' := 26) hF (c_RE_init K (a + 10) _ xu_self) xq_RE_init xk_BE_m21 xk_i_RE_init rfl ⟨(Nat.le_of_ble_eq_true rfl), (Nat.le_of_ble_eq_true rfl)⟩ rfl rfl (Nat.le_of_ble_eq_true rfl) ⟨(Nat.le_of_ble_eq_true rfl), (Nat.le_of_ble_eq_true rfl)⟩ xd_BE_init_23 rfl (fun n1 h1 p1 => ?_)
  obtain ⟨rfl, hlo, hx⟩ := p1
  have q1 : h1 (a + 8) = some (.inr (5, [.ref (a + 9), .int (nI 0), .null])) := by rw [hlo _ (by omega), xu_ne (by omega)]; exact xu_self
  have q2 : h1 (a + 9) = some (.inl (K.2.2.1 4, 24, .inr (.inr (.inr (.inr (fun _ => none)))))) := by rw [hlo _ (by omega), xu_ne (by omega), xu_ne (by omega), xu_ne (by omega)]; exact xu_self
  have hf : ∀ q, q < a + 8 → h1 q = h q := fun q hq => by rw [hlo q (by omega), xu_ne (by omega), xu_ne (by omega), xu_ne (by omega), xu_ne (by omega)]
  refine xv_put (pc' := 29) (ci := 5) (ty := xt_BE 2) hF (by first | assumption | exact xu_self | (refine (xu_ne (by omega)).trans ?_; first | assumption | exact xu_self | (refine (xu_ne (by omega)).trans ?_; first | assumption | exact xu_self | (refine (xu_ne (by omega)).trans ?_; first | assumption | exact xu_self | (refine (xu_ne (by omega)).trans ?_; first | assumption | exact xu_self))))) rfl xu_BE xt_BE xo_BE xn_BE 2 (by decide) xk_BE_f22 rfl (by decide +kernel) (by first | rfl | exact xb_nw _ | decide +kernel) (by first | rfl | exact xb_ft _ | decide +kernel) (by exact Nat.le_of_ble_eq_true rfl) (by dsimp only [List.set] <;> rfl) xd_BE_init_26 rfl ?_
  refine hR _ _ _ _ _ _ (by omega) (by omega) ?_ xd_BE_init_29
  exact ⟨rfl, fun q hq => by rw [xu_ne (by omega)]; exact hf q hq, ⟨_, xu_self, by rw [xu_ne (by omega)]; exact q2, fun i hi => absurd hi (Nat.not_lt_zero _), fun _ _ _ => rfl⟩, re_R.own (o := a) (n := a + 13) ⟨Or.inl rfl, Nat.le_refl _⟩ (fun q h1 _ => xu_ne h1) hx⟩
/-- a desk as it is made: what its cells hold -/
def dk_0 (K : xK) (h : xH) (o i : Nat) : Prop := h o = some (.inr (0, [.ref (o + 1), .ref (o + 4), .ref (o + 8), .ref (o + 13), .int (nI 0), .ref (o + 14), .ref (o + 15), .ref (o + 16)])) ∧ gh_R K h (o + 1) (fun _ _ _ => false) (fun _ _ => false) 0 ∧ rd_R K h o (o + 6) (0, 0, false, 0, 0, 0, fun _ => 0, [1]) 0 ∧ be_at K h o 0 0 (fun _ => 0) (o + 10) ∧ re_R K h (o + 10) md_no ∧ h (o + 13) = some (.inl (K.2.2.1 0, 100, .inl (fun _ => 0))) ∧
  (∃ g, h (o + 14) = some (.inl (K.2.2.1 3, 4, .inr (.inr (.inr (.inr g))))) ∧ ∀ j, j < i → g j = some (o + 17 + 5 * j)) ∧ (∃ g, h (o + 15) = some (.inl (K.2.2.1 4, 4, .inr (.inr (.inr (.inr g))))) ∧ ∀ j, j < i → g j = some (o + 19 + 5 * j)) ∧ h (o + 16) = some (.inl (K.2.2.1 1, 4, .inl (fun _ => 0))) ∧
  (∀ j, j < i → ex_R K h (o + 17 + 5 * j) [1] 0) ∧ ∀ j, j < i → re_R K h (o + 19 + 5 * j) md_no
theorem re_R.lo {K : xK} {h h' : xH} {a n : Nat} {M : Nat → Nat → Nat} (hf : ∀ q, q < n → h' q = h q) (ha : a + 3 ≤ n) (p : re_R K h a M) : re_R K h' a M := by
  obtain ⟨f, g, ⟨h1, h2, h3⟩, h4⟩ := p
  exact ⟨f, g, ⟨by rw [hf _ (by omega)]; exact h1, by rw [hf _ (by omega)]; exact h2, by rw [hf _ (by omega)]; exact h3⟩, h4⟩
theorem ex_R.lo {K : xK} {h h' : xH} {a n : Nat} {os : List Nat} {sx : Nat} (hf : ∀ q, q < n → h' q = h q) (ha : a + 2 ≤ n) (p : ex_R K h a os sx) : ex_R K h' a os sx := by
  obtain ⟨p0, f, ⟨h1, h2⟩, h4⟩ := p
  exact ⟨p0, f, ⟨by rw [hf _ (by omega)]; exact h1, by rw [hf _ (by omega)]; exact h2⟩, h4⟩
theorem gh_R.lo {K : xK} {h h' : xH} {a n e : Nat} {E : Nat → Nat → Nat → Bool} {Tg : Nat → Nat → Bool} (hf : ∀ q, q < n → h' q = h q) (ha : a + 3 ≤ n) (p : gh_R K h a E Tg e) : gh_R K h' a E Tg e := by
  obtain ⟨f, g, ⟨h1, h2, h3⟩, h4⟩ := p
  exact ⟨f, g, ⟨by rw [hf _ (by omega)]; exact h1, by rw [hf _ (by omega)]; exact h2, by rw [hf _ (by omega)]; exact h3⟩, h4⟩
theorem rd_R.lo {K : xK} {h h' : xH} {o x n sx : Nat} {q : rs_T} (hf : ∀ q, q < n → h' q = h q) (ha : o + 6 ≤ n) (hx : x + 2 ≤ n) (p : rd_R K h o x q sx) : rd_R K h' o x q sx := by
  obtain ⟨p1, ⟨f, p2, p3⟩, p4, p5⟩ := p
  exact ⟨by rw [hf _ (by omega)]; exact p1, ⟨f, by rw [hf _ (by omega)]; exact p2, p3⟩, p4.lo hf hx, p5⟩
theorem be_at.lo {K : xK} {h h' : xH} {o n ht made sp : Nat} {ad : Nat → Nat} (hf : ∀ q, q < n → h' q = h q) (ha : o + 10 ≤ n) (p : be_at K h o ht made ad sp) : be_at K h' o ht made ad sp := by
  obtain ⟨pl, p1, p2, p3⟩ := p
  exact ⟨pl, by rw [hf _ (by omega)]; exact p1, by rw [hf _ (by omega)]; exact p2, p3⟩
theorem dk_0.lo {K : xK} {h h' : xH} {o i : Nat} (hf : ∀ q, q < o + 17 + 5 * i → h' q = h q) (p : dk_0 K h o i) : dk_0 K h' o i := by
  obtain ⟨p1, p2, p3, p4, p5, p6, ⟨g1, p7, p8⟩, ⟨g2, p9, pa⟩, pb, pc, pd⟩ := p
  exact ⟨by rw [hf _ (by omega)]; exact p1, p2.lo hf (by omega), p3.lo hf (by omega) (by omega), p4.lo hf (by omega), p5.lo hf (by omega), by rw [hf _ (by omega)]; exact p6, ⟨g1, by rw [hf _ (by omega)]; exact p7, p8⟩, ⟨g2, by rw [hf _ (by omega)]; exact p9, pa⟩, by rw [hf _ (by omega)]; exact pb, fun j hj => (pc j hj).lo hf (by omega), fun j hj => (pd j hj).lo hf (by omega)⟩
set_option maxHeartbeats 4000000 in
set_option maxRecDepth 100000 in
theorem c_PD_init (K : xK) (o : Nat) (h : xH) (ha : h o = some (.inr (0, [.null, .null, .null, .null, .int 0, .null, .null, .null]))) : XM K xy_PD_init xw_PD_init (xrm 3 52 36 6741) [.ref o] (o + 1) h (x_pv fun n' h' => n' = o + 37 ∧ (∀ q, q < o → h' q = h q) ∧ dk_0 K h' o 4) 36 6741 := by
  refine xm_c (by decide +kernel) rfl (Nat.le_of_ble_eq_true rfl) (fun G hF hX hR => ?_)
  refine xv_aload_n (pc' := 1) (i := 0) hF xd_PD_init_0 rfl rfl rfl ?_
  refine xv_obj (pc' := 4) hF xk_PD_m3 xk_i_JO_init xk_c_JO_init xd_PD_init_1 (Nat.le_of_ble_eq_true rfl) (Nat.le_of_ble_eq_true rfl) rfl ?_
  refine xv_aload_n (pc' := 5) (i := 0) hF xd_PD_init_4 rfl rfl rfl ?_
  refine xv_new (pc' := 8) (ci := 1) (fs := [.null, .null, .int 0]) hF rfl xu_GR xt_GR xo_GR xk_PD_c9 xk_a_GR xk_n_GR (by decide +kernel) (Nat.le_of_ble_eq_true rfl) (Nat.le_of_ble_eq_true rfl) xd_PD_init_5 rfl (fun hnw => ?_)
  refine xv_dup (pc' := 9) hF xd_PD_init_8 rfl rfl ?_
  refine xv_callINv (pc' := 12) hF (c_GR_init K (o + 1) _ xu_self) xq_GR_init xk_PD_m11 xk_i_GR_init rfl ⟨(Nat.le_of_ble_eq_true rfl), (Nat.le_of_ble_eq_true rfl)⟩ rfl rfl (Nat.le_of_ble_eq_true rfl) ⟨(Nat.le_of_ble_eq_true rfl), (Nat.le_of_ble_eq_true rfl)⟩ xd_PD_init_9 rfl (fun n1 h1 p1 => ?_)
  obtain ⟨rfl, lo1, r1⟩ := p1
  have q1 : h1 o = some (.inr (0, [.null, .null, .null, .null, .int 0, .null, .null, .null])) := by rw [lo1 _ (by omega), xu_ne (by omega)]; exact ha
  have f1 : ∀ q, q < o → h1 q = h q := fun q hq => by rw [lo1 q (by omega), xu_ne (by omega)]
  refine xv_putF (pc' := 15) (ci := 0) (ty := xt_PD 0) hF hX (by first | assumption | exact xu_self | (refine (xu_ne (by omega)).trans ?_; first | assumption | exact xu_self | (refine (xu_ne (by omega)).trans ?_; first | assumption | exact xu_self | (refine (xu_ne (by omega)).trans ?_; first | assumption | exact xu_self | (refine (xu_ne (by omega)).trans ?_; first | assumption | exact xu_self))))) rfl xu_PD xt_PD xo_PD xn_PD 0 (by decide) xk_PD_f12 rfl rfl (by decide +kernel) (by first | rfl | exact xb_nw _ | decide +kernel) (by first | rfl | exact xb_ft _ | decide +kernel) (by exact Nat.le_of_ble_eq_true rfl) (by dsimp only [List.set] <;> rfl) xd_PD_init_12 rfl ?_
  refine xv_aload_n (pc' := 16) (i := 0) hF xd_PD_init_15 rfl rfl rfl ?_
  refine xv_new (pc' := 19) (ci := 4) (fs := [.null, .null, .int 0, .int 0, .int 0, .int 0, .int 0, .int 0]) hF rfl xu_RD xt_RD xo_RD xk_PD_c16 xk_a_RD xk_n_RD (by decide +kernel) (Nat.le_of_ble_eq_true rfl) (Nat.le_of_ble_eq_true rfl) xd_PD_init_16 rfl (fun hnw => ?_)
  refine xv_dup (pc' := 20) hF xd_PD_init_19 rfl rfl ?_
  refine xv_callINv (pc' := 23) hF (c_RD_init K o _ xu_self) xq_RD_init xk_PD_m18 xk_i_RD_init rfl ⟨(Nat.le_of_ble_eq_true rfl), (Nat.le_of_ble_eq_true rfl)⟩ rfl rfl (Nat.le_of_ble_eq_true rfl) ⟨(Nat.le_of_ble_eq_true rfl), (Nat.le_of_ble_eq_true rfl)⟩ xd_PD_init_20 rfl (fun n2 h2 p2 => ?_)
  obtain ⟨rfl, lo2, r2⟩ := p2
  have q2 : h2 o = some (.inr (0, [.ref (o + 1), .null, .null, .null, .int 0, .null, .null, .null])) := by rw [lo2 _ (by omega), xu_ne (by omega)]; exact xu_self
  have f2 : ∀ q, q < o + 4 → q ≠ o → h2 q = h1 q := fun q hq hq2 => by rw [lo2 q (by omega), xu_ne (by omega), xu_ne hq2]
  refine xv_putF (pc' := 26) (ci := 0) (ty := xt_PD 1) hF hX (by first | assumption | exact xu_self | (refine (xu_ne (by omega)).trans ?_; first | assumption | exact xu_self | (refine (xu_ne (by omega)).trans ?_; first | assumption | exact xu_self | (refine (xu_ne (by omega)).trans ?_; first | assumption | exact xu_self | (refine (xu_ne (by omega)).trans ?_; first | assumption | exact xu_self))))) rfl xu_PD xt_PD xo_PD xn_PD 1 (by decide) xk_PD_f19 rfl rfl (by decide +kernel) (by first | rfl | exact xb_nw _ | decide +kernel) (by first | rfl | exact xb_ft _ | decide +kernel) (by exact Nat.le_of_ble_eq_true rfl) (by dsimp only [List.set] <;> rfl) xd_PD_init_23 rfl ?_
  refine xv_aload_n (pc' := 27) (i := 0) hF xd_PD_init_26 rfl rfl rfl ?_
  refine xv_new (pc' := 30) (ci := 5) (fs := [.null, .int 0, .null]) hF rfl xu_BE xt_BE xo_BE xk_PD_c23 xk_a_BE xk_n_BE (by decide +kernel) (Nat.le_of_ble_eq_true rfl) (Nat.le_of_ble_eq_true rfl) xd_PD_init_27 rfl (fun hnw => ?_)
  refine xv_dup (pc' := 31) hF xd_PD_init_30 rfl rfl ?_
  refine xv_callINv (pc' := 34) hF (c_BE_init K o _ xu_self) xq_BE_init xk_PD_m25 xk_i_BE_init rfl ⟨(Nat.le_of_ble_eq_true rfl), (Nat.le_of_ble_eq_true rfl)⟩ rfl rfl (Nat.le_of_ble_eq_true rfl) ⟨(Nat.le_of_ble_eq_true rfl), (Nat.le_of_ble_eq_true rfl)⟩ xd_PD_init_31 rfl (fun n3 h3 p3 => ?_)
  obtain ⟨rfl, lo3, r3, s3⟩ := p3
  have q3 : h3 o = some (.inr (0, [.ref (o + 1), .ref (o + 4), .null, .null, .int 0, .null, .null, .null])) := by rw [lo3 _ (by omega), xu_ne (by omega)]; exact xu_self
  have f3 : ∀ q, q < o + 8 → q ≠ o → h3 q = h2 q := fun q hq hq2 => by rw [lo3 q (by omega), xu_ne (by omega), xu_ne hq2]
  refine xv_putF (pc' := 37) (ci := 0) (ty := xt_PD 2) hF hX (by first | assumption | exact xu_self | (refine (xu_ne (by omega)).trans ?_; first | assumption | exact xu_self | (refine (xu_ne (by omega)).trans ?_; first | assumption | exact xu_self | (refine (xu_ne (by omega)).trans ?_; first | assumption | exact xu_self | (refine (xu_ne (by omega)).trans ?_; first | assumption | exact xu_self))))) rfl xu_PD xt_PD xo_PD xn_PD 2 (by decide) xk_PD_f26 rfl rfl (by decide +kernel) (by first | rfl | exact xb_nw _ | decide +kernel) (by first | rfl | exact xb_ft _ | decide +kernel) (by exact Nat.le_of_ble_eq_true rfl) (by dsimp only [List.set] <;> rfl) xd_PD_init_34 rfl ?_
  refine xv_aload_n (pc' := 38) (i := 0) hF xd_PD_init_37 rfl rfl rfl ?_
  refine xv_bipushN (pc' := 40) 100 hF xd_PD_init_38 (by decide +kernel) rfl ?_
  refine xv_newa (pc' := 42) (atype := .int) (a0 := (100, .inl (fun _ => 0))) (N' := 100) 0 hF xk_ac_int rfl rfl (fun C hC => by cases hC) (fun cA => by rfl) (nI_pos (by decide)) (nI_clamp (by decide)) (by decide) (Nat.le_of_ble_eq_true rfl) (Nat.le_of_ble_eq_true rfl) xd_PD_init_40 rfl (fun hnw => ?_)
  refine xv_putF (pc' := 45) (ci := 0) (ty := xt_PD 3) hF hX (by first | assumption | exact xu_self | (refine (xu_ne (by omega)).trans ?_; first | assumption | exact xu_self | (refine (xu_ne (by omega)).trans ?_; first | assumption | exact xu_self | (refine (xu_ne (by omega)).trans ?_; first | assumption | exact xu_self | (refine (xu_ne (by omega)).trans ?_; first | assumption | exact xu_self))))) rfl xu_PD xt_PD xo_PD xn_PD 3 (by decide) xk_PD_f30 rfl rfl (by decide +kernel) (by first | rfl | exact xb_nw _ | decide +kernel) (by first | rfl | exact xb_ft _ | decide +kernel) (by exact Nat.le_of_ble_eq_true rfl) (by dsimp only [List.set] <;> rfl) xd_PD_init_42 rfl ?_
  refine xv_aload_n (pc' := 46) (i := 0) hF xd_PD_init_45 rfl rfl rfl ?_
  refine xv_iconstN (pc' := 47) 0 hF xd_PD_init_46 (by decide +kernel) rfl ?_
  refine xv_put (pc' := 50) (ci := 0) (ty := xt_PD 4) hF (by first | assumption | exact xu_self | (refine (xu_ne (by omega)).trans ?_; first | assumption | exact xu_self | (refine (xu_ne (by omega)).trans ?_; first | assumption | exact xu_self | (refine (xu_ne (by omega)).trans ?_; first | assumption | exact xu_self | (refine (xu_ne (by omega)).trans ?_; first | assumption | exact xu_self))))) rfl xu_PD xt_PD xo_PD xn_PD 4 (by decide) xk_PD_f34 rfl (by decide +kernel) (by first | rfl | exact xb_nw _ | decide +kernel) (by first | rfl | exact xb_ft _ | decide +kernel) (by exact Nat.le_of_ble_eq_true rfl) (by dsimp only [List.set] <;> rfl) xd_PD_init_47 rfl ?_
  refine xv_aload_n (pc' := 51) (i := 0) hF xd_PD_init_50 rfl rfl rfl ?_
  refine xv_iconstN (pc' := 52) 4 hF xd_PD_init_51 (by decide +kernel) rfl ?_
  refine xv_newq (pc' := 55) (N' := 4) 3 hF xk_PD_c38 (fun U z => z.2.2) rfl (nI_pos (by decide)) (nI_clamp (by decide)) (by decide) (Nat.le_of_ble_eq_true rfl) (Nat.le_of_ble_eq_true rfl) xd_PD_init_52 rfl (fun hnw => ?_)
  refine xv_putF (pc' := 58) (ci := 0) (ty := xt_PD 5) hF hX (by first | assumption | exact xu_self | (refine (xu_ne (by omega)).trans ?_; first | assumption | exact xu_self | (refine (xu_ne (by omega)).trans ?_; first | assumption | exact xu_self | (refine (xu_ne (by omega)).trans ?_; first | assumption | exact xu_self | (refine (xu_ne (by omega)).trans ?_; first | assumption | exact xu_self))))) rfl xu_PD xt_PD xo_PD xn_PD 5 (by decide) xk_PD_f40 rfl rfl (by decide +kernel) (by first | rfl | exact xb_nw _ | decide +kernel) (by first | rfl | exact xb_ft _ | decide +kernel) (by exact Nat.le_of_ble_eq_true rfl) (by dsimp only [List.set] <;> rfl) xd_PD_init_55 rfl ?_
  refine xv_aload_n (pc' := 59) (i := 0) hF xd_PD_init_58 rfl rfl rfl ?_
  refine xv_iconstN (pc' := 60) 4 hF xd_PD_init_59 (by decide +kernel) rfl ?_
  refine xv_newq (pc' := 63) (N' := 4) 4 hF xk_PD_c44 (fun U z => z.2.1) rfl (nI_pos (by decide)) (nI_clamp (by decide)) (by decide) (Nat.le_of_ble_eq_true rfl) (Nat.le_of_ble_eq_true rfl) xd_PD_init_60 rfl (fun hnw => ?_)
  refine xv_putF (pc' := 66) (ci := 0) (ty := xt_PD 6) hF hX (by first | assumption | exact xu_self | (refine (xu_ne (by omega)).trans ?_; first | assumption | exact xu_self | (refine (xu_ne (by omega)).trans ?_; first | assumption | exact xu_self | (refine (xu_ne (by omega)).trans ?_; first | assumption | exact xu_self | (refine (xu_ne (by omega)).trans ?_; first | assumption | exact xu_self))))) rfl xu_PD xt_PD xo_PD xn_PD 6 (by decide) xk_PD_f46 rfl rfl (by decide +kernel) (by first | rfl | exact xb_nw _ | decide +kernel) (by first | rfl | exact xb_ft _ | decide +kernel) (by exact Nat.le_of_ble_eq_true rfl) (by dsimp only [List.set] <;> rfl) xd_PD_init_63 rfl ?_
  refine xv_aload_n (pc' := 67) (i := 0) hF xd_PD_init_66 rfl rfl rfl ?_
  refine xv_iconstN (pc' := 68) 4 hF xd_PD_init_67 (by decide +kernel) rfl ?_
  refine xv_newa (pc' := 70) (atype := .boolean) (a0 := (4, .inl (fun _ => 0))) (N' := 4) 1 hF xk_ac_boolean rfl rfl (fun C hC => by cases hC) (fun cA => by rfl) (nI_pos (by decide)) (nI_clamp (by decide)) (by decide) (Nat.le_of_ble_eq_true rfl) (Nat.le_of_ble_eq_true rfl) xd_PD_init_68 rfl (fun hnw => ?_)
  refine xv_putF (pc' := 73) (ci := 0) (ty := xt_PD 7) hF hX (by first | assumption | exact xu_self | (refine (xu_ne (by omega)).trans ?_; first | assumption | exact xu_self | (refine (xu_ne (by omega)).trans ?_; first | assumption | exact xu_self | (refine (xu_ne (by omega)).trans ?_; first | assumption | exact xu_self | (refine (xu_ne (by omega)).trans ?_; first | assumption | exact xu_self))))) rfl xu_PD xt_PD xo_PD xn_PD 7 (by decide) xk_PD_f50 rfl rfl (by decide +kernel) (by first | rfl | exact xb_nw _ | decide +kernel) (by first | rfl | exact xb_ft _ | decide +kernel) (by exact Nat.le_of_ble_eq_true rfl) (by dsimp only [List.set] <;> rfl) xd_PD_init_70 rfl ?_
  refine xv_iconstN (pc' := 74) 0 hF xd_PD_init_73 (by decide +kernel) rfl ?_
  refine xv_istore_n (pc' := 75) (i := 1) hF xd_PD_init_74 rfl (Nat.le_of_ble_eq_true rfl) rfl rfl ?_
  obtain ⟨H, eH⟩ : ∃ H, H = (xu (xu (xu (xu (xu (xu (xu (xu (xu (xu h3 o (.inr (0, [.ref (o + 1), .ref (o + 4), .ref (o + 8), .null, .int 0, .null, .null, .null]))) (o + 13) (.inl (K.2.2.1 0, 100, .inl (fun _ => 0)))) o (.inr (0, [.ref (o + 1), .ref (o + 4), .ref (o + 8), .ref (o + 13), .int 0, .null, .null, .null]))) o (.inr (0, [.ref (o + 1), .ref (o + 4), .ref (o + 8), .ref (o + 13), .int (nI 0), .null, .null, .null]))) (o + 14) (.inl (K.2.2.1 3, 4, .inr (.inr (.inr (.inr (fun _ => none))))))) o (.inr (0, [.ref (o + 1), .ref (o + 4), .ref (o + 8), .ref (o + 13), .int (nI 0), .ref (o + 14), .null, .null]))) (o + 15) (.inl (K.2.2.1 4, 4, .inr (.inr (.inr (.inr (fun _ => none))))))) o (.inr (0, [.ref (o + 1), .ref (o + 4), .ref (o + 8), .ref (o + 13), .int (nI 0), .ref (o + 14), .ref (o + 15), .null]))) (o + 16) (.inl (K.2.2.1 1, 4, .inl (fun _ => 0)))) o (.inr (0, [.ref (o + 1), .ref (o + 4), .ref (o + 8), .ref (o + 13), .int (nI 0), .ref (o + 14), .ref (o + 15), .ref (o + 16)]))) := ⟨_, rfl⟩
  rw [← eH]
  have fr : ∀ q, q ≠ o → q < o + 13 → H q = h3 q := fun q h1 h2 => by rw [eH, xu_ne h1, xu_ne (by omega), xu_ne h1, xu_ne (by omega), xu_ne h1, xu_ne (by omega), xu_ne h1, xu_ne h1, xu_ne (by omega), xu_ne h1]
  have fr2 : ∀ q, q ≠ o → q < o + 8 → H q = h2 q := fun q h1 h2 => by rw [fr q h1 (by omega), f3 q h2 h1]
  have fr1 : ∀ q, q ≠ o → q < o + 4 → H q = h1 q := fun q h1 h2 => by rw [fr2 q h1 (by omega), f2 q h2 h1]
  have start : dk_0 K H o 0 := by
    refine ⟨by rw [eH]; exact xu_self, ?_, ?_, ?_, ?_, ?_, ⟨fun _ => none, ?_, fun j hj => absurd hj (Nat.not_lt_zero _)⟩, ⟨fun _ => none, ?_, fun j hj => absurd hj (Nat.not_lt_zero _)⟩, ?_, fun j hj => absurd hj (Nat.not_lt_zero _), fun j hj => absurd hj (Nat.not_lt_zero _)⟩
    · obtain ⟨T, g, ⟨a1, a2, a3⟩, a4⟩ := r1
      exact ⟨T, g, ⟨by rw [fr1 _ (by omega) (by omega)]; exact a1, by rw [fr1 _ (by omega) (by omega)]; exact a2, by rw [fr1 _ (by omega) (by omega)]; exact a3⟩, a4⟩
    · obtain ⟨a1, ⟨f, a2, a3⟩, ⟨a4, g, ⟨a5, a6⟩, a7⟩, a8⟩ := r2
      exact ⟨by rw [fr2 _ (by omega) (by omega)]; exact a1, ⟨f, by rw [fr2 _ (by omega) (by omega)]; exact a2, a3⟩, ⟨a4, g, ⟨by rw [fr2 _ (by omega) (by omega)]; exact a5, by rw [fr2 _ (by omega) (by omega)]; exact a6⟩, a7⟩, a8⟩
    · obtain ⟨pl, a1, a2, a3⟩ := r3
      exact ⟨pl, by rw [fr _ (by omega) (by omega)]; exact a1, by rw [fr _ (by omega) (by omega)]; exact a2, a3⟩
    · obtain ⟨f, g, ⟨a1, a2, a3⟩, a4⟩ := s3
      exact ⟨f, g, ⟨by rw [fr _ (by omega) (by omega)]; exact a1, by rw [fr _ (by omega) (by omega)]; exact a2, by rw [fr _ (by omega) (by omega)]; exact a3⟩, a4⟩
    · rw [eH, xu_ne (by omega), xu_ne (by omega), xu_ne (by omega), xu_ne (by omega), xu_ne (by omega), xu_ne (by omega), xu_ne (by omega), xu_ne (by omega)]; exact xu_self
    · rw [eH, xu_ne (by omega), xu_ne (by omega), xu_ne (by omega), xu_ne (by omega), xu_ne (by omega)]; exact xu_self
    · rw [eH, xu_ne (by omega), xu_ne (by omega), xu_ne (by omega)]; exact xu_self
    · rw [eH, xu_ne (by omega)]; exact xu_self
  have hlow : ∀ q, q < o → H q = h q := fun q hq => by rw [fr1 q (by omega) (by omega), f1 q hq]
  clear eH fr fr2 fr1 r1 r2 r3 s3 q1 q2 q3 f1 f2 f3 lo1 lo2 lo3
  have loop : ∀ d i h4 k kS, 4 - i = d → i ≤ 4 → (∀ q, q < o → h4 q = h q) → dk_0 K h4 o i → k ≤ 16 + 5 * i → kS ≤ 1685 + 1264 * i → XV G k kS 75 [(1, .int (nI i)), (0, .ref o)] [] (o + 17 + 5 * i) h4 := by
    intro d
    induction d using Nat.strongRecOn with
    | ind d ih =>
      intro i h4 k kS hd hi hl hdk hk hkS
      obtain ⟨p1, p2, p3, p4, p5, p6, ⟨g1, p7, p8⟩, ⟨g2, p9, pa⟩, pb, pc, pd⟩ := id hdk
      refine xv_iload_n (pc' := 76) (i := 1) hF xd_PD_init_75 rfl rfl rfl ?_
      refine xv_iconstN (pc' := 77) 4 hF xd_PD_init_76 (by decide +kernel) rfl ?_
      refine xv_icmp_geN (pc' := 80) (tgt := 112) hF (by omega) (by omega) xd_PD_init_77 (by decide) rfl (fun e => ?_) (fun e => ?_)
      · have : i = 4 := by omega
        subst this
        refine hR _ _ _ _ _ _ (by omega) (by omega) ?_ xd_PD_init_112
        exact ⟨rfl, hl, hdk⟩
      · refine xv_aload_n (pc' := 81) (i := 0) hF xd_PD_init_80 rfl rfl rfl ?_
        refine xv_get (pc' := 84) (ci := 0) hF (by first | assumption | exact xu_self | (refine (xu_ne (by omega)).trans ?_; first | assumption | exact xu_self | (refine (xu_ne (by omega)).trans ?_; first | assumption | exact xu_self | (refine (xu_ne (by omega)).trans ?_; first | assumption | exact xu_self | (refine (xu_ne (by omega)).trans ?_; first | assumption | exact xu_self))))) rfl xu_PD 5 (by decide) xk_PD_f40 (by rfl) xd_PD_init_81 rfl ?_
        refine xv_iload_n (pc' := 85) (i := 1) hF xd_PD_init_84 rfl rfl rfl ?_
        refine xv_new (pc' := 88) (ci := 3) (fs := [.null, .int 0, .int 0]) hF rfl xu_EX xt_EX xo_EX xk_PD_c38 xk_a_EX xk_n_EX (by decide +kernel) (by first | (show k + 1 ≤ 36; omega) | (show kS + 3 ≤ 6741; omega)) (by first | (show k + 1 ≤ 36; omega) | (show kS + 3 ≤ 6741; omega)) xd_PD_init_85 rfl (fun hnw => ?_)
        refine xv_dup (pc' := 89) hF xd_PD_init_88 rfl rfl ?_
        refine xv_callIv (pc' := 92) hF (c_EX_init K (o + 17 + 5 * i) _ xu_self) xq_EX_init xk_PD_m54 xk_i_EX_init rfl ⟨(Nat.le_of_ble_eq_true rfl), (Nat.le_of_ble_eq_true rfl)⟩ rfl rfl (Nat.le_of_ble_eq_true rfl) ⟨(by first | (show k + 1 + 1 ≤ 36; omega) | (show kS + 3 + 203 ≤ 6741; omega)), (by first | (show k + 1 + 1 ≤ 36; omega) | (show kS + 3 + 203 ≤ 6741; omega))⟩ xd_PD_init_89 rfl (fun n5 h5 w5 => ?_)
        obtain ⟨rfl, lo5, x5⟩ := w5
        have hf5 : ∀ q, q < o + 17 + 5 * i → h5 q = h4 q := fun q hq => by rw [lo5 q hq, xu_ne (by omega)]
        have y1 : h5 o = _ := (hf5 o (by omega)).trans p1
        have y2 := (hf5 (o + 14) (by omega)).trans p7
        have y3 := (hf5 (o + 15) (by omega)).trans p9
        obtain ⟨z0, zf, ⟨z1, z2⟩, z3⟩ := id x5
        refine xv_aastN (pc' := 93) (ci := 3) 3 hF (by first | assumption | exact xu_self | (refine (xu_ne (by omega)).trans ?_; first | assumption | exact xu_self | (refine (xu_ne (by omega)).trans ?_; first | assumption | exact xu_self | (refine (xu_ne (by omega)).trans ?_; first | assumption | exact xu_self | (refine (xu_ne (by omega)).trans ?_; first | assumption | exact xu_self))))) rfl (by first | assumption | exact xu_self | (refine (xu_ne (by omega)).trans ?_; first | assumption | exact xu_self | (refine (xu_ne (by omega)).trans ?_; first | assumption | exact xu_self | (refine (xu_ne (by omega)).trans ?_; first | assumption | exact xu_self | (refine (xu_ne (by omega)).trans ?_; first | assumption | exact xu_self))))) rfl (by omega) (by decide) xd_PD_init_92 rfl ?_
        refine xv_aload_n (pc' := 94) (i := 0) hF xd_PD_init_93 rfl rfl rfl ?_
        refine xv_get (pc' := 97) (ci := 0) hF (by first | assumption | exact xu_self | (refine (xu_ne (by omega)).trans ?_; first | assumption | exact xu_self | (refine (xu_ne (by omega)).trans ?_; first | assumption | exact xu_self | (refine (xu_ne (by omega)).trans ?_; first | assumption | exact xu_self | (refine (xu_ne (by omega)).trans ?_; first | assumption | exact xu_self))))) rfl xu_PD 6 (by decide) xk_PD_f46 (by rfl) xd_PD_init_94 rfl ?_
        refine xv_iload_n (pc' := 98) (i := 1) hF xd_PD_init_97 rfl rfl rfl ?_
        refine xv_new (pc' := 101) (ci := 2) (fs := [.null, .null]) hF rfl xu_RE xt_RE xo_RE xk_PD_c44 xk_a_RE xk_n_RE (by decide +kernel) (by first | (show k + 1 + 1 + 1 ≤ 36; omega) | (show kS + 3 + 203 + 2 ≤ 6741; omega)) (by first | (show k + 1 + 1 + 1 ≤ 36; omega) | (show kS + 3 + 203 + 2 ≤ 6741; omega)) xd_PD_init_98 rfl (fun hnw => ?_)
        refine xv_dup (pc' := 102) hF xd_PD_init_101 rfl rfl ?_
        refine xv_callINv (pc' := 105) hF (c_RE_init K (o + 17 + 5 * i + 2) _ xu_self) xq_RE_init xk_PD_m55 xk_i_RE_init rfl ⟨(Nat.le_of_ble_eq_true rfl), (Nat.le_of_ble_eq_true rfl)⟩ rfl rfl (Nat.le_of_ble_eq_true rfl) ⟨(by first | (show k + 1 + 1 + 1 + 2 ≤ 36; omega) | (show kS + 3 + 203 + 2 + 1056 ≤ 6741; omega)), (by first | (show k + 1 + 1 + 1 + 2 ≤ 36; omega) | (show kS + 3 + 203 + 2 + 1056 ≤ 6741; omega))⟩ xd_PD_init_102 rfl (fun n6 h6 w6 => ?_)
        obtain ⟨rfl, lo6, x6⟩ := w6
        have hf6 : ∀ q, q < o + 17 + 5 * i + 2 → q ≠ o + 14 → h6 q = h5 q := fun q hq hq2 => by rw [lo6 q hq, xu_ne (by omega), xu_ne hq2]
        have y4 : h6 (o + 14) = some (.inl (K.2.2.1 3, 4, .inr (.inr (.inr (.inr (va_up g1 i (some (o + 17 + 5 * i)))))))) := by rw [lo6 _ (by omega), xu_ne (by omega)]; exact xu_self
        have y5 := (hf6 (o + 15) (by omega) (by omega)).trans y3
        obtain ⟨zf6, zg6, ⟨x61, x62, x63⟩, x64⟩ := id x6
        refine xv_aastN (pc' := 106) (ci := 2) 4 hF (by first | assumption | exact xu_self | (refine (xu_ne (by omega)).trans ?_; first | assumption | exact xu_self | (refine (xu_ne (by omega)).trans ?_; first | assumption | exact xu_self | (refine (xu_ne (by omega)).trans ?_; first | assumption | exact xu_self | (refine (xu_ne (by omega)).trans ?_; first | assumption | exact xu_self))))) rfl (by first | assumption | exact xu_self | (refine (xu_ne (by omega)).trans ?_; first | assumption | exact xu_self | (refine (xu_ne (by omega)).trans ?_; first | assumption | exact xu_self | (refine (xu_ne (by omega)).trans ?_; first | assumption | exact xu_self | (refine (xu_ne (by omega)).trans ?_; first | assumption | exact xu_self))))) rfl (by omega) (by decide) xd_PD_init_105 rfl ?_
        first | refine xv_iincN (pc' := 109) hF xd_PD_init_106 rfl rfl (Nat.le_of_ble_eq_true rfl) rfl rfl ?_ | refine xv_iinc (pc' := 109) hF xd_PD_init_106 rfl rfl (Nat.le_of_ble_eq_true rfl) rfl rfl ?_
        refine xv_goto (tgt := 75) hF xd_PD_init_109 (by decide) ?_
        have hf7 : ∀ q, q < o + 17 + 5 * i → q ≠ o + 14 → q ≠ o + 15 → (xu h6 (o + 15) (.inl (K.2.2.1 4, 4, .inr (.inr (.inr (.inr (va_up g2 i (some (o + 17 + 5 * i + 2))))))))) q = h4 q := fun q a1 a2 a3 => by rw [xu_ne a3, hf6 q (by omega) a2, hf5 q a1]
        refine xv_loc _ (by repeat (first | exact trivial | refine ⟨rfl, ?_⟩)) (xv_room (k' := 16 + 5 * (i + 1)) (kS' := 1685 + 1264 * (i + 1)) (by omega) (by omega) (ih _ (by omega) (i + 1) _ _ _ rfl (by omega) ?_ ?_ (Nat.le_refl _) (Nat.le_refl _)))
        · intro q hq
          rw [hf7 q (by omega) (by omega) (by omega)]; exact hl q hq
        · have e19 : o + 17 + 5 * i + 2 = o + 19 + 5 * i := by omega
          refine ⟨by rw [hf7 _ (by omega) (by omega) (by omega)]; exact p1, ?_, ?_, ?_, ?_, by rw [hf7 _ (by omega) (by omega) (by omega)]; exact p6, ⟨_, by rw [xu_ne (by omega)]; exact y4, fun j hj => ?_⟩, ⟨_, xu_self, fun j hj => ?_⟩, by rw [hf7 _ (by omega) (by omega) (by omega)]; exact pb, fun j hj => ?_, fun j hj => ?_⟩
          · obtain ⟨T, g, ⟨a1, a2, a3⟩, a4⟩ := p2
            exact ⟨T, g, ⟨by rw [hf7 _ (by omega) (by omega) (by omega)]; exact a1, by rw [hf7 _ (by omega) (by omega) (by omega)]; exact a2, by rw [hf7 _ (by omega) (by omega) (by omega)]; exact a3⟩, a4⟩
          · obtain ⟨a1, ⟨f, a2, a3⟩, ⟨a4, g, ⟨a5, a6⟩, a7⟩, a8⟩ := p3
            exact ⟨by rw [hf7 _ (by omega) (by omega) (by omega)]; exact a1, ⟨f, by rw [hf7 _ (by omega) (by omega) (by omega)]; exact a2, a3⟩, ⟨a4, g, ⟨by rw [hf7 _ (by omega) (by omega) (by omega)]; exact a5, by rw [hf7 _ (by omega) (by omega) (by omega)]; exact a6⟩, a7⟩, a8⟩
          · obtain ⟨pl, a1, a2, a3⟩ := p4
            exact ⟨pl, by rw [hf7 _ (by omega) (by omega) (by omega)]; exact a1, by rw [hf7 _ (by omega) (by omega) (by omega)]; exact a2, a3⟩
          · obtain ⟨f, g, ⟨a1, a2, a3⟩, a4⟩ := p5
            exact ⟨f, g, ⟨by rw [hf7 _ (by omega) (by omega) (by omega)]; exact a1, by rw [hf7 _ (by omega) (by omega) (by omega)]; exact a2, by rw [hf7 _ (by omega) (by omega) (by omega)]; exact a3⟩, a4⟩
          · unfold va_up
            by_cases c : j = i
            · rw [if_pos c, c]
            · rw [if_neg c]; exact p8 j (by omega)
          · unfold va_up
            by_cases c : j = i
            · rw [if_pos c, c, e19]
            · rw [if_neg c]; exact pa j (by omega)
          · by_cases c : j = i
            · subst c
              exact ⟨z0, zf, ⟨by rw [xu_ne (by omega), hf6 _ (by omega) (by omega)]; exact z1, by rw [xu_ne (by omega), hf6 _ (by omega) (by omega)]; exact z2⟩, z3⟩
            · obtain ⟨a4, g, ⟨a5, a6⟩, a7⟩ := pc j (by omega)
              exact ⟨a4, g, ⟨by rw [hf7 _ (by omega) (by omega) (by omega)]; exact a5, by rw [hf7 _ (by omega) (by omega) (by omega)]; exact a6⟩, a7⟩
          · by_cases c : j = i
            · subst c
              rw [← e19]
              exact ⟨zf6, zg6, ⟨by rw [xu_ne (by omega)]; exact x61, by rw [xu_ne (by omega)]; exact x62, by rw [xu_ne (by omega)]; exact x63⟩, x64⟩
            · obtain ⟨f, g, ⟨a1, a2, a3⟩, a4⟩ := pd j (by omega)
              exact ⟨f, g, ⟨by rw [hf7 _ (by omega) (by omega) (by omega)]; exact a1, by rw [hf7 _ (by omega) (by omega) (by omega)]; exact a2, by rw [hf7 _ (by omega) (by omega) (by omega)]; exact a3⟩, a4⟩
  exact xv_loc _ (by repeat (first | exact trivial | refine ⟨rfl, ?_⟩)) (loop 4 0 H _ _ (by omega) (by omega) hlow start (by decide) (by decide))
