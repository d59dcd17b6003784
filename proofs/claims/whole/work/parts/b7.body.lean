/-! the law's body -/
set_option maxHeartbeats 4000000 in
set_option maxRecDepth 100000 in
theorem law_body {G : xG} {K : xK} {o b N : Nat} {xs : Nat → Int32} (hF : XF G K xc_LW_law xr_LW (xrm 11 398 262836 8307598) 7) (hJ : XJ G K) (hX : XS G b N xs) (hN : N ≤ 2048) (fin : ∀ k kS n h i, k ≤ 262836 → kS ≤ 8307598 → XV G k kS 962 [(4, .int (nI i)), (0, .ref b), (1, .ref o), (2, .ref (o + 37)), (3, .ref (o + 50))] [.int 1] n h) : XV G 0 0 0 [(0, .ref b)] [] o (fun _ => none) := by
  refine xv_new (pc' := 3) (ci := 0) (fs := [.null, .null, .null, .null, .int 0, .null, .null, .null]) hF rfl xu_PD xt_PD xo_PD xk_LW_c8 xk_a_PD xk_n_PD (by decide +kernel) (Nat.le_of_ble_eq_true rfl) (Nat.le_of_ble_eq_true rfl) xd_LW_law_0 rfl (fun hnw => ?_)
  refine xv_dup (pc' := 4) hF xd_LW_law_3 rfl rfl ?_
  refine xv_callIv (pc' := 7) hF (c_PD_init K o _ xu_self) xq_PD_init xk_LW_m52 xk_i_PD_init rfl ⟨(Nat.le_of_ble_eq_true rfl), (Nat.le_of_ble_eq_true rfl)⟩ rfl rfl (Nat.le_of_ble_eq_true rfl) ⟨(Nat.le_of_ble_eq_true rfl), (Nat.le_of_ble_eq_true rfl)⟩ xd_LW_law_4 rfl (fun n1 h1 q1 => ?_)
  obtain ⟨rfl, f1, d1⟩ := q1
  refine xv_astore_n (pc' := 8) (i := 1) hF xd_LW_law_7 rfl (Nat.le_of_ble_eq_true rfl) rfl rfl ?_
  refine xv_new (pc' := 11) (ci := 6) (fs := [.int 0, .null, .null, .int 0, .null, .int 0, .null, .null, .null, .null, .int 0, .int 0, .int 0, .int 0, .null, .null, .null, .int 0, .null, .null]) hF rfl xu_MO xt_MO xo_MO xk_LW_c53 xk_a_MO xk_n_MO (by decide +kernel) (Nat.le_of_ble_eq_true rfl) (Nat.le_of_ble_eq_true rfl) xd_LW_law_8 rfl (fun hnw => ?_)
  refine xv_dup (pc' := 12) hF xd_LW_law_11 rfl rfl ?_
  refine xv_callIv (pc' := 15) hF (c_MO_init K (o + 37) _ xu_self) xq_MO_init xk_LW_m55 xk_i_MO_init rfl ⟨(Nat.le_of_ble_eq_true rfl), (Nat.le_of_ble_eq_true rfl)⟩ rfl rfl (Nat.le_of_ble_eq_true rfl) ⟨(Nat.le_of_ble_eq_true rfl), (Nat.le_of_ble_eq_true rfl)⟩ xd_LW_law_12 rfl (fun n2 h2 q2 => ?_)
  obtain ⟨e2, f2, w2⟩ := q2
  have e3 : o + 37 + 13 = o + 50 := by omega
  rw [e3] at e2
  subst e2
  have d2 : dk_0 K h2 o 4 := d1.lo fun q hq => (f2 q (by omega)).trans (xu_ne (by omega))
  have d3 := d2.R (n := o + 51) (Nat.le_refl _)
  refine xv_astore_n (pc' := 16) (i := 2) hF xd_LW_law_15 rfl (Nat.le_of_ble_eq_true rfl) rfl rfl ?_
  refine xv_iconstN (pc' := 17) 1 hF xd_LW_law_16 (by decide +kernel) rfl ?_
  refine xv_newa (pc' := 19) (atype := .long) (a0 := (1, .inr (.inl (fun _ => 0)))) (N' := 1) 2 hF xk_ac_long rfl rfl (fun C hC => by cases hC) (fun cA => by rfl) (nI_pos (by decide)) (nI_clamp (by decide)) (by decide) (Nat.le_of_ble_eq_true rfl) (Nat.le_of_ble_eq_true rfl) xd_LW_law_17 rfl (fun hnw => ?_)
  refine xv_astore_n (pc' := 20) (i := 3) hF xd_LW_law_19 rfl (Nat.le_of_ble_eq_true rfl) rfl rfl ?_
  refine xv_iconstN (pc' := 21) 0 hF xd_LW_law_20 (by decide +kernel) rfl ?_
  refine xv_istore (pc' := 23) hF xd_LW_law_21 (Nat.le_of_ble_eq_true rfl) rfl rfl ?_
  have e0 := ec_0
  refine xv_loc _ (by repeat (first | exact trivial | refine ⟨rfl, ?_⟩)) (law_loop hF hJ hX hN fin _ 0 0 _ _ _ _ 0 rfl rfl (by omega) ⟨fun _ _ _ => false, fun _ _ => false, fun _ => 0, 0, fun _ => [1], fun _ => 0, fun _ => false, 0, fun _ _ => 0, fun _ => 0, _, ?_, ?_, fun s _ => sl_empty _, by rw [e0]; omega, by omega, xu_self⟩ (by omega) (by omega))
  · rw [e0]; exact xu_dk d3
  · rw [e0]; exact xu_mo w2
