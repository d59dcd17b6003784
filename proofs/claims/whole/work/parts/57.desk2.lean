/-! PathDesk: what is in range -/
set_option maxHeartbeats 4000000 in
set_option maxRecDepth 100000 in
theorem c_PD_needNode (K : xK) (n : Nat) (h : xH) (i : Nat) (hi : i < 32) : XM K xy_PD_needNode xw_PD_needNode (xrm 0 0 0 0) [.int (nI i)] n h (x_pv fun n' h' => n = n' ∧ h = h') 0 0 := by
  refine xm_v (by decide +kernel) (Nat.le_of_ble_eq_true rfl) (fun G hF hR => ?_)
  refine xv_iload_n (pc' := 1) (i := 0) hF xd_PD_needNode_0 rfl rfl rfl ?_
  refine xv_if_ltN (pc' := 4) (tgt := 10) hF (by omega) xd_PD_needNode_1 (by decide) rfl ?_
  refine xv_iload_n (pc' := 5) (i := 0) hF xd_PD_needNode_4 rfl rfl rfl ?_
  refine xv_bipushN (pc' := 7) 32 hF xd_PD_needNode_5 (by decide +kernel) rfl ?_
  refine xv_icmp_ltN (pc' := 10) (tgt := 20) hF (by omega) (by omega) xd_PD_needNode_7 (by decide) rfl (fun e => ?_) (fun e => ?_)
  · refine hR _ _ _ _ _ _ (by omega) (by omega) ?_ xd_PD_needNode_20
    exact ⟨rfl, rfl⟩
  · omega
set_option maxHeartbeats 4000000 in
set_option maxRecDepth 100000 in
theorem c_PD_needLabel (K : xK) (n : Nat) (h : xH) (i : Nat) (hi : i < 8) : XM K xy_PD_needLabel xw_PD_needLabel (xrm 0 0 0 0) [.int (nI i)] n h (x_pv fun n' h' => n = n' ∧ h = h') 0 0 := by
  refine xm_v (by decide +kernel) (Nat.le_of_ble_eq_true rfl) (fun G hF hR => ?_)
  refine xv_iload_n (pc' := 1) (i := 0) hF xd_PD_needLabel_0 rfl rfl rfl ?_
  refine xv_if_ltN (pc' := 4) (tgt := 10) hF (by omega) xd_PD_needLabel_1 (by decide) rfl ?_
  refine xv_iload_n (pc' := 5) (i := 0) hF xd_PD_needLabel_4 rfl rfl rfl ?_
  refine xv_bipushN (pc' := 7) 8 hF xd_PD_needLabel_5 (by decide +kernel) rfl ?_
  refine xv_icmp_ltN (pc' := 10) (tgt := 20) hF (by omega) (by omega) xd_PD_needLabel_7 (by decide) rfl (fun e => ?_) (fun e => ?_)
  · refine hR _ _ _ _ _ _ (by omega) (by omega) ?_ xd_PD_needLabel_20
    exact ⟨rfl, rfl⟩
  · omega
set_option maxHeartbeats 4000000 in
set_option maxRecDepth 100000 in
theorem c_PD_needSlot (K : xK) (n : Nat) (h : xH) (i : Nat) (hi : i < 4) : XM K xy_PD_needSlot xw_PD_needSlot (xrm 0 0 0 0) [.int (nI i)] n h (x_pv fun n' h' => n = n' ∧ h = h') 0 0 := by
  refine xm_v (by decide +kernel) (Nat.le_of_ble_eq_true rfl) (fun G hF hR => ?_)
  refine xv_iload_n (pc' := 1) (i := 0) hF xd_PD_needSlot_0 rfl rfl rfl ?_
  refine xv_if_ltN (pc' := 4) (tgt := 9) hF (by omega) xd_PD_needSlot_1 (by decide) rfl ?_
  refine xv_iload_n (pc' := 5) (i := 0) hF xd_PD_needSlot_4 rfl rfl rfl ?_
  refine xv_iconstN (pc' := 6) 4 hF xd_PD_needSlot_5 (by decide +kernel) rfl ?_
  refine xv_icmp_ltN (pc' := 9) (tgt := 19) hF (by omega) (by omega) xd_PD_needSlot_6 (by decide) rfl (fun e => ?_) (fun e => ?_)
  · refine hR _ _ _ _ _ _ (by omega) (by omega) ?_ xd_PD_needSlot_19
    exact ⟨rfl, rfl⟩
  · omega
set_option maxHeartbeats 4000000 in
set_option maxRecDepth 100000 in
theorem c_PD_forgetRelations (K : xK) (n : Nat) (h : xH) (o : Nat) (fs : List Value) (kf : Nat → Int32) (ho : h o = some (.inr (0, fs))) (hfs : fs[7]? = some (.ref (o + 16))) (hk : h (o + 16) = some (.inl (K.2.2.1 1, 4, .inl kf))) : XM K xy_PD_forgetRelations xw_PD_forgetRelations (xrm 0 0 0 0) [.ref o] n h (x_pv fun n' h' => n = n' ∧ ∃ kf', h' = xu h (o + 16) (.inl (K.2.2.1 1, 4, .inl kf')) ∧ ∀ j, j < 4 → kf' j = xb false) 0 0 := by
  refine xm_v (by decide +kernel) (Nat.le_of_ble_eq_true rfl) (fun G hF hR => ?_)
  refine xv_iconstN (pc' := 1) 0 hF xd_PD_forgetRelations_0 (by decide +kernel) rfl ?_
  refine xv_istore_n (pc' := 2) (i := 1) hF xd_PD_forgetRelations_1 rfl (Nat.le_of_ble_eq_true rfl) rfl rfl ?_
  have loop : ∀ d i kf1, 4 - i = d → i ≤ 4 → (∀ j, j < i → kf1 j = xb false) → XV G 0 0 2 [(1, .int (nI i)), (0, .ref o)] [] n (xu h (o + 16) (.inl (K.2.2.1 1, 4, .inl kf1))) := by
    intro d
    induction d using Nat.strongRecOn with
    | ind d ih =>
      intro i kf1 hd hi hf
      refine xv_iload_n (pc' := 3) (i := 1) hF xd_PD_forgetRelations_2 rfl rfl rfl ?_
      refine xv_iconstN (pc' := 4) 4 hF xd_PD_forgetRelations_3 (by decide +kernel) rfl ?_
      refine xv_icmp_geN (pc' := 7) (tgt := 20) hF (by omega) (by omega) xd_PD_forgetRelations_4 (by decide) rfl (fun e => ?_) (fun e => ?_)
      · refine hR _ _ _ _ _ _ (by omega) (by omega) ?_ xd_PD_forgetRelations_20
        exact ⟨rfl, kf1, rfl, fun j hj => hf j (by omega)⟩
      · refine xv_aload_n (pc' := 8) (i := 0) hF xd_PD_forgetRelations_7 rfl rfl rfl ?_
        refine xv_get (pc' := 11) (ci := 0) hF (by rw [xu_ne (by omega)]; exact ho) rfl xu_PD 7 (by decide) xk_PD_f50 hfs xd_PD_forgetRelations_8 rfl ?_
        refine xv_iload_n (pc' := 12) (i := 1) hF xd_PD_forgetRelations_11 rfl rfl rfl ?_
        refine xv_iconstN (pc' := 13) 0 hF xd_PD_forgetRelations_12 (by decide +kernel) rfl ?_
        refine xv_zastN (pc' := 14) hF (by first | assumption | exact xu_self | (refine (xu_ne (by omega)).trans ?_; first | assumption | exact xu_self | (refine (xu_ne (by omega)).trans ?_; first | assumption | exact xu_self | (refine (xu_ne (by omega)).trans ?_; first | assumption | exact xu_self | (refine (xu_ne (by omega)).trans ?_; first | assumption | exact xu_self))))) (by omega) (by decide) xd_PD_forgetRelations_13 rfl ?_
        first | refine xv_iincN (pc' := 17) hF xd_PD_forgetRelations_14 rfl rfl (Nat.le_of_ble_eq_true rfl) rfl rfl ?_ | refine xv_iinc (pc' := 17) hF xd_PD_forgetRelations_14 rfl rfl (Nat.le_of_ble_eq_true rfl) rfl rfl ?_
        refine xv_goto (tgt := 2) hF xd_PD_forgetRelations_17 (by decide) ?_
        rw [xu_xu]
        refine xv_loc _ (by repeat (first | exact trivial | refine ⟨rfl, ?_⟩)) (ih _ (by omega) (i + 1) _ rfl (by omega) ?_)
        intro j hj
        by_cases c : j = i
        · rw [c, pk_us]; decide +kernel
        · rw [pk_un c]; exact hf j (by omega)
  have l0 := loop 4 0 kf (by omega) (by omega) (fun j hj => absurd hj (Nat.not_lt_zero _))
  rw [xu_same hk] at l0
  exact xv_loc _ (by repeat (first | exact trivial | refine ⟨rfl, ?_⟩)) l0
/-- the graph has changed, and nothing is known -/
theorem dk_R.graph {K : xK} {h h1 : xH} {n o e e' w made : Nat} {E E' : Nat → Nat → Nat → Bool} {Tg Tg' : Nat → Nat → Bool} {cs : Nat → Nat} {OS : Nat → List Nat} {SX : Nat → Nat} {kn : Nat → Bool} {kf' : Nat → Int32} (p : dk_R K h n o E Tg e cs w OS SX kn made) (hf : gh_fr h h1 (o + 1)) (hg : gh_R K h1 (o + 1) E' Tg' e') (hk : ∀ j, j < 4 → kf' j = xb false) : dk_R K (xu h1 (o + 16) (.inl (K.2.2.1 1, 4, .inl kf'))) n o E' Tg' e' cs w OS SX (fun _ => false) made ∧ dk_fr o h (xu h1 (o + 16) (.inl (K.2.2.1 1, 4, .inl kf'))) := by
  have go : ∀ q, (q < o + 1 ∨ o + 4 ≤ q) → q ≠ o + 16 → (xu h1 (o + 16) (.inl (K.2.2.1 1, 4, .inl kf'))) q = h q := fun q a b => by rw [xu_ne b]; exact hf q (by omega)
  have re : ∀ {a : Nat} {M : Nat → Nat → Nat}, (o + 4 ≤ a ∧ a + 2 < o + 16) ∨ o + 17 ≤ a → re_R K h a M → re_R K (xu h1 (o + 16) (.inl (K.2.2.1 1, 4, .inl kf'))) a M := by
    rintro a M ha ⟨f, g, ⟨a1, a2, a3⟩, a4⟩
    exact ⟨f, g, ⟨by rw [go _ (by omega) (by omega)]; exact a1, by rw [go _ (by omega) (by omega)]; exact a2, by rw [go _ (by omega) (by omega)]; exact a3⟩, a4⟩
  have ex : ∀ {a : Nat} {os : List Nat} {sx : Nat}, (a = o + 6 ∨ ∃ i, i < 4 ∧ a = o + 17 + 5 * i) → ex_R K h a os sx → ex_R K (xu h1 (o + 16) (.inl (K.2.2.1 1, 4, .inl kf'))) a os sx := by
    rintro a os sx ha ⟨a4, g, ⟨a5, a6⟩, a7⟩
    have : (o + 4 ≤ a ∧ a + 1 < o + 16) ∨ o + 17 ≤ a := by rcases ha with ha | ⟨i, hi, ha⟩ <;> omega
    exact ⟨a4, g, ⟨by rw [go _ (by omega) (by omega)]; exact a5, by rw [go _ (by omega) (by omega)]; exact a6⟩, a7⟩
  obtain ⟨p1, p2, ⟨x, q, sx, p3, hx⟩, ⟨ht, ad, sp, Mv, p4⟩, ⟨f, p5, p6⟩, p7, ⟨g1, p8, p9⟩, ⟨g2, pa, pb⟩, ⟨kf, pc, pd⟩, pe, pf⟩ := p
  refine ⟨⟨by rw [go _ (by omega) (by omega)]; exact p1, ?_, ⟨x, q, sx, ?_, hx⟩, ⟨ht, ad, sp, Mv, ?_⟩, ⟨f, by rw [go _ (by omega) (by omega)]; exact p5, p6⟩, p7, ⟨g1, by rw [go _ (by omega) (by omega)]; exact p8, p9⟩, ⟨g2, by rw [go _ (by omega) (by omega)]; exact pa, pb⟩, ⟨kf', xu_self, hk⟩, fun j hj => ⟨ex (Or.inr ⟨j, hj, rfl⟩) (pe j hj).1, (pe j hj).2⟩, fun j hj => ?_⟩, fun q a b => go q (by omega) (by omega)⟩
  · obtain ⟨T, g, ⟨a1, a2, a3⟩, a4⟩ := hg
    exact ⟨T, g, ⟨by rw [xu_ne (by omega)]; exact a1, by rw [xu_ne (by omega)]; exact a2, by rw [xu_ne (by omega)]; exact a3⟩, a4⟩
  · obtain ⟨a1, ⟨f, a2, a3⟩, a4, a8⟩ := p3
    exact ⟨by rw [go _ (by omega) (by omega)]; exact a1, ⟨f, by rw [go _ (by omega) (by omega)]; exact a2, a3⟩, ex hx a4, a8⟩
  · obtain ⟨⟨pl, b1, b2, b3⟩, i1, i2, i3, i4, ⟨Ms, i5⟩, i6, i7⟩ := p4
    have bek : ∀ {a : Nat} {M : Nat → Nat → Nat}, be_ok o n a → re_R K h a M → re_R K (xu h1 (o + 16) (.inl (K.2.2.1 1, 4, .inl kf'))) a M := by
      intro a M ha
      unfold be_ok at ha
      exact re (by omega)
    exact ⟨⟨pl, by rw [go _ (by omega) (by omega)]; exact b1, by rw [go _ (by omega) (by omega)]; exact b2, b3⟩, i1, i2, fun j hj => ⟨(i3 j hj).1, bek (i3 j hj).1 (i3 j hj).2⟩, i4, ⟨Ms, bek i4 i5⟩, i6, i7⟩
  · obtain ⟨M, m1, -⟩ := pf j hj
    exact ⟨M, re (by omega) m1, fun h => by cases h⟩
set_option maxHeartbeats 4000000 in
set_option maxRecDepth 100000 in
theorem c_PD_edge (K : xK) (n : Nat) (h : xH) (o e w made i l j : Nat) (E : Nat → Nat → Nat → Bool) (Tg : Nat → Nat → Bool) (cs : Nat → Nat) (OS : Nat → List Nat) (SX : Nat → Nat) (kn : Nat → Bool) (hr : dk_R K h n o E Tg e cs w OS SX kn made) (hi : i < 32) (hl : l < 8) (hj : j < 32) (he : e ≤ 300) : XM K xy_PD_edge xw_PD_edge (xrm 2 44 0 0) [.ref o, .int (nI i), .int (nI l), .int (nI j)] n h (x_pi fun r n' h' => n = n' ∧ dk_fr o h h' ∧ (((E l i j = true ∨ e = 300) ∧ r = xb false ∧ h = h') ∨ (E l i j = false ∧ e < 300 ∧ r = xb true ∧ dk_R K h' n o (ed_set E l i j true) Tg (e + 1) cs w OS SX (fun _ => false) made))) 0 0 := by
  obtain ⟨p1, p2, -, -, -, -, -, -, ⟨kf, pc, pd⟩, -⟩ := id hr
  obtain ⟨T, g, ⟨a1, a2, a3⟩, a4⟩ := id p2
  refine xm_z (by decide +kernel) (Nat.le_of_ble_eq_true rfl) (fun G hF hR => ?_)
  refine xv_iload_n (pc' := 1) (i := 1) hF xd_PD_edge_0 rfl rfl rfl ?_
  refine xv_callSv (pc' := 4) hF (c_PD_needNode K n h i hi) xq_PD_needNode xk_PD_m56 xk_t_PD_needNode ⟨(Nat.le_of_ble_eq_true rfl), (Nat.le_of_ble_eq_true rfl)⟩ rfl rfl (Nat.le_of_ble_eq_true rfl) ⟨(Nat.le_of_ble_eq_true rfl), (Nat.le_of_ble_eq_true rfl)⟩ xd_PD_edge_1 rfl (fun n1 h1 q1 => ?_)
  obtain ⟨rfl, rfl⟩ := q1
  refine xv_iload_n (pc' := 5) (i := 2) hF xd_PD_edge_4 rfl rfl rfl ?_
  refine xv_callSv (pc' := 8) hF (c_PD_needLabel K n h l hl) xq_PD_needLabel xk_PD_m60 xk_t_PD_needLabel ⟨(Nat.le_of_ble_eq_true rfl), (Nat.le_of_ble_eq_true rfl)⟩ rfl rfl (Nat.le_of_ble_eq_true rfl) ⟨(Nat.le_of_ble_eq_true rfl), (Nat.le_of_ble_eq_true rfl)⟩ xd_PD_edge_5 rfl (fun n1 h1 q1 => ?_)
  obtain ⟨rfl, rfl⟩ := q1
  refine xv_iload_n (pc' := 9) (i := 3) hF xd_PD_edge_8 rfl rfl rfl ?_
  refine xv_callSv (pc' := 12) hF (c_PD_needNode K n h j hj) xq_PD_needNode xk_PD_m56 xk_t_PD_needNode ⟨(Nat.le_of_ble_eq_true rfl), (Nat.le_of_ble_eq_true rfl)⟩ rfl rfl (Nat.le_of_ble_eq_true rfl) ⟨(Nat.le_of_ble_eq_true rfl), (Nat.le_of_ble_eq_true rfl)⟩ xd_PD_edge_9 rfl (fun n1 h1 q1 => ?_)
  obtain ⟨rfl, rfl⟩ := q1
  refine xv_aload_n (pc' := 13) (i := 0) hF xd_PD_edge_12 rfl rfl rfl ?_
  refine xv_get (pc' := 16) (ci := 0) hF (by first | assumption | exact xu_self | (refine (xu_ne (by omega)).trans ?_; first | assumption | exact xu_self | (refine (xu_ne (by omega)).trans ?_; first | assumption | exact xu_self | (refine (xu_ne (by omega)).trans ?_; first | assumption | exact xu_self | (refine (xu_ne (by omega)).trans ?_; first | assumption | exact xu_self))))) rfl xu_PD 0 (by decide) xk_PD_f12 (by rfl) xd_PD_edge_13 rfl ?_
  refine xv_iload_n (pc' := 17) (i := 1) hF xd_PD_edge_16 rfl rfl rfl ?_
  refine xv_iload_n (pc' := 18) (i := 2) hF xd_PD_edge_17 rfl rfl rfl ?_
  refine xv_iload_n (pc' := 19) (i := 3) hF xd_PD_edge_18 rfl rfl rfl ?_
  refine xv_callVi (pc' := 22) (ci := 1) hF (c_GR_hasEdge K n h (o + 1) i l j e E Tg p2 hi hl hj) xq_GR_hasEdge xk_PD_m63 xk_i_GR_hasEdge xk_s_GR_hasEdge (by first | assumption | exact xu_self | (refine (xu_ne (by omega)).trans ?_; first | assumption | exact xu_self | (refine (xu_ne (by omega)).trans ?_; first | assumption | exact xu_self | (refine (xu_ne (by omega)).trans ?_; first | assumption | exact xu_self | (refine (xu_ne (by omega)).trans ?_; first | assumption | exact xu_self))))) rfl ⟨(Nat.le_of_ble_eq_true rfl), (Nat.le_of_ble_eq_true rfl)⟩ rfl rfl (Nat.le_of_ble_eq_true rfl) ⟨(Nat.le_of_ble_eq_true rfl), (Nat.le_of_ble_eq_true rfl)⟩ xd_PD_edge_19 rfl (fun r n1 h1 q1 => ?_)
  obtain ⟨rfl, rfl, rfl⟩ := q1
  refine xv_if_neB (pc' := 25) (tgt := 38) hF xd_PD_edge_22 (by decide) rfl (fun e1 => ?_) (fun e1 => ?_)
  · refine xv_iconstN (pc' := 39) 0 hF xd_PD_edge_38 (by decide +kernel) rfl ?_
    refine hR _ _ _ _ _ _ _ (by omega) (by omega) ?_ (by first | rfl | exact xb_nw _ | decide +kernel) xd_PD_edge_39
    exact ⟨rfl, dk_fr.rf, Or.inl ⟨Or.inl e1, by decide +kernel, rfl⟩⟩
  · refine xv_aload_n (pc' := 26) (i := 0) hF xd_PD_edge_25 rfl rfl rfl ?_
    refine xv_get (pc' := 29) (ci := 0) hF (by first | assumption | exact xu_self | (refine (xu_ne (by omega)).trans ?_; first | assumption | exact xu_self | (refine (xu_ne (by omega)).trans ?_; first | assumption | exact xu_self | (refine (xu_ne (by omega)).trans ?_; first | assumption | exact xu_self | (refine (xu_ne (by omega)).trans ?_; first | assumption | exact xu_self))))) rfl xu_PD 0 (by decide) xk_PD_f12 (by rfl) xd_PD_edge_26 rfl ?_
    refine xv_getN (pc' := 32) (ci := 1) hF (by first | assumption | exact xu_self | (refine (xu_ne (by omega)).trans ?_; first | assumption | exact xu_self | (refine (xu_ne (by omega)).trans ?_; first | assumption | exact xu_self | (refine (xu_ne (by omega)).trans ?_; first | assumption | exact xu_self | (refine (xu_ne (by omega)).trans ?_; first | assumption | exact xu_self))))) rfl xu_GR 2 (by decide) xk_PD_f67 (by rfl) xd_PD_edge_29 rfl ?_
    refine xv_sipushN (pc' := 35) 300 hF xd_PD_edge_32 (by decide +kernel) rfl ?_
    refine xv_icmp_neN (pc' := 38) (tgt := 40) hF (by omega) (by omega) xd_PD_edge_35 (by decide) rfl (fun e2 => ?_) (fun e2 => ?_)
    · refine xv_aload_n (pc' := 41) (i := 0) hF xd_PD_edge_40 rfl rfl rfl ?_
      refine xv_get (pc' := 44) (ci := 0) hF (by first | assumption | exact xu_self | (refine (xu_ne (by omega)).trans ?_; first | assumption | exact xu_self | (refine (xu_ne (by omega)).trans ?_; first | assumption | exact xu_self | (refine (xu_ne (by omega)).trans ?_; first | assumption | exact xu_self | (refine (xu_ne (by omega)).trans ?_; first | assumption | exact xu_self))))) rfl xu_PD 0 (by decide) xk_PD_f12 (by rfl) xd_PD_edge_41 rfl ?_
      refine xv_iload_n (pc' := 45) (i := 1) hF xd_PD_edge_44 rfl rfl rfl ?_
      refine xv_iload_n (pc' := 46) (i := 2) hF xd_PD_edge_45 rfl rfl rfl ?_
      refine xv_iload_n (pc' := 47) (i := 3) hF xd_PD_edge_46 rfl rfl rfl ?_
      refine xv_callVv (pc' := 50) (ci := 1) hF (c_GR_putEdge K n h (o + 1) i l j e E Tg p2 hi hl hj (by omega)) xq_GR_putEdge xk_PD_m70 xk_i_GR_putEdge xk_s_GR_putEdge (by first | assumption | exact xu_self | (refine (xu_ne (by omega)).trans ?_; first | assumption | exact xu_self | (refine (xu_ne (by omega)).trans ?_; first | assumption | exact xu_self | (refine (xu_ne (by omega)).trans ?_; first | assumption | exact xu_self | (refine (xu_ne (by omega)).trans ?_; first | assumption | exact xu_self))))) rfl ⟨(Nat.le_of_ble_eq_true rfl), (Nat.le_of_ble_eq_true rfl)⟩ rfl rfl (Nat.le_of_ble_eq_true rfl) ⟨(Nat.le_of_ble_eq_true rfl), (Nat.le_of_ble_eq_true rfl)⟩ xd_PD_edge_47 rfl (fun n1 h1 q1 => ?_)
      obtain ⟨rfl, f1, r1⟩ := q1
      have p1' := (f1 o (by omega)).trans p1
      have pc' := (f1 (o + 16) (by omega)).trans pc
      refine xv_aload_n (pc' := 51) (i := 0) hF xd_PD_edge_50 rfl rfl rfl ?_
      refine xv_callVv (pc' := 54) (ci := 0) hF (c_PD_forgetRelations K n h1 o _ kf p1' rfl pc') xq_PD_forgetRelations xk_PD_m74 xk_i_PD_forgetRelations xk_s_PD_forgetRelations (by first | assumption | exact xu_self | (refine (xu_ne (by omega)).trans ?_; first | assumption | exact xu_self | (refine (xu_ne (by omega)).trans ?_; first | assumption | exact xu_self | (refine (xu_ne (by omega)).trans ?_; first | assumption | exact xu_self | (refine (xu_ne (by omega)).trans ?_; first | assumption | exact xu_self))))) rfl ⟨(Nat.le_of_ble_eq_true rfl), (Nat.le_of_ble_eq_true rfl)⟩ rfl rfl (Nat.le_of_ble_eq_true rfl) ⟨(Nat.le_of_ble_eq_true rfl), (Nat.le_of_ble_eq_true rfl)⟩ xd_PD_edge_51 rfl (fun n2 h2 q2 => ?_)
      obtain ⟨rfl, kf', rfl, hkf⟩ := q2
      obtain ⟨d1, d2⟩ := hr.graph f1 r1 hkf
      refine xv_iconstN (pc' := 55) 1 hF xd_PD_edge_54 (by decide +kernel) rfl ?_
      refine hR _ _ _ _ _ _ _ (by omega) (by omega) ?_ (by first | rfl | exact xb_nw _ | decide +kernel) xd_PD_edge_55
      exact ⟨rfl, d2, Or.inr ⟨e1, by omega, by decide +kernel, d1⟩⟩
    · refine xv_iconstN (pc' := 39) 0 hF xd_PD_edge_38 (by decide +kernel) rfl ?_
      refine hR _ _ _ _ _ _ _ (by omega) (by omega) ?_ (by first | rfl | exact xb_nw _ | decide +kernel) xd_PD_edge_39
      exact ⟨rfl, dk_fr.rf, Or.inl ⟨Or.inr e2, by decide +kernel, rfl⟩⟩
set_option maxHeartbeats 4000000 in
set_option maxRecDepth 100000 in
theorem c_PD_cut (K : xK) (n : Nat) (h : xH) (o e w made i l j : Nat) (E : Nat → Nat → Nat → Bool) (Tg : Nat → Nat → Bool) (cs : Nat → Nat) (OS : Nat → List Nat) (SX : Nat → Nat) (kn : Nat → Bool) (hr : dk_R K h n o E Tg e cs w OS SX kn made) (hi : i < 32) (hl : l < 8) (hj : j < 32) (he : E l i j = true → 1 ≤ e) : XM K xy_PD_cut xw_PD_cut (xrm 2 44 0 0) [.ref o, .int (nI i), .int (nI l), .int (nI j)] n h (x_pi fun r n' h' => n = n' ∧ dk_fr o h h' ∧ ((E l i j = false ∧ r = xb false ∧ h = h') ∨ (E l i j = true ∧ r = xb true ∧ dk_R K h' n o (ed_set E l i j false) Tg (e - 1) cs w OS SX (fun _ => false) made))) 0 0 := by
  obtain ⟨p1, p2, -, -, -, -, -, -, ⟨kf, pc, pd⟩, -⟩ := id hr
  obtain ⟨T, g, ⟨a1, a2, a3⟩, a4⟩ := id p2
  refine xm_z (by decide +kernel) (Nat.le_of_ble_eq_true rfl) (fun G hF hR => ?_)
  refine xv_iload_n (pc' := 1) (i := 1) hF xd_PD_cut_0 rfl rfl rfl ?_
  refine xv_callSv (pc' := 4) hF (c_PD_needNode K n h i hi) xq_PD_needNode xk_PD_m56 xk_t_PD_needNode ⟨(Nat.le_of_ble_eq_true rfl), (Nat.le_of_ble_eq_true rfl)⟩ rfl rfl (Nat.le_of_ble_eq_true rfl) ⟨(Nat.le_of_ble_eq_true rfl), (Nat.le_of_ble_eq_true rfl)⟩ xd_PD_cut_1 rfl (fun n1 h1 q1 => ?_)
  obtain ⟨rfl, rfl⟩ := q1
  refine xv_iload_n (pc' := 5) (i := 2) hF xd_PD_cut_4 rfl rfl rfl ?_
  refine xv_callSv (pc' := 8) hF (c_PD_needLabel K n h l hl) xq_PD_needLabel xk_PD_m60 xk_t_PD_needLabel ⟨(Nat.le_of_ble_eq_true rfl), (Nat.le_of_ble_eq_true rfl)⟩ rfl rfl (Nat.le_of_ble_eq_true rfl) ⟨(Nat.le_of_ble_eq_true rfl), (Nat.le_of_ble_eq_true rfl)⟩ xd_PD_cut_5 rfl (fun n1 h1 q1 => ?_)
  obtain ⟨rfl, rfl⟩ := q1
  refine xv_iload_n (pc' := 9) (i := 3) hF xd_PD_cut_8 rfl rfl rfl ?_
  refine xv_callSv (pc' := 12) hF (c_PD_needNode K n h j hj) xq_PD_needNode xk_PD_m56 xk_t_PD_needNode ⟨(Nat.le_of_ble_eq_true rfl), (Nat.le_of_ble_eq_true rfl)⟩ rfl rfl (Nat.le_of_ble_eq_true rfl) ⟨(Nat.le_of_ble_eq_true rfl), (Nat.le_of_ble_eq_true rfl)⟩ xd_PD_cut_9 rfl (fun n1 h1 q1 => ?_)
  obtain ⟨rfl, rfl⟩ := q1
  refine xv_aload_n (pc' := 13) (i := 0) hF xd_PD_cut_12 rfl rfl rfl ?_
  refine xv_get (pc' := 16) (ci := 0) hF (by first | assumption | exact xu_self | (refine (xu_ne (by omega)).trans ?_; first | assumption | exact xu_self | (refine (xu_ne (by omega)).trans ?_; first | assumption | exact xu_self | (refine (xu_ne (by omega)).trans ?_; first | assumption | exact xu_self | (refine (xu_ne (by omega)).trans ?_; first | assumption | exact xu_self))))) rfl xu_PD 0 (by decide) xk_PD_f12 (by rfl) xd_PD_cut_13 rfl ?_
  refine xv_iload_n (pc' := 17) (i := 1) hF xd_PD_cut_16 rfl rfl rfl ?_
  refine xv_iload_n (pc' := 18) (i := 2) hF xd_PD_cut_17 rfl rfl rfl ?_
  refine xv_iload_n (pc' := 19) (i := 3) hF xd_PD_cut_18 rfl rfl rfl ?_
  refine xv_callVi (pc' := 22) (ci := 1) hF (c_GR_hasEdge K n h (o + 1) i l j e E Tg p2 hi hl hj) xq_GR_hasEdge xk_PD_m63 xk_i_GR_hasEdge xk_s_GR_hasEdge (by first | assumption | exact xu_self | (refine (xu_ne (by omega)).trans ?_; first | assumption | exact xu_self | (refine (xu_ne (by omega)).trans ?_; first | assumption | exact xu_self | (refine (xu_ne (by omega)).trans ?_; first | assumption | exact xu_self | (refine (xu_ne (by omega)).trans ?_; first | assumption | exact xu_self))))) rfl ⟨(Nat.le_of_ble_eq_true rfl), (Nat.le_of_ble_eq_true rfl)⟩ rfl rfl (Nat.le_of_ble_eq_true rfl) ⟨(Nat.le_of_ble_eq_true rfl), (Nat.le_of_ble_eq_true rfl)⟩ xd_PD_cut_19 rfl (fun r n1 h1 q1 => ?_)
  obtain ⟨rfl, rfl, rfl⟩ := q1
  refine xv_if_neB (pc' := 25) (tgt := 27) hF xd_PD_cut_22 (by decide) rfl (fun e1 => ?_) (fun e1 => ?_)
  · refine xv_aload_n (pc' := 28) (i := 0) hF xd_PD_cut_27 rfl rfl rfl ?_
    refine xv_get (pc' := 31) (ci := 0) hF (by first | assumption | exact xu_self | (refine (xu_ne (by omega)).trans ?_; first | assumption | exact xu_self | (refine (xu_ne (by omega)).trans ?_; first | assumption | exact xu_self | (refine (xu_ne (by omega)).trans ?_; first | assumption | exact xu_self | (refine (xu_ne (by omega)).trans ?_; first | assumption | exact xu_self))))) rfl xu_PD 0 (by decide) xk_PD_f12 (by rfl) xd_PD_cut_28 rfl ?_
    refine xv_iload_n (pc' := 32) (i := 1) hF xd_PD_cut_31 rfl rfl rfl ?_
    refine xv_iload_n (pc' := 33) (i := 2) hF xd_PD_cut_32 rfl rfl rfl ?_
    refine xv_iload_n (pc' := 34) (i := 3) hF xd_PD_cut_33 rfl rfl rfl ?_
    refine xv_callVv (pc' := 37) (ci := 1) hF (c_GR_dropEdge K n h (o + 1) i l j e E Tg p2 hi hl hj (he e1)) xq_GR_dropEdge xk_PD_m77 xk_i_GR_dropEdge xk_s_GR_dropEdge (by first | assumption | exact xu_self | (refine (xu_ne (by omega)).trans ?_; first | assumption | exact xu_self | (refine (xu_ne (by omega)).trans ?_; first | assumption | exact xu_self | (refine (xu_ne (by omega)).trans ?_; first | assumption | exact xu_self | (refine (xu_ne (by omega)).trans ?_; first | assumption | exact xu_self))))) rfl ⟨(Nat.le_of_ble_eq_true rfl), (Nat.le_of_ble_eq_true rfl)⟩ rfl rfl (Nat.le_of_ble_eq_true rfl) ⟨(Nat.le_of_ble_eq_true rfl), (Nat.le_of_ble_eq_true rfl)⟩ xd_PD_cut_34 rfl (fun n1 h1 q1 => ?_)
    obtain ⟨rfl, f1, r1⟩ := q1
    have p1' := (f1 o (by omega)).trans p1
    have pc' := (f1 (o + 16) (by omega)).trans pc
    refine xv_aload_n (pc' := 38) (i := 0) hF xd_PD_cut_37 rfl rfl rfl ?_
    refine xv_callVv (pc' := 41) (ci := 0) hF (c_PD_forgetRelations K n h1 o _ kf p1' rfl pc') xq_PD_forgetRelations xk_PD_m74 xk_i_PD_forgetRelations xk_s_PD_forgetRelations (by first | assumption | exact xu_self | (refine (xu_ne (by omega)).trans ?_; first | assumption | exact xu_self | (refine (xu_ne (by omega)).trans ?_; first | assumption | exact xu_self | (refine (xu_ne (by omega)).trans ?_; first | assumption | exact xu_self | (refine (xu_ne (by omega)).trans ?_; first | assumption | exact xu_self))))) rfl ⟨(Nat.le_of_ble_eq_true rfl), (Nat.le_of_ble_eq_true rfl)⟩ rfl rfl (Nat.le_of_ble_eq_true rfl) ⟨(Nat.le_of_ble_eq_true rfl), (Nat.le_of_ble_eq_true rfl)⟩ xd_PD_cut_38 rfl (fun n2 h2 q2 => ?_)
    obtain ⟨rfl, kf', rfl, hkf⟩ := q2
    obtain ⟨d1, d2⟩ := hr.graph f1 r1 hkf
    refine xv_iconstN (pc' := 42) 1 hF xd_PD_cut_41 (by decide +kernel) rfl ?_
    refine hR _ _ _ _ _ _ _ (by omega) (by omega) ?_ (by first | rfl | exact xb_nw _ | decide +kernel) xd_PD_cut_42
    exact ⟨rfl, d2, Or.inr ⟨e1, by decide +kernel, d1⟩⟩
  · refine xv_iconstN (pc' := 26) 0 hF xd_PD_cut_25 (by decide +kernel) rfl ?_
    refine hR _ _ _ _ _ _ _ (by omega) (by omega) ?_ (by first | rfl | exact xb_nw _ | decide +kernel) xd_PD_cut_26
    exact ⟨rfl, dk_fr.rf, Or.inl ⟨e1, by decide +kernel, rfl⟩⟩
set_option maxHeartbeats 4000000 in
set_option maxRecDepth 100000 in
theorem c_PD_tag (K : xK) (n : Nat) (h : xH) (o e w made i t : Nat) (b : Bool) (E : Nat → Nat → Nat → Bool) (Tg : Nat → Nat → Bool) (cs : Nat → Nat) (OS : Nat → List Nat) (SX : Nat → Nat) (kn : Nat → Bool) (hr : dk_R K h n o E Tg e cs w OS SX kn made) (hi : i < 32) (ht : t < 4) : XM K xy_PD_tag xw_PD_tag (xrm 1 23 0 0) [.ref o, .int (nI i), .int (nI t), .int (xb b)] n h (x_pv fun n' h' => n = n' ∧ dk_fr o h h' ∧ dk_R K h' n o E (tg_set Tg t i b) e cs w OS SX (fun _ => false) made) 0 0 := by
  obtain ⟨p1, p2, -, -, -, -, -, -, ⟨kf, pc, pd⟩, -⟩ := id hr
  obtain ⟨T, g, ⟨a1, a2, a3⟩, a4⟩ := id p2
  refine xm_v (by decide +kernel) (Nat.le_of_ble_eq_true rfl) (fun G hF hR => ?_)
  refine xv_iload_n (pc' := 1) (i := 1) hF xd_PD_tag_0 rfl rfl rfl ?_
  refine xv_callSv (pc' := 4) hF (c_PD_needNode K n h i hi) xq_PD_needNode xk_PD_m56 xk_t_PD_needNode ⟨(Nat.le_of_ble_eq_true rfl), (Nat.le_of_ble_eq_true rfl)⟩ rfl rfl (Nat.le_of_ble_eq_true rfl) ⟨(Nat.le_of_ble_eq_true rfl), (Nat.le_of_ble_eq_true rfl)⟩ xd_PD_tag_1 rfl (fun n1 h1 q1 => ?_)
  obtain ⟨rfl, rfl⟩ := q1
  refine xv_iload_n (pc' := 5) (i := 2) hF xd_PD_tag_4 rfl rfl rfl ?_
  refine xv_if_ltN (pc' := 8) (tgt := 13) hF (by omega) xd_PD_tag_5 (by decide) rfl ?_
  refine xv_iload_n (pc' := 9) (i := 2) hF xd_PD_tag_8 rfl rfl rfl ?_
  refine xv_iconstN (pc' := 10) 4 hF xd_PD_tag_9 (by decide +kernel) rfl ?_
  refine xv_icmp_ltN (pc' := 13) (tgt := 23) hF (by omega) (by omega) xd_PD_tag_10 (by decide) rfl (fun e1 => ?_) (fun e1 => ?_)
  · refine xv_aload_n (pc' := 24) (i := 0) hF xd_PD_tag_23 rfl rfl rfl ?_
    refine xv_get (pc' := 27) (ci := 0) hF (by first | assumption | exact xu_self | (refine (xu_ne (by omega)).trans ?_; first | assumption | exact xu_self | (refine (xu_ne (by omega)).trans ?_; first | assumption | exact xu_self | (refine (xu_ne (by omega)).trans ?_; first | assumption | exact xu_self | (refine (xu_ne (by omega)).trans ?_; first | assumption | exact xu_self))))) rfl xu_PD 0 (by decide) xk_PD_f12 (by rfl) xd_PD_tag_24 rfl ?_
    refine xv_iload_n (pc' := 28) (i := 1) hF xd_PD_tag_27 rfl rfl rfl ?_
    refine xv_iload_n (pc' := 29) (i := 2) hF xd_PD_tag_28 rfl rfl rfl ?_
    refine xv_iload_n (pc' := 30) (i := 3) hF xd_PD_tag_29 rfl rfl rfl ?_
    refine xv_callVv (pc' := 33) (ci := 1) hF (c_GR_setTag K n h (o + 1) i t e b E Tg p2 hi ht) xq_GR_setTag xk_PD_m87 xk_i_GR_setTag xk_s_GR_setTag (by first | assumption | exact xu_self | (refine (xu_ne (by omega)).trans ?_; first | assumption | exact xu_self | (refine (xu_ne (by omega)).trans ?_; first | assumption | exact xu_self | (refine (xu_ne (by omega)).trans ?_; first | assumption | exact xu_self | (refine (xu_ne (by omega)).trans ?_; first | assumption | exact xu_self))))) rfl ⟨(Nat.le_of_ble_eq_true rfl), (Nat.le_of_ble_eq_true rfl)⟩ rfl rfl (Nat.le_of_ble_eq_true rfl) ⟨(Nat.le_of_ble_eq_true rfl), (Nat.le_of_ble_eq_true rfl)⟩ xd_PD_tag_30 rfl (fun n1 h1 q1 => ?_)
    obtain ⟨rfl, f1, r1⟩ := q1
    have p1' := (f1 o (by omega)).trans p1
    have pc' := (f1 (o + 16) (by omega)).trans pc
    refine xv_aload_n (pc' := 34) (i := 0) hF xd_PD_tag_33 rfl rfl rfl ?_
    refine xv_callVv (pc' := 37) (ci := 0) hF (c_PD_forgetRelations K n h1 o _ kf p1' rfl pc') xq_PD_forgetRelations xk_PD_m74 xk_i_PD_forgetRelations xk_s_PD_forgetRelations (by first | assumption | exact xu_self | (refine (xu_ne (by omega)).trans ?_; first | assumption | exact xu_self | (refine (xu_ne (by omega)).trans ?_; first | assumption | exact xu_self | (refine (xu_ne (by omega)).trans ?_; first | assumption | exact xu_self | (refine (xu_ne (by omega)).trans ?_; first | assumption | exact xu_self))))) rfl ⟨(Nat.le_of_ble_eq_true rfl), (Nat.le_of_ble_eq_true rfl)⟩ rfl rfl (Nat.le_of_ble_eq_true rfl) ⟨(Nat.le_of_ble_eq_true rfl), (Nat.le_of_ble_eq_true rfl)⟩ xd_PD_tag_34 rfl (fun n2 h2 q2 => ?_)
    obtain ⟨rfl, kf', rfl, hkf⟩ := q2
    obtain ⟨d1, d2⟩ := hr.graph f1 r1 hkf
    refine hR _ _ _ _ _ _ (by omega) (by omega) ?_ xd_PD_tag_37
    exact ⟨rfl, d2, d1⟩
  · omega
