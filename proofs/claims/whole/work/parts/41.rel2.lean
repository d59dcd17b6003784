theorem xu_same {h : xH} {a : Nat} {e : va_E} (ha : h a = some e) : xu h a e = h := by
  funext q
  unfold xu
  split
  · rename_i e1; rw [e1, ha]
  · rfl
/-! Arrays.fill -/
set_option maxHeartbeats 4000000 in
set_option maxRecDepth 100000 in
theorem c_JA_fill (K : xK) (n : Nat) (h : xH) (q N : Nat) (v : Int32) (f : Nat → Int32) (hq : h q = some (.inl (K.2.2.1 0, N, .inl f))) (hN : N < 2 ^ 30) : XM K xy_JA_fill xw_JA_fill (xrm 0 0 0 0) [.ref q, .int v] n h (x_pv fun n' h' => n = n' ∧ ∃ f', h' = xu h q (.inl (K.2.2.1 0, N, .inl f')) ∧ ∀ j, j < N → f' j = v) 0 0 := by
  refine xm_v (by decide +kernel) (Nat.le_of_ble_eq_true rfl) (fun G hF hR => ?_)
  refine xv_iconstN (pc' := 1) 0 hF xd_JA_fill_0 (by decide +kernel) rfl ?_
  refine xv_istore_n (pc' := 2) (i := 2) hF xd_JA_fill_1 rfl (Nat.le_of_ble_eq_true rfl) rfl rfl ?_
  refine xv_aload_n (pc' := 3) (i := 0) hF xd_JA_fill_2 rfl rfl rfl ?_
  refine xv_alen (pc' := 4) (v := nI N) 0 hF (by assumption) rfl rfl xd_JA_fill_3 rfl ?_
  refine xv_istore_n (pc' := 5) (i := 3) hF xd_JA_fill_4 rfl (Nat.le_of_ble_eq_true rfl) rfl rfl ?_
  have loop : ∀ d i f1, N - i = d → i ≤ N → (∀ j, j < i → f1 j = v) → XV G 0 0 5 [(3, .int (nI N)), (2, .int (nI i)), (0, .ref q), (1, .int v)] [] n (xu h q (.inl (K.2.2.1 0, N, .inl f1))) := by
    intro d
    induction d using Nat.strongRecOn with
    | ind d ih =>
      intro i f1 hd hi hf
      refine xv_iload_n (pc' := 6) (i := 2) hF xd_JA_fill_5 rfl rfl rfl ?_
      refine xv_iload_n (pc' := 7) (i := 3) hF xd_JA_fill_6 rfl rfl rfl ?_
      refine xv_icmp_geN (pc' := 10) (tgt := 20) hF (by omega) (by omega) xd_JA_fill_7 (by decide) rfl (fun e => ?_) (fun e => ?_)
      · refine hR _ _ _ _ _ _ (by omega) (by omega) ?_ xd_JA_fill_20
        exact ⟨rfl, f1, rfl, fun j hj => hf j (by omega)⟩
      · refine xv_aload_n (pc' := 11) (i := 0) hF xd_JA_fill_10 rfl rfl rfl ?_
        refine xv_iload_n (pc' := 12) (i := 2) hF xd_JA_fill_11 rfl rfl rfl ?_
        refine xv_iload_n (pc' := 13) (i := 1) hF xd_JA_fill_12 rfl rfl rfl ?_
        refine xv_iastN (pc' := 14) hF xu_self (by omega) (by omega) xd_JA_fill_13 rfl ?_
        first | refine xv_iincN (pc' := 17) hF xd_JA_fill_14 rfl rfl (Nat.le_of_ble_eq_true rfl) rfl rfl ?_ | refine xv_iinc (pc' := 17) hF xd_JA_fill_14 rfl rfl (Nat.le_of_ble_eq_true rfl) rfl rfl ?_
        refine xv_goto (tgt := 5) hF xd_JA_fill_17 (by decide) ?_
        rw [xu_xu]
        refine xv_loc _ (by repeat (first | exact trivial | refine ⟨rfl, ?_⟩)) (ih _ (by omega) (i + 1) _ rfl (by omega) ?_)
        intro j hj
        by_cases e2 : j = i
        · rw [e2, pk_us]
        · rw [pk_un e2]; exact hf j (by omega)
  have h0 := loop N 0 f (by omega) (by omega) (fun j hj => by omega)
  rw [xu_same hq] at h0
  exact xv_loc _ (by repeat (first | exact trivial | refine ⟨rfl, ?_⟩)) h0
/-! Relation.clear -/
def md_no : Nat → Nat → Nat := fun _ _ => 1000000
set_option maxHeartbeats 4000000 in
set_option maxRecDepth 100000 in
theorem c_RE_clear (K : xK) (n : Nat) (h : xH) (a : Nat) (M : Nat → Nat → Nat) (hr : re_R K h a M) : XM K xy_RE_clear xw_RE_clear (xrm 1 23 0 0) [.ref a] n h (x_pv fun n' h' => n = n' ∧ re_fr h h' a ∧ re_R K h' a md_no) 0 0 := by
  obtain ⟨f, g, ⟨ha, hf, hg⟩, hM⟩ := hr
  refine xm_v (by decide +kernel) (Nat.le_of_ble_eq_true rfl) (fun G hF hR => ?_)
  refine xv_aload_n (pc' := 1) (i := 0) hF xd_RE_clear_0 rfl rfl rfl ?_
  refine xv_get (pc' := 4) (ci := 2) hF (by first | assumption | exact xu_self | (refine (xu_ne (by omega)).trans ?_; first | assumption | exact xu_self | (refine (xu_ne (by omega)).trans ?_; first | assumption | exact xu_self | (refine (xu_ne (by omega)).trans ?_; first | assumption | exact xu_self | (refine (xu_ne (by omega)).trans ?_; first | assumption | exact xu_self))))) rfl xu_RE 0 (by decide) xk_RE_f9 (by rfl) xd_RE_clear_1 rfl ?_
  refine xv_iconstN (pc' := 5) 0 hF xd_RE_clear_4 (by decide +kernel) rfl ?_
  refine xv_callSv (pc' := 8) hF (c_JA_fill K n h (a + 1) 32 (nI 0) f hf (by decide)) xq_JA_fill xk_RE_m18 xk_t_JA_fill ⟨(Nat.le_of_ble_eq_true rfl), (Nat.le_of_ble_eq_true rfl)⟩ rfl rfl (Nat.le_of_ble_eq_true rfl) ⟨(Nat.le_of_ble_eq_true rfl), (Nat.le_of_ble_eq_true rfl)⟩ xd_RE_clear_5 rfl (fun n1 h1 p1 => ?_)
  obtain ⟨rfl, f', rfl, hz⟩ := p1
  refine hR _ _ _ _ _ _ (by omega) (by omega) ?_ xd_RE_clear_8
  refine ⟨rfl, fun q h1 h2 => xu_ne h1, f', g, ⟨by rw [xu_ne (by omega)]; exact ha, xu_self, by rw [xu_ne (by omega)]; exact hg⟩, fun i j hi hj => ⟨?_, fun hx => absurd hx (by unfold md_no; omega)⟩⟩
  rw [hz i hi]
  exact (b_0 j).trans (by unfold md_no; decide)
/-! Relation.addStays -/
def md_st (M : Nat → Nat → Nat) (x : Int32) (t : Nat) : Nat → Nat → Nat := fun i j => if i = j ∧ i < t ∧ bt x i = true then 0 else M i j
set_option maxHeartbeats 4000000 in
set_option maxRecDepth 100000 in
theorem c_RE_addStays (K : xK) (n : Nat) (h : xH) (a : Nat) (x : Int32) (M : Nat → Nat → Nat) (hr : re_R K h a M) : XM K xy_RE_addStays xw_RE_addStays (xrm 1 25 0 0) [.ref a, .int x] n h (x_pv fun n' h' => n = n' ∧ re_fr h h' a ∧ re_R K h' a (md_st M x 32)) 0 0 := by
  refine xm_v (by decide +kernel) (Nat.le_of_ble_eq_true rfl) (fun G hF hR => ?_)
  refine xv_iconstN (pc' := 1) 0 hF xd_RE_addStays_0 (by decide +kernel) rfl ?_
  refine xv_istore_n (pc' := 2) (i := 2) hF xd_RE_addStays_1 rfl (Nat.le_of_ble_eq_true rfl) rfl rfl ?_
  have loop : ∀ d i h1, 32 - i = d → i ≤ 32 → re_fr h h1 a → re_R K h1 a (md_st M x i) → XV G 0 0 2 [(2, .int (nI i)), (0, .ref a), (1, .int x)] [] n h1 := by
    intro d
    induction d using Nat.strongRecOn with
    | ind d ih =>
      intro i h1 hd hi hfr hr1
      refine xv_iload_n (pc' := 3) (i := 2) hF xd_RE_addStays_2 rfl rfl rfl ?_
      refine xv_bipushN (pc' := 5) 32 hF xd_RE_addStays_3 (by decide +kernel) rfl ?_
      refine xv_icmp_geN (pc' := 8) (tgt := 29) hF (by omega) (by omega) xd_RE_addStays_5 (by decide) rfl (fun e => ?_) (fun e => ?_)
      · refine hR _ _ _ _ _ _ (by omega) (by omega) ?_ xd_RE_addStays_29
        have : i = 32 := by omega
        subst this
        exact ⟨rfl, hfr, hr1⟩
      · refine xv_iload_n (pc' := 9) (i := 1) hF xd_RE_addStays_8 rfl rfl rfl ?_
        refine xv_iload_n (pc' := 10) (i := 2) hF xd_RE_addStays_9 rfl rfl rfl ?_
        refine xv_callSNi (pc' := 13) hF (c_PD_isIn K n h1 x i (by omega)) xq_PD_isIn xk_RE_m24 xk_t_PD_isIn ⟨(Nat.le_of_ble_eq_true rfl), (Nat.le_of_ble_eq_true rfl)⟩ rfl rfl (Nat.le_of_ble_eq_true rfl) ⟨(Nat.le_of_ble_eq_true rfl), (Nat.le_of_ble_eq_true rfl)⟩ xd_RE_addStays_10 rfl (fun r n2 h2 p2 => ?_)
        obtain ⟨rfl, rfl, rfl⟩ := p2
        refine xv_if_eqB (pc' := 16) (tgt := 23) hF xd_RE_addStays_13 (by decide) rfl (fun e2 => ?_) (fun e2 => ?_)
        · first | refine xv_iincN (pc' := 26) hF xd_RE_addStays_23 rfl rfl (Nat.le_of_ble_eq_true rfl) rfl rfl ?_ | refine xv_iinc (pc' := 26) hF xd_RE_addStays_23 rfl rfl (Nat.le_of_ble_eq_true rfl) rfl rfl ?_
          refine xv_goto (tgt := 2) hF xd_RE_addStays_26 (by decide) ?_
          refine xv_loc _ (by repeat (first | exact trivial | refine ⟨rfl, ?_⟩)) (ih _ (by omega) (i + 1) _ rfl (by omega) hfr (hr1.congr ?_))
          intro y z hy hz
          unfold md_st
          by_cases c : y = i
          · subst c; simp [e2]
          · have : (y < i + 1) ↔ (y < i) := by omega
            simp only [this]
        · refine xv_aload_n (pc' := 17) (i := 0) hF xd_RE_addStays_16 rfl rfl rfl ?_
          refine xv_iload_n (pc' := 18) (i := 2) hF xd_RE_addStays_17 rfl rfl rfl ?_
          refine xv_iload_n (pc' := 19) (i := 2) hF xd_RE_addStays_18 rfl rfl rfl ?_
          refine xv_iconstN (pc' := 20) 0 hF xd_RE_addStays_19 (by decide +kernel) rfl ?_
          have hr2 := hr1
          obtain ⟨f, g, ⟨ha, hf, hg⟩, hM⟩ := hr2
          refine xv_callVv (pc' := 23) (ci := 2) hF (c_RE_offer K n h1 a i i 0 _ hr1 (by omega) (by omega) (by decide)) xq_RE_offer xk_RE_m28 xk_i_RE_offer xk_s_RE_offer (by first | assumption | exact xu_self | (refine (xu_ne (by omega)).trans ?_; first | assumption | exact xu_self | (refine (xu_ne (by omega)).trans ?_; first | assumption | exact xu_self | (refine (xu_ne (by omega)).trans ?_; first | assumption | exact xu_self | (refine (xu_ne (by omega)).trans ?_; first | assumption | exact xu_self))))) rfl ⟨(Nat.le_of_ble_eq_true rfl), (Nat.le_of_ble_eq_true rfl)⟩ rfl rfl (Nat.le_of_ble_eq_true rfl) ⟨(Nat.le_of_ble_eq_true rfl), (Nat.le_of_ble_eq_true rfl)⟩ xd_RE_addStays_20 rfl (fun n3 h3 p3 => ?_)
          obtain ⟨rfl, hfr3, hr3⟩ := p3
          first | refine xv_iincN (pc' := 26) hF xd_RE_addStays_23 rfl rfl (Nat.le_of_ble_eq_true rfl) rfl rfl ?_ | refine xv_iinc (pc' := 26) hF xd_RE_addStays_23 rfl rfl (Nat.le_of_ble_eq_true rfl) rfl rfl ?_
          refine xv_goto (tgt := 2) hF xd_RE_addStays_26 (by decide) ?_
          refine xv_loc _ (by repeat (first | exact trivial | refine ⟨rfl, ?_⟩)) (ih _ (by omega) (i + 1) _ rfl (by omega) (hfr.tr hfr3) (hr3.congr ?_))
          intro y z hy hz
          unfold md_set md_st
          by_cases c : y = i
          · subst c
            by_cases c2 : z = y
            · subst c2; simp [e2]
            · have c3 : ¬ y = z := fun h => c2 h.symm
              simp [c2, c3]
          · have : (y < i + 1) ↔ (y < i) := by omega
            simp [c, this]
  refine xv_loc _ (by repeat (first | exact trivial | refine ⟨rfl, ?_⟩)) (loop 32 0 h (by omega) (by omega) re_fr.rf (hr.congr ?_))
  intro y z hy hz
  unfold md_st
  simp
