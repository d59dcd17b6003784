/-! relations: a matrix M of least lengths (1000000: none), as bits and lengths -/
theorem bt_inN (x : Int32) {t : Nat} (ht : t < 32) : ((x.toUInt32 >>> ((nI t).toUInt32 &&& Int32.toUInt32 31)).toInt32 &&& nI 1) = 0 ↔ bt x t = false := bt_in x ht
theorem bt_oneN (t : Nat) (ht : t < 32) (i : Nat) (hi : i < 32) : bt (nI 1 <<< (nI t &&& 31)) i = decide (i = t) := bt_one t ht i hi
theorem bt_maskN (x : Int32) {t : Nat} (ht : t < 32) : (x &&& (nI 1 <<< (nI t &&& 31))) = 0 ↔ bt x t = false := bt_mask x ht
def re_at (K : xK) (h : xH) (a : Nat) (f g : Nat → Int32) : Prop := h a = some (.inr (2, [.ref (a + 1), .ref (a + 2)])) ∧ h (a + 1) = some (.inl (K.2.2.1 0, 32, .inl f)) ∧ h (a + 2) = some (.inl (K.2.2.1 0, 1024, .inl g))
def re_is (f g : Nat → Int32) (M : Nat → Nat → Nat) : Prop := ∀ i j, i < 32 → j < 32 → bt (f i) j = decide (M i j < 1000000) ∧ (M i j < 1000000 → g (i * 32 + j) = nI (M i j))
def re_R (K : xK) (h : xH) (a : Nat) (M : Nat → Nat → Nat) : Prop := ∃ f g, re_at K h a f g ∧ re_is f g M
def re_fr (h h' : xH) (a : Nat) : Prop := ∀ q, q ≠ a + 1 → q ≠ a + 2 → h' q = h q
theorem re_fr.rf {h : xH} {a : Nat} : re_fr h h a := fun _ _ _ => rfl
theorem re_fr.tr {h h1 h2 : xH} {a : Nat} (p : re_fr h h1 a) (q : re_fr h1 h2 a) : re_fr h h2 a := fun x h1 h2 => (q x h1 h2).trans (p x h1 h2)
theorem re_R.congr {K : xK} {h : xH} {a : Nat} {M M' : Nat → Nat → Nat} (p : re_R K h a M) (he : ∀ i j, i < 32 → j < 32 → M' i j = M i j) : re_R K h a M' := by
  obtain ⟨f, g, h1, h2⟩ := p
  exact ⟨f, g, h1, fun i j hi hj => by rw [he i j hi hj]; exact h2 i j hi hj⟩
/-- two relations are one, or have no cell in common -/
def re_ap (a c : Nat) : Prop := a + 3 ≤ c ∨ c + 3 ≤ a
theorem re_R.keep {K : xK} {h h' : xH} {a c : Nat} {N : Nat → Nat → Nat} (hfr : re_fr h h' a) (hap : re_ap a c) (p : re_R K h c N) : re_R K h' c N := by
  obtain ⟨f, g, ⟨h1, h2, h3⟩, h4⟩ := p
  unfold re_ap at hap
  exact ⟨f, g, ⟨(hfr _ (by omega) (by omega)).trans h1, (hfr _ (by omega) (by omega)).trans h2, (hfr _ (by omega) (by omega)).trans h3⟩, h4⟩
def md_set (M : Nat → Nat → Nat) (i j w : Nat) : Nat → Nat → Nat := fun x y => if x = i ∧ y = j then w else M x y
theorem md_set_s {M : Nat → Nat → Nat} {i j w : Nat} : md_set M i j w i j = w := by simp [md_set]
theorem md_set_n {M : Nat → Nat → Nat} {i j w x y : Nat} (h : ¬ (x = i ∧ y = j)) : md_set M i j w x y = M x y := by simp [md_set, h]
theorem md_set_id {M : Nat → Nat → Nat} {i j : Nat} : md_set M i j (M i j) = M := by
  funext x y
  unfold md_set
  split
  · rename_i h; rw [h.1, h.2]
  · rfl
/-! PathDesk.isIn -/
set_option maxHeartbeats 4000000 in
set_option maxRecDepth 100000 in
theorem c_PD_isIn (K : xK) (n : Nat) (h : xH) (x : Int32) (t : Nat) (ht : t < 32) : XM K xy_PD_isIn xw_PD_isIn (xrm 0 0 0 0) [.int x, .int (nI t)] n h (x_pi fun r n' h' => r = xb (bt x t) ∧ n = n' ∧ h = h') 0 0 := by
  refine xm_z (by decide +kernel) (Nat.le_of_ble_eq_true rfl) (fun G hF hR => ?_)
  refine xv_iload_n (pc' := 1) (i := 0) hF xd_PD_isIn_0 rfl rfl rfl ?_
  refine xv_iload_n (pc' := 2) (i := 1) hF xd_PD_isIn_1 rfl rfl rfl ?_
  refine xv_iushr (pc' := 3) hF xd_PD_isIn_2 rfl rfl ?_
  refine xv_iconstN (pc' := 4) 1 hF xd_PD_isIn_3 (by decide +kernel) rfl ?_
  refine xv_iand (pc' := 5) hF xd_PD_isIn_4 rfl ?_
  refine xv_if_eq (pc' := 8) (tgt := 12) hF xd_PD_isIn_5 (by decide) rfl (fun e => ?_) (fun e => ?_)
  · rw [bt_inN x ht] at e
    refine xv_iconstN (pc' := 13) 0 hF xd_PD_isIn_12 (by decide +kernel) rfl ?_
    refine hR _ _ _ _ _ _ _ (by omega) (by omega) ?_ (by first | rfl | exact xb_nw _ | decide +kernel) xd_PD_isIn_13
    exact ⟨by rw [e]; decide +kernel, rfl, rfl⟩
  · rw [bt_inN x ht] at e
    refine xv_iconstN (pc' := 9) 1 hF xd_PD_isIn_8 (by decide +kernel) rfl ?_
    refine xv_goto (tgt := 13) hF xd_PD_isIn_9 (by decide) ?_
    refine hR _ _ _ _ _ _ _ (by omega) (by omega) ?_ (by first | rfl | exact xb_nw _ | decide +kernel) xd_PD_isIn_13
    exact ⟨by rw [Bool.not_eq_false] at e; rw [e]; decide +kernel, rfl, rfl⟩
/-! Relation.offer -/
theorem re_off {f g : Nat → Int32} {M : Nat → Nat → Nat} {i j w : Nat} (hM : re_is f g M) (hi : i < 32) (hj : j < 32) (hw : w < 1000000) (hlt : w ≤ M i j) : re_is (upd f i (f i ||| nI 1 <<< (nI j &&& 31))) (upd g (i * 32 + j) (nI w)) (md_set M i j w) := by
  intro x y hx hy
  obtain ⟨h1, h2⟩ := hM x y hx hy
  by_cases e : x = i
  · subst e
    by_cases e2 : y = j
    · subst e2
      rw [md_set_s, pk_us, pk_us, b_or, bt_oneN y hj y hj]
      simp [hw]
    · rw [md_set_n (by omega), pk_us, pk_un (by omega), b_or, bt_oneN j hj y hy, h1]
      simp [e2]
      exact h2
  · rw [md_set_n (by omega), pk_un e, pk_un (by omega)]
    exact ⟨h1, h2⟩
set_option maxHeartbeats 4000000 in
set_option maxRecDepth 100000 in
theorem c_RE_offer (K : xK) (n : Nat) (h : xH) (a i j w : Nat) (M : Nat → Nat → Nat) (hr : re_R K h a M) (hi : i < 32) (hj : j < 32) (hw : w < 1000000) : XM K xy_RE_offer xw_RE_offer (xrm 0 0 0 0) [.ref a, .int (nI i), .int (nI j), .int (nI w)] n h (x_pv fun n' h' => n = n' ∧ re_fr h h' a ∧ re_R K h' a (md_set M i j (min (M i j) w))) 0 0 := by
  obtain ⟨f, g, ⟨ha, hf, hg⟩, hM⟩ := hr
  obtain ⟨m1, m2⟩ := hM i j hi hj
  refine xm_v (by decide +kernel) (Nat.le_of_ble_eq_true rfl) (fun G hF hR => ?_)
  refine xv_iload_n (pc' := 1) (i := 1) hF xd_RE_offer_0 rfl rfl rfl ?_
  refine xv_bipushN (pc' := 3) 32 hF xd_RE_offer_1 (by decide +kernel) rfl ?_
  first | refine xv_imulN (pc' := 4) hF xd_RE_offer_3 rfl ?_ | refine xv_imul (pc' := 4) hF xd_RE_offer_3 rfl ?_
  refine xv_iload_n (pc' := 5) (i := 2) hF xd_RE_offer_4 rfl rfl rfl ?_
  first | refine xv_iaddN (pc' := 6) hF xd_RE_offer_5 rfl ?_ | refine xv_iadd (pc' := 6) hF xd_RE_offer_5 rfl ?_
  refine xv_istore (pc' := 8) hF xd_RE_offer_6 (Nat.le_of_ble_eq_true rfl) rfl rfl ?_
  refine xv_iconstN (pc' := 9) 1 hF xd_RE_offer_8 (by decide +kernel) rfl ?_
  refine xv_iload_n (pc' := 10) (i := 2) hF xd_RE_offer_9 rfl rfl rfl ?_
  refine xv_ishl (pc' := 11) hF xd_RE_offer_10 rfl ?_
  refine xv_istore (pc' := 13) hF xd_RE_offer_11 (Nat.le_of_ble_eq_true rfl) rfl rfl ?_
  refine xv_aload_n (pc' := 14) (i := 0) hF xd_RE_offer_13 rfl rfl rfl ?_
  refine xv_get (pc' := 17) (ci := 2) hF (by first | assumption | exact xu_self | (refine (xu_ne (by omega)).trans ?_; first | assumption | exact xu_self | (refine (xu_ne (by omega)).trans ?_; first | assumption | exact xu_self | (refine (xu_ne (by omega)).trans ?_; first | assumption | exact xu_self | (refine (xu_ne (by omega)).trans ?_; first | assumption | exact xu_self))))) rfl xu_RE 0 (by decide) xk_RE_f9 (by rfl) xd_RE_offer_14 rfl ?_
  refine xv_iload_n (pc' := 18) (i := 1) hF xd_RE_offer_17 rfl rfl rfl ?_
  first | refine xv_ialdN (pc' := 19) hF (by first | assumption | exact xu_self | (refine (xu_ne (by omega)).trans ?_; first | assumption | exact xu_self | (refine (xu_ne (by omega)).trans ?_; first | assumption | exact xu_self | (refine (xu_ne (by omega)).trans ?_; first | assumption | exact xu_self | (refine (xu_ne (by omega)).trans ?_; first | assumption | exact xu_self))))) (by omega) (by decide) xd_RE_offer_18 rfl ?_ | refine xv_iald (pc' := 19) hF (by first | assumption | exact xu_self | (refine (xu_ne (by omega)).trans ?_; first | assumption | exact xu_self | (refine (xu_ne (by omega)).trans ?_; first | assumption | exact xu_self | (refine (xu_ne (by omega)).trans ?_; first | assumption | exact xu_self | (refine (xu_ne (by omega)).trans ?_; first | assumption | exact xu_self))))) (by omega) xd_RE_offer_18 rfl ?_
  refine xv_iload (pc' := 21) hF xd_RE_offer_19 rfl rfl ?_
  refine xv_iand (pc' := 22) hF xd_RE_offer_21 rfl ?_
  have fin : w ≤ M i j → XV G 0 0 36 [(5, .int (nI 1 <<< (nI j &&& 31))), (4, .int (nI (i * 32 + j))), (0, .ref a), (1, .int (nI i)), (2, .int (nI j)), (3, .int (nI w))] [] n h := by
    intro hle
    refine xv_aload_n (pc' := 37) (i := 0) hF xd_RE_offer_36 rfl rfl rfl ?_
    refine xv_get (pc' := 40) (ci := 2) hF (by first | assumption | exact xu_self | (refine (xu_ne (by omega)).trans ?_; first | assumption | exact xu_self | (refine (xu_ne (by omega)).trans ?_; first | assumption | exact xu_self | (refine (xu_ne (by omega)).trans ?_; first | assumption | exact xu_self | (refine (xu_ne (by omega)).trans ?_; first | assumption | exact xu_self))))) rfl xu_RE 0 (by decide) xk_RE_f9 (by rfl) xd_RE_offer_37 rfl ?_
    refine xv_iload_n (pc' := 41) (i := 1) hF xd_RE_offer_40 rfl rfl rfl ?_
    refine xv_dup2 (pc' := 42) hF xd_RE_offer_41 rfl rfl rfl ?_
    first | refine xv_ialdN (pc' := 43) hF (by first | assumption | exact xu_self | (refine (xu_ne (by omega)).trans ?_; first | assumption | exact xu_self | (refine (xu_ne (by omega)).trans ?_; first | assumption | exact xu_self | (refine (xu_ne (by omega)).trans ?_; first | assumption | exact xu_self | (refine (xu_ne (by omega)).trans ?_; first | assumption | exact xu_self))))) (by omega) (by decide) xd_RE_offer_42 rfl ?_ | refine xv_iald (pc' := 43) hF (by first | assumption | exact xu_self | (refine (xu_ne (by omega)).trans ?_; first | assumption | exact xu_self | (refine (xu_ne (by omega)).trans ?_; first | assumption | exact xu_self | (refine (xu_ne (by omega)).trans ?_; first | assumption | exact xu_self | (refine (xu_ne (by omega)).trans ?_; first | assumption | exact xu_self))))) (by omega) xd_RE_offer_42 rfl ?_
    refine xv_iload (pc' := 45) hF xd_RE_offer_43 rfl rfl ?_
    refine xv_ior (pc' := 46) hF xd_RE_offer_45 rfl ?_
    refine xv_iastN (pc' := 47) hF (by first | assumption | exact xu_self | (refine (xu_ne (by omega)).trans ?_; first | assumption | exact xu_self | (refine (xu_ne (by omega)).trans ?_; first | assumption | exact xu_self | (refine (xu_ne (by omega)).trans ?_; first | assumption | exact xu_self | (refine (xu_ne (by omega)).trans ?_; first | assumption | exact xu_self))))) (by omega) (by decide) xd_RE_offer_46 rfl ?_
    refine xv_aload_n (pc' := 48) (i := 0) hF xd_RE_offer_47 rfl rfl rfl ?_
    refine xv_get (pc' := 51) (ci := 2) hF (by first | assumption | exact xu_self | (refine (xu_ne (by omega)).trans ?_; first | assumption | exact xu_self | (refine (xu_ne (by omega)).trans ?_; first | assumption | exact xu_self | (refine (xu_ne (by omega)).trans ?_; first | assumption | exact xu_self | (refine (xu_ne (by omega)).trans ?_; first | assumption | exact xu_self))))) rfl xu_RE 1 (by decide) xk_RE_f15 (by rfl) xd_RE_offer_48 rfl ?_
    refine xv_iload (pc' := 53) hF xd_RE_offer_51 rfl rfl ?_
    refine xv_iload_n (pc' := 54) (i := 3) hF xd_RE_offer_53 rfl rfl rfl ?_
    refine xv_iastN (pc' := 55) hF (by first | assumption | exact xu_self | (refine (xu_ne (by omega)).trans ?_; first | assumption | exact xu_self | (refine (xu_ne (by omega)).trans ?_; first | assumption | exact xu_self | (refine (xu_ne (by omega)).trans ?_; first | assumption | exact xu_self | (refine (xu_ne (by omega)).trans ?_; first | assumption | exact xu_self))))) (by omega) (by decide) xd_RE_offer_54 rfl ?_
    refine hR _ _ _ _ _ _ (by omega) (by omega) ?_ xd_RE_offer_55
    refine ⟨rfl, fun q h1 h2 => ?_, ?_⟩
    · rw [xu_ne h2, xu_ne h1]
    · rw [Nat.min_eq_right hle]
      exact ⟨_, _, ⟨by rw [xu_ne (by omega), xu_ne (by omega)]; exact ha, by rw [xu_ne (by omega)]; exact xu_self, xu_self⟩, re_off hM hi hj hw hle⟩
  refine xv_if_eq (pc' := 25) (tgt := 36) hF xd_RE_offer_22 (by decide) rfl (fun e => ?_) (fun e => ?_)
  · rw [bt_maskN _ hj, m1] at e
    have e : ¬ M i j < 1000000 := of_decide_eq_false e
    refine xv_loc _ ?_ (fin (by omega))
    exact ⟨rfl, rfl, rfl, rfl, rfl, rfl, trivial⟩
  · rw [bt_maskN _ hj, m1, Bool.not_eq_false] at e
    have e : M i j < 1000000 := of_decide_eq_true e
    refine xv_iload_n (pc' := 26) (i := 3) hF xd_RE_offer_25 rfl rfl rfl ?_
    refine xv_aload_n (pc' := 27) (i := 0) hF xd_RE_offer_26 rfl rfl rfl ?_
    refine xv_get (pc' := 30) (ci := 2) hF (by first | assumption | exact xu_self | (refine (xu_ne (by omega)).trans ?_; first | assumption | exact xu_self | (refine (xu_ne (by omega)).trans ?_; first | assumption | exact xu_self | (refine (xu_ne (by omega)).trans ?_; first | assumption | exact xu_self | (refine (xu_ne (by omega)).trans ?_; first | assumption | exact xu_self))))) rfl xu_RE 1 (by decide) xk_RE_f15 (by rfl) xd_RE_offer_27 rfl ?_
    refine xv_iload (pc' := 32) hF xd_RE_offer_30 rfl rfl ?_
    first | refine xv_ialdN (pc' := 33) hF (by first | assumption | exact xu_self | (refine (xu_ne (by omega)).trans ?_; first | assumption | exact xu_self | (refine (xu_ne (by omega)).trans ?_; first | assumption | exact xu_self | (refine (xu_ne (by omega)).trans ?_; first | assumption | exact xu_self | (refine (xu_ne (by omega)).trans ?_; first | assumption | exact xu_self))))) (by omega) (by decide) xd_RE_offer_32 rfl ?_ | refine xv_iald (pc' := 33) hF (by first | assumption | exact xu_self | (refine (xu_ne (by omega)).trans ?_; first | assumption | exact xu_self | (refine (xu_ne (by omega)).trans ?_; first | assumption | exact xu_self | (refine (xu_ne (by omega)).trans ?_; first | assumption | exact xu_self | (refine (xu_ne (by omega)).trans ?_; first | assumption | exact xu_self))))) (by omega) xd_RE_offer_32 rfl ?_
    refine xv_topi (m2 e) ?_
    refine xv_icmp_geN (pc' := 36) (tgt := 55) hF (by omega) (by omega) xd_RE_offer_33 (by decide) rfl (fun e2 => ?_) (fun e2 => ?_)
    · refine hR _ _ _ _ _ _ (by omega) (by omega) ?_ xd_RE_offer_55
      exact ⟨rfl, re_fr.rf, f, g, ⟨ha, hf, hg⟩, by rw [Nat.min_eq_left e2, md_set_id]; exact hM⟩
    · refine xv_loc _ ?_ (fin (by omega))
      exact ⟨rfl, rfl, rfl, rfl, rfl, rfl, trivial⟩
