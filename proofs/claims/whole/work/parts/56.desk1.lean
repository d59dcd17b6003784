/-! the orders of an expression, one after the other: height and places (bx_hk), sets (bx_ak), relations made (bx_bm) -/
def bx_hk (os : List Nat) : Nat → Nat × (Nat → Nat)
  | 0 => (0, fun _ => 0)
  | k + 1 => (bx_h (os.getD k 0 % 16) (bx_hk os k).1, bx_N (os.getD k 0 % 16) (os.getD k 0 / 16) (bx_hk os k).1 (bx_hk os k).2)
def bx_ak (E : Nat → Nat → Nat → Bool) (Tg : Nat → Nat → Bool) (os : List Nat) : Nat → Nat → pd_L
  | 0 => fun _ => pd_no
  | k + 1 => bx_A E Tg (os.getD k 0 % 16) (os.getD k 0 / 16) (bx_hk os k).1 (bx_ak E Tg os k)
def bx_bm (os : List Nat) (made : Nat) : Nat → Nat
  | 0 => made
  | k + 1 => bx_bm os made k + bx_mk (os.getD k 0 % 16) (bx_hk os k).1 (bx_bm os made k)
def bx_gd (os : List Nat) : Prop := (∀ k, k < os.length → bx_ok (os.getD k 0 % 16) (os.getD k 0 / 16) (bx_hk os k).1) ∧ (∀ k, k ≤ os.length → ∀ i, i < (bx_hk os k).1 → (bx_hk os k).2 i ≤ 2560) ∧ (bx_hk os os.length).1 = 1
theorem bx_bm_le (os : List Nat) (made : Nat) {j : Nat} : ∀ {k : Nat}, j ≤ k → bx_bm os made j ≤ bx_bm os made k
  | 0, h => by have : j = 0 := by omega
               subst this; exact Nat.le_refl _
  | k + 1, h => by
    by_cases c : j = k + 1
    · subst c; exact Nat.le_refl _
    · have := bx_bm_le os made (j := j) (k := k) (by omega)
      show _ ≤ bx_bm os made k + _
      omega
/-- the desk: its graph, what waits, its expressions and what is known of them -/
def dk_R (K : xK) (h : xH) (n o : Nat) (E : Nat → Nat → Nat → Bool) (Tg : Nat → Nat → Bool) (e : Nat) (cs : Nat → Nat) (w : Nat) (OS : Nat → List Nat) (SX : Nat → Nat) (kn : Nat → Bool) (made : Nat) : Prop :=
  h o = some (.inr (0, [.ref (o + 1), .ref (o + 4), .ref (o + 8), .ref (o + 13), .int (nI w), .ref (o + 14), .ref (o + 15), .ref (o + 16)])) ∧ gh_R K h (o + 1) E Tg e ∧ (∃ x q sx, rd_R K h o x q sx ∧ (x = o + 6 ∨ ∃ i, i < 4 ∧ x = o + 17 + 5 * i)) ∧ (∃ ht ad sp Mv, be_R K h n o ht made ad sp Mv) ∧
  (∃ f, h (o + 13) = some (.inl (K.2.2.1 0, 100, .inl f)) ∧ ∀ i, i < w → f i = nI (cs i) ∧ cs i < 256) ∧ w ≤ 100 ∧ (∃ g, h (o + 14) = some (.inl (K.2.2.1 3, 4, .inr (.inr (.inr (.inr g))))) ∧ ∀ j, j < 4 → g j = some (o + 17 + 5 * j)) ∧ (∃ g, h (o + 15) = some (.inl (K.2.2.1 4, 4, .inr (.inr (.inr (.inr g))))) ∧ ∀ j, j < 4 → g j = some (o + 19 + 5 * j)) ∧
  (∃ kf, h (o + 16) = some (.inl (K.2.2.1 1, 4, .inl kf)) ∧ ∀ j, j < 4 → kf j = xb (kn j)) ∧ (∀ j, j < 4 → ex_R K h (o + 17 + 5 * j) (OS j) (SX j) ∧ bx_gd (OS j)) ∧ ∀ j, j < 4 → ∃ M, re_R K h (o + 19 + 5 * j) M ∧ (kn j = true → pd_mn (bx_ak E Tg (OS j) (OS j).length 0) M)
/-- the cells of others stay -/
def dk_fr (o : Nat) (h h' : xH) : Prop := ∀ q, (q < o ∨ o + 37 ≤ q) → q < o + 51 → h' q = h q
theorem dk_fr.rf {o : Nat} {h : xH} : dk_fr o h h := fun _ _ _ => rfl
theorem dk_fr.tr {o : Nat} {h h1 h2 : xH} (p : dk_fr o h h1) (q : dk_fr o h1 h2) : dk_fr o h h2 := fun x a b => (q x a b).trans (p x a b)
theorem be_fr.dk {o : Nat} {h h' : xH} (p : be_fr o h h') : dk_fr o h h' := fun q a b => p q b (by omega) (by omega) (by omega) (by omega)
/-- the bench has worked: the rest stands -/
theorem ex_R.keepB {K : xK} {h h' : xH} {o x sx : Nat} {os : List Nat} (hfr : be_fr o h h') (hx : (o + 13 ≤ x ∧ x + 1 < o + 51) ∨ x + 1 < o + 8) (p : ex_R K h x os sx) : ex_R K h' x os sx := by
  obtain ⟨p0, f, ⟨h1, h2⟩, h4⟩ := p
  exact ⟨p0, f, ⟨by rw [hfr _ (by omega) (by omega) (by omega) (by omega) (by omega)]; exact h1, by rw [hfr _ (by omega) (by omega) (by omega) (by omega) (by omega)]; exact h2⟩, h4⟩
theorem re_R.keepB {K : xK} {h h' : xH} {o a : Nat} {M : Nat → Nat → Nat} (hfr : be_fr o h h') (ha : o + 13 ≤ a ∧ a + 2 < o + 51) (p : re_R K h a M) : re_R K h' a M := by
  obtain ⟨f, g, ⟨h1, h2, h3⟩, h4⟩ := p
  exact ⟨f, g, ⟨by rw [hfr _ (by omega) (by omega) (by omega) (by omega) (by omega)]; exact h1, by rw [hfr _ (by omega) (by omega) (by omega) (by omega) (by omega)]; exact h2, by rw [hfr _ (by omega) (by omega) (by omega) (by omega) (by omega)]; exact h3⟩, h4⟩
theorem rd_R.keepB {K : xK} {h h' : xH} {o x sx : Nat} {q : rs_T} (hfr : be_fr o h h') (hx : (o + 13 ≤ x ∧ x + 1 < o + 51) ∨ x + 1 < o + 8) (p : rd_R K h o x q sx) : rd_R K h' o x q sx := by
  obtain ⟨p1, ⟨f, p2, p3⟩, p4, p5⟩ := p
  exact ⟨by rw [hfr _ (by omega) (by omega) (by omega) (by omega) (by omega)]; exact p1, ⟨f, by rw [hfr _ (by omega) (by omega) (by omega) (by omega) (by omega)]; exact p2, p3⟩, p4.keepB hfr hx, p5⟩
theorem dk_R.bench {K : xK} {h h' : xH} {n n' o e w made made' : Nat} {E : Nat → Nat → Nat → Bool} {Tg : Nat → Nat → Bool} {cs : Nat → Nat} {OS : Nat → List Nat} {SX : Nat → Nat} {kn : Nat → Bool} (p : dk_R K h n o E Tg e cs w OS SX kn made) (hfr : be_fr o h h') (hb : ∃ ht ad sp Mv, be_R K h' n' o ht made' ad sp Mv) : dk_R K h' n' o E Tg e cs w OS SX kn made' := by
  obtain ⟨p1, p2, ⟨x, q, sx, p3, hx⟩, -, ⟨f, p5, p6⟩, p7, ⟨g1, p8, p9⟩, ⟨g2, pa, pb⟩, ⟨kf, pc, pd⟩, pe, pf⟩ := p
  have go : ∀ q, q < o + 51 → q ≠ o + 8 → q ≠ o + 9 → q ≠ o + 11 → q ≠ o + 12 → h' q = h q := hfr
  refine ⟨by rw [go _ (by omega) (by omega) (by omega) (by omega) (by omega)]; exact p1, p2.keepB hfr, ⟨x, q, sx, p3.keepB hfr ?_, hx⟩, hb, ⟨f, by rw [go _ (by omega) (by omega) (by omega) (by omega) (by omega)]; exact p5, p6⟩, p7, ⟨g1, by rw [go _ (by omega) (by omega) (by omega) (by omega) (by omega)]; exact p8, p9⟩, ⟨g2, by rw [go _ (by omega) (by omega) (by omega) (by omega) (by omega)]; exact pa, pb⟩, ⟨kf, by rw [go _ (by omega) (by omega) (by omega) (by omega) (by omega)]; exact pc, pd⟩, fun j hj => ⟨(pe j hj).1.keepB hfr (by omega), (pe j hj).2⟩, fun j hj => ?_⟩
  · rcases hx with hx | ⟨i, hi, hx⟩
    · exact Or.inr (by omega)
    · exact Or.inl (by omega)
  · obtain ⟨M, m1, m2⟩ := pf j hj
    exact ⟨M, m1.keepB hfr (by omega), m2⟩
/-- the relation of slot i is told anew, and known -/
theorem dk_R.known {K : xK} {h h' : xH} {n o e w made i : Nat} {E : Nat → Nat → Nat → Bool} {Tg : Nat → Nat → Bool} {cs : Nat → Nat} {OS : Nat → List Nat} {SX : Nat → Nat} {kn : Nat → Bool} {M' : Nat → Nat → Nat} {kf : Nat → Int32} (p : dk_R K h n o E Tg e cs w OS SX kn made) (hi : i < 4) (hf : ∀ q, q ≠ o + 19 + 5 * i + 1 → q ≠ o + 19 + 5 * i + 2 → q ≠ o + 16 → h' q = h q) (hr : re_R K h' (o + 19 + 5 * i) M') (hM : pd_mn (bx_ak E Tg (OS i) (OS i).length 0) M') (hk : h' (o + 16) = some (.inl (K.2.2.1 1, 4, .inl kf))) (hkf : ∀ j, j < 4 → kf j = xb (va_up kn i true j)) : dk_R K h' n o E Tg e cs w OS SX (va_up kn i true) made := by
  obtain ⟨p1, p2, ⟨x, q, sx, p3, hx⟩, ⟨ht, ad, sp, Mv, p4⟩, ⟨f, p5, p6⟩, p7, ⟨g1, p8, p9⟩, ⟨g2, pa, pb⟩, -, pe, pf⟩ := p
  have exk : ∀ {x : Nat} {os : List Nat} {sx : Nat}, (x = o + 6 ∨ ∃ j, j < 4 ∧ x = o + 17 + 5 * j) → ex_R K h x os sx → ex_R K h' x os sx := by
    rintro x os sx hx ⟨a4, g, ⟨a5, a6⟩, a7⟩
    have : x ≠ o + 19 + 5 * i + 1 ∧ x ≠ o + 19 + 5 * i + 2 ∧ x ≠ o + 16 ∧ x + 1 ≠ o + 19 + 5 * i + 1 ∧ x + 1 ≠ o + 19 + 5 * i + 2 ∧ x + 1 ≠ o + 16 := by
      rcases hx with hx | ⟨j, hj, hx⟩ <;> omega
    exact ⟨a4, g, ⟨by rw [hf _ (by omega) (by omega) (by omega)]; exact a5, by rw [hf _ (by omega) (by omega) (by omega)]; exact a6⟩, a7⟩
  have rek : ∀ {a : Nat} {M : Nat → Nat → Nat}, re_ap (o + 19 + 5 * i) a → a ≠ o + 16 → a + 1 ≠ o + 16 → a + 2 ≠ o + 16 → re_R K h a M → re_R K h' a M := by
    rintro a M ha h0 h1 h2 ⟨f, g, ⟨a1, a2, a3⟩, a4⟩
    unfold re_ap at ha
    exact ⟨f, g, ⟨by rw [hf _ (by omega) (by omega) (by omega)]; exact a1, by rw [hf _ (by omega) (by omega) (by omega)]; exact a2, by rw [hf _ (by omega) (by omega) (by omega)]; exact a3⟩, a4⟩
  have bek : ∀ {a : Nat} {M : Nat → Nat → Nat}, be_ok o n a → re_R K h a M → re_R K h' a M := by
    intro a M ha
    unfold be_ok at ha
    exact rek (by unfold re_ap; omega) (by omega) (by omega) (by omega)
  refine ⟨by rw [hf _ (by omega) (by omega) (by omega)]; exact p1, ?_, ⟨x, q, sx, ?_, hx⟩, ⟨ht, ad, sp, Mv, ?_⟩, ⟨f, by rw [hf _ (by omega) (by omega) (by omega)]; exact p5, p6⟩, p7, ⟨g1, by rw [hf _ (by omega) (by omega) (by omega)]; exact p8, p9⟩, ⟨g2, by rw [hf _ (by omega) (by omega) (by omega)]; exact pa, pb⟩, ⟨kf, hk, hkf⟩, fun j hj => ⟨exk (Or.inr ⟨j, hj, rfl⟩) (pe j hj).1, (pe j hj).2⟩, fun j hj => ?_⟩
  · obtain ⟨T, g, ⟨a1, a2, a3⟩, a4⟩ := p2
    exact ⟨T, g, ⟨by rw [hf _ (by omega) (by omega) (by omega)]; exact a1, by rw [hf _ (by omega) (by omega) (by omega)]; exact a2, by rw [hf _ (by omega) (by omega) (by omega)]; exact a3⟩, a4⟩
  · obtain ⟨a1, ⟨f, a2, a3⟩, a4, a8⟩ := p3
    exact ⟨by rw [hf _ (by omega) (by omega) (by omega)]; exact a1, ⟨f, by rw [hf _ (by omega) (by omega) (by omega)]; exact a2, a3⟩, exk hx a4, a8⟩
  · obtain ⟨⟨pl, b1, b2, b3⟩, i1, i2, i3, i4, ⟨Ms, i5⟩, i6, i7⟩ := p4
    exact ⟨⟨pl, by rw [hf _ (by omega) (by omega) (by omega)]; exact b1, by rw [hf _ (by omega) (by omega) (by omega)]; exact b2, b3⟩, i1, i2, fun j hj => ⟨(i3 j hj).1, bek (i3 j hj).1 (i3 j hj).2⟩, i4, ⟨Ms, bek i4 i5⟩, i6, i7⟩
  · by_cases c : j = i
    · subst c
      exact ⟨M', hr, fun _ => hM⟩
    · obtain ⟨M, m1, m2⟩ := pf j hj
      refine ⟨M, rek (by unfold re_ap; omega) (by omega) (by omega) (by omega) m1, fun h => m2 ?_⟩
      unfold va_up at h
      rw [if_neg c] at h
      exact h
set_option maxHeartbeats 4000000 in
set_option maxRecDepth 100000 in
theorem c_PD_relationOf (K : xK) (n : Nat) (h : xH) (o e w made i md : Nat) (E : Nat → Nat → Nat → Bool) (Tg : Nat → Nat → Bool) (cs : Nat → Nat) (OS : Nat → List Nat) (SX : Nat → Nat) (kn : Nat → Bool) (hr : dk_R K h n o E Tg e cs w OS SX kn made) (hi : i < 4) (hmd : md = if kn i then made else bx_bm (OS i) made (OS i).length) : XM K xy_PD_relationOf xw_PD_relationOf (xrm 6 125 (3 * (md - made)) (1058 * (md - made))) [.ref o, .int (nI i)] n h (x_pr fun r n' h' => r = o + 19 + 5 * i ∧ n' = n + 3 * (md - made) ∧ dk_fr o h h' ∧ dk_R K h' n' o E Tg e cs w OS SX (va_up kn i true) md ∧ ∃ M, re_R K h' (o + 19 + 5 * i) M ∧ pd_mn (bx_ak E Tg (OS i) (OS i).length 0) M) (3 * (md - made)) (1058 * (md - made)) := by
  obtain ⟨p1, p2, ⟨x, q, sx, p3, hx⟩, ⟨ht, ad, sp, Mv, p4⟩, ⟨f, p5, p6⟩, p7, ⟨g1, p8, p9⟩, ⟨g2, pa, pb⟩, ⟨kf, pc, pd⟩, pe, pf⟩ := id hr
  obtain ⟨M, pf1, pf2⟩ := pf i hi
  obtain ⟨⟨x0, xf, ⟨x1, x2⟩, x3⟩, gd1, gd2, gd3⟩ := id (pe i hi)
  refine xm_r (by decide +kernel) (Nat.le_of_ble_eq_true rfl) (fun G hF hR => ?_)
  refine xv_aload_n (pc' := 1) (i := 0) hF xd_PD_relationOf_0 rfl rfl rfl ?_
  refine xv_get (pc' := 4) (ci := 0) hF (by first | assumption | exact xu_self | (refine (xu_ne (by omega)).trans ?_; first | assumption | exact xu_self | (refine (xu_ne (by omega)).trans ?_; first | assumption | exact xu_self | (refine (xu_ne (by omega)).trans ?_; first | assumption | exact xu_self | (refine (xu_ne (by omega)).trans ?_; first | assumption | exact xu_self))))) rfl xu_PD 6 (by decide) xk_PD_f46 (by rfl) xd_PD_relationOf_1 rfl ?_
  refine xv_iload_n (pc' := 5) (i := 1) hF xd_PD_relationOf_4 rfl rfl rfl ?_
  refine xv_aaldN (pc' := 6) 4 hF (by first | assumption | exact xu_self | (refine (xu_ne (by omega)).trans ?_; first | assumption | exact xu_self | (refine (xu_ne (by omega)).trans ?_; first | assumption | exact xu_self | (refine (xu_ne (by omega)).trans ?_; first | assumption | exact xu_self | (refine (xu_ne (by omega)).trans ?_; first | assumption | exact xu_self))))) rfl (by omega) (by decide) xd_PD_relationOf_5 rfl ?_
  refine xv_top (v' := .ref (o + 19 + 5 * i)) (by rw [pb i hi]; rfl) ?_
  refine xv_astore_n (pc' := 7) (i := 2) hF xd_PD_relationOf_6 rfl (Nat.le_of_ble_eq_true rfl) rfl rfl ?_
  refine xv_aload_n (pc' := 8) (i := 0) hF xd_PD_relationOf_7 rfl rfl rfl ?_
  refine xv_get (pc' := 11) (ci := 0) hF (by first | assumption | exact xu_self | (refine (xu_ne (by omega)).trans ?_; first | assumption | exact xu_self | (refine (xu_ne (by omega)).trans ?_; first | assumption | exact xu_self | (refine (xu_ne (by omega)).trans ?_; first | assumption | exact xu_self | (refine (xu_ne (by omega)).trans ?_; first | assumption | exact xu_self))))) rfl xu_PD 7 (by decide) xk_PD_f50 (by rfl) xd_PD_relationOf_8 rfl ?_
  refine xv_iload_n (pc' := 12) (i := 1) hF xd_PD_relationOf_11 rfl rfl rfl ?_
  refine xv_zaldN (pc' := 13) hF (by first | assumption | exact xu_self | (refine (xu_ne (by omega)).trans ?_; first | assumption | exact xu_self | (refine (xu_ne (by omega)).trans ?_; first | assumption | exact xu_self | (refine (xu_ne (by omega)).trans ?_; first | assumption | exact xu_self | (refine (xu_ne (by omega)).trans ?_; first | assumption | exact xu_self))))) (by omega) (by decide) xd_PD_relationOf_12 rfl ?_
  refine xv_topi (pd i hi) ?_
  refine xv_if_neB (pc' := 16) (tgt := 88) hF xd_PD_relationOf_13 (by decide) rfl (fun ek => ?_) (fun ek => ?_)
  · rw [ek] at hmd
    simp only [if_true] at hmd
    subst hmd
    refine xv_aload_n (pc' := 89) (i := 2) hF xd_PD_relationOf_88 rfl rfl rfl ?_
    refine hR _ _ _ _ _ _ _ (by omega) (by omega) ?_ xd_PD_relationOf_89
    refine ⟨rfl, by omega, dk_fr.rf, ?_, M, pf1, pf2 ek⟩
    have e1 : va_up kn i true = kn := by rw [← ek]; exact va_up_same _ _
    rw [e1]
    exact hr
  · rw [ek] at hmd
    simp only [Bool.false_eq_true, if_false] at hmd
    obtain ⟨os, eos⟩ : ∃ os, os = OS i := ⟨_, rfl⟩
    rw [← eos] at hmd x0 x1 x3 gd1 gd2 gd3
    obtain ⟨⟨bpl, be1, be2, be3⟩, -⟩ := id p4
    refine xv_aload_n (pc' := 17) (i := 0) hF xd_PD_relationOf_16 rfl rfl rfl ?_
    refine xv_get (pc' := 20) (ci := 0) hF (by first | assumption | exact xu_self | (refine (xu_ne (by omega)).trans ?_; first | assumption | exact xu_self | (refine (xu_ne (by omega)).trans ?_; first | assumption | exact xu_self | (refine (xu_ne (by omega)).trans ?_; first | assumption | exact xu_self | (refine (xu_ne (by omega)).trans ?_; first | assumption | exact xu_self))))) rfl xu_PD 5 (by decide) xk_PD_f40 (by rfl) xd_PD_relationOf_17 rfl ?_
    refine xv_iload_n (pc' := 21) (i := 1) hF xd_PD_relationOf_20 rfl rfl rfl ?_
    refine xv_aaldN (pc' := 22) 3 hF (by first | assumption | exact xu_self | (refine (xu_ne (by omega)).trans ?_; first | assumption | exact xu_self | (refine (xu_ne (by omega)).trans ?_; first | assumption | exact xu_self | (refine (xu_ne (by omega)).trans ?_; first | assumption | exact xu_self | (refine (xu_ne (by omega)).trans ?_; first | assumption | exact xu_self))))) rfl (by omega) (by decide) xd_PD_relationOf_21 rfl ?_
    refine xv_top (v' := .ref (o + 17 + 5 * i)) (by rw [p9 i hi]; rfl) ?_
    refine xv_astore_n (pc' := 23) (i := 3) hF xd_PD_relationOf_22 rfl (Nat.le_of_ble_eq_true rfl) rfl rfl ?_
    refine xv_aload_n (pc' := 24) (i := 0) hF xd_PD_relationOf_23 rfl rfl rfl ?_
    refine xv_get (pc' := 27) (ci := 0) hF (by first | assumption | exact xu_self | (refine (xu_ne (by omega)).trans ?_; first | assumption | exact xu_self | (refine (xu_ne (by omega)).trans ?_; first | assumption | exact xu_self | (refine (xu_ne (by omega)).trans ?_; first | assumption | exact xu_self | (refine (xu_ne (by omega)).trans ?_; first | assumption | exact xu_self))))) rfl xu_PD 2 (by decide) xk_PD_f26 (by rfl) xd_PD_relationOf_24 rfl ?_
    refine xv_callVv (pc' := 30) (ci := 5) hF (c_BE_clear K n h o ht made ad sp Mv p4) xq_BE_clear xk_PD_m157 xk_i_BE_clear xk_s_BE_clear (by first | assumption | exact xu_self | (refine (xu_ne (by omega)).trans ?_; first | assumption | exact xu_self | (refine (xu_ne (by omega)).trans ?_; first | assumption | exact xu_self | (refine (xu_ne (by omega)).trans ?_; first | assumption | exact xu_self | (refine (xu_ne (by omega)).trans ?_; first | assumption | exact xu_self))))) rfl ⟨(Nat.le_of_ble_eq_true rfl), (Nat.le_of_ble_eq_true rfl)⟩ rfl rfl (Nat.le_of_ble_eq_true rfl) ⟨(by exact Nat.zero_le _), (by exact Nat.zero_le _)⟩ xd_PD_relationOf_27 rfl (fun n1 h1 w1 => ?_)
    obtain ⟨rfl, fr1, r1⟩ := w1
    refine xv_iconstN (pc' := 31) 0 hF xd_PD_relationOf_30 (by decide +kernel) rfl ?_
    refine xv_istore (pc' := 33) hF xd_PD_relationOf_31 (Nat.le_of_ble_eq_true rfl) rfl rfl ?_
    have loop : ∀ d k h2, os.length - k = d → k ≤ os.length → be_fr o h h2 → be_S K h2 (n + 3 * (bx_bm os made k - made)) o (bx_hk os k).1 (bx_bm os made k) (bx_ak E Tg os k) (bx_hk os k).2 → XV G (3 * (bx_bm os made k - made)) (1058 * (bx_bm os made k - made)) 33 [(4, .int (nI k)), (3, .ref (o + 17 + 5 * i)), (2, .ref (o + 19 + 5 * i)), (0, .ref o), (1, .int (nI i))] [] (n + 3 * (bx_bm os made k - made)) h2 := by
      intro d
      induction d using Nat.strongRecOn with
      | ind d ih =>
        intro k h2 hd hk hfr hS
        have m1 := bx_bm_le os made (j := 0) (k := k) (by omega)
        have m2 := bx_bm_le os made (j := k) (k := os.length) hk
        rw [← hmd] at m2
        have m1 : made ≤ bx_bm os made k := m1
        have dk2 : dk_R K h2 (n + 3 * (bx_bm os made k - made)) o E Tg e cs w OS SX kn (bx_bm os made k) := by
          obtain ⟨-, -, ad2, sp2, Mv2, hb2, -⟩ := hS
          exact hr.bench hfr ⟨_, ad2, sp2, Mv2, hb2⟩
        obtain ⟨d1, dg, -, -, -, -, -, -, ⟨dkf, dk1, dk3⟩, de, df⟩ := id dk2
        obtain ⟨⟨dx0, dxf, ⟨dx1, dx2⟩, dx3⟩, -⟩ := id (de i hi)
        rw [← eos] at dx1 dx3
        obtain ⟨-, -, ad2, sp2, Mv2, hb2, hM2⟩ := id hS
        obtain ⟨⟨bpl2, b1, b2, b3⟩, -⟩ := id hb2
        obtain ⟨gT, gg, ⟨g1', g2', g3'⟩, g4'⟩ := id dg
        refine xv_iload (pc' := 35) hF xd_PD_relationOf_33 rfl rfl ?_
        refine xv_aload_n (pc' := 36) (i := 3) hF xd_PD_relationOf_35 rfl rfl rfl ?_
        refine xv_getN (pc' := 39) (ci := 3) hF (by first | assumption | exact xu_self | (refine (xu_ne (by omega)).trans ?_; first | assumption | exact xu_self | (refine (xu_ne (by omega)).trans ?_; first | assumption | exact xu_self | (refine (xu_ne (by omega)).trans ?_; first | assumption | exact xu_self | (refine (xu_ne (by omega)).trans ?_; first | assumption | exact xu_self))))) rfl xu_EX 1 (by decide) xk_PD_f160 (by rfl) xd_PD_relationOf_36 rfl ?_
        refine xv_icmp_geN (pc' := 42) (tgt := 66) hF (by omega) (by omega) xd_PD_relationOf_39 (by decide) rfl (fun e1 => ?_) (fun e1 => ?_)
        · have : k = os.length := by omega
          subst this
          rw [← hmd] at hb2 dk2
          have hN0 : n + 3 * (bx_bm os made os.length - made) = n + 3 * (md - made) := by rw [hmd]
          rw [hN0]
          obtain ⟨Mo, df1, -⟩ := df i hi
          obtain ⟨rf, rg, ⟨ra, rb, rc⟩, rd⟩ := id df1
          have apT : ∀ j, j < md → re_ap (o + 19 + 5 * i) (ad2 j) := by
            intro j hj
            have := (hb2.2.2.2.1 j hj).1
            unfold be_ok at this
            unfold re_ap
            omega
          have hht : (bx_hk os os.length).1 = 1 := gd3
          rw [hht] at hb2 hM2 b1
          have hmd1 : 1 ≤ md := by
            have := hS.1
            rw [hht, ← hmd] at this
            exact this
          refine xv_aload_n (pc' := 67) (i := 2) hF xd_PD_relationOf_66 rfl rfl rfl ?_
          refine xv_callVv (pc' := 70) (ci := 2) hF (c_RE_clear K _ h2 (o + 19 + 5 * i) Mo df1) xq_RE_clear xk_PD_m170 xk_i_RE_clear xk_s_RE_clear (by first | assumption | exact xu_self | (refine (xu_ne (by omega)).trans ?_; first | assumption | exact xu_self | (refine (xu_ne (by omega)).trans ?_; first | assumption | exact xu_self | (refine (xu_ne (by omega)).trans ?_; first | assumption | exact xu_self | (refine (xu_ne (by omega)).trans ?_; first | assumption | exact xu_self))))) rfl ⟨(Nat.le_of_ble_eq_true rfl), (Nat.le_of_ble_eq_true rfl)⟩ rfl rfl (Nat.le_of_ble_eq_true rfl) ⟨(by first | (show 3 * (bx_bm os made os.length - made) + 0 ≤ 3 * (md - made); omega) | (show 1058 * (bx_bm os made os.length - made) + 0 ≤ 1058 * (md - made); omega)), (by first | (show 3 * (bx_bm os made os.length - made) + 0 ≤ 3 * (md - made); omega) | (show 1058 * (bx_bm os made os.length - made) + 0 ≤ 1058 * (md - made); omega))⟩ xd_PD_relationOf_67 rfl (fun n3 h3 w3 => ?_)
          obtain ⟨rfl, fr3, r3⟩ := w3
          have d1' : h3 o = _ := (fr3 o (by omega) (by omega)).trans d1
          have hb3 : be_R K h3 (n + 3 * (md - made)) o 1 md ad2 sp2 Mv2 := by
            obtain ⟨⟨pl, c1, c2, c3⟩, i1, i2, i3, i4, ⟨Ms, i5⟩, i6, i7⟩ := hb2
            have keep : ∀ {a : Nat} {M : Nat → Nat → Nat}, be_ok o (n + 3 * (md - made)) a → re_R K h2 a M → re_R K h3 a M := by
              intro a M ha p
              refine p.keep fr3 ?_
              unfold be_ok at ha
              unfold re_ap
              omega
            exact ⟨⟨pl, (fr3 _ (by omega) (by omega)).trans c1, (fr3 _ (by omega) (by omega)).trans c2, c3⟩, i1, i2, fun j hj => ⟨(i3 j hj).1, keep (i3 j hj).1 (i3 j hj).2⟩, i4, ⟨Ms, keep i4 i5⟩, i6, i7⟩
          clear b1 b2 b3
          obtain ⟨⟨bpl2, b1, b2, b3⟩, -⟩ := id hb3
          refine xv_aload_n (pc' := 71) (i := 2) hF xd_PD_relationOf_70 rfl rfl rfl ?_
          refine xv_aload_n (pc' := 72) (i := 0) hF xd_PD_relationOf_71 rfl rfl rfl ?_
          refine xv_get (pc' := 75) (ci := 0) hF (by first | assumption | exact xu_self | (refine (xu_ne (by omega)).trans ?_; first | assumption | exact xu_self | (refine (xu_ne (by omega)).trans ?_; first | assumption | exact xu_self | (refine (xu_ne (by omega)).trans ?_; first | assumption | exact xu_self | (refine (xu_ne (by omega)).trans ?_; first | assumption | exact xu_self))))) rfl xu_PD 2 (by decide) xk_PD_f26 (by rfl) xd_PD_relationOf_72 rfl ?_
          refine xv_callVr (pc' := 78) (ci := 5) hF (c_BE_top K _ h3 o 1 md ad2 sp2 Mv2 hb3 (Nat.le_refl _) hmd1) xq_BE_top xk_PD_m171 xk_i_BE_top xk_s_BE_top (by first | assumption | exact xu_self | (refine (xu_ne (by omega)).trans ?_; first | assumption | exact xu_self | (refine (xu_ne (by omega)).trans ?_; first | assumption | exact xu_self | (refine (xu_ne (by omega)).trans ?_; first | assumption | exact xu_self | (refine (xu_ne (by omega)).trans ?_; first | assumption | exact xu_self))))) rfl ⟨(Nat.le_of_ble_eq_true rfl), (Nat.le_of_ble_eq_true rfl)⟩ rfl rfl (Nat.le_of_ble_eq_true rfl) ⟨(by first | (show 3 * (bx_bm os made os.length - made) + 0 + 0 ≤ 3 * (md - made); omega) | (show 1058 * (bx_bm os made os.length - made) + 0 + 0 ≤ 1058 * (md - made); omega)), (by first | (show 3 * (bx_bm os made os.length - made) + 0 + 0 ≤ 3 * (md - made); omega) | (show 1058 * (bx_bm os made os.length - made) + 0 + 0 ≤ 1058 * (md - made); omega))⟩ xd_PD_relationOf_75 rfl (fun r n4 h4 w4 => ?_)
          obtain ⟨rfl, rfl, rfl⟩ := w4
          clear ra rb rc
          obtain ⟨rf, rg, ⟨ra, rb, rc⟩, rd⟩ := id r3
          refine xv_top (v' := .ref (ad2 0)) rfl ?_
          refine xv_callVv (pc' := 81) (ci := 2) hF (c_RE_addAll K _ h3 (o + 19 + 5 * i) (ad2 0) md_no _ r3 (hb3.2.2.2.1 0 (by omega)).2 (apT 0 (by omega))) xq_RE_addAll xk_PD_m175 xk_i_RE_addAll xk_s_RE_addAll (by first | assumption | exact xu_self | (refine (xu_ne (by omega)).trans ?_; first | assumption | exact xu_self | (refine (xu_ne (by omega)).trans ?_; first | assumption | exact xu_self | (refine (xu_ne (by omega)).trans ?_; first | assumption | exact xu_self | (refine (xu_ne (by omega)).trans ?_; first | assumption | exact xu_self))))) rfl ⟨(Nat.le_of_ble_eq_true rfl), (Nat.le_of_ble_eq_true rfl)⟩ rfl rfl (Nat.le_of_ble_eq_true rfl) ⟨(by first | (show 3 * (bx_bm os made os.length - made) + 0 + 0 + 0 ≤ 3 * (md - made); omega) | (show 1058 * (bx_bm os made os.length - made) + 0 + 0 + 0 ≤ 1058 * (md - made); omega)), (by first | (show 3 * (bx_bm os made os.length - made) + 0 + 0 + 0 ≤ 3 * (md - made); omega) | (show 1058 * (bx_bm os made os.length - made) + 0 + 0 + 0 ≤ 1058 * (md - made); omega))⟩ xd_PD_relationOf_78 rfl (fun n5 h5 w5 => ?_)
          obtain ⟨rfl, fr5, r5⟩ := w5
          have fr35 := fr3.tr fr5
          have d1'' : h5 o = _ := (fr35 o (by omega) (by omega)).trans d1
          have dk1'' := (fr35 (o + 16) (by omega) (by omega)).trans dk1
          have hpm : pd_mn (bx_ak E Tg os os.length 0) (md_mi md_no (Mv2 0) 32) := by
            have := mn_mi mn_no (hM2 0 (by omega))
            rw [pd_no_or] at this
            exact this
          refine xv_aload_n (pc' := 82) (i := 0) hF xd_PD_relationOf_81 rfl rfl rfl ?_
          refine xv_get (pc' := 85) (ci := 0) hF (by first | assumption | exact xu_self | (refine (xu_ne (by omega)).trans ?_; first | assumption | exact xu_self | (refine (xu_ne (by omega)).trans ?_; first | assumption | exact xu_self | (refine (xu_ne (by omega)).trans ?_; first | assumption | exact xu_self | (refine (xu_ne (by omega)).trans ?_; first | assumption | exact xu_self))))) rfl xu_PD 7 (by decide) xk_PD_f50 (by rfl) xd_PD_relationOf_82 rfl ?_
          refine xv_iload_n (pc' := 86) (i := 1) hF xd_PD_relationOf_85 rfl rfl rfl ?_
          refine xv_iconstN (pc' := 87) 1 hF xd_PD_relationOf_86 (by decide +kernel) rfl ?_
          refine xv_zastN (pc' := 88) hF (by first | assumption | exact xu_self | (refine (xu_ne (by omega)).trans ?_; first | assumption | exact xu_self | (refine (xu_ne (by omega)).trans ?_; first | assumption | exact xu_self | (refine (xu_ne (by omega)).trans ?_; first | assumption | exact xu_self | (refine (xu_ne (by omega)).trans ?_; first | assumption | exact xu_self))))) (by omega) (by decide) xd_PD_relationOf_87 rfl ?_
          refine xv_aload_n (pc' := 89) (i := 2) hF xd_PD_relationOf_88 rfl rfl rfl ?_
          refine hR _ _ _ _ _ _ _ (by omega) (by omega) ?_ xd_PD_relationOf_89
          have hk1 : vp_nar .boolean (nI 1) = xb true := by decide +kernel
          have hf6 : ∀ q, q ≠ o + 19 + 5 * i + 1 → q ≠ o + 19 + 5 * i + 2 → q ≠ o + 16 → (xu h5 (o + 16) (.inl (K.2.2.1 1, 4, .inl (upd dkf i (vp_nar .boolean (nI 1)))))) q = h2 q := fun q a1 a2 a3 => by rw [xu_ne a3]; exact fr35 q a1 a2
          have r6 : re_R K (xu h5 (o + 16) (.inl (K.2.2.1 1, 4, .inl (upd dkf i (vp_nar .boolean (nI 1)))))) (o + 19 + 5 * i) (md_mi md_no (Mv2 0) 32) := by
            obtain ⟨f, g, ⟨a1, a2, a3⟩, a4⟩ := r5
            exact ⟨f, g, ⟨by rw [xu_ne (by omega)]; exact a1, by rw [xu_ne (by omega)]; exact a2, by rw [xu_ne (by omega)]; exact a3⟩, a4⟩
          refine ⟨rfl, rfl, fun q a b => ?_, dk2.known hi hf6 r6 (by rw [← eos]; exact hpm) xu_self (fun j hj => ?_), _, r6, by rw [← eos]; exact hpm⟩
          · rw [hf6 q (by omega) (by omega) (by omega)]
            exact hfr.dk q a b
          · unfold va_up
            by_cases c : j = i
            · subst c; rw [pk_us, if_pos rfl, hk1]
            · rw [pk_un c, if_neg c]; exact dk3 j hj
        · refine xv_aload_n (pc' := 43) (i := 0) hF xd_PD_relationOf_42 rfl rfl rfl ?_
          refine xv_get (pc' := 46) (ci := 0) hF (by first | assumption | exact xu_self | (refine (xu_ne (by omega)).trans ?_; first | assumption | exact xu_self | (refine (xu_ne (by omega)).trans ?_; first | assumption | exact xu_self | (refine (xu_ne (by omega)).trans ?_; first | assumption | exact xu_self | (refine (xu_ne (by omega)).trans ?_; first | assumption | exact xu_self))))) rfl xu_PD 2 (by decide) xk_PD_f26 (by rfl) xd_PD_relationOf_43 rfl ?_
          refine xv_aload_n (pc' := 47) (i := 3) hF xd_PD_relationOf_46 rfl rfl rfl ?_
          refine xv_getN (pc' := 50) (ci := 3) hF (by first | assumption | exact xu_self | (refine (xu_ne (by omega)).trans ?_; first | assumption | exact xu_self | (refine (xu_ne (by omega)).trans ?_; first | assumption | exact xu_self | (refine (xu_ne (by omega)).trans ?_; first | assumption | exact xu_self | (refine (xu_ne (by omega)).trans ?_; first | assumption | exact xu_self))))) rfl xu_EX 0 (by decide) xk_PD_f163 (by rfl) xd_PD_relationOf_47 rfl ?_
          refine xv_iload (pc' := 52) hF xd_PD_relationOf_50 rfl rfl ?_
          first | refine xv_ialdN (pc' := 53) hF (by first | assumption | exact xu_self | (refine (xu_ne (by omega)).trans ?_; first | assumption | exact xu_self | (refine (xu_ne (by omega)).trans ?_; first | assumption | exact xu_self | (refine (xu_ne (by omega)).trans ?_; first | assumption | exact xu_self | (refine (xu_ne (by omega)).trans ?_; first | assumption | exact xu_self))))) (by omega) (by decide) xd_PD_relationOf_52 rfl ?_ | refine xv_iald (pc' := 53) hF (by first | assumption | exact xu_self | (refine (xu_ne (by omega)).trans ?_; first | assumption | exact xu_self | (refine (xu_ne (by omega)).trans ?_; first | assumption | exact xu_self | (refine (xu_ne (by omega)).trans ?_; first | assumption | exact xu_self | (refine (xu_ne (by omega)).trans ?_; first | assumption | exact xu_self))))) (by omega) xd_PD_relationOf_52 rfl ?_
          refine xv_topi (v' := nI (os.getD k 0 % 16 + 16 * (os.getD k 0 / 16))) ((dx3 k e1).trans (by congr 1; omega)) ?_
          refine xv_aload_n (pc' := 54) (i := 0) hF xd_PD_relationOf_53 rfl rfl rfl ?_
          refine xv_get (pc' := 57) (ci := 0) hF (by first | assumption | exact xu_self | (refine (xu_ne (by omega)).trans ?_; first | assumption | exact xu_self | (refine (xu_ne (by omega)).trans ?_; first | assumption | exact xu_self | (refine (xu_ne (by omega)).trans ?_; first | assumption | exact xu_self | (refine (xu_ne (by omega)).trans ?_; first | assumption | exact xu_self))))) rfl xu_PD 0 (by decide) xk_PD_f12 (by rfl) xd_PD_relationOf_54 rfl ?_
          have okk := gd1 k e1
          have hbm : bx_bm os made (k + 1) = bx_bm os made k + bx_mk (os.getD k 0 % 16) (bx_hk os k).1 (bx_bm os made k) := rfl
          have m3 := bx_bm_le os made (j := k + 1) (k := os.length) (by omega)
          rw [← hmd, hbm] at m3
          refine xv_callVv (pc' := 60) (ci := 5) hF (c_BE_carryOut K _ h2 o _ _ (os.getD k 0 % 16) (os.getD k 0 / 16) e _ _ E Tg hS dg okk (gd2 (k + 1) (by omega))) xq_BE_carryOut xk_PD_m166 xk_i_BE_carryOut xk_s_BE_carryOut (by first | assumption | exact xu_self | (refine (xu_ne (by omega)).trans ?_; first | assumption | exact xu_self | (refine (xu_ne (by omega)).trans ?_; first | assumption | exact xu_self | (refine (xu_ne (by omega)).trans ?_; first | assumption | exact xu_self | (refine (xu_ne (by omega)).trans ?_; first | assumption | exact xu_self))))) rfl ⟨(Nat.le_of_ble_eq_true rfl), (Nat.le_of_ble_eq_true rfl)⟩ rfl rfl (Nat.le_of_ble_eq_true rfl) ⟨(by first | (show 3 * (bx_bm os made k - made) + 3 * bx_mk (os.getD k 0 % 16) (bx_hk os k).1 (bx_bm os made k) ≤ 3 * (md - made); omega) | (show 1058 * (bx_bm os made k - made) + 1058 * bx_mk (os.getD k 0 % 16) (bx_hk os k).1 (bx_bm os made k) ≤ 1058 * (md - made); omega)), (by first | (show 3 * (bx_bm os made k - made) + 3 * bx_mk (os.getD k 0 % 16) (bx_hk os k).1 (bx_bm os made k) ≤ 3 * (md - made); omega) | (show 1058 * (bx_bm os made k - made) + 1058 * bx_mk (os.getD k 0 % 16) (bx_hk os k).1 (bx_bm os made k) ≤ 1058 * (md - made); omega))⟩ xd_PD_relationOf_57 rfl (fun n3 h3 w3 => ?_)
          obtain ⟨e3, fr3, s3⟩ := w3
          have e4 : n3 = n + 3 * (bx_bm os made (k + 1) - made) := by rw [e3, hbm]; omega
          subst e4
          first | refine xv_iincN (pc' := 63) hF xd_PD_relationOf_60 rfl rfl (Nat.le_of_ble_eq_true rfl) rfl rfl ?_ | refine xv_iinc (pc' := 63) hF xd_PD_relationOf_60 rfl rfl (Nat.le_of_ble_eq_true rfl) rfl rfl ?_
          refine xv_goto (tgt := 33) hF xd_PD_relationOf_63 (by decide) ?_
          exact xv_loc _ (by repeat (first | exact trivial | refine ⟨rfl, ?_⟩)) (xv_room (by rw [hbm]; omega) (by rw [hbm]; omega) (ih _ (by omega) (k + 1) h3 rfl (by omega) (hfr.tr fr3) s3))
    have s0 : be_S K h1 n o 0 made (fun _ => pd_no) (fun _ => 0) := ⟨Nat.zero_le _, fun i hi => absurd hi (Nat.not_lt_zero _), ad, sp, Mv, r1, fun i hi => absurd hi (Nat.not_lt_zero _)⟩
    have l0 := loop os.length 0 h1 (by omega) (by omega) fr1 (by show be_S K h1 (n + 3 * (made - made)) o 0 made _ _; rw [Nat.sub_self]; exact s0)
    have e0 : bx_bm os made 0 - made = 0 := Nat.sub_self _
    rw [e0] at l0
    exact xv_loc _ (by repeat (first | exact trivial | refine ⟨rfl, ?_⟩)) l0
