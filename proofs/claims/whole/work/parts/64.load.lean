/-! PathDesk.load in range -/
def ld_end (cs : Nat → Nat) (w : Nat) (q0 : rs_T) (r : Int32) (os : List Nat) (sx : Nat) : Prop :=
  (∃ k q, k < w ∧ rp_run cs q0 k = some q ∧ rp_step (cs k) q = none ∧ r = nI (1 + k) ∧ os = [1] ∧ sx = 0) ∨ (∃ q, rp_run cs q0 w = some q ∧ (q.1 ≠ 0 ∨ 0 < q.2.1) ∧ r = nI (1 + w) ∧ os = [1] ∧ sx = 0) ∨
  (∃ q, rp_run cs q0 w = some q ∧ q.1 = 0 ∧ q.2.1 = 0 ∧ 80 < (rp_ew q).2.2.2.2.2.2.1 0 ∧ r = -2 ∧ os = [1] ∧ sx = 0) ∨
  ∃ q, rp_run cs q0 w = some q ∧ q.1 = 0 ∧ q.2.1 = 0 ∧ (rp_ew q).2.2.2.2.2.2.1 0 ≤ 80 ∧ r = nI 0 ∧ os = (rp_ew q).2.2.2.2.2.2.2 ∧ sx = (rp_ew q).2.2.2.2.2.2.1 0
theorem dk_R.loaded {K : xK} {h h' : xH} {n o e w i made : Nat} {E : Nat → Nat → Nat → Bool} {Tg : Nat → Nat → Bool} {cs : Nat → Nat} {OS : Nat → List Nat} {SX : Nat → Nat} {kn : Nat → Bool} {kf' : Nat → Int32} {os' : List Nat} {sx' : Nat} {q' : rs_T} (p : dk_R K h n o E Tg e cs w OS SX kn made) (hi : i < 4) (hf : ∀ q, q ≠ o → q ≠ o + 4 → q ≠ o + 5 → q ≠ o + 16 → q ≠ o + 17 + 5 * i → q ≠ o + 17 + 5 * i + 1 → h' q = h q) (ho : h' o = some (.inr (0, [.ref (o + 1), .ref (o + 4), .ref (o + 8), .ref (o + 13), .int (nI 0), .ref (o + 14), .ref (o + 15), .ref (o + 16)]))) (hrd : rd_R K h' o (o + 17 + 5 * i) q' sx') (hk : h' (o + 16) = some (.inl (K.2.2.1 1, 4, .inl kf'))) (hkf : ∀ j, j < 4 → kf' j = xb (va_up kn i false j)) (hx : ex_R K h' (o + 17 + 5 * i) os' sx') (hgd : bx_gd os') : dk_R K h' n o E Tg e cs 0 (va_up OS i os') (va_up SX i sx') (va_up kn i false) made := by
  obtain ⟨p1, p2, -, ⟨ht, ad, sp, Mv, p4⟩, ⟨f, p5, p6⟩, p7, ⟨g1, p8, p9⟩, ⟨g2, pa, pb⟩, ⟨kf, pc, pd⟩, pe, pf⟩ := p
  have re : ∀ {a : Nat} {M : Nat → Nat → Nat}, (o + 6 ≤ a ∧ a + 2 < o + 16) ∨ (∃ j, j < 4 ∧ a = o + 19 + 5 * j) ∨ o + 38 ≤ a → re_R K h a M → re_R K h' a M := by
    rintro a M ha ⟨f, g, ⟨a1, a2, a3⟩, a4⟩
    have : a ≠ o ∧ a ≠ o + 4 ∧ a ≠ o + 5 ∧ a ≠ o + 16 ∧ a ≠ o + 17 + 5 * i ∧ a ≠ o + 17 + 5 * i + 1 ∧ a + 1 ≠ o + 16 ∧ a + 1 ≠ o + 17 + 5 * i ∧ a + 1 ≠ o + 17 + 5 * i + 1 ∧ a + 2 ≠ o + 16 ∧ a + 2 ≠ o + 17 + 5 * i ∧ a + 2 ≠ o + 17 + 5 * i + 1 ∧ o + 6 ≤ a := by
      rcases ha with ha | ⟨j, hj, ha⟩ | ha <;> omega
    exact ⟨f, g, ⟨by rw [hf _ (by omega) (by omega) (by omega) (by omega) (by omega) (by omega)]; exact a1, by rw [hf _ (by omega) (by omega) (by omega) (by omega) (by omega) (by omega)]; exact a2, by rw [hf _ (by omega) (by omega) (by omega) (by omega) (by omega) (by omega)]; exact a3⟩, a4⟩
  refine ⟨ho, ?_, ⟨_, _, _, hrd, Or.inr ⟨i, hi, rfl⟩⟩, ⟨ht, ad, sp, Mv, ?_⟩, ⟨f, by rw [hf _ (by omega) (by omega) (by omega) (by omega) (by omega) (by omega)]; exact p5, fun j hj => absurd hj (Nat.not_lt_zero _)⟩, Nat.zero_le _, ⟨g1, by rw [hf _ (by omega) (by omega) (by omega) (by omega) (by omega) (by omega)]; exact p8, p9⟩, ⟨g2, by rw [hf _ (by omega) (by omega) (by omega) (by omega) (by omega) (by omega)]; exact pa, pb⟩, ⟨kf', hk, hkf⟩, fun j hj => ?_, fun j hj => ?_⟩
  · obtain ⟨T, g, ⟨a1, a2, a3⟩, a4⟩ := p2
    exact ⟨T, g, ⟨by rw [hf _ (by omega) (by omega) (by omega) (by omega) (by omega) (by omega)]; exact a1, by rw [hf _ (by omega) (by omega) (by omega) (by omega) (by omega) (by omega)]; exact a2, by rw [hf _ (by omega) (by omega) (by omega) (by omega) (by omega) (by omega)]; exact a3⟩, a4⟩
  · obtain ⟨⟨pl, b1, b2, b3⟩, i1, i2, i3, i4, ⟨Ms, i5⟩, i6, i7⟩ := p4
    have bek : ∀ {a : Nat} {M : Nat → Nat → Nat}, be_ok o n a → re_R K h a M → re_R K h' a M := by
      intro a M ha
      unfold be_ok at ha
      exact re (by omega)
    exact ⟨⟨pl, by rw [hf _ (by omega) (by omega) (by omega) (by omega) (by omega) (by omega)]; exact b1, by rw [hf _ (by omega) (by omega) (by omega) (by omega) (by omega) (by omega)]; exact b2, b3⟩, i1, i2, fun j hj => ⟨(i3 j hj).1, bek (i3 j hj).1 (i3 j hj).2⟩, i4, ⟨Ms, bek i4 i5⟩, i6, i7⟩
  · by_cases c : j = i
    · subst c; rw [va_s, va_s]; exact ⟨hx, hgd⟩
    · rw [va_n c, va_n c]
      obtain ⟨⟨a4, g, ⟨a5, a6⟩, a7⟩, a8⟩ := pe j hj
      exact ⟨⟨a4, g, ⟨by rw [hf _ (by omega) (by omega) (by omega) (by omega) (by omega) (by omega)]; exact a5, by rw [hf _ (by omega) (by omega) (by omega) (by omega) (by omega) (by omega)]; exact a6⟩, a7⟩, a8⟩
  · obtain ⟨M, m1, m2⟩ := pf j hj
    refine ⟨M, re (Or.inr (Or.inl ⟨j, hj, rfl⟩)) m1, fun h => ?_⟩
    by_cases c : j = i
    · subst c; rw [va_s] at h; cases h
    · rw [va_n c] at h ⊢; exact m2 h
set_option maxHeartbeats 4000000 in
set_option maxRecDepth 100000 in
theorem c_PD_load (K : xK) (n : Nat) (h : xH) (o e w made i : Nat) (E : Nat → Nat → Nat → Bool) (Tg : Nat → Nat → Bool) (cs : Nat → Nat) (OS : Nat → List Nat) (SX : Nat → Nat) (kn : Nat → Bool) (hr : dk_R K h n o E Tg e cs w OS SX kn made) (hi : i < 4) : XM K xy_PD_load xw_PD_load (xrm 6 133 0 0) [.ref o, .int (nI i)] n h (x_pi fun r n' h' => n = n' ∧ dk_fr o h h' ∧ ∃ rs le mo en os' sx', le ≤ 9 ∧ mo ≤ 9 ∧ ld_end cs w (rp_0 rs le mo en) r os' sx' ∧ dk_R K h' n o E Tg e cs 0 (va_up OS i os') (va_up SX i sx') (va_up kn i false) made) 0 0 := by
  obtain ⟨p1, p2, ⟨x, q, sx, p3, hx⟩, -, ⟨f, p5, p6⟩, p7, ⟨g1, p8, p9⟩, -, ⟨kf, pc, pd⟩, pe, pf⟩ := id hr
  have pe := (pe i hi).1
  obtain ⟨-, -, -, -, -, -, -, b4, b5, -⟩ := id p3
  refine xm_i (by decide +kernel) (Nat.le_of_ble_eq_true rfl) (fun G hF hR => ?_)
  refine xv_iload_n (pc' := 1) (i := 1) hF xd_PD_load_0 rfl rfl rfl ?_
  refine xv_callSv (pc' := 4) hF (c_PD_needSlot K n h i hi) xq_PD_needSlot xk_PD_m93 xk_t_PD_needSlot ⟨(Nat.le_of_ble_eq_true rfl), (Nat.le_of_ble_eq_true rfl)⟩ rfl rfl (Nat.le_of_ble_eq_true rfl) ⟨(Nat.le_of_ble_eq_true rfl), (Nat.le_of_ble_eq_true rfl)⟩ xd_PD_load_1 rfl (fun n1 h1 q1 => ?_)
  obtain ⟨rfl, rfl⟩ := q1
  refine xv_aload_n (pc' := 5) (i := 0) hF xd_PD_load_4 rfl rfl rfl ?_
  refine xv_get (pc' := 8) (ci := 0) hF (by first | assumption | exact xu_self | (refine (xu_ne (by omega)).trans ?_; first | assumption | exact xu_self | (refine (xu_ne (by omega)).trans ?_; first | assumption | exact xu_self | (refine (xu_ne (by omega)).trans ?_; first | assumption | exact xu_self | (refine (xu_ne (by omega)).trans ?_; first | assumption | exact xu_self))))) rfl xu_PD 5 (by decide) xk_PD_f40 (by rfl) xd_PD_load_5 rfl ?_
  refine xv_iload_n (pc' := 9) (i := 1) hF xd_PD_load_8 rfl rfl rfl ?_
  refine xv_aaldN (pc' := 10) 3 hF (by first | assumption | exact xu_self | (refine (xu_ne (by omega)).trans ?_; first | assumption | exact xu_self | (refine (xu_ne (by omega)).trans ?_; first | assumption | exact xu_self | (refine (xu_ne (by omega)).trans ?_; first | assumption | exact xu_self | (refine (xu_ne (by omega)).trans ?_; first | assumption | exact xu_self))))) rfl (by omega) (by decide) xd_PD_load_9 rfl ?_
  refine xv_top (v' := .ref (o + 17 + 5 * i)) (by rw [p9 i hi]; rfl) ?_
  obtain ⟨rd1, -⟩ := id p3
  refine xv_astore_n (pc' := 11) (i := 2) hF xd_PD_load_10 rfl (Nat.le_of_ble_eq_true rfl) rfl rfl ?_
  refine xv_aload_n (pc' := 12) (i := 0) hF xd_PD_load_11 rfl rfl rfl ?_
  refine xv_get (pc' := 15) (ci := 0) hF (by first | assumption | exact xu_self | (refine (xu_ne (by omega)).trans ?_; first | assumption | exact xu_self | (refine (xu_ne (by omega)).trans ?_; first | assumption | exact xu_self | (refine (xu_ne (by omega)).trans ?_; first | assumption | exact xu_self | (refine (xu_ne (by omega)).trans ?_; first | assumption | exact xu_self))))) rfl xu_PD 1 (by decide) xk_PD_f19 (by rfl) xd_PD_load_12 rfl ?_
  refine xv_aload_n (pc' := 16) (i := 0) hF xd_PD_load_15 rfl rfl rfl ?_
  refine xv_get (pc' := 19) (ci := 0) hF (by first | assumption | exact xu_self | (refine (xu_ne (by omega)).trans ?_; first | assumption | exact xu_self | (refine (xu_ne (by omega)).trans ?_; first | assumption | exact xu_self | (refine (xu_ne (by omega)).trans ?_; first | assumption | exact xu_self | (refine (xu_ne (by omega)).trans ?_; first | assumption | exact xu_self))))) rfl xu_PD 3 (by decide) xk_PD_f30 (by rfl) xd_PD_load_16 rfl ?_
  refine xv_aload_n (pc' := 20) (i := 0) hF xd_PD_load_19 rfl rfl rfl ?_
  refine xv_get (pc' := 23) (ci := 0) hF (by first | assumption | exact xu_self | (refine (xu_ne (by omega)).trans ?_; first | assumption | exact xu_self | (refine (xu_ne (by omega)).trans ?_; first | assumption | exact xu_self | (refine (xu_ne (by omega)).trans ?_; first | assumption | exact xu_self | (refine (xu_ne (by omega)).trans ?_; first | assumption | exact xu_self))))) rfl xu_PD 4 (by decide) xk_PD_f34 (by rfl) xd_PD_load_20 rfl ?_
  refine xv_aload_n (pc' := 24) (i := 2) hF xd_PD_load_23 rfl rfl rfl ?_
  refine xv_callVi (pc' := 27) (ci := 4) hF (c_RD_read K n h o x (o + 17 + 5 * i) w q sx (SX i) (OS i) cs f p3 pe (by unfold rd_ok; omega) (by omega) p5 p6 p7) xq_RD_read xk_PD_m96 xk_i_RD_read xk_s_RD_read (by first | assumption | exact xu_self | (refine (xu_ne (by omega)).trans ?_; first | assumption | exact xu_self | (refine (xu_ne (by omega)).trans ?_; first | assumption | exact xu_self | (refine (xu_ne (by omega)).trans ?_; first | assumption | exact xu_self | (refine (xu_ne (by omega)).trans ?_; first | assumption | exact xu_self))))) rfl ⟨(Nat.le_of_ble_eq_true rfl), (Nat.le_of_ble_eq_true rfl)⟩ rfl rfl (Nat.le_of_ble_eq_true rfl) ⟨(Nat.le_of_ble_eq_true rfl), (Nat.le_of_ble_eq_true rfl)⟩ xd_PD_load_24 rfl (fun r n1 h1 q1 => ?_)
  obtain ⟨rfl, f1, ⟨q', sx', r1⟩, e1⟩ := q1
  have a1 := (f1 o (by omega) (by omega) (by omega) (by omega)).trans p1
  have a2 := (f1 (o + 16) (by omega) (by omega) (by omega) (by omega)).trans pc
  refine xv_istore_n (pc' := 28) (i := 3) hF xd_PD_load_27 rfl (Nat.le_of_ble_eq_true rfl) rfl rfl ?_
  refine xv_aload_n (pc' := 29) (i := 0) hF xd_PD_load_28 rfl rfl rfl ?_
  refine xv_iconstN (pc' := 30) 0 hF xd_PD_load_29 (by decide +kernel) rfl ?_
  refine xv_put (pc' := 33) (ci := 0) (ty := xt_PD 4) hF (by first | assumption | exact xu_self | (refine (xu_ne (by omega)).trans ?_; first | assumption | exact xu_self | (refine (xu_ne (by omega)).trans ?_; first | assumption | exact xu_self | (refine (xu_ne (by omega)).trans ?_; first | assumption | exact xu_self | (refine (xu_ne (by omega)).trans ?_; first | assumption | exact xu_self))))) rfl xu_PD xt_PD xo_PD xn_PD 4 (by decide) xk_PD_f34 rfl (by decide +kernel) (by first | rfl | exact xb_nw _ | decide +kernel) (by first | rfl | exact xb_ft _ | decide +kernel) (by exact Nat.le_of_ble_eq_true rfl) (by dsimp only [List.set] <;> rfl) xd_PD_load_30 rfl ?_
  refine xv_aload_n (pc' := 34) (i := 0) hF xd_PD_load_33 rfl rfl rfl ?_
  refine xv_get (pc' := 37) (ci := 0) hF (by first | assumption | exact xu_self | (refine (xu_ne (by omega)).trans ?_; first | assumption | exact xu_self | (refine (xu_ne (by omega)).trans ?_; first | assumption | exact xu_self | (refine (xu_ne (by omega)).trans ?_; first | assumption | exact xu_self | (refine (xu_ne (by omega)).trans ?_; first | assumption | exact xu_self))))) rfl xu_PD 7 (by decide) xk_PD_f50 (by rfl) xd_PD_load_34 rfl ?_
  refine xv_iload_n (pc' := 38) (i := 1) hF xd_PD_load_37 rfl rfl rfl ?_
  refine xv_iconstN (pc' := 39) 0 hF xd_PD_load_38 (by decide +kernel) rfl ?_
  refine xv_zastN (pc' := 40) hF (by first | assumption | exact xu_self | (refine (xu_ne (by omega)).trans ?_; first | assumption | exact xu_self | (refine (xu_ne (by omega)).trans ?_; first | assumption | exact xu_self | (refine (xu_ne (by omega)).trans ?_; first | assumption | exact xu_self | (refine (xu_ne (by omega)).trans ?_; first | assumption | exact xu_self))))) (by omega) (by decide) xd_PD_load_39 rfl ?_
  obtain ⟨kf', ekf⟩ : ∃ kf', kf' = upd kf i (vp_nar .boolean (nI 0)) := ⟨_, rfl⟩
  rw [← ekf]
  have hkf : ∀ j, j < 4 → kf' j = xb (va_up kn i false j) := by
    intro j hj
    rw [ekf]
    by_cases c : j = i
    · subst c; rw [pk_us, va_s]; decide +kernel
    · rw [pk_un c, va_n c]; exact pd j hj
  obtain ⟨h2, eh2⟩ : ∃ h2, h2 = xu (xu h1 o (.inr (0, [.ref (o + 1), .ref (o + 4), .ref (o + 8), .ref (o + 13), .int (nI 0), .ref (o + 14), .ref (o + 15), .ref (o + 16)]))) (o + 16) (.inl (K.2.2.1 1, 4, .inl kf')) := ⟨_, rfl⟩
  rw [← eh2]
  have g2 : ∀ q, q ≠ o → q ≠ o + 16 → h2 q = h1 q := fun q a b => by rw [eh2, xu_ne b, xu_ne a]
  have b1 : h2 o = some (.inr (0, [.ref (o + 1), .ref (o + 4), .ref (o + 8), .ref (o + 13), .int (nI 0), .ref (o + 14), .ref (o + 15), .ref (o + 16)])) := by rw [eh2, xu_ne (by omega)]; exact xu_self
  have b2 : h2 (o + 16) = some (.inl (K.2.2.1 1, 4, .inl kf')) := by rw [eh2]; exact xu_self
  clear eh2 a1 a2
  have exk : ∀ {os sx}, ex_R K h1 (o + 17 + 5 * i) os sx → ex_R K h2 (o + 17 + 5 * i) os sx := by
    rintro os sx ⟨c0, cf, ⟨c1, c2⟩, c3⟩
    exact ⟨c0, cf, ⟨by rw [g2 _ (by omega) (by omega)]; exact c1, by rw [g2 _ (by omega) (by omega)]; exact c2⟩, c3⟩
  have r2 : rd_R K h2 o (o + 17 + 5 * i) q' sx' := by
    obtain ⟨c1, ⟨cf, c2, c3⟩, c4, c5⟩ := r1
    exact ⟨by rw [g2 _ (by omega) (by omega)]; exact c1, ⟨cf, by rw [g2 _ (by omega) (by omega)]; exact c2, c3⟩, exk c4, c5⟩
  have xx := r2.2.2.1
  have ff : ∀ q, q ≠ o → q ≠ o + 4 → q ≠ o + 5 → q ≠ o + 16 → q ≠ o + 17 + 5 * i → q ≠ o + 17 + 5 * i + 1 → h2 q = h q := fun q c1 c2 c3 c4 c5 c6 => (g2 q c1 c4).trans (f1 q c2 c3 c5 c6)
  have bad : ∀ h3, ex_fr h2 h3 (o + 17 + 5 * i) → ex_R K h3 (o + 17 + 5 * i) [1] 0 → dk_fr o h h3 ∧ dk_R K h3 n o E Tg e cs 0 (va_up OS i [1]) (va_up SX i 0) (va_up kn i false) made := by
    intro h3 f3 r3
    obtain ⟨st, op, ir, rs, le, mo, en, os⟩ := q'
    have ff3 : ∀ q, q ≠ o → q ≠ o + 4 → q ≠ o + 5 → q ≠ o + 16 → q ≠ o + 17 + 5 * i → q ≠ o + 17 + 5 * i + 1 → h3 q = h q := fun q c1 c2 c3 c4 c5 c6 => (f3 q c5 c6).trans (ff q c1 c2 c3 c4 c5 c6)
    exact ⟨fun q c1 c2 => ff3 q (by omega) (by omega) (by omega) (by omega) (by omega) (by omega), hr.loaded hi ff3 ((f3 _ (by omega) (by omega)).trans b1) (rd_ex r2 f3 r3).1 ((f3 _ (by omega) (by omega)).trans b2) hkf r3 bx_gd_1⟩
  obtain ⟨x0, xf, ⟨x1, x2⟩, x3⟩ := id xx
  have hm1 : ∀ k, k ≤ 100 → ¬ nI k = -1 := by
    intro k hk e
    have := congrArg Int32.toInt e
    rw [nI_toInt (by omega)] at this
    have e2 : (-1 : Int32).toInt = -1 := by decide +kernel
    omega
  obtain ⟨rs0, le0, mo0, en0, eq0⟩ : ∃ rs0 le0 mo0 en0, rs0 = q.2.2.2.1 ∧ le0 = q.2.2.2.2.1 ∧ mo0 = q.2.2.2.2.2.1 ∧ en0 = q.2.2.2.2.2.2.1 := ⟨_, _, _, _, rfl, rfl, rfl, rfl⟩
  obtain ⟨eq1, eq2, eq3, eq4⟩ := eq0
  rw [← eq1, ← eq2, ← eq3, ← eq4] at e1
  rw [← eq2] at b4
  rw [← eq3] at b5
  have kq := rp_K_0 (rs := rs0) (en := en0) b4 b5
  refine xv_iload_n (pc' := 41) (i := 3) hF xd_PD_load_40 rfl rfl rfl ?_
  refine xv_iconst (pc' := 42) (v := -1) hF xd_PD_load_41 (by decide +kernel) rfl ?_
  rcases e1 with ⟨k, qk, c1, c2, c3, rfl⟩ | ⟨qk, c2, c3, rfl⟩ | ⟨qk, c2, c3, c4, rfl, c5⟩
  · refine xv_icmp_eq (pc' := 45) (tgt := 53) hF xd_PD_load_42 (by decide) rfl (fun e2 => ?_) (fun e2 => ?_)
    · exact absurd e2 (hm1 k (by omega))
    · refine xv_aload_n (pc' := 46) (i := 2) hF xd_PD_load_45 rfl rfl rfl ?_
      refine xv_callVv (pc' := 49) (ci := 3) hF (c_EX_makeEmptyRow K n h2 (o + 17 + 5 * i) _ _ xx) xq_EX_makeEmptyRow xk_PD_m100 xk_i_EX_makeEmptyRow xk_s_EX_makeEmptyRow (by first | assumption | exact xu_self | (refine (xu_ne (by omega)).trans ?_; first | assumption | exact xu_self | (refine (xu_ne (by omega)).trans ?_; first | assumption | exact xu_self | (refine (xu_ne (by omega)).trans ?_; first | assumption | exact xu_self | (refine (xu_ne (by omega)).trans ?_; first | assumption | exact xu_self))))) rfl ⟨(Nat.le_of_ble_eq_true rfl), (Nat.le_of_ble_eq_true rfl)⟩ rfl rfl (Nat.le_of_ble_eq_true rfl) ⟨(Nat.le_of_ble_eq_true rfl), (Nat.le_of_ble_eq_true rfl)⟩ xd_PD_load_46 rfl (fun n3 h3 q3 => ?_)
      obtain ⟨rfl, f3, r3⟩ := q3
      refine xv_iconstN (pc' := 50) 1 hF xd_PD_load_49 (by decide +kernel) rfl ?_
      refine xv_iload_n (pc' := 51) (i := 3) hF xd_PD_load_50 rfl rfl rfl ?_
      first | refine xv_iaddN (pc' := 52) hF xd_PD_load_51 rfl ?_ | refine xv_iadd (pc' := 52) hF xd_PD_load_51 rfl ?_
      refine hR _ _ _ _ _ _ _ (by omega) (by omega) ?_ xd_PD_load_52
      obtain ⟨d1, d2⟩ := bad h3 f3 r3
      exact ⟨rfl, d1, rs0, le0, mo0, en0, _, _, b4, b5, Or.inl ⟨k, qk, c1, c2, c3, rfl, rfl, rfl⟩, d2⟩
  · refine xv_icmp_eq (pc' := 45) (tgt := 53) hF xd_PD_load_42 (by decide) rfl (fun e2 => ?_) (fun e2 => ?_)
    · exact absurd e2 (hm1 w p7)
    · refine xv_aload_n (pc' := 46) (i := 2) hF xd_PD_load_45 rfl rfl rfl ?_
      refine xv_callVv (pc' := 49) (ci := 3) hF (c_EX_makeEmptyRow K n h2 (o + 17 + 5 * i) _ _ xx) xq_EX_makeEmptyRow xk_PD_m100 xk_i_EX_makeEmptyRow xk_s_EX_makeEmptyRow (by first | assumption | exact xu_self | (refine (xu_ne (by omega)).trans ?_; first | assumption | exact xu_self | (refine (xu_ne (by omega)).trans ?_; first | assumption | exact xu_self | (refine (xu_ne (by omega)).trans ?_; first | assumption | exact xu_self | (refine (xu_ne (by omega)).trans ?_; first | assumption | exact xu_self))))) rfl ⟨(Nat.le_of_ble_eq_true rfl), (Nat.le_of_ble_eq_true rfl)⟩ rfl rfl (Nat.le_of_ble_eq_true rfl) ⟨(Nat.le_of_ble_eq_true rfl), (Nat.le_of_ble_eq_true rfl)⟩ xd_PD_load_46 rfl (fun n3 h3 q3 => ?_)
      obtain ⟨rfl, f3, r3⟩ := q3
      refine xv_iconstN (pc' := 50) 1 hF xd_PD_load_49 (by decide +kernel) rfl ?_
      refine xv_iload_n (pc' := 51) (i := 3) hF xd_PD_load_50 rfl rfl rfl ?_
      first | refine xv_iaddN (pc' := 52) hF xd_PD_load_51 rfl ?_ | refine xv_iadd (pc' := 52) hF xd_PD_load_51 rfl ?_
      refine hR _ _ _ _ _ _ _ (by omega) (by omega) ?_ xd_PD_load_52
      obtain ⟨d1, d2⟩ := bad h3 f3 r3
      exact ⟨rfl, d1, rs0, le0, mo0, en0, _, _, b4, b5, Or.inr (Or.inl ⟨qk, c2, c3, rfl, rfl, rfl⟩), d2⟩
  · refine xv_icmp_eq (pc' := 45) (tgt := 53) hF xd_PD_load_42 (by decide) rfl (fun e2 => ?_) (fun e2 => ?_)
    · have c6 := exk c5
      clear x0 x1 x2 x3
      obtain ⟨x0, xf, ⟨x1, x2⟩, x3⟩ := id c6
      have kk := (kq.run c2)
      have k81 : (rp_ew qk).2.2.2.2.2.2.1 0 ≤ 81 := by
        obtain ⟨-, -, -, tl, trs, j⟩ := kk
        obtain ⟨tl', j1, -, -⟩ := j.er
        have := j1.2.2.2.2.1 0 (Nat.zero_le _)
        have e9 : (rp_ew qk).2.2.2.2.2.2.1 0 = (rp_er qk).2.2.2.2.2.2.1 0 := rfl
        omega
      refine xv_aload_n (pc' := 54) (i := 2) hF xd_PD_load_53 rfl rfl rfl ?_
      refine xv_getN (pc' := 57) (ci := 3) hF (by first | assumption | exact xu_self | (refine (xu_ne (by omega)).trans ?_; first | assumption | exact xu_self | (refine (xu_ne (by omega)).trans ?_; first | assumption | exact xu_self | (refine (xu_ne (by omega)).trans ?_; first | assumption | exact xu_self | (refine (xu_ne (by omega)).trans ?_; first | assumption | exact xu_self))))) rfl xu_EX 2 (by decide) xk_PD_f103 (by rfl) xd_PD_load_54 rfl ?_
      refine xv_bipushN (pc' := 59) 80 hF xd_PD_load_57 (by decide +kernel) rfl ?_
      refine xv_icmp_leN (pc' := 62) (tgt := 69) hF (by omega) (by omega) xd_PD_load_59 (by decide) rfl (fun e3 => ?_) (fun e3 => ?_)
      · refine xv_iconstN (pc' := 70) 0 hF xd_PD_load_69 (by decide +kernel) rfl ?_
        refine hR _ _ _ _ _ _ _ (by omega) (by omega) ?_ xd_PD_load_70
        refine ⟨rfl, fun q c1 c2 => ff q (by omega) (by omega) (by omega) (by omega) (by omega) (by omega), rs0, le0, mo0, en0, _, _, b4, b5, Or.inr (Or.inr (Or.inr ⟨qk, c2, c3, c4, e3, rfl, rfl, rfl⟩)), ?_⟩
        obtain ⟨st, op, ir, rs, le, mo, en, os⟩ := q'
        obtain ⟨d1, d2, d3, d4⟩ := r2
        exact hr.loaded (q' := (st, op, ir, rs, le, mo, en, (rp_ew qk).2.2.2.2.2.2.2)) hi ff b1 ⟨d1, d2, c6, d4⟩ b2 hkf c6 (kk.fin c4 e3)
      · refine xv_aload_n (pc' := 63) (i := 2) hF xd_PD_load_62 rfl rfl rfl ?_
        refine xv_callVv (pc' := 66) (ci := 3) hF (c_EX_makeEmptyRow K n h2 (o + 17 + 5 * i) _ _ c6) xq_EX_makeEmptyRow xk_PD_m100 xk_i_EX_makeEmptyRow xk_s_EX_makeEmptyRow (by first | assumption | exact xu_self | (refine (xu_ne (by omega)).trans ?_; first | assumption | exact xu_self | (refine (xu_ne (by omega)).trans ?_; first | assumption | exact xu_self | (refine (xu_ne (by omega)).trans ?_; first | assumption | exact xu_self | (refine (xu_ne (by omega)).trans ?_; first | assumption | exact xu_self))))) rfl ⟨(Nat.le_of_ble_eq_true rfl), (Nat.le_of_ble_eq_true rfl)⟩ rfl rfl (Nat.le_of_ble_eq_true rfl) ⟨(Nat.le_of_ble_eq_true rfl), (Nat.le_of_ble_eq_true rfl)⟩ xd_PD_load_63 rfl (fun n3 h3 q3 => ?_)
        obtain ⟨rfl, f3, r3⟩ := q3
        refine xv_bipush (pc' := 68) (v := -2) hF xd_PD_load_66 (by decide +kernel) rfl ?_
        refine hR _ _ _ _ _ _ _ (by omega) (by omega) ?_ xd_PD_load_68
        obtain ⟨d1, d2⟩ := bad h3 f3 r3
        exact ⟨rfl, d1, rs0, le0, mo0, en0, _, _, b4, b5, Or.inr (Or.inr (Or.inl ⟨qk, c2, c3, c4, e3, rfl, rfl, rfl⟩)), d2⟩
    · exact absurd rfl e2
