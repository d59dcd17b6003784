/-! rows: null or not, least and greatest of two numbers -/
theorem xv_nn {G : xG} {K : xK} {cc : ByteArray} {own : String} {rm0 : Room} {mL k kS pc n : Nat} {L : List (Nat × Value)} {st : List Value} {h : xH} {a : Nat} {off : Int} {tgt : Nat} (hF : XF G K cc own rm0 mL) (hd : decode cc pc = .ok (.ifnonnull off, 3)) (ht : (pc : Int) + off = (tgt : Int)) (kk : XV G k kS tgt L st n h) : XV G k kS pc L (.ref a :: st) n h := by
  obtain ⟨p, e, R, s, m, args, below, meth, c, ⟨l, D, cx, b⟩, H0, maxL, Q⟩ := G
  obtain ⟨⟨hx, hb, hml, hown, hts⟩, hK, rfl, hbs, rfl, rfl, hN⟩ := hF
  intro H locs ls hok hS hl
  exact lv_ifnonnull hx hb hd ht (kk H locs ls hok hS hl)
theorem xv_nz {G : xG} {K : xK} {cc : ByteArray} {own : String} {rm0 : Room} {mL k kS pc pc' n : Nat} {L : List (Nat × Value)} {st : List Value} {h : xH} {off : Int} (hF : XF G K cc own rm0 mL) (hd : decode cc pc = .ok (.ifnonnull off, 3)) (hp : pc + 3 = pc') (kk : XV G k kS pc' L st n h) : XV G k kS pc L (.null :: st) n h := by
  obtain ⟨p, e, R, s, m, args, below, meth, c, ⟨l, D, cx, b⟩, H0, maxL, Q⟩ := G
  obtain ⟨⟨hx, hb, hml, hown, hts⟩, hK, rfl, hbs, rfl, rfl, hN⟩ := hF
  subst hp
  intro H locs ls hok hS hl
  exact lv_ifnonnullN hx hb hd (kk H locs ls hok hS hl)
theorem nI_mn {x y : Nat} (hx : x < 2 ^ 31) (hy : y < 2 ^ 31) : (if nI y < nI x then nI y else nI x) = nI (min x y) := by
  by_cases c : y < x
  · rw [if_pos ((nI_ltI hy hx).mpr c), Nat.min_eq_right (by omega)]
  · rw [if_neg (fun h => c ((nI_ltI hy hx).mp h)), Nat.min_eq_left (by omega)]
theorem nI_mx {x y : Nat} (hx : x < 2 ^ 31) (hy : y < 2 ^ 31) : (if nI x < nI y then nI y else nI x) = nI (max x y) := by
  by_cases c : x < y
  · rw [if_pos ((nI_ltI hx hy).mpr c), Nat.max_eq_right (by omega)]
  · rw [if_neg (fun h => c ((nI_ltI hx hy).mp h)), Nat.max_eq_left (by omega)]
/-! Bench (the desk's cells lie from o on): height ht, relations made, their addresses ad, the spare's sp, what they hold Mv -/
def be_ok (o n a : Nat) : Prop := (a = o + 10 ∨ o + 51 ≤ a) ∧ a + 3 ≤ n
def be_at (K : xK) (h : xH) (o ht made : Nat) (ad : Nat → Nat) (sp : Nat) : Prop := ∃ pl, h (o + 8) = some (.inr (5, [.ref (o + 9), .int (nI ht), .ref sp])) ∧ h (o + 9) = some (.inl (K.2.2.1 4, 24, .inr (.inr (.inr (.inr pl))))) ∧ (∀ i, i < made → pl i = some (ad i)) ∧ ∀ i, made ≤ i → i < 24 → pl i = none
def be_in (K : xK) (h : xH) (n o made : Nat) (ad : Nat → Nat) (sp : Nat) (Mv : Nat → Nat → Nat → Nat) : Prop :=
  made ≤ 24 ∧ o + 51 ≤ n ∧ (∀ i, i < made → be_ok o n (ad i) ∧ re_R K h (ad i) (Mv i)) ∧ be_ok o n sp ∧ (∃ Ms, re_R K h sp Ms) ∧ (∀ i j, i < made → j < made → i ≠ j → re_ap (ad i) (ad j)) ∧ ∀ i, i < made → re_ap (ad i) sp
def be_R (K : xK) (h : xH) (n o ht made : Nat) (ad : Nat → Nat) (sp : Nat) (Mv : Nat → Nat → Nat → Nat) : Prop := be_at K h o ht made ad sp ∧ be_in K h n o made ad sp Mv
def be_fr (o : Nat) (h h' : xH) : Prop := ∀ q, q < o + 51 → q ≠ o + 8 → q ≠ o + 9 → q ≠ o + 11 → q ≠ o + 12 → h' q = h q
theorem be_fr.rf {o : Nat} {h : xH} : be_fr o h h := fun _ _ _ _ _ _ => rfl
theorem be_fr.tr {o : Nat} {h h1 h2 : xH} (p : be_fr o h h1) (q : be_fr o h1 h2) : be_fr o h h2 := fun x a b c d e => (q x a b c d e).trans (p x a b c d e)
theorem re_ap.sy {a c : Nat} (h : re_ap a c) : re_ap c a := by unfold re_ap at *; omega
theorem be_frR {o n a : Nat} {h h' : xH} (ha : be_ok o n a) (hf : re_fr h h' a) : be_fr o h h' := fun q h1 h2 h3 h4 h5 => by
  unfold be_ok at ha
  exact hf q (by omega) (by omega)
theorem be_atR {K : xK} {o n ht made a sp : Nat} {ad : Nat → Nat} {h h' : xH} (ha : be_ok o n a) (hf : re_fr h h' a) (p : be_at K h o ht made ad sp) : be_at K h' o ht made ad sp := by
  unfold be_ok at ha
  obtain ⟨pl, p1, p2, p3⟩ := p
  exact ⟨pl, by rw [hf _ (by omega) (by omega)]; exact p1, by rw [hf _ (by omega) (by omega)]; exact p2, p3⟩
/-- one of the pile has changed -/
theorem be_upd {K : xK} {h h' : xH} {n o ht made : Nat} {ad : Nat → Nat} {sp : Nat} {Mv : Nat → Nat → Nat → Nat} (p : be_R K h n o ht made ad sp Mv) {i : Nat} (hi : i < made) (hf : re_fr h h' (ad i)) {M' : Nat → Nat → Nat} (hr : re_R K h' (ad i) M') : be_R K h' n o ht made ad sp (va_up Mv i M') := by
  obtain ⟨p0, p1, p2, p3, p4, ⟨Ms, p5⟩, p6, p7⟩ := p
  refine ⟨be_atR (p3 i hi).1 hf p0, p1, p2, fun j hj => ⟨(p3 j hj).1, ?_⟩, p4, ⟨Ms, p5.keep hf (p7 i hi)⟩, p6, p7⟩
  unfold va_up
  by_cases c : j = i
  · subst c
    rw [if_pos rfl]
    exact hr
  · rw [if_neg c]
    exact (p3 j hj).2.keep hf (p6 i j hi hj (fun e => c e.symm))
/-- the spare has changed -/
theorem be_updS {K : xK} {h h' : xH} {n o ht made : Nat} {ad : Nat → Nat} {sp : Nat} {Mv : Nat → Nat → Nat → Nat} (p : be_R K h n o ht made ad sp Mv) (hf : re_fr h h' sp) {M' : Nat → Nat → Nat} (hr : re_R K h' sp M') : be_R K h' n o ht made ad sp Mv := by
  obtain ⟨p0, p1, p2, p3, p4, -, p6, p7⟩ := p
  exact ⟨be_atR p4 hf p0, p1, p2, fun j hj => ⟨(p3 j hj).1, (p3 j hj).2.keep hf (p7 j hj).sy⟩, p4, ⟨_, hr⟩, p6, p7⟩
/-- a change of the bench's own two cells -/
theorem re_R.own {K : xK} {h h' : xH} {o n a : Nat} {M : Nat → Nat → Nat} (ha : be_ok o n a) (hf : ∀ q, q ≠ o + 8 → q ≠ o + 9 → h' q = h q) (p : re_R K h a M) : re_R K h' a M := by
  unfold be_ok at ha
  obtain ⟨f, g, ⟨h1, h2, h3⟩, h4⟩ := p
  exact ⟨f, g, ⟨by rw [hf _ (by omega) (by omega)]; exact h1, by rw [hf _ (by omega) (by omega)]; exact h2, by rw [hf _ (by omega) (by omega)]; exact h3⟩, h4⟩
theorem be_in.own {K : xK} {h h' : xH} {n o made : Nat} {ad : Nat → Nat} {sp : Nat} {Mv : Nat → Nat → Nat → Nat} (hf : ∀ q, q ≠ o + 8 → q ≠ o + 9 → h' q = h q) (p : be_in K h n o made ad sp Mv) : be_in K h' n o made ad sp Mv := by
  obtain ⟨p1, p2, p3, p4, ⟨Ms, p5⟩, p6, p7⟩ := p
  exact ⟨p1, p2, fun j hj => ⟨(p3 j hj).1, (p3 j hj).2.own (p3 j hj).1 hf⟩, p4, ⟨Ms, p5.own p4 hf⟩, p6, p7⟩
set_option maxHeartbeats 4000000 in
set_option maxRecDepth 100000 in
theorem c_BE_clear (K : xK) (n : Nat) (h : xH) (o ht made : Nat) (ad : Nat → Nat) (sp : Nat) (Mv : Nat → Nat → Nat → Nat) (hr : be_R K h n o ht made ad sp Mv) : XM K xy_BE_clear xw_BE_clear (xrm 0 0 0 0) [.ref (o + 8)] n h (x_pv fun n' h' => n = n' ∧ be_fr o h h' ∧ be_R K h' n o 0 made ad sp Mv) 0 0 := by
  obtain ⟨⟨pl, p1, p2, p3⟩, pin⟩ := hr
  refine xm_v (by decide +kernel) (Nat.le_of_ble_eq_true rfl) (fun G hF hR => ?_)
  refine xv_aload_n (pc' := 1) (i := 0) hF xd_BE_clear_0 rfl rfl rfl ?_
  refine xv_iconstN (pc' := 2) 0 hF xd_BE_clear_1 (by decide +kernel) rfl ?_
  refine xv_put (pc' := 5) (ci := 5) (ty := xt_BE 1) hF (by first | assumption | exact xu_self | (refine (xu_ne (by omega)).trans ?_; first | assumption | exact xu_self | (refine (xu_ne (by omega)).trans ?_; first | assumption | exact xu_self | (refine (xu_ne (by omega)).trans ?_; first | assumption | exact xu_self | (refine (xu_ne (by omega)).trans ?_; first | assumption | exact xu_self))))) rfl xu_BE xt_BE xo_BE xn_BE 1 (by decide) xk_BE_f17 rfl (by decide +kernel) (by first | rfl | exact xb_nw _ | decide +kernel) (by first | rfl | exact xb_ft _ | decide +kernel) (by exact Nat.le_of_ble_eq_true rfl) (by dsimp only [List.set] <;> rfl) xd_BE_clear_2 rfl ?_
  refine hR _ _ _ _ _ _ (by omega) (by omega) ?_ xd_BE_clear_5
  have hf : ∀ q, q ≠ o + 8 → q ≠ o + 9 → (xu h (o + 8) (.inr (5, [.ref (o + 9), .int (nI 0), .ref sp]))) q = h q := fun q h1 _ => xu_ne h1
  exact ⟨rfl, fun q a b c d e => hf q b c, ⟨pl, xu_self, by rw [xu_ne (by omega)]; exact p2, p3⟩, pin.own hf⟩
set_option maxHeartbeats 4000000 in
set_option maxRecDepth 100000 in
theorem c_BE_at (K : xK) (n : Nat) (h : xH) (o ht made i : Nat) (ad : Nat → Nat) (sp : Nat) (Mv : Nat → Nat → Nat → Nat) (hr : be_R K h n o ht made ad sp Mv) (hi : i < made) : XM K xy_BE_at xw_BE_at (xrm 1 16 0 0) [.ref (o + 8), .int (nI i)] n h (x_pr fun r n' h' => r = ad i ∧ n = n' ∧ h = h') 0 0 := by
  obtain ⟨⟨pl, p1, p2, p3, p4⟩, pin⟩ := hr
  have h24 := pin.1
  refine xm_r (by decide +kernel) (Nat.le_of_ble_eq_true rfl) (fun G hF hR => ?_)
  refine xv_iconstN (pc' := 1) 0 hF xd_BE_at_0 (by decide +kernel) rfl ?_
  refine xv_iload_n (pc' := 2) (i := 1) hF xd_BE_at_1 rfl rfl rfl ?_
  refine xv_bipushN (pc' := 4) 23 hF xd_BE_at_2 (by decide +kernel) rfl ?_
  refine xv_mmin (pc' := 7) hF xk_BE_m66 xk_t_JM_min xk_n_JM xk_c_JM_min (Nat.le_of_ble_eq_true rfl) (Nat.le_of_ble_eq_true rfl) (Nat.le_of_ble_eq_true rfl) (Nat.le_of_ble_eq_true rfl) xd_BE_at_4 rfl ?_
  refine xv_topi ((nI_mn (by omega) (by omega)).trans (by rw [Nat.min_eq_left (by omega)])) ?_
  refine xv_mmax (pc' := 10) hF xk_BE_m72 xk_t_JM_max xk_n_JM xk_c_JM_max (Nat.le_of_ble_eq_true rfl) (Nat.le_of_ble_eq_true rfl) (Nat.le_of_ble_eq_true rfl) (Nat.le_of_ble_eq_true rfl) xd_BE_at_7 rfl ?_
  refine xv_topi ((nI_mx (by omega) (by omega)).trans (by rw [Nat.max_eq_right (by omega)])) ?_
  refine xv_istore_n (pc' := 11) (i := 2) hF xd_BE_at_10 rfl (Nat.le_of_ble_eq_true rfl) rfl rfl ?_
  refine xv_aload_n (pc' := 12) (i := 0) hF xd_BE_at_11 rfl rfl rfl ?_
  refine xv_get (pc' := 15) (ci := 5) hF (by first | assumption | exact xu_self | (refine (xu_ne (by omega)).trans ?_; first | assumption | exact xu_self | (refine (xu_ne (by omega)).trans ?_; first | assumption | exact xu_self | (refine (xu_ne (by omega)).trans ?_; first | assumption | exact xu_self | (refine (xu_ne (by omega)).trans ?_; first | assumption | exact xu_self))))) rfl xu_BE 0 (by decide) xk_BE_f13 (by rfl) xd_BE_at_12 rfl ?_
  refine xv_iload_n (pc' := 16) (i := 2) hF xd_BE_at_15 rfl rfl rfl ?_
  refine xv_aaldN (pc' := 17) 4 hF (by first | assumption | exact xu_self | (refine (xu_ne (by omega)).trans ?_; first | assumption | exact xu_self | (refine (xu_ne (by omega)).trans ?_; first | assumption | exact xu_self | (refine (xu_ne (by omega)).trans ?_; first | assumption | exact xu_self | (refine (xu_ne (by omega)).trans ?_; first | assumption | exact xu_self))))) rfl (by omega) (by decide) xd_BE_at_16 rfl ?_
  refine xv_top (v' := .ref (ad i)) (by rw [p3 i hi]; rfl) ?_
  refine xv_nn (tgt := 33) hF xd_BE_at_17 (by decide) ?_
  refine xv_aload_n (pc' := 34) (i := 0) hF xd_BE_at_33 rfl rfl rfl ?_
  refine xv_get (pc' := 37) (ci := 5) hF (by first | assumption | exact xu_self | (refine (xu_ne (by omega)).trans ?_; first | assumption | exact xu_self | (refine (xu_ne (by omega)).trans ?_; first | assumption | exact xu_self | (refine (xu_ne (by omega)).trans ?_; first | assumption | exact xu_self | (refine (xu_ne (by omega)).trans ?_; first | assumption | exact xu_self))))) rfl xu_BE 0 (by decide) xk_BE_f13 (by rfl) xd_BE_at_34 rfl ?_
  refine xv_iload_n (pc' := 38) (i := 2) hF xd_BE_at_37 rfl rfl rfl ?_
  refine xv_aaldN (pc' := 39) 4 hF (by first | assumption | exact xu_self | (refine (xu_ne (by omega)).trans ?_; first | assumption | exact xu_self | (refine (xu_ne (by omega)).trans ?_; first | assumption | exact xu_self | (refine (xu_ne (by omega)).trans ?_; first | assumption | exact xu_self | (refine (xu_ne (by omega)).trans ?_; first | assumption | exact xu_self))))) rfl (by omega) (by decide) xd_BE_at_38 rfl ?_
  refine xv_top (v' := .ref (ad i)) (by rw [p3 i hi]; rfl) ?_
  refine hR _ _ _ _ _ _ _ (by omega) (by omega) ?_ xd_BE_at_39
  exact ⟨rfl, rfl, rfl⟩
set_option maxHeartbeats 4000000 in
set_option maxRecDepth 100000 in
theorem c_BE_atN (K : xK) (n : Nat) (h : xH) (o ht made : Nat) (ad : Nat → Nat) (sp : Nat) (Mv : Nat → Nat → Nat → Nat) (hr : be_R K h n o ht made ad sp Mv) (h24 : made < 24) : XM K xy_BE_at xw_BE_at (xrm 2 33 3 1058) [.ref (o + 8), .int (nI made)] n h (x_pr fun r n' h' => r = n ∧ n' = n + 3 ∧ be_fr o h h' ∧ be_R K h' (n + 3) o ht (made + 1) (va_up ad made n) sp (va_up Mv made md_no)) 3 1058 := by
  obtain ⟨⟨pl, p1, p2, p3, p4⟩, i1, i2, i3, i4, ⟨Ms, i5⟩, i6, i7⟩ := hr
  refine xm_r (by decide +kernel) (Nat.le_of_ble_eq_true rfl) (fun G hF hR => ?_)
  refine xv_iconstN (pc' := 1) 0 hF xd_BE_at_0 (by decide +kernel) rfl ?_
  refine xv_iload_n (pc' := 2) (i := 1) hF xd_BE_at_1 rfl rfl rfl ?_
  refine xv_bipushN (pc' := 4) 23 hF xd_BE_at_2 (by decide +kernel) rfl ?_
  refine xv_mmin (pc' := 7) hF xk_BE_m66 xk_t_JM_min xk_n_JM xk_c_JM_min (Nat.le_of_ble_eq_true rfl) (Nat.le_of_ble_eq_true rfl) (Nat.le_of_ble_eq_true rfl) (Nat.le_of_ble_eq_true rfl) xd_BE_at_4 rfl ?_
  refine xv_topi ((nI_mn (by omega) (by omega)).trans (by rw [Nat.min_eq_left (by omega)])) ?_
  refine xv_mmax (pc' := 10) hF xk_BE_m72 xk_t_JM_max xk_n_JM xk_c_JM_max (Nat.le_of_ble_eq_true rfl) (Nat.le_of_ble_eq_true rfl) (Nat.le_of_ble_eq_true rfl) (Nat.le_of_ble_eq_true rfl) xd_BE_at_7 rfl ?_
  refine xv_topi ((nI_mx (by omega) (by omega)).trans (by rw [Nat.max_eq_right (by omega)])) ?_
  refine xv_istore_n (pc' := 11) (i := 2) hF xd_BE_at_10 rfl (Nat.le_of_ble_eq_true rfl) rfl rfl ?_
  refine xv_aload_n (pc' := 12) (i := 0) hF xd_BE_at_11 rfl rfl rfl ?_
  refine xv_get (pc' := 15) (ci := 5) hF (by first | assumption | exact xu_self | (refine (xu_ne (by omega)).trans ?_; first | assumption | exact xu_self | (refine (xu_ne (by omega)).trans ?_; first | assumption | exact xu_self | (refine (xu_ne (by omega)).trans ?_; first | assumption | exact xu_self | (refine (xu_ne (by omega)).trans ?_; first | assumption | exact xu_self))))) rfl xu_BE 0 (by decide) xk_BE_f13 (by rfl) xd_BE_at_12 rfl ?_
  refine xv_iload_n (pc' := 16) (i := 2) hF xd_BE_at_15 rfl rfl rfl ?_
  refine xv_aaldN (pc' := 17) 4 hF (by first | assumption | exact xu_self | (refine (xu_ne (by omega)).trans ?_; first | assumption | exact xu_self | (refine (xu_ne (by omega)).trans ?_; first | assumption | exact xu_self | (refine (xu_ne (by omega)).trans ?_; first | assumption | exact xu_self | (refine (xu_ne (by omega)).trans ?_; first | assumption | exact xu_self))))) rfl (by omega) (by decide) xd_BE_at_16 rfl ?_
  refine xv_top (v' := .null) (by rw [p4 made (Nat.le_refl _) h24]; rfl) ?_
  refine xv_nz (pc' := 20) hF xd_BE_at_17 rfl ?_
  refine xv_aload_n (pc' := 21) (i := 0) hF xd_BE_at_20 rfl rfl rfl ?_
  refine xv_get (pc' := 24) (ci := 5) hF (by first | assumption | exact xu_self | (refine (xu_ne (by omega)).trans ?_; first | assumption | exact xu_self | (refine (xu_ne (by omega)).trans ?_; first | assumption | exact xu_self | (refine (xu_ne (by omega)).trans ?_; first | assumption | exact xu_self | (refine (xu_ne (by omega)).trans ?_; first | assumption | exact xu_self))))) rfl xu_BE 0 (by decide) xk_BE_f13 (by rfl) xd_BE_at_21 rfl ?_
  refine xv_iload_n (pc' := 25) (i := 2) hF xd_BE_at_24 rfl rfl rfl ?_
  refine xv_new (pc' := 28) (ci := 2) (fs := [.null, .null]) hF rfl xu_RE xt_RE xo_RE xk_BE_c11 xk_a_RE xk_n_RE (by decide +kernel) (Nat.le_of_ble_eq_true rfl) (Nat.le_of_ble_eq_true rfl) xd_BE_at_25 rfl (fun hnw => ?_)
  refine xv_dup (pc' := 29) hF xd_BE_at_28 rfl rfl ?_
  refine xv_callINv (pc' := 32) hF (c_RE_init K n _ xu_self) xq_RE_init xk_BE_m21 xk_i_RE_init rfl ⟨(Nat.le_of_ble_eq_true rfl), (Nat.le_of_ble_eq_true rfl)⟩ rfl rfl (Nat.le_of_ble_eq_true rfl) ⟨(Nat.le_of_ble_eq_true rfl), (Nat.le_of_ble_eq_true rfl)⟩ xd_BE_at_29 rfl (fun n1 h1 p1 => ?_)
  obtain ⟨rfl, hlo, hnew⟩ := p1
  have q1 : h1 (o + 8) = some (.inr (5, [.ref (o + 9), .int (nI ht), .ref sp])) := by rw [hlo _ (by omega), xu_ne (by omega)]; exact p1
  have q2 : h1 (o + 9) = some (.inl (K.2.2.1 4, 24, .inr (.inr (.inr (.inr pl))))) := by rw [hlo _ (by omega), xu_ne (by omega)]; exact p2
  have hf : ∀ q, q < n → h1 q = h q := fun q hq => by rw [hlo q hq, xu_ne (by omega)]
  have keep : ∀ {a : Nat} {M : Nat → Nat → Nat}, be_ok o n a → re_R K h a M → re_R K h1 a M := by
    rintro a M ha ⟨f, g, ⟨h1, h2, h3⟩, h4⟩
    unfold be_ok at ha
    exact ⟨f, g, ⟨by rw [hf _ (by omega)]; exact h1, by rw [hf _ (by omega)]; exact h2, by rw [hf _ (by omega)]; exact h3⟩, h4⟩
  obtain ⟨fz, gz, ⟨z1, z2, z3⟩, z4⟩ := id hnew
  refine xv_aastN (pc' := 33) (ci := 2) 4 hF (by first | assumption | exact xu_self | (refine (xu_ne (by omega)).trans ?_; first | assumption | exact xu_self | (refine (xu_ne (by omega)).trans ?_; first | assumption | exact xu_self | (refine (xu_ne (by omega)).trans ?_; first | assumption | exact xu_self | (refine (xu_ne (by omega)).trans ?_; first | assumption | exact xu_self))))) rfl (by first | assumption | exact xu_self | (refine (xu_ne (by omega)).trans ?_; first | assumption | exact xu_self | (refine (xu_ne (by omega)).trans ?_; first | assumption | exact xu_self | (refine (xu_ne (by omega)).trans ?_; first | assumption | exact xu_self | (refine (xu_ne (by omega)).trans ?_; first | assumption | exact xu_self))))) rfl (by omega) (by decide) xd_BE_at_32 rfl ?_
  refine xv_aload_n (pc' := 34) (i := 0) hF xd_BE_at_33 rfl rfl rfl ?_
  refine xv_get (pc' := 37) (ci := 5) hF (by first | assumption | exact xu_self | (refine (xu_ne (by omega)).trans ?_; first | assumption | exact xu_self | (refine (xu_ne (by omega)).trans ?_; first | assumption | exact xu_self | (refine (xu_ne (by omega)).trans ?_; first | assumption | exact xu_self | (refine (xu_ne (by omega)).trans ?_; first | assumption | exact xu_self))))) rfl xu_BE 0 (by decide) xk_BE_f13 (by rfl) xd_BE_at_34 rfl ?_
  refine xv_iload_n (pc' := 38) (i := 2) hF xd_BE_at_37 rfl rfl rfl ?_
  refine xv_aaldN (pc' := 39) 4 hF (by first | assumption | exact xu_self | (refine (xu_ne (by omega)).trans ?_; first | assumption | exact xu_self | (refine (xu_ne (by omega)).trans ?_; first | assumption | exact xu_self | (refine (xu_ne (by omega)).trans ?_; first | assumption | exact xu_self | (refine (xu_ne (by omega)).trans ?_; first | assumption | exact xu_self))))) rfl (by omega) (by decide) xd_BE_at_38 rfl ?_
  refine xv_top (v' := .ref n) (by rw [show va_up pl made (some n) made = some n from va_up_self _ _ _]; rfl) ?_
  refine hR _ _ _ _ _ _ _ (by omega) (by omega) ?_ xd_BE_at_39
  have hf2 : ∀ q, q ≠ o + 8 → q ≠ o + 9 → (xu h1 (o + 9) (.inl (K.2.2.1 4, 24, .inr (.inr (.inr (.inr (va_up pl made (some n)))))))) q = h1 q := fun q _ h2 => xu_ne h2
  have oknew : be_ok o (n + 3) n := ⟨Or.inr i2, Nat.le_refl _⟩
  have okup : ∀ {a : Nat}, be_ok o n a → be_ok o (n + 3) a := fun ha => ⟨ha.1, by have := ha.2; omega⟩
  refine ⟨rfl, rfl, fun q a b c d e => by rw [hf2 q b c, hf q (by omega)], ⟨va_up pl made (some n), by rw [xu_ne (by omega)]; exact q1, xu_self, fun i hi => ?_, fun i h1 h2 => ?_⟩, ?_⟩
  · unfold va_up
    by_cases c : i = made
    · rw [if_pos c, if_pos c]
    · rw [if_neg c, if_neg c]; exact p3 i (by omega)
  · unfold va_up
    rw [if_neg (by omega)]; exact p4 i (by omega) h2
  · refine be_in.own hf2 ⟨by omega, by omega, fun j hj => ?_, okup i4, ⟨Ms, keep i4 i5⟩, fun i j hi hj hne => ?_, fun i hi => ?_⟩
    · unfold va_up
      by_cases c : j = made
      · rw [if_pos c, if_pos c]; exact ⟨oknew, hnew⟩
      · rw [if_neg c, if_neg c]; exact ⟨okup (i3 j (by omega)).1, keep (i3 j (by omega)).1 (i3 j (by omega)).2⟩
    · unfold va_up
      by_cases c : i = made
      · rw [if_pos c, if_neg (by omega)]
        have := (i3 j (by omega)).1.2
        exact Or.inr this
      · by_cases c2 : j = made
        · rw [if_neg c, if_pos c2]
          have := (i3 i (by omega)).1.2
          exact Or.inl this
        · rw [if_neg c, if_neg c2]; exact i6 i j (by omega) (by omega) hne
    · unfold va_up
      by_cases c : i = made
      · rw [if_pos c]; exact Or.inr i4.2
      · rw [if_neg c]; exact i7 i (by omega)
set_option maxHeartbeats 4000000 in
set_option maxRecDepth 100000 in
theorem c_BE_top (K : xK) (n : Nat) (h : xH) (o ht made : Nat) (ad : Nat → Nat) (sp : Nat) (Mv : Nat → Nat → Nat → Nat) (hr : be_R K h n o ht made ad sp Mv) (h1 : 1 ≤ ht) (h2 : ht ≤ made) : XM K xy_BE_top xw_BE_top (xrm 2 38 0 0) [.ref (o + 8)] n h (x_pr fun r n' h' => r = ad (ht - 1) ∧ n = n' ∧ h = h') 0 0 := by
  obtain ⟨⟨pl, p1, p2, p3⟩, pin⟩ := id hr
  have h24 := pin.1
  refine xm_r (by decide +kernel) (Nat.le_of_ble_eq_true rfl) (fun G hF hR => ?_)
  refine xv_aload_n (pc' := 1) (i := 0) hF xd_BE_top_0 rfl rfl rfl ?_
  refine xv_aload_n (pc' := 2) (i := 0) hF xd_BE_top_1 rfl rfl rfl ?_
  refine xv_get (pc' := 5) (ci := 5) hF (by first | assumption | exact xu_self | (refine (xu_ne (by omega)).trans ?_; first | assumption | exact xu_self | (refine (xu_ne (by omega)).trans ?_; first | assumption | exact xu_self | (refine (xu_ne (by omega)).trans ?_; first | assumption | exact xu_self | (refine (xu_ne (by omega)).trans ?_; first | assumption | exact xu_self))))) rfl xu_BE 1 (by decide) xk_BE_f17 (by rfl) xd_BE_top_2 rfl ?_
  refine xv_iconstN (pc' := 6) 1 hF xd_BE_top_5 (by decide +kernel) rfl ?_
  first | refine xv_isubN (pc' := 7) hF (by omega) xd_BE_top_6 rfl ?_ | refine xv_isub (pc' := 7) hF xd_BE_top_6 rfl ?_
  refine xv_callVr (pc' := 10) (ci := 5) hF (c_BE_at K n h o ht made (ht - 1) ad sp Mv hr (by omega)) xq_BE_at xk_BE_m26 xk_i_BE_at xk_s_BE_at (by first | assumption | exact xu_self | (refine (xu_ne (by omega)).trans ?_; first | assumption | exact xu_self | (refine (xu_ne (by omega)).trans ?_; first | assumption | exact xu_self | (refine (xu_ne (by omega)).trans ?_; first | assumption | exact xu_self | (refine (xu_ne (by omega)).trans ?_; first | assumption | exact xu_self))))) rfl ⟨(Nat.le_of_ble_eq_true rfl), (Nat.le_of_ble_eq_true rfl)⟩ rfl rfl (Nat.le_of_ble_eq_true rfl) ⟨(Nat.le_of_ble_eq_true rfl), (Nat.le_of_ble_eq_true rfl)⟩ xd_BE_top_7 rfl (fun r n1 h1 q1 => ?_)
  obtain ⟨rfl, rfl, rfl⟩ := q1
  refine hR _ _ _ _ _ _ _ (by omega) (by omega) ?_ xd_BE_top_10
  exact ⟨rfl, rfl, rfl⟩
