/-! switches -/
theorem xv_tabIn {G : xG} {K : xK} {cc : ByteArray} {own : String} {rm0 : Room} {mL k kS pc n : Nat} {L : List (Nat × Value)} {st : List Value} {h : xH} {dflt lo hi : Int} {offs : Array Int} {len : Nat} {x : Int32} {off : Int} {tgt : Nat} (hF : XF G K cc own rm0 mL) (hd : decode cc pc = .ok (.tableswitch dflt lo hi offs, len)) (h1 : ¬ x.toInt < lo) (h2 : ¬ hi < x.toInt) (ho : offs[(x.toInt - lo).toNat]? = some off) (ht : (pc : Int) + off = (tgt : Int)) (kk : XV G k kS tgt L st n h) : XV G k kS pc L (.int x :: st) n h := by
  obtain ⟨p, e, R, s, m, args, below, meth, c, ⟨l, D, cx, b⟩, H0, maxL, Q⟩ := G
  obtain ⟨⟨hx, hb, hml, hown, hts⟩, hK, rfl, hbs, rfl, rfl, hN⟩ := hF
  intro H locs ls hok hS hl
  exact lv_tableIn hx hb hd h1 h2 ho ht (kk H locs ls hok hS hl)
theorem xv_tabOut {G : xG} {K : xK} {cc : ByteArray} {own : String} {rm0 : Room} {mL k kS pc n : Nat} {L : List (Nat × Value)} {st : List Value} {h : xH} {dflt lo hi : Int} {offs : Array Int} {len : Nat} {x : Int32} {tgt : Nat} (hF : XF G K cc own rm0 mL) (hd : decode cc pc = .ok (.tableswitch dflt lo hi offs, len)) (h1 : x.toInt < lo ∨ hi < x.toInt) (ht : (pc : Int) + dflt = (tgt : Int)) (kk : XV G k kS tgt L st n h) : XV G k kS pc L (.int x :: st) n h := by
  obtain ⟨p, e, R, s, m, args, below, meth, c, ⟨l, D, cx, b⟩, H0, maxL, Q⟩ := G
  obtain ⟨⟨hx, hb, hml, hown, hts⟩, hK, rfl, hbs, rfl, rfl, hN⟩ := hF
  intro H locs ls hok hS hl
  exact lv_tableOut hx hb hd h1 ht (kk H locs ls hok hS hl)
/-! orders on a pile of sets of lengths: kind k, more m, height ht -/
def bx_h (k ht : Nat) : Nat := if k < 6 then ht + 1 else if k < 8 then ht - 1 else ht
def bx_A (E : Nat → Nat → Nat → Bool) (Tg : Nat → Nat → Bool) (k m ht : Nat) (A : Nat → pd_L) : Nat → pd_L := match k with
  | 0 => va_up A ht pd_no
  | 1 => va_up A ht pd_id
  | 2 => va_up A ht (pd_eg (fun i j => gh_nx E (nI m) i j 8 = true))
  | 3 => va_up A ht (pd_eg (fun i j => gh_nx E (nI m) j i 8 = true))
  | 4 => va_up A ht (pd_ts (fun i => Tg m i = true))
  | 5 => va_up A ht (pd_ts (fun i => Tg m i = false))
  | 6 => va_up A (ht - 2) (pd_seq (A (ht - 2)) (A (ht - 1)))
  | 7 => va_up A (ht - 2) (pd_or (A (ht - 2)) (A (ht - 1)))
  | 8 => va_up A (ht - 1) (pd_or pd_id (pd_ps (A (ht - 1))))
  | 9 => va_up A (ht - 1) (pd_ps (A (ht - 1)))
  | 10 => va_up A (ht - 1) (pd_or pd_id (A (ht - 1)))
  | _ => va_up A (ht - 1) (pd_cp (A (ht - 1)) (m / 10) (m % 10))
def bx_N (k m ht : Nat) (N : Nat → Nat) : Nat → Nat := match k with
  | 0 => va_up N ht 0
  | 1 => va_up N ht 0
  | 2 => va_up N ht 32
  | 3 => va_up N ht 32
  | 4 => va_up N ht 32
  | 5 => va_up N ht 32
  | 6 => va_up N (ht - 2) (N (ht - 2) + N (ht - 1))
  | 7 => va_up N (ht - 2) (N (ht - 2) + N (ht - 1))
  | 8 => N
  | 9 => N
  | 10 => N
  | _ => va_up N (ht - 1) (N (ht - 1) * (m % 10))
/-- what an order needs -/
def bx_ok (k m ht : Nat) : Prop := k < 12 ∧ m < 100000 ∧ ((k = 4 ∨ k = 5) → m < 4) ∧ ((k < 6 ∨ k = 11) → ht < 24) ∧ ((k = 6 ∨ k = 7) → 2 ≤ ht) ∧ (8 ≤ k → 1 ≤ ht)
/-- whether it makes a relation -/
def bx_mk (k ht made : Nat) : Nat := if (k < 6 ∨ k = 11) ∧ ht = made then 1 else 0
def be_S (K : xK) (h : xH) (n o ht made : Nat) (A : Nat → pd_L) (N : Nat → Nat) : Prop := ht ≤ made ∧ (∀ i, i < ht → pd_nd (A i) ∧ pd_au (A i) (N i) ∧ N i ≤ 2560) ∧ ∃ ad sp Mv, be_R K h n o ht made ad sp Mv ∧ ∀ i, i < ht → pd_mn (A i) (Mv i)
theorem gh_R.keepB {K : xK} {h h' : xH} {o e : Nat} {E : Nat → Nat → Nat → Bool} {Tg : Nat → Nat → Bool} (hfr : be_fr o h h') (p : gh_R K h (o + 1) E Tg e) : gh_R K h' (o + 1) E Tg e := by
  obtain ⟨f, g, ⟨h1, h2, h3⟩, h4⟩ := p
  exact ⟨f, g, ⟨(hfr _ (by omega) (by omega) (by omega) (by omega) (by omega)).trans h1, (hfr _ (by omega) (by omega) (by omega) (by omega) (by omega)).trans h2, (hfr _ (by omega) (by omega) (by omega) (by omega) (by omega)).trans h3⟩, h4⟩
theorem be_apG {o n a : Nat} (h : be_ok o n a) : re_ap a (o + 1) := by
  unfold be_ok at h
  unfold re_ap
  omega
/-- a relation laid down and then told -/
theorem be_Snew {K : xK} {h' : xH} {n' o ht made' : Nat} {A : Nat → pd_L} {N : Nat → Nat} {ad' : Nat → Nat} {sp : Nat} {Mv : Nat → Nat → Nat → Nat} {M' : Nat → Nat → Nat} {B : pd_L} {b : Nat} (hm : ht + 1 ≤ made') (hA : ∀ i, i < ht → pd_nd (A i) ∧ pd_au (A i) (N i) ∧ N i ≤ 2560) (hM : ∀ i, i < ht → pd_mn (A i) (Mv i)) (hr : be_R K h' n' o (ht + 1) made' ad' sp (va_up Mv ht M')) (hB : pd_mn B M') (nB : pd_nd B) (uB : pd_au B b) (hb : b ≤ 2560) : be_S K h' n' o (ht + 1) made' (va_up A ht B) (va_up N ht b) := by
  refine ⟨hm, fun i hi => ?_, ad', sp, _, hr, fun i hi => ?_⟩
  · unfold va_up
    by_cases c : i = ht
    · rw [if_pos c, if_pos c]; exact ⟨nB, uB, hb⟩
    · rw [if_neg c, if_neg c]; exact hA i (by omega)
  · unfold va_up
    by_cases c : i = ht
    · rw [if_pos c, if_pos c]; exact hB
    · rw [if_neg c, if_neg c]; exact hM i (by omega)
/-- the one at place j told anew; the height ht' -/
theorem be_Sup {K : xK} {h' : xH} {n' o ht ht' made' j : Nat} {A : Nat → pd_L} {N : Nat → Nat} {ad' : Nat → Nat} {sp : Nat} {Mv Mv' : Nat → Nat → Nat → Nat} {B : pd_L} {b : Nat} (hm : ht' ≤ made') (hle : ht' ≤ ht) (hj : ht' = j + 1) (hA : ∀ i, i < ht → pd_nd (A i) ∧ pd_au (A i) (N i) ∧ N i ≤ 2560) (hM : ∀ i, i < ht → pd_mn (A i) (Mv i)) (hr : be_R K h' n' o ht' made' ad' sp Mv') (hs : ∀ i, i < j → Mv' i = Mv i) (hB : pd_mn B (Mv' j)) (nB : pd_nd B) (uB : pd_au B b) (hb : b ≤ 2560) : be_S K h' n' o ht' made' (va_up A j B) (va_up N j b) := by
  refine ⟨hm, fun i hi => ?_, ad', sp, _, hr, fun i hi => ?_⟩
  · unfold va_up
    by_cases c : i = j
    · rw [if_pos c, if_pos c]; exact ⟨nB, uB, hb⟩
    · rw [if_neg c, if_neg c]; exact hA i (by omega)
  · unfold va_up
    by_cases c : i = j
    · rw [if_pos c, c]; exact hB
    · rw [if_neg c, hs i (by omega)]; exact hM i (by omega)
theorem va_up_same {α : Type} (f : Nat → α) (k : Nat) : va_up f k (f k) = f := by
  funext j
  unfold va_up
  split
  · rename_i h; rw [h]
  · rfl
set_option maxHeartbeats 4000000 in
set_option maxRecDepth 100000 in
theorem c_BE_carryOut (K : xK) (n : Nat) (h : xH) (o ht made k m e : Nat) (A : Nat → pd_L) (N : Nat → Nat) (E : Nat → Nat → Nat → Bool) (Tg : Nat → Nat → Bool) (hS0 : be_S K h n o ht made A N) (hg : gh_R K h (o + 1) E Tg e) (hok : bx_ok k m ht) (hN' : ∀ i, i < bx_h k ht → bx_N k m ht N i ≤ 2560) : XM K xy_BE_carryOut xw_BE_carryOut (xrm 5 102 (3 * bx_mk k ht made) (1058 * bx_mk k ht made)) [.ref (o + 8), .int (nI (k + 16 * m)), .ref (o + 1)] n h (x_pv fun n' h' => n' = n + 3 * bx_mk k ht made ∧ be_fr o h h' ∧ be_S K h' n' o (bx_h k ht) (made + bx_mk k ht made) (bx_A E Tg k m ht A) (bx_N k m ht N)) (3 * bx_mk k ht made) (1058 * bx_mk k ht made) := by
  obtain ⟨hm, hA, ad, sp, Mv, hr, hM⟩ := hS0
  obtain ⟨k12, m5, ok4, ok24, ok2, ok1⟩ := hok
  obtain ⟨⟨pl, p1, p2, p3⟩, pin⟩ := id hr
  obtain ⟨gT, gg, ⟨g1, g2, g3⟩, g4⟩ := id hg
  obtain ⟨mk, emk⟩ : ∃ mk, mk = bx_mk k ht made := ⟨_, rfl⟩
  rw [← emk]
  have hmk : (k < 6 ∨ k = 11) → ((mk = 0 ∧ ht < made) ∨ (mk = 1 ∧ ht = made)) := by
    intro hk
    rw [emk]; unfold bx_mk
    by_cases c : ht = made
    · rw [if_pos ⟨hk, c⟩]; exact Or.inr ⟨rfl, c⟩
    · rw [if_neg (fun q => c q.2)]; exact Or.inl ⟨rfl, by omega⟩
  have hmk0 : ¬ (k < 6 ∨ k = 11) → mk = 0 := by
    intro hk
    rw [emk]; unfold bx_mk
    rw [if_neg (fun q => hk q.1)]
  clear emk
  refine xm_v (by decide +kernel) (Nat.le_of_ble_eq_true rfl) (fun G hF hR => ?_)
  refine xv_iload_n (pc' := 1) (i := 1) hF xd_BE_carryOut_0 rfl rfl rfl ?_
  refine xv_iconstN (pc' := 2) 4 hF xd_BE_carryOut_1 (by decide +kernel) rfl ?_
  first | refine xv_iushrN (pc' := 3) hF (by omega) (by decide) xd_BE_carryOut_2 rfl ?_ | refine xv_iushr (pc' := 3) hF xd_BE_carryOut_2 rfl rfl ?_
  refine xv_topi (v' := nI m) (by congr 1; omega) ?_
  refine xv_istore_n (pc' := 4) (i := 3) hF xd_BE_carryOut_3 rfl (Nat.le_of_ble_eq_true rfl) rfl rfl ?_
  refine xv_iload_n (pc' := 5) (i := 1) hF xd_BE_carryOut_4 rfl rfl rfl ?_
  refine xv_bipushN (pc' := 7) 15 hF xd_BE_carryOut_5 (by decide +kernel) rfl ?_
  first | refine xv_iandN (pc' := 8) hF xd_BE_carryOut_7 rfl ?_ | refine xv_iand (pc' := 8) hF xd_BE_carryOut_7 rfl ?_
  refine xv_topi (v' := nI k) (by rw [show (15 : Nat) = 2 ^ 4 - 1 from rfl, Nat.and_two_pow_sub_one_eq_mod]; congr 1; omega) ?_
  have lay : ∀ pc, k < 6 ∨ k = 11 → decode xc_BE_carryOut pc = .ok (.invokevirtual 32, 3) → (∀ h1 n1 ad1, n1 = n + 3 * mk → be_fr o h h1 → ht < made + mk → be_R K h1 n1 o (ht + 1) (made + mk) ad1 sp (va_up Mv ht md_no) → XV G (0 + 3 * mk) (0 + 1058 * mk) (pc + 3) [(3, .int (nI m)), (0, .ref (o + 8)), (1, .int (nI (k + 16 * m))), (2, .ref (o + 1))] [.ref (ad1 ht)] n1 h1) → XV G 0 0 pc [(3, .int (nI m)), (0, .ref (o + 8)), (1, .int (nI (k + 16 * m))), (2, .ref (o + 1))] [.ref (o + 8)] n h := by
    intro pc hk hd kk
    refine xv_callVr (pc' := pc + 3) (ci := 5) hF (c_BE_layDown K n h o ht made mk ad sp Mv hr (ok24 hk) (hmk hk)) xq_BE_layDown xk_BE_m32 xk_i_BE_layDown xk_s_BE_layDown (by assumption) rfl ⟨(Nat.le_of_ble_eq_true rfl), (Nat.le_of_ble_eq_true rfl)⟩ rfl rfl (Nat.le_of_ble_eq_true rfl) ⟨(by show 0 + 3 * mk ≤ 3 * mk; omega), (by show 0 + 1058 * mk ≤ 1058 * mk; omega)⟩ hd rfl (fun r n1 h1 q1 => ?_)
    obtain ⟨e1, hfr1, ad1, rfl, -, hr1⟩ := q1
    have := hmk hk
    exact kk h1 n1 ad1 e1 hfr1 (by omega) hr1
  have top : ∀ (k0 kS0 pc : Nat) (h1 : xH) (Mv1 : Nat → Nat → Nat → Nat), 1 ≤ ht → k0 ≤ 3 * mk → kS0 ≤ 1058 * mk → be_R K h1 n o ht made ad sp Mv1 → decode xc_BE_carryOut pc = .ok (.invokevirtual 56, 3) → XV G (k0 + 0) (kS0 + 0) (pc + 3) [(3, .int (nI m)), (0, .ref (o + 8)), (1, .int (nI (k + 16 * m))), (2, .ref (o + 1))] [.ref (ad (ht - 1))] n h1 → XV G k0 kS0 pc [(3, .int (nI m)), (0, .ref (o + 8)), (1, .int (nI (k + 16 * m))), (2, .ref (o + 1))] [.ref (o + 8)] n h1 := by
    intro k0 kS0 pc h1 Mv1 h1' hk0 hkS0 hr1 hd kk
    obtain ⟨⟨pl1, w1, w2, w3⟩, -⟩ := id hr1
    refine xv_callVr (pc' := pc + 3) (ci := 5) hF (c_BE_top K n h1 o ht made ad sp Mv1 hr1 h1' hm) xq_BE_top xk_BE_m56 xk_i_BE_top xk_s_BE_top (by assumption) rfl ⟨(Nat.le_of_ble_eq_true rfl), (Nat.le_of_ble_eq_true rfl)⟩ rfl rfl (Nat.le_of_ble_eq_true rfl) ⟨(by show k0 + 0 ≤ 3 * mk; omega), (by show kS0 + 0 ≤ 1058 * mk; omega)⟩ hd rfl (fun r n1 h2 q1 => ?_)
    obtain ⟨rfl, rfl, rfl⟩ := q1
    exact kk
  have hnoid : pd_or pd_no pd_id = pd_id := pd_no_or _
  have c12 : k = 0 ∨ k = 1 ∨ k = 2 ∨ k = 3 ∨ k = 4 ∨ k = 5 ∨ k = 6 ∨ k = 7 ∨ k = 8 ∨ k = 9 ∨ k = 10 ∨ k = 11 := by omega
  rcases c12 with rfl | rfl | rfl | rfl | rfl | rfl | rfl | rfl | rfl | rfl | rfl | rfl
  · refine xv_tabIn (off := 60) (tgt := 68) hF xd_BE_carryOut_8 (by decide +kernel) (by decide +kernel) (by decide +kernel) (by decide) ?_
    refine xv_aload_n (pc' := 69) (i := 0) hF xd_BE_carryOut_68 rfl rfl rfl ?_
    refine xv_loc _ (by repeat (first | exact trivial | refine ⟨rfl, ?_⟩)) (lay 69 (by omega) xd_BE_carryOut_69 fun h1 n1 ad1 e1 hfr1 hlt hr1 => ?_)
    subst e1
    refine xv_pop (pc' := 73) hF xd_BE_carryOut_72 rfl rfl ?_
    refine xv_goto (tgt := 210) hF xd_BE_carryOut_73 (by decide) ?_
    refine hR _ _ _ _ _ _ (by omega) (by omega) ?_ xd_BE_carryOut_210
    exact ⟨rfl, hfr1, be_Snew (by omega) hA hM hr1 mn_no pd_nd_no pd_au_no (by omega)⟩
  · refine xv_tabIn (off := 68) (tgt := 76) hF xd_BE_carryOut_8 (by decide +kernel) (by decide +kernel) (by decide +kernel) (by decide) ?_
    refine xv_aload_n (pc' := 77) (i := 0) hF xd_BE_carryOut_76 rfl rfl rfl ?_
    refine xv_loc _ (by repeat (first | exact trivial | refine ⟨rfl, ?_⟩)) (lay 77 (by omega) xd_BE_carryOut_77 fun h1 n1 ad1 e1 hfr1 hlt hr1 => ?_)
    subst e1
    obtain ⟨f, g, ⟨z1, z2, z3⟩, z4⟩ := id (hr1.2.2.2.1 ht hlt).2
    refine xv_iconst (pc' := 81) (v := -1) hF xd_BE_carryOut_80 (by decide +kernel) rfl ?_
    refine xv_callVv (pc' := 84) (ci := 2) hF (c_RE_addStays K _ h1 (ad1 ht) (-1) _ (hr1.2.2.2.1 ht hlt).2) xq_RE_addStays xk_BE_m36 xk_i_RE_addStays xk_s_RE_addStays (by first | assumption | exact xu_self | (refine (xu_ne (by omega)).trans ?_; first | assumption | exact xu_self | (refine (xu_ne (by omega)).trans ?_; first | assumption | exact xu_self | (refine (xu_ne (by omega)).trans ?_; first | assumption | exact xu_self | (refine (xu_ne (by omega)).trans ?_; first | assumption | exact xu_self))))) rfl ⟨(Nat.le_of_ble_eq_true rfl), (Nat.le_of_ble_eq_true rfl)⟩ rfl rfl (Nat.le_of_ble_eq_true rfl) ⟨(by first | (show 0 + 3 * mk + 0 ≤ 3 * mk; omega) | (show 0 + 1058 * mk + 0 ≤ 1058 * mk; omega)), (by first | (show 0 + 3 * mk + 0 ≤ 3 * mk; omega) | (show 0 + 1058 * mk + 0 ≤ 1058 * mk; omega))⟩ xd_BE_carryOut_81 rfl (fun n2 h2 q2 => ?_)
    obtain ⟨rfl, f2, r2⟩ := q2
    rw [va_up_self] at r2
    have hr2 := be_upd hr1 hlt f2 r2
    rw [bx_uu] at hr2
    refine xv_goto (tgt := 210) hF xd_BE_carryOut_84 (by decide) ?_
    refine hR _ _ _ _ _ _ (by omega) (by omega) ?_ xd_BE_carryOut_210
    refine ⟨rfl, hfr1.tr (be_frR (hr1.2.2.2.1 ht hlt).1 f2), be_Snew (by omega) hA hM hr2 ?_ pd_nd_id pd_au_id (by omega)⟩
    rw [pd_id_ts, ← pd_no_or (pd_ts _)]
    exact mn_st mn_no fun i hi => by simp [b_m1 i hi]
  · refine xv_tabIn (off := 79) (tgt := 87) hF xd_BE_carryOut_8 (by decide +kernel) (by decide +kernel) (by decide +kernel) (by decide) ?_
    refine xv_aload_n (pc' := 88) (i := 0) hF xd_BE_carryOut_87 rfl rfl rfl ?_
    refine xv_loc _ (by repeat (first | exact trivial | refine ⟨rfl, ?_⟩)) (lay 88 (by omega) xd_BE_carryOut_88 fun h1 n1 ad1 e1 hfr1 hlt hr1 => ?_)
    subst e1
    obtain ⟨f, g, ⟨z1, z2, z3⟩, z4⟩ := id (hr1.2.2.2.1 ht hlt).2
    refine xv_aload_n (pc' := 92) (i := 2) hF xd_BE_carryOut_91 rfl rfl rfl ?_
    refine xv_iload_n (pc' := 93) (i := 3) hF xd_BE_carryOut_92 rfl rfl rfl ?_
    refine xv_iconstN (pc' := 94) 0 hF xd_BE_carryOut_93 (by decide +kernel) rfl ?_
    refine xv_topi (v' := xb false) (by decide +kernel) ?_
    refine xv_callVv (pc' := 97) (ci := 2) hF (c_RE_addEdges K _ h1 (ad1 ht) (o + 1) e (nI m) false _ E Tg (hr1.2.2.2.1 ht hlt).2 (hg.keepB hfr1) (be_apG (hr1.2.2.2.1 ht hlt).1)) xq_RE_addEdges xk_BE_m40 xk_i_RE_addEdges xk_s_RE_addEdges (by first | assumption | exact xu_self | (refine (xu_ne (by omega)).trans ?_; first | assumption | exact xu_self | (refine (xu_ne (by omega)).trans ?_; first | assumption | exact xu_self | (refine (xu_ne (by omega)).trans ?_; first | assumption | exact xu_self | (refine (xu_ne (by omega)).trans ?_; first | assumption | exact xu_self))))) rfl ⟨(Nat.le_of_ble_eq_true rfl), (Nat.le_of_ble_eq_true rfl)⟩ rfl rfl (Nat.le_of_ble_eq_true rfl) ⟨(by first | (show 0 + 3 * mk + 0 ≤ 3 * mk; omega) | (show 0 + 1058 * mk + 0 ≤ 1058 * mk; omega)), (by first | (show 0 + 3 * mk + 0 ≤ 3 * mk; omega) | (show 0 + 1058 * mk + 0 ≤ 1058 * mk; omega))⟩ xd_BE_carryOut_94 rfl (fun n2 h2 q2 => ?_)
    obtain ⟨rfl, f2, r2⟩ := q2
    rw [va_up_self] at r2
    have hr2 := be_upd hr1 hlt f2 r2
    rw [bx_uu] at hr2
    refine xv_goto (tgt := 210) hF xd_BE_carryOut_97 (by decide) ?_
    refine hR _ _ _ _ _ _ (by omega) (by omega) ?_ xd_BE_carryOut_210
    refine ⟨rfl, hfr1.tr (be_frR (hr1.2.2.2.1 ht hlt).1 f2), be_Snew (by omega) hA hM hr2 ?_ (pd_nd_eg _) (pd_au_eg _) (by omega)⟩
    rw [← pd_no_or (pd_eg _)]
    exact mn_ae (bw := false) (nx := fun i j => gh_nx E (nI m) i j 8) mn_no
  · refine xv_tabIn (off := 92) (tgt := 100) hF xd_BE_carryOut_8 (by decide +kernel) (by decide +kernel) (by decide +kernel) (by decide) ?_
    refine xv_aload_n (pc' := 101) (i := 0) hF xd_BE_carryOut_100 rfl rfl rfl ?_
    refine xv_loc _ (by repeat (first | exact trivial | refine ⟨rfl, ?_⟩)) (lay 101 (by omega) xd_BE_carryOut_101 fun h1 n1 ad1 e1 hfr1 hlt hr1 => ?_)
    subst e1
    obtain ⟨f, g, ⟨z1, z2, z3⟩, z4⟩ := id (hr1.2.2.2.1 ht hlt).2
    refine xv_aload_n (pc' := 105) (i := 2) hF xd_BE_carryOut_104 rfl rfl rfl ?_
    refine xv_iload_n (pc' := 106) (i := 3) hF xd_BE_carryOut_105 rfl rfl rfl ?_
    refine xv_iconstN (pc' := 107) 1 hF xd_BE_carryOut_106 (by decide +kernel) rfl ?_
    refine xv_topi (v' := xb true) (by decide +kernel) ?_
    refine xv_callVv (pc' := 110) (ci := 2) hF (c_RE_addEdges K _ h1 (ad1 ht) (o + 1) e (nI m) true _ E Tg (hr1.2.2.2.1 ht hlt).2 (hg.keepB hfr1) (be_apG (hr1.2.2.2.1 ht hlt).1)) xq_RE_addEdges xk_BE_m40 xk_i_RE_addEdges xk_s_RE_addEdges (by first | assumption | exact xu_self | (refine (xu_ne (by omega)).trans ?_; first | assumption | exact xu_self | (refine (xu_ne (by omega)).trans ?_; first | assumption | exact xu_self | (refine (xu_ne (by omega)).trans ?_; first | assumption | exact xu_self | (refine (xu_ne (by omega)).trans ?_; first | assumption | exact xu_self))))) rfl ⟨(Nat.le_of_ble_eq_true rfl), (Nat.le_of_ble_eq_true rfl)⟩ rfl rfl (Nat.le_of_ble_eq_true rfl) ⟨(by first | (show 0 + 3 * mk + 0 ≤ 3 * mk; omega) | (show 0 + 1058 * mk + 0 ≤ 1058 * mk; omega)), (by first | (show 0 + 3 * mk + 0 ≤ 3 * mk; omega) | (show 0 + 1058 * mk + 0 ≤ 1058 * mk; omega))⟩ xd_BE_carryOut_107 rfl (fun n2 h2 q2 => ?_)
    obtain ⟨rfl, f2, r2⟩ := q2
    rw [va_up_self] at r2
    have hr2 := be_upd hr1 hlt f2 r2
    rw [bx_uu] at hr2
    refine xv_goto (tgt := 210) hF xd_BE_carryOut_110 (by decide) ?_
    refine hR _ _ _ _ _ _ (by omega) (by omega) ?_ xd_BE_carryOut_210
    refine ⟨rfl, hfr1.tr (be_frR (hr1.2.2.2.1 ht hlt).1 f2), be_Snew (by omega) hA hM hr2 ?_ (pd_nd_eg _) (pd_au_eg _) (by omega)⟩
    rw [← pd_no_or (pd_eg _)]
    exact mn_ae (bw := true) (nx := fun i j => gh_nx E (nI m) i j 8) mn_no
  · refine xv_tabIn (off := 105) (tgt := 113) hF xd_BE_carryOut_8 (by decide +kernel) (by decide +kernel) (by decide +kernel) (by decide) ?_
    refine xv_aload_n (pc' := 114) (i := 0) hF xd_BE_carryOut_113 rfl rfl rfl ?_
    refine xv_loc _ (by repeat (first | exact trivial | refine ⟨rfl, ?_⟩)) (lay 114 (by omega) xd_BE_carryOut_114 fun h1 n1 ad1 e1 hfr1 hlt hr1 => ?_)
    subst e1
    have hg1 := hg.keepB hfr1
    obtain ⟨gT1, gg1, ⟨j1, j2, j3⟩, j4⟩ := id hg1
    refine xv_aload_n (pc' := 118) (i := 2) hF xd_BE_carryOut_117 rfl rfl rfl ?_
    refine xv_iload_n (pc' := 119) (i := 3) hF xd_BE_carryOut_118 rfl rfl rfl ?_
    refine xv_callVi (pc' := 122) (ci := 1) hF (c_GR_nodesWith K _ h1 (o + 1) m e E Tg hg1 (ok4 (by omega))) xq_GR_nodesWith xk_BE_m44 xk_i_GR_nodesWith xk_s_GR_nodesWith (by first | assumption | exact xu_self | (refine (xu_ne (by omega)).trans ?_; first | assumption | exact xu_self | (refine (xu_ne (by omega)).trans ?_; first | assumption | exact xu_self | (refine (xu_ne (by omega)).trans ?_; first | assumption | exact xu_self | (refine (xu_ne (by omega)).trans ?_; first | assumption | exact xu_self))))) rfl ⟨(Nat.le_of_ble_eq_true rfl), (Nat.le_of_ble_eq_true rfl)⟩ rfl rfl (Nat.le_of_ble_eq_true rfl) ⟨(by first | (show 0 + 3 * mk + 0 ≤ 3 * mk; omega) | (show 0 + 1058 * mk + 0 ≤ 1058 * mk; omega)), (by first | (show 0 + 3 * mk + 0 ≤ 3 * mk; omega) | (show 0 + 1058 * mk + 0 ≤ 1058 * mk; omega))⟩ xd_BE_carryOut_119 rfl (fun r n2 h2 q2 => ?_)
    obtain ⟨hx, rfl, rfl⟩ := q2
    obtain ⟨f, g, ⟨z1, z2, z3⟩, z4⟩ := id (hr1.2.2.2.1 ht hlt).2
    refine xv_callVv (pc' := 125) (ci := 2) hF (c_RE_addStays K _ h1 (ad1 ht) r _ (hr1.2.2.2.1 ht hlt).2) xq_RE_addStays xk_BE_m36 xk_i_RE_addStays xk_s_RE_addStays (by first | assumption | exact xu_self | (refine (xu_ne (by omega)).trans ?_; first | assumption | exact xu_self | (refine (xu_ne (by omega)).trans ?_; first | assumption | exact xu_self | (refine (xu_ne (by omega)).trans ?_; first | assumption | exact xu_self | (refine (xu_ne (by omega)).trans ?_; first | assumption | exact xu_self))))) rfl ⟨(Nat.le_of_ble_eq_true rfl), (Nat.le_of_ble_eq_true rfl)⟩ rfl rfl (Nat.le_of_ble_eq_true rfl) ⟨(by first | (show 0 + 3 * mk + 0 + 0 ≤ 3 * mk; omega) | (show 0 + 1058 * mk + 0 + 0 ≤ 1058 * mk; omega)), (by first | (show 0 + 3 * mk + 0 + 0 ≤ 3 * mk; omega) | (show 0 + 1058 * mk + 0 + 0 ≤ 1058 * mk; omega))⟩ xd_BE_carryOut_122 rfl (fun n2 h2 q2 => ?_)
    obtain ⟨rfl, f2, r2⟩ := q2
    rw [va_up_self] at r2
    have hr2 := be_upd hr1 hlt f2 r2
    rw [bx_uu] at hr2
    refine xv_goto (tgt := 210) hF xd_BE_carryOut_125 (by decide) ?_
    refine hR _ _ _ _ _ _ (by omega) (by omega) ?_ xd_BE_carryOut_210
    refine ⟨rfl, hfr1.tr (be_frR (hr1.2.2.2.1 ht hlt).1 f2), be_Snew (by omega) hA hM hr2 ?_ (pd_nd_ts _) (pd_au_ts _) (by omega)⟩
    rw [← pd_no_or (pd_ts _)]
    exact mn_st mn_no fun i hi => by rw [hx i hi]
  · refine xv_tabIn (off := 120) (tgt := 128) hF xd_BE_carryOut_8 (by decide +kernel) (by decide +kernel) (by decide +kernel) (by decide) ?_
    refine xv_aload_n (pc' := 129) (i := 0) hF xd_BE_carryOut_128 rfl rfl rfl ?_
    refine xv_loc _ (by repeat (first | exact trivial | refine ⟨rfl, ?_⟩)) (lay 129 (by omega) xd_BE_carryOut_129 fun h1 n1 ad1 e1 hfr1 hlt hr1 => ?_)
    subst e1
    have hg1 := hg.keepB hfr1
    obtain ⟨gT1, gg1, ⟨j1, j2, j3⟩, j4⟩ := id hg1
    refine xv_aload_n (pc' := 133) (i := 2) hF xd_BE_carryOut_132 rfl rfl rfl ?_
    refine xv_iload_n (pc' := 134) (i := 3) hF xd_BE_carryOut_133 rfl rfl rfl ?_
    refine xv_callVi (pc' := 137) (ci := 1) hF (c_GR_nodesWith K _ h1 (o + 1) m e E Tg hg1 (ok4 (by omega))) xq_GR_nodesWith xk_BE_m44 xk_i_GR_nodesWith xk_s_GR_nodesWith (by first | assumption | exact xu_self | (refine (xu_ne (by omega)).trans ?_; first | assumption | exact xu_self | (refine (xu_ne (by omega)).trans ?_; first | assumption | exact xu_self | (refine (xu_ne (by omega)).trans ?_; first | assumption | exact xu_self | (refine (xu_ne (by omega)).trans ?_; first | assumption | exact xu_self))))) rfl ⟨(Nat.le_of_ble_eq_true rfl), (Nat.le_of_ble_eq_true rfl)⟩ rfl rfl (Nat.le_of_ble_eq_true rfl) ⟨(by first | (show 0 + 3 * mk + 0 ≤ 3 * mk; omega) | (show 0 + 1058 * mk + 0 ≤ 1058 * mk; omega)), (by first | (show 0 + 3 * mk + 0 ≤ 3 * mk; omega) | (show 0 + 1058 * mk + 0 ≤ 1058 * mk; omega))⟩ xd_BE_carryOut_134 rfl (fun r n2 h2 q2 => ?_)
    obtain ⟨hx, rfl, rfl⟩ := q2
    obtain ⟨f, g, ⟨z1, z2, z3⟩, z4⟩ := id (hr1.2.2.2.1 ht hlt).2
    refine xv_iconst (pc' := 138) (v := -1) hF xd_BE_carryOut_137 (by decide +kernel) rfl ?_
    refine xv_ixor (pc' := 139) hF xd_BE_carryOut_138 rfl ?_
    refine xv_callVv (pc' := 142) (ci := 2) hF (c_RE_addStays K _ h1 (ad1 ht) (r ^^^ (-1)) _ (hr1.2.2.2.1 ht hlt).2) xq_RE_addStays xk_BE_m36 xk_i_RE_addStays xk_s_RE_addStays (by first | assumption | exact xu_self | (refine (xu_ne (by omega)).trans ?_; first | assumption | exact xu_self | (refine (xu_ne (by omega)).trans ?_; first | assumption | exact xu_self | (refine (xu_ne (by omega)).trans ?_; first | assumption | exact xu_self | (refine (xu_ne (by omega)).trans ?_; first | assumption | exact xu_self))))) rfl ⟨(Nat.le_of_ble_eq_true rfl), (Nat.le_of_ble_eq_true rfl)⟩ rfl rfl (Nat.le_of_ble_eq_true rfl) ⟨(by first | (show 0 + 3 * mk + 0 + 0 ≤ 3 * mk; omega) | (show 0 + 1058 * mk + 0 + 0 ≤ 1058 * mk; omega)), (by first | (show 0 + 3 * mk + 0 + 0 ≤ 3 * mk; omega) | (show 0 + 1058 * mk + 0 + 0 ≤ 1058 * mk; omega))⟩ xd_BE_carryOut_139 rfl (fun n2 h2 q2 => ?_)
    obtain ⟨rfl, f2, r2⟩ := q2
    rw [va_up_self] at r2
    have hr2 := be_upd hr1 hlt f2 r2
    rw [bx_uu] at hr2
    refine xv_goto (tgt := 210) hF xd_BE_carryOut_142 (by decide) ?_
    refine hR _ _ _ _ _ _ (by omega) (by omega) ?_ xd_BE_carryOut_210
    refine ⟨rfl, hfr1.tr (be_frR (hr1.2.2.2.1 ht hlt).1 f2), be_Snew (by omega) hA hM hr2 ?_ (pd_nd_ts _) (pd_au_ts _) (by omega)⟩
    rw [← pd_no_or (pd_ts _)]
    exact mn_st mn_no fun i hi => by rw [bt_not r hi, hx i hi]; simp
  · have hmk0' := hmk0 (by omega)
    subst hmk0'
    refine xv_tabIn (off := 137) (tgt := 145) hF xd_BE_carryOut_8 (by decide +kernel) (by decide +kernel) (by decide +kernel) (by decide) ?_
    have h2 := ok2 (by omega)
    have a1 := hA (ht - 2) (by omega)
    have a2 := hA (ht - 1) (by omega)
    have hN9 : N (ht - 2) + N (ht - 1) ≤ 2560 := by
      have := hN' (ht - 2) (by show ht - 2 < ht - 1; omega)
      exact (by rw [show bx_N 6 m ht N (ht - 2) = N (ht - 2) + N (ht - 1) from va_up_self _ _ _] at this; exact this)
    refine xv_aload_n (pc' := 146) (i := 0) hF xd_BE_carryOut_145 rfl rfl rfl ?_
    refine xv_callVv (pc' := 149) (ci := 5) hF (c_BE_chainTwo K n h o ht made ad sp Mv hr h2 hm (fun x v y hx hv hy c1 c2 => by have b1 := pd_mn_bd (hM (ht - 2) (by omega)) a1.2.1 hx hv c1; have b2 := pd_mn_bd (hM (ht - 1) (by omega)) a2.2.1 hv hy c2; omega)) xq_BE_chainTwo xk_BE_m50 xk_i_BE_chainTwo xk_s_BE_chainTwo (by first | assumption | exact xu_self | (refine (xu_ne (by omega)).trans ?_; first | assumption | exact xu_self | (refine (xu_ne (by omega)).trans ?_; first | assumption | exact xu_self | (refine (xu_ne (by omega)).trans ?_; first | assumption | exact xu_self | (refine (xu_ne (by omega)).trans ?_; first | assumption | exact xu_self))))) rfl ⟨(Nat.le_of_ble_eq_true rfl), (Nat.le_of_ble_eq_true rfl)⟩ rfl rfl (Nat.le_of_ble_eq_true rfl) ⟨(Nat.le_of_ble_eq_true rfl), (Nat.le_of_ble_eq_true rfl)⟩ xd_BE_carryOut_146 rfl (fun n2 h2 q2 => ?_)
    obtain ⟨rfl, f2, ad2, sp2, r2⟩ := q2
    refine xv_goto (tgt := 210) hF xd_BE_carryOut_149 (by decide) ?_
    refine hR _ _ _ _ _ _ (by omega) (by omega) ?_ xd_BE_carryOut_210
    refine ⟨rfl, f2, be_Sup (ht := ht) (by show ht - 1 ≤ made + 0; omega) (by show ht - 1 ≤ ht; omega) (by show ht - 1 = ht - 2 + 1; omega) hA hM r2 (fun i hi => by unfold va_up; rw [if_neg (by omega)]) ?_ (pd_nd_seq a1.1 a2.1) (pd_au_seq a1.2.1 a2.2.1 a1.1 a2.1) hN9⟩
    rw [va_up_self]
    exact mn_ch (hM _ (by omega)) (hM _ (by omega)) a1.1
  · have hmk0' := hmk0 (by omega)
    subst hmk0'
    refine xv_tabIn (off := 144) (tgt := 152) hF xd_BE_carryOut_8 (by decide +kernel) (by decide +kernel) (by decide +kernel) (by decide) ?_
    have h2 := ok2 (by omega)
    have a1 := hA (ht - 2) (by omega)
    have a2 := hA (ht - 1) (by omega)
    have hN9 : N (ht - 2) + N (ht - 1) ≤ 2560 := by
      have := hN' (ht - 2) (by show ht - 2 < ht - 1; omega)
      exact (by rw [show bx_N 7 m ht N (ht - 2) = N (ht - 2) + N (ht - 1) from va_up_self _ _ _] at this; exact this)
    refine xv_aload_n (pc' := 153) (i := 0) hF xd_BE_carryOut_152 rfl rfl rfl ?_
    refine xv_callVv (pc' := 156) (ci := 5) hF (c_BE_joinTwo K n h o ht made ad sp Mv hr h2 hm) xq_BE_joinTwo xk_BE_m53 xk_i_BE_joinTwo xk_s_BE_joinTwo (by first | assumption | exact xu_self | (refine (xu_ne (by omega)).trans ?_; first | assumption | exact xu_self | (refine (xu_ne (by omega)).trans ?_; first | assumption | exact xu_self | (refine (xu_ne (by omega)).trans ?_; first | assumption | exact xu_self | (refine (xu_ne (by omega)).trans ?_; first | assumption | exact xu_self))))) rfl ⟨(Nat.le_of_ble_eq_true rfl), (Nat.le_of_ble_eq_true rfl)⟩ rfl rfl (Nat.le_of_ble_eq_true rfl) ⟨(Nat.le_of_ble_eq_true rfl), (Nat.le_of_ble_eq_true rfl)⟩ xd_BE_carryOut_153 rfl (fun n2 h2 q2 => ?_)
    obtain ⟨rfl, f2, r2⟩ := q2
    refine xv_goto (tgt := 210) hF xd_BE_carryOut_156 (by decide) ?_
    refine hR _ _ _ _ _ _ (by omega) (by omega) ?_ xd_BE_carryOut_210
    refine ⟨rfl, f2, be_Sup (ht := ht) (by show ht - 1 ≤ made + 0; omega) (by show ht - 1 ≤ ht; omega) (by show ht - 1 = ht - 2 + 1; omega) hA hM r2 (fun i hi => by unfold va_up; rw [if_neg (by omega)]) ?_ (pd_nd_or a1.1 a2.1) (pd_au_or a1.2.1 a2.2.1) hN9⟩
    rw [va_up_self]
    exact mn_mi (hM _ (by omega)) (hM _ (by omega))
  · have hmk0' := hmk0 (by omega)
    subst hmk0'
    refine xv_tabIn (off := 151) (tgt := 159) hF xd_BE_carryOut_8 (by decide +kernel) (by decide +kernel) (by decide +kernel) (by decide) ?_
    have h1 := ok1 (by omega)
    have a2 := hA (ht - 1) (by omega)
    have m2 := hM (ht - 1) (by omega)
    have rel := hr.2.2.2.1 (ht - 1) (by omega)
    refine xv_aload_n (pc' := 160) (i := 0) hF xd_BE_carryOut_159 rfl rfl rfl ?_
    refine xv_loc _ (by repeat (first | exact trivial | refine ⟨rfl, ?_⟩)) (top 0 0 160 h Mv h1 (by omega) (by omega) hr xd_BE_carryOut_160 ?_)
    obtain ⟨f, g, ⟨z1, z2, z3⟩, z4⟩ := id rel.2
    refine xv_callVv (pc' := 166) (ci := 2) hF (c_RE_repeatAtWill K n h (ad (ht - 1)) _ rel.2 (mn_fwb m2 a2.1 a2.2.1 a2.2.2)) xq_RE_repeatAtWill xk_BE_m59 xk_i_RE_repeatAtWill xk_s_RE_repeatAtWill (by first | assumption | exact xu_self | (refine (xu_ne (by omega)).trans ?_; first | assumption | exact xu_self | (refine (xu_ne (by omega)).trans ?_; first | assumption | exact xu_self | (refine (xu_ne (by omega)).trans ?_; first | assumption | exact xu_self | (refine (xu_ne (by omega)).trans ?_; first | assumption | exact xu_self))))) rfl ⟨(Nat.le_of_ble_eq_true rfl), (Nat.le_of_ble_eq_true rfl)⟩ rfl rfl (Nat.le_of_ble_eq_true rfl) ⟨(Nat.le_of_ble_eq_true rfl), (Nat.le_of_ble_eq_true rfl)⟩ xd_BE_carryOut_163 rfl (fun n2 h2 q2 => ?_)
    obtain ⟨rfl, f2, r2⟩ := q2
    have hr2 := be_upd hr (i := ht - 1) (by omega) f2 r2
    have rel2 := hr2.2.2.2.1 (ht - 1) (by omega)
    refine xv_aload_n (pc' := 167) (i := 0) hF xd_BE_carryOut_166 rfl rfl rfl ?_
    refine xv_loc _ (by repeat (first | exact trivial | refine ⟨rfl, ?_⟩)) (top _ _ 167 h2 _ h1 (by omega) (by omega) hr2 xd_BE_carryOut_167 ?_)
    clear z1 z2 z3 z4
    obtain ⟨f, g, ⟨z1, z2, z3⟩, z4⟩ := id rel2.2
    refine xv_iconst (pc' := 171) (v := -1) hF xd_BE_carryOut_170 (by decide +kernel) rfl ?_
    refine xv_callVv (pc' := 174) (ci := 2) hF (c_RE_addStays K n h2 (ad (ht - 1)) (-1) _ rel2.2) xq_RE_addStays xk_BE_m36 xk_i_RE_addStays xk_s_RE_addStays (by first | assumption | exact xu_self | (refine (xu_ne (by omega)).trans ?_; first | assumption | exact xu_self | (refine (xu_ne (by omega)).trans ?_; first | assumption | exact xu_self | (refine (xu_ne (by omega)).trans ?_; first | assumption | exact xu_self | (refine (xu_ne (by omega)).trans ?_; first | assumption | exact xu_self))))) rfl ⟨(Nat.le_of_ble_eq_true rfl), (Nat.le_of_ble_eq_true rfl)⟩ rfl rfl (Nat.le_of_ble_eq_true rfl) ⟨(Nat.le_of_ble_eq_true rfl), (Nat.le_of_ble_eq_true rfl)⟩ xd_BE_carryOut_171 rfl (fun n3 h3 q3 => ?_)
    obtain ⟨rfl, f3, r3⟩ := q3
    have hr3 := be_upd hr2 (i := ht - 1) (by omega) f3 r3
    refine xv_goto (tgt := 210) hF xd_BE_carryOut_174 (by decide) ?_
    refine hR _ _ _ _ _ _ (by omega) (by omega) ?_ xd_BE_carryOut_210
    refine ⟨rfl, (be_frR rel.1 f2).tr (be_frR rel2.1 f3), ?_⟩
    show be_S K h3 n o ht (made + 0) (va_up A (ht - 1) _) N
    have := be_Sup (ht := ht) (j := ht - 1) (b := N (ht - 1)) (B := pd_or pd_id (pd_ps (A (ht - 1)))) hm (Nat.le_refl _) (by omega) hA hM hr3 (fun i hi => by unfold va_up; rw [if_neg (by omega), if_neg (by omega)]) (by
      rw [va_up_self, va_up_self, pd_or_comm, pd_id_ts]
      exact mn_st (mn_fw m2 a2.1) fun i hi => by simp [b_m1 i hi]) (pd_nd_or pd_nd_id (pd_nd_pl a2.1)) (pd_au_st a2.2.1) a2.2.2
    rw [va_up_same] at this
    exact this
  · have hmk0' := hmk0 (by omega)
    subst hmk0'
    refine xv_tabIn (off := 169) (tgt := 177) hF xd_BE_carryOut_8 (by decide +kernel) (by decide +kernel) (by decide +kernel) (by decide) ?_
    have h1 := ok1 (by omega)
    have a2 := hA (ht - 1) (by omega)
    have m2 := hM (ht - 1) (by omega)
    have rel := hr.2.2.2.1 (ht - 1) (by omega)
    refine xv_aload_n (pc' := 178) (i := 0) hF xd_BE_carryOut_177 rfl rfl rfl ?_
    refine xv_loc _ (by repeat (first | exact trivial | refine ⟨rfl, ?_⟩)) (top 0 0 178 h Mv h1 (by omega) (by omega) hr xd_BE_carryOut_178 ?_)
    obtain ⟨f, g, ⟨z1, z2, z3⟩, z4⟩ := id rel.2
    refine xv_callVv (pc' := 184) (ci := 2) hF (c_RE_repeatAtWill K n h (ad (ht - 1)) _ rel.2 (mn_fwb m2 a2.1 a2.2.1 a2.2.2)) xq_RE_repeatAtWill xk_BE_m59 xk_i_RE_repeatAtWill xk_s_RE_repeatAtWill (by first | assumption | exact xu_self | (refine (xu_ne (by omega)).trans ?_; first | assumption | exact xu_self | (refine (xu_ne (by omega)).trans ?_; first | assumption | exact xu_self | (refine (xu_ne (by omega)).trans ?_; first | assumption | exact xu_self | (refine (xu_ne (by omega)).trans ?_; first | assumption | exact xu_self))))) rfl ⟨(Nat.le_of_ble_eq_true rfl), (Nat.le_of_ble_eq_true rfl)⟩ rfl rfl (Nat.le_of_ble_eq_true rfl) ⟨(Nat.le_of_ble_eq_true rfl), (Nat.le_of_ble_eq_true rfl)⟩ xd_BE_carryOut_181 rfl (fun n2 h2 q2 => ?_)
    obtain ⟨rfl, f2, r2⟩ := q2
    have hr2 := be_upd hr (i := ht - 1) (by omega) f2 r2
    refine xv_goto (tgt := 210) hF xd_BE_carryOut_184 (by decide) ?_
    refine hR _ _ _ _ _ _ (by omega) (by omega) ?_ xd_BE_carryOut_210
    refine ⟨rfl, be_frR rel.1 f2, ?_⟩
    show be_S K h2 n o ht (made + 0) (va_up A (ht - 1) _) N
    have := be_Sup (ht := ht) (j := ht - 1) (b := N (ht - 1)) (B := pd_ps (A (ht - 1))) hm (Nat.le_refl _) (by omega) hA hM hr2 (fun i hi => by unfold va_up; rw [if_neg (by omega)]) (by
      rw [va_up_self]
      exact mn_fw m2 a2.1) (pd_nd_pl a2.1) (pd_au_pl _ a2.2.1) a2.2.2
    rw [va_up_same] at this
    exact this
  · have hmk0' := hmk0 (by omega)
    subst hmk0'
    refine xv_tabIn (off := 179) (tgt := 187) hF xd_BE_carryOut_8 (by decide +kernel) (by decide +kernel) (by decide +kernel) (by decide) ?_
    have h1 := ok1 (by omega)
    have a2 := hA (ht - 1) (by omega)
    have m2 := hM (ht - 1) (by omega)
    have rel := hr.2.2.2.1 (ht - 1) (by omega)
    refine xv_aload_n (pc' := 188) (i := 0) hF xd_BE_carryOut_187 rfl rfl rfl ?_
    refine xv_loc _ (by repeat (first | exact trivial | refine ⟨rfl, ?_⟩)) (top 0 0 188 h Mv h1 (by omega) (by omega) hr xd_BE_carryOut_188 ?_)
    obtain ⟨f, g, ⟨z1, z2, z3⟩, z4⟩ := id rel.2
    refine xv_iconst (pc' := 192) (v := -1) hF xd_BE_carryOut_191 (by decide +kernel) rfl ?_
    refine xv_callVv (pc' := 195) (ci := 2) hF (c_RE_addStays K n h (ad (ht - 1)) (-1) _ rel.2) xq_RE_addStays xk_BE_m36 xk_i_RE_addStays xk_s_RE_addStays (by first | assumption | exact xu_self | (refine (xu_ne (by omega)).trans ?_; first | assumption | exact xu_self | (refine (xu_ne (by omega)).trans ?_; first | assumption | exact xu_self | (refine (xu_ne (by omega)).trans ?_; first | assumption | exact xu_self | (refine (xu_ne (by omega)).trans ?_; first | assumption | exact xu_self))))) rfl ⟨(Nat.le_of_ble_eq_true rfl), (Nat.le_of_ble_eq_true rfl)⟩ rfl rfl (Nat.le_of_ble_eq_true rfl) ⟨(Nat.le_of_ble_eq_true rfl), (Nat.le_of_ble_eq_true rfl)⟩ xd_BE_carryOut_192 rfl (fun n2 h2 q2 => ?_)
    obtain ⟨rfl, f2, r2⟩ := q2
    have hr2 := be_upd hr (i := ht - 1) (by omega) f2 r2
    refine xv_goto (tgt := 210) hF xd_BE_carryOut_195 (by decide) ?_
    refine hR _ _ _ _ _ _ (by omega) (by omega) ?_ xd_BE_carryOut_210
    refine ⟨rfl, be_frR rel.1 f2, ?_⟩
    show be_S K h2 n o ht (made + 0) (va_up A (ht - 1) _) N
    have := be_Sup (ht := ht) (j := ht - 1) (b := N (ht - 1)) (B := pd_or pd_id (A (ht - 1))) hm (Nat.le_refl _) (by omega) hA hM hr2 (fun i hi => by unfold va_up; rw [if_neg (by omega)]) (by
      rw [va_up_self, pd_or_comm, pd_id_ts]
      exact mn_st m2 fun i hi => by simp [b_m1 i hi]) (pd_nd_or pd_nd_id a2.1) (pd_au_mb a2.2.1) a2.2.2
    rw [va_up_same] at this
    exact this
  · refine xv_tabOut (tgt := 198) hF xd_BE_carryOut_8 (by decide +kernel) (by decide) ?_
    have h1 := ok1 (by omega)
    have a2 := hA (ht - 1) (by omega)
    have m2 := hM (ht - 1) (by omega)
    have hN9 : N (ht - 1) * (m % 10) ≤ 2560 := by
      have := hN' (ht - 1) (by show ht - 1 < ht; omega)
      exact (by rw [show bx_N 11 m ht N (ht - 1) = N (ht - 1) * (m % 10) from va_up_self _ _ _] at this; exact this)
    refine xv_aload_n (pc' := 199) (i := 0) hF xd_BE_carryOut_198 rfl rfl rfl ?_
    refine xv_iload_n (pc' := 200) (i := 3) hF xd_BE_carryOut_199 rfl rfl rfl ?_
    refine xv_bipushN (pc' := 202) 10 hF xd_BE_carryOut_200 (by decide +kernel) rfl ?_
    refine xv_idivN (pc' := 203) hF (by omega) (by decide) (by decide) xd_BE_carryOut_202 rfl ?_
    refine xv_iload_n (pc' := 204) (i := 3) hF xd_BE_carryOut_203 rfl rfl rfl ?_
    refine xv_bipushN (pc' := 206) 10 hF xd_BE_carryOut_204 (by decide +kernel) rfl ?_
    refine xv_iremN (pc' := 207) hF (by omega) (by decide) (by decide) xd_BE_carryOut_206 rfl ?_
    refine xv_callVv (pc' := 210) (ci := 5) hF (c_BE_copyTop K n h o ht made mk (m / 10) (m % 10) (N (ht - 1)) ad sp Mv (A (ht - 1)) hr h1 hm (ok24 (by omega)) (hmk (by omega)) m2 a2.1 a2.2.1 a2.2.2 hN9 (by omega) (by omega)) xq_BE_copyTop xk_BE_m62 xk_i_BE_copyTop xk_s_BE_copyTop (by first | assumption | exact xu_self | (refine (xu_ne (by omega)).trans ?_; first | assumption | exact xu_self | (refine (xu_ne (by omega)).trans ?_; first | assumption | exact xu_self | (refine (xu_ne (by omega)).trans ?_; first | assumption | exact xu_self | (refine (xu_ne (by omega)).trans ?_; first | assumption | exact xu_self))))) rfl ⟨(Nat.le_of_ble_eq_true rfl), (Nat.le_of_ble_eq_true rfl)⟩ rfl rfl (Nat.le_of_ble_eq_true rfl) ⟨(by first | (show 0 + 3 * mk ≤ 3 * mk; omega) | (show 0 + 1058 * mk ≤ 1058 * mk; omega)), (by first | (show 0 + 3 * mk ≤ 3 * mk; omega) | (show 0 + 1058 * mk ≤ 1058 * mk; omega))⟩ xd_BE_carryOut_207 rfl (fun n2 h2 q2 => ?_)
    obtain ⟨rfl, f2, ad2, sp2, Mv2, hr2, hs2, hc2⟩ := q2
    refine hR _ _ _ _ _ _ (by omega) (by omega) ?_ xd_BE_carryOut_210
    exact ⟨rfl, f2, be_Sup (ht := ht) (j := ht - 1) (by show ht ≤ made + mk; omega) (Nat.le_refl _) (by show ht = ht - 1 + 1; omega) hA hM hr2 hs2 hc2 (pd_nd_cp a2.1 _ _) (pd_au_cp a2.2.1 a2.1 _ _) hN9⟩
