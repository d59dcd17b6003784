/-! throwing: the words that a throw wants, and what of a state they speak of -/
def xz_n : List String := ["java/lang/RuntimeException", "java/lang/Exception"]
def xz_B : List Cond := (vx_atS xr_PD 84 xr_JG xz_n ++ vx_atS xr_PD 183 xr_JX xz_n).filter (fun w => !goodWord w)
def xz_k : Cond → Bool
  | .declares _ => true
  | .castable .. => true
  | _ => false
theorem xz_B_k : xz_B.all xz_k = true := by decide +kernel
theorem xz_B_in : xz_B.all (fun w => decide (w ∈ lw_tbl)) = true := by decide +kernel
def xz_S : List (Nat × String) := [(184, "no such node"), (186, "no such label"), (82, "no such tag"), (91, "n is not 1 .. 8"), (181, "no such slot"), (125, "how is not 0 .. 4")]
theorem xz_warm {s U : State} {w : Cond} (hW : s.WarmedH U.vm) (hk : xz_k w = true) (h : w.before #[] s = true) : w.before #[] U = true := by
  cases w <;> first | cases hk | skip
  · rename_i x
    have e1 : (Cond.declares x).before #[] (U.setVm U.vm) = (Cond.declares x).before #[] (s.setVm U.vm) := Cond.onTables_vm U.vm _ rfl
    rw [Cond.declares_setVm hW.alike] at e1
    exact e1.trans h
  · rename_i x y
    have e1 : (Cond.castable x y).before #[] (U.setVm U.vm) = (Cond.castable x y).before #[] (s.setVm U.vm) := Cond.onTables_vm U.vm _ rfl
    rw [Cond.castable_setVm hW.alike] at e1
    exact e1.trans h
theorem xz_args {s : State} {w : Cond} {a : Array Value} (hk : xz_k w = true) (h : w.before #[] s = true) : w.before a s = true := by
  have hot : w.onTables = true := by cases w <;> first | rfl | (cases hk; done)
  have e1 : w.before a (s.setVm s.vm) = w.before #[] (s.setVm s.vm) := Cond.onTables_vm s.vm w hot
  exact e1.trans h
def x_J (K : xK) (U : State) : Prop := (∀ w ∈ xz_B, w.before #[] U = true) ∧ (∀ q ∈ xz_S, ∃ a, vk_R xr_PD q.1 q.2 a U) ∧ va_Nc xr_JG xr_JX U ∧ vx_Zq Bundle.tN "UNASSIGNED_STACK" Bundle.steD (fun q => K.2.2.2 ≤ q) U U.heap ∧ vx_Zq Bundle.tN "SUPPRESSED_SENTINEL" Bundle.listD (fun q => K.2.2.2 ≤ q) U U.heap
theorem x_J.to {K : xK} {s U : State} {H : Heap} {locs : List Loc} (h : x_J K s) (hS : va_S (fun q => K.2.2.2 ≤ q) s.heap H locs) (hU : U.heap = H) (hW : s.WarmedH U.vm) : x_J K U := by
  obtain ⟨h1, h2, h3, h4, h5⟩ := h
  refine ⟨fun w hw => xz_warm hW (List.all_eq_true.mp xz_B_k w hw) (h1 w hw), fun q hq => (h2 q hq).elim fun a ha => ⟨a, vk_R.warm hW ha⟩, va_Nc.moved hW.alike h3, ?_, ?_⟩
  · rw [hU]; exact vx_Zq.moved hW.alike (h4.kept hS.2.1)
  · rw [hU]; exact vx_Zq.moved hW.alike (h5.kept hS.2.1)
def x_IJ (K : xK) (n : Nat) (h : xH) (U : State) : Prop := x_I K n h U ∧ x_J K U
theorem x_blindJ {K : xK} {av : List Value} {n : Nat} {h : xH} : FrameBlind (va_Pc av (x_IJ K n h)) := by
  intro a U g mk q
  have hb := x_blind a U g mk ⟨q.1, q.2.1⟩
  exact ⟨hb.1, hb.2, x_J.to (s := U) (U := U.calling g mk a) (H := U.heap) (locs := []) q.2.2 va_S.rf rfl (State.WarmedH.refl U)⟩
theorem xh_grow {D : va_G} {b n : Nat} {h : xH} {H H1 : Heap} (hh : xh_ok D b n h H) (hz : H.size ≤ H1.size) (ho : ∀ q : Nat, q < H.size → H1[q]? = H[q]?) : ∃ n', n ≤ n' ∧ xh_ok D b n' h H1 := by
  obtain ⟨ws, hP, hD, hn, hb, hi⟩ := hh
  subst hn
  exact ⟨H1.size, hz, ws, hP.kept fun k q hq => ho q.1 (hP k q hq).lt, hD, rfl, by omega, hi⟩
/-- a method that throws E and leaves the heap as it is -/
def x_XC (K : xK) (n : Nat) (h : xH) (E : String) : String → State → State → Prop := fun E' st t => E' = E ∧ (∃ n', n ≤ n' ∧ xh_ok K.2.1 K.2.2.2 n' h t.heap) ∧ va_F (fun q => K.2.2.2 ≤ q) st t
def XMT (K : xK) (y : MethodName) (ws : List Cond) (rm : Room) (av : List Value) (n : Nat) (h : xH) (E : String) (mc ms : Nat) : Prop := K.1.stackTraces = false → vx_Met K.1 y ws rm (va_Pc av (x_IJ K n h)) (fun _ _ _ _ => False) (x_XC K n h E) mc ms (fun q => K.2.2.2 ≤ q)
def XT (G : xG) (K : xK) (n : Nat) (h : xH) (E : String) (mc ms : Nat) : Prop := match G with
  | (_, _, _, s, _, args, below, meth, c, K', H0, _, Q) => K' = K ∧ K.1.stackTraces = false ∧ x_J K s ∧ H0 = s.heap ∧ meth.locks = false ∧ (∀ x ∈ c.exceptionTable.toList, False) ∧ Q = vx_MQ below (fun _ _ _ _ => False) (x_XC K n h E) args s mc ms (fun q => K.2.2.2 ≤ q)
theorem xt_m {K : xK} {y : MethodName} {cc : ByteArray} {ret : Option FieldType} {maxL d w mc ms n : Nat} {av : List Value} {h : xH} {E : String} (hy : plainName y.cls = true) (hlen : (lg_sl av).length ≤ maxL)
    (body : ∀ G, XF G K cc y.cls (xrm d w mc ms) maxL → XT G K n h E mc ms → XV G 0 0 0 (lv_args 0 av) [] n h) : XMT K y (Cond.code y cc maxL ret :: x_T) (xrm d w mc ms) av n h E mc ms := by
  intro hst
  refine vx_ofW (cc := cc) (maxL := maxL) (ret := ret) hy rfl ?_
  intro p e s m args below meth c s₁ B hml hx0 hv
  obtain ⟨l, D, cx, b⟩ := K
  obtain ⟨rfl, ⟨hok, hK, hN⟩, hJ⟩ := hv
  have hts := atoms_spec (ws := Cond.code y cc maxL ret :: x_T) B.pre
  have hown : s.vm.findClass y.cls = some m.cls := findClass_of_methodNamed B.named
  have hl := lv_entry av (n := maxL) hlen
  rw [lg_entry_eq]
  refine body (p, e, xrm d w mc ms, s, m, av.toArray, below, meth, c, (l, D, cx, b), s.heap, maxL, vx_MQ below (fun _ _ _ _ => False) (x_XC (l, D, cx, b) n h E) av.toArray s mc ms (fun q => b ≤ q)) ⟨⟨B.exec, B.bytes, hml, hown, fun w hw => hts w (List.mem_cons_of_mem _ hw)⟩, hK, rfl, ?_, rfl, rfl, hN⟩ ⟨rfl, hst, hJ, rfl, B.notSynchronized, hx0, rfl⟩ s.heap [] _ hok va_S.rf hl
  obtain ⟨_, _, _, h1, h2, _⟩ := hok
  have h3 : b ≤ n := h2
  show b ≤ s.heap.size
  omega
theorem xt_keep {A0 : Nat → Prop} {H0 H : Heap} {locs L9 : List Loc} {st t T' : State} (hS : va_S A0 H0 H locs) (h0 : st.heap = H) (e1 : T'.heap = t.heap) (hF : va_F A0 st t) (hL : ∀ z ∈ L9, A0 z.base) : va_S A0 H0 T'.heap (locs ++ L9) := by
  obtain ⟨hz, hk⟩ := hF
  rw [h0] at hz hk
  refine ⟨Nat.le_trans hS.1 (by rw [e1]; exact hz), fun q h1 h2 => by rw [e1, hk q (Nat.lt_of_lt_of_le h1 hS.1) h2]; exact hS.2.1 q h1 h2, fun q hq => ?_⟩
  rcases List.mem_append.mp hq with h | h
  · exact hS.2.2 q h
  · exact hL q h
/-- a static callee that throws: it goes on to the caller -/
theorem xt_callS {G : xG} {K : xK} {cc : ByteArray} {own : String} {rm0 : Room} {mL k kS pc n : Nat} {L : List (Nat × Value)} {st : List Value} {h : xH} {y : MethodName} {bytes : ByteArray} {mL' nn idx mc ms d' w' mc0 ms0 : Nat} {ret : Option FieldType} {As st0 : List Value} {E : String} (hF : XF G K cc own rm0 mL) (hT : XT G K n h E mc0 ms0) (hM : XMT K y (Cond.code y bytes mL' ret :: x_T) (xrm d' w' mc ms) As n h E mc ms) (hq : x_cal y bytes mL' ret nn) (hl9 : Cond.methodLink own idx y ∈ x_T) (hi9 : Cond.static y ∈ x_T) (hR : d' + 1 ≤ rm0.frames ∧ 8 + (mL' + 11) + w' ≤ rm0.locals) (hn : As.length = nn) (hst : st0 = As.reverse ++ st) (hw8 : (st.map fun v => v.category).sum ≤ 8) (hf : k + mc ≤ rm0.cells ∧ kS + ms ≤ rm0.slots) (hm : k + mc ≤ mc0 ∧ kS + ms ≤ ms0) (hd : decode cc pc = .ok (.invokestatic idx, 3)) : XV G k kS pc L st0 n h := by
  obtain ⟨p, e, R, s, m, args, below, meth, c, ⟨l, D, cx, b⟩, H0, maxL, Q⟩ := G
  obtain ⟨⟨hx, hb, hml, hown, hts⟩, hK, rfl, hbs, rfl, rfl, hN⟩ := hF
  obtain ⟨-, hst0, hJ, rfl, hlocks, hno, rfl⟩ := hT
  subst hst
  obtain ⟨q1, q2, q3, q4, q5⟩ := hq
  intro H locs ls hok hS hl T hT X
  rcases vx_runS (n := nn) ⟨hx, hb, hml, hown, hts⟩ (hM hst0) ⟨callB_of nn hts (x_good q1) rfl rfl rfl (hts _ q2) (hts _ hl9) ⟨q3, q4, q5⟩ hR, hts _ hi9⟩ ⟨x_blindJ, fun U hU hW => ⟨rfl, ⟨by rw [hU]; exact hok, va_K.moved hW.alike hK, x_N.warm hW hN⟩, hJ.to hS hU hW⟩⟩ rfl hn hl.1 rfl (lv_room hw8) hd hf T hT X with ⟨v, st₀, t, T', L9, h0, X', hL, e1, e2, hq, st⟩ | ⟨q, st₀, t, T', L9, E', ce, h0, X', hL, e1, e2, ⟨rfl, ⟨n', hn', hI⟩, hF9⟩, hce, hcv, hcl, st⟩
  · exact hq.elim
  · have hS1 := xt_keep hS h0 e1 hF9 hL
    obtain ⟨t2, a1, b1⟩ := vx_out (p := p) (l := l) (e := e) (R := R) (m := m) (meth := meth) (c := c) (pc := pc) (below := below) (args := args) (Qc := fun _ _ _ _ => False) (XC := x_XC (l, D, cx, b) n h E') (free := fun q => b ≤ q) (fun x hx => (hno x hx).elim) hlocks (by rw [e1]; exact hce) hcv hcl (fun t9 ht9 hA => ⟨rfl, ⟨n', hn', by rw [ht9, e1]; exact hI⟩, hS1.F ht9⟩) hS1.2.2 hm.1 hm.2 T' rfl X'
    exact ⟨t2, st.trans a1, b1⟩
theorem xt_throw {G : xG} {K : xK} {cc : ByteArray} {rm0 : Room} {mL k kS pc n : Nat} {L : List (Nat × Value)} {h : xH} {E : String} {mc0 ms0 ik is ic : Nat} {text : String} (hF : XF G K cc xr_PD rm0 mL) (hT : XT G K n h E mc0 ms0) (hfit : Bundle.fit E = true) (hk : Cond.classLink xr_PD ik E ∈ x_T) (hini : Cond.initialized E ∈ x_T) (hs : (is, text) ∈ xz_S) (ha : ∀ w ∈ vx_atS xr_PD ic E xz_n, w ∈ x_T ∨ w ∈ xz_B) (hgood : ∀ w ∈ Cond.classLink xr_PD ik E :: Cond.initialized E :: vx_atS xr_PD ic E xz_n, vx_ot w = true) (hR : 6 ≤ rm0.frames ∧ 82 ≤ rm0.locals) (hf : k + 1 ≤ rm0.cells ∧ kS + 6 ≤ rm0.slots) (hm : k + 1 ≤ mc0 ∧ kS + 6 ≤ ms0)
    (d0 : decode cc pc = .ok (.new ik, 3)) (d3 : decode cc (pc + 3) = .ok (.dup, 1)) (d4 : decode cc (pc + 4) = .ok (.ldc is, 2)) (d6 : decode cc (pc + 6) = .ok (.invokespecial ic, 3)) (d9 : decode cc (pc + 9) = .ok (.athrow, 1)) : XV G k kS pc L [] n h := by
  obtain ⟨p, e, R, s, m, args, below, meth, c, ⟨l, D, cx, b⟩, H0, maxL, Q⟩ := G
  obtain ⟨⟨hx, hb, hml, hown, hts⟩, hK, rfl, hbs, rfl, rfl, hN⟩ := hF
  obtain ⟨-, hst0, hJ, rfl, hlocks, hno, rfl⟩ := hT
  obtain ⟨j1, j2, j3, j4, j5⟩ := hJ
  obtain ⟨sa, hsa⟩ := j2 _ hs
  intro H locs ls hok hS hl
  refine vx_throwS hx hb hst0 (own := xr_PD) (cls := E) (text := text) (names := xz_n) (ik := ik) (is := is) (ic := ic) (sa := sa) (A := fun q => b ≤ q) hown hfit (by decide +kernel) (hts _ hk) (hts _ hini) hsa (fun w hw => ?_) hgood j4 j5 hS (hl.1.trans hml.symm) d0 d3 d4 d6 d9 (fun x hx => (hno x hx).elim) ?_ ?_ hf.1 hf.2 hlocks (fun t hA hz ho => ⟨rfl, xh_grow hok hz ho, ?_⟩) hS.2.2 hm.1 hm.2
  · rcases ha w hw with h1 | h1
    · exact hts w h1
    · exact xz_args (List.all_eq_true.mp xz_B_k w h1) (j1 w h1)
  · show 2 + 3 < R.frames
    omega
  · show 0 + (13 * (2 + 1) + 43) ≤ R.locals
    omega
  · exact ⟨Nat.le_trans hS.1 hz, fun q h1 h2 => (ho q (Nat.lt_of_lt_of_le h1 hS.1)).trans (hS.2.1 q h1 h2)⟩
theorem xz_a1 : ∀ w ∈ vx_atS xr_PD 84 xr_JG xz_n, w ∈ x_T ∨ w ∈ xz_B := by
  have h1 : (vx_atS xr_PD 84 xr_JG xz_n).all (fun w => decide (w ∈ lw_tbl)) = true := by decide +kernel
  intro w hw
  by_cases hg : goodWord w = true
  · exact Or.inl (List.mem_filter.mpr ⟨of_decide_eq_true (List.all_eq_true.mp h1 w hw), hg⟩)
  · exact Or.inr (List.mem_filter.mpr ⟨List.mem_append_left _ hw, by simp [hg]⟩)
theorem xz_a2 : ∀ w ∈ vx_atS xr_PD 183 xr_JX xz_n, w ∈ x_T ∨ w ∈ xz_B := by
  have h1 : (vx_atS xr_PD 183 xr_JX xz_n).all (fun w => decide (w ∈ lw_tbl)) = true := by decide +kernel
  intro w hw
  by_cases hg : goodWord w = true
  · exact Or.inl (List.mem_filter.mpr ⟨of_decide_eq_true (List.all_eq_true.mp h1 w hw), hg⟩)
  · exact Or.inr (List.mem_filter.mpr ⟨List.mem_append_right _ hw, by simp [hg]⟩)
theorem xz_o1 : ∀ w ∈ Cond.classLink xr_PD 80 xr_JG :: Cond.initialized xr_JG :: vx_atS xr_PD 84 xr_JG xz_n, vx_ot w = true := by decide +kernel
theorem xz_o2 : ∀ w ∈ Cond.classLink xr_PD 179 xr_JX :: Cond.initialized xr_JX :: vx_atS xr_PD 183 xr_JX xz_n, vx_ot w = true := by decide +kernel
theorem xt_throwG {G : xG} {K : xK} {cc : ByteArray} {rm0 : Room} {mL k kS pc n : Nat} {L : List (Nat × Value)} {h : xH} {mc0 ms0 is : Nat} {text : String} (hF : XF G K cc xr_PD rm0 mL) (hT : XT G K n h xr_JG mc0 ms0) (hs : (is, text) ∈ xz_S) (hR : 6 ≤ rm0.frames ∧ 82 ≤ rm0.locals) (hf : k + 1 ≤ rm0.cells ∧ kS + 6 ≤ rm0.slots) (hm : k + 1 ≤ mc0 ∧ kS + 6 ≤ ms0)
    (d0 : decode cc pc = .ok (.new 80, 3)) (d3 : decode cc (pc + 3) = .ok (.dup, 1)) (d4 : decode cc (pc + 4) = .ok (.ldc is, 2)) (d6 : decode cc (pc + 6) = .ok (.invokespecial 84, 3)) (d9 : decode cc (pc + 9) = .ok (.athrow, 1)) : XV G k kS pc L [] n h :=
  xt_throw hF hT (by decide +kernel) xk_PD_c80 xk_n_JG hs xz_a1 xz_o1 hR hf hm d0 d3 d4 d6 d9
theorem xt_throwX {G : xG} {K : xK} {cc : ByteArray} {rm0 : Room} {mL k kS pc n : Nat} {L : List (Nat × Value)} {h : xH} {mc0 ms0 is : Nat} {text : String} (hF : XF G K cc xr_PD rm0 mL) (hT : XT G K n h xr_JX mc0 ms0) (hs : (is, text) ∈ xz_S) (hR : 6 ≤ rm0.frames ∧ 82 ≤ rm0.locals) (hf : k + 1 ≤ rm0.cells ∧ kS + 6 ≤ rm0.slots) (hm : k + 1 ≤ mc0 ∧ kS + 6 ≤ ms0)
    (d0 : decode cc pc = .ok (.new 179, 3)) (d3 : decode cc (pc + 3) = .ok (.dup, 1)) (d4 : decode cc (pc + 4) = .ok (.ldc is, 2)) (d6 : decode cc (pc + 6) = .ok (.invokespecial 183, 3)) (d9 : decode cc (pc + 9) = .ok (.athrow, 1)) : XV G k kS pc L [] n h :=
  xt_throw hF hT (by decide +kernel) xk_PD_c179 xk_n_JX hs xz_a2 xz_o2 hR hf hm d0 d3 d4 d6 d9
