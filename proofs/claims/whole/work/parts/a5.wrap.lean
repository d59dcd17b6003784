/-! methods that catch -/
def XTW (G : xG) (K : xK) (hh : List (Nat × Nat × Nat × Nat)) : Prop := match G with
  | (_, _, _, s, _, _, _, _, c, K', H0, _, _) => K' = K ∧ K.1.stackTraces = false ∧ x_J K s ∧ H0 = s.heap ∧ c.exceptionTable.toList = tableOf hh
def XMJ (K : xK) (y : MethodName) (ws : List Cond) (rm : Room) (av : List Value) (n : Nat) (h : xH) (post : Option Value → Nat → xH → Prop) (mc ms : Nat) : Prop := K.1.stackTraces = false → Met K.1 y ws rm (va_Pc av (x_IJ K n h)) (x_Q K post) mc ms (fun q => K.2.2.2 ≤ q)
theorem met_ofWH {l : Launch} {y : MethodName} {ws ws' : List Cond} {rm : Room} {Pc : Array Value → State → Prop} {Qc : Array Value → State → Outcome → State → Prop} {mc ms : Nat} {free : Addr → Prop} {cc : ByteArray} {maxL : Nat} {ret : Option FieldType} {hh : List (Nat × Nat × Nat × Nat)}
    (hy : plainName y.cls = true) (hw : ws = Cond.codeWith y cc maxL ret hh :: ws')
    (body : ∀ p e s m args below meth c s₁, BodyLoose p l y (headSpec ws rm) cc maxL ret e s m args below meth c s₁ → c.maxLocals = maxL → Pc args s →
      W p l e (headSpec ws rm).room s m args below meth c s.heap [] 0 0 (MQ below Qc args s mc ms free) (entryFrame m args maxL)) : Met l y ws rm Pc Qc mc ms free := by
  refine MetFree.of_bodyS (code := cc) (maxLocals := maxL) (ret := ret) hy ?_ ?_
  · intro args s m h hn
    obtain ⟨m9, meth, c, hn9, h1, h2, h3, h4, -, h5, h6, -⟩ := Cond.codeWith_spec (atoms_spec (ws := ws) h _ (by rw [hw]; exact List.mem_cons_self))
    cases hn.symm.trans hn9
    exact ⟨meth, c, h1, h2, h3, h4, h5, h6⟩
  · intro p e s m args below meth c s₁ B hml hP _
    have hh0 : s₁.heap = s.heap := by rw [B.state]; rfl
    obtain ⟨t, a1, o, b1, b2, b3⟩ := body p e s m args below meth c s₁ B hml hP s₁ hh0 (Stand.of_body B)
    exact ⟨t, o, a1, b1, b2, ⟨b3.1, b3.2⟩⟩
theorem xw_i {K : xK} {y : MethodName} {cc : ByteArray} {hh : List (Nat × Nat × Nat × Nat)} {maxL d w mc ms n : Nat} {av : List Value} {h : xH} {P : Int32 → Nat → xH → Prop} (hy : plainName y.cls = true) (hlen : (lg_sl av).length ≤ maxL)
    (body : ∀ G, XF G K cc y.cls (xrm d w mc ms) maxL → XTW G K hh → (∀ k kS pc L n' h' r, k ≤ mc → kS ≤ ms → P r n' h' → decode cc pc = .ok (.ireturn, 1) → XV G k kS pc L [.int r] n' h') → XV G 0 0 0 (lv_args 0 av) [] n h) : XMJ K y (Cond.codeWith y cc maxL (some .int) hh :: x_T) (xrm d w mc ms) av n h (x_pi P) mc ms := by
  intro hst
  refine met_ofWH (cc := cc) (maxL := maxL) (ret := (some .int)) (hh := hh) hy rfl ?_
  intro p e s m args below meth c s₁ B hml hv
  obtain ⟨l, D, cx, b⟩ := K
  obtain ⟨rfl, ⟨hok, hK, hN⟩, hJ⟩ := hv
  have hx := B.exec
  have hb := B.bytes
  have hr := B.returns
  have hts := atoms_spec (ws := Cond.codeWith y cc maxL (some .int) hh :: x_T) B.pre
  have hown : s.vm.findClass y.cls = some m.cls := findClass_of_methodNamed B.named
  have hlocks := B.notSynchronized
  have hl := lv_entry av (n := maxL) hlen
  rw [lg_entry_eq]
  refine body (p, e, xrm d w mc ms, s, m, av.toArray, below, meth, c, (l, D, cx, b), s.heap, maxL, MQ below (x_Q (l, D, cx, b) (x_pi P)) av.toArray s mc ms (fun q => b ≤ q)) ⟨⟨hx, hb, hml, hown, fun w hw => hts w (List.mem_cons_of_mem _ hw)⟩, hK, rfl, ?_, rfl, rfl, hN⟩ ⟨rfl, hst, hJ, rfl, vx_table (x := y) B (hts _ List.mem_cons_self)⟩ (fun k kS pc L n' h' r hk hkS hp hd H locs ls hok hS hl => W.widen hk hkS (W.iret hx hb hr (fun t ht hW => ⟨⟨some (.int r), n', h', rfl, ⟨r, rfl, hp⟩, by rw [ht]; exact hok, va_K.moved hW.alike hK, x_N.warm hW hN⟩, hS.F ht⟩) hS.2.2 hd hlocks)) s.heap [] _ hok va_S.rf hl
  obtain ⟨_, _, _, h1, h2, _⟩ := hok
  have h3 : b ≤ n := h2
  show b ≤ s.heap.size
  omega
/-- a callee that throws, caught here -/
theorem xw_callX {G : xG} {K : xK} {cc : ByteArray} {hh : List (Nat × Nat × Nat × Nat)} {rm0 : Room} {mL k kS pc n : Nat} {L : List (Nat × Value)} {st : List Value} {h : xH} {y : MethodName} {bytes : ByteArray} {mL' nn idx mc ms d' w' : Nat} {ret : Option FieldType} {As st0 : List Value} {a ci : Nat} {fs : List Value} {r0 : vw_C} {E : String} (hF : XF G K cc xr_LW rm0 mL) (hT : XTW G K hh) (hM : XMT K y (Cond.code y bytes mL' ret :: x_T) (xrm d' w' mc ms) (.ref a :: As) n h E mc ms) (hq : x_cal y bytes mL' ret nn) (hl9 : Cond.methodLink xr_LW idx y ∈ x_T) (hi9 : Cond.instanceMethod y ∈ x_T) (hs9 : Cond.selects r0.1 y y ∈ x_T) (ha : h a = some (.inr (ci, fs))) (hc : x_cl[ci]? = some r0) (hR : d' + 1 ≤ rm0.frames ∧ 8 + (mL' + 11) + w' ≤ rm0.locals) (hn : As.length = nn) (hst : st0 = As.reverse ++ .ref a :: st) (hw8 : (st.map fun v => v.category).sum ≤ 8) (hf : k + mc ≤ rm0.cells ∧ kS + ms ≤ rm0.slots) (hd : decode cc pc = .ok (.invokevirtual idx, 3))
    (pre : List ExceptionTableEntry) (x : ExceptionTableEntry) (suf : List ExceptionTableEntry) (hsplit : tableOf hh = pre ++ x :: suf) (hpass : ∀ z ∈ pre, covers z pc = false ∨ (z.catchType ≠ 0 ∧ Cond.classLink xr_LW z.catchType xr_JX ∈ x_T ∧ E = xr_JG)) (hx : covers x pc = true) (h0 : x.catchType ≠ 0) (hlink : Cond.classLink xr_LW x.catchType E ∈ x_T) (hcast : Cond.castable E E ∈ xz_B)
    (kk : ∀ n' q, n ≤ n' → XV G (k + mc) (kS + ms) x.handlerPc L [.ref q] n' h) : XV G k kS pc L st0 n h := by
  obtain ⟨p, e, R, s, m, args, below, meth, c, ⟨l, D, cx, b⟩, H0, maxL, Q⟩ := G
  obtain ⟨⟨hx', hb, hml, hown, hts⟩, hK, rfl, hbs, rfl, rfl, hN⟩ := hF
  obtain ⟨-, hst0, hJ, rfl, htab⟩ := hT
  subst hst
  obtain ⟨q1, q2, q3, q4, q5⟩ := hq
  intro H locs ls hok hS hl T hT X
  rcases vx_runV (C := r0.1) (n := nn) ⟨hx', hb, hml, hown, hts⟩ (hM hst0) ⟨callB_of nn hts (x_good q1) rfl rfl rfl (hts _ q2) (hts _ hl9) ⟨q3, q4, q5⟩ hR, hts _ hi9, hts _ hs9⟩ ⟨x_blindJ, (by obtain ⟨ws, hP, hD, hn0, hbn, hi0⟩ := id hok; obtain ⟨q0, hq0⟩ := (hi0 a _).mp ha; exact va_recv hK hP hc hq0), fun U hU hW => ⟨rfl, ⟨by rw [hU]; exact hok, va_K.moved hW.alike hK, x_N.warm hW hN⟩, hJ.to hS hU hW⟩⟩ rfl hn hl.1 rfl (lv_room hw8) hd hf T hT X with ⟨v, st₀, t, T', L9, h9, X', hL, e1, e2, hq, st⟩ | ⟨q, st₀, t, T', L9, E', ce, h9, X', hL, e1, e2, ⟨rfl, ⟨n', hn', hI⟩, hF9⟩, hce, hcv, hcl, st⟩
  · exact hq.elim
  · have hS1 := xt_keep hS h9 e1 hF9 hL
    have hcs := xz_args (a := args) (List.all_eq_true.mp xz_B_k _ hcast) (hJ.1 _ hcast)
    obtain ⟨t2, a1, b1⟩ := vx_catch (p := p) (l := l) (e := e) (R := R) (m := m) (meth := meth) (c := c) (pc := pc) (below := below) (args := args) (own := xr_LW) (name := E') (E := E') (Q := Q) hown pre x suf (htab.trans hsplit) (fun z hz => (hpass z hz).imp id (fun u => ⟨u.1, xr_JX, hts _ u.2.1, by rw [u.2.2]; exact hJ.2.2.1⟩)) hx h0 (hts _ hlink) hcs (by rw [e1]; exact hce) hcv hcl (kk n' q hn' T'.heap (locs ++ L9) ls (by rw [e1]; exact hI) hS1 hl) T' rfl X'
    exact ⟨t2, st.trans a1, b1⟩
/-- a call of a method that catches -/
def XJ (G : xG) (K : xK) : Prop := match G with
  | (_, _, _, s, _, _, _, _, _, K', H0, _, _) => K' = K ∧ K.1.stackTraces = false ∧ x_J K s ∧ H0 = s.heap
theorem xl_callSi {G : xG} {K : xK} {cc : ByteArray} {own : String} {rm0 : Room} {mL k kS pc pc' n : Nat} {L : List (Nat × Value)} {st : List Value} {h : xH} {y : MethodName} {bytes : ByteArray} {hh : List (Nat × Nat × Nat × Nat)} {mL' nn idx mc ms d' w' : Nat} {ret : Option FieldType} {As st0 : List Value} {P : Int32 → Nat → xH → Prop} (hF : XF G K cc own rm0 mL) (hT : XJ G K) (hM : XMJ K y (Cond.codeWith y bytes mL' ret hh :: x_T) (xrm d' w' mc ms) As n h (x_pi P) mc ms) (q1 : Cond.codeWith y bytes mL' ret hh ∈ x_T) (q2 : Cond.initialized y.cls ∈ x_T) (q3 : y.cls ≠ "java/lang/invoke/MethodHandle" ∧ y.cls ≠ "java/lang/invoke/VarHandle") (q5 : (parseMethodDescriptor y.desc).map (fun d => d.parameters.length) = some nn) (hl9 : Cond.methodLink own idx y ∈ x_T) (hi9 : Cond.static y ∈ x_T) (hR : d' + 1 ≤ rm0.frames ∧ 8 + (mL' + 11) + w' ≤ rm0.locals) (hn : As.length = nn) (hst : st0 = As.reverse ++ st) (hw8 : (st.map fun v => v.category).sum ≤ 8) (hf : k + mc ≤ rm0.cells ∧ kS + ms ≤ rm0.slots) (hd : decode cc pc = .ok (.invokestatic idx, 3)) (hp : pc + 3 = pc') (kk : ∀ r n' h', P r n' h' → XV G (k + mc) (kS + ms) pc' L (.int r :: st) n' h') : XV G k kS pc L st0 n h := by
  obtain ⟨p, e, R, s, m, args, below, meth, c, ⟨l, D, cx, b⟩, H0, maxL, Q⟩ := G
  obtain ⟨⟨hx, hb, hml, hown, hts⟩, hK, rfl, hbs, rfl, rfl, hN⟩ := hF
  obtain ⟨-, hst0, hJ, rfl⟩ := hT
  subst hp
  subst hst
  intro H locs ls hok hS hl
  exact x_after (vx_runSW (n := nn) ⟨hx, hb, hml, hown, hts⟩ (hM hst0) ⟨⟨rfl, rfl, hR.1, hR.2, pay_in hts (x_good q1), List.mem_cons_self⟩, hts _ q1, hts _ q2, q3, fun sig h => by rw [h] at q5; exact (Option.some.inj q5).symm, hts _ hl9, hts _ hi9⟩ ⟨x_blindJ, fun U hU hW => ⟨rfl, ⟨by rw [hU]; exact hok, va_K.moved hW.alike hK, x_N.warm hW hN⟩, hJ.to hS hU hW⟩⟩ rfl hn hl.1 rfl (lv_room hw8) hd hf) hS hl (fun v n' h' q => by obtain ⟨r, rfl, q⟩ := q; exact kk r n' h' q)
/-- the script -/
def XS (G : xG) (b L : Nat) (xs : Nat → Int32) : Prop := match G with
  | (_, _, _, s, _, _, _, _, _, K', H0, _, _) => va_X b L xs s H0 ∧ b < H0.size ∧ b < K'.2.2.2
theorem xl_sld {G : xG} {K : xK} {cc : ByteArray} {own : String} {rm0 : Room} {mL k kS pc pc' n : Nat} {L : List (Nat × Value)} {st : List Value} {h : xH} {b N i : Nat} {xs : Nat → Int32} (hF : XF G K cc own rm0 mL) (hX : XS G b N xs) (hi : i < N) (hN : N < 2 ^ 31) (hd : decode cc pc = .ok (.iaload, 1)) (hp : pc + 1 = pc') (kk : XV G k kS pc' L (.int (xs i) :: st) n h) : XV G k kS pc L (.int (nI i) :: .ref b :: st) n h := by
  obtain ⟨p, e, R, s, m, args, below, meth, c, ⟨l, D, cx, b0⟩, H0, maxL, Q⟩ := G
  obtain ⟨⟨hx, hb, hml, hown, hts⟩, hK, rfl, hbs, rfl, rfl, hN0⟩ := hF
  obtain ⟨h1, h2, h3⟩ := hX
  have h3 : b < b0 := h3
  subst hp
  intro H locs ls hok hS hl
  have e1 : (nI i).toNatClampNeg = i := nI_clamp (by omega)
  refine va_sld hx hb h1 h2 (by show ¬ b0 ≤ b; omega) hS (L := N) (xs := xs) (i := nI i) ?_ hd ?_
  · unfold vp_in
    rw [e1]
    exact fun c => c.elim (fun c => nI_pos (by omega) c) (fun c => by omega)
  · rw [e1]
    exact kk H locs ls hok hS hl
theorem xl_slen {G : xG} {K : xK} {cc : ByteArray} {own : String} {rm0 : Room} {mL k kS pc pc' n : Nat} {L : List (Nat × Value)} {st : List Value} {h : xH} {b N : Nat} {xs : Nat → Int32} (hF : XF G K cc own rm0 mL) (hX : XS G b N xs) (hd : decode cc pc = .ok (.arraylength, 1)) (hp : pc + 1 = pc') (kk : XV G k kS pc' L (.int (nI N) :: st) n h) : XV G k kS pc L (.ref b :: st) n h := by
  obtain ⟨p, e, R, s, m, args, below, meth, c, ⟨l, D, cx, b0⟩, H0, maxL, Q⟩ := G
  obtain ⟨⟨hx, hb, hml, hown, hts⟩, hK, rfl, hbs, rfl, rfl, hN0⟩ := hF
  obtain ⟨h1, h2, h3⟩ := hX
  have h3 : b < b0 := h3
  subst hp
  intro H locs ls hok hS hl
  exact va_slen hx hb h1 h2 (by show ¬ b0 ≤ b; omega) hS hd (kk H locs ls hok hS hl)
theorem xz_cG : Cond.castable xr_JG xr_JG ∈ xz_B := by decide +kernel
theorem xz_cX : Cond.castable xr_JX xr_JX ∈ xz_B := by decide +kernel
