def xrm (d w mc ms : Nat) : Room := { frames := d, cells := mc, slots := ms, locals := w }
def x_cal (y : MethodName) (bytes : ByteArray) (mL' : Nat) (ret : Option FieldType) (nn : Nat) : Prop := Cond.code y bytes mL' ret ∈ x_T ∧ Cond.initialized y.cls ∈ x_T ∧ y.cls ≠ "java/lang/invoke/MethodHandle" ∧ y.cls ≠ "java/lang/invoke/VarHandle" ∧ (parseMethodDescriptor y.desc).map (fun d => d.parameters.length) = some nn
def x_pv (P : Nat → xH → Prop) : Option Value → Nat → xH → Prop := fun v n h => v = none ∧ P n h
def x_pi (P : Int32 → Nat → xH → Prop) : Option Value → Nat → xH → Prop := fun v n h => ∃ r, v = some (.int r) ∧ P r n h
def x_pr (P : Nat → Nat → xH → Prop) : Option Value → Nat → xH → Prop := fun v n h => ∃ r, v = some (.ref r) ∧ P r n h
theorem xv_callVv {G : xG} {K : xK} {cc : ByteArray} {own : String} {rm0 : Room} {mL k kS pc pc' n : Nat} {L : List (Nat × Value)} {st : List Value} {h : xH} {y : MethodName} {bytes : ByteArray} {mL' nn idx mc ms d' w' : Nat} {ret : Option FieldType} {As st0 : List Value} {a ci : Nat} {fs : List Value} {r0 : vw_C} {P : Nat → xH → Prop} (hF : XF G K cc own rm0 mL) (hM : XM K y (Cond.code y bytes mL' ret :: x_T) (xrm d' w' mc ms) (.ref a :: As) n h (x_pv P) mc ms) (hq : x_cal y bytes mL' ret nn) (hl9 : Cond.methodLink own idx y ∈ x_T) (hi9 : Cond.instanceMethod y ∈ x_T) (hs9 : Cond.selects r0.1 y y ∈ x_T) (ha : h a = some (.inr (ci, fs))) (hc : x_cl[ci]? = some r0) (hR : d' + 1 ≤ rm0.frames ∧ 8 + (mL' + 11) + w' ≤ rm0.locals) (hn : As.length = nn) (hst : st0 = As.reverse ++ .ref a :: st) (hw8 : (st.map fun v => v.category).sum ≤ 8) (hf : k + mc ≤ rm0.cells ∧ kS + ms ≤ rm0.slots) (hd : decode cc pc = .ok (.invokevirtual idx, 3)) (hp : pc + 3 = pc') (kk : ∀ n' h', P n' h' → XV G (k + mc) (kS + ms) pc' L st n' h') : XV G k kS pc L st0 n h := by
  obtain ⟨p, e, R, s, m, args, below, meth, c, ⟨l, D, cx, b⟩, H0, maxL, Q⟩ := G
  obtain ⟨⟨hx, hb, hml, hown, hts⟩, hK, rfl, hbs, rfl, rfl, hN⟩ := hF
  subst hp
  subst hst
  obtain ⟨q1, q2, q3, q4, q5⟩ := hq
  intro H locs ls hok hS hl
  exact x_after (va_runV (C := r0.1) (n := nn) ⟨hx, hb, hml, hown, hts⟩ hM ⟨callB_of nn hts (x_good q1) rfl rfl rfl (hts _ q2) (hts _ hl9) ⟨q3, q4, q5⟩ hR, hts _ hi9, hts _ hs9⟩ ⟨x_blind, (by obtain ⟨ws, hP, hD, hn0, hbn, hi0⟩ := id hok; obtain ⟨q0, hq0⟩ := (hi0 a _).mp ha; exact va_recv hK hP hc hq0), fun U hU hW => ⟨rfl, by rw [hU]; exact hok, va_K.moved hW.alike hK, x_N.warm hW hN⟩⟩ rfl hn hl.1 rfl (lv_room hw8) hd hf) hS hl (fun v n' h' q => by obtain ⟨rfl, q⟩ := q; exact kk n' h' q)
theorem xv_callVi {G : xG} {K : xK} {cc : ByteArray} {own : String} {rm0 : Room} {mL k kS pc pc' n : Nat} {L : List (Nat × Value)} {st : List Value} {h : xH} {y : MethodName} {bytes : ByteArray} {mL' nn idx mc ms d' w' : Nat} {ret : Option FieldType} {As st0 : List Value} {a ci : Nat} {fs : List Value} {r0 : vw_C} {P : Int32 → Nat → xH → Prop} (hF : XF G K cc own rm0 mL) (hM : XM K y (Cond.code y bytes mL' ret :: x_T) (xrm d' w' mc ms) (.ref a :: As) n h (x_pi P) mc ms) (hq : x_cal y bytes mL' ret nn) (hl9 : Cond.methodLink own idx y ∈ x_T) (hi9 : Cond.instanceMethod y ∈ x_T) (hs9 : Cond.selects r0.1 y y ∈ x_T) (ha : h a = some (.inr (ci, fs))) (hc : x_cl[ci]? = some r0) (hR : d' + 1 ≤ rm0.frames ∧ 8 + (mL' + 11) + w' ≤ rm0.locals) (hn : As.length = nn) (hst : st0 = As.reverse ++ .ref a :: st) (hw8 : (st.map fun v => v.category).sum ≤ 8) (hf : k + mc ≤ rm0.cells ∧ kS + ms ≤ rm0.slots) (hd : decode cc pc = .ok (.invokevirtual idx, 3)) (hp : pc + 3 = pc') (kk : ∀ r n' h', P r n' h' → XV G (k + mc) (kS + ms) pc' L (.int r :: st) n' h') : XV G k kS pc L st0 n h := by
  obtain ⟨p, e, R, s, m, args, below, meth, c, ⟨l, D, cx, b⟩, H0, maxL, Q⟩ := G
  obtain ⟨⟨hx, hb, hml, hown, hts⟩, hK, rfl, hbs, rfl, rfl, hN⟩ := hF
  subst hp
  subst hst
  obtain ⟨q1, q2, q3, q4, q5⟩ := hq
  intro H locs ls hok hS hl
  exact x_after (va_runV (C := r0.1) (n := nn) ⟨hx, hb, hml, hown, hts⟩ hM ⟨callB_of nn hts (x_good q1) rfl rfl rfl (hts _ q2) (hts _ hl9) ⟨q3, q4, q5⟩ hR, hts _ hi9, hts _ hs9⟩ ⟨x_blind, (by obtain ⟨ws, hP, hD, hn0, hbn, hi0⟩ := id hok; obtain ⟨q0, hq0⟩ := (hi0 a _).mp ha; exact va_recv hK hP hc hq0), fun U hU hW => ⟨rfl, by rw [hU]; exact hok, va_K.moved hW.alike hK, x_N.warm hW hN⟩⟩ rfl hn hl.1 rfl (lv_room hw8) hd hf) hS hl (fun v n' h' q => by obtain ⟨r, rfl, q⟩ := q; exact kk r n' h' q)
theorem xv_callVr {G : xG} {K : xK} {cc : ByteArray} {own : String} {rm0 : Room} {mL k kS pc pc' n : Nat} {L : List (Nat × Value)} {st : List Value} {h : xH} {y : MethodName} {bytes : ByteArray} {mL' nn idx mc ms d' w' : Nat} {ret : Option FieldType} {As st0 : List Value} {a ci : Nat} {fs : List Value} {r0 : vw_C} {P : Nat → Nat → xH → Prop} (hF : XF G K cc own rm0 mL) (hM : XM K y (Cond.code y bytes mL' ret :: x_T) (xrm d' w' mc ms) (.ref a :: As) n h (x_pr P) mc ms) (hq : x_cal y bytes mL' ret nn) (hl9 : Cond.methodLink own idx y ∈ x_T) (hi9 : Cond.instanceMethod y ∈ x_T) (hs9 : Cond.selects r0.1 y y ∈ x_T) (ha : h a = some (.inr (ci, fs))) (hc : x_cl[ci]? = some r0) (hR : d' + 1 ≤ rm0.frames ∧ 8 + (mL' + 11) + w' ≤ rm0.locals) (hn : As.length = nn) (hst : st0 = As.reverse ++ .ref a :: st) (hw8 : (st.map fun v => v.category).sum ≤ 8) (hf : k + mc ≤ rm0.cells ∧ kS + ms ≤ rm0.slots) (hd : decode cc pc = .ok (.invokevirtual idx, 3)) (hp : pc + 3 = pc') (kk : ∀ r n' h', P r n' h' → XV G (k + mc) (kS + ms) pc' L (.ref r :: st) n' h') : XV G k kS pc L st0 n h := by
  obtain ⟨p, e, R, s, m, args, below, meth, c, ⟨l, D, cx, b⟩, H0, maxL, Q⟩ := G
  obtain ⟨⟨hx, hb, hml, hown, hts⟩, hK, rfl, hbs, rfl, rfl, hN⟩ := hF
  subst hp
  subst hst
  obtain ⟨q1, q2, q3, q4, q5⟩ := hq
  intro H locs ls hok hS hl
  exact x_after (va_runV (C := r0.1) (n := nn) ⟨hx, hb, hml, hown, hts⟩ hM ⟨callB_of nn hts (x_good q1) rfl rfl rfl (hts _ q2) (hts _ hl9) ⟨q3, q4, q5⟩ hR, hts _ hi9, hts _ hs9⟩ ⟨x_blind, (by obtain ⟨ws, hP, hD, hn0, hbn, hi0⟩ := id hok; obtain ⟨q0, hq0⟩ := (hi0 a _).mp ha; exact va_recv hK hP hc hq0), fun U hU hW => ⟨rfl, by rw [hU]; exact hok, va_K.moved hW.alike hK, x_N.warm hW hN⟩⟩ rfl hn hl.1 rfl (lv_room hw8) hd hf) hS hl (fun v n' h' q => by obtain ⟨r, rfl, q⟩ := q; exact kk r n' h' q)
theorem xv_callSv {G : xG} {K : xK} {cc : ByteArray} {own : String} {rm0 : Room} {mL k kS pc pc' n : Nat} {L : List (Nat × Value)} {st : List Value} {h : xH} {y : MethodName} {bytes : ByteArray} {mL' nn idx mc ms d' w' : Nat} {ret : Option FieldType} {As st0 : List Value}  {P : Nat → xH → Prop} (hF : XF G K cc own rm0 mL) (hM : XM K y (Cond.code y bytes mL' ret :: x_T) (xrm d' w' mc ms) (As) n h (x_pv P) mc ms) (hq : x_cal y bytes mL' ret nn) (hl9 : Cond.methodLink own idx y ∈ x_T) (hi9 : Cond.static y ∈ x_T) (hR : d' + 1 ≤ rm0.frames ∧ 8 + (mL' + 11) + w' ≤ rm0.locals) (hn : As.length = nn) (hst : st0 = As.reverse ++ st) (hw8 : (st.map fun v => v.category).sum ≤ 8) (hf : k + mc ≤ rm0.cells ∧ kS + ms ≤ rm0.slots) (hd : decode cc pc = .ok (.invokestatic idx, 3)) (hp : pc + 3 = pc') (kk : ∀ n' h', P n' h' → XV G (k + mc) (kS + ms) pc' L st n' h') : XV G k kS pc L st0 n h := by
  obtain ⟨p, e, R, s, m, args, below, meth, c, ⟨l, D, cx, b⟩, H0, maxL, Q⟩ := G
  obtain ⟨⟨hx, hb, hml, hown, hts⟩, hK, rfl, hbs, rfl, rfl, hN⟩ := hF
  subst hp
  subst hst
  obtain ⟨q1, q2, q3, q4, q5⟩ := hq
  intro H locs ls hok hS hl
  exact x_after (va_runS (n := nn) ⟨hx, hb, hml, hown, hts⟩ hM ⟨callB_of nn hts (x_good q1) rfl rfl rfl (hts _ q2) (hts _ hl9) ⟨q3, q4, q5⟩ hR, hts _ hi9⟩ ⟨x_blind, fun U hU hW => ⟨rfl, by rw [hU]; exact hok, va_K.moved hW.alike hK, x_N.warm hW hN⟩⟩ rfl hn hl.1 rfl (lv_room hw8) hd hf) hS hl (fun v n' h' q => by obtain ⟨rfl, q⟩ := q; exact kk n' h' q)
theorem xv_callSi {G : xG} {K : xK} {cc : ByteArray} {own : String} {rm0 : Room} {mL k kS pc pc' n : Nat} {L : List (Nat × Value)} {st : List Value} {h : xH} {y : MethodName} {bytes : ByteArray} {mL' nn idx mc ms d' w' : Nat} {ret : Option FieldType} {As st0 : List Value}  {P : Int32 → Nat → xH → Prop} (hF : XF G K cc own rm0 mL) (hM : XM K y (Cond.code y bytes mL' ret :: x_T) (xrm d' w' mc ms) (As) n h (x_pi P) mc ms) (hq : x_cal y bytes mL' ret nn) (hl9 : Cond.methodLink own idx y ∈ x_T) (hi9 : Cond.static y ∈ x_T) (hR : d' + 1 ≤ rm0.frames ∧ 8 + (mL' + 11) + w' ≤ rm0.locals) (hn : As.length = nn) (hst : st0 = As.reverse ++ st) (hw8 : (st.map fun v => v.category).sum ≤ 8) (hf : k + mc ≤ rm0.cells ∧ kS + ms ≤ rm0.slots) (hd : decode cc pc = .ok (.invokestatic idx, 3)) (hp : pc + 3 = pc') (kk : ∀ r n' h', P r n' h' → XV G (k + mc) (kS + ms) pc' L (.int r :: st) n' h') : XV G k kS pc L st0 n h := by
  obtain ⟨p, e, R, s, m, args, below, meth, c, ⟨l, D, cx, b⟩, H0, maxL, Q⟩ := G
  obtain ⟨⟨hx, hb, hml, hown, hts⟩, hK, rfl, hbs, rfl, rfl, hN⟩ := hF
  subst hp
  subst hst
  obtain ⟨q1, q2, q3, q4, q5⟩ := hq
  intro H locs ls hok hS hl
  exact x_after (va_runS (n := nn) ⟨hx, hb, hml, hown, hts⟩ hM ⟨callB_of nn hts (x_good q1) rfl rfl rfl (hts _ q2) (hts _ hl9) ⟨q3, q4, q5⟩ hR, hts _ hi9⟩ ⟨x_blind, fun U hU hW => ⟨rfl, by rw [hU]; exact hok, va_K.moved hW.alike hK, x_N.warm hW hN⟩⟩ rfl hn hl.1 rfl (lv_room hw8) hd hf) hS hl (fun v n' h' q => by obtain ⟨r, rfl, q⟩ := q; exact kk r n' h' q)
theorem xv_callSr {G : xG} {K : xK} {cc : ByteArray} {own : String} {rm0 : Room} {mL k kS pc pc' n : Nat} {L : List (Nat × Value)} {st : List Value} {h : xH} {y : MethodName} {bytes : ByteArray} {mL' nn idx mc ms d' w' : Nat} {ret : Option FieldType} {As st0 : List Value}  {P : Nat → Nat → xH → Prop} (hF : XF G K cc own rm0 mL) (hM : XM K y (Cond.code y bytes mL' ret :: x_T) (xrm d' w' mc ms) (As) n h (x_pr P) mc ms) (hq : x_cal y bytes mL' ret nn) (hl9 : Cond.methodLink own idx y ∈ x_T) (hi9 : Cond.static y ∈ x_T) (hR : d' + 1 ≤ rm0.frames ∧ 8 + (mL' + 11) + w' ≤ rm0.locals) (hn : As.length = nn) (hst : st0 = As.reverse ++ st) (hw8 : (st.map fun v => v.category).sum ≤ 8) (hf : k + mc ≤ rm0.cells ∧ kS + ms ≤ rm0.slots) (hd : decode cc pc = .ok (.invokestatic idx, 3)) (hp : pc + 3 = pc') (kk : ∀ r n' h', P r n' h' → XV G (k + mc) (kS + ms) pc' L (.ref r :: st) n' h') : XV G k kS pc L st0 n h := by
  obtain ⟨p, e, R, s, m, args, below, meth, c, ⟨l, D, cx, b⟩, H0, maxL, Q⟩ := G
  obtain ⟨⟨hx, hb, hml, hown, hts⟩, hK, rfl, hbs, rfl, rfl, hN⟩ := hF
  subst hp
  subst hst
  obtain ⟨q1, q2, q3, q4, q5⟩ := hq
  intro H locs ls hok hS hl
  exact x_after (va_runS (n := nn) ⟨hx, hb, hml, hown, hts⟩ hM ⟨callB_of nn hts (x_good q1) rfl rfl rfl (hts _ q2) (hts _ hl9) ⟨q3, q4, q5⟩ hR, hts _ hi9⟩ ⟨x_blind, fun U hU hW => ⟨rfl, by rw [hU]; exact hok, va_K.moved hW.alike hK, x_N.warm hW hN⟩⟩ rfl hn hl.1 rfl (lv_room hw8) hd hf) hS hl (fun v n' h' q => by obtain ⟨r, rfl, q⟩ := q; exact kk r n' h' q)
theorem xv_callSNv {G : xG} {K : xK} {cc : ByteArray} {own : String} {rm0 : Room} {mL k kS pc pc' n : Nat} {L : List (Nat × Value)} {st : List Value} {h : xH} {y : MethodName} {bytes : ByteArray} {mL' nn idx mc ms d' w' : Nat} {ret : Option FieldType} {As st0 : List Value} {host : String} {P : Nat → xH → Prop} (hF : XF G K cc own rm0 mL) (hM : XM K y (Cond.code y bytes mL' ret :: x_T) (xrm d' w' mc ms) (As) n h (x_pv P) mc ms) (hq : x_cal y bytes mL' ret nn) (hl9 : Cond.methodLinkNest own idx y host ∈ x_nest) (hi9 : Cond.static y ∈ x_T) (hR : d' + 1 ≤ rm0.frames ∧ 8 + (mL' + 11) + w' ≤ rm0.locals) (hn : As.length = nn) (hst : st0 = As.reverse ++ st) (hw8 : (st.map fun v => v.category).sum ≤ 8) (hf : k + mc ≤ rm0.cells ∧ kS + ms ≤ rm0.slots) (hd : decode cc pc = .ok (.invokestatic idx, 3)) (hp : pc + 3 = pc') (kk : ∀ n' h', P n' h' → XV G (k + mc) (kS + ms) pc' L st n' h') : XV G k kS pc L st0 n h := by
  obtain ⟨p, e, R, s, m, args, below, meth, c, ⟨l, D, cx, b⟩, H0, maxL, Q⟩ := G
  obtain ⟨⟨hx, hb, hml, hown, hts⟩, hK, rfl, hbs, rfl, rfl, hN⟩ := hF
  subst hp
  subst hst
  obtain ⟨q1, q2, q3, q4, q5⟩ := hq
  intro H locs ls hok hS hl
  exact x_after (va_runSN (n := nn) ⟨hx, hb, hml, hown, hts⟩ hM ⟨va_cnB nn hts (x_good q1) rfl rfl rfl (hN.1 _ hl9) (hts _ q2) ⟨q3, q4, q5⟩ hR, hts _ hi9, trivial⟩ ⟨x_blind, fun U hU hW => ⟨rfl, by rw [hU]; exact hok, va_K.moved hW.alike hK, x_N.warm hW hN⟩⟩ rfl hn hl.1 rfl (lv_room hw8) hd hf) hS hl (fun v n' h' q => by obtain ⟨rfl, q⟩ := q; exact kk n' h' q)
theorem xv_callSNi {G : xG} {K : xK} {cc : ByteArray} {own : String} {rm0 : Room} {mL k kS pc pc' n : Nat} {L : List (Nat × Value)} {st : List Value} {h : xH} {y : MethodName} {bytes : ByteArray} {mL' nn idx mc ms d' w' : Nat} {ret : Option FieldType} {As st0 : List Value} {host : String} {P : Int32 → Nat → xH → Prop} (hF : XF G K cc own rm0 mL) (hM : XM K y (Cond.code y bytes mL' ret :: x_T) (xrm d' w' mc ms) (As) n h (x_pi P) mc ms) (hq : x_cal y bytes mL' ret nn) (hl9 : Cond.methodLinkNest own idx y host ∈ x_nest) (hi9 : Cond.static y ∈ x_T) (hR : d' + 1 ≤ rm0.frames ∧ 8 + (mL' + 11) + w' ≤ rm0.locals) (hn : As.length = nn) (hst : st0 = As.reverse ++ st) (hw8 : (st.map fun v => v.category).sum ≤ 8) (hf : k + mc ≤ rm0.cells ∧ kS + ms ≤ rm0.slots) (hd : decode cc pc = .ok (.invokestatic idx, 3)) (hp : pc + 3 = pc') (kk : ∀ r n' h', P r n' h' → XV G (k + mc) (kS + ms) pc' L (.int r :: st) n' h') : XV G k kS pc L st0 n h := by
  obtain ⟨p, e, R, s, m, args, below, meth, c, ⟨l, D, cx, b⟩, H0, maxL, Q⟩ := G
  obtain ⟨⟨hx, hb, hml, hown, hts⟩, hK, rfl, hbs, rfl, rfl, hN⟩ := hF
  subst hp
  subst hst
  obtain ⟨q1, q2, q3, q4, q5⟩ := hq
  intro H locs ls hok hS hl
  exact x_after (va_runSN (n := nn) ⟨hx, hb, hml, hown, hts⟩ hM ⟨va_cnB nn hts (x_good q1) rfl rfl rfl (hN.1 _ hl9) (hts _ q2) ⟨q3, q4, q5⟩ hR, hts _ hi9, trivial⟩ ⟨x_blind, fun U hU hW => ⟨rfl, by rw [hU]; exact hok, va_K.moved hW.alike hK, x_N.warm hW hN⟩⟩ rfl hn hl.1 rfl (lv_room hw8) hd hf) hS hl (fun v n' h' q => by obtain ⟨r, rfl, q⟩ := q; exact kk r n' h' q)
theorem xv_callSNr {G : xG} {K : xK} {cc : ByteArray} {own : String} {rm0 : Room} {mL k kS pc pc' n : Nat} {L : List (Nat × Value)} {st : List Value} {h : xH} {y : MethodName} {bytes : ByteArray} {mL' nn idx mc ms d' w' : Nat} {ret : Option FieldType} {As st0 : List Value} {host : String} {P : Nat → Nat → xH → Prop} (hF : XF G K cc own rm0 mL) (hM : XM K y (Cond.code y bytes mL' ret :: x_T) (xrm d' w' mc ms) (As) n h (x_pr P) mc ms) (hq : x_cal y bytes mL' ret nn) (hl9 : Cond.methodLinkNest own idx y host ∈ x_nest) (hi9 : Cond.static y ∈ x_T) (hR : d' + 1 ≤ rm0.frames ∧ 8 + (mL' + 11) + w' ≤ rm0.locals) (hn : As.length = nn) (hst : st0 = As.reverse ++ st) (hw8 : (st.map fun v => v.category).sum ≤ 8) (hf : k + mc ≤ rm0.cells ∧ kS + ms ≤ rm0.slots) (hd : decode cc pc = .ok (.invokestatic idx, 3)) (hp : pc + 3 = pc') (kk : ∀ r n' h', P r n' h' → XV G (k + mc) (kS + ms) pc' L (.ref r :: st) n' h') : XV G k kS pc L st0 n h := by
  obtain ⟨p, e, R, s, m, args, below, meth, c, ⟨l, D, cx, b⟩, H0, maxL, Q⟩ := G
  obtain ⟨⟨hx, hb, hml, hown, hts⟩, hK, rfl, hbs, rfl, rfl, hN⟩ := hF
  subst hp
  subst hst
  obtain ⟨q1, q2, q3, q4, q5⟩ := hq
  intro H locs ls hok hS hl
  exact x_after (va_runSN (n := nn) ⟨hx, hb, hml, hown, hts⟩ hM ⟨va_cnB nn hts (x_good q1) rfl rfl rfl (hN.1 _ hl9) (hts _ q2) ⟨q3, q4, q5⟩ hR, hts _ hi9, trivial⟩ ⟨x_blind, fun U hU hW => ⟨rfl, by rw [hU]; exact hok, va_K.moved hW.alike hK, x_N.warm hW hN⟩⟩ rfl hn hl.1 rfl (lv_room hw8) hd hf) hS hl (fun v n' h' q => by obtain ⟨r, rfl, q⟩ := q; exact kk r n' h' q)
theorem xv_callIv {G : xG} {K : xK} {cc : ByteArray} {own : String} {rm0 : Room} {mL k kS pc pc' n : Nat} {L : List (Nat × Value)} {st : List Value} {h : xH} {y : MethodName} {bytes : ByteArray} {mL' nn idx mc ms d' w' : Nat} {As st0 : List Value} {a : Nat} {P : Nat → xH → Prop} (hF : XF G K cc own rm0 mL) (hM : XM K y (Cond.code y bytes mL' none :: x_T) (xrm d' w' mc ms) (.ref a :: As) n h (x_pv P) mc ms) (hq : x_cal y bytes mL' none nn) (hl9 : Cond.methodLink own idx y ∈ x_T) (hi9 : Cond.instanceMethod y ∈ x_T) (hy : y.name = "<init>") (hR : d' + 1 ≤ rm0.frames ∧ 8 + (mL' + 11) + w' ≤ rm0.locals) (hn : As.length = nn) (hst : st0 = As.reverse ++ .ref a :: st) (hw8 : (st.map fun v => v.category).sum ≤ 8) (hf : k + mc ≤ rm0.cells ∧ kS + ms ≤ rm0.slots) (hd : decode cc pc = .ok (.invokespecial idx, 3)) (hp : pc + 3 = pc') (kk : ∀ n' h', P n' h' → XV G (k + mc) (kS + ms) pc' L st n' h') : XV G k kS pc L st0 n h := by
  obtain ⟨p, e, R, s, m, args, below, meth, c, ⟨l, D, cx, b⟩, H0, maxL, Q⟩ := G
  obtain ⟨⟨hx, hb, hml, hown, hts⟩, hK, rfl, hbs, rfl, rfl, hN⟩ := hF
  subst hp
  subst hst
  obtain ⟨q1, q2, q3, q4, q5⟩ := hq
  intro H locs ls hok hS hl
  exact x_after (va_runI (n := nn) (b := a) ⟨hx, hb, hml, hown, hts⟩ hM ⟨callB_of nn hts (x_good q1) rfl rfl rfl (hts _ q2) (hts _ hl9) ⟨q3, q4, q5⟩ hR, hy, hts _ hi9⟩ ⟨x_blind, fun U hU hW => ⟨rfl, by rw [hU]; exact hok, va_K.moved hW.alike hK, x_N.warm hW hN⟩⟩ rfl hn hl.1 rfl (lv_room hw8) hd hf) hS hl (fun v n' h' q => by obtain ⟨rfl, q⟩ := q; exact kk n' h' q)
theorem xv_callINv {G : xG} {K : xK} {cc : ByteArray} {own : String} {rm0 : Room} {mL k kS pc pc' n : Nat} {L : List (Nat × Value)} {st : List Value} {h : xH} {y : MethodName} {bytes : ByteArray} {mL' nn idx mc ms d' w' : Nat} {As st0 : List Value} {a : Nat} {host : String} {P : Nat → xH → Prop} (hF : XF G K cc own rm0 mL) (hM : XM K y (Cond.code y bytes mL' none :: x_T) (xrm d' w' mc ms) (.ref a :: As) n h (x_pv P) mc ms) (hq : x_cal y bytes mL' none nn) (hl9 : Cond.methodLinkNest own idx y host ∈ x_nest) (hi9 : Cond.instanceMethod y ∈ x_T) (hy : y.name = "<init>") (hR : d' + 1 ≤ rm0.frames ∧ 8 + (mL' + 11) + w' ≤ rm0.locals) (hn : As.length = nn) (hst : st0 = As.reverse ++ .ref a :: st) (hw8 : (st.map fun v => v.category).sum ≤ 8) (hf : k + mc ≤ rm0.cells ∧ kS + ms ≤ rm0.slots) (hd : decode cc pc = .ok (.invokespecial idx, 3)) (hp : pc + 3 = pc') (kk : ∀ n' h', P n' h' → XV G (k + mc) (kS + ms) pc' L st n' h') : XV G k kS pc L st0 n h := by
  obtain ⟨p, e, R, s, m, args, below, meth, c, ⟨l, D, cx, b⟩, H0, maxL, Q⟩ := G
  obtain ⟨⟨hx, hb, hml, hown, hts⟩, hK, rfl, hbs, rfl, rfl, hN⟩ := hF
  subst hp
  subst hst
  obtain ⟨q1, q2, q3, q4, q5⟩ := hq
  intro H locs ls hok hS hl
  exact x_after (va_runIN (n := nn) (b := a) ⟨hx, hb, hml, hown, hts⟩ hM ⟨va_cnB nn hts (x_good q1) rfl rfl rfl (hN.1 _ hl9) (hts _ q2) ⟨q3, q4, q5⟩ hR, hy, hts _ hi9⟩ ⟨x_blind, fun U hU hW => ⟨rfl, by rw [hU]; exact hok, va_K.moved hW.alike hK, x_N.warm hW hN⟩⟩ rfl hn hl.1 rfl (lv_room hw8) hd hf) hS hl (fun v n' h' q => by obtain ⟨rfl, q⟩ := q; exact kk n' h' q)
theorem xv_obj {G : xG} {K : xK} {cc : ByteArray} {own : String} {rm0 : Room} {mL k kS pc pc' n : Nat} {L : List (Nat × Value)} {st : List Value} {h : xH} {idx a : Nat} (hF : XF G K cc own rm0 mL) (hl9 : Cond.methodLink own idx objectInit ∈ x_T) (hi9 : Cond.instanceMethod objectInit ∈ x_T) (hc9 : Cond.code objectInit ⟨#[0xb1]⟩ 1 none ∈ x_T) (hd : decode cc pc = .ok (.invokespecial idx, 3)) (hfr : 1 ≤ rm0.frames) (hlo : (st.map fun v => v.category).sum + 12 ≤ rm0.locals) (hp : pc + 3 = pc') (kk : XV G k kS pc' L st n h) : XV G k kS pc L (.ref a :: st) n h := by
  obtain ⟨p, e, R, s, m, args, below, meth, c, ⟨l, D, cx, b⟩, H0, maxL, Q⟩ := G
  obtain ⟨⟨hx, hb, hml, hown, hts⟩, hK, rfl, hbs, rfl, rfl, hN⟩ := hF
  subst hp
  intro H locs ls hok hS hl
  exact W.objInit hx hb hown (hts _ hl9) (hts _ hi9) (hts _ hc9) rfl (by rw [hml]; exact hl.1) rfl hd hfr (by show 2 * 0 + _ + 12 ≤ _; omega) (kk H locs ls hok hS hl)
theorem xv_mmax {G : xG} {K : xK} {cc : ByteArray} {own : String} {rm0 : Room} {mL k kS pc pc' n : Nat} {L : List (Nat × Value)} {st : List Value} {h : xH} {idx : Nat} {x y : Int32} (hF : XF G K cc own rm0 mL) (hl9 : Cond.methodLink own idx Lib.Math.max.name ∈ x_T) (hs9 : Cond.static Lib.Math.max.name ∈ x_T) (hi9 : Cond.initialized "java/lang/Math" ∈ x_T) (hc9 : Cond.code Lib.Math.max.name Lib.Math.max.code 2 (some .int) ∈ x_T) (hfr : 1 ≤ rm0.frames) (hlo : (st.map fun v => v.category).sum + 13 ≤ rm0.locals) (hk : k ≤ rm0.cells) (hkS : kS ≤ rm0.slots) (hd : decode cc pc = .ok (.invokestatic idx, 3)) (hp : pc + 3 = pc') (kk : XV G k kS pc' L (.int (if x < y then y else x) :: st) n h) : XV G k kS pc L (.int y :: .int x :: st) n h := by
  obtain ⟨p, e, R, s, m, args, below, meth, c, ⟨l, D, cx, b⟩, H0, maxL, Q⟩ := G
  obtain ⟨⟨hx, hb, hml, hown, hts⟩, hK, rfl, hbs, rfl, rfl, hN⟩ := hF
  subst hp
  intro H locs ls hok hS hl
  exact va_mmax hx hb (hml.trans hl.1.symm) hown (hts _ hl9) (hts _ hs9) (hts _ hi9) (hts _ hc9) hfr hlo hk hkS hd (kk H locs ls hok hS hl)
theorem xv_mmin {G : xG} {K : xK} {cc : ByteArray} {own : String} {rm0 : Room} {mL k kS pc pc' n : Nat} {L : List (Nat × Value)} {st : List Value} {h : xH} {idx : Nat} {x y : Int32} (hF : XF G K cc own rm0 mL) (hl9 : Cond.methodLink own idx Lib.Math.min.name ∈ x_T) (hs9 : Cond.static Lib.Math.min.name ∈ x_T) (hi9 : Cond.initialized "java/lang/Math" ∈ x_T) (hc9 : Cond.code Lib.Math.min.name Lib.Math.min.code 2 (some .int) ∈ x_T) (hfr : 1 ≤ rm0.frames) (hlo : (st.map fun v => v.category).sum + 13 ≤ rm0.locals) (hk : k ≤ rm0.cells) (hkS : kS ≤ rm0.slots) (hd : decode cc pc = .ok (.invokestatic idx, 3)) (hp : pc + 3 = pc') (kk : XV G k kS pc' L (.int (if y < x then y else x) :: st) n h) : XV G k kS pc L (.int y :: .int x :: st) n h := by
  obtain ⟨p, e, R, s, m, args, below, meth, c, ⟨l, D, cx, b⟩, H0, maxL, Q⟩ := G
  obtain ⟨⟨hx, hb, hml, hown, hts⟩, hK, rfl, hbs, rfl, rfl, hN⟩ := hF
  subst hp
  intro H locs ls hok hS hl
  exact va_mmin hx hb (hml.trans hl.1.symm) hown (hts _ hl9) (hts _ hs9) (hts _ hi9) (hts _ hc9) hfr hlo hk hkS hd (kk H locs ls hok hS hl)
theorem xv_ldc {G : xG} {K : xK} {cc : ByteArray} {own : String} {rm0 : Room} {mL k kS pc pc' n : Nat} {L : List (Nat × Value)} {st : List Value} {h : xH} {idx : Nat} {v : Int32} (hF : XF G K cc own rm0 mL) (hl9 : Cond.constant own idx v ∈ x_T) (hd : decode cc pc = .ok (.ldc idx, 2)) (hp : pc + 2 = pc') (kk : XV G k kS pc' L (.int v :: st) n h) : XV G k kS pc L st n h := by
  obtain ⟨p, e, R, s, m, args, below, meth, c, ⟨l, D, cx, b⟩, H0, maxL, Q⟩ := G
  obtain ⟨⟨hx, hb, hml, hown, hts⟩, hK, rfl, hbs, rfl, rfl, hN⟩ := hF
  subst hp
  intro H locs ls hok hS hl
  exact lv_ldc hx hb hown (hts _ hl9) hd (kk H locs ls hok hS hl)
theorem xv_ldc2 {G : xG} {K : xK} {cc : ByteArray} {own : String} {rm0 : Room} {mL k kS pc pc' n : Nat} {L : List (Nat × Value)} {st : List Value} {h : xH} {idx : Nat} {v : Int64} (hF : XF G K cc own rm0 mL) (hl9 : Cond.constantLong own idx v ∈ x_T) (hd : decode cc pc = .ok (.ldc2_w idx, 3)) (hp : pc + 3 = pc') (kk : XV G k kS pc' L (.long v :: st) n h) : XV G k kS pc L st n h := by
  obtain ⟨p, e, R, s, m, args, below, meth, c, ⟨l, D, cx, b⟩, H0, maxL, Q⟩ := G
  obtain ⟨⟨hx, hb, hml, hown, hts⟩, hK, rfl, hbs, rfl, rfl, hN⟩ := hF
  subst hp
  intro H locs ls hok hS hl
  exact lv_ldc2 hx hb hown (hts _ hl9) hd (kk H locs ls hok hS hl)
theorem xm_v {K : xK} {y : MethodName} {cc : ByteArray} {maxL d w mc ms n : Nat} {av : List Value} {h : xH} {P : Nat → xH → Prop} (hy : plainName y.cls = true) (hlen : (lg_sl av).length ≤ maxL)
    (body : ∀ G, XF G K cc y.cls (xrm d w mc ms) maxL → (∀ k kS pc L n' h', k ≤ mc → kS ≤ ms → P n' h' → decode cc pc = .ok (.return_, 1) → XV G k kS pc L [] n' h') → XV G 0 0 0 (lv_args 0 av) [] n h) : XM K y (Cond.code y cc maxL none :: x_T) (xrm d w mc ms) av n h (x_pv P) mc ms := by
  refine Met.ofW (cc := cc) (maxL := maxL) (ret := none) hy rfl ?_
  intro p e s m args below meth c s₁ B hml hv
  obtain ⟨l, D, cx, b⟩ := K
  obtain ⟨rfl, hok, hK, hN⟩ := hv
  have hx := B.exec
  have hb := B.bytes
  have hr := B.returns
  have hts := atoms_spec (ws := Cond.code y cc maxL none :: x_T) B.pre
  have hown : s.vm.findClass y.cls = some m.cls := findClass_of_methodNamed B.named
  have hlocks := B.notSynchronized
  have hin := (name_of_methodNamed B.named B.method).1
  have hl := lv_entry av (n := maxL) hlen
  rw [lg_entry_eq]
  refine body (p, e, xrm d w mc ms, s, m, av.toArray, below, meth, c, (l, D, cx, b), s.heap, maxL, MQ below (x_Q (l, D, cx, b) (x_pv P)) av.toArray s mc ms (fun q => b ≤ q)) ⟨⟨hx, hb, hml, hown, fun w hw => hts w (List.mem_cons_of_mem _ hw)⟩, hK, rfl, ?_, rfl, rfl, hN⟩ (fun k kS pc L n' h'  hk hkS hp hd H locs ls hok hS hl => W.widen hk hkS (W.vret hx hb hr (fun t ht hW => ⟨⟨none, n', h', rfl, ⟨rfl, hp⟩, by rw [ht]; exact hok, va_K.moved hW.alike hK, x_N.warm hW hN⟩, hS.F ht⟩) hS.2.2 hd hlocks)) s.heap [] _ hok va_S.rf hl
  · obtain ⟨_, _, _, h1, h2, _⟩ := hok
    have h3 : b ≤ n := h2
    show b ≤ s.heap.size
    omega
theorem xm_i {K : xK} {y : MethodName} {cc : ByteArray} {maxL d w mc ms n : Nat} {av : List Value} {h : xH} {P : Int32 → Nat → xH → Prop} (hy : plainName y.cls = true) (hlen : (lg_sl av).length ≤ maxL)
    (body : ∀ G, XF G K cc y.cls (xrm d w mc ms) maxL → (∀ k kS pc L n' h' r, k ≤ mc → kS ≤ ms → P r n' h' → decode cc pc = .ok (.ireturn, 1) → XV G k kS pc L [.int r] n' h') → XV G 0 0 0 (lv_args 0 av) [] n h) : XM K y (Cond.code y cc maxL (some .int) :: x_T) (xrm d w mc ms) av n h (x_pi P) mc ms := by
  refine Met.ofW (cc := cc) (maxL := maxL) (ret := (some .int)) hy rfl ?_
  intro p e s m args below meth c s₁ B hml hv
  obtain ⟨l, D, cx, b⟩ := K
  obtain ⟨rfl, hok, hK, hN⟩ := hv
  have hx := B.exec
  have hb := B.bytes
  have hr := B.returns
  have hts := atoms_spec (ws := Cond.code y cc maxL (some .int) :: x_T) B.pre
  have hown : s.vm.findClass y.cls = some m.cls := findClass_of_methodNamed B.named
  have hlocks := B.notSynchronized
  have hin := (name_of_methodNamed B.named B.method).1
  have hl := lv_entry av (n := maxL) hlen
  rw [lg_entry_eq]
  refine body (p, e, xrm d w mc ms, s, m, av.toArray, below, meth, c, (l, D, cx, b), s.heap, maxL, MQ below (x_Q (l, D, cx, b) (x_pi P)) av.toArray s mc ms (fun q => b ≤ q)) ⟨⟨hx, hb, hml, hown, fun w hw => hts w (List.mem_cons_of_mem _ hw)⟩, hK, rfl, ?_, rfl, rfl, hN⟩ (fun k kS pc L n' h' r hk hkS hp hd H locs ls hok hS hl => W.widen hk hkS (W.iret hx hb hr (fun t ht hW => ⟨⟨some (.int r), n', h', rfl, ⟨r, rfl, hp⟩, by rw [ht]; exact hok, va_K.moved hW.alike hK, x_N.warm hW hN⟩, hS.F ht⟩) hS.2.2 hd hlocks)) s.heap [] _ hok va_S.rf hl
  · obtain ⟨_, _, _, h1, h2, _⟩ := hok
    have h3 : b ≤ n := h2
    show b ≤ s.heap.size
    omega
theorem xm_z {K : xK} {y : MethodName} {cc : ByteArray} {maxL d w mc ms n : Nat} {av : List Value} {h : xH} {P : Int32 → Nat → xH → Prop} (hy : plainName y.cls = true) (hlen : (lg_sl av).length ≤ maxL)
    (body : ∀ G, XF G K cc y.cls (xrm d w mc ms) maxL → (∀ k kS pc L n' h' r, k ≤ mc → kS ≤ ms → P r n' h' → narrow .boolean (.int r) = .int r → decode cc pc = .ok (.ireturn, 1) → XV G k kS pc L [.int r] n' h') → XV G 0 0 0 (lv_args 0 av) [] n h) : XM K y (Cond.code y cc maxL (some .boolean) :: x_T) (xrm d w mc ms) av n h (x_pi P) mc ms := by
  refine Met.ofW (cc := cc) (maxL := maxL) (ret := (some .boolean)) hy rfl ?_
  intro p e s m args below meth c s₁ B hml hv
  obtain ⟨l, D, cx, b⟩ := K
  obtain ⟨rfl, hok, hK, hN⟩ := hv
  have hx := B.exec
  have hb := B.bytes
  have hr := B.returns
  have hts := atoms_spec (ws := Cond.code y cc maxL (some .boolean) :: x_T) B.pre
  have hown : s.vm.findClass y.cls = some m.cls := findClass_of_methodNamed B.named
  have hlocks := B.notSynchronized
  have hin := (name_of_methodNamed B.named B.method).1
  have hl := lv_entry av (n := maxL) hlen
  rw [lg_entry_eq]
  refine body (p, e, xrm d w mc ms, s, m, av.toArray, below, meth, c, (l, D, cx, b), s.heap, maxL, MQ below (x_Q (l, D, cx, b) (x_pi P)) av.toArray s mc ms (fun q => b ≤ q)) ⟨⟨hx, hb, hml, hown, fun w hw => hts w (List.mem_cons_of_mem _ hw)⟩, hK, rfl, ?_, rfl, rfl, hN⟩ (fun k kS pc L n' h' r hk hkS hp hnw hd H locs ls hok hS hl => W.widen hk hkS (W.zret hx hb hr hnw (fun t ht hW => ⟨⟨some (.int r), n', h', rfl, ⟨r, rfl, hp⟩, by rw [ht]; exact hok, va_K.moved hW.alike hK, x_N.warm hW hN⟩, hS.F ht⟩) hS.2.2 hd hlocks)) s.heap [] _ hok va_S.rf hl
  · obtain ⟨_, _, _, h1, h2, _⟩ := hok
    have h3 : b ≤ n := h2
    show b ≤ s.heap.size
    omega
theorem xm_r {K : xK} {y : MethodName} {cc : ByteArray} {maxL d w mc ms n : Nat} {av : List Value} {h : xH} {P : Nat → Nat → xH → Prop} {Cr : String} (hy : plainName y.cls = true) (hlen : (lg_sl av).length ≤ maxL)
    (body : ∀ G, XF G K cc y.cls (xrm d w mc ms) maxL → (∀ k kS pc L n' h' r, k ≤ mc → kS ≤ ms → P r n' h' → decode cc pc = .ok (.areturn, 1) → XV G k kS pc L [.ref r] n' h') → XV G 0 0 0 (lv_args 0 av) [] n h) : XM K y (Cond.code y cc maxL (some (.object Cr)) :: x_T) (xrm d w mc ms) av n h (x_pr P) mc ms := by
  refine Met.ofW (cc := cc) (maxL := maxL) (ret := (some (.object Cr))) hy rfl ?_
  intro p e s m args below meth c s₁ B hml hv
  obtain ⟨l, D, cx, b⟩ := K
  obtain ⟨rfl, hok, hK, hN⟩ := hv
  have hx := B.exec
  have hb := B.bytes
  have hr := B.returns
  have hts := atoms_spec (ws := Cond.code y cc maxL (some (.object Cr)) :: x_T) B.pre
  have hown : s.vm.findClass y.cls = some m.cls := findClass_of_methodNamed B.named
  have hlocks := B.notSynchronized
  have hin := (name_of_methodNamed B.named B.method).1
  have hl := lv_entry av (n := maxL) hlen
  rw [lg_entry_eq]
  refine body (p, e, xrm d w mc ms, s, m, av.toArray, below, meth, c, (l, D, cx, b), s.heap, maxL, MQ below (x_Q (l, D, cx, b) (x_pr P)) av.toArray s mc ms (fun q => b ≤ q)) ⟨⟨hx, hb, hml, hown, fun w hw => hts w (List.mem_cons_of_mem _ hw)⟩, hK, rfl, ?_, rfl, rfl, hN⟩ (fun k kS pc L n' h' r hk hkS hp hd H locs ls hok hS hl => W.widen hk hkS (W.aret hx hb hr (Or.inl ⟨_, rfl⟩) (Or.inr ⟨_, rfl⟩) (fun t ht hW => ⟨⟨some (.ref r), n', h', rfl, ⟨r, rfl, hp⟩, by rw [ht]; exact hok, va_K.moved hW.alike hK, x_N.warm hW hN⟩, hS.F ht⟩) hS.2.2 hd hlocks)) s.heap [] _ hok va_S.rf hl
  · obtain ⟨_, _, _, h1, h2, _⟩ := hok
    have h3 : b ≤ n := h2
    show b ≤ s.heap.size
    omega
theorem xm_c {K : xK} {y : MethodName} {cc : ByteArray} {maxL d w mc ms n : Nat} {av : List Value} {h : xH} {P : Nat → xH → Prop} (hy : plainName y.cls = true) (hnm : y.name = "<init>") (hlen : (lg_sl av).length ≤ maxL)
    (body : ∀ G, XF G K cc y.cls (xrm d w mc ms) maxL → G.2.2.2.2.2.2.2.1.name = "<init>" → (∀ k kS pc L n' h', k ≤ mc → kS ≤ ms → P n' h' → decode cc pc = .ok (.return_, 1) → XV G k kS pc L [] n' h') → XV G 0 0 0 (lv_args 0 av) [] n h) : XM K y (Cond.code y cc maxL none :: x_T) (xrm d w mc ms) av n h (x_pv P) mc ms := by
  refine Met.ofW (cc := cc) (maxL := maxL) (ret := none) hy rfl ?_
  intro p e s m args below meth c s₁ B hml hv
  obtain ⟨l, D, cx, b⟩ := K
  obtain ⟨rfl, hok, hK, hN⟩ := hv
  have hx := B.exec
  have hb := B.bytes
  have hr := B.returns
  have hts := atoms_spec (ws := Cond.code y cc maxL none :: x_T) B.pre
  have hown : s.vm.findClass y.cls = some m.cls := findClass_of_methodNamed B.named
  have hlocks := B.notSynchronized
  have hin := (name_of_methodNamed B.named B.method).1
  have hl := lv_entry av (n := maxL) hlen
  rw [lg_entry_eq]
  refine body (p, e, xrm d w mc ms, s, m, av.toArray, below, meth, c, (l, D, cx, b), s.heap, maxL, MQ below (x_Q (l, D, cx, b) (x_pv P)) av.toArray s mc ms (fun q => b ≤ q)) ⟨⟨hx, hb, hml, hown, fun w hw => hts w (List.mem_cons_of_mem _ hw)⟩, hK, rfl, ?_, rfl, rfl, hN⟩ (hin.trans hnm) (fun k kS pc L n' h'  hk hkS hp hd H locs ls hok hS hl => W.widen hk hkS (W.vret hx hb hr (fun t ht hW => ⟨⟨none, n', h', rfl, ⟨rfl, hp⟩, by rw [ht]; exact hok, va_K.moved hW.alike hK, x_N.warm hW hN⟩, hS.F ht⟩) hS.2.2 hd hlocks)) s.heap [] _ hok va_S.rf hl
  · obtain ⟨_, _, _, h1, h2, _⟩ := hok
    have h3 : b ≤ n := h2
    show b ≤ s.heap.size
    omega
theorem xv_iconstN {G : xG} {K : xK} {cc : ByteArray} {own : String} {rm0 : Room} {mL k kS pc pc' n : Nat} {L : List (Nat × Value)} {st : List Value} {h : xH} (i : Nat) {z : Int} (hF : XF G K cc own rm0 mL) (hd : decode cc pc = .ok (.iconst z, 1)) (hv : Int32.ofInt z = nI i) (hp : pc + 1 = pc') (kk : XV G k kS pc' L (.int (nI i) :: st) n h) : XV G k kS pc L st n h := xv_iconst hF hd hv hp kk
theorem xv_bipushN {G : xG} {K : xK} {cc : ByteArray} {own : String} {rm0 : Room} {mL k kS pc pc' n : Nat} {L : List (Nat × Value)} {st : List Value} {h : xH} (i : Nat) {z : Int} (hF : XF G K cc own rm0 mL) (hd : decode cc pc = .ok (.bipush z, 2)) (hv : (Int8.ofInt z).toInt32 = nI i) (hp : pc + 2 = pc') (kk : XV G k kS pc' L (.int (nI i) :: st) n h) : XV G k kS pc L st n h := xv_bipush hF hd hv hp kk
theorem xv_sipushN {G : xG} {K : xK} {cc : ByteArray} {own : String} {rm0 : Room} {mL k kS pc pc' n : Nat} {L : List (Nat × Value)} {st : List Value} {h : xH} (i : Nat) {z : Int} (hF : XF G K cc own rm0 mL) (hd : decode cc pc = .ok (.sipush z, 3)) (hv : (Int16.ofInt z).toInt32 = nI i) (hp : pc + 3 = pc') (kk : XV G k kS pc' L (.int (nI i) :: st) n h) : XV G k kS pc L st n h := xv_sipush hF hd hv hp kk
theorem xv_top {G : xG} {k kS pc n : Nat} {L : List (Nat × Value)} {st : List Value} {h : xH} {v v' : Value} (he : v = v') (kk : XV G k kS pc L (v' :: st) n h) : XV G k kS pc L (v :: st) n h := by subst he; exact kk
theorem xv_topi {G : xG} {k kS pc n : Nat} {L : List (Nat × Value)} {st : List Value} {h : xH} {v v' : Int32} (he : v = v') (kk : XV G k kS pc L (.int v' :: st) n h) : XV G k kS pc L (.int v :: st) n h := by subst he; exact kk
theorem xv_iaddN {G : xG} {K : xK} {cc : ByteArray} {own : String} {rm0 : Room} {mL k kS pc pc' n : Nat} {L : List (Nat × Value)} {st : List Value} {h : xH} {x y : Nat} (hF : XF G K cc own rm0 mL) (hd : decode cc pc = .ok (.iadd, 1)) (hp : pc + 1 = pc') (kk : XV G k kS pc' L (.int (nI (x + y)) :: st) n h) : XV G k kS pc L (.int (nI y) :: .int (nI x) :: st) n h := xv_iadd hF hd hp (xv_topi (nI_add x y) kk)
theorem xv_imulN {G : xG} {K : xK} {cc : ByteArray} {own : String} {rm0 : Room} {mL k kS pc pc' n : Nat} {L : List (Nat × Value)} {st : List Value} {h : xH} {x y : Nat} (hF : XF G K cc own rm0 mL) (hd : decode cc pc = .ok (.imul, 1)) (hp : pc + 1 = pc') (kk : XV G k kS pc' L (.int (nI (x * y)) :: st) n h) : XV G k kS pc L (.int (nI y) :: .int (nI x) :: st) n h := xv_imul hF hd hp (xv_topi (pk_mul x y) kk)
theorem xv_isubN {G : xG} {K : xK} {cc : ByteArray} {own : String} {rm0 : Room} {mL k kS pc pc' n : Nat} {L : List (Nat × Value)} {st : List Value} {h : xH} {x y : Nat} (hF : XF G K cc own rm0 mL) (hle : y ≤ x) (hd : decode cc pc = .ok (.isub, 1)) (hp : pc + 1 = pc') (kk : XV G k kS pc' L (.int (nI (x - y)) :: st) n h) : XV G k kS pc L (.int (nI y) :: .int (nI x) :: st) n h := xv_isub hF hd hp (xv_topi (pk_sub hle) kk)
theorem xv_idivN {G : xG} {K : xK} {cc : ByteArray} {own : String} {rm0 : Room} {mL k kS pc pc' n : Nat} {L : List (Nat × Value)} {st : List Value} {h : xH} {x y : Nat} (hF : XF G K cc own rm0 mL) (hx : x < 2 ^ 31) (h0 : 0 < y) (hy : y < 2 ^ 31) (hd : decode cc pc = .ok (.idiv, 1)) (hp : pc + 1 = pc') (kk : XV G k kS pc' L (.int (nI (x / y)) :: st) n h) : XV G k kS pc L (.int (nI y) :: .int (nI x) :: st) n h := xv_idiv hF hd (nI_ne0 h0 hy) hp (xv_topi (pk_div hx h0 hy) kk)
theorem xv_iremN {G : xG} {K : xK} {cc : ByteArray} {own : String} {rm0 : Room} {mL k kS pc pc' n : Nat} {L : List (Nat × Value)} {st : List Value} {h : xH} {x y : Nat} (hF : XF G K cc own rm0 mL) (hx : x < 2 ^ 31) (h0 : 0 < y) (hy : y < 2 ^ 31) (hd : decode cc pc = .ok (.irem, 1)) (hp : pc + 1 = pc') (kk : XV G k kS pc' L (.int (nI (x % y)) :: st) n h) : XV G k kS pc L (.int (nI y) :: .int (nI x) :: st) n h := xv_irem hF hd (nI_ne0 h0 hy) hp (xv_topi (pk_rem hx h0 hy) kk)
theorem xv_iincN {G : xG} {K : xK} {cc : ByteArray} {own : String} {rm0 : Room} {mL k kS pc pc' n : Nat} {L : List (Nat × Value)} {st : List Value} {h : xH} {i x : Nat} {z : Int} {L' : List (Nat × Value)} (hF : XF G K cc own rm0 mL) (hd : decode cc pc = .ok (.iinc i z, 3)) (hk : xl L i = some (.int (nI x))) (hz : z = 1) (hn : i < mL) (hL : (i, Value.int (nI (x + 1))) :: L.filter (fun q => !(q.1 == i) && !(q.1 + 1 == i && q.2.category == 2)) = L') (hp : pc + 3 = pc') (kk : XV G k kS pc' L' st n h) : XV G k kS pc L st n h := by
  subst hz
  exact xv_iinc hF hd hk (nI_1 x) hn hL hp kk
theorem xv_ialdN {G : xG} {K : xK} {cc : ByteArray} {own : String} {rm0 : Room} {mL k kS pc pc' n : Nat} {L : List (Nat × Value)} {st : List Value} {h : xH} {a N i : Nat} {f : Nat → Int32} (hF : XF G K cc own rm0 mL) (hh : h a = some (.inl (K.2.2.1 0, N, .inl f))) (hi : i < N) (hN : N < 2 ^ 31) (hd : decode cc pc = .ok (.iaload, 1)) (hp : pc + 1 = pc') (kk : XV G k kS pc' L (.int (f i) :: st) n h) : XV G k kS pc L (.int (nI i) :: .ref a :: st) n h := xv_iald hF hh (vp_in_nI hi hN) hd hp (xv_top (by rw [nI_clamp (Nat.lt_trans hi hN)]) kk)
theorem xv_zaldN {G : xG} {K : xK} {cc : ByteArray} {own : String} {rm0 : Room} {mL k kS pc pc' n : Nat} {L : List (Nat × Value)} {st : List Value} {h : xH} {a N i : Nat} {f : Nat → Int32} (hF : XF G K cc own rm0 mL) (hh : h a = some (.inl (K.2.2.1 1, N, .inl f))) (hi : i < N) (hN : N < 2 ^ 31) (hd : decode cc pc = .ok (.baload, 1)) (hp : pc + 1 = pc') (kk : XV G k kS pc' L (.int (f i) :: st) n h) : XV G k kS pc L (.int (nI i) :: .ref a :: st) n h := xv_zald hF hh (vp_in_nI hi hN) hd hp (xv_top (by rw [nI_clamp (Nat.lt_trans hi hN)]) kk)
theorem xv_laldN {G : xG} {K : xK} {cc : ByteArray} {own : String} {rm0 : Room} {mL k kS pc pc' n : Nat} {L : List (Nat × Value)} {st : List Value} {h : xH} {a N i : Nat} {f : Nat → Int64} (hF : XF G K cc own rm0 mL) (hh : h a = some (.inl (K.2.2.1 2, N, .inr (.inl f)))) (hi : i < N) (hN : N < 2 ^ 31) (hd : decode cc pc = .ok (.laload, 1)) (hp : pc + 1 = pc') (kk : XV G k kS pc' L (.long (f i) :: st) n h) : XV G k kS pc L (.int (nI i) :: .ref a :: st) n h := xv_lald hF hh (vp_in_nI hi hN) hd hp (xv_top (by rw [nI_clamp (Nat.lt_trans hi hN)]) kk)
theorem xv_aaldN {G : xG} {K : xK} {cc : ByteArray} {own : String} {rm0 : Room} {mL k kS pc pc' n : Nat} {L : List (Nat × Value)} {st : List Value} {h : xH} {a N i : Nat} {C : String} {f : Nat → Option Nat} (t : Nat) (hF : XF G K cc own rm0 mL) (hh : h a = some (.inl (K.2.2.1 t, N, .inr (.inr (.inr (.inr f)))))) (ht : (x_tys K.2.2.1)[t]? = some (K.2.2.1 t, .object C)) (hi : i < N) (hN : N < 2 ^ 31) (hd : decode cc pc = .ok (.aaload, 1)) (hp : pc + 1 = pc') (kk : XV G k kS pc' L (va_rf (f i) :: st) n h) : XV G k kS pc L (.int (nI i) :: .ref a :: st) n h := xv_aald t hF hh ht (vp_in_nI hi hN) hd hp (xv_top (by rw [nI_clamp (Nat.lt_trans hi hN)]) kk)
theorem xv_iastN {G : xG} {K : xK} {cc : ByteArray} {own : String} {rm0 : Room} {mL k kS pc pc' n : Nat} {L : List (Nat × Value)} {st : List Value} {h : xH} {a N i : Nat} {f : Nat → Int32} {x : Int32} (hF : XF G K cc own rm0 mL) (hh : h a = some (.inl (K.2.2.1 0, N, .inl f))) (hi : i < N) (hN : N < 2 ^ 31) (hd : decode cc pc = .ok (.iastore, 1)) (hp : pc + 1 = pc') (kk : XV G k kS pc' L st n (xu h a (.inl (K.2.2.1 0, N, .inl (upd f i x))))) : XV G k kS pc L (.int x :: .int (nI i) :: .ref a :: st) n h := xv_iast hF hh (vp_in_nI hi hN) hd hp (by rw [nI_clamp (Nat.lt_trans hi hN)]; exact kk)
theorem xv_zastN {G : xG} {K : xK} {cc : ByteArray} {own : String} {rm0 : Room} {mL k kS pc pc' n : Nat} {L : List (Nat × Value)} {st : List Value} {h : xH} {a N i : Nat} {f : Nat → Int32} {x : Int32} (hF : XF G K cc own rm0 mL) (hh : h a = some (.inl (K.2.2.1 1, N, .inl f))) (hi : i < N) (hN : N < 2 ^ 31) (hd : decode cc pc = .ok (.bastore, 1)) (hp : pc + 1 = pc') (kk : XV G k kS pc' L st n (xu h a (.inl (K.2.2.1 1, N, .inl (upd f i (vp_nar .boolean x)))))) : XV G k kS pc L (.int x :: .int (nI i) :: .ref a :: st) n h := xv_zast hF hh (vp_in_nI hi hN) hd hp (by rw [nI_clamp (Nat.lt_trans hi hN)]; exact kk)
theorem xv_lastN {G : xG} {K : xK} {cc : ByteArray} {own : String} {rm0 : Room} {mL k kS pc pc' n : Nat} {L : List (Nat × Value)} {st : List Value} {h : xH} {a N i : Nat} {f : Nat → Int64} {x : Int64} (hF : XF G K cc own rm0 mL) (hh : h a = some (.inl (K.2.2.1 2, N, .inr (.inl f)))) (hi : i < N) (hN : N < 2 ^ 31) (hd : decode cc pc = .ok (.lastore, 1)) (hp : pc + 1 = pc') (kk : XV G k kS pc' L st n (xu h a (.inl (K.2.2.1 2, N, .inr (.inl (vp_updL f i x)))))) : XV G k kS pc L (.long x :: .int (nI i) :: .ref a :: st) n h := xv_last hF hh (vp_in_nI hi hN) hd hp (by rw [nI_clamp (Nat.lt_trans hi hN)]; exact kk)
theorem xv_aastN {G : xG} {K : xK} {cc : ByteArray} {own : String} {rm0 : Room} {mL k kS pc pc' n : Nat} {L : List (Nat × Value)} {st : List Value} {h : xH} {a N v ci i : Nat} {r : vw_C} {vs : List Value} {f : Nat → Option Nat} (t : Nat) (hF : XF G K cc own rm0 mL) (hh : h a = some (.inl (K.2.2.1 t, N, .inr (.inr (.inr (.inr f)))))) (ht : (x_tys K.2.2.1)[t]? = some (K.2.2.1 t, .object r.1)) (hv : h v = some (.inr (ci, vs))) (hc : x_cl[ci]? = some r) (hi : i < N) (hN : N < 2 ^ 31) (hd : decode cc pc = .ok (.aastore, 1)) (hp : pc + 1 = pc') (kk : XV G k kS pc' L st n (xu h a (.inl (K.2.2.1 t, N, .inr (.inr (.inr (.inr (va_up f i (some v))))))))) : XV G k kS pc L (.ref v :: .int (nI i) :: .ref a :: st) n h := xv_aast t hF hh ht hv hc (vp_in_nI hi hN) hd hp (by rw [nI_clamp (Nat.lt_trans hi hN)]; exact kk)
theorem xv_icmp_eqN {G : xG} {K : xK} {cc : ByteArray} {own : String} {rm0 : Room} {mL k kS pc pc' n : Nat} {L : List (Nat × Value)} {st : List Value} {h : xH} {x y : Nat} {off : Int} {tgt : Nat} (hF : XF G K cc own rm0 mL) (hx : x < 2 ^ 31) (hy : y < 2 ^ 31) (hd : decode cc pc = .ok (.if_icmp .eq off, 3)) (ht : (pc : Int) + off = (tgt : Int)) (hp : pc + 3 = pc') (kt : x = y → XV G k kS tgt L st n h) (kf : ¬ x = y → XV G k kS pc' L st n h) : XV G k kS pc L (.int (nI y) :: .int (nI x) :: st) n h := xv_icmp_eq hF hd ht hp (fun q => kt ((nI_eq hx hy).mp q)) (fun q => kf (fun e => q ((nI_eq hx hy).mpr e)))
theorem xv_icmp_neN {G : xG} {K : xK} {cc : ByteArray} {own : String} {rm0 : Room} {mL k kS pc pc' n : Nat} {L : List (Nat × Value)} {st : List Value} {h : xH} {x y : Nat} {off : Int} {tgt : Nat} (hF : XF G K cc own rm0 mL) (hx : x < 2 ^ 31) (hy : y < 2 ^ 31) (hd : decode cc pc = .ok (.if_icmp .ne off, 3)) (ht : (pc : Int) + off = (tgt : Int)) (hp : pc + 3 = pc') (kt : ¬ x = y → XV G k kS tgt L st n h) (kf : x = y → XV G k kS pc' L st n h) : XV G k kS pc L (.int (nI y) :: .int (nI x) :: st) n h := xv_icmp_ne hF hd ht hp (fun q => kt (fun e => q ((nI_eq hx hy).mpr e))) (fun q => kf ((nI_eq hx hy).mp q))
theorem xv_icmp_ltN {G : xG} {K : xK} {cc : ByteArray} {own : String} {rm0 : Room} {mL k kS pc pc' n : Nat} {L : List (Nat × Value)} {st : List Value} {h : xH} {x y : Nat} {off : Int} {tgt : Nat} (hF : XF G K cc own rm0 mL) (hx : x < 2 ^ 31) (hy : y < 2 ^ 31) (hd : decode cc pc = .ok (.if_icmp .lt off, 3)) (ht : (pc : Int) + off = (tgt : Int)) (hp : pc + 3 = pc') (kt : x < y → XV G k kS tgt L st n h) (kf : y ≤ x → XV G k kS pc' L st n h) : XV G k kS pc L (.int (nI y) :: .int (nI x) :: st) n h := xv_icmp_lt hF hd ht hp (fun q => kt ((nI_ltI hx hy).mp q)) (fun q => kf (Nat.not_lt.mp fun e => q ((nI_ltI hx hy).mpr e)))
theorem xv_icmp_geN {G : xG} {K : xK} {cc : ByteArray} {own : String} {rm0 : Room} {mL k kS pc pc' n : Nat} {L : List (Nat × Value)} {st : List Value} {h : xH} {x y : Nat} {off : Int} {tgt : Nat} (hF : XF G K cc own rm0 mL) (hx : x < 2 ^ 31) (hy : y < 2 ^ 31) (hd : decode cc pc = .ok (.if_icmp .ge off, 3)) (ht : (pc : Int) + off = (tgt : Int)) (hp : pc + 3 = pc') (kt : y ≤ x → XV G k kS tgt L st n h) (kf : x < y → XV G k kS pc' L st n h) : XV G k kS pc L (.int (nI y) :: .int (nI x) :: st) n h := xv_icmp_ge hF hd ht hp (fun q => kt ((nI_leI hy hx).mp q)) (fun q => kf (Nat.not_le.mp fun e => q ((nI_leI hy hx).mpr e)))
theorem xv_icmp_gtN {G : xG} {K : xK} {cc : ByteArray} {own : String} {rm0 : Room} {mL k kS pc pc' n : Nat} {L : List (Nat × Value)} {st : List Value} {h : xH} {x y : Nat} {off : Int} {tgt : Nat} (hF : XF G K cc own rm0 mL) (hx : x < 2 ^ 31) (hy : y < 2 ^ 31) (hd : decode cc pc = .ok (.if_icmp .gt off, 3)) (ht : (pc : Int) + off = (tgt : Int)) (hp : pc + 3 = pc') (kt : y < x → XV G k kS tgt L st n h) (kf : x ≤ y → XV G k kS pc' L st n h) : XV G k kS pc L (.int (nI y) :: .int (nI x) :: st) n h := xv_icmp_gt hF hd ht hp (fun q => kt ((nI_ltI hy hx).mp q)) (fun q => kf (Nat.not_lt.mp fun e => q ((nI_ltI hy hx).mpr e)))
theorem xv_icmp_leN {G : xG} {K : xK} {cc : ByteArray} {own : String} {rm0 : Room} {mL k kS pc pc' n : Nat} {L : List (Nat × Value)} {st : List Value} {h : xH} {x y : Nat} {off : Int} {tgt : Nat} (hF : XF G K cc own rm0 mL) (hx : x < 2 ^ 31) (hy : y < 2 ^ 31) (hd : decode cc pc = .ok (.if_icmp .le off, 3)) (ht : (pc : Int) + off = (tgt : Int)) (hp : pc + 3 = pc') (kt : x ≤ y → XV G k kS tgt L st n h) (kf : y < x → XV G k kS pc' L st n h) : XV G k kS pc L (.int (nI y) :: .int (nI x) :: st) n h := xv_icmp_le hF hd ht hp (fun q => kt ((nI_leI hx hy).mp q)) (fun q => kf (Nat.not_le.mp fun e => q ((nI_leI hx hy).mpr e)))
theorem xv_if_eqN {G : xG} {K : xK} {cc : ByteArray} {own : String} {rm0 : Room} {mL k kS pc pc' n : Nat} {L : List (Nat × Value)} {st : List Value} {h : xH} {x : Nat} {off : Int} {tgt : Nat} (hF : XF G K cc own rm0 mL) (hx : x < 2 ^ 31) (hd : decode cc pc = .ok (.ifCond .eq off, 3)) (ht : (pc : Int) + off = (tgt : Int)) (hp : pc + 3 = pc') (kt : x = 0 → XV G k kS tgt L st n h) (kf : 0 < x → XV G k kS pc' L st n h) : XV G k kS pc L (.int (nI x) :: st) n h := xv_if_eq hF hd ht hp (fun q => kt ((nI_eq hx (by decide)).mp (q.trans nI_0.symm))) (fun q => kf (Nat.pos_of_ne_zero fun e => q (by rw [e]; exact nI_0)))
theorem xv_if_neN {G : xG} {K : xK} {cc : ByteArray} {own : String} {rm0 : Room} {mL k kS pc pc' n : Nat} {L : List (Nat × Value)} {st : List Value} {h : xH} {x : Nat} {off : Int} {tgt : Nat} (hF : XF G K cc own rm0 mL) (hx : x < 2 ^ 31) (hd : decode cc pc = .ok (.ifCond .ne off, 3)) (ht : (pc : Int) + off = (tgt : Int)) (hp : pc + 3 = pc') (kt : 0 < x → XV G k kS tgt L st n h) (kf : x = 0 → XV G k kS pc' L st n h) : XV G k kS pc L (.int (nI x) :: st) n h := xv_if_ne hF hd ht hp (fun q => kt (Nat.pos_of_ne_zero fun e => q (by rw [e]; exact nI_0))) (fun q => kf ((nI_eq hx (by decide)).mp (q.trans nI_0.symm)))
theorem xv_if_ltN {G : xG} {K : xK} {cc : ByteArray} {own : String} {rm0 : Room} {mL k kS pc pc' n : Nat} {L : List (Nat × Value)} {st : List Value} {h : xH} {x : Nat} {off : Int} (hF : XF G K cc own rm0 mL) (hx : x < 2 ^ 31) (hd : decode cc pc = .ok (.ifCond .lt off, 3)) {tgt : Nat} (ht : (pc : Int) + off = (tgt : Int)) (hp : pc + 3 = pc') (kf : XV G k kS pc' L st n h) : XV G k kS pc L (.int (nI x) :: st) n h := xv_if_lt hF hd ht hp (fun q => absurd q (nI_pos hx)) (fun _ => kf)
theorem xv_if_geN {G : xG} {K : xK} {cc : ByteArray} {own : String} {rm0 : Room} {mL k kS pc pc' n : Nat} {L : List (Nat × Value)} {st : List Value} {h : xH} {x : Nat} {off : Int} (hF : XF G K cc own rm0 mL) (hx : x < 2 ^ 31) (hd : decode cc pc = .ok (.ifCond .ge off, 3)) {tgt : Nat} (ht : (pc : Int) + off = (tgt : Int)) (hp : pc + 3 = pc') (kt : XV G k kS tgt L st n h) : XV G k kS pc L (.int (nI x) :: st) n h := xv_if_ge hF hd ht hp (fun _ => kt) (fun q => absurd (nI_pos' hx) q)
theorem xv_if_leN {G : xG} {K : xK} {cc : ByteArray} {own : String} {rm0 : Room} {mL k kS pc pc' n : Nat} {L : List (Nat × Value)} {st : List Value} {h : xH} {x : Nat} {off : Int} {tgt : Nat} (hF : XF G K cc own rm0 mL) (hx : x < 2 ^ 31) (hd : decode cc pc = .ok (.ifCond .le off, 3)) (ht : (pc : Int) + off = (tgt : Int)) (hp : pc + 3 = pc') (kt : x = 0 → XV G k kS tgt L st n h) (kf : 0 < x → XV G k kS pc' L st n h) : XV G k kS pc L (.int (nI x) :: st) n h := xv_if_le hF hd ht hp (fun q => kt (by rw [← nI_0, nI_leI hx (by decide)] at q; omega)) (fun q => kf (by rw [← nI_0, nI_leI hx (by decide)] at q; omega))
theorem xv_if_gtN {G : xG} {K : xK} {cc : ByteArray} {own : String} {rm0 : Room} {mL k kS pc pc' n : Nat} {L : List (Nat × Value)} {st : List Value} {h : xH} {x : Nat} {off : Int} {tgt : Nat} (hF : XF G K cc own rm0 mL) (hx : x < 2 ^ 31) (hd : decode cc pc = .ok (.ifCond .gt off, 3)) (ht : (pc : Int) + off = (tgt : Int)) (hp : pc + 3 = pc') (kt : 0 < x → XV G k kS tgt L st n h) (kf : x = 0 → XV G k kS pc' L st n h) : XV G k kS pc L (.int (nI x) :: st) n h := xv_if_gt hF hd ht hp (fun q => kt (by rw [← nI_0, nI_ltI (by decide) hx] at q; exact q)) (fun q => kf (by rw [← nI_0, nI_ltI (by decide) hx] at q; omega))
def xb (B : Bool) : Int32 := if B then 1 else 0
theorem xb_nar (B : Bool) : vp_nar .boolean (xb B) = xb B := by cases B <;> decide +kernel
theorem xb_nw (B : Bool) : narrow .boolean (.int (xb B)) = .int (xb B) := by cases B <;> decide +kernel
theorem xb_ft (B : Bool) : fits .boolean (.int (xb B)) = true := by cases B <;> decide +kernel
theorem xv_if_eqB {G : xG} {K : xK} {cc : ByteArray} {own : String} {rm0 : Room} {mL k kS pc pc' n : Nat} {L : List (Nat × Value)} {st : List Value} {h : xH} {B : Bool} {off : Int} {tgt : Nat} (hF : XF G K cc own rm0 mL) (hd : decode cc pc = .ok (.ifCond .eq off, 3)) (ht : (pc : Int) + off = (tgt : Int)) (hp : pc + 3 = pc') (kt : B = false → XV G k kS tgt L st n h) (kf : B = true → XV G k kS pc' L st n h) : XV G k kS pc L (.int (xb B) :: st) n h := xv_if_eq hF hd ht hp (fun q => kt (by cases B with | false => rfl | true => exact absurd q (by decide))) (fun q => kf (by cases B with | false => exact absurd rfl q | true => rfl))
theorem xv_if_neB {G : xG} {K : xK} {cc : ByteArray} {own : String} {rm0 : Room} {mL k kS pc pc' n : Nat} {L : List (Nat × Value)} {st : List Value} {h : xH} {B : Bool} {off : Int} {tgt : Nat} (hF : XF G K cc own rm0 mL) (hd : decode cc pc = .ok (.ifCond .ne off, 3)) (ht : (pc : Int) + off = (tgt : Int)) (hp : pc + 3 = pc') (kt : B = true → XV G k kS tgt L st n h) (kf : B = false → XV G k kS pc' L st n h) : XV G k kS pc L (.int (xb B) :: st) n h := xv_if_ne hF hd ht hp (fun q => kt (by cases B with | false => exact absurd rfl q | true => rfl)) (fun q => kf (by cases B with | false => rfl | true => exact absurd q (by decide)))
def xsub (L : List (Nat × Value)) : List (Nat × Value) → Prop
  | [] => True
  | q :: r => xl L q.1 = some q.2 ∧ xsub L r
theorem xsub_mem {L : List (Nat × Value)} : ∀ {L' : List (Nat × Value)}, xsub L L' → ∀ q ∈ L', xl L q.1 = some q.2
  | [], _, q, hq => by cases hq
  | a :: r, h, q, hq => by
    rcases List.mem_cons.mp hq with rfl | hq
    · exact h.1
    · exact xsub_mem h.2 q hq
theorem xv_loc {G : xG} {k kS pc n : Nat} {L : List (Nat × Value)} {st : List Value} {h : xH} (L' : List (Nat × Value)) (hs : xsub L L') (kk : XV G k kS pc L' st n h) : XV G k kS pc L st n h := by
  obtain ⟨p, e, R, s, m, args, below, meth, c, ⟨l, D, cx, b⟩, H0, maxL, Q⟩ := G
  intro H locs ls hh hS hl
  exact kk H locs ls hh hS ⟨hl.1, hl.2.1, fun q hq => xl_at hl (xsub_mem hs q hq)⟩
theorem xv_room {G : xG} {k kS k' kS' pc n : Nat} {L : List (Nat × Value)} {st : List Value} {h : xH} (h1 : k ≤ k') (h2 : kS ≤ kS') (kk : XV G k' kS' pc L st n h) : XV G k kS pc L st n h := by
  obtain ⟨p, e, R, s, m, args, below, meth, c, ⟨l, D, cx, b⟩, H0, maxL, Q⟩ := G
  intro H locs ls hh hS hl
  exact W.widen h1 h2 (kk H locs ls hh hS hl)
