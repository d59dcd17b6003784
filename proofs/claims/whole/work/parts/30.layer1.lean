/-! The layer: a heap as a function from addresses to cells; XV: the machine's W over such a heap. -/
abbrev xH : Type := Nat → Option va_E
abbrev xK : Type := Launch × va_G × (Nat → ClassId) × Nat
abbrev xG : Type := Program × Env × Room × State × MethodId × Array Value × List Frame × Method × Code × xK × Heap × Nat × (State → Prop)
def xu (h : xH) (a : Nat) (e : va_E) : xH := fun q => if q = a then some e else h q
theorem xu_self {h : xH} {a : Nat} {e : va_E} : xu h a e a = some e := by simp [xu]
theorem xu_ne {h : xH} {a q : Nat} {e : va_E} (hq : q ≠ a) : xu h a e q = h q := by simp [xu, hq]
theorem xu_xu {h : xH} {a : Nat} {e e' : va_E} : xu (xu h a e) a e' = xu h a e' := by
  funext q
  unfold xu
  split <;> rfl
def x_tys (cx : Nat → ClassId) : List (ClassId × FieldType) := [(cx 0, .int), (cx 1, .boolean), (cx 2, .long), (cx 3, .object xr_EX), (cx 4, .object xr_RE)]
def xh_ok (D : va_G) (b n : Nat) (h : xH) (H : Heap) : Prop := ∃ ws : va_W, va_P D x_cl ws H ∧ va_D (fun q => b ≤ q) ws ∧ H.size = n ∧ b ≤ n ∧ ∀ a e, h a = some e ↔ ∃ q : Nat, ws[q]? = some (a, e)
/-- words that are told apart: links across the nest, arrays of objects -/
def x_N (U : State) : Prop := (∀ w ∈ x_nest, va_Nw w U) ∧ va_AO xr_RE U ∧ va_AO xr_EX U
theorem x_N.warm {s U : State} (hW : s.WarmedH U.vm) (h : x_N s) : x_N U := by
  refine ⟨fun w hw => ?_, va_AO.moved hW.alike h.2.1, va_AO.moved hW.alike h.2.2⟩
  rcases x_nest_k w hw with ⟨a, i, b, n, d, g, rfl⟩ | ⟨a, i, y, g, rfl⟩
  · exact va_Nw.warmF hW (h.1 _ hw)
  · exact va_Nw.warmM hW (h.1 _ hw)
theorem x_N.same {s U : State} (hv : s.vm = U.vm) (h : x_N s) : x_N U := by
  have ha : s.vm.Alike U.vm := by rw [hv]; exact Vm.Alike.refl _
  refine ⟨fun w hw => ?_, va_AO.moved ha h.2.1, va_AO.moved ha h.2.2⟩
  rcases x_nest_k w hw with ⟨a, i, b, n, d, g, rfl⟩ | ⟨a, i, y, g, rfl⟩
  · exact va_Nw.same rfl hv (h.1 _ hw)
  · exact va_Nw.same rfl hv (h.1 _ hw)
def x_I (K : xK) (n : Nat) (h : xH) (U : State) : Prop := xh_ok K.2.1 K.2.2.2 n h U.heap ∧ va_K K.2.1 x_cl (x_tys K.2.2.1) U ∧ x_N U
def x_Q (K : xK) (post : Option Value → Nat → xH → Prop) : Array Value → State → Outcome → State → Prop := fun _ st oc t => (∃ v n h, oc = .returned v ∧ post v n h ∧ x_I K n h t) ∧ va_F (fun q => K.2.2.2 ≤ q) st t
def XM (K : xK) (y : MethodName) (ws : List Cond) (rm : Room) (av : List Value) (n : Nat) (h : xH) (post : Option Value → Nat → xH → Prop) (mc ms : Nat) : Prop :=
  Met K.1 y ws rm (va_Pc av (x_I K n h)) (x_Q K post) mc ms (fun q => K.2.2.2 ≤ q)
def XV (G : xG) (k kS pc : Nat) (L : List (Nat × Value)) (st : List Value) (n : Nat) (h : xH) : Prop := match G with
  | (p, e, R, s, m, args, below, meth, c, (l, D, _, b), H0, maxL, Q) => ∀ (H : Heap) (locs : List Loc) (ls : Array Slot), xh_ok D b n h H → va_S (fun q => b ≤ q) H0 H locs → lv_has ls maxL L → W p l e R s m args below meth c H locs k kS Q (F0 m pc ls st)
def XF (G : xG) (K : xK) (cc : ByteArray) (own : String) (rm0 : Room) (mL : Nat) : Prop := match G with
  | (p, _, R, s, m, args, _, _, c, K', H0, maxL, _) => CallFix p m c cc mL s args x_T own ∧ va_K K.2.1 x_cl (x_tys K.2.2.1) s ∧ R = rm0 ∧ K.2.2.2 ≤ H0.size ∧ maxL = mL ∧ K' = K ∧ x_N s
theorem xh_at {D : va_G} {b n : Nat} {h : xH} {H : Heap} (hh : xh_ok D b n h H) {a : Nat} {e : va_E} (ha : h a = some e) : b ≤ a ∧ a < n := by
  obtain ⟨ws, hP, hD, hn, -, hi⟩ := hh
  obtain ⟨q, hq⟩ := (hi a e).mp ha
  exact ⟨hD.2 q _ hq, by rw [← hn]; exact (hP q _ hq).lt⟩
theorem xh_new {D : va_G} {b n : Nat} {h : xH} {H : Heap} (hh : xh_ok D b n h H) : h n = none := by
  cases e : h n with
  | none => rfl
  | some x => exact absurd (xh_at hh e).2 (Nat.lt_irrefl _)
theorem xh_set {D : va_G} {b n : Nat} {h : xH} {ws : va_W} {H1 : Heap} {a q0 : Nat} {e0 e : va_E} (hD : va_D (fun q => b ≤ q) ws) (hi : ∀ a e, h a = some e ↔ ∃ q : Nat, ws[q]? = some (a, e)) (h0 : ws[q0]? = some (a, e0)) (hP1 : va_P D x_cl (ws.set q0 (a, e)) H1) (hD1 : va_D (fun q => b ≤ q) (ws.set q0 (a, e))) (hn : H1.size = n) (hb : b ≤ n) : xh_ok D b n (xu h a e) H1 := by
  refine ⟨_, hP1, hD1, hn, hb, fun x y => ?_⟩
  have hl := (List.getElem?_eq_some_iff.mp h0).1
  by_cases hx : x = a
  · subst hx
    rw [xu_self]
    constructor
    · intro h1
      cases h1
      exact ⟨q0, List.getElem?_set_self hl⟩
    · rintro ⟨q, hq⟩
      have : q = q0 := hD1.1 q q0 _ _ hq (List.getElem?_set_self hl) rfl
      subst this
      rw [List.getElem?_set_self hl] at hq
      cases hq
      rfl
  · rw [xu_ne hx, hi x y]
    constructor
    · rintro ⟨q, hq⟩
      have : q ≠ q0 := by
        rintro rfl
        rw [h0] at hq
        cases hq
        exact hx rfl
      exact ⟨q, by rw [List.getElem?_set_ne (Ne.symm this)]; exact hq⟩
    · rintro ⟨q, hq⟩
      have : q ≠ q0 := by
        rintro rfl
        rw [List.getElem?_set_self hl] at hq
        cases hq
        exact hx rfl
      rw [List.getElem?_set_ne (Ne.symm this)] at hq
      exact ⟨q, hq⟩
theorem xh_push {D : va_G} {b n : Nat} {h : xH} {H H1 : Heap} {e : va_E} (hh : xh_ok D b n h H) (hz : H1.size = n + 1) (ho : ∀ q, q < n → H1[q]? = H[q]?) (he : va_at D x_cl (n, e) H1) : xh_ok D b (n + 1) (xu h n e) H1 := by
  have hnew := xh_new hh
  obtain ⟨ws, hP, hD, hn, hb, hi⟩ := hh
  subst hn
  have hk : va_P D x_cl ws H1 := hP.kept fun k q hq => ho q.1 (hP k q hq).lt
  refine ⟨ws ++ [(H.size, e)], hk.app (fun k q hq => ?_), hD.push hP rfl hb, hz, by omega, fun x y => ?_⟩
  · have hz1 : k < 1 := (List.getElem?_eq_some_iff.mp hq).1
    rw [show k = 0 by omega] at hq
    cases hq
    exact he
  · by_cases hx : x = H.size
    · subst hx
      rw [xu_self]
      constructor
      · intro h1
        cases h1
        exact ⟨ws.length, by simp⟩
      · rintro ⟨q, hq⟩
        by_cases hl : q < ws.length
        · rw [List.getElem?_append_left hl] at hq
          exact absurd (hP q _ hq).lt (Nat.lt_irrefl _)
        · rw [List.getElem?_append_right (by omega)] at hq
          have hz1 : q - ws.length < 1 := (List.getElem?_eq_some_iff.mp hq).1
          rw [show q - ws.length = 0 by omega] at hq
          cases hq
          rfl
    · rw [xu_ne hx, hi x y]
      constructor
      · rintro ⟨q, hq⟩
        exact ⟨q, by rw [List.getElem?_append_left (List.getElem?_eq_some_iff.mp hq).1]; exact hq⟩
      · rintro ⟨q, hq⟩
        by_cases hl : q < ws.length
        · rw [List.getElem?_append_left hl] at hq
          exact ⟨q, hq⟩
        · rw [List.getElem?_append_right (by omega)] at hq
          have hz1 : q - ws.length < 1 := (List.getElem?_eq_some_iff.mp hq).1
          rw [show q - ws.length = 0 by omega] at hq
          cases hq
          exact absurd rfl hx
theorem x_blind {K : xK} {av : List Value} {n : Nat} {h : xH} : FrameBlind (va_Pc av (x_I K n h)) := by
  intro a U g mk q
  obtain ⟨q0, q1, q2, q3⟩ := q
  exact ⟨q0, q1, va_K.moved (u := U) (U := U.calling g mk a) (Vm.Alike.refl U.vm) q2, x_N.same (s := U) (U := U.calling g mk a) rfl q3⟩
/-! a local by its number -/
def xl : List (Nat × Value) → Nat → Option Value
  | [], _ => none
  | q :: r, i => bif Nat.beq q.1 i then some q.2 else xl r i
theorem xl_get {i : Nat} {v : Value} : ∀ {L : List (Nat × Value)}, xl L i = some v → ∃ j : Nat, L[j]? = some (i, v)
  | [], h => by cases h
  | q :: r, h => by
    unfold xl at h
    cases e : Nat.beq q.1 i with
    | true =>
      rw [e] at h
      cases h
      exact ⟨0, by rw [← Nat.eq_of_beq_eq_true e]; rfl⟩
    | false =>
      rw [e] at h
      obtain ⟨j, hj⟩ := xl_get (L := r) h
      exact ⟨j + 1, hj⟩
theorem xl_at {ls : Array Slot} {nL i : Nat} {v : Value} {L : List (Nat × Value)} (hl : lv_has ls nL L) (h : xl L i = some v) : ls[i]? = some (.val v) := by
  obtain ⟨j, hj⟩ := xl_get h
  exact lv_at hl j hj
theorem xv_iconst {G : xG} {K : xK} {cc : ByteArray} {own : String} {rm0 : Room} {mL k kS pc pc' n : Nat} {L : List (Nat × Value)} {st : List Value} {h : xH} {i : Int} {v : Int32} (hF : XF G K cc own rm0 mL) (hd : decode cc pc = .ok (.iconst i, 1)) (hv : Int32.ofInt i = v) (hp : pc + 1 = pc') (kk : XV G k kS pc' L (.int v :: st) n h) : XV G k kS pc L (st) n h := by
  obtain ⟨p, e, R, s, m, args, below, meth, c, ⟨l, D, cx, b⟩, H0, maxL, Q⟩ := G
  obtain ⟨⟨hx, hb, hml, hown, hts⟩, hK, rfl, hbs, rfl, rfl, hN⟩ := hF
  subst hp
  intro H locs ls hh hS hl
  exact lv_iconst hx hb hd hv (kk H locs ls hh hS hl)
theorem xv_bipush {G : xG} {K : xK} {cc : ByteArray} {own : String} {rm0 : Room} {mL k kS pc pc' n : Nat} {L : List (Nat × Value)} {st : List Value} {h : xH} {i : Int} {v : Int32} (hF : XF G K cc own rm0 mL) (hd : decode cc pc = .ok (.bipush i, 2)) (hv : (Int8.ofInt i).toInt32 = v) (hp : pc + 2 = pc') (kk : XV G k kS pc' L (.int v :: st) n h) : XV G k kS pc L (st) n h := by
  obtain ⟨p, e, R, s, m, args, below, meth, c, ⟨l, D, cx, b⟩, H0, maxL, Q⟩ := G
  obtain ⟨⟨hx, hb, hml, hown, hts⟩, hK, rfl, hbs, rfl, rfl, hN⟩ := hF
  subst hp
  intro H locs ls hh hS hl
  exact lv_bipush hx hb hd hv (kk H locs ls hh hS hl)
theorem xv_sipush {G : xG} {K : xK} {cc : ByteArray} {own : String} {rm0 : Room} {mL k kS pc pc' n : Nat} {L : List (Nat × Value)} {st : List Value} {h : xH} {i : Int} {v : Int32} (hF : XF G K cc own rm0 mL) (hd : decode cc pc = .ok (.sipush i, 3)) (hv : (Int16.ofInt i).toInt32 = v) (hp : pc + 3 = pc') (kk : XV G k kS pc' L (.int v :: st) n h) : XV G k kS pc L (st) n h := by
  obtain ⟨p, e, R, s, m, args, below, meth, c, ⟨l, D, cx, b⟩, H0, maxL, Q⟩ := G
  obtain ⟨⟨hx, hb, hml, hown, hts⟩, hK, rfl, hbs, rfl, rfl, hN⟩ := hF
  subst hp
  intro H locs ls hh hS hl
  exact lv_sipush hx hb hd hv (kk H locs ls hh hS hl)
theorem xv_lconst {G : xG} {K : xK} {cc : ByteArray} {own : String} {rm0 : Room} {mL k kS pc pc' n : Nat} {L : List (Nat × Value)} {st : List Value} {h : xH} {i : Fin 2} {v : Int64} (hF : XF G K cc own rm0 mL) (hd : decode cc pc = .ok (.lconst i, 1)) (hv : Int64.ofNat (i : Nat) = v) (hp : pc + 1 = pc') (kk : XV G k kS pc' L (.long v :: st) n h) : XV G k kS pc L (st) n h := by
  obtain ⟨p, e, R, s, m, args, below, meth, c, ⟨l, D, cx, b⟩, H0, maxL, Q⟩ := G
  obtain ⟨⟨hx, hb, hml, hown, hts⟩, hK, rfl, hbs, rfl, rfl, hN⟩ := hF
  subst hp
  intro H locs ls hh hS hl
  exact lv_lconst hx hb hd hv (kk H locs ls hh hS hl)
theorem xv_null {G : xG} {K : xK} {cc : ByteArray} {own : String} {rm0 : Room} {mL k kS pc pc' n : Nat} {L : List (Nat × Value)} {st : List Value} {h : xH}  (hF : XF G K cc own rm0 mL) (hd : decode cc pc = .ok (.aconst_null, 1)) (hp : pc + 1 = pc') (kk : XV G k kS pc' L (.null :: st) n h) : XV G k kS pc L (st) n h := by
  obtain ⟨p, e, R, s, m, args, below, meth, c, ⟨l, D, cx, b⟩, H0, maxL, Q⟩ := G
  obtain ⟨⟨hx, hb, hml, hown, hts⟩, hK, rfl, hbs, rfl, rfl, hN⟩ := hF
  subst hp
  intro H locs ls hh hS hl
  exact lv_null hx hb hd (kk H locs ls hh hS hl)
theorem xv_iload_n {G : xG} {K : xK} {cc : ByteArray} {own : String} {rm0 : Room} {mL k kS pc pc' n : Nat} {L : List (Nat × Value)} {st : List Value} {h : xH} {z : Fin 4} {i : Nat} {x : Int32} (hF : XF G K cc own rm0 mL) (hd : decode cc pc = .ok (.iload_n z, 1)) (hi : (z : Nat) = i) (hL : xl L i = some (.int x)) (hp : pc + 1 = pc') (kk : XV G k kS pc' L (.int x :: st) n h) : XV G k kS pc L (st) n h := by
  obtain ⟨p, e, R, s, m, args, below, meth, c, ⟨l, D, cx, b⟩, H0, maxL, Q⟩ := G
  obtain ⟨⟨hx, hb, hml, hown, hts⟩, hK, rfl, hbs, rfl, rfl, hN⟩ := hF
  subst hp
  intro H locs ls hh hS hl
  exact lv_iload_n hx hb hd hi (xl_at hl hL) (kk H locs ls hh hS hl)
theorem xv_iload {G : xG} {K : xK} {cc : ByteArray} {own : String} {rm0 : Room} {mL k kS pc pc' n : Nat} {L : List (Nat × Value)} {st : List Value} {h : xH} {i : Nat} {x : Int32} (hF : XF G K cc own rm0 mL) (hd : decode cc pc = .ok (.iload i, 2)) (hL : xl L i = some (.int x)) (hp : pc + 2 = pc') (kk : XV G k kS pc' L (.int x :: st) n h) : XV G k kS pc L (st) n h := by
  obtain ⟨p, e, R, s, m, args, below, meth, c, ⟨l, D, cx, b⟩, H0, maxL, Q⟩ := G
  obtain ⟨⟨hx, hb, hml, hown, hts⟩, hK, rfl, hbs, rfl, rfl, hN⟩ := hF
  subst hp
  intro H locs ls hh hS hl
  exact lv_iload hx hb hd (xl_at hl hL) (kk H locs ls hh hS hl)
theorem xv_lload_n {G : xG} {K : xK} {cc : ByteArray} {own : String} {rm0 : Room} {mL k kS pc pc' n : Nat} {L : List (Nat × Value)} {st : List Value} {h : xH} {z : Fin 4} {i : Nat} {x : Int64} (hF : XF G K cc own rm0 mL) (hd : decode cc pc = .ok (.lload_n z, 1)) (hi : (z : Nat) = i) (hL : xl L i = some (.long x)) (hp : pc + 1 = pc') (kk : XV G k kS pc' L (.long x :: st) n h) : XV G k kS pc L (st) n h := by
  obtain ⟨p, e, R, s, m, args, below, meth, c, ⟨l, D, cx, b⟩, H0, maxL, Q⟩ := G
  obtain ⟨⟨hx, hb, hml, hown, hts⟩, hK, rfl, hbs, rfl, rfl, hN⟩ := hF
  subst hp
  intro H locs ls hh hS hl
  exact lv_lload_n hx hb hd hi (xl_at hl hL) (kk H locs ls hh hS hl)
theorem xv_lload {G : xG} {K : xK} {cc : ByteArray} {own : String} {rm0 : Room} {mL k kS pc pc' n : Nat} {L : List (Nat × Value)} {st : List Value} {h : xH} {i : Nat} {x : Int64} (hF : XF G K cc own rm0 mL) (hd : decode cc pc = .ok (.lload i, 2)) (hL : xl L i = some (.long x)) (hp : pc + 2 = pc') (kk : XV G k kS pc' L (.long x :: st) n h) : XV G k kS pc L (st) n h := by
  obtain ⟨p, e, R, s, m, args, below, meth, c, ⟨l, D, cx, b⟩, H0, maxL, Q⟩ := G
  obtain ⟨⟨hx, hb, hml, hown, hts⟩, hK, rfl, hbs, rfl, rfl, hN⟩ := hF
  subst hp
  intro H locs ls hh hS hl
  exact lv_lload hx hb hd (xl_at hl hL) (kk H locs ls hh hS hl)
theorem xv_aload_n {G : xG} {K : xK} {cc : ByteArray} {own : String} {rm0 : Room} {mL k kS pc pc' n : Nat} {L : List (Nat × Value)} {st : List Value} {h : xH} {z : Fin 4} {i : Nat} {x : Nat} (hF : XF G K cc own rm0 mL) (hd : decode cc pc = .ok (.aload_n z, 1)) (hi : (z : Nat) = i) (hL : xl L i = some (.ref x)) (hp : pc + 1 = pc') (kk : XV G k kS pc' L (.ref x :: st) n h) : XV G k kS pc L (st) n h := by
  obtain ⟨p, e, R, s, m, args, below, meth, c, ⟨l, D, cx, b⟩, H0, maxL, Q⟩ := G
  obtain ⟨⟨hx, hb, hml, hown, hts⟩, hK, rfl, hbs, rfl, rfl, hN⟩ := hF
  subst hp
  intro H locs ls hh hS hl
  exact lv_aload_n hx hb hd hi (xl_at hl hL) (kk H locs ls hh hS hl)
theorem xv_aload {G : xG} {K : xK} {cc : ByteArray} {own : String} {rm0 : Room} {mL k kS pc pc' n : Nat} {L : List (Nat × Value)} {st : List Value} {h : xH} {i : Nat} {x : Nat} (hF : XF G K cc own rm0 mL) (hd : decode cc pc = .ok (.aload i, 2)) (hL : xl L i = some (.ref x)) (hp : pc + 2 = pc') (kk : XV G k kS pc' L (.ref x :: st) n h) : XV G k kS pc L (st) n h := by
  obtain ⟨p, e, R, s, m, args, below, meth, c, ⟨l, D, cx, b⟩, H0, maxL, Q⟩ := G
  obtain ⟨⟨hx, hb, hml, hown, hts⟩, hK, rfl, hbs, rfl, rfl, hN⟩ := hF
  subst hp
  intro H locs ls hh hS hl
  exact lv_aload hx hb hd (xl_at hl hL) (kk H locs ls hh hS hl)
theorem xv_istore_n {G : xG} {K : xK} {cc : ByteArray} {own : String} {rm0 : Room} {mL k kS pc pc' n : Nat} {L : List (Nat × Value)} {st : List Value} {h : xH} {z : Fin 4} {i : Nat} {x : Int32} {L' : List (Nat × Value)} (hF : XF G K cc own rm0 mL) (hd : decode cc pc = .ok (.istore_n z, 1)) (hi : (z : Nat) = i) (hn : i < mL) (hL : (i, Value.int x) :: L.filter (fun q => !(q.1 == i) && !(q.1 + 1 == i && q.2.category == 2)) = L') (hp : pc + 1 = pc') (kk : XV G k kS pc' L' st n h) : XV G k kS pc L (.int x :: st) n h := by
  obtain ⟨p, e, R, s, m, args, below, meth, c, ⟨l, D, cx, b⟩, H0, maxL, Q⟩ := G
  obtain ⟨⟨hx, hb, hml, hown, hts⟩, hK, rfl, hbs, rfl, rfl, hN⟩ := hF
  subst hp
  intro H locs ls hh hS hl
  exact lv_istore_n hx hb hd hi hl hn hL (fun ls' hl' => kk H locs ls' hh hS hl')
theorem xv_istore {G : xG} {K : xK} {cc : ByteArray} {own : String} {rm0 : Room} {mL k kS pc pc' n : Nat} {L : List (Nat × Value)} {st : List Value} {h : xH} {i : Nat} {x : Int32} {L' : List (Nat × Value)} (hF : XF G K cc own rm0 mL) (hd : decode cc pc = .ok (.istore i, 2)) (hn : i < mL) (hL : (i, Value.int x) :: L.filter (fun q => !(q.1 == i) && !(q.1 + 1 == i && q.2.category == 2)) = L') (hp : pc + 2 = pc') (kk : XV G k kS pc' L' st n h) : XV G k kS pc L (.int x :: st) n h := by
  obtain ⟨p, e, R, s, m, args, below, meth, c, ⟨l, D, cx, b⟩, H0, maxL, Q⟩ := G
  obtain ⟨⟨hx, hb, hml, hown, hts⟩, hK, rfl, hbs, rfl, rfl, hN⟩ := hF
  subst hp
  intro H locs ls hh hS hl
  exact lv_istore hx hb hd hl hn hL (fun ls' hl' => kk H locs ls' hh hS hl')
theorem xv_lstore_n {G : xG} {K : xK} {cc : ByteArray} {own : String} {rm0 : Room} {mL k kS pc pc' n : Nat} {L : List (Nat × Value)} {st : List Value} {h : xH} {z : Fin 4} {i : Nat} {x : Int64} {L' : List (Nat × Value)} (hF : XF G K cc own rm0 mL) (hd : decode cc pc = .ok (.lstore_n z, 1)) (hi : (z : Nat) = i) (hn : i + 1 < mL) (hL : (i, Value.long x) :: L.filter (fun q => !(q.1 == i) && (!(q.1 == i + 1) && !(q.1 + 1 == i && q.2.category == 2))) = L') (hp : pc + 1 = pc') (kk : XV G k kS pc' L' st n h) : XV G k kS pc L (.long x :: st) n h := by
  obtain ⟨p, e, R, s, m, args, below, meth, c, ⟨l, D, cx, b⟩, H0, maxL, Q⟩ := G
  obtain ⟨⟨hx, hb, hml, hown, hts⟩, hK, rfl, hbs, rfl, rfl, hN⟩ := hF
  subst hp
  intro H locs ls hh hS hl
  exact lv_lstore_n hx hb hd hi hl hn hL (fun ls' hl' => kk H locs ls' hh hS hl')
theorem xv_lstore {G : xG} {K : xK} {cc : ByteArray} {own : String} {rm0 : Room} {mL k kS pc pc' n : Nat} {L : List (Nat × Value)} {st : List Value} {h : xH} {i : Nat} {x : Int64} {L' : List (Nat × Value)} (hF : XF G K cc own rm0 mL) (hd : decode cc pc = .ok (.lstore i, 2)) (hn : i + 1 < mL) (hL : (i, Value.long x) :: L.filter (fun q => !(q.1 == i) && (!(q.1 == i + 1) && !(q.1 + 1 == i && q.2.category == 2))) = L') (hp : pc + 2 = pc') (kk : XV G k kS pc' L' st n h) : XV G k kS pc L (.long x :: st) n h := by
  obtain ⟨p, e, R, s, m, args, below, meth, c, ⟨l, D, cx, b⟩, H0, maxL, Q⟩ := G
  obtain ⟨⟨hx, hb, hml, hown, hts⟩, hK, rfl, hbs, rfl, rfl, hN⟩ := hF
  subst hp
  intro H locs ls hh hS hl
  exact lv_lstore hx hb hd hl hn hL (fun ls' hl' => kk H locs ls' hh hS hl')
theorem xv_astore_n {G : xG} {K : xK} {cc : ByteArray} {own : String} {rm0 : Room} {mL k kS pc pc' n : Nat} {L : List (Nat × Value)} {st : List Value} {h : xH} {z : Fin 4} {i : Nat} {x : Nat} {L' : List (Nat × Value)} (hF : XF G K cc own rm0 mL) (hd : decode cc pc = .ok (.astore_n z, 1)) (hi : (z : Nat) = i) (hn : i < mL) (hL : (i, Value.ref x) :: L.filter (fun q => !(q.1 == i) && !(q.1 + 1 == i && q.2.category == 2)) = L') (hp : pc + 1 = pc') (kk : XV G k kS pc' L' st n h) : XV G k kS pc L (.ref x :: st) n h := by
  obtain ⟨p, e, R, s, m, args, below, meth, c, ⟨l, D, cx, b⟩, H0, maxL, Q⟩ := G
  obtain ⟨⟨hx, hb, hml, hown, hts⟩, hK, rfl, hbs, rfl, rfl, hN⟩ := hF
  subst hp
  intro H locs ls hh hS hl
  exact lv_astore_n hx hb hd hi hl hn hL (fun ls' hl' => kk H locs ls' hh hS hl')
theorem xv_astore {G : xG} {K : xK} {cc : ByteArray} {own : String} {rm0 : Room} {mL k kS pc pc' n : Nat} {L : List (Nat × Value)} {st : List Value} {h : xH} {i : Nat} {x : Nat} {L' : List (Nat × Value)} (hF : XF G K cc own rm0 mL) (hd : decode cc pc = .ok (.astore i, 2)) (hn : i < mL) (hL : (i, Value.ref x) :: L.filter (fun q => !(q.1 == i) && !(q.1 + 1 == i && q.2.category == 2)) = L') (hp : pc + 2 = pc') (kk : XV G k kS pc' L' st n h) : XV G k kS pc L (.ref x :: st) n h := by
  obtain ⟨p, e, R, s, m, args, below, meth, c, ⟨l, D, cx, b⟩, H0, maxL, Q⟩ := G
  obtain ⟨⟨hx, hb, hml, hown, hts⟩, hK, rfl, hbs, rfl, rfl, hN⟩ := hF
  subst hp
  intro H locs ls hh hS hl
  exact lv_astore hx hb hd hl hn hL (fun ls' hl' => kk H locs ls' hh hS hl')
theorem xv_iinc {G : xG} {K : xK} {cc : ByteArray} {own : String} {rm0 : Room} {mL k kS pc pc' n : Nat} {L : List (Nat × Value)} {st : List Value} {h : xH} {i : Nat} {z : Int} {x v : Int32} {L' : List (Nat × Value)} (hF : XF G K cc own rm0 mL) (hd : decode cc pc = .ok (.iinc i z, 3)) (hk : xl L i = some (.int x)) (hv : x + Int32.ofInt z = v) (hn : i < mL) (hL : (i, Value.int v) :: L.filter (fun q => !(q.1 == i) && !(q.1 + 1 == i && q.2.category == 2)) = L') (hp : pc + 3 = pc') (kk : XV G k kS pc' L' st n h) : XV G k kS pc L st n h := by
  obtain ⟨p, e, R, s, m, args, below, meth, c, ⟨l, D, cx, b⟩, H0, maxL, Q⟩ := G
  obtain ⟨⟨hx, hb, hml, hown, hts⟩, hK, rfl, hbs, rfl, rfl, hN⟩ := hF
  subst hp
  intro H locs ls hh hS hl
  obtain ⟨j, hj⟩ := xl_get hk
  exact lv_iinc hx hb hd hl hj hv hn hL (fun ls' hl' => kk H locs ls' hh hS hl')
theorem xv_iadd {G : xG} {K : xK} {cc : ByteArray} {own : String} {rm0 : Room} {mL k kS pc pc' n : Nat} {L : List (Nat × Value)} {st : List Value} {h : xH} {x y : Int32} (hF : XF G K cc own rm0 mL) (hd : decode cc pc = .ok (.iadd, 1)) (hp : pc + 1 = pc') (kk : XV G k kS pc' L (.int (x + y) :: st) n h) : XV G k kS pc L (.int y :: .int x :: st) n h := by
  obtain ⟨p, e, R, s, m, args, below, meth, c, ⟨l, D, cx, b⟩, H0, maxL, Q⟩ := G
  obtain ⟨⟨hx, hb, hml, hown, hts⟩, hK, rfl, hbs, rfl, rfl, hN⟩ := hF
  subst hp
  intro H locs ls hh hS hl
  exact lv_iadd hx hb hd (kk H locs ls hh hS hl)
theorem xv_isub {G : xG} {K : xK} {cc : ByteArray} {own : String} {rm0 : Room} {mL k kS pc pc' n : Nat} {L : List (Nat × Value)} {st : List Value} {h : xH} {x y : Int32} (hF : XF G K cc own rm0 mL) (hd : decode cc pc = .ok (.isub, 1)) (hp : pc + 1 = pc') (kk : XV G k kS pc' L (.int (x - y) :: st) n h) : XV G k kS pc L (.int y :: .int x :: st) n h := by
  obtain ⟨p, e, R, s, m, args, below, meth, c, ⟨l, D, cx, b⟩, H0, maxL, Q⟩ := G
  obtain ⟨⟨hx, hb, hml, hown, hts⟩, hK, rfl, hbs, rfl, rfl, hN⟩ := hF
  subst hp
  intro H locs ls hh hS hl
  exact lv_isub hx hb hd (kk H locs ls hh hS hl)
theorem xv_imul {G : xG} {K : xK} {cc : ByteArray} {own : String} {rm0 : Room} {mL k kS pc pc' n : Nat} {L : List (Nat × Value)} {st : List Value} {h : xH} {x y : Int32} (hF : XF G K cc own rm0 mL) (hd : decode cc pc = .ok (.imul, 1)) (hp : pc + 1 = pc') (kk : XV G k kS pc' L (.int (x * y) :: st) n h) : XV G k kS pc L (.int y :: .int x :: st) n h := by
  obtain ⟨p, e, R, s, m, args, below, meth, c, ⟨l, D, cx, b⟩, H0, maxL, Q⟩ := G
  obtain ⟨⟨hx, hb, hml, hown, hts⟩, hK, rfl, hbs, rfl, rfl, hN⟩ := hF
  subst hp
  intro H locs ls hh hS hl
  exact lv_imul hx hb hd (kk H locs ls hh hS hl)
theorem xv_iand {G : xG} {K : xK} {cc : ByteArray} {own : String} {rm0 : Room} {mL k kS pc pc' n : Nat} {L : List (Nat × Value)} {st : List Value} {h : xH} {x y : Int32} (hF : XF G K cc own rm0 mL) (hd : decode cc pc = .ok (.iand, 1)) (hp : pc + 1 = pc') (kk : XV G k kS pc' L (.int (x &&& y) :: st) n h) : XV G k kS pc L (.int y :: .int x :: st) n h := by
  obtain ⟨p, e, R, s, m, args, below, meth, c, ⟨l, D, cx, b⟩, H0, maxL, Q⟩ := G
  obtain ⟨⟨hx, hb, hml, hown, hts⟩, hK, rfl, hbs, rfl, rfl, hN⟩ := hF
  subst hp
  intro H locs ls hh hS hl
  exact lv_iand hx hb hd (kk H locs ls hh hS hl)
theorem xv_ior {G : xG} {K : xK} {cc : ByteArray} {own : String} {rm0 : Room} {mL k kS pc pc' n : Nat} {L : List (Nat × Value)} {st : List Value} {h : xH} {x y : Int32} (hF : XF G K cc own rm0 mL) (hd : decode cc pc = .ok (.ior, 1)) (hp : pc + 1 = pc') (kk : XV G k kS pc' L (.int (x ||| y) :: st) n h) : XV G k kS pc L (.int y :: .int x :: st) n h := by
  obtain ⟨p, e, R, s, m, args, below, meth, c, ⟨l, D, cx, b⟩, H0, maxL, Q⟩ := G
  obtain ⟨⟨hx, hb, hml, hown, hts⟩, hK, rfl, hbs, rfl, rfl, hN⟩ := hF
  subst hp
  intro H locs ls hh hS hl
  exact lv_ior hx hb hd (kk H locs ls hh hS hl)
theorem xv_ixor {G : xG} {K : xK} {cc : ByteArray} {own : String} {rm0 : Room} {mL k kS pc pc' n : Nat} {L : List (Nat × Value)} {st : List Value} {h : xH} {x y : Int32} (hF : XF G K cc own rm0 mL) (hd : decode cc pc = .ok (.ixor, 1)) (hp : pc + 1 = pc') (kk : XV G k kS pc' L (.int (x ^^^ y) :: st) n h) : XV G k kS pc L (.int y :: .int x :: st) n h := by
  obtain ⟨p, e, R, s, m, args, below, meth, c, ⟨l, D, cx, b⟩, H0, maxL, Q⟩ := G
  obtain ⟨⟨hx, hb, hml, hown, hts⟩, hK, rfl, hbs, rfl, rfl, hN⟩ := hF
  subst hp
  intro H locs ls hh hS hl
  exact lv_ixor hx hb hd (kk H locs ls hh hS hl)
theorem xv_idiv {G : xG} {K : xK} {cc : ByteArray} {own : String} {rm0 : Room} {mL k kS pc pc' n : Nat} {L : List (Nat × Value)} {st : List Value} {h : xH} {x y : Int32} (hF : XF G K cc own rm0 mL) (hd : decode cc pc = .ok (.idiv, 1)) (hne : ¬ y = 0) (hp : pc + 1 = pc') (kk : XV G k kS pc' L (.int (x / y) :: st) n h) : XV G k kS pc L (.int y :: .int x :: st) n h := by
  obtain ⟨p, e, R, s, m, args, below, meth, c, ⟨l, D, cx, b⟩, H0, maxL, Q⟩ := G
  obtain ⟨⟨hx, hb, hml, hown, hts⟩, hK, rfl, hbs, rfl, rfl, hN⟩ := hF
  subst hp
  intro H locs ls hh hS hl
  exact lv_idiv hx hb hd hne (kk H locs ls hh hS hl)
theorem xv_irem {G : xG} {K : xK} {cc : ByteArray} {own : String} {rm0 : Room} {mL k kS pc pc' n : Nat} {L : List (Nat × Value)} {st : List Value} {h : xH} {x y : Int32} (hF : XF G K cc own rm0 mL) (hd : decode cc pc = .ok (.irem, 1)) (hne : ¬ y = 0) (hp : pc + 1 = pc') (kk : XV G k kS pc' L (.int (x - x / y * y) :: st) n h) : XV G k kS pc L (.int y :: .int x :: st) n h := by
  obtain ⟨p, e, R, s, m, args, below, meth, c, ⟨l, D, cx, b⟩, H0, maxL, Q⟩ := G
  obtain ⟨⟨hx, hb, hml, hown, hts⟩, hK, rfl, hbs, rfl, rfl, hN⟩ := hF
  subst hp
  intro H locs ls hh hS hl
  exact lv_irem hx hb hd hne (kk H locs ls hh hS hl)
theorem xv_ineg {G : xG} {K : xK} {cc : ByteArray} {own : String} {rm0 : Room} {mL k kS pc pc' n : Nat} {L : List (Nat × Value)} {st : List Value} {h : xH} {x : Int32} (hF : XF G K cc own rm0 mL) (hd : decode cc pc = .ok (.ineg, 1)) (hp : pc + 1 = pc') (kk : XV G k kS pc' L (.int (-x) :: st) n h) : XV G k kS pc L (.int x :: st) n h := by
  obtain ⟨p, e, R, s, m, args, below, meth, c, ⟨l, D, cx, b⟩, H0, maxL, Q⟩ := G
  obtain ⟨⟨hx, hb, hml, hown, hts⟩, hK, rfl, hbs, rfl, rfl, hN⟩ := hF
  subst hp
  intro H locs ls hh hS hl
  exact lv_ineg hx hb hd (kk H locs ls hh hS hl)
theorem xv_ishl {G : xG} {K : xK} {cc : ByteArray} {own : String} {rm0 : Room} {mL k kS pc pc' n : Nat} {L : List (Nat × Value)} {st : List Value} {h : xH} {x y : Int32} (hF : XF G K cc own rm0 mL) (hd : decode cc pc = .ok (.ishl, 1)) (hp : pc + 1 = pc') (kk : XV G k kS pc' L (.int (x <<< (y &&& 31)) :: st) n h) : XV G k kS pc L (.int y :: .int x :: st) n h := by
  obtain ⟨p, e, R, s, m, args, below, meth, c, ⟨l, D, cx, b⟩, H0, maxL, Q⟩ := G
  obtain ⟨⟨hx, hb, hml, hown, hts⟩, hK, rfl, hbs, rfl, rfl, hN⟩ := hF
  subst hp
  intro H locs ls hh hS hl
  exact lv_ishl hx hb hd (kk H locs ls hh hS hl)
theorem xv_ishr {G : xG} {K : xK} {cc : ByteArray} {own : String} {rm0 : Room} {mL k kS pc pc' n : Nat} {L : List (Nat × Value)} {st : List Value} {h : xH} {x y : Int32} (hF : XF G K cc own rm0 mL) (hd : decode cc pc = .ok (.ishr, 1)) (hp : pc + 1 = pc') (kk : XV G k kS pc' L (.int (x >>> (y &&& 31)) :: st) n h) : XV G k kS pc L (.int y :: .int x :: st) n h := by
  obtain ⟨p, e, R, s, m, args, below, meth, c, ⟨l, D, cx, b⟩, H0, maxL, Q⟩ := G
  obtain ⟨⟨hx, hb, hml, hown, hts⟩, hK, rfl, hbs, rfl, rfl, hN⟩ := hF
  subst hp
  intro H locs ls hh hS hl
  exact lv_ishr hx hb hd (kk H locs ls hh hS hl)
theorem xv_iushr {G : xG} {K : xK} {cc : ByteArray} {own : String} {rm0 : Room} {mL k kS pc pc' n : Nat} {L : List (Nat × Value)} {st : List Value} {h : xH} {x y v : Int32} (hF : XF G K cc own rm0 mL) (hd : decode cc pc = .ok (.iushr, 1)) (hv : (x.toUInt32 >>> (y.toUInt32 &&& Int32.toUInt32 31)).toInt32 = v) (hp : pc + 1 = pc') (kk : XV G k kS pc' L (.int v :: st) n h) : XV G k kS pc L (.int y :: .int x :: st) n h := by
  obtain ⟨p, e, R, s, m, args, below, meth, c, ⟨l, D, cx, b⟩, H0, maxL, Q⟩ := G
  obtain ⟨⟨hx, hb, hml, hown, hts⟩, hK, rfl, hbs, rfl, rfl, hN⟩ := hF
  subst hp
  intro H locs ls hh hS hl
  exact lv_iushr hx hb hd hv (kk H locs ls hh hS hl)
theorem xv_ladd {G : xG} {K : xK} {cc : ByteArray} {own : String} {rm0 : Room} {mL k kS pc pc' n : Nat} {L : List (Nat × Value)} {st : List Value} {h : xH} {x y : Int64} (hF : XF G K cc own rm0 mL) (hd : decode cc pc = .ok (.ladd, 1)) (hp : pc + 1 = pc') (kk : XV G k kS pc' L (.long (x + y) :: st) n h) : XV G k kS pc L (.long y :: .long x :: st) n h := by
  obtain ⟨p, e, R, s, m, args, below, meth, c, ⟨l, D, cx, b⟩, H0, maxL, Q⟩ := G
  obtain ⟨⟨hx, hb, hml, hown, hts⟩, hK, rfl, hbs, rfl, rfl, hN⟩ := hF
  subst hp
  intro H locs ls hh hS hl
  exact lv_ladd hx hb hd (kk H locs ls hh hS hl)
theorem xv_land {G : xG} {K : xK} {cc : ByteArray} {own : String} {rm0 : Room} {mL k kS pc pc' n : Nat} {L : List (Nat × Value)} {st : List Value} {h : xH} {x y : Int64} (hF : XF G K cc own rm0 mL) (hd : decode cc pc = .ok (.land, 1)) (hp : pc + 1 = pc') (kk : XV G k kS pc' L (.long (x &&& y) :: st) n h) : XV G k kS pc L (.long y :: .long x :: st) n h := by
  obtain ⟨p, e, R, s, m, args, below, meth, c, ⟨l, D, cx, b⟩, H0, maxL, Q⟩ := G
  obtain ⟨⟨hx, hb, hml, hown, hts⟩, hK, rfl, hbs, rfl, rfl, hN⟩ := hF
  subst hp
  intro H locs ls hh hS hl
  exact lv_land hx hb hd (kk H locs ls hh hS hl)
theorem xv_lor {G : xG} {K : xK} {cc : ByteArray} {own : String} {rm0 : Room} {mL k kS pc pc' n : Nat} {L : List (Nat × Value)} {st : List Value} {h : xH} {x y : Int64} (hF : XF G K cc own rm0 mL) (hd : decode cc pc = .ok (.lor, 1)) (hp : pc + 1 = pc') (kk : XV G k kS pc' L (.long (x ||| y) :: st) n h) : XV G k kS pc L (.long y :: .long x :: st) n h := by
  obtain ⟨p, e, R, s, m, args, below, meth, c, ⟨l, D, cx, b⟩, H0, maxL, Q⟩ := G
  obtain ⟨⟨hx, hb, hml, hown, hts⟩, hK, rfl, hbs, rfl, rfl, hN⟩ := hF
  subst hp
  intro H locs ls hh hS hl
  exact lv_lor hx hb hd (kk H locs ls hh hS hl)
theorem xv_lushr {G : xG} {K : xK} {cc : ByteArray} {own : String} {rm0 : Room} {mL k kS pc pc' n : Nat} {L : List (Nat × Value)} {st : List Value} {h : xH} {x v : Int64} {y : Int32} (hF : XF G K cc own rm0 mL) (hd : decode cc pc = .ok (.lushr, 1)) (hv : (x.toUInt64 >>> (y.toInt64.toUInt64 &&& Int64.toUInt64 63)).toInt64 = v) (hp : pc + 1 = pc') (kk : XV G k kS pc' L (.long v :: st) n h) : XV G k kS pc L (.int y :: .long x :: st) n h := by
  obtain ⟨p, e, R, s, m, args, below, meth, c, ⟨l, D, cx, b⟩, H0, maxL, Q⟩ := G
  obtain ⟨⟨hx, hb, hml, hown, hts⟩, hK, rfl, hbs, rfl, rfl, hN⟩ := hF
  subst hp
  intro H locs ls hh hS hl
  exact lv_lushr hx hb hd hv (kk H locs ls hh hS hl)
theorem xv_lshl {G : xG} {K : xK} {cc : ByteArray} {own : String} {rm0 : Room} {mL k kS pc pc' n : Nat} {L : List (Nat × Value)} {st : List Value} {h : xH} {x v : Int64} {y : Int32} (hF : XF G K cc own rm0 mL) (hd : decode cc pc = .ok (.lshl, 1)) (hv : x <<< (y.toInt64 &&& 63) = v) (hp : pc + 1 = pc') (kk : XV G k kS pc' L (.long v :: st) n h) : XV G k kS pc L (.int y :: .long x :: st) n h := by
  obtain ⟨p, e, R, s, m, args, below, meth, c, ⟨l, D, cx, b⟩, H0, maxL, Q⟩ := G
  obtain ⟨⟨hx, hb, hml, hown, hts⟩, hK, rfl, hbs, rfl, rfl, hN⟩ := hF
  subst hp
  intro H locs ls hh hS hl
  exact lv_lshl hx hb hd hv (kk H locs ls hh hS hl)
theorem xv_lshr {G : xG} {K : xK} {cc : ByteArray} {own : String} {rm0 : Room} {mL k kS pc pc' n : Nat} {L : List (Nat × Value)} {st : List Value} {h : xH} {x v : Int64} {y : Int32} (hF : XF G K cc own rm0 mL) (hd : decode cc pc = .ok (.lshr, 1)) (hv : x >>> (y.toInt64 &&& 63) = v) (hp : pc + 1 = pc') (kk : XV G k kS pc' L (.long v :: st) n h) : XV G k kS pc L (.int y :: .long x :: st) n h := by
  obtain ⟨p, e, R, s, m, args, below, meth, c, ⟨l, D, cx, b⟩, H0, maxL, Q⟩ := G
  obtain ⟨⟨hx, hb, hml, hown, hts⟩, hK, rfl, hbs, rfl, rfl, hN⟩ := hF
  subst hp
  intro H locs ls hh hS hl
  exact lv_lshr hx hb hd hv (kk H locs ls hh hS hl)
theorem xv_i2l {G : xG} {K : xK} {cc : ByteArray} {own : String} {rm0 : Room} {mL k kS pc pc' n : Nat} {L : List (Nat × Value)} {st : List Value} {h : xH} {x : Int32} {v : Int64} (hF : XF G K cc own rm0 mL) (hd : decode cc pc = .ok (.i2l, 1)) (hv : x.toInt64 = v) (hp : pc + 1 = pc') (kk : XV G k kS pc' L (.long v :: st) n h) : XV G k kS pc L (.int x :: st) n h := by
  obtain ⟨p, e, R, s, m, args, below, meth, c, ⟨l, D, cx, b⟩, H0, maxL, Q⟩ := G
  obtain ⟨⟨hx, hb, hml, hown, hts⟩, hK, rfl, hbs, rfl, rfl, hN⟩ := hF
  subst hp
  intro H locs ls hh hS hl
  exact lv_i2l hx hb hd hv (kk H locs ls hh hS hl)
theorem xv_l2i {G : xG} {K : xK} {cc : ByteArray} {own : String} {rm0 : Room} {mL k kS pc pc' n : Nat} {L : List (Nat × Value)} {st : List Value} {h : xH} {x : Int64} {v : Int32} (hF : XF G K cc own rm0 mL) (hd : decode cc pc = .ok (.l2i, 1)) (hv : x.toInt32 = v) (hp : pc + 1 = pc') (kk : XV G k kS pc' L (.int v :: st) n h) : XV G k kS pc L (.long x :: st) n h := by
  obtain ⟨p, e, R, s, m, args, below, meth, c, ⟨l, D, cx, b⟩, H0, maxL, Q⟩ := G
  obtain ⟨⟨hx, hb, hml, hown, hts⟩, hK, rfl, hbs, rfl, rfl, hN⟩ := hF
  subst hp
  intro H locs ls hh hS hl
  exact lv_l2i hx hb hd hv (kk H locs ls hh hS hl)
theorem xv_lcmp {G : xG} {K : xK} {cc : ByteArray} {own : String} {rm0 : Room} {mL k kS pc pc' n : Nat} {L : List (Nat × Value)} {st : List Value} {h : xH} {x y : Int64} (hF : XF G K cc own rm0 mL) (hd : decode cc pc = .ok (.lcmp, 1)) (hp : pc + 1 = pc') (kk : XV G k kS pc' L (.int (lg_cmp x y) :: st) n h) : XV G k kS pc L (.long y :: .long x :: st) n h := by
  obtain ⟨p, e, R, s, m, args, below, meth, c, ⟨l, D, cx, b⟩, H0, maxL, Q⟩ := G
  obtain ⟨⟨hx, hb, hml, hown, hts⟩, hK, rfl, hbs, rfl, rfl, hN⟩ := hF
  subst hp
  intro H locs ls hh hS hl
  exact W.lcmp hx hb hd (kk H locs ls hh hS hl)
theorem xv_dup {G : xG} {K : xK} {cc : ByteArray} {own : String} {rm0 : Room} {mL k kS pc pc' n : Nat} {L : List (Nat × Value)} {st : List Value} {h : xH} {va : Value} (hF : XF G K cc own rm0 mL) (hd : decode cc pc = .ok (.dup, 1)) (hva : va.category = 1) (hp : pc + 1 = pc') (kk : XV G k kS pc' L (va :: va :: st) n h) : XV G k kS pc L (va :: st) n h := by
  obtain ⟨p, e, R, s, m, args, below, meth, c, ⟨l, D, cx, b⟩, H0, maxL, Q⟩ := G
  obtain ⟨⟨hx, hb, hml, hown, hts⟩, hK, rfl, hbs, rfl, rfl, hN⟩ := hF
  subst hp
  intro H locs ls hh hS hl
  exact lv_dup hx hb hd hva (kk H locs ls hh hS hl)
theorem xv_pop {G : xG} {K : xK} {cc : ByteArray} {own : String} {rm0 : Room} {mL k kS pc pc' n : Nat} {L : List (Nat × Value)} {st : List Value} {h : xH} {va : Value} (hF : XF G K cc own rm0 mL) (hd : decode cc pc = .ok (.pop, 1)) (hva : va.category = 1) (hp : pc + 1 = pc') (kk : XV G k kS pc' L (st) n h) : XV G k kS pc L (va :: st) n h := by
  obtain ⟨p, e, R, s, m, args, below, meth, c, ⟨l, D, cx, b⟩, H0, maxL, Q⟩ := G
  obtain ⟨⟨hx, hb, hml, hown, hts⟩, hK, rfl, hbs, rfl, rfl, hN⟩ := hF
  subst hp
  intro H locs ls hh hS hl
  exact lv_pop hx hb hd hva (kk H locs ls hh hS hl)
theorem xv_dup_x1 {G : xG} {K : xK} {cc : ByteArray} {own : String} {rm0 : Room} {mL k kS pc pc' n : Nat} {L : List (Nat × Value)} {st : List Value} {h : xH} {va vb : Value} (hF : XF G K cc own rm0 mL) (hd : decode cc pc = .ok (.dup_x1, 1)) (hva : va.category = 1) (hvb : vb.category = 1) (hp : pc + 1 = pc') (kk : XV G k kS pc' L (va :: vb :: va :: st) n h) : XV G k kS pc L (va :: vb :: st) n h := by
  obtain ⟨p, e, R, s, m, args, below, meth, c, ⟨l, D, cx, b⟩, H0, maxL, Q⟩ := G
  obtain ⟨⟨hx, hb, hml, hown, hts⟩, hK, rfl, hbs, rfl, rfl, hN⟩ := hF
  subst hp
  intro H locs ls hh hS hl
  exact lv_dup_x1 hx hb hd hva hvb (kk H locs ls hh hS hl)
theorem xv_dup_x2 {G : xG} {K : xK} {cc : ByteArray} {own : String} {rm0 : Room} {mL k kS pc pc' n : Nat} {L : List (Nat × Value)} {st : List Value} {h : xH} {va vb vd : Value} (hF : XF G K cc own rm0 mL) (hd : decode cc pc = .ok (.dup_x2, 1)) (hva : va.category = 1) (hvb : vb.category = 1) (hvd : vd.category = 1) (hp : pc + 1 = pc') (kk : XV G k kS pc' L (va :: vb :: vd :: va :: st) n h) : XV G k kS pc L (va :: vb :: vd :: st) n h := by
  obtain ⟨p, e, R, s, m, args, below, meth, c, ⟨l, D, cx, b⟩, H0, maxL, Q⟩ := G
  obtain ⟨⟨hx, hb, hml, hown, hts⟩, hK, rfl, hbs, rfl, rfl, hN⟩ := hF
  subst hp
  intro H locs ls hh hS hl
  exact lv_dup_x2 hx hb hd hva hvb hvd (kk H locs ls hh hS hl)
theorem xv_dup2 {G : xG} {K : xK} {cc : ByteArray} {own : String} {rm0 : Room} {mL k kS pc pc' n : Nat} {L : List (Nat × Value)} {st : List Value} {h : xH} {va vb : Value} (hF : XF G K cc own rm0 mL) (hd : decode cc pc = .ok (.dup2, 1)) (hva : va.category = 1) (hvb : vb.category = 1) (hp : pc + 1 = pc') (kk : XV G k kS pc' L (va :: vb :: va :: vb :: st) n h) : XV G k kS pc L (va :: vb :: st) n h := by
  obtain ⟨p, e, R, s, m, args, below, meth, c, ⟨l, D, cx, b⟩, H0, maxL, Q⟩ := G
  obtain ⟨⟨hx, hb, hml, hown, hts⟩, hK, rfl, hbs, rfl, rfl, hN⟩ := hF
  subst hp
  intro H locs ls hh hS hl
  exact lv_dup2_11 hx hb hd hva hvb (kk H locs ls hh hS hl)
theorem xv_if_eq {G : xG} {K : xK} {cc : ByteArray} {own : String} {rm0 : Room} {mL k kS pc pc' n : Nat} {L : List (Nat × Value)} {st : List Value} {h : xH} {x : Int32} {off : Int} {tgt : Nat} (hF : XF G K cc own rm0 mL) (hd : decode cc pc = .ok (.ifCond .eq off, 3)) (ht : (pc : Int) + off = (tgt : Int)) (hp : pc + 3 = pc') (kt : x = 0 → XV G k kS tgt L st n h) (kf : ¬ x = 0 → XV G k kS pc' L st n h) : XV G k kS pc L (.int x :: st) n h := by
  obtain ⟨p, e, R, s, m, args, below, meth, c, ⟨l, D, cx, b⟩, H0, maxL, Q⟩ := G
  obtain ⟨⟨hx, hb, hml, hown, hts⟩, hK, rfl, hbs, rfl, rfl, hN⟩ := hF
  subst hp
  intro H locs ls hh hS hl
  exact lv_if_eq hx hb hd ht (fun q => kt q H locs ls hh hS hl) (fun q => kf q H locs ls hh hS hl)
theorem xv_icmp_eq {G : xG} {K : xK} {cc : ByteArray} {own : String} {rm0 : Room} {mL k kS pc pc' n : Nat} {L : List (Nat × Value)} {st : List Value} {h : xH} {x y : Int32} {off : Int} {tgt : Nat} (hF : XF G K cc own rm0 mL) (hd : decode cc pc = .ok (.if_icmp .eq off, 3)) (ht : (pc : Int) + off = (tgt : Int)) (hp : pc + 3 = pc') (kt : x = y → XV G k kS tgt L st n h) (kf : ¬ x = y → XV G k kS pc' L st n h) : XV G k kS pc L (.int y :: .int x :: st) n h := by
  obtain ⟨p, e, R, s, m, args, below, meth, c, ⟨l, D, cx, b⟩, H0, maxL, Q⟩ := G
  obtain ⟨⟨hx, hb, hml, hown, hts⟩, hK, rfl, hbs, rfl, rfl, hN⟩ := hF
  subst hp
  intro H locs ls hh hS hl
  exact lv_icmp_eq hx hb hd ht (fun q => kt q H locs ls hh hS hl) (fun q => kf q H locs ls hh hS hl)
theorem xv_if_ne {G : xG} {K : xK} {cc : ByteArray} {own : String} {rm0 : Room} {mL k kS pc pc' n : Nat} {L : List (Nat × Value)} {st : List Value} {h : xH} {x : Int32} {off : Int} {tgt : Nat} (hF : XF G K cc own rm0 mL) (hd : decode cc pc = .ok (.ifCond .ne off, 3)) (ht : (pc : Int) + off = (tgt : Int)) (hp : pc + 3 = pc') (kt : ¬ x = 0 → XV G k kS tgt L st n h) (kf : x = 0 → XV G k kS pc' L st n h) : XV G k kS pc L (.int x :: st) n h := by
  obtain ⟨p, e, R, s, m, args, below, meth, c, ⟨l, D, cx, b⟩, H0, maxL, Q⟩ := G
  obtain ⟨⟨hx, hb, hml, hown, hts⟩, hK, rfl, hbs, rfl, rfl, hN⟩ := hF
  subst hp
  intro H locs ls hh hS hl
  exact lv_if_ne hx hb hd ht (fun q => kt q H locs ls hh hS hl) (fun q => kf q H locs ls hh hS hl)
theorem xv_icmp_ne {G : xG} {K : xK} {cc : ByteArray} {own : String} {rm0 : Room} {mL k kS pc pc' n : Nat} {L : List (Nat × Value)} {st : List Value} {h : xH} {x y : Int32} {off : Int} {tgt : Nat} (hF : XF G K cc own rm0 mL) (hd : decode cc pc = .ok (.if_icmp .ne off, 3)) (ht : (pc : Int) + off = (tgt : Int)) (hp : pc + 3 = pc') (kt : ¬ x = y → XV G k kS tgt L st n h) (kf : x = y → XV G k kS pc' L st n h) : XV G k kS pc L (.int y :: .int x :: st) n h := by
  obtain ⟨p, e, R, s, m, args, below, meth, c, ⟨l, D, cx, b⟩, H0, maxL, Q⟩ := G
  obtain ⟨⟨hx, hb, hml, hown, hts⟩, hK, rfl, hbs, rfl, rfl, hN⟩ := hF
  subst hp
  intro H locs ls hh hS hl
  exact lv_icmp_ne hx hb hd ht (fun q => kt q H locs ls hh hS hl) (fun q => kf q H locs ls hh hS hl)
theorem xv_if_lt {G : xG} {K : xK} {cc : ByteArray} {own : String} {rm0 : Room} {mL k kS pc pc' n : Nat} {L : List (Nat × Value)} {st : List Value} {h : xH} {x : Int32} {off : Int} {tgt : Nat} (hF : XF G K cc own rm0 mL) (hd : decode cc pc = .ok (.ifCond .lt off, 3)) (ht : (pc : Int) + off = (tgt : Int)) (hp : pc + 3 = pc') (kt : x < 0 → XV G k kS tgt L st n h) (kf : ¬ x < 0 → XV G k kS pc' L st n h) : XV G k kS pc L (.int x :: st) n h := by
  obtain ⟨p, e, R, s, m, args, below, meth, c, ⟨l, D, cx, b⟩, H0, maxL, Q⟩ := G
  obtain ⟨⟨hx, hb, hml, hown, hts⟩, hK, rfl, hbs, rfl, rfl, hN⟩ := hF
  subst hp
  intro H locs ls hh hS hl
  exact lv_if_lt hx hb hd ht (fun q => kt q H locs ls hh hS hl) (fun q => kf q H locs ls hh hS hl)
theorem xv_icmp_lt {G : xG} {K : xK} {cc : ByteArray} {own : String} {rm0 : Room} {mL k kS pc pc' n : Nat} {L : List (Nat × Value)} {st : List Value} {h : xH} {x y : Int32} {off : Int} {tgt : Nat} (hF : XF G K cc own rm0 mL) (hd : decode cc pc = .ok (.if_icmp .lt off, 3)) (ht : (pc : Int) + off = (tgt : Int)) (hp : pc + 3 = pc') (kt : x < y → XV G k kS tgt L st n h) (kf : ¬ x < y → XV G k kS pc' L st n h) : XV G k kS pc L (.int y :: .int x :: st) n h := by
  obtain ⟨p, e, R, s, m, args, below, meth, c, ⟨l, D, cx, b⟩, H0, maxL, Q⟩ := G
  obtain ⟨⟨hx, hb, hml, hown, hts⟩, hK, rfl, hbs, rfl, rfl, hN⟩ := hF
  subst hp
  intro H locs ls hh hS hl
  exact lv_icmp_lt hx hb hd ht (fun q => kt q H locs ls hh hS hl) (fun q => kf q H locs ls hh hS hl)
theorem xv_if_ge {G : xG} {K : xK} {cc : ByteArray} {own : String} {rm0 : Room} {mL k kS pc pc' n : Nat} {L : List (Nat × Value)} {st : List Value} {h : xH} {x : Int32} {off : Int} {tgt : Nat} (hF : XF G K cc own rm0 mL) (hd : decode cc pc = .ok (.ifCond .ge off, 3)) (ht : (pc : Int) + off = (tgt : Int)) (hp : pc + 3 = pc') (kt : 0 ≤ x → XV G k kS tgt L st n h) (kf : ¬ 0 ≤ x → XV G k kS pc' L st n h) : XV G k kS pc L (.int x :: st) n h := by
  obtain ⟨p, e, R, s, m, args, below, meth, c, ⟨l, D, cx, b⟩, H0, maxL, Q⟩ := G
  obtain ⟨⟨hx, hb, hml, hown, hts⟩, hK, rfl, hbs, rfl, rfl, hN⟩ := hF
  subst hp
  intro H locs ls hh hS hl
  exact lv_if_ge hx hb hd ht (fun q => kt q H locs ls hh hS hl) (fun q => kf q H locs ls hh hS hl)
theorem xv_icmp_ge {G : xG} {K : xK} {cc : ByteArray} {own : String} {rm0 : Room} {mL k kS pc pc' n : Nat} {L : List (Nat × Value)} {st : List Value} {h : xH} {x y : Int32} {off : Int} {tgt : Nat} (hF : XF G K cc own rm0 mL) (hd : decode cc pc = .ok (.if_icmp .ge off, 3)) (ht : (pc : Int) + off = (tgt : Int)) (hp : pc + 3 = pc') (kt : y ≤ x → XV G k kS tgt L st n h) (kf : ¬ y ≤ x → XV G k kS pc' L st n h) : XV G k kS pc L (.int y :: .int x :: st) n h := by
  obtain ⟨p, e, R, s, m, args, below, meth, c, ⟨l, D, cx, b⟩, H0, maxL, Q⟩ := G
  obtain ⟨⟨hx, hb, hml, hown, hts⟩, hK, rfl, hbs, rfl, rfl, hN⟩ := hF
  subst hp
  intro H locs ls hh hS hl
  exact lv_icmp_ge hx hb hd ht (fun q => kt q H locs ls hh hS hl) (fun q => kf q H locs ls hh hS hl)
theorem xv_if_gt {G : xG} {K : xK} {cc : ByteArray} {own : String} {rm0 : Room} {mL k kS pc pc' n : Nat} {L : List (Nat × Value)} {st : List Value} {h : xH} {x : Int32} {off : Int} {tgt : Nat} (hF : XF G K cc own rm0 mL) (hd : decode cc pc = .ok (.ifCond .gt off, 3)) (ht : (pc : Int) + off = (tgt : Int)) (hp : pc + 3 = pc') (kt : 0 < x → XV G k kS tgt L st n h) (kf : ¬ 0 < x → XV G k kS pc' L st n h) : XV G k kS pc L (.int x :: st) n h := by
  obtain ⟨p, e, R, s, m, args, below, meth, c, ⟨l, D, cx, b⟩, H0, maxL, Q⟩ := G
  obtain ⟨⟨hx, hb, hml, hown, hts⟩, hK, rfl, hbs, rfl, rfl, hN⟩ := hF
  subst hp
  intro H locs ls hh hS hl
  exact lv_if_gt hx hb hd ht (fun q => kt q H locs ls hh hS hl) (fun q => kf q H locs ls hh hS hl)
theorem xv_icmp_gt {G : xG} {K : xK} {cc : ByteArray} {own : String} {rm0 : Room} {mL k kS pc pc' n : Nat} {L : List (Nat × Value)} {st : List Value} {h : xH} {x y : Int32} {off : Int} {tgt : Nat} (hF : XF G K cc own rm0 mL) (hd : decode cc pc = .ok (.if_icmp .gt off, 3)) (ht : (pc : Int) + off = (tgt : Int)) (hp : pc + 3 = pc') (kt : y < x → XV G k kS tgt L st n h) (kf : ¬ y < x → XV G k kS pc' L st n h) : XV G k kS pc L (.int y :: .int x :: st) n h := by
  obtain ⟨p, e, R, s, m, args, below, meth, c, ⟨l, D, cx, b⟩, H0, maxL, Q⟩ := G
  obtain ⟨⟨hx, hb, hml, hown, hts⟩, hK, rfl, hbs, rfl, rfl, hN⟩ := hF
  subst hp
  intro H locs ls hh hS hl
  exact lv_icmp_gt hx hb hd ht (fun q => kt q H locs ls hh hS hl) (fun q => kf q H locs ls hh hS hl)
theorem xv_if_le {G : xG} {K : xK} {cc : ByteArray} {own : String} {rm0 : Room} {mL k kS pc pc' n : Nat} {L : List (Nat × Value)} {st : List Value} {h : xH} {x : Int32} {off : Int} {tgt : Nat} (hF : XF G K cc own rm0 mL) (hd : decode cc pc = .ok (.ifCond .le off, 3)) (ht : (pc : Int) + off = (tgt : Int)) (hp : pc + 3 = pc') (kt : x ≤ 0 → XV G k kS tgt L st n h) (kf : ¬ x ≤ 0 → XV G k kS pc' L st n h) : XV G k kS pc L (.int x :: st) n h := by
  obtain ⟨p, e, R, s, m, args, below, meth, c, ⟨l, D, cx, b⟩, H0, maxL, Q⟩ := G
  obtain ⟨⟨hx, hb, hml, hown, hts⟩, hK, rfl, hbs, rfl, rfl, hN⟩ := hF
  subst hp
  intro H locs ls hh hS hl
  exact lv_if_le hx hb hd ht (fun q => kt q H locs ls hh hS hl) (fun q => kf q H locs ls hh hS hl)
theorem xv_icmp_le {G : xG} {K : xK} {cc : ByteArray} {own : String} {rm0 : Room} {mL k kS pc pc' n : Nat} {L : List (Nat × Value)} {st : List Value} {h : xH} {x y : Int32} {off : Int} {tgt : Nat} (hF : XF G K cc own rm0 mL) (hd : decode cc pc = .ok (.if_icmp .le off, 3)) (ht : (pc : Int) + off = (tgt : Int)) (hp : pc + 3 = pc') (kt : x ≤ y → XV G k kS tgt L st n h) (kf : ¬ x ≤ y → XV G k kS pc' L st n h) : XV G k kS pc L (.int y :: .int x :: st) n h := by
  obtain ⟨p, e, R, s, m, args, below, meth, c, ⟨l, D, cx, b⟩, H0, maxL, Q⟩ := G
  obtain ⟨⟨hx, hb, hml, hown, hts⟩, hK, rfl, hbs, rfl, rfl, hN⟩ := hF
  subst hp
  intro H locs ls hh hS hl
  exact lv_icmp_le hx hb hd ht (fun q => kt q H locs ls hh hS hl) (fun q => kf q H locs ls hh hS hl)
theorem xv_goto {G : xG} {K : xK} {cc : ByteArray} {own : String} {rm0 : Room} {mL k kS pc n : Nat} {L : List (Nat × Value)} {st : List Value} {h : xH} {off : Int} {tgt : Nat} (hF : XF G K cc own rm0 mL) (hd : decode cc pc = .ok (.goto off, 3)) (ht : (pc : Int) + off = (tgt : Int)) (kk : XV G k kS tgt L st n h) : XV G k kS pc L st n h := by
  obtain ⟨p, e, R, s, m, args, below, meth, c, ⟨l, D, cx, b⟩, H0, maxL, Q⟩ := G
  obtain ⟨⟨hx, hb, hml, hown, hts⟩, hK, rfl, hbs, rfl, rfl, hN⟩ := hF
  intro H locs ls hh hS hl
  exact lv_goto hx hb hd ht (kk H locs ls hh hS hl)
