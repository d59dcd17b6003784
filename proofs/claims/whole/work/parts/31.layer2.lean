theorem xv_get {G : xG} {K : xK} {cc : ByteArray} {own : String} {rm0 : Room} {mL k kS pc pc' n : Nat} {L : List (Nat × Value)} {st : List Value} {h : xH} {C : String} {T : u_T} {N ci idx a : Nat} {fs : List Value} {v : Value} (hF : XF G K cc own rm0 mL) (hh : h a = some (.inr (ci, fs))) (hc : x_cl[ci]? = some (C, T, N)) (hin : ∀ w ∈ u_ws C T N, w ∈ x_T) (k0 : Nat) (hk : k0 < N) (hlink : Cond.fieldLink own idx (T k0).1 (T k0).2.1 (T k0).2.2.1 ∈ x_T) (hv : fs[k0]? = some v) (hd : decode cc pc = .ok (.getfield idx, 3)) (hp : pc + 3 = pc') (kk : XV G k kS pc' L (v :: st) n h) : XV G k kS pc L (.ref a :: st) n h := by
  obtain ⟨p, e, R, s, m, args, below, meth, c, ⟨l, D, cx, b⟩, H0, maxL, Q⟩ := G
  obtain ⟨⟨hx, hb, hml, hown, hts⟩, hK, rfl, hbs, rfl, rfl, hN⟩ := hF
  subst hp
  intro H locs ls hok hS hl
  obtain ⟨ws, hP, hD, hn, hbn, hi⟩ := id hok
  obtain ⟨q0, hq⟩ := (hi a _).mp hh
  exact va_get (D := D) hx hb hts hin hown hK hP q0 hq hc k0 hk (hts _ hlink) (fun _ z => z) hv hd (kk H locs ls hok hS hl)
theorem xv_put {G : xG} {K : xK} {cc : ByteArray} {own : String} {rm0 : Room} {mL k kS pc pc' n : Nat} {L : List (Nat × Value)} {st : List Value} {h : xH} {C : String} {T : u_T} {N ci idx a : Nat} {fs fs' : List Value} {v : Value} {ty : FieldType} (hF : XF G K cc own rm0 mL) (hh : h a = some (.inr (ci, fs))) (hc : x_cl[ci]? = some (C, T, N)) (hin : ∀ w ∈ u_ws C T N, w ∈ x_T) (ty0 : Nat → FieldType) (hty : ∀ k, k < N → parseFieldDescriptor (T k).2.2.1 = some (ty0 k)) (hnm : ∀ a, a < N → ∀ b, b < N → a ≠ b → (T a).2.1 ≠ (T b).2.1) (k0 : Nat) (hk : k0 < N) (hlink : Cond.fieldLink own idx (T k0).1 (T k0).2.1 (T k0).2.2.1 ∈ x_T) (hfin : (T k0).2.2.2 = false) (hd9 : parseFieldDescriptor (T k0).2.2.1 = some ty) (hn9 : narrow ty v = v) (hfit : fits ty v = true) (hl9 : k0 < fs.length) (hfs : fs.set k0 v = fs') (hd : decode cc pc = .ok (.putfield idx, 3)) (hp : pc + 3 = pc') (kk : XV G k kS pc' L st n (xu h a (.inr (ci, fs')))) : XV G k kS pc L (v :: .ref a :: st) n h := by
  obtain ⟨p, e, R, s, m, args, below, meth, c, ⟨l, D, cx, b⟩, H0, maxL, Q⟩ := G
  obtain ⟨⟨hx, hb, hml, hown, hts⟩, hK, rfl, hbs, rfl, rfl, hN⟩ := hF
  subst hp
  subst hfs
  intro H locs ls hok hS hl
  obtain ⟨ws, hP, hD, hn, hbn, hi⟩ := id hok
  obtain ⟨q0, hq⟩ := (hi a _).mp hh
  have hap := va_apart (own := own) hts hin ty0 hty hnm hK hc
  obtain ⟨r, h1, cell, q1, q2, q3, q4⟩ := hP q0 _ hq
  have hr : r = (C, T, N) := Option.some.inj (h1.symm.trans hc)
  subst hr
  obtain ⟨hS9, hfc, kC, hkC, hkind⟩ := hK.1 ci _ hc
  obtain ⟨cf, kf, fi, f, hi9, hsl⟩ := hS9 k0 hk
  have hlay := hts _ (hin _ (u_in_lay hk))
  unfold u_lay at hlay
  rw [if_neg (by rw [hfin]; decide)] at hlay
  have hst := (u_facts hfc hkC (u_lays hts hin hk) hi9).1
  have h6 := u_store hfc hkC hkind hlay hi9 hd9 hn9 hfit
  refine W.putK hx hb (f := f) ⟨hown, hts _ hlink, ⟨_, _, _, hi9⟩, hst⟩ (by rw [q2]; exact h6) q1 q3 (by rw [hsl]; exact k2_hasslot (q4 k0 hk)) rfl rfl hd fun H' e1 e2 e3 => ?_
  rw [hsl] at e1 ⊢
  exact kk H' _ ls (xh_set hD hi hq (hP.set hD hq ⟨_, hc, t_OB.to (V := updV (vp_V fs) k0 v) ⟨_, e1, q2, q3, t_set q4 hap hk v⟩ (fun j _ => vp_updV_set hl9 v j)⟩ e3) (hD.set hq) (e2.trans hn) hbn) (hS.put e2 e3 (hD.2 q0 _ hq)) hl
theorem xv_getN {G : xG} {K : xK} {cc : ByteArray} {own : String} {rm0 : Room} {mL k kS pc pc' n : Nat} {L : List (Nat × Value)} {st : List Value} {h : xH} {C host : String} {T : u_T} {N ci idx a : Nat} {fs : List Value} {v : Value} (hF : XF G K cc own rm0 mL) (hh : h a = some (.inr (ci, fs))) (hc : x_cl[ci]? = some (C, T, N)) (hin : ∀ w ∈ u_ws C T N, w ∈ x_T) (k0 : Nat) (hk : k0 < N) (hlink : Cond.fieldLinkNest own idx (T k0).1 (T k0).2.1 (T k0).2.2.1 host ∈ x_nest) (hv : fs[k0]? = some v) (hd : decode cc pc = .ok (.getfield idx, 3)) (hp : pc + 3 = pc') (kk : XV G k kS pc' L (v :: st) n h) : XV G k kS pc L (.ref a :: st) n h := by
  obtain ⟨p, e, R, s, m, args, below, meth, c, ⟨l, D, cx, b⟩, H0, maxL, Q⟩ := G
  obtain ⟨⟨hx, hb, hml, hown, hts⟩, hK, rfl, hbs, rfl, rfl, hN⟩ := hF
  subst hp
  intro H locs ls hok hS hl
  obtain ⟨ws, hP, hD, hn, hbn, hi⟩ := id hok
  obtain ⟨q0, hq⟩ := (hi a _).mp hh
  exact va_getN (D := D) hx hb hts hin hown hK hP q0 hq hc k0 hk (va_Nw.use rfl (hN.1 _ hlink)) (fun _ z => z) hv hd (kk H locs ls hok hS hl)
theorem xv_putN {G : xG} {K : xK} {cc : ByteArray} {own : String} {rm0 : Room} {mL k kS pc pc' n : Nat} {L : List (Nat × Value)} {st : List Value} {h : xH} {C host : String} {T : u_T} {N ci idx a : Nat} {fs fs' : List Value} {v : Value} {ty : FieldType} (hF : XF G K cc own rm0 mL) (hh : h a = some (.inr (ci, fs))) (hc : x_cl[ci]? = some (C, T, N)) (hin : ∀ w ∈ u_ws C T N, w ∈ x_T) (ty0 : Nat → FieldType) (hty : ∀ k, k < N → parseFieldDescriptor (T k).2.2.1 = some (ty0 k)) (hnm : ∀ a, a < N → ∀ b, b < N → a ≠ b → (T a).2.1 ≠ (T b).2.1) (k0 : Nat) (hk : k0 < N) (hlink : Cond.fieldLinkNest own idx (T k0).1 (T k0).2.1 (T k0).2.2.1 host ∈ x_nest) (hfin : (T k0).2.2.2 = false) (hd9 : parseFieldDescriptor (T k0).2.2.1 = some ty) (hn9 : narrow ty v = v) (hfit : fits ty v = true) (hl9 : k0 < fs.length) (hfs : fs.set k0 v = fs') (hd : decode cc pc = .ok (.putfield idx, 3)) (hp : pc + 3 = pc') (kk : XV G k kS pc' L st n (xu h a (.inr (ci, fs')))) : XV G k kS pc L (v :: .ref a :: st) n h := by
  obtain ⟨p, e, R, s, m, args, below, meth, c, ⟨l, D, cx, b⟩, H0, maxL, Q⟩ := G
  obtain ⟨⟨hx, hb, hml, hown, hts⟩, hK, rfl, hbs, rfl, rfl, hN⟩ := hF
  subst hp
  subst hfs
  intro H locs ls hok hS hl
  obtain ⟨ws, hP, hD, hn, hbn, hi⟩ := id hok
  obtain ⟨q0, hq⟩ := (hi a _).mp hh
  have hap := va_apart (own := own) hts hin ty0 hty hnm hK hc
  obtain ⟨r, h1, cell, q1, q2, q3, q4⟩ := hP q0 _ hq
  have hr : r = (C, T, N) := Option.some.inj (h1.symm.trans hc)
  subst hr
  obtain ⟨hS9, hfc, kC, hkC, hkind⟩ := hK.1 ci _ hc
  obtain ⟨cf, kf, fi, f, hi9, hsl⟩ := hS9 k0 hk
  have hlay := hts _ (hin _ (u_in_lay hk))
  unfold u_lay at hlay
  rw [if_neg (by rw [hfin]; decide)] at hlay
  have hst := (u_facts hfc hkC (u_lays hts hin hk) hi9).1
  have h6 := u_store hfc hkC hkind hlay hi9 hd9 hn9 hfit
  refine va_WputK hx hb (f := f) hown (va_Nw.use rfl (hN.1 _ hlink)) hi9 hst (by rw [q2]; exact h6) q1 q3 (by rw [hsl]; exact k2_hasslot (q4 k0 hk)) rfl rfl hd fun H' e1 e2 e3 => ?_
  rw [hsl] at e1 ⊢
  exact kk H' _ ls (xh_set hD hi hq (hP.set hD hq ⟨_, hc, t_OB.to (V := updV (vp_V fs) k0 v) ⟨_, e1, q2, q3, t_set q4 hap hk v⟩ (fun j _ => vp_updV_set hl9 v j)⟩ e3) (hD.set hq) (e2.trans hn) hbn) (hS.put e2 e3 (hD.2 q0 _ hq)) hl
theorem xv_putF {G : xG} {K : xK} {cc : ByteArray} {own : String} {rm0 : Room} {mL k kS pc pc' n : Nat} {L : List (Nat × Value)} {st : List Value} {h : xH} {C : String} {T : u_T} {N ci idx a : Nat} {fs fs' : List Value} {v : Value} {ty : FieldType} (hF : XF G K cc own rm0 mL) (hX : G.2.2.2.2.2.2.2.1.name = "<init>") (hh : h a = some (.inr (ci, fs))) (hc : x_cl[ci]? = some (C, T, N)) (hin : ∀ w ∈ u_ws C T N, w ∈ x_T) (ty0 : Nat → FieldType) (hty : ∀ k, k < N → parseFieldDescriptor (T k).2.2.1 = some (ty0 k)) (hnm : ∀ a, a < N → ∀ b, b < N → a ≠ b → (T a).2.1 ≠ (T b).2.1) (k0 : Nat) (hk : k0 < N) (hlink : Cond.fieldLink own idx (T k0).1 (T k0).2.1 (T k0).2.2.1 ∈ x_T) (hfin : (T k0).2.2.2 = true) (hdecl : (T k0).1 = own) (hd9 : parseFieldDescriptor (T k0).2.2.1 = some ty) (hn9 : narrow ty v = v) (hfit : fits ty v = true) (hl9 : k0 < fs.length) (hfs : fs.set k0 v = fs') (hd : decode cc pc = .ok (.putfield idx, 3)) (hp : pc + 3 = pc') (kk : XV G k kS pc' L st n (xu h a (.inr (ci, fs')))) : XV G k kS pc L (v :: .ref a :: st) n h := by
  obtain ⟨p, e, R, s, m, args, below, meth, c, ⟨l, D, cx, b⟩, H0, maxL, Q⟩ := G
  obtain ⟨⟨hx, hb, hml, hown, hts⟩, hK, rfl, hbs, rfl, rfl, hN⟩ := hF
  subst hp
  subst hfs
  intro H locs ls hok hS hl
  obtain ⟨ws, hP, hD, hn, hbn, hi⟩ := id hok
  obtain ⟨q0, hq⟩ := (hi a _).mp hh
  have hap := va_apart (own := own) hts hin ty0 hty hnm hK hc
  obtain ⟨r, h1, cell, q1, q2, q3, q4⟩ := hP q0 _ hq
  have hr : r = (C, T, N) := Option.some.inj (h1.symm.trans hc)
  subst hr
  obtain ⟨hS9, hfc, kC, hkC, hkind⟩ := hK.1 ci _ hc
  obtain ⟨cf, kf, fi, f, hi9, hsl⟩ := hS9 k0 hk
  have hlay := hts _ (hin _ (u_in_lay hk))
  unfold u_lay at hlay
  rw [if_pos hfin] at hlay
  have hst := (u_facts hfc hkC (u_lays hts hin hk) hi9).1
  have hcf : m.cls = cf := by
    obtain ⟨_, _, c', _, _, _, -, -, hf', -, -, -, hown2, -⟩ := Cond.laysFinal_spec hlay
    have e1 : c' = cf := by have := hi9.symm.trans hf'; simp at this; exact this.1.symm
    rw [hdecl] at hown2
    rw [← e1]; exact Option.some.inj (hown.symm.trans hown2)
  have h6 := u_fits hfc hkC hkind (Or.inr hlay) hi9 hd9 hn9 hfit
  refine W.putFinK hx hb hown (hts _ hlink) hi9 hst hcf hX (by rw [q2]; exact h6) q1 q3 (by rw [hsl]; exact k2_hasslot (q4 k0 hk)) rfl rfl hd fun H' e1 e2 e3 => ?_
  rw [hsl] at e1 ⊢
  exact kk H' _ ls (xh_set hD hi hq (hP.set hD hq ⟨_, hc, t_OB.to (V := updV (vp_V fs) k0 v) ⟨_, e1, q2, q3, t_set q4 hap hk v⟩ (fun j _ => vp_updV_set hl9 v j)⟩ e3) (hD.set hq) (e2.trans hn) hbn) (hS.put e2 e3 (hD.2 q0 _ hq)) hl
theorem xv_iald {G : xG} {K : xK} {cc : ByteArray} {own : String} {rm0 : Room} {mL k kS pc pc' n : Nat} {L : List (Nat × Value)} {st : List Value} {h : xH} {a N : Nat} {f : Nat → Int32} {i : Int32} (hF : XF G K cc own rm0 mL) (hh : h a = some (.inl (K.2.2.1 0, N, .inl f))) (hin : vp_in i N) (hd : decode cc pc = .ok (.iaload, 1)) (hp : pc + 1 = pc') (kk : XV G k kS pc' L (.int (f i.toNatClampNeg) :: st) n h) : XV G k kS pc L (.int i :: .ref a :: st) n h := by
  obtain ⟨p, e, R, s, m, args, below, meth, c, ⟨l, D, cx, b⟩, H0, maxL, Q⟩ := G
  obtain ⟨⟨hx, hb, hml, hown, hts⟩, hK, rfl, hbs, rfl, rfl, hN⟩ := hF
  subst hp
  intro H locs ls hok hS hl
  obtain ⟨ws, hP, hD, hn, hbn, hi⟩ := id hok
  obtain ⟨q0, hq⟩ := (hi a _).mp hh
  exact va_iald hx hb hK hP q0 0 hq rfl hin hd (kk H locs ls hok hS hl)
theorem xv_zald {G : xG} {K : xK} {cc : ByteArray} {own : String} {rm0 : Room} {mL k kS pc pc' n : Nat} {L : List (Nat × Value)} {st : List Value} {h : xH} {a N : Nat} {f : Nat → Int32} {i : Int32} (hF : XF G K cc own rm0 mL) (hh : h a = some (.inl (K.2.2.1 1, N, .inl f))) (hin : vp_in i N) (hd : decode cc pc = .ok (.baload, 1)) (hp : pc + 1 = pc') (kk : XV G k kS pc' L (.int (f i.toNatClampNeg) :: st) n h) : XV G k kS pc L (.int i :: .ref a :: st) n h := by
  obtain ⟨p, e, R, s, m, args, below, meth, c, ⟨l, D, cx, b⟩, H0, maxL, Q⟩ := G
  obtain ⟨⟨hx, hb, hml, hown, hts⟩, hK, rfl, hbs, rfl, rfl, hN⟩ := hF
  subst hp
  intro H locs ls hok hS hl
  obtain ⟨ws, hP, hD, hn, hbn, hi⟩ := id hok
  obtain ⟨q0, hq⟩ := (hi a _).mp hh
  exact va_zald hx hb hK hP q0 1 hq rfl hin hd (kk H locs ls hok hS hl)
theorem xv_lald {G : xG} {K : xK} {cc : ByteArray} {own : String} {rm0 : Room} {mL k kS pc pc' n : Nat} {L : List (Nat × Value)} {st : List Value} {h : xH} {a N : Nat} {f : Nat → Int64} {i : Int32} (hF : XF G K cc own rm0 mL) (hh : h a = some (.inl (K.2.2.1 2, N, .inr (.inl f)))) (hin : vp_in i N) (hd : decode cc pc = .ok (.laload, 1)) (hp : pc + 1 = pc') (kk : XV G k kS pc' L (.long (f i.toNatClampNeg) :: st) n h) : XV G k kS pc L (.int i :: .ref a :: st) n h := by
  obtain ⟨p, e, R, s, m, args, below, meth, c, ⟨l, D, cx, b⟩, H0, maxL, Q⟩ := G
  obtain ⟨⟨hx, hb, hml, hown, hts⟩, hK, rfl, hbs, rfl, rfl, hN⟩ := hF
  subst hp
  intro H locs ls hok hS hl
  obtain ⟨ws, hP, hD, hn, hbn, hi⟩ := id hok
  obtain ⟨q0, hq⟩ := (hi a _).mp hh
  exact va_lald hx hb hK hP q0 2 hq rfl hin hd (kk H locs ls hok hS hl)
theorem xv_aald {G : xG} {K : xK} {cc : ByteArray} {own : String} {rm0 : Room} {mL k kS pc pc' n : Nat} {L : List (Nat × Value)} {st : List Value} {h : xH} {a N : Nat} {C : String} {f : Nat → Option Nat} {i : Int32} (t : Nat) (hF : XF G K cc own rm0 mL) (hh : h a = some (.inl (K.2.2.1 t, N, .inr (.inr (.inr (.inr f)))))) (ht : (x_tys K.2.2.1)[t]? = some (K.2.2.1 t, .object C)) (hin : vp_in i N) (hd : decode cc pc = .ok (.aaload, 1)) (hp : pc + 1 = pc') (kk : XV G k kS pc' L (va_rf (f i.toNatClampNeg) :: st) n h) : XV G k kS pc L (.int i :: .ref a :: st) n h := by
  obtain ⟨p, e, R, s, m, args, below, meth, c, ⟨l, D, cx, b⟩, H0, maxL, Q⟩ := G
  obtain ⟨⟨hx, hb, hml, hown, hts⟩, hK, rfl, hbs, rfl, rfl, hN⟩ := hF
  subst hp
  intro H locs ls hok hS hl
  obtain ⟨ws, hP, hD, hn, hbn, hi⟩ := id hok
  obtain ⟨q0, hq⟩ := (hi a _).mp hh
  exact va_aldq hx hb hK hP q0 t hq ht hin hd (kk H locs ls hok hS hl)
theorem xv_alen {G : xG} {K : xK} {cc : ByteArray} {own : String} {rm0 : Room} {mL k kS pc pc' n : Nat} {L : List (Nat × Value)} {st : List Value} {h : xH} {a : Nat} {x : vp_A} {ty : FieldType} (t : Nat) {v : Int32} (hF : XF G K cc own rm0 mL) (hh : h a = some (.inl (K.2.2.1 t, x))) (ht : (x_tys K.2.2.1)[t]? = some (K.2.2.1 t, ty)) (hv : Int32.ofNat x.1 = v) (hd : decode cc pc = .ok (.arraylength, 1)) (hp : pc + 1 = pc') (kk : XV G k kS pc' L (.int v :: st) n h) : XV G k kS pc L (.ref a :: st) n h := by
  obtain ⟨p, e, R, s, m, args, below, meth, c, ⟨l, D, cx, b⟩, H0, maxL, Q⟩ := G
  obtain ⟨⟨hx, hb, hml, hown, hts⟩, hK, rfl, hbs, rfl, rfl, hN⟩ := hF
  subst hp
  intro H locs ls hok hS hl
  obtain ⟨ws, hP, hD, hn, hbn, hi⟩ := id hok
  obtain ⟨q0, hq⟩ := (hi a _).mp hh
  exact va_alen hx hb hK hP q0 t hq ht hv hd (kk H locs ls hok hS hl)
theorem xv_iast {G : xG} {K : xK} {cc : ByteArray} {own : String} {rm0 : Room} {mL k kS pc pc' n : Nat} {L : List (Nat × Value)} {st : List Value} {h : xH} {a N : Nat} {f : Nat → Int32} {i : Int32} {x : Int32} (hF : XF G K cc own rm0 mL) (hh : h a = some (.inl (K.2.2.1 0, N, .inl f))) (hin : vp_in i N) (hd : decode cc pc = .ok (.iastore, 1)) (hp : pc + 1 = pc') (kk : XV G k kS pc' L st n (xu h a (.inl (K.2.2.1 0, N, .inl (upd f i.toNatClampNeg x))))) : XV G k kS pc L (.int x :: .int i :: .ref a :: st) n h := by
  obtain ⟨p, e, R, s, m, args, below, meth, c, ⟨l, D, cx, b⟩, H0, maxL, Q⟩ := G
  obtain ⟨⟨hx, hb, hml, hown, hts⟩, hK, rfl, hbs, rfl, rfl, hN⟩ := hF
  subst hp
  intro H locs ls hok hS hl
  obtain ⟨ws, hP, hD, hn, hbn, hi⟩ := id hok
  obtain ⟨q0, hq⟩ := (hi a _).mp hh
  refine W.iast hx hb (hP q0 _ hq) ((hK.2 0 _ rfl).1 N (fun j => .int (f j))) (fun q => by cases q) (by show ¬ (i < 0 ∨ (arrV _ _ _).slots.size ≤ _); rw [arrV_size]; exact hin) rfl rfl hd fun H1 e9 z oq => ?_
  refine kk H1 _ ls (xh_set hD hi hq (hP.set hD hq ?_ oq) (hD.set hq) (z.trans hn) hbn) (hS.put z oq (hD.2 q0 _ hq)) hl
  show H1[a]? = some (vp_cell _ _)
  rw [e9]
  rw [vp_cell_i, vp_cell_i, arrV_store]
  congr 2
  funext q
  by_cases hq9 : q = i.toNatClampNeg
  · subst hq9
    simp [updV, upd]
  · simp [updV, upd, hq9]
theorem xv_zast {G : xG} {K : xK} {cc : ByteArray} {own : String} {rm0 : Room} {mL k kS pc pc' n : Nat} {L : List (Nat × Value)} {st : List Value} {h : xH} {a N : Nat} {f : Nat → Int32} {i : Int32} {x : Int32} (hF : XF G K cc own rm0 mL) (hh : h a = some (.inl (K.2.2.1 1, N, .inl f))) (hin : vp_in i N) (hd : decode cc pc = .ok (.bastore, 1)) (hp : pc + 1 = pc') (kk : XV G k kS pc' L st n (xu h a (.inl (K.2.2.1 1, N, .inl (upd f i.toNatClampNeg (vp_nar .boolean x)))))) : XV G k kS pc L (.int x :: .int i :: .ref a :: st) n h := by
  obtain ⟨p, e, R, s, m, args, below, meth, c, ⟨l, D, cx, b⟩, H0, maxL, Q⟩ := G
  obtain ⟨⟨hx, hb, hml, hown, hts⟩, hK, rfl, hbs, rfl, rfl, hN⟩ := hF
  subst hp
  intro H locs ls hok hS hl
  obtain ⟨ws, hP, hD, hn, hbn, hi⟩ := id hok
  obtain ⟨q0, hq⟩ := (hi a _).mp hh
  refine W.zast hx hb (hP q0 _ hq) ((hK.2 1 _ rfl).1 N (fun j => .int (f j))) (fun q => by cases q) (by show ¬ (i < 0 ∨ (arrV _ _ _).slots.size ≤ _); rw [arrV_size]; exact hin) rfl rfl hd fun H1 e9 z oq => ?_
  refine kk H1 _ ls (xh_set hD hi hq (hP.set hD hq ?_ oq) (hD.set hq) (z.trans hn) hbn) (hS.put z oq (hD.2 q0 _ hq)) hl
  show H1[a]? = some (vp_cell _ _)
  rw [e9]
  rw [vp_cell_i, vp_cell_i, arrV_store]
  congr 2
  funext q
  by_cases hq9 : q = i.toNatClampNeg
  · subst hq9
    simp [updV, upd, vp_nar]
    try rfl
  · simp [updV, upd, hq9]
theorem xv_last {G : xG} {K : xK} {cc : ByteArray} {own : String} {rm0 : Room} {mL k kS pc pc' n : Nat} {L : List (Nat × Value)} {st : List Value} {h : xH} {a N : Nat} {f : Nat → Int64} {i : Int32} {x : Int64} (hF : XF G K cc own rm0 mL) (hh : h a = some (.inl (K.2.2.1 2, N, .inr (.inl f)))) (hin : vp_in i N) (hd : decode cc pc = .ok (.lastore, 1)) (hp : pc + 1 = pc') (kk : XV G k kS pc' L st n (xu h a (.inl (K.2.2.1 2, N, .inr (.inl (vp_updL f i.toNatClampNeg x)))))) : XV G k kS pc L (.long x :: .int i :: .ref a :: st) n h := by
  obtain ⟨p, e, R, s, m, args, below, meth, c, ⟨l, D, cx, b⟩, H0, maxL, Q⟩ := G
  obtain ⟨⟨hx, hb, hml, hown, hts⟩, hK, rfl, hbs, rfl, rfl, hN⟩ := hF
  subst hp
  intro H locs ls hok hS hl
  obtain ⟨ws, hP, hD, hn, hbn, hi⟩ := id hok
  obtain ⟨q0, hq⟩ := (hi a _).mp hh
  refine W.last hx hb (hP q0 _ hq) ((hK.2 2 _ rfl).1 N (fun j => .long (f j))) (fun q => by cases q) (by show ¬ (i < 0 ∨ (arrV _ _ _).slots.size ≤ _); rw [arrV_size]; exact hin) rfl rfl hd fun H1 e9 z oq => ?_
  refine kk H1 _ ls (xh_set hD hi hq (hP.set hD hq ?_ oq) (hD.set hq) (z.trans hn) hbn) (hS.put z oq (hD.2 q0 _ hq)) hl
  show H1[a]? = some (vp_cell _ _)
  rw [e9]
  rw [vp_cell_l, vp_cell_l, arrV_store]
  congr 2
  funext q
  by_cases hq9 : q = i.toNatClampNeg
  · subst hq9
    simp [updV, vp_updL]
  · simp [updV, vp_updL, hq9]
theorem xv_aast {G : xG} {K : xK} {cc : ByteArray} {own : String} {rm0 : Room} {mL k kS pc pc' n : Nat} {L : List (Nat × Value)} {st : List Value} {h : xH} {a N v ci : Nat} {r : vw_C} {vs : List Value} {f : Nat → Option Nat} {i : Int32} (t : Nat) (hF : XF G K cc own rm0 mL) (hh : h a = some (.inl (K.2.2.1 t, N, .inr (.inr (.inr (.inr f)))))) (ht : (x_tys K.2.2.1)[t]? = some (K.2.2.1 t, .object r.1)) (hv : h v = some (.inr (ci, vs))) (hc : x_cl[ci]? = some r) (hin : vp_in i N) (hd : decode cc pc = .ok (.aastore, 1)) (hp : pc + 1 = pc') (kk : XV G k kS pc' L st n (xu h a (.inl (K.2.2.1 t, N, .inr (.inr (.inr (.inr (va_up f i.toNatClampNeg (some v))))))))) : XV G k kS pc L (.ref v :: .int i :: .ref a :: st) n h := by
  obtain ⟨p, e, R, s, m, args, below, meth, c, ⟨l, D, cx, b⟩, H0, maxL, Q⟩ := G
  obtain ⟨⟨hx, hb, hml, hown, hts⟩, hK, rfl, hbs, rfl, rfl, hN⟩ := hF
  subst hp
  intro H locs ls hok hS hl
  obtain ⟨ws, hP, hD, hn, hbn, hi⟩ := id hok
  obtain ⟨q0, hq⟩ := (hi a _).mp hh
  obtain ⟨qk, hqk⟩ := (hi v _).mp hv
  have hlt : i.toNatClampNeg < N := Nat.not_le.mp fun q => hin (Or.inr q)
  have h0 : ¬ i < 0 := fun q => hin (Or.inl q)
  obtain ⟨r', hr', cellV, g1, g2, g3, -⟩ := hP qk _ hqk
  have hcls := (hK.1 ci r hc).2
  obtain ⟨kA, comp, k1, k2, k3, -⟩ := (hK.2 t _ ht).2
  have hcomp : comp = D.1 ci := Option.some.inj (k3.symm.trans hcls.1)
  subst hcomp
  obtain ⟨kC, hkC, -⟩ := hcls.2
  refine W.aast hx hb (hP q0 _ hq) (fun q h => by cases h) (fun h => by cases h) k1 k2 rfl hkC ⟨h0, by show _ < (arrV _ _ _).slots.size; rw [arrV_size]; exact hlt⟩ g1 (fun q h => by rw [g3] at h; cases h) (by rw [g2]; exact hkC) (by rw [g2]; exact va_assign hcls) rfl rfl hd fun H1 e9 z oq => ?_
  refine kk H1 _ ls (xh_set hD hi hq (hP.set hD hq ?_ oq) (hD.set hq) (z.trans hn) hbn) (hS.put z oq (hD.2 q0 _ hq)) hl
  show H1[a]? = some (vp_cell _ _)
  rw [e9]
  rw [vp_cell_q, vp_cell_q, arrV_store]
  congr 2
  funext q
  by_cases hq9 : q = i.toNatClampNeg
  · subst hq9
    simp [updV, va_up, va_rf]
  · simp [updV, va_up, hq9]
theorem xv_new {G : xG} {K : xK} {cc : ByteArray} {own : String} {rm0 : Room} {mL k kS pc pc' n : Nat} {L : List (Nat × Value)} {st : List Value} {h : xH} {C : String} {T : u_T} {N ci idx : Nat} {fs : List Value} (hF : XF G K cc own rm0 mL) (hc : x_cl[ci]? = some (C, T, N)) (hin : ∀ w ∈ u_ws C T N, w ∈ x_T) (ty : Nat → FieldType) (hty : ∀ k, k < N → parseFieldDescriptor (T k).2.2.1 = some (ty k)) (hcl : Cond.classLink own idx C ∈ x_T) (hinst : Cond.instantiable C N ∈ x_T) (hini : Cond.initialized C ∈ x_T) (hfs : ∀ j, j < N → defaultValue (ty j) = vp_V fs j) (hcells : k + 1 ≤ rm0.cells) (hslots : kS + N ≤ rm0.slots) (hd : decode cc pc = .ok (.new idx, 3)) (hp : pc + 3 = pc') (kk : h n = none → XV G (k + 1) (kS + N) pc' L (.ref n :: st) (n + 1) (xu h n (.inr (ci, fs)))) : XV G k kS pc L st n h := by
  obtain ⟨p, e, R, s, m, args, below, meth, c, ⟨l, D, cx, b⟩, H0, maxL, Q⟩ := G
  obtain ⟨⟨hx, hb, hml, hown, hts⟩, hK, rfl, hbs, rfl, rfl, hN⟩ := hF
  subst hp
  intro H locs ls hok hS hl
  have hnw := xh_new hok
  have hKn := hK.1 ci _ hc
  have hz0 : H.size = n := hok.choose_spec.2.2.1
  refine W.newcK hx hb hown (hts _ hcl) (hts _ hinst) (hts _ hini) rfl hd hcells hslots hKn.2.1 hz0 fun H1 kC hkC e1 z1 o1 => ?_
  exact kk hnw H1 _ ls (xh_push hok z1 o1 ⟨_, hc, (u_born ty hts hin hKn hkC e1 hty).to hfs⟩) ⟨Nat.le_trans hS.1 (by omega), fun x h1 h2 => (o1 x (by have := hS.1; omega)).trans (hS.2.1 x h1 h2), hS.2.2⟩ hl
theorem xv_newa {G : xG} {K : xK} {cc : ByteArray} {own : String} {rm0 : Room} {mL k kS pc pc' n : Nat} {L : List (Nat × Value)} {st : List Value} {h : xH} {atype : ArrayType} {ty : FieldType} {N' : Nat} {i : Int32} {a0 : vp_A} (t : Nat) (hF : XF G K cc own rm0 mL) (harr : Cond.arrayClass (newarray.typeOf atype) ∈ x_T) (hty : newarray.typeOf atype = ty) (ht : (x_tys K.2.2.1)[t]? = some (K.2.2.1 t, ty)) (hprim : ∀ C, ty ≠ .object C) (ha : ∀ cA : ClassId, vp_cell cA a0 = arrV cA N' (fun _ => defaultValue ty)) (hn0 : ¬ i < 0) (hNn : i.toNatClampNeg = N') (hbytes : N' * componentBytes ty ≤ 536870912) (hcells : k + 1 ≤ rm0.cells) (hslots : kS + N' ≤ rm0.slots) (hd : decode cc pc = .ok (.newarray atype, 2)) (hp : pc + 2 = pc') (kk : h n = none → XV G (k + 1) (kS + N') pc' L (.ref n :: st) (n + 1) (xu h n (.inl (K.2.2.1 t, a0)))) : XV G k kS pc L (.int i :: st) n h := by
  obtain ⟨p, e, R, s, m, args, below, meth, c, ⟨l, D, cx, b⟩, H0, maxL, Q⟩ := G
  obtain ⟨⟨hx, hb, hml, hown, hts⟩, hK, rfl, hbs, rfl, rfl, hN⟩ := hF
  subst hp
  subst hty
  intro H locs ls hok hS hl
  have hnw := xh_new hok
  have hz0 : H.size = n := hok.choose_spec.2.2.1
  refine va_newaK hx hb (hts _ harr) rfl hd rfl hn0 hNn hbytes hcells hslots hz0 fun H1 cA e1 z1 o1 hAr hNm => ?_
  have hcA : cx t = cA := by
    have h1 := (hK.2 t _ ht).2
    have h2 : s.vm.findClass ("[" ++ (newarray.typeOf atype).toString) = some (cx t) := by
      cases hT : newarray.typeOf atype <;> (rw [hT] at h1; first | exact h1 | exact absurd hT (hprim _))
    exact Option.some.inj (h2.symm.trans hNm)
  subst hcA
  exact kk hnw H1 _ ls (xh_push hok z1 o1 (by show H1[n]? = some (vp_cell _ _); rw [ha]; exact e1)) ⟨Nat.le_trans hS.1 (by omega), fun x h1 h2 => (o1 x (by have := hS.1; omega)).trans (hS.2.1 x h1 h2), hS.2.2⟩ hl
theorem xv_newq {G : xG} {K : xK} {cc : ByteArray} {own : String} {rm0 : Room} {mL k kS pc pc' n : Nat} {L : List (Nat × Value)} {st : List Value} {h : xH} {C : String} {N' idx : Nat} {i : Int32} (t : Nat) (hF : XF G K cc own rm0 mL) (hcl : Cond.classLink own idx C ∈ x_T) (hao : ∀ U : State, x_N U → va_AO C U) (ht : (x_tys K.2.2.1)[t]? = some (K.2.2.1 t, .object C)) (hn0 : ¬ i < 0) (hNn : i.toNatClampNeg = N') (hbytes : N' * 4 ≤ 536870912) (hcells : k + 1 ≤ rm0.cells) (hslots : kS + N' ≤ rm0.slots) (hd : decode cc pc = .ok (.anewarray idx, 3)) (hp : pc + 3 = pc') (kk : h n = none → XV G (k + 1) (kS + N') pc' L (.ref n :: st) (n + 1) (xu h n (.inl (K.2.2.1 t, N', .inr (.inr (.inr (.inr (fun _ => none)))))))) : XV G k kS pc L (.int i :: st) n h := by
  obtain ⟨p, e, R, s, m, args, below, meth, c, ⟨l, D, cx, b⟩, H0, maxL, Q⟩ := G
  obtain ⟨⟨hx, hb, hml, hown, hts⟩, hK, rfl, hbs, rfl, rfl, hN⟩ := hF
  subst hp
  subst hNn
  intro H locs ls hok hS hl
  have hnw := xh_new hok
  have hz0 : H.size = n := hok.choose_spec.2.2.1
  refine W.anew hx hb hown (hts _ hcl) (va_AO.use (hao s hN)) rfl hd rfl hn0 hbytes hcells hslots fun cA kA comp f1 f2 f3 f4 => ?_
  have hcA : cx t = cA := by
    obtain ⟨_, _, _, _, _, h4⟩ := (hK.2 t _ ht).2
    exact Option.some.inj (h4.symm.trans f1)
  subst hcA
  generalize hH1 : H.push ({ cls := cx t, slots := Array.replicate i.toNatClampNeg .null, vm := .none } : Cell) = H1
  have z1 : H1.size = n + 1 := by rw [← hH1, Array.size_push, hz0]
  have e1 : H1[n]? = some (arrV (cx t) i.toNatClampNeg (fun _ => .null)) := by rw [← hH1, ← hz0, Array.getElem?_push_size, ← arrV_new]
  have o1 : ∀ q : Nat, q < n → H1[q]? = H[q]? := fun q hq => by rw [← hH1, Array.getElem?_push, if_neg (by omega)]
  rw [hz0]
  exact kk hnw H1 _ ls (xh_push hok z1 o1 (by show H1[n]? = some (vp_cell _ _); rw [vp_cell_q]; exact e1)) ⟨Nat.le_trans hS.1 (by omega), fun x h1 h2 => (o1 x (by have := hS.1; omega)).trans (hS.2.1 x h1 h2), hS.2.2⟩ hl
theorem x_after {p : Program} {l : Launch} {e : Env} {R : Room} {s : State} {m : MethodId} {args : Array Value} {below : List Frame} {meth : Method} {c : Code} {D : va_G} {cx : Nat → ClassId} {b : Nat} {H0 : Heap} {maxL : Nat} {Q : State → Prop} {H : Heap} {locs : List Loc} {k kS mc ms pc : Nat} {ls : Array Slot} {st0 rest : List Value} {post : Option Value → Nat → xH → Prop} {a : Array Value} {L : List (Nat × Value)}
    (hr : va_Run p l e R s m args below meth c H locs k kS mc ms (F0 m pc ls st0) rest (x_Q (l, D, cx, b) post a) (fun q => b ≤ q)) (hS : va_S (fun q => b ≤ q) H0 H locs) (hl : lv_has ls maxL L)
    (kk : ∀ v n' h', post v n' h' → XV (p, e, R, s, m, args, below, meth, c, (l, D, cx, b), H0, maxL, Q) (k + mc) (kS + ms) (pc + 3) L (v.toList ++ rest) n' h') : W p l e R s m args below meth c H locs k kS Q (F0 m pc ls st0) := by
  intro T hT X
  obtain ⟨v, st₀, t, T', L9, h0, X', hL, e1, e2, ⟨⟨v', n', h', hv, hp, hI⟩, hz, hk⟩, st⟩ := hr T hT X
  cases hv
  rw [h0] at hz hk
  obtain ⟨t2, a1, b1⟩ := kk v n' h' hp T'.heap (locs ++ L9) ls (by rw [e1]; exact hI.1)
    ⟨Nat.le_trans hS.1 (by rw [e1]; exact hz), fun q h1 h2 => by rw [e1, hk q (Nat.lt_of_lt_of_le h1 hS.1) h2]; exact hS.2.1 q h1 h2, fun q hq => by
      rcases List.mem_append.mp hq with h | h
      · exact hS.2.2 q h
      · exact hL q h⟩ hl T' rfl X'
  exact ⟨t2, st t2 a1, b1⟩
