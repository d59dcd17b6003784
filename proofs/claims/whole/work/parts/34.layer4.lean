theorem nx_andN (a b : Nat) : nI a &&& nI b = nI (a &&& b) := by
  apply Int32.toBitVec_inj.1
  show BitVec.ofNat 32 a &&& BitVec.ofNat 32 b = BitVec.ofNat 32 (a &&& b)
  apply BitVec.eq_of_getLsbD_eq
  intro i hi
  simp [hi]
theorem nx_orN (a b : Nat) : nI a ||| nI b = nI (a ||| b) := by
  apply Int32.toBitVec_inj.1
  show BitVec.ofNat 32 a ||| BitVec.ofNat 32 b = BitVec.ofNat 32 (a ||| b)
  apply BitVec.eq_of_getLsbD_eq
  intro i hi
  simp [hi]
theorem nx_of (x : Int32) : ∃ X : Nat, X < 2 ^ 32 ∧ x = nI X := by
  refine ⟨x.toBitVec.toNat, x.toBitVec.isLt, Int32.toBitVec_inj.1 ?_⟩
  show x.toBitVec = BitVec.ofNat 32 x.toBitVec.toNat
  simp
theorem xv_iandN {G : xG} {K : xK} {cc : ByteArray} {own : String} {rm0 : Room} {mL k kS pc pc' n : Nat} {L : List (Nat × Value)} {st : List Value} {h : xH} {x y : Nat} (hF : XF G K cc own rm0 mL) (hd : decode cc pc = .ok (.iand, 1)) (hp : pc + 1 = pc') (kk : XV G k kS pc' L (.int (nI (x &&& y)) :: st) n h) : XV G k kS pc L (.int (nI y) :: .int (nI x) :: st) n h := xv_iand hF hd hp (xv_topi (nx_andN x y) kk)
theorem xv_iushrN {G : xG} {K : xK} {cc : ByteArray} {own : String} {rm0 : Room} {mL k kS pc pc' n : Nat} {L : List (Nat × Value)} {st : List Value} {h : xH} {x y : Nat} (hF : XF G K cc own rm0 mL) (hx : x < 2 ^ 32) (hy : y < 32) (hd : decode cc pc = .ok (.iushr, 1)) (hp : pc + 1 = pc') (kk : XV G k kS pc' L (.int (nI (x / 2 ^ y)) :: st) n h) : XV G k kS pc L (.int (nI y) :: .int (nI x) :: st) n h := xv_iushr hF hd (pk_ushrN hx (nI y) y (s_u y hy)) hp kk
theorem xv_ldcw {G : xG} {K : xK} {cc : ByteArray} {own : String} {rm0 : Room} {mL k kS pc pc' n : Nat} {L : List (Nat × Value)} {st : List Value} {h : xH} {idx : Nat} {v : Int32} (hF : XF G K cc own rm0 mL) (hl9 : Cond.constant own idx v ∈ x_T) (hd : decode cc pc = .ok (.ldc_w idx, 3)) (hp : pc + 3 = pc') (kk : XV G k kS pc' L (.int v :: st) n h) : XV G k kS pc L st n h := by
  obtain ⟨p, e, R, s, m, args, below, meth, c, ⟨l, D, cx, b⟩, H0, maxL, Q⟩ := G
  obtain ⟨⟨hx, hb, hml, hown, hts⟩, hK, rfl, hbs, rfl, rfl, hN⟩ := hF
  subst hp
  intro H locs ls hok hS hl
  exact lv_ldcw hx hb hown (hts _ hl9) hd (kk H locs ls hok hS hl)
/-- -1 for 0, else the number below -/
def xm1 (s : Nat) : Int32 := if s = 0 then -1 else nI (s - 1)
