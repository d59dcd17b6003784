/-! the law's invariant -/
theorem dk_R.out {K : xK} {h h' : xH} {n n' o e w made : Nat} {E : Nat → Nat → Nat → Bool} {Tg : Nat → Nat → Bool} {cs : Nat → Nat} {OS : Nat → List Nat} {SX : Nat → Nat} {kn : Nat → Bool} (p : dk_R K h n o E Tg e cs w OS SX kn made) (hf : ∀ q, (q < o + 37 ∨ o + 51 ≤ q) → h' q = h q) (hn : n ≤ n') : dk_R K h' n' o E Tg e cs w OS SX kn made := by
  obtain ⟨p1, p2, ⟨x, q, sx, p3, p4⟩, ⟨ht, ad, sp, Mv, p5, ⟨b1, b2, b3, b4, ⟨Ms, b5⟩, b6, b7⟩⟩, ⟨f, p6, p7⟩, p8, ⟨g1, p9, p10⟩, ⟨g2, p11, p12⟩, ⟨kf, p13, p14⟩, p15, p16⟩ := p
  have lo : ∀ q, q < o + 37 → h' q = h q := fun q hq => hf q (Or.inl hq)
  have ok : ∀ a, be_ok o n a → be_ok o n' a := fun a ha => ⟨ha.1, by have := ha.2; omega⟩
  have rr : ∀ a M, be_ok o n a → re_R K h a M → re_R K h' a M := by
    intro a M ha hr
    obtain ⟨f, g, ⟨r1, r2, r3⟩, r4⟩ := hr
    have := ha.1
    exact ⟨f, g, ⟨(hf _ (by omega)).trans r1, (hf _ (by omega)).trans r2, (hf _ (by omega)).trans r3⟩, r4⟩
  refine ⟨(lo _ (by omega)).trans p1, p2.lo lo (by omega), ⟨x, q, sx, p3.lo lo (by omega) ?_, p4⟩, ⟨ht, ad, sp, Mv, p5.lo lo (by omega), b1, by omega, fun i hi => ⟨ok _ (b3 i hi).1, rr _ _ (b3 i hi).1 (b3 i hi).2⟩, ok _ b4, ⟨Ms, rr _ _ b4 b5⟩, b6, b7⟩, ⟨f, (lo _ (by omega)).trans p6, p7⟩, p8, ⟨g1, (lo _ (by omega)).trans p9, p10⟩, ⟨g2, (lo _ (by omega)).trans p11, p12⟩, ⟨kf, (lo _ (by omega)).trans p13, p14⟩, fun j hj => ⟨(p15 j hj).1.lo lo (by omega), (p15 j hj).2⟩, fun j hj => ?_⟩
  · rcases p4 with rfl | ⟨i, hi, rfl⟩ <;> omega
  · obtain ⟨M, m1, m2⟩ := p16 j hj
    exact ⟨M, m1.lo lo (by omega), m2⟩
theorem mo_W.out {K : xK} {h h' : xH} {p th ma w : Nat} {E : Nat → Nat → Nat → Bool} {Tg : Nat → Nat → Bool} {cs : Nat → Nat} {TX : Nat → Nat → Nat} {SZ SX : Nat → Nat} (r : mo_W K h p th ma w E Tg cs TX SZ SX) (hf : ∀ q, p ≤ q → q < p + 13 → h' q = h q) : mo_W K h' p th ma w E Tg cs TX SZ SX := by
  obtain ⟨⟨ln, at_, f, op, mk, tx, S, so, ba, ⟨ho, ⟨g, hs, hg⟩, ⟨sf, hso, hso2⟩, ⟨bf, hba, hba2⟩, ⟨tf, htx, htx2⟩, ⟨ef, hed, hed2⟩, ⟨gf, htg, htg2⟩, b1, b2, b3, b4, b5⟩⟩, ⟨⟨cf, r1, r2⟩, r3, ⟨xf, r4, r5⟩, r6, ⟨zf, r7, r8⟩, ⟨yf, r9, ra⟩, ⟨a, rb⟩, b, rc⟩⟩ := r
  exact ⟨⟨ln, at_, f, op, mk, tx, S, so, ba, ⟨(hf _ (by omega) (by omega)).trans ho, ⟨g, (hf _ (by omega) (by omega)).trans hs, hg⟩, ⟨sf, (hf _ (by omega) (by omega)).trans hso, hso2⟩, ⟨bf, (hf _ (by omega) (by omega)).trans hba, hba2⟩, ⟨tf, (hf _ (by omega) (by omega)).trans htx, htx2⟩, ⟨ef, (hf _ (by omega) (by omega)).trans hed, hed2⟩, ⟨gf, (hf _ (by omega) (by omega)).trans htg, htg2⟩, b1, b2, b3, b4, b5⟩⟩, ⟨⟨cf, (hf _ (by omega) (by omega)).trans r1, r2⟩, r3, ⟨xf, (hf _ (by omega) (by omega)).trans r4, r5⟩, r6, ⟨zf, (hf _ (by omega) (by omega)).trans r7, r8⟩, ⟨yf, (hf _ (by omega) (by omega)).trans r9, ra⟩, ⟨a, (hf _ (by omega) (by omega)).trans rb⟩, b, (hf _ (by omega) (by omega)).trans rc⟩⟩
/-- both sides hold the same things -/
def LI (K : xK) (o n : Nat) (h : xH) (mk : Nat) : Prop := ∃ E Tg cs w OS SX kn th TX SZ f, dk_R K h n o E Tg (ec E) cs w OS SX kn mk ∧ mo_W K h (o + 37) th (ec E) w E Tg cs TX SZ SX ∧ (∀ s, s < 4 → sl_T (TX s) (SZ s) (OS s)) ∧ ec E ≤ 300 ∧ mk ≤ 24 ∧ h (o + 50) = some (.inl (K.2.2.1 2, 1, .inr (.inl f)))
theorem dk_fr.mo {K : xK} {h h' : xH} {o th ma w : Nat} {E : Nat → Nat → Nat → Bool} {Tg : Nat → Nat → Bool} {cs : Nat → Nat} {TX : Nat → Nat → Nat} {SZ SX : Nat → Nat} (hf : dk_fr o h h') (r : mo_W K h (o + 37) th ma w E Tg cs TX SZ SX) : mo_W K h' (o + 37) th ma w E Tg cs TX SZ SX := r.out fun q _ _ => hf q (by omega) (by omega)
theorem mw_fr.dk {K : xK} {h h' : xH} {n n' o e w made : Nat} {E : Nat → Nat → Nat → Bool} {Tg : Nat → Nat → Bool} {cs : Nat → Nat} {OS : Nat → List Nat} {SX : Nat → Nat} {kn : Nat → Bool} (hf : mw_fr (o + 37) h h') (p : dk_R K h n o E Tg e cs w OS SX kn made) (hn : n ≤ n') : dk_R K h' n' o E Tg e cs w OS SX kn made := p.out (fun q c => hf q (by omega)) hn
theorem xu_dk {K : xK} {h : xH} {n o e w made : Nat} {c : va_E} {E : Nat → Nat → Nat → Bool} {Tg : Nat → Nat → Bool} {cs : Nat → Nat} {OS : Nat → List Nat} {SX : Nat → Nat} {kn : Nat → Bool} (p : dk_R K h n o E Tg e cs w OS SX kn made) : dk_R K (xu h (o + 50) c) n o E Tg e cs w OS SX kn made := p.out (fun q _ => xu_ne (by omega)) (Nat.le_refl _)
theorem xu_mo {K : xK} {h : xH} {o th ma w : Nat} {c : va_E} {E : Nat → Nat → Nat → Bool} {Tg : Nat → Nat → Bool} {cs : Nat → Nat} {TX : Nat → Nat → Nat} {SZ SX : Nat → Nat} (r : mo_W K h (o + 37) th ma w E Tg cs TX SZ SX) : mo_W K (xu h (o + 50) c) (o + 37) th ma w E Tg cs TX SZ SX := r.out fun q _ _ => xu_ne (by omega)
/-- a slot's relation: how many relations there are then -/
def li_md (OS : Nat → List Nat) (kn : Nat → Bool) (i made : Nat) : Nat := if kn i then made else bx_bm (OS i) made (OS i).length
theorem li_md_ge (OS : Nat → List Nat) (kn : Nat → Bool) (i made : Nat) : made ≤ li_md OS kn i made := by
  unfold li_md
  split
  · exact Nat.le_refl _
  · exact bx_bm_le (OS i) made (j := 0) (Nat.zero_le _)
theorem li_md_le {OS : Nat → List Nat} {kn : Nat → Bool} {i made : Nat} (hg : bx_gd (OS i)) (h : made ≤ 24) : li_md OS kn i made ≤ 24 := by
  unfold li_md
  split
  · exact h
  · exact bx_bm24 hg h _ (Nat.le_refl _)
theorem and15 (v : Int32) : ∃ j, j < 16 ∧ v &&& nI 15 = nI j := by
  refine ⟨v.toBitVec.toNat % 16, by omega, ?_⟩
  apply Int32.toBitVec_inj.mp
  apply BitVec.eq_of_toNat_eq
  have e : ∀ x, x < 16 → (nI x).toBitVec.toNat = x := by decide +kernel
  rw [e _ (by omega)]
  show (v.toBitVec &&& (nI 15).toBitVec).toNat = _
  rw [BitVec.toNat_and, e 15 (by decide), show (15 : Nat) = 2 ^ 4 - 1 from rfl, Nat.and_two_pow_sub_one_eq_mod]
/-- the script's element by its value -/
theorem xl_ld {G : xG} {K : xK} {cc : ByteArray} {own : String} {rm0 : Room} {mL k kS pc pc' n : Nat} {L : List (Nat × Value)} {st : List Value} {h : xH} {b N i : Nat} {xs : Nat → Int32} {v : Int32} (hF : XF G K cc own rm0 mL) (hX : XS G b N xs) (hv : xs i = v) (hi : i < N) (hN : N < 2 ^ 31) (hd : decode cc pc = .ok (.iaload, 1)) (hp : pc + 1 = pc') (kk : XV G k kS pc' L (.int v :: st) n h) : XV G k kS pc L (.int (nI i) :: .ref b :: st) n h := by
  subst hv
  exact xl_sld hF hX hi hN hd hp kk
theorem xl_cmp (x : Int64) : lg_cmp x x = 0 := by
  unfold lg_cmp
  simp
