/-! a whole text -/
def rp_K (q : rs_T) : Prop := q.2.2.2.2.1 ≤ 9 ∧ q.2.2.2.2.2.1 ≤ 9 ∧ (4 ≤ q.1 → q.2.2.1 = true) ∧ ∃ tl trs, rp_J q tl trs
theorem rp_er_le (q : rs_T) : (rp_er q).2.2.2.2.1 = q.2.2.2.2.1 ∧ (rp_er q).2.2.2.2.2.1 = q.2.2.2.2.2.1 ∧ (rp_er q).1 = q.1 ∧ (rp_er q).2.1 = q.2.1 := by
  obtain ⟨st, op, ir, rs, le, mo, en, os⟩ := q
  cases ir <;> exact ⟨rfl, rfl, rfl, rfl⟩
theorem rp_K.st {c k : Nat} {q q' : rs_T} (p : rp_K q) (hk : k = 2 ∨ k = 3) (h : rp_st c k q = some q') : rp_K q' ∧ q'.1 = 0 := by
  obtain ⟨p1, p2, p3, tl, trs, p4⟩ := p
  obtain ⟨tl', j1, -, -⟩ := p4.er
  obtain ⟨l1, l2, l3, l4⟩ := rp_er_le q
  unfold rp_st at h
  split at h
  · cases h
    exact ⟨⟨by rw [← l1] at p1; exact p1, by rw [← l2] at p2; exact p2, fun h => rfl, tl', 1, (j1.step (rp_er_ir q) (by omega) (by omega) (by decide) (fun h => by omega)).go⟩, rfl⟩
  · split at h
    · rename_i hc
      cases h
      have hp : 2 ^ (c - 97) ≤ 2 ^ 8 := Nat.pow_le_pow_right (by decide) (by omega)
      exact ⟨⟨by rw [← l1] at p1; exact p1, by rw [← l2] at p2; exact p2, fun h => rfl, tl', 1, (j1.step (rp_er_ir q) (by omega) (by omega) (by omega) (fun h => by omega)).go⟩, rfl⟩
    · cases h
theorem rp_K.tg {c k : Nat} {q q' : rs_T} (p : rp_K q) (hk : k = 4 ∨ k = 5) (h : rp_tg c k q = some q') : rp_K q' ∧ q'.1 = 4 := by
  obtain ⟨p1, p2, p3, tl, trs, p4⟩ := p
  obtain ⟨tl', j1, -, -⟩ := p4.er
  obtain ⟨l1, l2, l3, l4⟩ := rp_er_le q
  unfold rp_tg at h
  split at h
  · rename_i hc
    cases h
    exact ⟨⟨by rw [← l1] at p1; exact p1, by rw [← l2] at p2; exact p2, fun h => rfl, tl', 1, (j1.step (rp_er_ir q) (by omega) (by omega) (by omega) (fun h => by omega)).go⟩, rfl⟩
  · cases h
theorem rp_K.be {c : Nat} {q q' : rs_T} (p : rp_K q) (hs : 4 ≤ q.1) (h : rp_be c q = some q') : rp_K q' ∧ q'.1 = 0 := by
  obtain ⟨st, op, ir, rs, le, mo, en, os⟩ := q
  obtain ⟨p1, p2, p3, tl, trs, p4⟩ := p
  dsimp only at p1 p2 p3 hs
  have hir := p3 hs
  subst hir
  simp only [rp_be] at h
  split at h
  · rename_i hc
    cases h
    exact ⟨⟨p1, p2, fun h => rfl, tl, trs * mo, p4.times p1 p2 hc.2⟩, rfl⟩
  · cases h
theorem rp_K.row {c : Nat} {q q' : rs_T} (p : rp_K q) (hs : q.1 = 0) (h : rp_row c q = some q') : rp_K q' := by
  have p' := p
  obtain ⟨p1, p2, p3, tl, trs, p4⟩ := p
  obtain ⟨tl', j1, -, -⟩ := p4.er
  obtain ⟨l1, l2, l3, l4⟩ := rp_er_le q
  have j0 := rp_er_ir q
  unfold rp_row at h
  split at h
  · split at h
    · cases h
    · cases h
      have := p4.1
      exact ⟨by rw [← l1] at p1; exact p1, by rw [← l2] at p2; exact p2, fun h => by have h : 4 ≤ (rp_er q).1 := h; omega, _, trs, j1.opn j0 (by omega)⟩
  · split at h
    · split at h
      · cases h
      · cases h
        refine ⟨by rw [← l1] at p1; exact p1, by rw [← l2] at p2; exact p2, fun h => rfl, tl', tl' q.2.1, ?_⟩
        have := j1.shut j0 (by omega)
        rw [l4] at this
        exact this
    · split at h
      · split at h
        · cases h; exact ⟨p1, p2, p3, tl, trs, p4.sign (by omega)⟩
        · cases h
      · split at h
        · split at h
          · cases h; exact ⟨p1, p2, p3, tl, trs, p4.sign (by omega)⟩
          · cases h
        · split at h
          · split at h
            · cases h; exact ⟨p1, p2, p3, tl, trs, p4.sign (by omega)⟩
            · cases h
          · split at h
            · cases h; exact ⟨p1, p2, fun h => by have h : 4 ≤ 2 := h; omega, tl, trs, p4⟩
            · split at h
              · cases h; exact ⟨p1, p2, fun h => by have h : 4 ≤ 1 := h; omega, tl, trs, p4⟩
              · split at h
                · split at h
                  · rename_i hir
                    cases h; exact ⟨p1, p2, fun _ => hir, tl, trs, p4⟩
                  · cases h
                · split at h
                  · cases h
                    exact ⟨by rw [← l1] at p1; exact p1, by rw [← l2] at p2; exact p2, fun h => by have h : 4 ≤ (rp_er q).1 := h; omega, tl', trs, j1.bar j0⟩
                  · exact (p'.st (Or.inl rfl) h).1
theorem rp_K.ins {c : Nat} {q q' : rs_T} (p : rp_K q) (hs : q.1 ≠ 0) (h : rp_ins c q = some q') : rp_K q' := by
  have p' := p
  obtain ⟨p1, p2, p3, tl, trs, p4⟩ := p
  unfold rp_ins at h
  split at h
  · exact (p'.st (Or.inr rfl) h).1
  · split at h
    · cases h; exact ⟨p1, p2, fun h => by have h : 4 ≤ 3 := h; omega, tl, trs, p4⟩
    · exact (p'.tg (Or.inl rfl) h).1
  · exact (p'.tg (Or.inr rfl) h).1
  · split at h
    · cases h; exact ⟨p1, p2, fun h => by have h : 4 ≤ 0 := h; omega, tl, trs, p4⟩
    · cases h
  · rename_i e
    split at h
    · cases h; exact ⟨by show c - 48 ≤ 9; omega, by show c - 48 ≤ 9; omega, fun _ => p3 (by omega), tl, trs, p4⟩
    · cases h
  · rename_i e
    split at h
    · cases h; exact ⟨p1, p2, fun _ => p3 (by omega), tl, trs, p4⟩
    · exact (p'.be (by omega) h).1
  · rename_i e
    split at h
    · cases h; exact ⟨p1, by show c - 48 ≤ 9; omega, fun _ => p3 (by omega), tl, trs, p4⟩
    · cases h
  · rename_i e1 e2 e3 e4 e5 e6 e7
    have n1 : q.1 ≠ 1 := e1
    have n2 : q.1 ≠ 2 := e2
    have n3 : q.1 ≠ 3 := e3
    exact (p'.be (by omega) h).1
theorem rp_K.stp {c : Nat} {q q' : rs_T} (p : rp_K q) (h : rp_step c q = some q') : rp_K q' := by
  unfold rp_step at h
  split at h
  · exact p.row (by assumption) h
  · exact p.ins (by assumption) h
theorem rp_K.run {cs : Nat → Nat} {q0 : rs_T} (p : rp_K q0) : ∀ {k : Nat} {q : rs_T}, rp_run cs q0 k = some q → rp_K q
  | 0, q, h => by cases h; exact p
  | k + 1, q, h => by
    simp only [rp_run] at h
    rcases e : rp_run cs q0 k with _ | q1
    · rw [e] at h; cases h
    · rw [e] at h
      exact (rp_K.run p e).stp h
theorem rp_K_0 {rs le mo : Nat} {en : Nat → Nat} (hle : le ≤ 9) (hmo : mo ≤ 9) : rp_K (rp_0 rs le mo en) := by
  have eH : oH [0, 1] = 2 := rfl
  have eN : ∀ i, oN [0, 1] i = 0 := fun i => by
    show va_up (va_up (fun _ => 0) 0 0) 1 0 i = 0
    unfold va_up
    split
    · rfl
    · split <;> rfl
  refine ⟨hle, hmo, fun h => by have h : 4 ≤ 0 := h; omega, fun _ => 0, 0, by show 0 ≤ 10; omega, rfl, ?_, fun h => (by cases h), ?_, fun h => (by cases h), ?_⟩
  · intro i _
    show oN [0, 1] _ + oN [0, 1] _ = _
    rw [eN, eN]; rfl
  · intro i hi
    have hi : i ≤ 0 := hi
    have : i = 0 := by omega
    subst this
    rfl
  · show oP ([] ++ [0 + 16 * 0] ++ [1 + 16 * 0]) _
    have n0 : oP [] 0 := ⟨fun k hk => absurd hk (Nat.not_lt_zero _), fun k hk i hi => by
      have : k = 0 := Nat.le_zero.mp hk
      subst this
      exact absurd hi (Nat.not_lt_zero _)⟩
    refine oP_ap (t := 0) (oP_ap (t := 0) n0 (by decide) ⟨by decide, by decide, fun h => by omega, fun _ => by decide, fun h => by omega, fun h => by omega⟩ (Nat.le_refl _) fun i hi => ?_) (by decide) ⟨by decide, by decide, fun h => by omega, fun _ => by decide, fun h => by omega, fun h => by omega⟩ (Nat.zero_le _) fun i hi => ?_
    · show va_up (fun _ => 0) 0 0 i ≤ _
      unfold va_up; split <;> exact Nat.zero_le _
    · show va_up (va_up (fun _ => 0) 0 0) 1 0 i ≤ _
      have := eN i
      have e2 : oN [0, 1] i = va_up (va_up (fun _ => 0) 0 0) 1 0 i := rfl
      omega
/-- the end: the orders can be carried out, if the steps are not too many -/
theorem rp_K.fin {q : rs_T} (p : rp_K q) (ho : q.2.1 = 0) (he : (rp_ew q).2.2.2.2.2.2.1 0 ≤ 80) : bx_gd (rp_ew q).2.2.2.2.2.2.2 := by
  obtain ⟨p1, p2, p3, tl, trs, p4⟩ := p
  obtain ⟨tl', j1, -, -⟩ := p4.er
  obtain ⟨l1, l2, l3, l4⟩ := rp_er_le q
  have j0 := rp_er_ir q
  rw [ho] at l4
  unfold rp_ew at he ⊢
  generalize rp_er q = q1 at j1 j0 l4 he ⊢
  obtain ⟨st, op, ir, rs, le, mo, en, os⟩ := q1
  dsimp only at j0 l4
  subst j0 l4
  obtain ⟨i1, i2, i3⟩ := j1.join
  have he : en 0 ≤ 80 := he
  have e5 := j1.2.2.2.2.1 0 (Nat.le_refl _)
  have e5 : en 0 = min (tl' 0) 81 := e5
  have e6 : sm tl' (0 + 1) = 0 + tl' 0 := rfl
  rw [e6] at i3
  exact ⟨i3.1, fun k hk i hi => Nat.le_trans (i3.2 k hk i hi) (by omega), i1⟩
theorem bx_gd_1 : bx_gd [1] := by
  refine ⟨fun k hk => ?_, fun k hk i hi => ?_, rfl⟩
  · have : k = 0 := by have : k < 1 := hk; omega
    subst this
    exact ⟨by decide, by decide, fun h => by revert h; decide, fun _ => by decide, fun h => by revert h; decide, fun h => by revert h; decide⟩
  · have : k = 0 ∨ k = 1 := by have : k ≤ 1 := hk; omega
    rcases this with rfl | rfl
    · exact absurd hi (Nat.not_lt_zero _)
    · show va_up (fun _ => 0) 0 0 i ≤ _
      unfold va_up; split <;> exact Nat.zero_le _
