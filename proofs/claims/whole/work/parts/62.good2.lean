/-! the reader's steps keep its orders good -/
theorem rp_J.pl {q : rs_T} {tl : Nat → Nat} {trs i : Nat} (p : rp_J q tl trs) (hi : i < oH q.2.2.2.2.2.2.2) : oN q.2.2.2.2.2.2.2 i ≤ 32 * (sm tl (q.2.1 + 1) + if q.2.2.1 then trs else 0) := p.2.2.2.2.2.2.2 _ (Nat.le_refl _) i hi
theorem rp_J.go {q : rs_T} {tl : Nat → Nat} {trs s : Nat} (p : rp_J q tl trs) : rp_J (rp_go s q) tl trs := p
theorem rp_J.lm {q : rs_T} {tl : Nat → Nat} {trs a b : Nat} (p : rp_J q tl trs) : rp_J (rp_lm a b q) tl trs := p
theorem rp_J.step {q : rs_T} {tl : Nat → Nat} {trs k m : Nat} (p : rp_J q tl trs) (hir : q.2.2.1 = false) (hk : 2 ≤ k) (hk6 : k < 6) (hm : m < 100000) (hm4 : (k = 4 ∨ k = 5) → m < 4) : rp_J (rp_sr 1 (rp_ap (k + 16 * m) q)) tl 1 := by
  have pl := fun i => p.pl (i := i)
  obtain ⟨st, op, ir, rs, le, mo, en, os⟩ := q
  dsimp only at hir
  subst hir
  obtain ⟨p1, p2, p3, p4, p5, p6, p7⟩ := p
  dsimp only at p1 p2 p3 p4 p5 p6 p7 pl
  simp only [Bool.false_eq_true, if_false] at p2 p7 pl
  have eH := oH_ap os k m (by omega)
  have eN := oN_ap os k m (by omega)
  have eh : bx_h k (oH os) = oH os + 1 := by unfold bx_h; rw [if_pos hk6]
  have en' : bx_N k m (oH os) (oN os) = va_up (oN os) (oH os) 32 := by
    have : k = 2 ∨ k = 3 ∨ k = 4 ∨ k = 5 := by omega
    rcases this with rfl | rfl | rfl | rfl <;> rfl
  rw [eh] at eH
  rw [en'] at eN
  refine ⟨p1, ?_, ?_, fun _ => ?_, p5, fun _ => rfl, ?_⟩
  · show oH (os ++ [k + 16 * m]) = 2 * (op + 1) + 1
    omega
  · intro i hi
    have hi : i ≤ op := hi
    show oN (os ++ [k + 16 * m]) _ + oN (os ++ [k + 16 * m]) _ = _
    rw [eN, va_n (by omega), va_n (by omega)]
    exact p3 i hi
  · show oN (os ++ [k + 16 * m]) (2 * op + 2) = _
    rw [eN, show 2 * op + 2 = oH os by omega, va_s]
  · show oP (os ++ [k + 16 * m]) (sm tl (op + 1) + 1)
    refine oP_ap p7 (by omega) ⟨by omega, hm, hm4, fun _ => by omega, fun h => by omega, fun h => by omega⟩ (by omega) fun i hi => ?_
    rw [eh] at hi
    rw [en']
    by_cases c : i = oH os
    · subst c; rw [va_s]; omega
    · rw [va_n c]
      have := pl i (by omega)
      omega
theorem rp_J.sign {q : rs_T} {tl : Nat → Nat} {trs k : Nat} (p : rp_J q tl trs) (hk : k = 8 ∨ k = 9 ∨ k = 10) : rp_J (rp_ap k q) tl trs := by
  have pl := fun i => p.pl (i := i)
  obtain ⟨st, op, ir, rs, le, mo, en, os⟩ := q
  obtain ⟨p1, p2, p3, p4, p5, p6, p7⟩ := p
  dsimp only at p1 p2 p3 p4 p5 p6 p7 pl
  have eH := oH_ap os k 0 (by omega)
  have eN := oN_ap os k 0 (by omega)
  have eh : bx_h k (oH os) = oH os := by unfold bx_h; rw [if_neg (by omega), if_neg (by omega)]
  have en' : bx_N k 0 (oH os) (oN os) = oN os := by rcases hk with rfl | rfl | rfl <;> rfl
  rw [eh] at eH
  rw [en'] at eN
  have eH : oH (os ++ [k]) = oH os := eH
  have eN : oN (os ++ [k]) = oN os := eN
  refine ⟨p1, ?_, ?_, ?_, p5, p6, ?_⟩
  · show oH (os ++ [k]) = _
    rw [eH]; exact p2
  · show ∀ i, i ≤ op → oN (os ++ [k]) _ + oN (os ++ [k]) _ = _
    rw [eN]; exact p3
  · show ir = true → oN (os ++ [k]) _ = _
    rw [eN]; exact p4
  · show oP (os ++ [k + 16 * 0]) _
    refine oP_ap p7 (by omega) ⟨by omega, by decide, fun h => by omega, fun h => by omega, fun h => by omega, fun _ => by omega⟩ (Nat.le_refl _) fun i hi => ?_
    rw [eh] at hi
    rw [en']
    exact pl i hi
theorem rp_J.times {st op rs le mo : Nat} {en : Nat → Nat} {os : List Nat} {tl : Nat → Nat} {trs : Nat} (p : rp_J (st, op, true, rs, le, mo, en, os) tl trs) (hle : le ≤ 9) (hmo : mo ≤ 9) (h0 : mo ≠ 0) : rp_J (0, op, true, min (rs * mo) 81, le, mo, en, os ++ [11 + 16 * (le * 10 + mo)]) tl (trs * mo) := by
  have pl := fun i => p.pl (i := i)
  obtain ⟨p1, p2, p3, p4, p5, p6, p7⟩ := p
  dsimp only at p1 p2 p3 p4 p5 p6 p7 pl
  simp only [if_true] at p2 p7 pl
  have p4 := p4 rfl
  have p6 := p6 rfl
  have eH := oH_ap os 11 (le * 10 + mo) (by omega)
  have eN := oN_ap os 11 (le * 10 + mo) (by omega)
  have eh : bx_h 11 (oH os) = oH os := rfl
  have en' : bx_N 11 (le * 10 + mo) (oH os) (oN os) = va_up (oN os) (2 * op + 2) (oN os (2 * op + 2) * mo) := by
    show va_up (oN os) (oH os - 1) (oN os (oH os - 1) * ((le * 10 + mo) % 10)) = _
    rw [show oH os - 1 = 2 * op + 2 by omega, show (le * 10 + mo) % 10 = mo by omega]
  rw [eh] at eH
  rw [en'] at eN
  have hm1 : trs ≤ trs * mo := Nat.le_mul_of_pos_right _ (by omega)
  refine ⟨p1, ?_, ?_, fun _ => ?_, p5, fun _ => ?_, ?_⟩
  · show oH (os ++ [11 + 16 * (le * 10 + mo)]) = 2 * (op + 1) + 1
    omega
  · intro i hi
    have hi : i ≤ op := hi
    show oN (os ++ [11 + 16 * (le * 10 + mo)]) _ + oN (os ++ [11 + 16 * (le * 10 + mo)]) _ = _
    rw [eN, va_n (by omega), va_n (by omega)]
    exact p3 i hi
  · show oN (os ++ [11 + 16 * (le * 10 + mo)]) (2 * op + 2) = _
    rw [eN, va_s, p4, Nat.mul_assoc]
  · show min (rs * mo) 81 = min (trs * mo) 81
    rw [p6]
    by_cases c : trs ≤ 81
    · rw [Nat.min_eq_left c]
    · have e1 : 81 ≤ 81 * mo := Nat.le_mul_of_pos_right _ (by omega)
      rw [Nat.min_eq_right (show 81 ≤ trs by omega), Nat.min_eq_right e1, Nat.min_eq_right (by omega)]
  · show oP (os ++ [11 + 16 * (le * 10 + mo)]) (sm tl (op + 1) + trs * mo)
    refine oP_ap p7 (by omega) ⟨by omega, by omega, fun h => by omega, fun _ => by omega, fun h => by omega, fun _ => by omega⟩ (by omega) fun i hi => ?_
    rw [eh] at hi
    rw [en']
    by_cases c : i = 2 * op + 2
    · subst c; rw [va_s, p4, Nat.mul_assoc]; omega
    · rw [va_n c]
      have := pl i hi
      omega
theorem rp_J.opn {q : rs_T} {tl : Nat → Nat} {trs : Nat} (p : rp_J q tl trs) (hir : q.2.2.1 = false) (ho : q.2.1 < 10) : rp_J (rp_sa (rp_up q)) (va_up tl (q.2.1 + 1) 0) trs := by
  have pl := fun i => p.pl (i := i)
  obtain ⟨st, op, ir, rs, le, mo, en, os⟩ := q
  dsimp only at hir ho ⊢
  subst hir
  obtain ⟨p1, p2, p3, p4, p5, p6, p7⟩ := p
  dsimp only at p1 p2 p3 p4 p5 p6 p7 pl
  simp only [Bool.false_eq_true, if_false] at p2 p7 pl
  have eH1 : oH (os ++ [0]) = oH os + 1 := oH_ap os 0 0 (by omega)
  have eN1 : oN (os ++ [0]) = va_up (oN os) (oH os) 0 := oN_ap os 0 0 (by omega)
  have eH2 : oH (os ++ [0] ++ [1]) = oH (os ++ [0]) + 1 := oH_ap (os ++ [0]) 1 0 (by omega)
  have eN2 : oN (os ++ [0] ++ [1]) = va_up (oN (os ++ [0])) (oH (os ++ [0])) 0 := oN_ap (os ++ [0]) 1 0 (by omega)
  rw [eH1] at eH2 eN2
  rw [eN1] at eN2
  have q1 : oP (os ++ [0 + 16 * 0]) (sm tl (op + 1) + 0) := by
    refine oP_ap p7 (by omega) ⟨by omega, by decide, fun h => by omega, fun _ => by omega, fun h => by omega, fun h => by omega⟩ (Nat.le_refl _) fun i hi => ?_
    have hi : i < oH os + 1 := hi
    show va_up (oN os) (oH os) 0 i ≤ _
    by_cases c : i = oH os
    · subst c; rw [va_s]; omega
    · rw [va_n c]; exact pl i (by omega)
  have q2 : oP (os ++ [0] ++ [1 + 16 * 0]) (sm tl (op + 1) + 0) := by
    refine oP_ap q1 (by omega) ⟨by omega, by decide, fun h => by omega, fun _ => ?_, fun h => by omega, fun h => by omega⟩ (Nat.le_refl _) fun i hi => ?_
    · show oH (os ++ [0]) < 24
      omega
    · have hi : i < oH (os ++ [0]) + 1 := hi
      show va_up (oN (os ++ [0])) (oH (os ++ [0])) 0 i ≤ _
      rw [eN1, eH1]
      by_cases c : i = oH os + 1
      · subst c; rw [va_s]; omega
      · rw [va_n c]
        by_cases c2 : i = oH os
        · subst c2; rw [va_s]; omega
        · rw [va_n c2]; exact pl i (by omega)
  refine ⟨ho, ?_, ?_, fun h => (by cases h), ?_, fun h => (by cases h), ?_⟩
  · show oH (os ++ [0] ++ [1]) = 2 * (op + 1 + 1) + 0
    omega
  · intro i hi
    have hi : i ≤ op + 1 := hi
    show oN (os ++ [0] ++ [1]) _ + oN (os ++ [0] ++ [1]) _ = _
    rw [eN2]
    by_cases c : i = op + 1
    · subst c
      rw [va_n (by omega), show 2 * (op + 1) = oH os by omega, va_s, va_s, va_s]
    · rw [va_n (by omega), va_n (by omega), va_n (by omega), va_n (by omega), va_n c]
      exact p3 i (by omega)
  · intro i hi
    have hi : i ≤ op + 1 := hi
    show va_up en (op + 1) 0 i = min (va_up tl (op + 1) 0 i) 81
    by_cases c : i = op + 1
    · subst c; rw [va_s, va_s]; rfl
    · rw [va_n c, va_n c]; exact p5 i (by omega)
  · show oP (os ++ [0] ++ [1]) (sm (va_up tl (op + 1) 0) (op + 1) + va_up tl (op + 1) 0 (op + 1) + 0)
    rw [sm_up _ _ _ _ (Nat.le_refl _), va_s]
    exact q2
theorem rp_J.join {op rs le mo st : Nat} {en : Nat → Nat} {os : List Nat} {tl : Nat → Nat} {trs : Nat} (p : rp_J (st, op, false, rs, le, mo, en, os) tl trs) : oH (os ++ [7]) = 2 * op + 1 ∧ oN (os ++ [7]) = va_up (oN os) (2 * op) (32 * tl op) ∧ oP (os ++ [7]) (sm tl (op + 1)) := by
  have pl := fun i => p.pl (i := i)
  obtain ⟨p1, p2, p3, p4, p5, p6, p7⟩ := p
  dsimp only at p1 p2 p3 p4 p5 p6 p7 pl
  simp only [Bool.false_eq_true, if_false] at p2 p7 pl
  have eH : oH (os ++ [7]) = oH os - 1 := oH_ap os 7 0 (by omega)
  have eN : oN (os ++ [7]) = va_up (oN os) (oH os - 2) (oN os (oH os - 2) + oN os (oH os - 1)) := oN_ap os 7 0 (by omega)
  have e1 := p3 op (Nat.le_refl _)
  have l1 := sm_le tl (i := op) (k := op + 1) (by omega)
  rw [show oH os - 2 = 2 * op by omega, show oH os - 1 = 2 * op + 1 by omega, e1] at eN
  refine ⟨by omega, eN, ?_⟩
  refine oP_ap (k := 7) (m := 0) p7 (by omega) ⟨by omega, by decide, fun h => by omega, fun h => by omega, fun _ => by omega, fun h => by omega⟩ (by omega) fun i hi => ?_
  have hi : i < oH os - 1 := hi
  show va_up (oN os) (oH os - 2) (oN os (oH os - 2) + oN os (oH os - 1)) i ≤ _
  rw [show oH os - 2 = 2 * op by omega, show oH os - 1 = 2 * op + 1 by omega, e1]
  by_cases c : i = 2 * op
  · subst c; rw [va_s]; omega
  · rw [va_n c]; exact pl i (by omega)
theorem rp_J.bar {q : rs_T} {tl : Nat → Nat} {trs : Nat} (p : rp_J q tl trs) (hir : q.2.2.1 = false) : rp_J (rp_ap 1 (rp_ap 7 q)) tl trs := by
  have pl := fun i => p.pl (i := i)
  obtain ⟨st, op, ir, rs, le, mo, en, os⟩ := q
  dsimp only at hir ⊢
  subst hir
  obtain ⟨j1, j2, j3⟩ := id p.join
  obtain ⟨p1, p2, p3, p4, p5, p6, p7⟩ := p
  dsimp only at p1 p2 p3 p4 p5 p6 p7 pl
  simp only [Bool.false_eq_true, if_false] at p2 p7 pl
  have eH2 : oH (os ++ [7] ++ [1]) = oH (os ++ [7]) + 1 := oH_ap (os ++ [7]) 1 0 (by omega)
  have eN2 : oN (os ++ [7] ++ [1]) = va_up (oN (os ++ [7])) (oH (os ++ [7])) 0 := oN_ap (os ++ [7]) 1 0 (by omega)
  rw [j1] at eH2 eN2
  rw [j2] at eN2
  have l1 := sm_le tl (i := op) (k := op + 1) (by omega)
  refine ⟨p1, ?_, ?_, fun h => (by cases h), p5, fun h => (by cases h), ?_⟩
  · show oH (os ++ [7] ++ [1]) = 2 * (op + 1) + 0
    omega
  · intro i hi
    have hi : i ≤ op := hi
    show oN (os ++ [7] ++ [1]) _ + oN (os ++ [7] ++ [1]) _ = _
    rw [eN2]
    by_cases c : i = op
    · subst c
      rw [va_n (by omega), va_s, va_s]
      rfl
    · rw [va_n (by omega), va_n (by omega), va_n (by omega), va_n (by omega)]
      exact p3 i hi
  · show oP (os ++ [7] ++ [1 + 16 * 0]) (sm tl (op + 1) + 0)
    refine oP_ap j3 (by omega) ⟨by omega, by decide, fun h => by omega, fun _ => by omega, fun h => by omega, fun h => by omega⟩ (Nat.le_refl _) fun i hi => ?_
    have hi : i < oH (os ++ [7]) + 1 := hi
    show va_up (oN (os ++ [7])) (oH (os ++ [7])) 0 i ≤ _
    rw [j1, j2]
    by_cases c : i = 2 * op + 1
    · subst c; rw [va_s]; omega
    · rw [va_n c]
      by_cases c2 : i = 2 * op
      · subst c2; rw [va_s]; omega
      · rw [va_n c2]; have := pl i (by omega); omega
theorem rp_J.shut {q : rs_T} {tl : Nat → Nat} {trs : Nat} (p : rp_J q tl trs) (hir : q.2.2.1 = false) (ho : 0 < q.2.1) : rp_J (rp_dn (rp_sr (q.2.2.2.2.2.2.1 q.2.1) (rp_ap 7 q))) tl (tl q.2.1) := by
  have pl := fun i => p.pl (i := i)
  obtain ⟨st, op, ir, rs, le, mo, en, os⟩ := q
  dsimp only at hir ho ⊢
  subst hir
  obtain ⟨j1, j2, j3⟩ := id p.join
  obtain ⟨p1, p2, p3, p4, p5, p6, p7⟩ := p
  dsimp only at p1 p2 p3 p4 p5 p6 p7 pl
  refine ⟨by show op - 1 ≤ 10; omega, ?_, ?_, fun _ => ?_, fun i hi => ?_, fun _ => ?_, ?_⟩
  · show oH (os ++ [7]) = 2 * (op - 1 + 1) + 1
    omega
  · intro i hi
    have hi : i ≤ op - 1 := hi
    show oN (os ++ [7]) _ + oN (os ++ [7]) _ = _
    rw [j2, va_n (by omega), va_n (by omega)]
    exact p3 i (by omega)
  · show oN (os ++ [7]) (2 * (op - 1) + 2) = _
    rw [j2, show 2 * (op - 1) + 2 = 2 * op by omega, va_s]
  · have hi : i ≤ op - 1 := hi
    exact p5 i (by omega)
  · exact p5 op (Nat.le_refl _)
  · show oP (os ++ [7]) (sm tl (op - 1 + 1) + tl op)
    rw [show op - 1 + 1 = op by omega]
    exact j3
