/-- a step is laid down -/
theorem ti_R.step {E : Nat → Nat → Nat → Bool} {Tg : Nat → Nat → Bool} {mk : Bool} {S S' : Nat → Nat → Nat → Nat} {so : Nat → Nat} {ba : Nat → Bool} {op a a' st' k m : Nat} {q : rs_T} {B : pd_L} (p : ti_R E Tg mk S so ba op a q) (hir : q.2.2.1 = false) (hk : 2 ≤ k) (hk2 : k < 6) (hS : ∀ t, t < 36 → t ≠ 3 * op + 2 → S' t = S t) (hA : bx_A E Tg k m (2 * op + 2) (oA E Tg q.2.2.2.2.2.2.2) = va_up (oA E Tg q.2.2.2.2.2.2.2) (2 * op + 2) B) (hB : mk = true → pd_mn B (S' (3 * op + 2))) (ha : a < a') : ti_R E Tg mk S' (va_up so (3 * op + 2) 1) ba op a' (rp_go st' (rp_sr 1 (rp_ap (k + 16 * m) q))) := by
  obtain ⟨st, op', ir, rs, le, mo, en, os⟩ := q
  obtain ⟨p1, p2, p3, p4, p5, p6, p7, p8⟩ := p
  dsimp only at hir p1 p2 p3 p4 p5 p6 p7 p8 hA
  subst hir p1
  simp only [Bool.false_eq_true, if_false] at p3 p6
  have eH : oH (os ++ [k + 16 * m]) = oH os + 1 := by
    rw [oH_ap os k m (by omega)]; unfold bx_h; rw [if_pos (by omega)]
  have eA : oA E Tg (os ++ [k + 16 * m]) = va_up (oA E Tg os) (2 * op' + 2) B := by
    rw [oA_ap E Tg os k m (by omega), show oH os = 2 * op' + 2 by omega]; exact hA
  refine ⟨rfl, p2, ?_, fun i hi => ?_, fun _ => ?_, ?_, fun hm i hi => ?_, fun hm _ => ?_⟩
  · show oH (os ++ [k + 16 * m]) = 2 * (op' + 1) + 1
    omega
  · show en i = _
    rw [va_n (by omega), va_n (by omega)]
    exact p4 i hi
  · show 1 = _
    rw [va_s]; rfl
  · show sm _ (op' + 1) + va_up so (3 * op' + 2) 1 (3 * op' + 2) ≤ _
    rw [va_s, sm_congr (f := fun i => va_up so (3 * op' + 2) 1 (3 * i) + va_up so (3 * op' + 2) 1 (3 * i + 1)) (g := fun i => so (3 * i) + so (3 * i + 1)) (fun i hi => by rw [va_n (by omega), va_n (by omega)])]
    omega
  · show pd_mn (oA E Tg (os ++ [k + 16 * m]) (2 * i + 1)) _ ∧ (_ → pd_mn (oA E Tg (os ++ [k + 16 * m]) (2 * i)) _) ∧ (_ → oA E Tg (os ++ [k + 16 * m]) (2 * i) = pd_no)
    rw [eA, va_n (by omega), va_n (by omega), hS _ (by omega) (by omega), hS _ (by omega) (by omega)]
    exact p7 hm i hi
  · show pd_mn (oA E Tg (os ++ [k + 16 * m]) (2 * op' + 2)) _
    rw [eA, va_s]
    exact hB hm
/-- a group begins -/
theorem ti_R.opn {E : Nat → Nat → Nat → Bool} {Tg : Nat → Nat → Bool} {mk : Bool} {S : Nat → Nat → Nat → Nat} {so : Nat → Nat} {ba : Nat → Bool} {op a : Nat} {q : rs_T} (p : ti_R E Tg mk S so ba op a q) (hir : q.2.2.1 = false) (hop : op < 10) : ti_R E Tg mk (mo_pl mk S (3 * (op + 1) + 1) md_1) (va_up (va_up so (3 * (op + 1)) 0) (3 * (op + 1) + 1) 0) (va_up ba (op + 1) false) (op + 1) (a + 1) (rp_sa (rp_up q)) := by
  obtain ⟨st, op', ir, rs, le, mo, en, os⟩ := q
  obtain ⟨p1, p2, p3, p4, p5, p6, p7, p8⟩ := p
  dsimp only at hir p1 p2 p3 p4 p5 p6 p7 p8
  subst hir p1
  simp only [Bool.false_eq_true, if_false] at p3 p6
  have eH1 : oH (os ++ [0]) = oH os + 1 := oH_ap os 0 0 (by omega)
  have eA1 : oA E Tg (os ++ [0]) = va_up (oA E Tg os) (oH os) pd_no := oA_ap E Tg os 0 0 (by omega)
  have eH2 : oH (os ++ [0] ++ [1]) = oH (os ++ [0]) + 1 := oH_ap (os ++ [0]) 1 0 (by omega)
  have eA2 : oA E Tg (os ++ [0] ++ [1]) = va_up (oA E Tg (os ++ [0])) (oH (os ++ [0])) pd_id := oA_ap E Tg (os ++ [0]) 1 0 (by omega)
  rw [eH1] at eH2 eA2
  rw [eA1, show oH os = 2 * op' + 2 by omega] at eA2
  refine ⟨rfl, by omega, ?_, fun i hi => ?_, fun h => (by cases h), ?_, fun hm i hi => ?_, fun _ h => (by cases h)⟩
  · show oH (os ++ [0] ++ [1]) = 2 * (op' + 1 + 1) + 0
    omega
  · show va_up en (op' + 1) 0 i = _
    by_cases c : i = op' + 1
    · subst c; rw [va_s, va_n (by omega), va_s, va_s]; rfl
    · rw [va_n c, va_n (by omega), va_n (by omega), va_n (by omega), va_n (by omega)]
      exact p4 i (by omega)
  · show sm _ (op' + 1) + (va_up (va_up so (3 * (op' + 1)) 0) (3 * (op' + 1) + 1) 0 (3 * (op' + 1)) + va_up (va_up so (3 * (op' + 1)) 0) (3 * (op' + 1) + 1) 0 (3 * (op' + 1) + 1)) + 0 ≤ _
    rw [va_s, va_n (show 3 * (op' + 1) ≠ 3 * (op' + 1) + 1 by omega), va_s, sm_congr (f := fun i => va_up (va_up so (3 * (op' + 1)) 0) (3 * (op' + 1) + 1) 0 (3 * i) + va_up (va_up so (3 * (op' + 1)) 0) (3 * (op' + 1) + 1) 0 (3 * i + 1)) (g := fun i => so (3 * i) + so (3 * i + 1)) (fun i hi => by rw [va_n (by omega), va_n (by omega), va_n (by omega), va_n (by omega)])]
    omega
  · show pd_mn (oA E Tg (os ++ [0] ++ [1]) (2 * i + 1)) _ ∧ (_ → pd_mn (oA E Tg (os ++ [0] ++ [1]) (2 * i)) _) ∧ (_ → oA E Tg (os ++ [0] ++ [1]) (2 * i) = pd_no)
    subst hm
    unfold mo_pl
    simp only [if_true]
    rw [eA2]
    by_cases c : i = op' + 1
    · subst c
      rw [show 2 * (op' + 1) + 1 = 2 * op' + 2 + 1 by omega, va_s, va_s, va_n (show 2 * (op' + 1) ≠ 2 * op' + 2 + 1 by omega), show 2 * (op' + 1) = 2 * op' + 2 by omega, va_s, va_s]
      exact ⟨mn_1, fun h => (by cases h), fun _ => rfl⟩
    · have z := p7 rfl i (by omega)
      rw [va_n (show 2 * i + 1 ≠ 2 * op' + 2 + 1 by omega), va_n (show 2 * i + 1 ≠ 2 * op' + 2 by omega), va_n (show 3 * i + 1 ≠ 3 * (op' + 1) + 1 by omega), va_n (show 2 * i ≠ 2 * op' + 2 + 1 by omega), va_n (show 2 * i ≠ 2 * op' + 2 by omega), va_n (show 3 * i ≠ 3 * (op' + 1) + 1 by omega), va_n c]
      exact z
/-- the row is joined to the alternatives: what holds with one more order -/
theorem ti_bar {E : Nat → Nat → Nat → Bool} {Tg : Nat → Nat → Bool} {mk : Bool} {S : Nat → Nat → Nat → Nat} {so : Nat → Nat} {ba : Nat → Bool} {op a st rs le mo : Nat} {en : Nat → Nat} {os : List Nat} (p : ti_R E Tg mk S so ba op a (st, op, false, rs, le, mo, en, os)) : oH (os ++ [7]) = 2 * op + 1 ∧ oA E Tg (os ++ [7]) = va_up (oA E Tg os) (2 * op) (pd_or (oA E Tg os (2 * op)) (oA E Tg os (2 * op + 1))) ∧ (mk = true → pd_mn (pd_or (oA E Tg os (2 * op)) (oA E Tg os (2 * op + 1))) (if ba op then (fun i j => min (S (3 * op) i j) (S (3 * op + 1) i j)) else S (3 * op + 1))) := by
  obtain ⟨p1, p2, p3, p4, p5, p6, p7, p8⟩ := p
  dsimp only at p1 p2 p3 p4 p5 p6 p7 p8
  simp only [Bool.false_eq_true, if_false] at p3 p6
  have eH : oH (os ++ [7]) = oH os - 1 := oH_ap os 7 0 (by omega)
  have eA : oA E Tg (os ++ [7]) = va_up (oA E Tg os) (oH os - 2) (pd_or (oA E Tg os (oH os - 2)) (oA E Tg os (oH os - 1))) := oA_ap E Tg os 7 0 (by omega)
  rw [show oH os - 2 = 2 * op by omega, show oH os - 1 = 2 * op + 1 by omega] at eA
  refine ⟨by omega, eA, fun hm => ?_⟩
  obtain ⟨t1, t2, t3⟩ := p7 hm op (Nat.le_refl _)
  cases c : ba op with
  | true => exact pd_mn_or (t2 c) t1 (fun i j _ _ => rfl)
  | false =>
    rw [t3 c, pd_no_or]
    exact t1
theorem ti_R.bar {E : Nat → Nat → Nat → Bool} {Tg : Nat → Nat → Bool} {mk : Bool} {S : Nat → Nat → Nat → Nat} {so : Nat → Nat} {ba : Nat → Bool} {op a : Nat} {q : rs_T} (p : ti_R E Tg mk S so ba op a q) (hir : q.2.2.1 = false) : ti_R E Tg mk (mo_pl mk (mo_pl mk S (3 * op) (if ba op then (fun i j => min (S (3 * op) i j) (S (3 * op + 1) i j)) else S (3 * op + 1))) (3 * op + 1) md_1) (va_up (va_up so (3 * op) (so (3 * op) + so (3 * op + 1))) (3 * op + 1) 0) (va_up ba op true) op (a + 1) (rp_ap 1 (rp_ap 7 q)) := by
  obtain ⟨st, op', ir, rs, le, mo, en, os⟩ := q
  dsimp only at hir
  subst hir
  have e0 : op' = op := p.1
  subst e0
  obtain ⟨j1, j2, j3⟩ := ti_bar p
  obtain ⟨p1, p2, p3, p4, p5, p6, p7, p8⟩ := p
  dsimp only at p1 p2 p3 p4 p5 p6 p7 p8
  simp only [Bool.false_eq_true, if_false] at p3 p6
  have eH2 : oH (os ++ [7] ++ [1]) = oH (os ++ [7]) + 1 := oH_ap (os ++ [7]) 1 0 (by omega)
  have eA2 : oA E Tg (os ++ [7] ++ [1]) = va_up (oA E Tg (os ++ [7])) (oH (os ++ [7])) pd_id := oA_ap E Tg (os ++ [7]) 1 0 (by omega)
  rw [j1] at eH2 eA2
  rw [j2] at eA2
  refine ⟨rfl, p2, ?_, fun i hi => ?_, fun h => (by cases h), ?_, fun hm i hi => ?_, fun _ h => (by cases h)⟩
  · show oH (os ++ [7] ++ [1]) = 2 * (op' + 1) + 0
    omega
  · show en i = _
    by_cases c : i = op'
    · subst c; rw [va_n (by omega), va_s, va_s, p4 i (Nat.le_refl _)]; rfl
    · rw [va_n (by omega), va_n (by omega), va_n (by omega), va_n (by omega)]
      exact p4 i (by omega)
  · show sm _ op' + (va_up (va_up so (3 * op') (so (3 * op') + so (3 * op' + 1))) (3 * op' + 1) 0 (3 * op') + va_up (va_up so (3 * op') (so (3 * op') + so (3 * op' + 1))) (3 * op' + 1) 0 (3 * op' + 1)) + 0 ≤ _
    simp only [sm] at p6
    rw [va_s, va_n (show 3 * op' ≠ 3 * op' + 1 by omega), va_s, sm_congr (f := fun i => va_up (va_up so (3 * op') (so (3 * op') + so (3 * op' + 1))) (3 * op' + 1) 0 (3 * i) + va_up (va_up so (3 * op') (so (3 * op') + so (3 * op' + 1))) (3 * op' + 1) 0 (3 * i + 1)) (g := fun i => so (3 * i) + so (3 * i + 1)) (fun i hi => by rw [va_n (by omega), va_n (by omega), va_n (by omega), va_n (by omega)])]
    omega
  · show pd_mn (oA E Tg (os ++ [7] ++ [1]) (2 * i + 1)) _ ∧ (_ → pd_mn (oA E Tg (os ++ [7] ++ [1]) (2 * i)) _) ∧ (_ → oA E Tg (os ++ [7] ++ [1]) (2 * i) = pd_no)

    subst hm
    unfold mo_pl
    simp only [if_true]
    rw [eA2]
    by_cases c : i = op'
    · subst c
      rw [va_s, va_s, va_n (show 2 * i ≠ 2 * i + 1 by omega), va_s, va_n (show 3 * i ≠ 3 * i + 1 by omega), va_s, va_s]
      exact ⟨mn_1, fun _ => j3 rfl, fun h => (by cases h)⟩
    · have z := p7 rfl i (by omega)
      rw [va_n (show 2 * i + 1 ≠ 2 * op' + 1 by omega), va_n (show 2 * i + 1 ≠ 2 * op' by omega), va_n (show 3 * i + 1 ≠ 3 * op' + 1 by omega), va_n (show 3 * i + 1 ≠ 3 * op' by omega), va_n (show 2 * i ≠ 2 * op' + 1 by omega), va_n (show 2 * i ≠ 2 * op' by omega), va_n (show 3 * i ≠ 3 * op' + 1 by omega), va_n (show 3 * i ≠ 3 * op' by omega), va_n c]
      exact z
/-- a group ends: its alternatives are the repeat at hand -/
theorem ti_R.shut {E : Nat → Nat → Nat → Bool} {Tg : Nat → Nat → Bool} {mk : Bool} {S : Nat → Nat → Nat → Nat} {so : Nat → Nat} {ba : Nat → Bool} {op a : Nat} {q : rs_T} (p : ti_R E Tg mk S so ba op a q) (hir : q.2.2.1 = false) (hop : 0 < op) : ti_R E Tg mk (mo_pl mk (mo_pl mk S (3 * op) (if ba op then (fun i j => min (S (3 * op) i j) (S (3 * op + 1) i j)) else S (3 * op + 1))) (3 * op - 1) (mo_pl mk S (3 * op) (if ba op then (fun i j => min (S (3 * op) i j) (S (3 * op + 1) i j)) else S (3 * op + 1)) (3 * op))) (va_up (va_up so (3 * op) (so (3 * op) + so (3 * op + 1))) (3 * op - 1) (so (3 * op) + so (3 * op + 1))) (va_up ba op true) (op - 1) (a + 1) (rp_dn (rp_sr (q.2.2.2.2.2.2.1 q.2.1) (rp_ap 7 q))) := by
  obtain ⟨st, op', ir, rs, le, mo, en, os⟩ := q
  dsimp only at hir
  subst hir
  have e0 : op' = op := p.1
  subst e0
  obtain ⟨j1, j2, j3⟩ := ti_bar p
  obtain ⟨p1, p2, p3, p4, p5, p6, p7, p8⟩ := p
  dsimp only at p1 p2 p3 p4 p5 p6 p7 p8
  simp only [Bool.false_eq_true, if_false] at p3 p6
  obtain ⟨o1, rfl⟩ : ∃ o1, op' = o1 + 1 := ⟨op' - 1, by omega⟩
  refine ⟨rfl, by omega, ?_, fun i hi => ?_, fun _ => ?_, ?_, fun hm i hi => ?_, fun hm _ => ?_⟩
  · show oH (os ++ [7]) = 2 * (o1 + 1 - 1 + 1) + 1
    omega
  · show en i = _
    rw [va_n (by omega), va_n (by omega), va_n (by omega), va_n (by omega)]
    exact p4 i (by omega)
  · show en (o1 + 1) = _
    rw [show 3 * (o1 + 1 - 1) + 2 = 3 * (o1 + 1) - 1 by omega, va_s]
    exact p4 _ (Nat.le_refl _)
  · show sm _ (o1 + 1) + va_up (va_up so (3 * (o1 + 1)) (so (3 * (o1 + 1)) + so (3 * (o1 + 1) + 1))) (3 * (o1 + 1) - 1) (so (3 * (o1 + 1)) + so (3 * (o1 + 1) + 1)) (3 * (o1 + 1 - 1) + 2) ≤ _
    have p6 : sm (fun i => so (3 * i) + so (3 * i + 1)) (o1 + 1) + (so (3 * (o1 + 1)) + so (3 * (o1 + 1) + 1)) + 0 ≤ 1000 * a := p6
    rw [show 3 * (o1 + 1 - 1) + 2 = 3 * (o1 + 1) - 1 by omega, va_s, sm_congr (f := fun i => va_up (va_up so (3 * (o1 + 1)) (so (3 * (o1 + 1)) + so (3 * (o1 + 1) + 1))) (3 * (o1 + 1) - 1) (so (3 * (o1 + 1)) + so (3 * (o1 + 1) + 1)) (3 * i) + va_up (va_up so (3 * (o1 + 1)) (so (3 * (o1 + 1)) + so (3 * (o1 + 1) + 1))) (3 * (o1 + 1) - 1) (so (3 * (o1 + 1)) + so (3 * (o1 + 1) + 1)) (3 * i + 1)) (g := fun i => so (3 * i) + so (3 * i + 1)) (fun i hi => by rw [va_n (by omega), va_n (by omega), va_n (by omega), va_n (by omega)])]
    omega
  · show pd_mn (oA E Tg (os ++ [7]) (2 * i + 1)) _ ∧ (_ → pd_mn (oA E Tg (os ++ [7]) (2 * i)) _) ∧ (_ → oA E Tg (os ++ [7]) (2 * i) = pd_no)
    subst hm
    unfold mo_pl
    simp only [if_true]
    have z := p7 rfl i (by omega)
    have hi : i ≤ o1 := by omega
    rw [j2, va_n (show 2 * i + 1 ≠ 2 * (o1 + 1) by omega), va_n (show 2 * i ≠ 2 * (o1 + 1) by omega), va_n (show 3 * i + 1 ≠ 3 * (o1 + 1) - 1 by omega), va_n (show 3 * i + 1 ≠ 3 * (o1 + 1) by omega), va_n (show 3 * i ≠ 3 * (o1 + 1) - 1 by omega), va_n (show 3 * i ≠ 3 * (o1 + 1) by omega), va_n (show i ≠ o1 + 1 by omega)]
    exact z
  · show pd_mn (oA E Tg (os ++ [7]) (2 * (o1 + 1 - 1) + 2)) _

    subst hm
    unfold mo_pl
    simp only [if_true]
    rw [j2, show 2 * (o1 + 1 - 1) + 2 = 2 * (o1 + 1) by omega, va_s, show 3 * (o1 + 1 - 1) + 2 = 3 * (o1 + 1) - 1 by omega, va_s, va_s]
    exact j3 rfl
