/-! the reference's squares and steps, and the reader's orders -/
def ti_R (E : Nat → Nat → Nat → Bool) (Tg : Nat → Nat → Bool) (mk : Bool) (S : Nat → Nat → Nat → Nat) (so : Nat → Nat) (ba : Nat → Bool) (op a : Nat) (q : rs_T) : Prop :=
  q.2.1 = op ∧ op ≤ 10 ∧ oH q.2.2.2.2.2.2.2 = 2 * (op + 1) + (if q.2.2.1 then 1 else 0) ∧ (∀ i, i ≤ op → q.2.2.2.2.2.2.1 i = min (so (3 * i) + so (3 * i + 1)) 81) ∧ (q.2.2.1 = true → q.2.2.2.1 = min (so (3 * op + 2)) 81) ∧
  (sm (fun i => so (3 * i) + so (3 * i + 1)) (op + 1) + (if q.2.2.1 then so (3 * op + 2) else 0) ≤ 1000 * a) ∧
  (mk = true → ∀ i, i ≤ op → pd_mn (oA E Tg q.2.2.2.2.2.2.2 (2 * i + 1)) (S (3 * i + 1)) ∧ (ba i = true → pd_mn (oA E Tg q.2.2.2.2.2.2.2 (2 * i)) (S (3 * i))) ∧ (ba i = false → oA E Tg q.2.2.2.2.2.2.2 (2 * i) = pd_no)) ∧
  (mk = true → q.2.2.1 = true → pd_mn (oA E Tg q.2.2.2.2.2.2.2 (2 * op + 2)) (S (3 * op + 2)))
theorem sm_congr {f g : Nat → Nat} : ∀ {k : Nat}, (∀ i, i < k → f i = g i) → sm f k = sm g k
  | 0, _ => rfl
  | k + 1, h => by
    simp only [sm]
    rw [sm_congr (fun i hi => h i (by omega)), h k (by omega)]
/-- the repeat is chained -/
theorem ti_R.er {E : Nat → Nat → Nat → Bool} {Tg : Nat → Nat → Bool} {mk : Bool} {S S' : Nat → Nat → Nat → Nat} {so : Nat → Nat} {ba : Nat → Bool} {op a : Nat} {q : rs_T} (p : ti_R E Tg mk S so ba op a q) (hir : q.2.2.1 = true) (hS : ∀ t, t < 36 → t ≠ 3 * op + 1 → S' t = S t) (hX : mk = true → S' (3 * op + 1) = fun x y => md_ch (S (3 * op + 1)) (S (3 * op + 2)) x 32 y) : ti_R E Tg mk S' (va_up so (3 * op + 1) (so (3 * op + 1) + so (3 * op + 2))) ba op a (rp_er q) := by
  obtain ⟨st, op', ir, rs, le, mo, en, os⟩ := q
  obtain ⟨p1, p2, p3, p4, p5, p6, p7, p8⟩ := p
  dsimp only at hir p1 p2 p3 p4 p5 p6 p7 p8
  subst hir p1
  have p5 := p5 rfl
  simp only [if_true] at p3 p6
  have eH : oH (os ++ [6]) = oH os - 1 := oH_ap os 6 0 (by decide)
  have eA : oA E Tg (os ++ [6]) = va_up (oA E Tg os) (oH os - 2) (pd_seq (oA E Tg os (oH os - 2)) (oA E Tg os (oH os - 1))) := oA_ap E Tg os 6 0 (by decide)
  rw [show oH os - 2 = 2 * op' + 1 by omega, show oH os - 1 = 2 * op' + 2 by omega] at eA
  refine ⟨rfl, p2, ?_, fun i hi => ?_, fun h => (by cases h), ?_, fun hm i hi => ?_, fun _ h => (by cases h)⟩
  · show oH (os ++ [6]) = 2 * (op' + 1) + 0
    omega
  · show va_up en op' (min (en op' + rs) 81) i = _
    by_cases c : i = op'
    · subst c
      rw [va_s, va_n (by omega), va_s, p4 i (Nat.le_refl _), p5]
      omega
    · rw [va_n c, va_n (by omega), va_n (by omega), p4 i hi]
  · show sm _ (op' + 1) + 0 ≤ _
    simp only [sm] at p6 ⊢
    rw [va_n (show 3 * op' ≠ 3 * op' + 1 by omega), va_s]
    rw [sm_congr (f := fun i => va_up so (3 * op' + 1) (so (3 * op' + 1) + so (3 * op' + 2)) (3 * i) + va_up so (3 * op' + 1) (so (3 * op' + 1) + so (3 * op' + 2)) (3 * i + 1)) (g := fun i => so (3 * i) + so (3 * i + 1)) (k := op') (fun i hi => by rw [va_n (by omega), va_n (by omega)])]
    omega
  · have hm' := hm
    have := p7 hm i hi
    have p8 := p8 hm rfl
    have hX := hX hm'
    show pd_mn (oA E Tg (os ++ [6]) (2 * i + 1)) _ ∧ (_ → pd_mn (oA E Tg (os ++ [6]) (2 * i)) _) ∧ (_ → oA E Tg (os ++ [6]) (2 * i) = pd_no)
    rw [eA]
    by_cases c : i = op'
    · subst c
      rw [va_s, va_n (by omega), hS (3 * i) (by omega) (by omega), hX]
      exact ⟨mn_ch this.1 p8 (oA_nd _ _ _ _), this.2⟩
    · rw [va_n (by omega), va_n (by omega), hS (3 * i) (by omega) (by omega), hS (3 * i + 1) (by omega) (by omega)]
      exact this
/-- the repeat at hand changes -/
theorem ti_R.chg {E : Nat → Nat → Nat → Bool} {Tg : Nat → Nat → Bool} {mk : Bool} {S S' : Nat → Nat → Nat → Nat} {so : Nat → Nat} {ba : Nat → Bool} {op a a' st st' rs rs' le le' mo mo' k m z : Nat} {en : Nat → Nat} {os : List Nat} {B : pd_L} (p : ti_R E Tg mk S so ba op a (st, op, true, rs, le, mo, en, os)) (hk : 8 ≤ k) (hk2 : k < 12) (hS : ∀ t, t < 36 → t ≠ 3 * op + 2 → S' t = S t) (hA : oA E Tg (os ++ [k + 16 * m]) = va_up (oA E Tg os) (2 * op + 2) B) (hB : mk = true → pd_mn B (S' (3 * op + 2))) (hz : rs' = min z 81) (hz2 : z ≤ so (3 * op + 2) + 1000 * (a' - a)) (ha : a ≤ a') : ti_R E Tg mk S' (va_up so (3 * op + 2) z) ba op a' (st', op, true, rs', le', mo', en, os ++ [k + 16 * m]) := by
  obtain ⟨p1, p2, p3, p4, p5, p6, p7, p8⟩ := p
  dsimp only at p1 p2 p3 p4 p5 p6 p7 p8
  simp only [if_true] at p3 p6
  have eH : oH (os ++ [k + 16 * m]) = oH os := by
    rw [oH_ap os k m (by omega)]; unfold bx_h; rw [if_neg (by omega), if_neg (by omega)]
  refine ⟨rfl, p2, ?_, fun i hi => ?_, fun _ => ?_, ?_, fun hm i hi => ?_, fun hm _ => ?_⟩
  · show oH (os ++ [k + 16 * m]) = 2 * (op + 1) + 1
    omega
  · show en i = _
    rw [va_n (by omega), va_n (by omega)]
    exact p4 i hi
  · show rs' = _
    rw [va_s]; exact hz
  · show sm _ (op + 1) + va_up so (3 * op + 2) z (3 * op + 2) ≤ _
    rw [va_s, sm_congr (f := fun i => va_up so (3 * op + 2) z (3 * i) + va_up so (3 * op + 2) z (3 * i + 1)) (g := fun i => so (3 * i) + so (3 * i + 1)) (fun i hi => by rw [va_n (by omega), va_n (by omega)])]
    omega
  · show pd_mn (oA E Tg (os ++ [k + 16 * m]) (2 * i + 1)) _ ∧ (_ → pd_mn (oA E Tg (os ++ [k + 16 * m]) (2 * i)) _) ∧ (_ → oA E Tg (os ++ [k + 16 * m]) (2 * i) = pd_no)
    rw [hA, va_n (by omega), va_n (by omega), hS _ (by omega) (by omega), hS _ (by omega) (by omega)]
    exact p7 hm i hi
  · show pd_mn (oA E Tg (os ++ [k + 16 * m]) (2 * op + 2)) _
    rw [hA, va_s]
    exact hB hm
