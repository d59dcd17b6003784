/-! an expression's orders, one appended: height, places, sets -/
theorem bx_hk_ap (os : List Nat) (w : Nat) : ∀ k, k ≤ os.length → bx_hk (os ++ [w]) k = bx_hk os k
  | 0, _ => rfl
  | k + 1, h => by
    have e : (os ++ [w]).getD k 0 = os.getD k 0 := by
      rw [List.getD_eq_getElem?_getD, List.getD_eq_getElem?_getD, List.getElem?_append_left (by omega)]
    simp only [bx_hk]
    rw [e, bx_hk_ap os w k (by omega)]
theorem bx_ak_ap (E : Nat → Nat → Nat → Bool) (Tg : Nat → Nat → Bool) (os : List Nat) (w : Nat) : ∀ k, k ≤ os.length → bx_ak E Tg (os ++ [w]) k = bx_ak E Tg os k
  | 0, _ => rfl
  | k + 1, h => by
    have e : (os ++ [w]).getD k 0 = os.getD k 0 := by
      rw [List.getD_eq_getElem?_getD, List.getD_eq_getElem?_getD, List.getElem?_append_left (by omega)]
    simp only [bx_ak]
    rw [e, bx_hk_ap os w k (by omega), bx_ak_ap E Tg os w k (by omega)]
def oH (os : List Nat) : Nat := (bx_hk os os.length).1
def oN (os : List Nat) : Nat → Nat := (bx_hk os os.length).2
def oA (E : Nat → Nat → Nat → Bool) (Tg : Nat → Nat → Bool) (os : List Nat) : Nat → pd_L := bx_ak E Tg os os.length
theorem o_w (os : List Nat) (w : Nat) : (os ++ [w]).getD os.length 0 = w := by
  rw [List.getD_eq_getElem?_getD, List.getElem?_append_right (Nat.le_refl _), Nat.sub_self]; rfl
theorem oH_ap (os : List Nat) (k m : Nat) (hk : k < 16) : oH (os ++ [k + 16 * m]) = bx_h k (oH os) := by
  unfold oH
  rw [List.length_append]
  show bx_h ((os ++ [k + 16 * m]).getD os.length 0 % 16) (bx_hk (os ++ [k + 16 * m]) os.length).1 = _
  rw [o_w, bx_hk_ap _ _ _ (Nat.le_refl _), show (k + 16 * m) % 16 = k by omega]
theorem oN_ap (os : List Nat) (k m : Nat) (hk : k < 16) : oN (os ++ [k + 16 * m]) = bx_N k m (oH os) (oN os) := by
  unfold oN oH
  rw [List.length_append]
  show bx_N ((os ++ [k + 16 * m]).getD os.length 0 % 16) ((os ++ [k + 16 * m]).getD os.length 0 / 16) (bx_hk (os ++ [k + 16 * m]) os.length).1 (bx_hk (os ++ [k + 16 * m]) os.length).2 = _
  rw [o_w, bx_hk_ap _ _ _ (Nat.le_refl _), show (k + 16 * m) % 16 = k by omega, show (k + 16 * m) / 16 = m by omega]
theorem oA_ap (E : Nat → Nat → Nat → Bool) (Tg : Nat → Nat → Bool) (os : List Nat) (k m : Nat) (hk : k < 16) : oA E Tg (os ++ [k + 16 * m]) = bx_A E Tg k m (oH os) (oA E Tg os) := by
  unfold oA oH
  rw [List.length_append]
  show bx_A E Tg ((os ++ [k + 16 * m]).getD os.length 0 % 16) ((os ++ [k + 16 * m]).getD os.length 0 / 16) (bx_hk (os ++ [k + 16 * m]) os.length).1 (bx_ak E Tg (os ++ [k + 16 * m]) os.length) = _
  rw [o_w, bx_hk_ap _ _ _ (Nat.le_refl _), bx_ak_ap _ _ _ _ _ (Nat.le_refl _), show (k + 16 * m) % 16 = k by omega, show (k + 16 * m) / 16 = m by omega]
/-- orders that can be carried out, no place above 32 * t -/
def oP (os : List Nat) (t : Nat) : Prop := (∀ k, k < os.length → bx_ok (os.getD k 0 % 16) (os.getD k 0 / 16) (bx_hk os k).1) ∧ ∀ k, k ≤ os.length → ∀ i, i < (bx_hk os k).1 → (bx_hk os k).2 i ≤ 32 * t
theorem oP_mono {os : List Nat} {t t' : Nat} (h : oP os t) (ht : t ≤ t') : oP os t' := ⟨h.1, fun k hk i hi => Nat.le_trans (h.2 k hk i hi) (by omega)⟩
theorem oP_ap {os : List Nat} {t t' k m : Nat} (h : oP os t) (hk : k < 16) (hok : bx_ok k m (oH os)) (ht : t ≤ t') (hN : ∀ i, i < bx_h k (oH os) → bx_N k m (oH os) (oN os) i ≤ 32 * t') : oP (os ++ [k + 16 * m]) t' := by
  have el : (os ++ [k + 16 * m]).length = os.length + 1 := by rw [List.length_append]; rfl
  refine ⟨fun j hj => ?_, fun j hj i hi => ?_⟩
  · by_cases c : j < os.length
    · have e : (os ++ [k + 16 * m]).getD j 0 = os.getD j 0 := by
        rw [List.getD_eq_getElem?_getD, List.getD_eq_getElem?_getD, List.getElem?_append_left c]
      rw [e, bx_hk_ap _ _ _ (by omega)]
      exact h.1 j c
    · have : j = os.length := by omega
      subst this
      rw [o_w, bx_hk_ap _ _ _ (Nat.le_refl _), show (k + 16 * m) % 16 = k by omega, show (k + 16 * m) / 16 = m by omega]
      exact hok
  · by_cases c : j ≤ os.length
    · rw [bx_hk_ap _ _ _ c] at hi ⊢
      exact Nat.le_trans (h.2 j c i hi) (by omega)
    · have e : j = (os ++ [k + 16 * m]).length := by omega
      subst e
      have e1 := oH_ap os k m hk
      have e2 := oN_ap os k m hk
      unfold oH at e1
      unfold oN at e2
      rw [e1] at hi
      rw [e2]
      exact hN i hi
/-- the steps of the groups that are not shut -/
def sm (tl : Nat → Nat) : Nat → Nat
  | 0 => 0
  | k + 1 => sm tl k + tl k
theorem sm_le (tl : Nat → Nat) {i : Nat} : ∀ {k : Nat}, i < k → tl i ≤ sm tl k
  | 0, h => by omega
  | k + 1, h => by
    simp only [sm]
    by_cases c : i = k
    · subst c; omega
    · have := sm_le tl (i := i) (k := k) (by omega)
      omega
theorem sm_up (tl : Nat → Nat) (j x : Nat) : ∀ k, k ≤ j → sm (va_up tl j x) k = sm tl k
  | 0, _ => rfl
  | k + 1, h => by
    simp only [sm]
    rw [sm_up tl j x k (by omega)]
    unfold va_up
    rw [if_neg (by omega)]
/-- a reader's state, the steps counted without a ceiling -/
def rp_J (q : rs_T) (tl : Nat → Nat) (trs : Nat) : Prop :=
  q.2.1 ≤ 10 ∧ oH q.2.2.2.2.2.2.2 = 2 * (q.2.1 + 1) + (if q.2.2.1 then 1 else 0) ∧ (∀ i, i ≤ q.2.1 → oN q.2.2.2.2.2.2.2 (2 * i) + oN q.2.2.2.2.2.2.2 (2 * i + 1) = 32 * tl i) ∧
  (q.2.2.1 = true → oN q.2.2.2.2.2.2.2 (2 * q.2.1 + 2) = 32 * trs) ∧ (∀ i, i ≤ q.2.1 → q.2.2.2.2.2.2.1 i = min (tl i) 81) ∧ (q.2.2.1 = true → q.2.2.2.1 = min trs 81) ∧ oP q.2.2.2.2.2.2.2 (sm tl (q.2.1 + 1) + if q.2.2.1 then trs else 0)
theorem va_s {α : Type} {f : Nat → α} {k : Nat} {x : α} : va_up f k x k = x := if_pos rfl
theorem va_n {α : Type} {f : Nat → α} {k j : Nat} {x : α} (h : j ≠ k) : va_up f k x j = f j := if_neg h
theorem rp_J.er {q : rs_T} {tl : Nat → Nat} {trs : Nat} (p : rp_J q tl trs) : ∃ tl', rp_J (rp_er q) tl' trs ∧ (∀ i, i ≠ q.2.1 → tl' i = tl i) ∧ tl' q.2.1 = tl q.2.1 + (if q.2.2.1 then trs else 0) := by
  obtain ⟨st, op, ir, rs, le, mo, en, os⟩ := q
  obtain ⟨p1, p2, p3, p4, p5, p6, p7⟩ := p
  dsimp only at p1 p2 p3 p4 p5 p6 p7
  cases ir with
  | false => exact ⟨tl, ⟨p1, p2, p3, p4, p5, p6, p7⟩, fun _ _ => rfl, rfl⟩
  | true =>
    simp only [if_true] at p2 p7
    have p4 := p4 rfl
    have p6 := p6 rfl
    have eH := oH_ap os 6 0 (by decide)
    have eN := oN_ap os 6 0 (by decide)
    rw [p2] at eH eN
    have eH : oH (os ++ [6]) = 2 * (op + 1) := eH
    have eN : oN (os ++ [6]) = va_up (oN os) (2 * op + 1) (oN os (2 * op + 1) + oN os (2 * op + 2)) := eN
    refine ⟨va_up tl op (tl op + trs), ⟨p1, ?_, ?_, fun h => (by cases h), ?_, fun h => (by cases h), ?_⟩, fun i hi => va_n hi, va_s⟩
    · exact eH
    · intro i hi
      show oN (os ++ [6]) _ + oN (os ++ [6]) _ = _
      rw [eN]
      by_cases c : i = op
      · subst c
        rw [va_s, va_n (by omega), va_s]
        have := p3 i (Nat.le_refl _)
        omega
      · rw [va_n (by omega), va_n (by omega), va_n c]
        exact p3 i hi
    · intro i hi
      show va_up en op (min (en op + rs) 81) i = _
      by_cases c : i = op
      · subst c
        rw [va_s, va_s, p5 i (Nat.le_refl _), p6]
        omega
      · rw [va_n c, va_n c]
        exact p5 i hi
    · show oP (os ++ [6 + 16 * 0]) (sm (va_up tl op (tl op + trs)) (op + 1) + 0)
      have es : sm (va_up tl op (tl op + trs)) (op + 1) = sm tl (op + 1) + trs := by
        simp only [sm]
        rw [sm_up _ _ _ _ (Nat.le_refl _), va_s]
        omega
      rw [es]
      refine oP_ap p7 (by decide) ⟨by decide, by decide, fun h => by omega, fun h => by omega, fun _ => by omega, fun h => by omega⟩ (by omega) fun i hi => ?_
      rw [p2] at hi ⊢
      show va_up (oN os) (2 * op + 1) (oN os (2 * op + 1) + oN os (2 * op + 2)) i ≤ _
      have hi : i < 2 * (op + 1) := hi
      have l1 := sm_le tl (i := op) (k := op + 1) (by omega)
      have l2 := p3 op (Nat.le_refl _)
      by_cases c : i = 2 * op + 1
      · subst c
        rw [va_s, p4]
        omega
      · rw [va_n c]
        have l3 := p7.2 os.length (Nat.le_refl _) i (by show i < oH os; omega)
        exact l3
