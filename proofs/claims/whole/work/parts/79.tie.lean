/-! reading, on both sides: places of faults -/
theorem rp_run_s {tx : Nat → Nat} {q0 q q' : rs_T} {k : Nat} (h : rp_run tx q0 k = some q) (hs : rp_step (tx k) q = some q') : rp_run tx q0 (k + 1) = some q' := by
  show (rp_run tx q0 k).bind _ = _
  rw [h]; exact hs
def rd_bad (ln : Nat) (tx : Nat → Nat) (q0 : rs_T) (f : Nat) : Prop := (∃ k q, k < ln ∧ rp_run tx q0 k = some q ∧ rp_step (tx k) q = none ∧ f = k + 1) ∨ (∃ q, rp_run tx q0 ln = some q ∧ (q.1 ≠ 0 ∨ 0 < q.2.1) ∧ f = ln + 1)
theorem rd_bad_at {ln : Nat} {tx : Nat → Nat} {q0 q : rs_T} {k : Nat} (h : rp_run tx q0 k = some q) (hk : k ≤ ln) (hq : q.1 ≠ 0) (hs : k < ln → rp_step (tx k) q = none) : rd_bad ln tx q0 (k + 1) := by
  by_cases c : k < ln
  · exact Or.inl ⟨k, q, c, h, hs c, rfl⟩
  · have : k = ln := by omega
    subst this
    exact Or.inr ⟨q, h, Or.inl hq, rfl⟩
theorem mo_c_of {ln k : Nat} {tx : Nat → Nat} (h : k < ln) : mo_c ln tx k = tx k := if_pos h
/-- { } with what stands in it -/
theorem ct_run {ln : Nat} {tx : Nat → Nat} {q0 : rs_T} {a m u a' op rs le mo : Nat} {ir : Bool} {en : Nat → Nat} {os : List Nat} (h : rp_run tx q0 a = some (5, op, ir, rs, le, mo, en, os)) (hc : ct_ok ln tx a m u a') : a' ≤ ln ∧ rp_run tx q0 a' = some (0, op, ir, min (rs * u) 81, m, u, en, os ++ [11 + 16 * (m * 10 + u)]) ∧ a + 1 ≤ a' := by
  obtain ⟨c1, c2, hm, hc⟩ := hc
  obtain ⟨l1, e1⟩ := mo_c_in (k := a) (tx := tx) (ln := ln) (by omega)
  have s1 : rp_run tx q0 (a + 1) = some (6, op, ir, rs, m, m, en, os) := by
    refine rp_run_s h ?_
    show (if 48 ≤ tx a ∧ tx a ≤ 57 then some (rp_go 6 (rp_lm (tx a - 48) (tx a - 48) _)) else none) = _
    rw [if_pos (by omega), hm, e1]
    rfl
  rcases hc with ⟨d1, d2, d3, d4, d5, d6⟩ | ⟨d1, d2, d3, d4⟩
  · obtain ⟨l2, e2⟩ := mo_c_in (k := a + 1) (tx := tx) (ln := ln) (by omega)
    obtain ⟨l3, e3⟩ := mo_c_in (k := a + 2) (tx := tx) (ln := ln) (by omega)
    obtain ⟨l4, e4⟩ := mo_c_in (k := a + 3) (tx := tx) (ln := ln) (by omega)
    have s2 : rp_run tx q0 (a + 2) = some (7, op, ir, rs, m, m, en, os) := by
      refine rp_run_s s1 ?_
      show (if tx (a + 1) = 44 then some (rp_go 7 _) else _) = _
      rw [if_pos (by omega)]
      rfl
    have s3 : rp_run tx q0 (a + 3) = some (8, op, ir, rs, m, u, en, os) := by
      refine rp_run_s s2 ?_
      show (if 48 ≤ tx (a + 2) ∧ tx (a + 2) ≤ 57 ∧ m ≤ tx (a + 2) - 48 ∧ 0 < tx (a + 2) - 48 then some (rp_go 8 (rp_lm m (tx (a + 2) - 48) _)) else none) = _
      rw [if_pos (by omega), d4, e3]
      rfl
    have s4 : rp_run tx q0 (a + 4) = some (0, op, ir, min (rs * u) 81, m, u, en, os ++ [11 + 16 * (m * 10 + u)]) := by
      refine rp_run_s s3 ?_
      show (if tx (a + 3) = 125 ∧ u ≠ 0 then some (0, op, ir, min (rs * u) 81, m, u, en, os ++ [11 + 16 * (m * 10 + u)]) else none) = _
      rw [if_pos (by omega)]
    exact ⟨by omega, by rw [d6]; exact s4, by omega⟩
  · obtain ⟨l2, e2⟩ := mo_c_in (k := a + 1) (tx := tx) (ln := ln) (by omega)
    subst d2
    have s2 : rp_run tx q0 (a + 2) = some (0, op, ir, min (rs * u) 81, u, u, en, os ++ [11 + 16 * (u * 10 + u)]) := by
      refine rp_run_s s1 ?_
      show (if tx (a + 1) = 44 then some (rp_go 7 _) else (if tx (a + 1) = 125 ∧ u ≠ 0 then some (0, op, ir, min (rs * u) 81, u, u, en, os ++ [11 + 16 * (u * 10 + u)]) else none)) = _
      rw [if_neg (by omega), if_pos (by omega)]
    exact ⟨by omega, by rw [d4]; exact s2, by omega⟩
theorem ct_fail {ln : Nat} {tx : Nat → Nat} {q0 : rs_T} {a f op rs le mo : Nat} {ir : Bool} {en : Nat → Nat} {os : List Nat} (h : rp_run tx q0 a = some (5, op, ir, rs, le, mo, en, os)) (ha : a ≤ ln) (hc : ct_bad ln tx a f) : rd_bad ln tx q0 f := by
  rcases hc with ⟨c1, rfl⟩ | ⟨c1, c2, hc⟩
  · refine rd_bad_at h ha (show (5 : Nat) ≠ 0 by decide) fun hk => ?_
    rw [mo_c_of hk] at c1
    show (if 48 ≤ tx a ∧ tx a ≤ 57 then some (rp_go 6 (rp_lm (tx a - 48) (tx a - 48) _)) else none) = _
    rw [if_neg c1]
  · obtain ⟨l1, e1⟩ := mo_c_in (k := a) (tx := tx) (ln := ln) (by omega)
    have s1 : rp_run tx q0 (a + 1) = some (6, op, ir, rs, tx a - 48, tx a - 48, en, os) := by
      refine rp_run_s h ?_
      show (if 48 ≤ tx a ∧ tx a ≤ 57 then some (rp_go 6 (rp_lm (tx a - 48) (tx a - 48) _)) else none) = _
      rw [if_pos (by omega)]
      rfl
    have s2 : mo_c ln tx (a + 1) = 44 → a + 1 < ln ∧ rp_run tx q0 (a + 2) = some (7, op, ir, rs, tx a - 48, tx a - 48, en, os) := by
      intro h44
      obtain ⟨l2, e2⟩ := mo_c_in (k := a + 1) (tx := tx) (ln := ln) (by omega)
      refine ⟨l2, rp_run_s s1 ?_⟩
      show (if tx (a + 1) = 44 then some (rp_go 7 _) else _) = _
      rw [if_pos (by omega)]
      rfl
    rcases hc with ⟨d1, d2, rfl⟩ | ⟨d1, d2, d3, d4, rfl⟩ | ⟨d1, d2, rfl⟩
    · obtain ⟨l2, s2⟩ := s2 d1
      refine rd_bad_at s2 (by omega) (show (7 : Nat) ≠ 0 by decide) fun hk => ?_
      rw [mo_c_of hk, e1] at d2
      show (if 48 ≤ tx (a + 2) ∧ tx (a + 2) ≤ 57 ∧ tx a - 48 ≤ tx (a + 2) - 48 ∧ 0 < tx (a + 2) - 48 then some (rp_go 8 (rp_lm (tx a - 48) (tx (a + 2) - 48) _)) else none) = _
      rw [if_neg (by omega)]
    · obtain ⟨l2, s2⟩ := s2 d1
      obtain ⟨l3, e3⟩ := mo_c_in (k := a + 2) (tx := tx) (ln := ln) (by omega)
      have s3 : rp_run tx q0 (a + 3) = some (8, op, ir, rs, tx a - 48, tx (a + 2) - 48, en, os) := by
        refine rp_run_s s2 ?_
        show (if 48 ≤ tx (a + 2) ∧ tx (a + 2) ≤ 57 ∧ tx a - 48 ≤ tx (a + 2) - 48 ∧ 0 < tx (a + 2) - 48 then some (rp_go 8 (rp_lm (tx a - 48) (tx (a + 2) - 48) _)) else none) = _
        rw [if_pos (by omega)]
        rfl
      refine rd_bad_at s3 (by omega) (show (8 : Nat) ≠ 0 by decide) fun hk => ?_
      rw [mo_c_of hk] at d4
      show (if tx (a + 3) = 125 ∧ _ then some _ else none) = _
      rw [if_neg (fun h => d4 h.1)]
    · refine rd_bad_at s1 (by omega) (show (6 : Nat) ≠ 0 by decide) fun hk => ?_
      rw [mo_c_of hk] at d1 d2
      show (if tx (a + 1) = 44 then some (rp_go 7 _) else (if tx (a + 1) = 125 ∧ tx a - 48 ≠ 0 then some _ else none)) = _
      rw [if_neg d1, if_neg (by omega)]
/-! sets have no pairs but of nodes -/
theorem bx_nd {E : Nat → Nat → Nat → Bool} {Tg : Nat → Nat → Bool} {A : Nat → pd_L} (h : ∀ i, pd_nd (A i)) (k m ht : Nat) : ∀ i, pd_nd (bx_A E Tg k m ht A i) := by
  have up : ∀ {j : Nat} {B : pd_L}, pd_nd B → ∀ i, pd_nd (va_up A j B i) := by
    intro j B hB i
    unfold va_up
    split
    · exact hB
    · exact h i
  unfold bx_A
  split
  · exact up pd_nd_no
  · exact up pd_nd_id
  · exact up (pd_nd_eg _)
  · exact up (pd_nd_eg _)
  · exact up (pd_nd_ts _)
  · exact up (pd_nd_ts _)
  · exact up (pd_nd_seq (h _) (h _))
  · exact up (pd_nd_or (h _) (h _))
  · exact up (pd_nd_or pd_nd_id (pd_nd_pl (h _)))
  · exact up (pd_nd_pl (h _))
  · exact up (pd_nd_or pd_nd_id (h _))
  · exact up (pd_nd_cp (h _) _ _)
theorem oA_nd (E : Nat → Nat → Nat → Bool) (Tg : Nat → Nat → Bool) (os : List Nat) (i : Nat) : pd_nd (oA E Tg os i) := by
  have key : ∀ k i, pd_nd (bx_ak E Tg os k i) := by
    intro k
    induction k with
    | zero => intro i; exact pd_nd_no
    | succ k ih => exact bx_nd ih _ _ _
  exact key _ _
