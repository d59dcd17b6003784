/-! load answers alike on both sides -/
theorem rp_none {tx : Nat → Nat} {q0 : rs_T} {k : Nat} (h : rp_run tx q0 k = none) : ∀ d, rp_run tx q0 (k + d) = none
  | 0 => h
  | d + 1 => by
    show (rp_run tx q0 (k + d)).bind _ = none
    rw [rp_none h d]
    rfl
theorem rd_u {ln : Nat} {tx : Nat → Nat} {q0 : rs_T} {f f' : Nat} (h : rd_bad ln tx q0 f) (h' : rd_bad ln tx q0 f') : f = f' := by
  have no : ∀ {k : Nat} {q : rs_T}, rp_run tx q0 k = some q → rp_step (tx k) q = none → ∀ m, k < m → rp_run tx q0 m = none := by
    intro k q h1 h2 m hm
    have e : rp_run tx q0 (k + 1) = none := by
      show (rp_run tx q0 k).bind _ = none
      rw [h1]; exact h2
    have := rp_none e (m - (k + 1))
    rw [show k + 1 + (m - (k + 1)) = m by omega] at this
    exact this
  rcases h with ⟨k, q, a1, a2, a3, rfl⟩ | ⟨q, a1, a2, rfl⟩
  · rcases h' with ⟨k', q', b1, b2, b3, rfl⟩ | ⟨q', b1, b2, rfl⟩
    · rcases Nat.lt_trichotomy k k' with c | c | c
      · rw [no a2 a3 k' c] at b2; cases b2
      · rw [c]
      · rw [no b2 b3 k c] at a2; cases a2
    · rw [no a2 a3 _ a1] at b1; cases b1
  · rcases h' with ⟨k', q', b1, b2, b3, rfl⟩ | ⟨q', b1, b2, rfl⟩
    · rw [no b2 b3 _ b1] at a1; cases a1
    · rfl
theorem ld_lm {cs tx : Nat → Nat} {w N sx sx' rs le mo : Nat} {en : Nat → Nat} {r r' : Int32} {os : List Nat} (h : ld_end cs w (rp_0 rs le mo en) r os sx) (h' : lm_end cs w (rp_0 rs le mo en) r' tx N sx') : r = r' ∧ sx = sx' ∧ sl_T tx N os := by
  have h2 : (∃ f, f ≠ 0 ∧ rd_bad w cs (rp_0 rs le mo en) f ∧ r = nI f ∧ os = [1] ∧ sx = 0) ∨ (∃ q, rp_run cs (rp_0 rs le mo en) w = some q ∧ q.1 = 0 ∧ q.2.1 = 0 ∧ ((80 < (rp_ew q).2.2.2.2.2.2.1 0 ∧ r = -2 ∧ os = [1] ∧ sx = 0) ∨ ((rp_ew q).2.2.2.2.2.2.1 0 ≤ 80 ∧ r = nI 0 ∧ os = (rp_ew q).2.2.2.2.2.2.2 ∧ sx = (rp_ew q).2.2.2.2.2.2.1 0))) := by
    rcases h with ⟨k, q, a1, a2, a3, a4, a5, a6⟩ | ⟨q, a1, a2, a3, a4, a5⟩ | ⟨q, a1, a2, a3, a4⟩ | ⟨q, a1, a2, a3, a4⟩
    · exact Or.inl ⟨k + 1, by omega, Or.inl ⟨k, q, a1, a2, a3, rfl⟩, by rw [a4, Nat.add_comm], a5, a6⟩
    · exact Or.inl ⟨w + 1, by omega, Or.inr ⟨q, a1, a2, rfl⟩, by rw [a3, Nat.add_comm], a4, a5⟩
    · exact Or.inr ⟨q, a1, a2, a3, Or.inl a4⟩
    · exact Or.inr ⟨q, a1, a2, a3, Or.inr a4⟩
  rcases h2 with ⟨f, a1, a2, rfl, rfl, rfl⟩ | ⟨q, a1, a2, a3, a4⟩
  · rcases h' with ⟨f', b1, b2, rfl, rfl, rfl⟩ | ⟨q, b1, b2, b3, -⟩ | ⟨q, b1, b2, b3, -⟩
    · rw [rd_u a2 b2]
      exact ⟨rfl, rfl, sl_empty _⟩
    · exact absurd a2 (rd_good b1 b2 b3 _)
    · exact absurd a2 (rd_good b1 b2 b3 _)
  · rcases h' with ⟨f', b1, b2, -⟩ | ⟨q', b1, b2, b3, b4, rfl, rfl, rfl⟩ | ⟨q', b1, b2, b3, b4, rfl, rfl, rfl, rfl⟩
    · exact absurd b2 (rd_good a1 a2 a3 _)
    · rw [a1] at b1
      cases b1
      rcases a4 with ⟨c1, rfl, rfl, rfl⟩ | ⟨c1, -⟩
      · exact ⟨rfl, rfl, sl_empty _⟩
      · omega
    · rw [a1] at b1
      cases b1
      rcases a4 with ⟨c1, -⟩ | ⟨c1, rfl, rfl, rfl⟩
      · omega
      · exact ⟨rfl, rfl, rs, le, mo, en, q, a1, a2, a3, fun _ _ => rfl⟩
/-- one expression has one matrix of least lengths -/
theorem oA_bx (E : Nat → Nat → Nat → Bool) (Tg : Nat → Nat → Bool) (os : List Nat) : oA E Tg os 0 = bx_ak E Tg os os.length 0 := rfl
