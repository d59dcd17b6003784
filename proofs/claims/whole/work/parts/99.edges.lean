/-! how many edges there are -/
theorem bc_one {f g : Nat → Bool} {z : Nat} (hf : f z = false) (hg : g z = true) (h : ∀ i, i ≠ z → f i = g i) : ∀ n, bc_n g n = bc_n f n + (if z < n then 1 else 0)
  | 0 => rfl
  | n + 1 => by
    simp only [bc_n]
    rw [bc_one hf hg h n]
    by_cases c : n = z
    · subst c
      rw [if_neg (Nat.lt_irrefl _), if_pos (show n < n + 1 by omega)]
      simp [hf, hg]
    · rw [h n c]
      by_cases c2 : z < n
      · rw [if_pos c2, if_pos (show z < n + 1 by omega)]; omega
      · rw [if_neg c2, if_neg (show ¬ z < n + 1 by omega)]; omega
def ec (E : Nat → Nat → Nat → Bool) : Nat := bc_n (fun z => E (z / 1024) (z / 32 % 32) (z % 32)) 8192
theorem ec_ne {l i j z : Nat} (hl : l < 8) (hi : i < 32) (hj : j < 32) (h : z ≠ 1024 * l + 32 * i + j) : ¬ (z / 1024 = l ∧ z / 32 % 32 = i ∧ z % 32 = j) := by omega
theorem ec_add {E : Nat → Nat → Nat → Bool} {l i j : Nat} (hl : l < 8) (hi : i < 32) (hj : j < 32) (h : E l i j = false) : ec (ed_set E l i j true) = ec E + 1 := by
  have e1 : (1024 * l + 32 * i + j) / 1024 = l := by omega
  have e2 : (1024 * l + 32 * i + j) / 32 % 32 = i := by omega
  have e3 : (1024 * l + 32 * i + j) % 32 = j := by omega
  unfold ec
  rw [bc_one (z := 1024 * l + 32 * i + j) (f := fun z => E (z / 1024) (z / 32 % 32) (z % 32)) (g := fun z => ed_set E l i j true (z / 1024) (z / 32 % 32) (z % 32)) (by rw [e1, e2, e3]; exact h) (by rw [e1, e2, e3]; unfold ed_set; rw [if_pos ⟨rfl, rfl, rfl⟩]) (fun z hz => by unfold ed_set; rw [if_neg (ec_ne hl hi hj hz)]), if_pos (by omega)]
theorem ec_sub {E : Nat → Nat → Nat → Bool} {l i j : Nat} (hl : l < 8) (hi : i < 32) (hj : j < 32) (h : E l i j = true) : ec E = ec (ed_set E l i j false) + 1 := by
  have e1 : (1024 * l + 32 * i + j) / 1024 = l := by omega
  have e2 : (1024 * l + 32 * i + j) / 32 % 32 = i := by omega
  have e3 : (1024 * l + 32 * i + j) % 32 = j := by omega
  unfold ec
  rw [bc_one (z := 1024 * l + 32 * i + j) (g := fun z => E (z / 1024) (z / 32 % 32) (z % 32)) (f := fun z => ed_set E l i j false (z / 1024) (z / 32 % 32) (z % 32)) (by rw [e1, e2, e3]; unfold ed_set; rw [if_pos ⟨rfl, rfl, rfl⟩]) (by rw [e1, e2, e3]; exact h) (fun z hz => by unfold ed_set; rw [if_neg (ec_ne hl hi hj hz)]), if_pos (by omega)]
theorem ec_same {E : Nat → Nat → Nat → Bool} {l i j : Nat} (h : E l i j = false) : ed_set E l i j false = E := by
  funext x y z
  unfold ed_set
  split
  · rename_i c; rw [c.1, c.2.1, c.2.2, h]
  · rfl
theorem ec_0 : ec (fun _ _ _ => false) = 0 := by
  unfold ec
  have : ∀ n, bc_n (fun _ => false) n = 0 := by
    intro n
    induction n with
    | zero => rfl
    | succ n ih => simp only [bc_n]; rw [ih]; rfl
  exact this _
