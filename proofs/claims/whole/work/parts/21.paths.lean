/-! Lengths of paths as sets: A i j n says that a path of length n leads from i to j. -/
abbrev pd_L : Type := Nat → Nat → Nat → Prop
def pd_seq (A B : pd_L) : pd_L := fun i j n => ∃ v a b, A i v a ∧ B v j b ∧ n = a + b
def pd_or (A B : pd_L) : pd_L := fun i j n => A i j n ∨ B i j n
def pd_id : pd_L := fun i j n => i = j ∧ i < 32 ∧ n = 0
def pd_no : pd_L := fun _ _ _ => False
def pd_eg (E : Nat → Nat → Prop) : pd_L := fun i j n => i < 32 ∧ j < 32 ∧ E i j ∧ n = 1
def pd_ts (T : Nat → Prop) : pd_L := fun i j n => i = j ∧ i < 32 ∧ T i ∧ n = 0
def pd_pw (V : Nat → Prop) (A : pd_L) : Nat → pd_L
  | 0 => A
  | m + 1 => fun i j n => ∃ v a b, V v ∧ A i v a ∧ pd_pw V A m v j b ∧ n = a + b
def pd_pl (V : Nat → Prop) (A : pd_L) : pd_L := fun i j n => ∃ m, pd_pw V A m i j n
def pd_nd (A : pd_L) : Prop := ∀ i j n, A i j n → i < 32 ∧ j < 32
theorem pd_ext {A B : pd_L} (h : ∀ i j n, A i j n ↔ B i j n) : A = B := by
  funext i j n
  exact propext (h i j n)
/-! walks in a graph of places, each place of weight w -/
def pd_wk (E : Nat → Nat → Prop) (w : Nat → Nat) (S : Nat → Prop) : Nat → Nat → Nat → Nat → Prop
  | 0, c, d, n => S c ∧ c = d ∧ n = w c
  | m + 1, c, d, n => S c ∧ ∃ c' n', E c c' ∧ pd_wk E w S m c' d n' ∧ n = w c + n'
theorem pd_wk_start {E : Nat → Nat → Prop} {w : Nat → Nat} {S : Nat → Prop} : ∀ {m c d n : Nat}, pd_wk E w S m c d n → S c
  | 0, _, _, _, h => h.1
  | _ + 1, _, _, _, h => h.1
theorem pd_wk_lt {E : Nat → Nat → Prop} {w : Nat → Nat} {N m c d n : Nat} (h : pd_wk E w (fun c => c < N) m c d n) : c < N := pd_wk_start (S := fun c => c < N) h
theorem pd_wk_map {E E' : Nat → Nat → Prop} {w w' : Nat → Nat} {S S' : Nat → Prop} (f : Nat → Nat) (hS : ∀ c, S c → S' (f c)) (hE : ∀ c c', S c → S c' → E c c' → E' (f c) (f c')) (hw : ∀ c, S c → w' (f c) = w c) :
    ∀ (m c d n : Nat), pd_wk E w S m c d n → pd_wk E' w' S' m (f c) (f d) n
  | 0, c, d, n, h => ⟨hS c h.1, by rw [h.2.1], by rw [hw c h.1]; exact h.2.2⟩
  | m + 1, c, d, n, h => by
    obtain ⟨h1, c', n', h2, h3, h4⟩ := h
    exact ⟨hS c h1, f c', n', hE c c' h1 (pd_wk_start h3) h2, pd_wk_map f hS hE hw m c' d n' h3, by rw [hw c h1]; exact h4⟩
theorem pd_wk_app {E : Nat → Nat → Prop} {w : Nat → Nat} {S : Nat → Prop} {c' d' m2 n2 : Nat} (h2 : pd_wk E w S m2 c' d' n2) :
    ∀ (m1 c d n1 : Nat), pd_wk E w S m1 c d n1 → E d c' → ∃ m, pd_wk E w S m c d' (n1 + n2)
  | 0, c, d, n1, h, he => by
    obtain ⟨a, rfl, rfl⟩ := h
    exact ⟨m2 + 1, a, c', n2, he, h2, rfl⟩
  | m1 + 1, c, d, n1, h, he => by
    obtain ⟨a, e, n', a1, a2, rfl⟩ := h
    obtain ⟨m, hm⟩ := pd_wk_app h2 m1 e d n' a2 he
    exact ⟨m + 1, a, e, n' + n2, a1, hm, by omega⟩
theorem pd_wk_avoid {E : Nat → Nat → Prop} {w : Nat → Nat} {S : Nat → Prop} (x : Nat) : ∀ (m a d n : Nat), pd_wk E w S m a d n →
    pd_wk E w (fun c => S c ∧ c ≠ x) m a d n ∨ (S x ∧ ((d = x ∧ w x ≤ n) ∨ ∃ c' m' n', E x c' ∧ pd_wk E w (fun c => S c ∧ c ≠ x) m' c' d n' ∧ w x + n' ≤ n))
  | 0, a, d, n, h => by
    obtain ⟨h1, rfl, rfl⟩ := h
    by_cases e : a = x
    · subst e
      exact Or.inr ⟨h1, Or.inl ⟨rfl, Nat.le_refl _⟩⟩
    · exact Or.inl ⟨⟨h1, e⟩, rfl, rfl⟩
  | m + 1, a, d, n, h => by
    obtain ⟨h1, c', n', h2, h3, rfl⟩ := h
    rcases pd_wk_avoid x m c' d n' h3 with h4 | ⟨h4, h5⟩
    · by_cases e : a = x
      · subst e
        exact Or.inr ⟨h1, Or.inr ⟨c', m, n', h2, h4, Nat.le_refl _⟩⟩
      · exact Or.inl ⟨⟨h1, e⟩, c', n', h2, h4, rfl⟩
    · refine Or.inr ⟨h4, ?_⟩
      rcases h5 with ⟨e, h6⟩ | ⟨c2, m2, n2, e, h6, h7⟩
      · exact Or.inl ⟨e, by omega⟩
      · exact Or.inr ⟨c2, m2, n2, e, h6, by omega⟩
theorem pd_wk_short {E : Nat → Nat → Prop} {w : Nat → Nat} (hw : ∀ c, w c ≤ 1) : ∀ (k : Nat) (l : List Nat), l.length = k → ∀ (m a d n : Nat), pd_wk E w (fun c => c ∈ l) m a d n →
    ∃ m' n', pd_wk E w (fun c => c ∈ l) m' a d n' ∧ n' ≤ n ∧ n' ≤ k
  | 0, l, hl, m, a, d, n, h => by
    have h1 : a ∈ l := pd_wk_start (S := fun c => c ∈ l) h
    have h2 : l = [] := List.length_eq_zero_iff.mp hl
    rw [h2] at h1
    cases h1
  | k + 1, l, hl, m, a, d, n, h => by
    have hk := hw a
    rcases pd_wk_avoid a m a d n h with h1 | ⟨h1, h2⟩
    · exact absurd rfl (pd_wk_start h1).2
    · rcases h2 with ⟨rfl, h3⟩ | ⟨c', m', n', h3, h4, h5⟩
      · exact ⟨0, w d, ⟨h1, rfl, rfl⟩, h3, by omega⟩
      · have h6 : pd_wk E w (fun c => c ∈ l.erase a) m' c' d n' := pd_wk_map (fun c => c) (fun c hc => (List.mem_erase_of_ne hc.2).mpr hc.1) (fun _ _ _ _ h => h) (fun _ _ => rfl) _ _ _ _ h4
        have hlen : (l.erase a).length = k := by rw [List.length_erase_of_mem h1, hl]; rfl
        obtain ⟨m2, n2, h7, h8, h9⟩ := pd_wk_short hw k (l.erase a) hlen m' c' d n' h6
        have h10 : pd_wk E w (fun c => c ∈ l) m2 c' d n2 := pd_wk_map (fun c => c) (fun c hc => List.mem_of_mem_erase hc) (fun _ _ _ _ h => h) (fun _ _ => rfl) _ _ _ _ h7
        exact ⟨m2 + 1, w a + n2, ⟨h1, c', n2, h3, h10, rfl⟩, by omega, by omega⟩
/-! a set of lengths that a small graph gives -/
def pd_au (A : pd_L) (N : Nat) : Prop := ∃ (nu : Prop) (I E F : Nat → Nat → Prop) (w : Nat → Nat), (∀ c, w c ≤ 1) ∧
  ∀ i j n, A i j n ↔ (nu ∧ i = j ∧ i < 32 ∧ n = 0) ∨ ∃ c d m, I i c ∧ pd_wk E w (fun c => c < N) m c d n ∧ F d j
theorem pd_au_bd {A : pd_L} {N : Nat} (h : pd_au A N) {i j n : Nat} (hA : A i j n) : ∃ n', A i j n' ∧ n' ≤ n ∧ n' ≤ N := by
  obtain ⟨nu, I, E, F, w, hw, hh⟩ := h
  rcases (hh i j n).mp hA with h1 | ⟨c, d, m, h1, h2, h3⟩
  · exact ⟨0, (hh i j 0).mpr (Or.inl ⟨h1.1, h1.2.1, h1.2.2.1, rfl⟩), Nat.zero_le _, Nat.zero_le _⟩
  · have h4 : pd_wk E w (fun c => c ∈ List.range N) m c d n := pd_wk_map (fun c => c) (fun c hc => List.mem_range.mpr hc) (fun _ _ _ _ h => h) (fun _ _ => rfl) _ _ _ _ h2
    obtain ⟨m', n', h5, h6, h7⟩ := pd_wk_short hw N (List.range N) List.length_range m c d n h4
    have h8 : pd_wk E w (fun c => c < N) m' c d n' := pd_wk_map (fun c => c) (fun c hc => List.mem_range.mp hc) (fun _ _ _ _ h => h) (fun _ _ => rfl) _ _ _ _ h5
    exact ⟨n', (hh i j n').mpr (Or.inr ⟨c, d, m', h1, h8, h3⟩), h6, h7⟩
theorem pd_au_no : pd_au pd_no 0 := by
  refine ⟨False, fun _ _ => False, fun _ _ => False, fun _ _ => False, fun _ => 0, fun _ => Nat.zero_le _, fun i j n => ?_⟩
  constructor
  · intro h; cases h
  · rintro (⟨h, -⟩ | ⟨_, _, _, h, -⟩) <;> cases h
theorem pd_au_id : pd_au pd_id 0 := by
  refine ⟨True, fun _ _ => False, fun _ _ => False, fun _ _ => False, fun _ => 0, fun _ => Nat.zero_le _, fun i j n => ?_⟩
  constructor
  · intro h; exact Or.inl ⟨trivial, h⟩
  · rintro (⟨-, h⟩ | ⟨_, _, _, h, -⟩)
    · exact h
    · cases h
theorem pd_au_eg (E : Nat → Nat → Prop) : pd_au (pd_eg E) 32 := by
  refine ⟨False, fun i c => i < 32 ∧ E i c, fun _ _ => False, fun c j => c = j, fun _ => 1, fun _ => Nat.le_refl _, fun i j n => ?_⟩
  constructor
  · rintro ⟨h1, h2, h3, rfl⟩
    exact Or.inr ⟨j, j, 0, ⟨h1, h3⟩, ⟨h2, rfl, rfl⟩, rfl⟩
  · rintro (⟨h, -⟩ | ⟨c, d, m, h1, h2, rfl⟩)
    · cases h
    · cases m with
      | zero =>
        obtain ⟨a, rfl, rfl⟩ := h2
        exact ⟨h1.1, a, h1.2, rfl⟩
      | succ m =>
        obtain ⟨-, c', n', h, -⟩ := h2
        cases h
theorem pd_au_ts (T : Nat → Prop) : pd_au (pd_ts T) 32 := by
  refine ⟨False, fun i c => i = c ∧ T i, fun _ _ => False, fun c j => c = j, fun _ => 0, fun _ => Nat.zero_le _, fun i j n => ?_⟩
  constructor
  · rintro ⟨rfl, h2, h3, rfl⟩
    exact Or.inr ⟨i, i, 0, ⟨rfl, h3⟩, ⟨h2, rfl, rfl⟩, rfl⟩
  · rintro (⟨h, -⟩ | ⟨c, d, m, h1, h2, rfl⟩)
    · cases h
    · cases m with
      | zero =>
        obtain ⟨a, rfl, rfl⟩ := h2
        obtain ⟨rfl, h1⟩ := h1
        exact ⟨rfl, a, h1, rfl⟩
      | succ m =>
        obtain ⟨-, c', n', h, -⟩ := h2
        cases h
/-! one beside the other, one behind the other: the second's places are counted from N1 on -/
def pd_E2 (N1 : Nat) (E1 E2 X : Nat → Nat → Prop) (c c' : Nat) : Prop := (c < N1 ∧ c' < N1 ∧ E1 c c') ∨ (N1 ≤ c ∧ N1 ≤ c' ∧ E2 (c - N1) (c' - N1)) ∨ (c < N1 ∧ N1 ≤ c' ∧ X c (c' - N1))
def pd_w2 (N1 : Nat) (w1 w2 : Nat → Nat) (c : Nat) : Nat := if c < N1 then w1 c else w2 (c - N1)
theorem pd_lo {N1 N2 : Nat} {E1 E2 X : Nat → Nat → Prop} {w1 w2 : Nat → Nat} {m c d n : Nat} (h : pd_wk E1 w1 (fun c => c < N1) m c d n) : pd_wk (pd_E2 N1 E1 E2 X) (pd_w2 N1 w1 w2) (fun c => c < N1 + N2) m c d n :=
  pd_wk_map (fun c => c) (fun c hc => by omega) (fun c c' h1 h2 h3 => Or.inl ⟨h1, h2, h3⟩) (fun c hc => by simp [pd_w2, hc]) _ _ _ _ h
theorem pd_hi {N1 N2 : Nat} {E1 E2 X : Nat → Nat → Prop} {w1 w2 : Nat → Nat} {m c d n : Nat} (h : pd_wk E2 w2 (fun c => c < N2) m c d n) : pd_wk (pd_E2 N1 E1 E2 X) (pd_w2 N1 w1 w2) (fun c => c < N1 + N2) m (N1 + c) (N1 + d) n :=
  pd_wk_map (fun c => N1 + c) (fun c hc => by omega) (fun c c' h1 h2 h3 => Or.inr (Or.inl ⟨by omega, by omega, by rw [Nat.add_sub_cancel_left, Nat.add_sub_cancel_left]; exact h3⟩)) (fun c hc => by unfold pd_w2; rw [if_neg (by omega), Nat.add_sub_cancel_left]) _ _ _ _ h
theorem pd_hi' {N1 N2 : Nat} {E1 E2 X : Nat → Nat → Prop} {w1 w2 : Nat → Nat} : ∀ (m c d n : Nat), pd_wk (pd_E2 N1 E1 E2 X) (pd_w2 N1 w1 w2) (fun c => c < N1 + N2) m c d n → N1 ≤ c → N1 ≤ d ∧ pd_wk E2 w2 (fun c => c < N2) m (c - N1) (d - N1) n
  | 0, c, d, n, h, hc => by
    obtain ⟨h1, rfl, rfl⟩ := h
    exact ⟨hc, by omega, rfl, by simp [pd_w2, Nat.not_lt.mpr hc]⟩
  | m + 1, c, d, n, h, hc => by
    obtain ⟨h1, c', n', h2, h3, rfl⟩ := h
    rcases h2 with ⟨h4, -⟩ | ⟨-, h4, h5⟩ | ⟨h4, -⟩
    · omega
    · obtain ⟨h6, h7⟩ := pd_hi' m c' d n' h3 h4
      exact ⟨h6, by omega, c' - N1, n', h5, h7, by simp [pd_w2, Nat.not_lt.mpr hc]⟩
    · omega
theorem pd_lo' {N1 N2 : Nat} {E1 E2 X : Nat → Nat → Prop} {w1 w2 : Nat → Nat} : ∀ (m c d n : Nat), pd_wk (pd_E2 N1 E1 E2 X) (pd_w2 N1 w1 w2) (fun c => c < N1 + N2) m c d n → c < N1 →
    (d < N1 ∧ pd_wk E1 w1 (fun c => c < N1) m c d n) ∨ (N1 ≤ d ∧ ∃ m1 m2 e c2 n1 n2, pd_wk E1 w1 (fun c => c < N1) m1 c e n1 ∧ X e c2 ∧ pd_wk E2 w2 (fun c => c < N2) m2 c2 (d - N1) n2 ∧ n = n1 + n2)
  | 0, c, d, n, h, hc => by
    obtain ⟨h1, rfl, rfl⟩ := h
    exact Or.inl ⟨hc, hc, rfl, by simp [pd_w2, hc]⟩
  | m + 1, c, d, n, h, hc => by
    obtain ⟨h1, c', n', h2, h3, rfl⟩ := h
    have hw : pd_w2 N1 w1 w2 c = w1 c := by simp [pd_w2, hc]
    rcases h2 with ⟨-, h4, h5⟩ | ⟨h4, -⟩ | ⟨-, h4, h5⟩
    · rcases pd_lo' m c' d n' h3 h4 with ⟨h6, h7⟩ | ⟨h6, m1, m2, e, c2, n1, n2, h7, h8, h9, rfl⟩
      · exact Or.inl ⟨h6, hc, c', n', h5, h7, by rw [hw]⟩
      · exact Or.inr ⟨h6, m1 + 1, m2, e, c2, w1 c + n1, n2, ⟨hc, c', n1, h5, h7, rfl⟩, h8, h9, by rw [hw]; omega⟩
    · omega
    · obtain ⟨h6, h7⟩ := pd_hi' m c' d n' h3 h4
      exact Or.inr ⟨h6, 0, m, c, c' - N1, w1 c, n', ⟨hc, rfl, rfl⟩, h5, h7, by rw [hw]⟩
theorem pd_au_or {A B : pd_L} {N1 N2 : Nat} (hA : pd_au A N1) (hB : pd_au B N2) : pd_au (pd_or A B) (N1 + N2) := by
  obtain ⟨nu1, I1, E1, F1, w1, hw1, h1⟩ := hA
  obtain ⟨nu2, I2, E2, F2, w2, hw2, h2⟩ := hB
  refine ⟨nu1 ∨ nu2, fun i c => (c < N1 ∧ I1 i c) ∨ (N1 ≤ c ∧ I2 i (c - N1)), pd_E2 N1 E1 E2 (fun _ _ => False), fun c j => (c < N1 ∧ F1 c j) ∨ (N1 ≤ c ∧ F2 (c - N1) j), pd_w2 N1 w1 w2, fun c => ?_, fun i j n => ?_⟩
  · unfold pd_w2; split
    · exact hw1 _
    · exact hw2 _
  constructor
  · rintro (h | h)
    · rcases (h1 i j n).mp h with ⟨a, b⟩ | ⟨c, d, m, a, b, e⟩
      · exact Or.inl ⟨Or.inl a, b⟩
      · have hd : d < N1 := by
          rcases pd_lo' m c d n (pd_lo (N2 := N2) (E2 := E2) (X := fun _ _ => False) (w2 := w2) b) (pd_wk_lt b) with h | ⟨_, _, _, _, _, _, _, _, h, _⟩
          · exact h.1
          · cases h
        exact Or.inr ⟨c, d, m, Or.inl ⟨pd_wk_lt b, a⟩, pd_lo b, Or.inl ⟨hd, e⟩⟩
    · rcases (h2 i j n).mp h with ⟨a, b⟩ | ⟨c, d, m, a, b, e⟩
      · exact Or.inl ⟨Or.inr a, b⟩
      · exact Or.inr ⟨N1 + c, N1 + d, m, Or.inr ⟨by omega, by rw [Nat.add_sub_cancel_left]; exact a⟩, pd_hi b, Or.inr ⟨by omega, by rw [Nat.add_sub_cancel_left]; exact e⟩⟩
  · rintro (⟨a | a, b⟩ | ⟨c, d, m, a, b, e⟩)
    · exact Or.inl ((h1 i j n).mpr (Or.inl ⟨a, b⟩))
    · exact Or.inr ((h2 i j n).mpr (Or.inl ⟨a, b⟩))
    · rcases a with ⟨a1, a2⟩ | ⟨a1, a2⟩
      · rcases pd_lo' m c d n b a1 with ⟨h3, h4⟩ | ⟨_, _, _, _, _, _, _, _, h, _⟩
        · rcases e with ⟨e1, e2⟩ | ⟨e1, e2⟩
          · exact Or.inl ((h1 i j n).mpr (Or.inr ⟨c, d, m, a2, h4, e2⟩))
          · omega
        · cases h
      · obtain ⟨h3, h4⟩ := pd_hi' m c d n b a1
        rcases e with ⟨e1, e2⟩ | ⟨e1, e2⟩
        · omega
        · exact Or.inr ((h2 i j n).mpr (Or.inr ⟨c - N1, d - N1, m, a2, h4, e2⟩))
theorem pd_au_seq {A B : pd_L} {N1 N2 : Nat} (hA : pd_au A N1) (hB : pd_au B N2) (nA : pd_nd A) (nB : pd_nd B) : pd_au (pd_seq A B) (N1 + N2) := by
  obtain ⟨nu1, I1, E1, F1, w1, hw1, h1⟩ := hA
  obtain ⟨nu2, I2, E2, F2, w2, hw2, h2⟩ := hB
  refine ⟨nu1 ∧ nu2, fun i c => (c < N1 ∧ I1 i c) ∨ (N1 ≤ c ∧ nu1 ∧ i < 32 ∧ I2 i (c - N1)), pd_E2 N1 E1 E2 (fun c c2 => ∃ v, F1 c v ∧ I2 v c2), fun c j => (c < N1 ∧ nu2 ∧ j < 32 ∧ F1 c j) ∨ (N1 ≤ c ∧ F2 (c - N1) j), pd_w2 N1 w1 w2, fun c => ?_, fun i j n => ?_⟩
  · unfold pd_w2; split
    · exact hw1 _
    · exact hw2 _
  constructor
  · rintro ⟨v, a, b, hA, hB, rfl⟩
    have n1 := nA _ _ _ hA
    have n2 := nB _ _ _ hB
    rcases (h1 i v a).mp hA with ⟨p1, rfl, p3, rfl⟩ | ⟨c, d, m, p1, p2, p3⟩
    · rcases (h2 i j b).mp hB with ⟨q1, rfl, q3, rfl⟩ | ⟨c2, d2, m2, q1, q2, q3⟩
      · exact Or.inl ⟨⟨p1, q1⟩, rfl, p3, rfl⟩
      · rw [Nat.zero_add]
        exact Or.inr ⟨N1 + c2, N1 + d2, m2, Or.inr ⟨by omega, p1, p3, by rw [Nat.add_sub_cancel_left]; exact q1⟩, pd_hi q2, Or.inr ⟨by omega, by rw [Nat.add_sub_cancel_left]; exact q3⟩⟩
    · have hs := pd_wk_lt p2
      rcases (h2 v j b).mp hB with ⟨q1, rfl, q3, rfl⟩ | ⟨c2, d2, m2, q1, q2, q3⟩
      · have hd : d < N1 := by
          rcases pd_lo' m c d a (pd_lo (N2 := 0) (E2 := E2) (X := fun _ _ => False) (w2 := w2) p2) hs with h | ⟨_, _, _, _, _, _, _, _, h, _⟩
          · exact h.1
          · cases h
        exact Or.inr ⟨c, d, m, Or.inl ⟨hs, p1⟩, pd_lo p2, Or.inl ⟨hd, q1, n1.2, p3⟩⟩
      · have hd : d < N1 := by
          rcases pd_lo' m c d a (pd_lo (N2 := 0) (E2 := E2) (X := fun _ _ => False) (w2 := w2) p2) hs with h | ⟨_, _, _, _, _, _, _, _, h, _⟩
          · exact h.1
          · cases h
        obtain ⟨m3, hm⟩ := pd_wk_app (pd_hi (N1 := N1) (E1 := E1) (X := fun c c2 => ∃ v, F1 c v ∧ I2 v c2) (w1 := w1) q2) m c d a (pd_lo p2) (Or.inr (Or.inr ⟨hd, by omega, v, p3, by rw [Nat.add_sub_cancel_left]; exact q1⟩))
        exact Or.inr ⟨c, N1 + d2, m3, Or.inl ⟨hs, p1⟩, hm, Or.inr ⟨by omega, by rw [Nat.add_sub_cancel_left]; exact q3⟩⟩
  · rintro (⟨⟨a1, a2⟩, rfl, b, rfl⟩ | ⟨c, d, m, a, b, e⟩)
    · exact ⟨i, 0, 0, (h1 i i 0).mpr (Or.inl ⟨a1, rfl, b, rfl⟩), (h2 i i 0).mpr (Or.inl ⟨a2, rfl, b, rfl⟩), rfl⟩
    · rcases a with ⟨a1, a2⟩ | ⟨a1, a2, a3, a4⟩
      · rcases pd_lo' m c d n b a1 with ⟨h3, h4⟩ | ⟨h3, m1, m2, e1, c2, n1, n2, h4, ⟨v, h5, h6⟩, h7, rfl⟩
        · rcases e with ⟨e1, e2, e3, e4⟩ | ⟨e1, e2⟩
          · exact ⟨j, n, 0, (h1 i j n).mpr (Or.inr ⟨c, d, m, a2, h4, e4⟩), (h2 j j 0).mpr (Or.inl ⟨e2, rfl, e3, rfl⟩), rfl⟩
          · omega
        · rcases e with ⟨e1, e2, e3, e4⟩ | ⟨e1, e2⟩
          · omega
          · exact ⟨v, n1, n2, (h1 i v n1).mpr (Or.inr ⟨c, _, m1, a2, h4, h5⟩), (h2 v j n2).mpr (Or.inr ⟨c2, _, m2, h6, h7, e2⟩), rfl⟩
      · obtain ⟨h3, h4⟩ := pd_hi' m c d n b a1
        rcases e with ⟨e1, e2, e3, e4⟩ | ⟨e1, e2⟩
        · omega
        · exact ⟨i, 0, n, (h1 i i 0).mpr (Or.inl ⟨a2, rfl, a3, rfl⟩), (h2 i j n).mpr (Or.inr ⟨_, _, m, a4, h4, e2⟩), by omega⟩
theorem pd_cross {E F I : Nat → Nat → Prop} {V : Nat → Prop} {w : Nat → Nat} {S : Nat → Prop} : ∀ (m c d n : Nat), pd_wk (fun c c' => E c c' ∨ ∃ v, V v ∧ F c v ∧ I v c') w S m c d n →
    pd_wk E w S m c d n ∨ ∃ e v c2 m1 m2 n1 n2, pd_wk E w S m1 c e n1 ∧ V v ∧ F e v ∧ I v c2 ∧ pd_wk (fun c c' => E c c' ∨ ∃ v, V v ∧ F c v ∧ I v c') w S m2 c2 d n2 ∧ m2 < m ∧ n = n1 + n2
  | 0, c, d, n, h => Or.inl h
  | m + 1, c, d, n, h => by
    obtain ⟨h1, c', n', h2, h3, rfl⟩ := h
    rcases h2 with h2 | ⟨v, v1, v2, v3⟩
    · rcases pd_cross m c' d n' h3 with h4 | ⟨e, v, c2, m1, m2, n1, n2, a1, a2, a3, a4, a5, a6, rfl⟩
      · exact Or.inl ⟨h1, c', n', h2, h4, rfl⟩
      · exact Or.inr ⟨e, v, c2, m1 + 1, m2, w c + n1, n2, ⟨h1, c', n1, h2, a1, rfl⟩, a2, a3, a4, a5, by omega, by omega⟩
    · exact Or.inr ⟨c, v, c', 0, m, w c, n', ⟨h1, rfl, rfl⟩, v1, v2, v3, h3, by omega, rfl⟩
theorem pd_au_pl {A : pd_L} {N : Nat} (V : Nat → Prop) (hA : pd_au A N) : pd_au (pd_pl V A) N := by
  obtain ⟨nu, I, E, F, w, hw, h1⟩ := hA
  refine ⟨nu, I, fun c c' => E c c' ∨ ∃ v, V v ∧ F c v ∧ I v c', F, w, hw, fun i j n => ?_⟩
  have up : ∀ {m c d n : Nat}, pd_wk E w (fun c => c < N) m c d n → pd_wk (fun c c' => E c c' ∨ ∃ v, V v ∧ F c v ∧ I v c') w (fun c => c < N) m c d n := fun h => pd_wk_map (fun c => c) (fun _ h => h) (fun _ _ _ _ h => Or.inl h) (fun _ _ => rfl) _ _ _ _ h
  constructor
  · rintro ⟨m, hm⟩
    induction m generalizing i n with
    | zero =>
      rcases (h1 i j n).mp hm with a | ⟨c, d, m, a, b, e⟩
      · exact Or.inl a
      · exact Or.inr ⟨c, d, m, a, up b, e⟩
    | succ m ih =>
      obtain ⟨v, a, b, hV, hA, hB, rfl⟩ := hm
      have hB' := ih v b hB
      rcases (h1 i v a).mp hA with ⟨p1, rfl, p3, rfl⟩ | ⟨c, d, k, p1, p2, p3⟩
      · rw [Nat.zero_add]; exact hB'
      · rcases hB' with ⟨q1, rfl, q3, rfl⟩ | ⟨c2, d2, k2, q1, q2, q3⟩
        · exact Or.inr ⟨c, d, k, p1, up p2, p3⟩
        · obtain ⟨k3, hk⟩ := pd_wk_app q2 k c d a (up p2) (Or.inr ⟨v, hV, p3, q1⟩)
          exact Or.inr ⟨c, d2, k3, p1, hk, q3⟩
  · rintro (a | ⟨c, d, m, a, b, e⟩)
    · exact ⟨0, (h1 i j n).mpr (Or.inl a)⟩
    · induction m using Nat.strongRecOn generalizing i c n with
      | ind m ih =>
        rcases pd_cross m c d n b with h2 | ⟨e1, v, c2, m1, m2, n1, n2, a1, a2, a3, a4, a5, a6, rfl⟩
        · exact ⟨0, (h1 i j n).mpr (Or.inr ⟨c, d, m, a, h2, e⟩)⟩
        · obtain ⟨k, hk⟩ := ih m2 a6 v n2 c2 a4 a5
          exact ⟨k + 1, v, n1, n2, a2, (h1 i v n1).mpr (Or.inr ⟨c, e1, m1, a, a1, a3⟩), hk, rfl⟩
