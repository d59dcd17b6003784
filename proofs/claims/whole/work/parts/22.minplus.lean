/-! Least lengths: M i j is the least n with A i j n, 1000000 where there is none. -/
def pd_mn (A : pd_L) (M : Nat → Nat → Nat) : Prop := ∀ i j, i < 32 → j < 32 → M i j ≤ 1000000 ∧ (M i j < 1000000 → A i j (M i j)) ∧ ∀ n, A i j n → M i j ≤ n
theorem pd_mn_uniq {A : pd_L} {M M' : Nat → Nat → Nat} (h : pd_mn A M) (h' : pd_mn A M') {i j : Nat} (hi : i < 32) (hj : j < 32) : M i j = M' i j := by
  obtain ⟨a1, a2, a3⟩ := h i j hi hj
  obtain ⟨b1, b2, b3⟩ := h' i j hi hj
  by_cases c : M i j < 1000000
  · have d := b3 _ (a2 c)
    have e := a3 _ (b2 (by omega))
    omega
  · by_cases c' : M' i j < 1000000
    · have e := a3 _ (b2 c')
      omega
    · omega
theorem pd_mn_bd {A : pd_L} {M : Nat → Nat → Nat} {N : Nat} (h : pd_mn A M) (hA : pd_au A N) {i j : Nat} (hi : i < 32) (hj : j < 32) (hf : M i j < 1000000) : M i j ≤ N := by
  obtain ⟨a1, a2, a3⟩ := h i j hi hj
  obtain ⟨n', b1, b2, b3⟩ := pd_au_bd hA (a2 hf)
  have := a3 _ b1
  omega
theorem pd_mn_congr {A : pd_L} {M M' : Nat → Nat → Nat} (h : pd_mn A M) (he : ∀ i j, i < 32 → j < 32 → M' i j = M i j) : pd_mn A M' := by
  intro i j hi hj
  rw [he i j hi hj]
  exact h i j hi hj
theorem pd_mn_or {A B : pd_L} {M1 M2 M : Nat → Nat → Nat} (h1 : pd_mn A M1) (h2 : pd_mn B M2) (h : ∀ i j, i < 32 → j < 32 → M i j = min (M1 i j) (M2 i j)) : pd_mn (pd_or A B) M := by
  intro i j hi hj
  obtain ⟨a1, a2, a3⟩ := h1 i j hi hj
  obtain ⟨b1, b2, b3⟩ := h2 i j hi hj
  rw [h i j hi hj]
  refine ⟨by omega, fun hf => ?_, fun n hn => ?_⟩
  · by_cases c : M1 i j ≤ M2 i j
    · rw [Nat.min_eq_left c] at hf ⊢
      exact Or.inl (a2 hf)
    · rw [Nat.min_eq_right (by omega)] at hf ⊢
      exact Or.inr (b2 hf)
  · rcases hn with hn | hn
    · have := a3 n hn; omega
    · have := b3 n hn; omega
theorem pd_mn_no {M : Nat → Nat → Nat} (h : ∀ i j, i < 32 → j < 32 → M i j = 1000000) : pd_mn pd_no M := by
  intro i j hi hj
  rw [h i j hi hj]
  exact ⟨by omega, fun hf => by omega, fun n hn => by cases hn⟩
theorem pd_mn_ts {T : Nat → Prop} {M : Nat → Nat → Nat} (h : ∀ i j, i < 32 → j < 32 → (i = j ∧ T i → M i j = 0) ∧ (¬ (i = j ∧ T i) → M i j = 1000000)) : pd_mn (pd_ts T) M := by
  intro i j hi hj
  obtain ⟨h1, h2⟩ := h i j hi hj
  by_cases c : i = j ∧ T i
  · rw [h1 c]
    exact ⟨by omega, fun _ => ⟨c.1, hi, c.2, rfl⟩, fun n _ => Nat.zero_le _⟩
  · rw [h2 c]
    exact ⟨by omega, fun hf => by omega, fun n hn => absurd ⟨hn.1, hn.2.2.1⟩ c⟩
theorem pd_id_ts : pd_id = pd_ts (fun _ => True) := pd_ext fun i j n => ⟨fun h => ⟨h.1, h.2.1, trivial, h.2.2⟩, fun h => ⟨h.1, h.2.1, h.2.2.2⟩⟩
theorem pd_mn_id {M : Nat → Nat → Nat} (h : ∀ i j, i < 32 → j < 32 → (i = j → M i j = 0) ∧ (i ≠ j → M i j = 1000000)) : pd_mn pd_id M := by
  rw [pd_id_ts]
  exact pd_mn_ts fun i j hi hj => ⟨fun c => (h i j hi hj).1 c.1, fun c => (h i j hi hj).2 fun e => c ⟨e, trivial⟩⟩
theorem pd_mn_eg {E : Nat → Nat → Prop} {M : Nat → Nat → Nat} (h : ∀ i j, i < 32 → j < 32 → (E i j → M i j = 1) ∧ (¬ E i j → M i j = 1000000)) : pd_mn (pd_eg E) M := by
  intro i j hi hj
  obtain ⟨h1, h2⟩ := h i j hi hj
  by_cases c : E i j
  · rw [h1 c]
    exact ⟨by omega, fun _ => ⟨hi, hj, c, rfl⟩, fun n hn => by rw [hn.2.2.2]; exact Nat.le_refl _⟩
  · rw [h2 c]
    exact ⟨by omega, fun hf => by omega, fun n hn => absurd hn.2.2.1 c⟩
/-! one behind the other -/
def pd_sq (M1 M2 M : Nat → Nat → Nat) : Prop := ∀ i j, i < 32 → j < 32 → M i j ≤ 1000000 ∧ (M i j < 1000000 → ∃ v, v < 32 ∧ M1 i v < 1000000 ∧ M2 v j < 1000000 ∧ M i j = M1 i v + M2 v j) ∧
  ∀ v, v < 32 → M1 i v < 1000000 → M2 v j < 1000000 → M i j ≤ M1 i v + M2 v j
theorem pd_mn_sq {A B : pd_L} {M1 M2 M : Nat → Nat → Nat} (h1 : pd_mn A M1) (h2 : pd_mn B M2) (nA : pd_nd A) (h : pd_sq M1 M2 M) : pd_mn (pd_seq A B) M := by
  intro i j hi hj
  obtain ⟨a1, a2, a3⟩ := h i j hi hj
  refine ⟨a1, fun hf => ?_, fun n hn => ?_⟩
  · obtain ⟨v, hv, b1, b2, b3⟩ := a2 hf
    exact ⟨v, _, _, (h1 i v hi hv).2.1 b1, (h2 v j hv hj).2.1 b2, b3⟩
  · obtain ⟨v, a, b, hA, hB, rfl⟩ := hn
    have hv := (nA _ _ _ hA).2
    obtain ⟨p1, p2, p3⟩ := h1 i v hi hv
    obtain ⟨q1, q2, q3⟩ := h2 v j hv hj
    have p4 := p3 a hA
    have q4 := q3 b hB
    by_cases c1 : M1 i v < 1000000
    · by_cases c2 : M2 v j < 1000000
      · have := a3 v hv c1 c2; omega
      · omega
    · omega
/-! nodes in between, one after the other -/
theorem pd_pl_one {V : Nat → Prop} {A : pd_L} {i j n : Nat} (h : A i j n) : pd_pl V A i j n := ⟨0, h⟩
theorem pd_pl_step {V : Nat → Prop} {A : pd_L} {i v j a b : Nat} (hv : V v) (h1 : A i v a) (h2 : pd_pl V A v j b) : pd_pl V A i j (a + b) := by
  obtain ⟨m, hm⟩ := h2
  exact ⟨m + 1, v, a, b, hv, h1, hm, rfl⟩
theorem pd_pl_cat {V : Nat → Prop} {A : pd_L} {v j b : Nat} (hv : V v) (h2 : pd_pl V A v j b) : ∀ (m i a : Nat), pd_pw V A m i v a → pd_pl V A i j (a + b)
  | 0, i, a, h => pd_pl_step hv h h2
  | m + 1, i, a, h => by
    obtain ⟨u, a1, a2, hu, h3, h4, rfl⟩ := h
    rw [Nat.add_assoc]
    exact pd_pl_step hu h3 (pd_pl_cat hv h2 m u a2 h4)
theorem pd_pw_mono {V V' : Nat → Prop} {A : pd_L} (hV : ∀ v, V v → V' v) : ∀ (m i j n : Nat), pd_pw V A m i j n → pd_pw V' A m i j n
  | 0, _, _, _, h => h
  | m + 1, i, j, n, h => by
    obtain ⟨v, a, b, h1, h2, h3, h4⟩ := h
    exact ⟨v, a, b, hV v h1, h2, pd_pw_mono hV m v j b h3, h4⟩
theorem pd_pl_mono {V V' : Nat → Prop} {A : pd_L} (hV : ∀ v, V v → V' v) {i j n : Nat} (h : pd_pl V A i j n) : pd_pl V' A i j n := by
  obtain ⟨m, hm⟩ := h
  exact ⟨m, pd_pw_mono hV m i j n hm⟩
theorem pd_nd_pw {V : Nat → Prop} {A : pd_L} (h : pd_nd A) : ∀ (m i j n : Nat), pd_pw V A m i j n → i < 32 ∧ j < 32
  | 0, i, j, n, hm => h i j n hm
  | m + 1, i, j, n, hm => by
    obtain ⟨v, a, b, h1, h2, h3, h4⟩ := hm
    exact ⟨(h _ _ _ h2).1, (pd_nd_pw h m v j b h3).2⟩
theorem pd_nd_pl {V : Nat → Prop} {A : pd_L} (h : pd_nd A) : pd_nd (pd_pl V A) := by
  rintro i j n ⟨m, hm⟩
  exact pd_nd_pw h m i j n hm
theorem pd_nd_seq {A B : pd_L} (hA : pd_nd A) (hB : pd_nd B) : pd_nd (pd_seq A B) := by
  rintro i j n ⟨v, a, b, h1, h2, -⟩
  exact ⟨(hA _ _ _ h1).1, (hB _ _ _ h2).2⟩
theorem pd_nd_or {A B : pd_L} (hA : pd_nd A) (hB : pd_nd B) : pd_nd (pd_or A B) := by
  rintro i j n (h | h)
  · exact hA _ _ _ h
  · exact hB _ _ _ h
theorem pd_nd_id : pd_nd pd_id := by
  rintro i j n ⟨rfl, h, -⟩
  exact ⟨h, h⟩
theorem pd_nd_no : pd_nd pd_no := by
  intro i j n h
  cases h
theorem pd_nd_eg (E : Nat → Nat → Prop) : pd_nd (pd_eg E) := fun i j n h => ⟨h.1, h.2.1⟩
theorem pd_nd_ts (T : Nat → Prop) : pd_nd (pd_ts T) := by
  rintro i j n ⟨rfl, h, -⟩
  exact ⟨h, h⟩
theorem pd_fw0 {A : pd_L} {M : Nat → Nat → Nat} (h : pd_mn A M) : pd_mn (pd_pl (fun v => v < 0) A) M := by
  intro i j hi hj
  obtain ⟨a1, a2, a3⟩ := h i j hi hj
  refine ⟨a1, fun hf => pd_pl_one (a2 hf), fun n hn => ?_⟩
  obtain ⟨m, hm⟩ := hn
  cases m with
  | zero => exact a3 n hm
  | succ m =>
    obtain ⟨v, a, b, hv, -⟩ := hm
    exact absurd hv (Nat.not_lt_zero _)
/-- the next node in between: M' as each turn leaves it -/
theorem pd_fwS {A : pd_L} {M M' : Nat → Nat → Nat} {k : Nat} (hk : k < 32) (nA : pd_nd A) (h : pd_mn (pd_pl (fun v => v < k) A) M)
    (h' : ∀ i j, i < 32 → j < 32 → M' i j = if M i k < 1000000 ∧ M k j < 1000000 then min (M i j) (M i k + M k j) else M i j) : pd_mn (pd_pl (fun v => v < k + 1) A) M' := by
  have key : ∀ (m i j n : Nat), i < 32 → j < 32 → pd_pw (fun v => v < k + 1) A m i j n → M' i j ≤ n := by
    intro m
    induction m with
    | zero =>
      intro i j n hi hj hm
      have h1 := (h i j hi hj).2.2 n (pd_pl_one hm)
      rw [h' i j hi hj]
      split <;> omega
    | succ m ih =>
      intro i j n hi hj hm
      obtain ⟨v, a, b, hv, hA, hB, rfl⟩ := hm
      have hvn := (nA _ _ _ hA).2
      have i1 := ih v j b hvn hj hB
      have e1 := h' i j hi hj
      have e2 := h' v j hvn hj
      obtain ⟨o1, o2, o3⟩ := h i j hi hj
      by_cases big : 1000000 ≤ a + b
      · rw [e1]; split <;> omega
      · obtain ⟨v1, v2, v3⟩ := h v j hvn hj
        obtain ⟨k1, k2, k3⟩ := h k j hk hj
        obtain ⟨w1, w2, w3⟩ := h i k hi hk
        obtain ⟨x1, x2, x3⟩ := h v k hvn hk
        by_cases hvk : v < k
        · by_cases c : M v k < 1000000 ∧ M k j < 1000000
          · rw [if_pos c] at e2
            have t1 := w3 _ (pd_pl_step hvk hA (x2 c.1))
            by_cases c2 : M v j ≤ M v k + M k j
            · have t2 := o3 _ (pd_pl_step hvk hA (v2 (by omega)))
              rw [e1]; split <;> omega
            · rw [e1, if_pos ⟨by omega, c.2⟩]; omega
          · rw [if_neg c] at e2
            have t2 := o3 _ (pd_pl_step hvk hA (v2 (by omega)))
            rw [e1]; split <;> omega
        · have hvk2 : v = k := by omega
          subst hvk2
          have t1 := w3 a (pd_pl_one hA)
          by_cases c : M v v < 1000000 ∧ M v j < 1000000
          · rw [if_pos c] at e2
            rw [e1, if_pos ⟨by omega, c.2⟩]
            omega
          · rw [if_neg c] at e2
            rw [e1, if_pos ⟨by omega, by omega⟩]
            omega
  intro i j hi hj
  obtain ⟨a1, a2, a3⟩ := h i j hi hj
  refine ⟨by rw [h' i j hi hj]; split <;> omega, fun hf => ?_, fun n ⟨m, hm⟩ => key m i j n hi hj hm⟩
  have up : ∀ {x y z : Nat}, pd_pl (fun v => v < k) A x y z → pd_pl (fun v => v < k + 1) A x y z := fun h => pd_pl_mono (fun v hv => by omega) h
  rw [h' i j hi hj] at hf ⊢
  split at hf
  · rename_i c
    rw [if_pos c]
    by_cases c2 : M i j ≤ M i k + M k j
    · rw [Nat.min_eq_left c2] at hf ⊢
      exact up (a2 hf)
    · rw [Nat.min_eq_right (by omega)] at hf ⊢
      obtain ⟨m, hm⟩ := up ((h i k hi hk).2.1 c.1)
      exact pd_pl_cat (by omega) (up ((h k j hk hj).2.1 c.2)) m i _ hm
  · rename_i c
    rw [if_neg c]
    exact up (a2 hf)
/-! equal sets -/
theorem pd_pw32 {A : pd_L} (nA : pd_nd A) : ∀ (m i j n : Nat), pd_pw (fun _ => True) A m i j n → pd_pw (fun v => v < 32) A m i j n
  | 0, _, _, _, h => h
  | m + 1, i, j, n, h => by
    obtain ⟨v, a, b, -, h2, h3, h4⟩ := h
    exact ⟨v, a, b, (nA _ _ _ h2).2, h2, pd_pw32 nA m v j b h3, h4⟩
theorem pd_pl32 {A : pd_L} (nA : pd_nd A) : pd_pl (fun v => v < 32) A = pd_pl (fun _ => True) A :=
  pd_ext fun i j n => ⟨fun h => pd_pl_mono (fun _ _ => trivial) h, fun ⟨m, hm⟩ => ⟨m, pd_pw32 nA m i j n hm⟩⟩
theorem pd_seq_assoc (A B C : pd_L) : pd_seq (pd_seq A B) C = pd_seq A (pd_seq B C) := by
  refine pd_ext fun i j n => ⟨?_, ?_⟩
  · rintro ⟨v, a, b, ⟨u, a1, a2, h1, h2, rfl⟩, h3, rfl⟩
    exact ⟨u, a1, a2 + b, h1, ⟨v, a2, b, h2, h3, rfl⟩, by omega⟩
  · rintro ⟨u, a1, a2, h1, ⟨v, b1, b2, h2, h3, rfl⟩, rfl⟩
    exact ⟨v, a1 + b1, b2, ⟨u, a1, b1, h1, h2, rfl⟩, h3, by omega⟩
theorem pd_seq_id {A : pd_L} (nA : pd_nd A) : pd_seq A pd_id = A := by
  refine pd_ext fun i j n => ⟨?_, fun h => ⟨j, n, 0, h, ⟨rfl, (nA _ _ _ h).2, rfl⟩, rfl⟩⟩
  rintro ⟨v, a, b, h1, ⟨rfl, -, rfl⟩, rfl⟩
  exact h1
theorem pd_id_seq {A : pd_L} (nA : pd_nd A) : pd_seq pd_id A = A := by
  refine pd_ext fun i j n => ⟨?_, fun h => ⟨i, 0, n, ⟨rfl, (nA _ _ _ h).1, rfl⟩, h, by omega⟩⟩
  rintro ⟨v, a, b, ⟨rfl, -, rfl⟩, h1, rfl⟩
  rw [Nat.zero_add]
  exact h1
theorem pd_or_comm (A B : pd_L) : pd_or A B = pd_or B A := pd_ext fun _ _ _ => ⟨fun h => h.symm, fun h => h.symm⟩
theorem pd_or_assoc (A B C : pd_L) : pd_or (pd_or A B) C = pd_or A (pd_or B C) := pd_ext fun _ _ _ => or_assoc
theorem pd_no_or (A : pd_L) : pd_or pd_no A = A := pd_ext fun _ _ _ => ⟨fun h => h.elim (fun h => nomatch h) id, fun h => Or.inr h⟩
theorem pd_or_seq (A B C : pd_L) : pd_seq (pd_or A B) C = pd_or (pd_seq A C) (pd_seq B C) := by
  refine pd_ext fun i j n => ⟨?_, ?_⟩
  · rintro ⟨v, a, b, h1 | h1, h2, rfl⟩
    · exact Or.inl ⟨v, a, b, h1, h2, rfl⟩
    · exact Or.inr ⟨v, a, b, h1, h2, rfl⟩
  · rintro (⟨v, a, b, h1, h2, rfl⟩ | ⟨v, a, b, h1, h2, rfl⟩)
    · exact ⟨v, a, b, Or.inl h1, h2, rfl⟩
    · exact ⟨v, a, b, Or.inr h1, h2, rfl⟩
theorem pd_seq_or (A B C : pd_L) : pd_seq A (pd_or B C) = pd_or (pd_seq A B) (pd_seq A C) := by
  refine pd_ext fun i j n => ⟨?_, ?_⟩
  · rintro ⟨v, a, b, h1, h2 | h2, rfl⟩
    · exact Or.inl ⟨v, a, b, h1, h2, rfl⟩
    · exact Or.inr ⟨v, a, b, h1, h2, rfl⟩
  · rintro (⟨v, a, b, h1, h2, rfl⟩ | ⟨v, a, b, h1, h2, rfl⟩)
    · exact ⟨v, a, b, h1, Or.inl h2, rfl⟩
    · exact ⟨v, a, b, h1, Or.inr h2, rfl⟩
def pd_ps (A : pd_L) : pd_L := pd_pl (fun _ => True) A
/-- the closure of 'stays or A' is 'stays, or the closure of A' -/
theorem pd_ps_id {A : pd_L} (nA : pd_nd A) : pd_ps (pd_or pd_id A) = pd_or pd_id (pd_ps A) := by
  refine pd_ext fun i j n => ⟨?_, ?_⟩
  · rintro ⟨m, hm⟩
    induction m generalizing i n with
    | zero =>
      rcases hm with h | h
      · exact Or.inl h
      · exact Or.inr (pd_pl_one h)
    | succ m ih =>
      obtain ⟨v, a, b, -, h1, h2, rfl⟩ := hm
      have h3 := ih v b h2
      rcases h1 with ⟨rfl, h4, rfl⟩ | h1
      · rw [Nat.zero_add]; exact h3
      · rcases h3 with ⟨rfl, h4, rfl⟩ | h3
        · exact Or.inr (pd_pl_one h1)
        · exact Or.inr (pd_pl_step trivial h1 h3)
  · rintro (h | ⟨m, hm⟩)
    · exact pd_pl_one (Or.inl h)
    · refine ⟨m, ?_⟩
      induction m generalizing i n with
      | zero => exact Or.inr hm
      | succ m ih =>
        obtain ⟨v, a, b, -, h1, h2, rfl⟩ := hm
        exact ⟨v, a, b, trivial, Or.inr h1, ih v b h2, rfl⟩
/-- one A, and then any number of them -/
theorem pd_seq_ps {A : pd_L} (nA : pd_nd A) : pd_seq A (pd_or pd_id (pd_ps A)) = pd_ps A := by
  refine pd_ext fun i j n => ⟨?_, ?_⟩
  · rintro ⟨v, a, b, h1, ⟨rfl, -, rfl⟩ | h2, rfl⟩
    · exact pd_pl_one h1
    · exact pd_pl_step trivial h1 h2
  · rintro ⟨m, hm⟩
    cases m with
    | zero => exact ⟨j, n, 0, hm, Or.inl ⟨rfl, (nA _ _ _ hm).2, rfl⟩, rfl⟩
    | succ m =>
      obtain ⟨v, a, b, -, h1, h2, rfl⟩ := hm
      exact ⟨v, a, b, h1, Or.inr ⟨m, h2⟩, rfl⟩
/-! counted repeats: the class's row of copies, and the reference's -/
def pd_gt (A : pd_L) (m t : Nat) : pd_L := if m ≤ t then pd_or pd_id A else A
def pd_cp (A : pd_L) (m : Nat) : Nat → pd_L
  | 0 => pd_id
  | t + 1 => pd_seq (pd_gt A m t) (pd_cp A m t)
def pd_mo (A : pd_L) (m : Nat) : Nat → pd_L
  | 0 => pd_id
  | t + 1 => pd_seq (pd_mo A m t) (pd_gt A m t)
theorem pd_nd_gt {A : pd_L} (nA : pd_nd A) (m t : Nat) : pd_nd (pd_gt A m t) := by
  unfold pd_gt
  split
  · exact pd_nd_or pd_nd_id nA
  · exact nA
theorem pd_nd_cp {A : pd_L} (nA : pd_nd A) (m : Nat) : ∀ t, pd_nd (pd_cp A m t)
  | 0 => pd_nd_id
  | t + 1 => pd_nd_seq (pd_nd_gt nA m t) (pd_nd_cp nA m t)
theorem pd_nd_mo {A : pd_L} (nA : pd_nd A) (m : Nat) : ∀ t, pd_nd (pd_mo A m t)
  | 0 => pd_nd_id
  | t + 1 => pd_nd_seq (pd_nd_mo nA m t) (pd_nd_gt nA m t)
theorem pd_gt_comm {A : pd_L} (nA : pd_nd A) (m s t : Nat) : pd_seq (pd_gt A m s) (pd_gt A m t) = pd_seq (pd_gt A m t) (pd_gt A m s) := by
  unfold pd_gt
  split <;> split
  · rfl
  · rw [pd_or_seq, pd_seq_or, pd_id_seq nA, pd_seq_id nA]
  · rw [pd_or_seq, pd_seq_or, pd_id_seq nA, pd_seq_id nA]
  · rfl
theorem pd_gt_mo {A : pd_L} (nA : pd_nd A) (m s : Nat) : ∀ t, pd_seq (pd_gt A m s) (pd_mo A m t) = pd_seq (pd_mo A m t) (pd_gt A m s)
  | 0 => by
    show pd_seq (pd_gt A m s) pd_id = pd_seq pd_id (pd_gt A m s)
    rw [pd_seq_id (pd_nd_gt nA m s), pd_id_seq (pd_nd_gt nA m s)]
  | t + 1 => by
    show pd_seq (pd_gt A m s) (pd_seq (pd_mo A m t) (pd_gt A m t)) = pd_seq (pd_seq (pd_mo A m t) (pd_gt A m t)) (pd_gt A m s)
    rw [← pd_seq_assoc, pd_gt_mo nA m s t, pd_seq_assoc, pd_gt_comm nA m s t, ← pd_seq_assoc]
theorem pd_cp_mo {A : pd_L} (nA : pd_nd A) (m : Nat) : ∀ t, pd_cp A m t = pd_mo A m t
  | 0 => rfl
  | t + 1 => by
    show pd_seq (pd_gt A m t) (pd_cp A m t) = pd_seq (pd_mo A m t) (pd_gt A m t)
    rw [pd_cp_mo nA m t, pd_gt_mo nA m t t]
theorem pd_au_gt {A : pd_L} {N : Nat} (hA : pd_au A N) (m t : Nat) : pd_au (pd_gt A m t) N := by
  unfold pd_gt
  split
  · have := pd_au_or pd_au_id hA
    rwa [Nat.zero_add] at this
  · exact hA
theorem pd_au_cp {A : pd_L} {N : Nat} (hA : pd_au A N) (nA : pd_nd A) (m : Nat) : ∀ t, pd_au (pd_cp A m t) (N * t)
  | 0 => pd_au_id
  | t + 1 => by
    have := pd_au_seq (pd_au_gt hA m t) (pd_au_cp hA nA m t) (pd_nd_gt nA m t) (pd_nd_cp nA m t)
    rwa [show N + N * t = N * (t + 1) by rw [Nat.mul_add, Nat.mul_one, Nat.add_comm]] at this
theorem pd_au_st {A : pd_L} {N : Nat} (hA : pd_au A N) : pd_au (pd_or pd_id (pd_ps A)) N := by
  have := pd_au_or pd_au_id (pd_au_pl (fun _ => True) hA)
  rwa [Nat.zero_add] at this
theorem pd_au_mb {A : pd_L} {N : Nat} (hA : pd_au A N) : pd_au (pd_or pd_id A) N := by
  have := pd_au_or pd_au_id hA
  rwa [Nat.zero_add] at this
