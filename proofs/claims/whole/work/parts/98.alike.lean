/-! answers of equal matrices -/
theorem md_sp_c {M N : Nat → Nat → Nat} (h : ∀ i j, i < 32 → j < 32 → M i j = N i j) : ∀ k, k ≤ 1024 → md_sp M k = md_sp N k
  | 0, _ => rfl
  | k + 1, hk => by
    simp only [md_sp]
    rw [md_sp_c h k (by omega), h (k / 32) (k % 32) (by omega) (by omega)]
theorem md_be_c {M N : Nat → Nat → Nat} (h : ∀ i j, i < 32 → j < 32 → M i j = N i j) : ∀ k, k ≤ 32 → md_be M k = md_be N k
  | 0, _ => rfl
  | k + 1, hk => by
    have e : bc_n (fun j => decide (M k j < 1000000)) 32 = bc_n (fun j => decide (N k j < 1000000)) 32 := bc_congr fun j hj => by rw [h k j (by omega) hj]
    simp only [md_be]
    rw [md_be_c h k (by omega), e]
theorem md_fst_u {P Q : Nat → Prop} {r s : Int32} (h : ∀ i, i < 32 → (P i ↔ Q i)) (hp : md_fst P r) (hq : md_fst Q s) : r = s := by
  rcases hp with ⟨i, a1, a2, a3, rfl⟩ | ⟨a1, rfl⟩
  · rcases hq with ⟨j, b1, b2, b3, rfl⟩ | ⟨b1, rfl⟩
    · rcases Nat.lt_trichotomy i j with c | c | c
      · exact absurd ((h i a1).mp a2) (b3 i c)
      · rw [c]
      · exact absurd ((h j b1).mpr b2) (a3 j c)
    · exact absurd ((h i a1).mp a2) (b1 i a1)
  · rcases hq with ⟨j, b1, b2, b3, rfl⟩ | ⟨b1, rfl⟩
    · exact absurd ((h j b1).mpr b2) (a1 j b1)
    · rfl
theorem md_via_c {M N M' N' : Nat → Nat → Nat} (h : ∀ i j, i < 32 → j < 32 → M i j = M' i j) (h' : ∀ i j, i < 32 → j < 32 → N i j = N' i j) {i j : Nat} (hi : i < 32) (hj : j < 32) : ∀ v, v ≤ 32 → md_via M N i j v = md_via M' N' i j v
  | 0, _ => rfl
  | v + 1, hv => by
    simp only [md_via]
    rw [md_via_c h h' hi hj v (by omega), h i v hi (by omega), h' v j (by omega) hj]
theorem dk_pr_c {M N M' N' : Nat → Nat → Nat} (how : Nat) (h : ∀ i j, i < 32 → j < 32 → M i j = M' i j) (h' : ∀ i j, i < 32 → j < 32 → N i j = N' i j) : dk_pr how M N = dk_pr how M' N' := by
  unfold dk_pr md_cn
  refine bc_congr fun z hz => ?_
  dsimp only
  have hz1 : z / 32 < 32 := by omega
  have hz2 : z % 32 < 32 := by omega
  rw [md_via_c h h' hz1 hz2 32 (Nat.le_refl _), h (z / 32) (z % 32) (by omega) (by omega), h' (z % 32) (z / 32) (by omega) (by omega), h' (z / 32) (z % 32) (by omega) (by omega)]
theorem reach_u {M N : Nat → Nat → Nat} {r s : Int32} {a : Nat} {bw : Bool} (ha : a < 32) (h : ∀ i j, i < 32 → j < 32 → M i j = N i j) (h1 : ∀ j, j < 32 → bt r j = decide ((if bw then M j a else M a j) < 1000000)) (h2 : ∀ j, j < 32 → bt s j = decide ((if bw then N j a else N a j) < 1000000)) : r = s := by
  refine b_ext fun j hj => ?_
  rw [h1 j hj, h2 j hj, h j a hj ha, h a j ha hj]
