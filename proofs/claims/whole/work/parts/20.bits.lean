/-! bits (bt .. b_sshr8: the kit's BITS.to-paste, first family; the rest is own) -/
def bt (x : Int32) (i : Nat) : Bool := x.toBitVec.getLsbD i
theorem b_ext {x y : Int32} (h : ∀ i, i < 32 → bt x i = bt y i) : x = y := Int32.toBitVec_inj.mp (BitVec.eq_of_getLsbD_eq (fun i hi => h i hi))
theorem b_or (x y : Int32) (i : Nat) : bt (x ||| y) i = (bt x i || bt y i) := by unfold bt; rw [Int32.toBitVec_or, BitVec.getLsbD_or]
theorem b_and (x y : Int32) (i : Nat) : bt (x &&& y) i = (bt x i && bt y i) := by unfold bt; rw [Int32.toBitVec_and, BitVec.getLsbD_and]
theorem b_xor (x y : Int32) (i : Nat) : bt (x ^^^ y) i = (bt x i ^^ bt y i) := by unfold bt; rw [Int32.toBitVec_xor, BitVec.getLsbD_xor]
theorem b_big {x : Int32} {i : Nat} (h : 32 ≤ i) : bt x i = false := BitVec.getLsbD_of_ge _ _ h
theorem b_255 (i : Nat) : bt 255 i = decide (i < 8) := by
  rcases Nat.lt_or_ge i 32 with h | h
  · exact (by decide +kernel : ∀ i, i < 32 → bt 255 i = decide (i < 8)) i h
  · rw [b_big h, decide_eq_false (by omega)]
theorem b_65535 (i : Nat) : bt 65535 i = decide (i < 16) := by
  rcases Nat.lt_or_ge i 32 with h | h
  · exact (by decide +kernel : ∀ i, i < 32 → bt 65535 i = decide (i < 16)) i h
  · rw [b_big h, decide_eq_false (by omega)]
theorem b_m1 : ∀ i, i < 32 → bt (-1) i = true := by decide +kernel
theorem b_0 (i : Nat) : bt 0 i = false := BitVec.getLsbD_zero
theorem s_l : ∀ n, n < 32 → ((nI n &&& 31).toBitVec.smod 32).toNat = n := by decide +kernel
theorem s_u : ∀ n, n < 32 → (((nI n).toUInt32 &&& Int32.toUInt32 31).toBitVec % 32).toNat = n := by decide +kernel
theorem b_shl (n : Nat) (hn : n < 32) (x : Int32) {i : Nat} (hi : i < 32) : bt (x <<< (nI n &&& 31)) i = (decide (n ≤ i) && bt x (i - n)) := by
  unfold bt
  rw [Int32.toBitVec_shiftLeft]
  show (x.toBitVec <<< ((nI n &&& 31).toBitVec.smod 32).toNat).getLsbD i = _
  rw [s_l n hn, BitVec.getLsbD_shiftLeft]
  rcases Nat.lt_or_ge i n with h | h
  · simp [h, Nat.not_le.mpr h]
  · simp [hi, h, Nat.not_lt.mpr h]
theorem b_ushr (n : Nat) (hn : n < 32) (x : Int32) (i : Nat) : bt ((x.toUInt32 >>> ((nI n).toUInt32 &&& Int32.toUInt32 31)).toInt32) i = bt x (n + i) := by
  show (x.toUInt32 >>> ((nI n).toUInt32 &&& Int32.toUInt32 31)).toBitVec.getLsbD i = x.toUInt32.toBitVec.getLsbD (n + i)
  rw [UInt32.toBitVec_shiftRight]
  show (x.toUInt32.toBitVec >>> (((nI n).toUInt32 &&& Int32.toUInt32 31).toBitVec % 32).toNat).getLsbD i = _
  rw [s_u n hn, BitVec.getLsbD_ushiftRight]
theorem b_sshr (n : Nat) (hn : n < 32) (x : Int32) {i : Nat} (hi : i < 32) : bt (x >>> (nI n &&& 31)) i = if n + i < 32 then bt x (n + i) else bt x 31 := by
  unfold bt
  rw [Int32.toBitVec_shiftRight]
  show (x.toBitVec.sshiftRight ((nI n &&& 31).toBitVec.smod 32).toNat).getLsbD i = _
  rw [s_l n hn, BitVec.getLsbD_sshiftRight, BitVec.msb_eq_getLsbD_last]
  simp [hi]
theorem b_shl8 (x : Int32) {i : Nat} (hi : i < 32) : bt (x <<< ((8 : Int32) &&& 31)) i = (decide (8 ≤ i) && bt x (i - 8)) := b_shl 8 (by omega) x hi
theorem b_shl16 (x : Int32) {i : Nat} (hi : i < 32) : bt (x <<< ((16 : Int32) &&& 31)) i = (decide (16 ≤ i) && bt x (i - 16)) := b_shl 16 (by omega) x hi
theorem b_shl24 (x : Int32) {i : Nat} (hi : i < 32) : bt (x <<< ((24 : Int32) &&& 31)) i = (decide (24 ≤ i) && bt x (i - 24)) := b_shl 24 (by omega) x hi
theorem b_sshr8 (x : Int32) {i : Nat} (hi : i < 32) : bt (x >>> ((8 : Int32) &&& 31)) i = if 8 + i < 32 then bt x (8 + i) else bt x 31 := b_sshr 8 (by omega) x hi

/-! bits as sets of nodes -/
theorem bt_nI {x i : Nat} (hx : x < 2 ^ 32) : bt (nI x) i = x.testBit i := by
  show (BitVec.ofNat 32 x).getLsbD i = _
  rw [BitVec.getLsbD_ofNat]
  by_cases hi : i < 32
  · simp [hi]
  · have : x.testBit i = false := Nat.testBit_lt_two_pow (Nat.lt_of_lt_of_le hx (Nat.pow_le_pow_right (by omega) (by omega)))
    simp [hi, this]
theorem bt_one (t : Nat) (ht : t < 32) (i : Nat) (hi : i < 32) : bt ((1 : Int32) <<< (nI t &&& 31)) i = decide (i = t) := by
  rw [b_shl t ht 1 hi]
  by_cases h : t ≤ i
  · by_cases e : i = t
    · subst e
      simp
      decide +kernel
    · have : bt (1 : Int32) (i - t) = false := (by decide +kernel : ∀ j, j < 32 → j ≠ 0 → bt (1 : Int32) j = false) (i - t) (by omega) (by omega)
      simp [e, this]
  · have e : ¬ i = t := by omega
    simp [h, e]
theorem bt_and1 (x : Int32) : (x &&& 1) = 0 ↔ bt x 0 = false := by
  constructor
  · intro h
    have := congrArg (fun z => bt z 0) h
    simp only [b_and, b_0] at this
    rw [show bt (1 : Int32) 0 = true by decide +kernel, Bool.and_true] at this
    exact this
  · intro h
    refine b_ext fun i hi => ?_
    rw [b_and, b_0]
    by_cases e : i = 0
    · subst e
      rw [h]; rfl
    · rw [(by decide +kernel : ∀ j, j < 32 → j ≠ 0 → bt (1 : Int32) j = false) i hi e, Bool.and_false]
/-- isIn -/
theorem bt_in (x : Int32) {t : Nat} (ht : t < 32) : ((x.toUInt32 >>> ((nI t).toUInt32 &&& Int32.toUInt32 31)).toInt32 &&& 1) = 0 ↔ bt x t = false := by
  rw [bt_and1, b_ushr t ht x 0, Nat.add_zero]
/-- nothing stands from t on -/
theorem bt_ush (x : Int32) {t : Nat} (ht : t < 32) : (x.toUInt32 >>> ((nI t).toUInt32 &&& Int32.toUInt32 31)).toInt32 = 0 ↔ ∀ i, t ≤ i → i < 32 → bt x i = false := by
  constructor
  · intro h i h1 h2
    have := congrArg (fun z => bt z (i - t)) h
    simp only [b_0] at this
    rw [b_ushr t ht x, show t + (i - t) = i by omega] at this
    exact this
  · intro h
    refine b_ext fun i hi => ?_
    rw [b_ushr t ht x, b_0]
    by_cases e : t + i < 32
    · exact h _ (by omega) e
    · exact b_big (by omega)
theorem bt_zero {x : Int32} : x = 0 ↔ ∀ i, i < 32 → bt x i = false := by
  constructor
  · rintro rfl i _
    exact b_0 i
  · intro h
    exact b_ext fun i hi => by rw [h i hi, b_0]
theorem bt_not (x : Int32) {i : Nat} (hi : i < 32) : bt (x ^^^ (-1)) i = !bt x i := by
  rw [b_xor, b_m1 i hi]
  cases bt x i <;> rfl
theorem bt_mask (x : Int32) {t : Nat} (ht : t < 32) : (x &&& ((1 : Int32) <<< (nI t &&& 31))) = 0 ↔ bt x t = false := by
  rw [bt_zero]
  constructor
  · intro h
    have := h t ht
    rw [b_and, bt_one t ht t ht, decide_eq_true rfl, Bool.and_true] at this
    exact this
  · intro h i hi
    rw [b_and, bt_one t ht i hi]
    by_cases e : i = t
    · subst e
      rw [h]; rfl
    · rw [decide_eq_false e, Bool.and_false]
/-! how many -/
def bc_n (f : Nat → Bool) : Nat → Nat
  | 0 => 0
  | n + 1 => bc_n f n + if f n then 1 else 0
theorem bc_le (f : Nat → Bool) : ∀ n, bc_n f n ≤ n
  | 0 => Nat.le_refl _
  | n + 1 => by
    have := bc_le f n
    unfold bc_n
    split <;> omega
theorem bc_congr {f g : Nat → Bool} : ∀ {n : Nat}, (∀ i, i < n → f i = g i) → bc_n f n = bc_n g n
  | 0, _ => rfl
  | n + 1, h => by
    unfold bc_n
    rw [bc_congr (fun i hi => h i (by omega)), h n (by omega)]
theorem bc_add (f : Nat → Bool) (m : Nat) : ∀ n, bc_n f (m + n) = bc_n f m + bc_n (fun i => f (m + i)) n
  | 0 => rfl
  | n + 1 => by
    show bc_n f (m + n) + (if f (m + n) then 1 else 0) = bc_n f m + (bc_n (fun i => f (m + i)) n + (if f (m + n) then 1 else 0))
    rw [bc_add f m n]
    exact Nat.add_assoc _ _ _
theorem bc_land {a b c d : Nat} (ha : a < 2 ^ 8) (hc : c < 2 ^ 8) : (2 ^ 8 * b + a) &&& (2 ^ 8 * d + c) = 2 ^ 8 * (b &&& d) + (a &&& c) := by
  apply Nat.eq_of_testBit_eq
  intro i
  have hac : a &&& c < 2 ^ 8 := Nat.lt_of_le_of_lt Nat.and_le_left ha
  rw [Nat.testBit_and, Nat.testBit_two_pow_mul_add _ ha, Nat.testBit_two_pow_mul_add _ hc, Nat.testBit_two_pow_mul_add _ hac]
  split
  · rw [Nat.testBit_and]
  · rw [Nat.testBit_and]
def bc_8 (a : Nat) : Nat := bc_n (fun i => a.testBit i) 8
def bc_t1 (a : Nat) : Nat := a - (a / 2 &&& 0x55)
def bc_t2 (u : Nat) : Nat := (u &&& 0x33) + (u / 4 &&& 0x33)
theorem bc_b1 : ∀ a, a < 256 → ∀ z, z < 2 → ((128 * z + a / 2) &&& 0x55) = (a / 2 &&& 0x55) ∧ (a / 2 &&& 0x55) ≤ a ∧ bc_t1 a < 256 := by decide +kernel
theorem bc_b2 : ∀ a, a < 256 → ∀ z, z < 4 → ((64 * z + a / 4) &&& 0x33) = (a / 4 &&& 0x33) := by decide +kernel
theorem bc_b3 : ∀ a, a < 256 → bc_t2 (bc_t1 a) % 16 ≤ 4 ∧ bc_t2 (bc_t1 a) / 16 ≤ 4 ∧ bc_t2 (bc_t1 a) < 256 ∧ bc_t2 (bc_t1 a) % 16 + bc_t2 (bc_t1 a) / 16 = bc_8 a ∧ bc_8 a ≤ 8 := by decide +kernel
theorem bc_b4 : ∀ a, a < 256 → (a &&& 0x0f) = a % 16 := by decide +kernel
theorem bc_s1 {x a b c d : Nat} (ha : a < 256) (hb : b < 256) (hc : c < 256) (hd : d < 256) (hx : x = 2 ^ 8 * (2 ^ 8 * (2 ^ 8 * d + c) + b) + a) : x - (x / 2 &&& 0x55555555) = 2 ^ 8 * (2 ^ 8 * (2 ^ 8 * bc_t1 d + bc_t1 c) + bc_t1 b) + bc_t1 a ∧ (x / 2 &&& 0x55555555) ≤ x := by
  have e1 : x / 2 = 2 ^ 8 * (2 ^ 8 * (2 ^ 8 * (d / 2) + (128 * (d % 2) + c / 2)) + (128 * (c % 2) + b / 2)) + (128 * (b % 2) + a / 2) := by omega
  have e2 : (0x55555555 : Nat) = 2 ^ 8 * (2 ^ 8 * (2 ^ 8 * 0x55 + 0x55) + 0x55) + 0x55 := by decide
  obtain ⟨a1, a2, a3⟩ := bc_b1 a ha (b % 2) (by omega)
  obtain ⟨b1, b2, b3⟩ := bc_b1 b hb (c % 2) (by omega)
  obtain ⟨c1, c2, c3⟩ := bc_b1 c hc (d % 2) (by omega)
  obtain ⟨d1, d2, d3⟩ := bc_b1 d hd 0 (by omega)
  have e3 : x / 2 &&& 0x55555555 = 2 ^ 8 * (2 ^ 8 * (2 ^ 8 * (d / 2 &&& 0x55) + (c / 2 &&& 0x55)) + (b / 2 &&& 0x55)) + (a / 2 &&& 0x55) := by
    rw [e1, e2, bc_land (by omega) (by decide), bc_land (by omega) (by decide), bc_land (by omega) (by decide), a1, b1, c1]
  rw [e3]
  unfold bc_t1
  generalize (a / 2 &&& 0x55) = A at *
  generalize (b / 2 &&& 0x55) = B at *
  generalize (c / 2 &&& 0x55) = C at *
  generalize (d / 2 &&& 0x55) = E at *
  omega
theorem bc_s2 {x a b c d : Nat} (ha : a < 256) (hb : b < 256) (hc : c < 256) (hd : d < 256) (hx : x = 2 ^ 8 * (2 ^ 8 * (2 ^ 8 * d + c) + b) + a) : (x &&& 0x33333333) + (x / 4 &&& 0x33333333) = 2 ^ 8 * (2 ^ 8 * (2 ^ 8 * bc_t2 d + bc_t2 c) + bc_t2 b) + bc_t2 a := by
  have e1 : x / 4 = 2 ^ 8 * (2 ^ 8 * (2 ^ 8 * (d / 4) + (64 * (d % 4) + c / 4)) + (64 * (c % 4) + b / 4)) + (64 * (b % 4) + a / 4) := by omega
  have e2 : (0x33333333 : Nat) = 2 ^ 8 * (2 ^ 8 * (2 ^ 8 * 0x33 + 0x33) + 0x33) + 0x33 := by decide
  have a1 := bc_b2 a ha (b % 4) (by omega)
  have b1 := bc_b2 b hb (c % 4) (by omega)
  have c1 := bc_b2 c hc (d % 4) (by omega)
  have e3 : x / 4 &&& 0x33333333 = 2 ^ 8 * (2 ^ 8 * (2 ^ 8 * (d / 4 &&& 0x33) + (c / 4 &&& 0x33)) + (b / 4 &&& 0x33)) + (a / 4 &&& 0x33) := by
    rw [e1, e2, bc_land (by omega) (by decide), bc_land (by omega) (by decide), bc_land (by omega) (by decide), a1, b1, c1]
  have e4 : x &&& 0x33333333 = 2 ^ 8 * (2 ^ 8 * (2 ^ 8 * (d &&& 0x33) + (c &&& 0x33)) + (b &&& 0x33)) + (a &&& 0x33) := by
    rw [hx, e2, bc_land (by omega) (by decide), bc_land (by omega) (by decide), bc_land (by omega) (by decide)]
  rw [e3, e4]
  unfold bc_t2
  omega
theorem bc_end {p q r t w v u : Nat} (hp : p ≤ 8) (hq : q ≤ 8) (hr : r ≤ 8) (ht : t ≤ 8) (hw : w = 256 * (256 * (256 * t + r) + q) + p) (hv : v = w + w / 256) (hu : u = v + v / 65536) : u % 64 = p + q + r + t ∧ w < 1073741824 := by
  have e1 : w / 256 = 256 * (256 * t + r) + q := by omega
  have e2 : v = 256 * (256 * (256 * t + (r + t)) + (q + r)) + (p + q) := by omega
  have e3 : v / 65536 = 256 * t + (r + t) := by omega
  omega
theorem bc_nat {x : Nat} (hx : x < 2 ^ 32) {y z w v u : Nat} (hy : y = x - (x / 2 &&& 0x55555555)) (hz : z = (y &&& 0x33333333) + (y / 4 &&& 0x33333333)) (hw : w = (z + z / 16) &&& 0x0f0f0f0f) (hv : v = w + w / 256) (hu : u = v + v / 65536) : u % 64 = bc_n (fun i => x.testBit i) 32 ∧ (x / 2 &&& 0x55555555) ≤ x ∧ z < 2 ^ 31 ∧ w < 2 ^ 30 := by
  obtain ⟨a, b, c, d, ha, hb, hc, hd, hx2⟩ : ∃ a b c d, a < 256 ∧ b < 256 ∧ c < 256 ∧ d < 256 ∧ x = 2 ^ 8 * (2 ^ 8 * (2 ^ 8 * d + c) + b) + a := ⟨x % 256, x / 256 % 256, x / 65536 % 256, x / 16777216, by omega, by omega, by omega, by omega, by omega⟩
  obtain ⟨s1, s2⟩ := bc_s1 ha hb hc hd hx2
  have ta := (bc_b1 a ha 0 (by omega)).2.2
  have tb := (bc_b1 b hb 0 (by omega)).2.2
  have tc := (bc_b1 c hc 0 (by omega)).2.2
  have td := (bc_b1 d hd 0 (by omega)).2.2
  have s3 := bc_s2 ta tb tc td (hy.trans s1)
  rw [← hz] at s3
  obtain ⟨a1, a2, a3, a4, a5⟩ := bc_b3 a ha
  obtain ⟨b1, b2, b3, b4, b5⟩ := bc_b3 b hb
  obtain ⟨c1, c2, c3, c4, c5⟩ := bc_b3 c hc
  obtain ⟨d1, d2, d3, d4, d5⟩ := bc_b3 d hd
  generalize bc_t2 (bc_t1 a) = A at *
  generalize bc_t2 (bc_t1 b) = B at *
  generalize bc_t2 (bc_t1 c) = C at *
  generalize bc_t2 (bc_t1 d) = E at *
  have e1 : z + z / 16 = 2 ^ 8 * (2 ^ 8 * (2 ^ 8 * (E + E / 16) + (C + C / 16 + 16 * (E % 16))) + (B + B / 16 + 16 * (C % 16))) + (A + A / 16 + 16 * (B % 16)) := by omega
  have e2 : (0x0f0f0f0f : Nat) = 2 ^ 8 * (2 ^ 8 * (2 ^ 8 * 0x0f + 0x0f) + 0x0f) + 0x0f := by decide
  have e3 : w = 2 ^ 8 * (2 ^ 8 * (2 ^ 8 * bc_8 d + bc_8 c) + bc_8 b) + bc_8 a := by
    rw [hw, e1, e2, bc_land (by omega) (by decide), bc_land (by omega) (by decide), bc_land (by omega) (by decide), bc_b4 _ (by omega), bc_b4 _ (by omega), bc_b4 _ (by omega), bc_b4 _ (by omega)]
    omega
  have e4 : bc_n (fun i => x.testBit i) 32 = bc_8 a + bc_8 b + bc_8 c + bc_8 d := by
    have k : ∀ (f : Nat → Bool), bc_n f 32 = bc_n f 8 + bc_n (fun i => f (8 + i)) 8 + bc_n (fun i => f (16 + i)) 8 + bc_n (fun i => f (24 + i)) 8 := by
      intro f
      rw [show (32 : Nat) = 8 + 24 from rfl, bc_add f 8 24, show (24 : Nat) = 8 + 16 from rfl, bc_add _ 8 16, show (16 : Nat) = 8 + 8 from rfl, bc_add _ 8 8]
      simp only [← Nat.add_assoc]
    rw [k]
    have q1 : bc_n (fun i => x.testBit i) 8 = bc_8 a := bc_congr fun i hi => by rw [hx2, Nat.testBit_two_pow_mul_add _ ha, if_pos hi]
    have q2 : bc_n (fun i => x.testBit (8 + i)) 8 = bc_8 b := bc_congr fun i hi => by
      show x.testBit (8 + i) = _
      rw [hx2, Nat.testBit_two_pow_mul_add _ ha, if_neg (by omega), show 8 + i - 8 = i by omega, Nat.testBit_two_pow_mul_add _ hb, if_pos hi]
    have q3 : bc_n (fun i => x.testBit (16 + i)) 8 = bc_8 c := bc_congr fun i hi => by
      show x.testBit (16 + i) = _
      rw [hx2, Nat.testBit_two_pow_mul_add _ ha, if_neg (by omega), show 16 + i - 8 = 8 + i by omega, Nat.testBit_two_pow_mul_add _ hb, if_neg (by omega), show 8 + i - 8 = i by omega, Nat.testBit_two_pow_mul_add _ hc, if_pos hi]
    have q4 : bc_n (fun i => x.testBit (24 + i)) 8 = bc_8 d := bc_congr fun i hi => by
      show x.testBit (24 + i) = _
      rw [hx2, Nat.testBit_two_pow_mul_add _ ha, if_neg (by omega), show 24 + i - 8 = 16 + i by omega, Nat.testBit_two_pow_mul_add _ hb, if_neg (by omega), show 16 + i - 8 = 8 + i by omega, Nat.testBit_two_pow_mul_add _ hc, if_neg (by omega), show 8 + i - 8 = i by omega]
    rw [q1, q2, q3, q4]
  rw [e4]
  have e5 := bc_end a5 b5 c5 d5 e3 hv hu
  refine ⟨e5.1, s2, ?_, e5.2⟩
  clear hv hu hw e1 e3 e4 e5 s1 s2 hy hx hx2
  omega
