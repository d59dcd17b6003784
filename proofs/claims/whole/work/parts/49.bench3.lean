/-! matrices and sets -/
theorem mn_no : pd_mn pd_no md_no := pd_mn_no fun _ _ _ _ => rfl
theorem mn_st {A : pd_L} {M : Nat → Nat → Nat} {T : Nat → Prop} {x : Int32} (h : pd_mn A M) (hx : ∀ i, i < 32 → (bt x i = true ↔ T i)) : pd_mn (pd_or A (pd_ts T)) (md_st M x 32) := by
  refine pd_mn_or (M2 := md_st md_no x 32) h ?_ ?_
  · refine pd_mn_ts fun i j hi hj => ⟨fun c => ?_, fun c => ?_⟩
    · unfold md_st; rw [if_pos ⟨c.1, hi, (hx i hi).mpr c.2⟩]
    · unfold md_st; rw [if_neg (fun q => c ⟨q.1, (hx i hi).mp q.2.2⟩)]; rfl
  · intro i j hi hj
    have := (h i j hi hj).1
    unfold md_st md_no
    split <;> omega
theorem mn_ae {A : pd_L} {M : Nat → Nat → Nat} {nx : Nat → Nat → Bool} {bw : Bool} (h : pd_mn A M) : pd_mn (pd_or A (pd_eg (fun i j => (if bw then nx j i else nx i j) = true))) (md_ae M nx bw 32 0) := by
  have key : ∀ (N : Nat → Nat → Nat) (x y : Nat), x < 32 → y < 32 → md_ae N nx bw 32 0 x y = if (if bw then nx y x else nx x y) = true then min (N x y) 1 else N x y := by
    intro N x y hx hy
    unfold md_ae
    cases bw with
    | true => simp only [if_true]; simp [hy]
    | false => simp only [Bool.false_eq_true, if_false]; simp [hx]
  refine pd_mn_or (M2 := md_ae md_no nx bw 32 0) h ?_ ?_
  · refine pd_mn_eg fun i j hi hj => ⟨fun c => ?_, fun c => ?_⟩
    · rw [key _ _ _ hi hj, if_pos c]; rfl
    · rw [key _ _ _ hi hj, if_neg c]; rfl
  · intro i j hi hj
    have := (h i j hi hj).1
    rw [key _ _ _ hi hj, key _ _ _ hi hj]
    unfold md_no
    generalize (if bw then nx j i else nx i j) = c
    cases c
    · simp only [Bool.false_eq_true, if_false]; omega
    · simp only [if_true]; omega
theorem mn_mi {A B : pd_L} {M N : Nat → Nat → Nat} (h1 : pd_mn A M) (h2 : pd_mn B N) : pd_mn (pd_or A B) (md_mi M N 32) := by
  refine pd_mn_or h1 h2 fun i j hi hj => ?_
  have a := (h1 i j hi hj).1
  have b := (h2 i j hi hj).1
  unfold md_mi
  split <;> omega
theorem mn_ch {A B : pd_L} {C D : Nat → Nat → Nat} (h1 : pd_mn A C) (h2 : pd_mn B D) (nA : pd_nd A) : pd_mn (pd_seq A B) (fun x y => md_ch C D x 32 y) := pd_mn_sq h1 h2 nA (md_ch_sq C D)
theorem mn_fwk {A : pd_L} {M : Nat → Nat → Nat} (h : pd_mn A M) (nA : pd_nd A) : ∀ k, k ≤ 32 → pd_mn (pd_pl (fun v => v < k) A) (md_fw M k)
  | 0, _ => pd_fw0 h
  | k + 1, hk => pd_fwS (by omega) nA (mn_fwk h nA k (by omega)) (fun _ _ _ _ => rfl)
theorem mn_fw {A : pd_L} {M : Nat → Nat → Nat} (h : pd_mn A M) (nA : pd_nd A) : pd_mn (pd_ps A) (md_fw M 32) := by
  have := mn_fwk h nA 32 (Nat.le_refl _)
  rw [pd_pl32 nA] at this
  exact this
theorem mn_fwb {A : pd_L} {M : Nat → Nat → Nat} {N : Nat} (h : pd_mn A M) (nA : pd_nd A) (hA : pd_au A N) (hN : N ≤ 2560) : ∀ k x y, k < 32 → x < 32 → y < 32 → md_fw M k x k < 1000000 → md_fw M k k y < 1000000 → md_fw M k x k + md_fw M k k y < 1000000 := by
  intro k x y hk hx hy h1 h2
  have a := mn_fwk h nA k (by omega)
  have b := pd_au_pl (fun v => v < k) hA
  have c := pd_mn_bd a b hx hk h1
  have d := pd_mn_bd a b hk hy h2
  omega
set_option maxHeartbeats 4000000 in
set_option maxRecDepth 100000 in
theorem c_BE_copyTop (K : xK) (n : Nat) (h : xH) (o ht made mk m t N : Nat) (ad : Nat → Nat) (sp : Nat) (Mv : Nat → Nat → Nat → Nat) (A : pd_L) (hr : be_R K h n o ht made ad sp Mv) (h1 : 1 ≤ ht) (hm : ht ≤ made) (h24 : ht < 24) (hmk : (mk = 0 ∧ ht < made) ∨ (mk = 1 ∧ ht = made)) (hA : pd_mn A (Mv (ht - 1))) (nA : pd_nd A) (uA : pd_au A N) (hN : N ≤ 2560) (hNt : N * t ≤ 2560) (ht9 : t < 100) (hm9 : m < 100000) : XM K xy_BE_copyTop xw_BE_copyTop (xrm 4 76 (3 * mk) (1058 * mk)) [.ref (o + 8), .int (nI m), .int (nI t)] n h (x_pv fun n' h' => n' = n + 3 * mk ∧ be_fr o h h' ∧ ∃ ad' sp' Mv', be_R K h' n' o ht (made + mk) ad' sp' Mv' ∧ (∀ i, i < ht - 1 → Mv' i = Mv i) ∧ pd_mn (pd_cp A m t) (Mv' (ht - 1))) (3 * mk) (1058 * mk) := by
  obtain ⟨⟨pl, p1, p2, p3⟩, pin⟩ := id hr
  refine xm_v (by decide +kernel) (Nat.le_of_ble_eq_true rfl) (fun G hF hR => ?_)
  refine xv_aload_n (pc' := 1) (i := 0) hF xd_BE_copyTop_0 rfl rfl rfl ?_
  refine xv_callVr (pc' := 4) (ci := 5) hF (c_BE_top K n h o ht made ad sp Mv hr h1 hm) xq_BE_top xk_BE_m56 xk_i_BE_top xk_s_BE_top (by first | assumption | exact xu_self | (refine (xu_ne (by omega)).trans ?_; first | assumption | exact xu_self | (refine (xu_ne (by omega)).trans ?_; first | assumption | exact xu_self | (refine (xu_ne (by omega)).trans ?_; first | assumption | exact xu_self | (refine (xu_ne (by omega)).trans ?_; first | assumption | exact xu_self))))) rfl ⟨(Nat.le_of_ble_eq_true rfl), (Nat.le_of_ble_eq_true rfl)⟩ rfl rfl (Nat.le_of_ble_eq_true rfl) ⟨(by exact Nat.zero_le _), (by exact Nat.zero_le _)⟩ xd_BE_copyTop_1 rfl (fun r n1 h1 q1 => ?_)
  obtain ⟨rfl, rfl, rfl⟩ := q1
  refine xv_astore_n (pc' := 5) (i := 3) hF xd_BE_copyTop_4 rfl (Nat.le_of_ble_eq_true rfl) rfl rfl ?_
  refine xv_aload_n (pc' := 6) (i := 0) hF xd_BE_copyTop_5 rfl rfl rfl ?_
  refine xv_callVr (pc' := 9) (ci := 5) hF (c_BE_layDown K n h o ht made mk ad sp Mv hr h24 hmk) xq_BE_layDown xk_BE_m32 xk_i_BE_layDown xk_s_BE_layDown (by first | assumption | exact xu_self | (refine (xu_ne (by omega)).trans ?_; first | assumption | exact xu_self | (refine (xu_ne (by omega)).trans ?_; first | assumption | exact xu_self | (refine (xu_ne (by omega)).trans ?_; first | assumption | exact xu_self | (refine (xu_ne (by omega)).trans ?_; first | assumption | exact xu_self))))) rfl ⟨(Nat.le_of_ble_eq_true rfl), (Nat.le_of_ble_eq_true rfl)⟩ rfl rfl (Nat.le_of_ble_eq_true rfl) ⟨(by first | (show 0 + 0 + 3 * mk ≤ 3 * mk; omega) | (show 0 + 0 + 1058 * mk ≤ 1058 * mk; omega)), (by first | (show 0 + 0 + 3 * mk ≤ 3 * mk; omega) | (show 0 + 0 + 1058 * mk ≤ 1058 * mk; omega))⟩ xd_BE_copyTop_6 rfl (fun r n1 h1 q1 => ?_)
  obtain ⟨rfl, hfr1, ad1, rfl, hsame, hr1⟩ := q1
  have hmk1 : ht < made + mk := by omega
  rw [← hsame (ht - 1) (by omega)]
  obtain ⟨f, g, ⟨z1, z2, z3⟩, z4⟩ := id (hr1.2.2.2.1 ht hmk1).2
  refine xv_astore (pc' := 11) hF xd_BE_copyTop_9 (Nat.le_of_ble_eq_true rfl) rfl rfl ?_
  refine xv_aload (pc' := 13) hF xd_BE_copyTop_11 rfl rfl ?_
  refine xv_iconst (pc' := 14) (v := -1) hF xd_BE_copyTop_13 (by decide +kernel) rfl ?_
  refine xv_callVv (pc' := 17) (ci := 2) hF (c_RE_addStays K _ h1 (ad1 ht) (-1) _ (hr1.2.2.2.1 ht hmk1).2) xq_RE_addStays xk_BE_m36 xk_i_RE_addStays xk_s_RE_addStays (by first | assumption | exact xu_self | (refine (xu_ne (by omega)).trans ?_; first | assumption | exact xu_self | (refine (xu_ne (by omega)).trans ?_; first | assumption | exact xu_self | (refine (xu_ne (by omega)).trans ?_; first | assumption | exact xu_self | (refine (xu_ne (by omega)).trans ?_; first | assumption | exact xu_self))))) rfl ⟨(Nat.le_of_ble_eq_true rfl), (Nat.le_of_ble_eq_true rfl)⟩ rfl rfl (Nat.le_of_ble_eq_true rfl) ⟨(by first | (show 0 + 0 + 3 * mk + 0 ≤ 3 * mk; omega) | (show 0 + 0 + 1058 * mk + 0 ≤ 1058 * mk; omega)), (by first | (show 0 + 0 + 3 * mk + 0 ≤ 3 * mk; omega) | (show 0 + 0 + 1058 * mk + 0 ≤ 1058 * mk; omega))⟩ xd_BE_copyTop_14 rfl (fun n2 h2 q2 => ?_)
  obtain ⟨rfl, f2, r2⟩ := q2
  have hr2 := be_upd hr1 hmk1 f2 r2
  have hfr2 := hfr1.tr (be_frR (hr1.2.2.2.1 ht hmk1).1 f2)
  have m2 : pd_mn pd_id (md_st (va_up Mv ht md_no ht) (-1) 32) := by
    rw [va_up_self, pd_id_ts, ← pd_no_or (pd_ts _)]
    exact mn_st mn_no fun i hi => by simp [b_m1 i hi]
  clear z1 z2 z3 z4 p1 p2 p3
  refine xv_iconstN (pc' := 18) 0 hF xd_BE_copyTop_17 (by decide +kernel) rfl ?_
  refine xv_istore (pc' := 20) hF xd_BE_copyTop_18 (Nat.le_of_ble_eq_true rfl) rfl rfl ?_
  obtain ⟨⟨pl2, q1, q2, q3, q4⟩, i1, i2, i3, i4, ⟨Ms, i5⟩, i6, i7⟩ := id hr2
  have M1 : va_up (va_up Mv ht md_no) ht (md_st (va_up Mv ht md_no ht) (-1) 32) = va_up Mv ht (md_st (va_up Mv ht md_no ht) (-1) 32) := bx_uu _ _ _ _
  rw [M1] at i3
  have hone : ∀ i, i ≠ ht → va_up Mv ht (md_st (va_up Mv ht md_no ht) (-1) 32) i = Mv i := fun i hi => by unfold va_up; rw [if_neg hi]
  have loop : ∀ d u h3 dA sA D, t - u = d → u ≤ t → be_fr o h h3 → h3 (o + 8) = some (.inr (5, [.ref (o + 9), .int (nI (ht + 1)), .ref sA])) → h3 (o + 9) = some (.inl (K.2.2.1 4, 24, .inr (.inr (.inr (.inr pl2))))) →
      (∀ i, i < made + mk → i ≠ ht → re_R K h3 (ad1 i) (Mv i) ∧ re_ap (ad1 i) dA ∧ re_ap (ad1 i) sA) → re_ap dA sA → be_ok o (n + 3 * mk) dA → be_ok o (n + 3 * mk) sA → (∃ Ms, re_R K h3 sA Ms) → re_R K h3 dA D → pd_mn (pd_cp A m u) D →
      XV G (0 + 0 + 3 * mk + 0) (0 + 0 + 1058 * mk + 0) 20 [(5, .int (nI u)), (4, .ref dA), (3, .ref (ad1 (ht - 1))), (0, .ref (o + 8)), (1, .int (nI m)), (2, .int (nI t))] [] (n + 3 * mk) h3 := by
    intro d
    induction d using Nat.strongRecOn with
    | ind d ih =>
      intro u h3 dA sA D hd hu hfr3 w1 w2 w3 w4 w5 w6 ⟨Ms3, w7⟩ w8 w9
      refine xv_iload (pc' := 22) hF xd_BE_copyTop_20 rfl rfl ?_
      refine xv_iload_n (pc' := 23) (i := 2) hF xd_BE_copyTop_22 rfl rfl rfl ?_
      refine xv_icmp_geN (pc' := 26) (tgt := 69) hF (by omega) (by omega) xd_BE_copyTop_23 (by decide) rfl (fun e => ?_) (fun e => ?_)
      · have : u = t := by omega
        subst this
        obtain ⟨fO, gO, ⟨x1, x2, x3⟩, x4⟩ := id (w3 (ht - 1) (by omega) (by omega)).1
        obtain ⟨fD, gD, ⟨y1, y2, y3⟩, y4⟩ := id w8
        have okO := (i3 (ht - 1) (by omega)).1
        refine xv_aload_n (pc' := 70) (i := 0) hF xd_BE_copyTop_69 rfl rfl rfl ?_
        refine xv_get (pc' := 73) (ci := 5) hF (by first | assumption | exact xu_self | (refine (xu_ne (by omega)).trans ?_; first | assumption | exact xu_self | (refine (xu_ne (by omega)).trans ?_; first | assumption | exact xu_self | (refine (xu_ne (by omega)).trans ?_; first | assumption | exact xu_self | (refine (xu_ne (by omega)).trans ?_; first | assumption | exact xu_self))))) rfl xu_BE 1 (by decide) xk_BE_f17 (by rfl) xd_BE_copyTop_70 rfl ?_
        refine xv_iconstN (pc' := 74) 2 hF xd_BE_copyTop_73 (by decide +kernel) rfl ?_
        refine xv_icmp_ltN (pc' := 77) (tgt := 110) hF (by omega) (by omega) xd_BE_copyTop_74 (by decide) rfl (fun e2 => ?_) (fun e2 => ?_)
        · omega
        · unfold be_ok at w5 w6 okO
          have hap1 := (w3 (ht - 1) (by omega) (by omega)).2.1
          refine xv_aload_n (pc' := 78) (i := 0) hF xd_BE_copyTop_77 rfl rfl rfl ?_
          refine xv_dup (pc' := 79) hF xd_BE_copyTop_78 rfl rfl ?_
          refine xv_get (pc' := 82) (ci := 5) hF (by first | assumption | exact xu_self | (refine (xu_ne (by omega)).trans ?_; first | assumption | exact xu_self | (refine (xu_ne (by omega)).trans ?_; first | assumption | exact xu_self | (refine (xu_ne (by omega)).trans ?_; first | assumption | exact xu_self | (refine (xu_ne (by omega)).trans ?_; first | assumption | exact xu_self))))) rfl xu_BE 1 (by decide) xk_BE_f17 (by rfl) xd_BE_copyTop_79 rfl ?_
          refine xv_iconstN (pc' := 83) 1 hF xd_BE_copyTop_82 (by decide +kernel) rfl ?_
          first | refine xv_isubN (pc' := 84) hF (by omega) xd_BE_copyTop_83 rfl ?_ | refine xv_isub (pc' := 84) hF xd_BE_copyTop_83 rfl ?_
          refine xv_topi (v' := nI ht) rfl ?_
          refine xv_put (pc' := 87) (ci := 5) (ty := xt_BE 1) hF (by first | assumption | exact xu_self | (refine (xu_ne (by omega)).trans ?_; first | assumption | exact xu_self | (refine (xu_ne (by omega)).trans ?_; first | assumption | exact xu_self | (refine (xu_ne (by omega)).trans ?_; first | assumption | exact xu_self | (refine (xu_ne (by omega)).trans ?_; first | assumption | exact xu_self))))) rfl xu_BE xt_BE xo_BE xn_BE 1 (by decide) xk_BE_f17 rfl (by decide +kernel) (by first | rfl | exact xb_nw _ | decide +kernel) (by first | rfl | exact xb_ft _ | decide +kernel) (by exact Nat.le_of_ble_eq_true rfl) (by dsimp only [List.set] <;> rfl) xd_BE_copyTop_84 rfl ?_
          refine xv_aload_n (pc' := 88) (i := 0) hF xd_BE_copyTop_87 rfl rfl rfl ?_
          refine xv_get (pc' := 91) (ci := 5) hF (by first | assumption | exact xu_self | (refine (xu_ne (by omega)).trans ?_; first | assumption | exact xu_self | (refine (xu_ne (by omega)).trans ?_; first | assumption | exact xu_self | (refine (xu_ne (by omega)).trans ?_; first | assumption | exact xu_self | (refine (xu_ne (by omega)).trans ?_; first | assumption | exact xu_self))))) rfl xu_BE 0 (by decide) xk_BE_f13 (by rfl) xd_BE_copyTop_88 rfl ?_
          refine xv_aload_n (pc' := 92) (i := 0) hF xd_BE_copyTop_91 rfl rfl rfl ?_
          refine xv_get (pc' := 95) (ci := 5) hF (by first | assumption | exact xu_self | (refine (xu_ne (by omega)).trans ?_; first | assumption | exact xu_self | (refine (xu_ne (by omega)).trans ?_; first | assumption | exact xu_self | (refine (xu_ne (by omega)).trans ?_; first | assumption | exact xu_self | (refine (xu_ne (by omega)).trans ?_; first | assumption | exact xu_self))))) rfl xu_BE 1 (by decide) xk_BE_f17 (by rfl) xd_BE_copyTop_92 rfl ?_
          refine xv_iconstN (pc' := 96) 1 hF xd_BE_copyTop_95 (by decide +kernel) rfl ?_
          first | refine xv_isubN (pc' := 97) hF (by omega) xd_BE_copyTop_96 rfl ?_ | refine xv_isub (pc' := 97) hF xd_BE_copyTop_96 rfl ?_
          refine xv_aload (pc' := 99) hF xd_BE_copyTop_97 rfl rfl ?_
          refine xv_aastN (pc' := 100) (ci := 2) 4 hF (by first | assumption | exact xu_self | (refine (xu_ne (by omega)).trans ?_; first | assumption | exact xu_self | (refine (xu_ne (by omega)).trans ?_; first | assumption | exact xu_self | (refine (xu_ne (by omega)).trans ?_; first | assumption | exact xu_self | (refine (xu_ne (by omega)).trans ?_; first | assumption | exact xu_self))))) rfl (by first | assumption | exact xu_self | (refine (xu_ne (by omega)).trans ?_; first | assumption | exact xu_self | (refine (xu_ne (by omega)).trans ?_; first | assumption | exact xu_self | (refine (xu_ne (by omega)).trans ?_; first | assumption | exact xu_self | (refine (xu_ne (by omega)).trans ?_; first | assumption | exact xu_self))))) rfl (by omega) (by decide) xd_BE_copyTop_99 rfl ?_
          refine xv_aload_n (pc' := 101) (i := 0) hF xd_BE_copyTop_100 rfl rfl rfl ?_
          refine xv_get (pc' := 104) (ci := 5) hF (by first | assumption | exact xu_self | (refine (xu_ne (by omega)).trans ?_; first | assumption | exact xu_self | (refine (xu_ne (by omega)).trans ?_; first | assumption | exact xu_self | (refine (xu_ne (by omega)).trans ?_; first | assumption | exact xu_self | (refine (xu_ne (by omega)).trans ?_; first | assumption | exact xu_self))))) rfl xu_BE 0 (by decide) xk_BE_f13 (by rfl) xd_BE_copyTop_101 rfl ?_
          refine xv_aload_n (pc' := 105) (i := 0) hF xd_BE_copyTop_104 rfl rfl rfl ?_
          refine xv_get (pc' := 108) (ci := 5) hF (by first | assumption | exact xu_self | (refine (xu_ne (by omega)).trans ?_; first | assumption | exact xu_self | (refine (xu_ne (by omega)).trans ?_; first | assumption | exact xu_self | (refine (xu_ne (by omega)).trans ?_; first | assumption | exact xu_self | (refine (xu_ne (by omega)).trans ?_; first | assumption | exact xu_self))))) rfl xu_BE 1 (by decide) xk_BE_f17 (by rfl) xd_BE_copyTop_105 rfl ?_
          refine xv_aload_n (pc' := 109) (i := 3) hF xd_BE_copyTop_108 rfl rfl rfl ?_
          refine xv_aastN (pc' := 110) (ci := 2) 4 hF (by first | assumption | exact xu_self | (refine (xu_ne (by omega)).trans ?_; first | assumption | exact xu_self | (refine (xu_ne (by omega)).trans ?_; first | assumption | exact xu_self | (refine (xu_ne (by omega)).trans ?_; first | assumption | exact xu_self | (refine (xu_ne (by omega)).trans ?_; first | assumption | exact xu_self))))) rfl (by first | assumption | exact xu_self | (refine (xu_ne (by omega)).trans ?_; first | assumption | exact xu_self | (refine (xu_ne (by omega)).trans ?_; first | assumption | exact xu_self | (refine (xu_ne (by omega)).trans ?_; first | assumption | exact xu_self | (refine (xu_ne (by omega)).trans ?_; first | assumption | exact xu_self))))) rfl (by omega) (by decide) xd_BE_copyTop_109 rfl ?_
          refine hR _ _ _ _ _ _ (by omega) (by omega) ?_ xd_BE_copyTop_110
          have hf : ∀ q, q ≠ o + 8 → q ≠ o + 9 → (xu (xu (xu h3 (o + 8) (.inr (5, [.ref (o + 9), .int (nI ht), .ref sA]))) (o + 9) (.inl (K.2.2.1 4, 24, .inr (.inr (.inr (.inr (va_up pl2 (ht - 1) (some dA)))))))) (o + 9) (.inl (K.2.2.1 4, 24, .inr (.inr (.inr (.inr (va_up (va_up pl2 (ht - 1) (some dA)) ht (some (ad1 (ht - 1)))))))))) q = h3 q := fun q h1 h2 => by rw [xu_ne h2, xu_ne h2, xu_ne h1]
          refine ⟨rfl, fun q a b c d e => by rw [hf q b c]; exact hfr3 q a b c d e, va_up (va_up ad1 (ht - 1) dA) ht (ad1 (ht - 1)), sA, va_up (va_up Mv (ht - 1) D) ht (Mv (ht - 1)), ⟨⟨_, by rw [xu_ne (by omega), xu_ne (by omega)]; exact xu_self, xu_self, fun i hi => ?_, fun i h1 h2 => ?_⟩, be_in.own hf ⟨i1, i2, fun j hj => ?_, w6, ⟨_, w7⟩, fun i j hi hj hne => ?_, fun i hi => ?_⟩⟩, fun i hi => ?_, ?_⟩
          · unfold va_up
            by_cases c : i = ht
            · rw [if_pos c, if_pos c]
            · rw [if_neg c, if_neg c]
              by_cases c2 : i = ht - 1
              · rw [if_pos c2, if_pos c2]
              · rw [if_neg c2, if_neg c2]; exact q3 i hi
          · unfold va_up
            rw [if_neg (by omega), if_neg (by omega)]; exact q4 i h1 h2
          · unfold va_up
            by_cases c : j = ht
            · rw [if_pos c, if_pos c]; exact ⟨okO, (w3 (ht - 1) (by omega) (by omega)).1⟩
            · rw [if_neg c, if_neg c]
              by_cases c2 : j = ht - 1
              · rw [if_pos c2, if_pos c2]; exact ⟨w5, w8⟩
              · rw [if_neg c2, if_neg c2]; exact ⟨(i3 j hj).1, (w3 j hj c).1⟩
          · unfold va_up
            by_cases c : i = ht
            · rw [if_pos c, if_neg (by omega)]
              by_cases c2 : j = ht - 1
              · rw [if_pos c2]; exact hap1
              · rw [if_neg c2]; exact i6 _ _ (by omega) hj (by omega)
            · rw [if_neg c]
              by_cases c2 : i = ht - 1
              · rw [if_pos c2]
                by_cases c3 : j = ht
                · rw [if_pos c3]; exact hap1.sy
                · rw [if_neg c3, if_neg (by omega)]; exact (w3 j hj c3).2.1.sy
              · rw [if_neg c2]
                by_cases c3 : j = ht
                · rw [if_pos c3]; exact i6 _ _ hi (by omega) (by omega)
                · rw [if_neg c3]
                  by_cases c4 : j = ht - 1
                  · rw [if_pos c4]; exact (w3 i hi c).2.1
                  · rw [if_neg c4]; exact i6 i j hi hj hne
          · unfold va_up
            by_cases c : i = ht
            · rw [if_pos c]; exact (w3 (ht - 1) (by omega) (by omega)).2.2
            · rw [if_neg c]
              by_cases c2 : i = ht - 1
              · rw [if_pos c2]; exact w4
              · rw [if_neg c2]; exact (w3 i hi c).2.2
          · unfold va_up
            rw [if_neg (by omega), if_neg (by omega)]
          · unfold va_up
            rw [if_neg (by omega), if_pos rfl]
            exact w9
      · obtain ⟨fS, gS, ⟨y1, y2, y3⟩, y4⟩ := id w7
        have wO := w3 (ht - 1) (by omega) (by omega)
        have bnd : ∀ x v y, x < 32 → v < 32 → y < 32 → Mv (ht - 1) x v < 1000000 → D v y < 1000000 → Mv (ht - 1) x v + D v y < 1000000 := by
          intro x v y hx hv hy c1 c2
          have b1 := pd_mn_bd hA uA hx hv c1
          have b2 := pd_mn_bd w9 (pd_au_cp uA nA m u) hv hy c2
          have b3 : N * u ≤ N * t := Nat.mul_le_mul_left _ hu
          omega
        refine xv_aload_n (pc' := 27) (i := 0) hF xd_BE_copyTop_26 rfl rfl rfl ?_
        refine xv_get (pc' := 30) (ci := 5) hF (by first | assumption | exact xu_self | (refine (xu_ne (by omega)).trans ?_; first | assumption | exact xu_self | (refine (xu_ne (by omega)).trans ?_; first | assumption | exact xu_self | (refine (xu_ne (by omega)).trans ?_; first | assumption | exact xu_self | (refine (xu_ne (by omega)).trans ?_; first | assumption | exact xu_self))))) rfl xu_BE 2 (by decide) xk_BE_f22 (by rfl) xd_BE_copyTop_27 rfl ?_
        refine xv_astore (pc' := 32) hF xd_BE_copyTop_30 (Nat.le_of_ble_eq_true rfl) rfl rfl ?_
        refine xv_aload (pc' := 34) hF xd_BE_copyTop_32 rfl rfl ?_
        refine xv_aload_n (pc' := 35) (i := 3) hF xd_BE_copyTop_34 rfl rfl rfl ?_
        refine xv_aload (pc' := 37) hF xd_BE_copyTop_35 rfl rfl ?_
        refine xv_callVv (pc' := 40) (ci := 2) hF (c_RE_setToChain K _ h3 sA (ad1 (ht - 1)) dA _ _ _ w7 wO.1 w8 wO.2.2.sy w4.sy bnd) xq_RE_setToChain xk_BE_m82 xk_i_RE_setToChain xk_s_RE_setToChain (by first | assumption | exact xu_self | (refine (xu_ne (by omega)).trans ?_; first | assumption | exact xu_self | (refine (xu_ne (by omega)).trans ?_; first | assumption | exact xu_self | (refine (xu_ne (by omega)).trans ?_; first | assumption | exact xu_self | (refine (xu_ne (by omega)).trans ?_; first | assumption | exact xu_self))))) rfl ⟨(Nat.le_of_ble_eq_true rfl), (Nat.le_of_ble_eq_true rfl)⟩ rfl rfl (Nat.le_of_ble_eq_true rfl) ⟨(by first | (show 0 + 0 + 3 * mk + 0 + 0 ≤ 3 * mk; omega) | (show 0 + 0 + 1058 * mk + 0 + 0 ≤ 1058 * mk; omega)), (by first | (show 0 + 0 + 3 * mk + 0 + 0 ≤ 3 * mk; omega) | (show 0 + 0 + 1058 * mk + 0 + 0 ≤ 1058 * mk; omega))⟩ xd_BE_copyTop_37 rfl (fun n4 h4 p4 => ?_)
        obtain ⟨rfl, f4, r4⟩ := p4
        have w8' := w8.keep f4 w4.sy
        have tail : ∀ h5 D', re_fr h3 h5 sA → re_R K h5 sA D' → pd_mn (pd_cp A m (u + 1)) D' → XV G (0 + 0 + 3 * mk + 0 + 0) (0 + 0 + 1058 * mk + 0 + 0) 53 [(6, .ref sA), (5, .int (nI u)), (4, .ref dA), (3, .ref (ad1 (ht - 1))), (0, .ref (o + 8)), (1, .int (nI m)), (2, .int (nI t))] [] (n + 3 * mk) h5 := by
          intro h5 D' f5 r5 hD'
          have v1 : h5 (o + 8) = some (.inr (5, [.ref (o + 9), .int (nI (ht + 1)), .ref sA])) := by
            unfold be_ok at w6
            rw [f5 _ (by omega) (by omega)]; exact w1
          have v2 : h5 (o + 9) = some (.inl (K.2.2.1 4, 24, .inr (.inr (.inr (.inr pl2))))) := by
            unfold be_ok at w6
            rw [f5 _ (by omega) (by omega)]; exact w2
          refine xv_aload_n (pc' := 54) (i := 0) hF xd_BE_copyTop_53 rfl rfl rfl ?_
          refine xv_aload (pc' := 56) hF xd_BE_copyTop_54 rfl rfl ?_
          refine xv_put (pc' := 59) (ci := 5) (ty := xt_BE 2) hF (by first | assumption | exact xu_self | (refine (xu_ne (by omega)).trans ?_; first | assumption | exact xu_self | (refine (xu_ne (by omega)).trans ?_; first | assumption | exact xu_self | (refine (xu_ne (by omega)).trans ?_; first | assumption | exact xu_self | (refine (xu_ne (by omega)).trans ?_; first | assumption | exact xu_self))))) rfl xu_BE xt_BE xo_BE xn_BE 2 (by decide) xk_BE_f22 rfl (by decide +kernel) (by first | rfl | exact xb_nw _ | decide +kernel) (by first | rfl | exact xb_ft _ | decide +kernel) (by exact Nat.le_of_ble_eq_true rfl) (by dsimp only [List.set] <;> rfl) xd_BE_copyTop_56 rfl ?_
          refine xv_aload (pc' := 61) hF xd_BE_copyTop_59 rfl rfl ?_
          refine xv_astore (pc' := 63) hF xd_BE_copyTop_61 (Nat.le_of_ble_eq_true rfl) rfl rfl ?_
          first | refine xv_iincN (pc' := 66) hF xd_BE_copyTop_63 rfl rfl (Nat.le_of_ble_eq_true rfl) rfl rfl ?_ | refine xv_iinc (pc' := 66) hF xd_BE_copyTop_63 rfl rfl (Nat.le_of_ble_eq_true rfl) rfl rfl ?_
          refine xv_goto (tgt := 20) hF xd_BE_copyTop_66 (by decide) ?_
          have hf : ∀ q, q ≠ o + 8 → q ≠ o + 9 → (xu h5 (o + 8) (.inr (5, [.ref (o + 9), .int (nI (ht + 1)), .ref dA]))) q = h5 q := fun q h1 _ => xu_ne h1
          refine xv_loc _ (by repeat (first | exact trivial | refine ⟨rfl, ?_⟩)) (ih _ (by omega) (u + 1) _ sA dA D' rfl (by omega) ?_ xu_self (by rw [xu_ne (by omega)]; exact v2) (fun i hi hne => ?_) w4.sy w6 w5 ⟨D, (w8.keep f5 w4.sy).own w5 hf⟩ (r5.own w6 hf) hD')
          · intro q a b c d e
            rw [hf q b c, be_frR w6 f5 q a b c d e]
            exact hfr3 q a b c d e
          · have := w3 i hi hne
            exact ⟨(this.1.keep f5 this.2.2.sy).own (i3 i hi).1 hf, this.2.2, this.2.1⟩
        have hs : pd_mn (pd_seq A (pd_cp A m u)) (fun x y => md_ch (Mv (ht - 1)) D x 32 y) := mn_ch hA w9 nA
        obtain ⟨fS, gS, ⟨y1, y2, y3⟩, y4⟩ := id r4
        refine xv_iload (pc' := 42) hF xd_BE_copyTop_40 rfl rfl ?_
        refine xv_iload_n (pc' := 43) (i := 1) hF xd_BE_copyTop_42 rfl rfl rfl ?_
        refine xv_icmp_ltN (pc' := 46) (tgt := 53) hF (by omega) (by omega) xd_BE_copyTop_43 (by decide) rfl (fun e2 => ?_) (fun e2 => ?_)
        · refine xv_loc _ (by repeat (first | exact trivial | refine ⟨rfl, ?_⟩)) (tail h4 _ f4 r4 ?_)
          show pd_mn (pd_seq (pd_gt A m u) (pd_cp A m u)) _
          unfold pd_gt
          rw [if_neg (by omega)]
          exact hs
        · refine xv_aload (pc' := 48) hF xd_BE_copyTop_46 rfl rfl ?_
          refine xv_aload (pc' := 50) hF xd_BE_copyTop_48 rfl rfl ?_
          refine xv_callVv (pc' := 53) (ci := 2) hF (c_RE_addAll K _ h4 sA dA _ _ r4 w8' w4.sy) xq_RE_addAll xk_BE_m78 xk_i_RE_addAll xk_s_RE_addAll (by first | assumption | exact xu_self | (refine (xu_ne (by omega)).trans ?_; first | assumption | exact xu_self | (refine (xu_ne (by omega)).trans ?_; first | assumption | exact xu_self | (refine (xu_ne (by omega)).trans ?_; first | assumption | exact xu_self | (refine (xu_ne (by omega)).trans ?_; first | assumption | exact xu_self))))) rfl ⟨(Nat.le_of_ble_eq_true rfl), (Nat.le_of_ble_eq_true rfl)⟩ rfl rfl (Nat.le_of_ble_eq_true rfl) ⟨(by first | (show 0 + 0 + 3 * mk + 0 + 0 + 0 ≤ 3 * mk; omega) | (show 0 + 0 + 1058 * mk + 0 + 0 + 0 ≤ 1058 * mk; omega)), (by first | (show 0 + 0 + 3 * mk + 0 + 0 + 0 ≤ 3 * mk; omega) | (show 0 + 0 + 1058 * mk + 0 + 0 + 0 ≤ 1058 * mk; omega))⟩ xd_BE_copyTop_50 rfl (fun n5 h5 p5 => ?_)
          obtain ⟨rfl, f5, r5⟩ := p5
          refine xv_loc _ (by repeat (first | exact trivial | refine ⟨rfl, ?_⟩)) (tail h5 _ (f4.tr f5) r5 ?_)
          show pd_mn (pd_seq (pd_gt A m u) (pd_cp A m u)) _
          unfold pd_gt
          rw [if_pos (by omega), pd_or_seq, pd_id_seq (pd_nd_cp nA m u), pd_or_comm]
          exact mn_mi hs w9
  refine xv_loc _ (by repeat (first | exact trivial | refine ⟨rfl, ?_⟩)) (loop t 0 h2 (ad1 ht) sp _ (by omega) (by omega) hfr2 q1 q2 (fun i hi hne => ?_) (i7 ht hmk1) (i3 ht hmk1).1 i4 ⟨Ms, i5⟩ r2 m2)
  have := (i3 i hi).2
  rw [hone i hne] at this
  exact ⟨this, i6 i ht hi hmk1 hne, i7 i hi⟩
