/-! bounds of an expression's lengths, and the reference's pairs in range -/
theorem va_all {α : Type} {P : Nat → α → Prop} {f : Nat → α} {j : Nat} {v : α} {n : Nat} (h : ∀ i, i < n → i ≠ j → P i (f i)) (hv : P j v) : ∀ i, i < n → P i (va_up f j v i) := by
  intro i hi
  by_cases c : i = j
  · subst c; rw [va_s]; exact hv
  · rw [va_n c]; exact h i hi c
theorem bx_auS {E : Nat → Nat → Nat → Bool} {Tg : Nat → Nat → Bool} {k m ht : Nat} {A : Nat → pd_L} {N : Nat → Nat} (hok : bx_ok k m ht) (h : ∀ i, i < ht → pd_nd (A i) ∧ pd_au (A i) (N i)) : ∀ i, i < bx_h k ht → pd_nd (bx_A E Tg k m ht A i) ∧ pd_au (bx_A E Tg k m ht A i) (bx_N k m ht N i) := by
  obtain ⟨k12, m5, ok4, ok24, ok2, ok1⟩ := hok
  have up : ∀ {j n : Nat} {B : pd_L} {b : Nat}, (∀ i, i < n → i ≠ j → i < ht) → pd_nd B → pd_au B b → ∀ i, i < n → pd_nd (va_up A j B i) ∧ pd_au (va_up A j B i) (va_up N j b i) := by
    intro j n B b hn h1 h2 i hi
    by_cases c : i = j
    · subst c; rw [va_s, va_s]; exact ⟨h1, h2⟩
    · rw [va_n c, va_n c]; exact h i (hn i hi c)
  have up2 : ∀ {j n : Nat} {B : pd_L}, (∀ i, i < n → i ≠ j → i < ht) → pd_nd B → pd_au B (N j) → ∀ i, i < n → pd_nd (va_up A j B i) ∧ pd_au (va_up A j B i) (N i) := by
    intro j n B hn h1 h2 i hi
    by_cases c : i = j
    · subst c; rw [va_s]; exact ⟨h1, h2⟩
    · rw [va_n c]; exact h i (hn i hi c)
  have c12 : k = 0 ∨ k = 1 ∨ k = 2 ∨ k = 3 ∨ k = 4 ∨ k = 5 ∨ k = 6 ∨ k = 7 ∨ k = 8 ∨ k = 9 ∨ k = 10 ∨ k = 11 := by omega
  rcases c12 with rfl | rfl | rfl | rfl | rfl | rfl | rfl | rfl | rfl | rfl | rfl | rfl
  · exact up (n := ht + 1) (fun i a b => by omega) pd_nd_no pd_au_no
  · exact up (n := ht + 1) (fun i a b => by omega) pd_nd_id pd_au_id
  · exact up (n := ht + 1) (fun i a b => by omega) (pd_nd_eg _) (pd_au_eg _)
  · exact up (n := ht + 1) (fun i a b => by omega) (pd_nd_eg _) (pd_au_eg _)
  · exact up (n := ht + 1) (fun i a b => by omega) (pd_nd_ts _) (pd_au_ts _)
  · exact up (n := ht + 1) (fun i a b => by omega) (pd_nd_ts _) (pd_au_ts _)
  · have a1 := h (ht - 2) (by omega)
    have a2 := h (ht - 1) (by omega)
    exact up (n := ht - 1) (fun i a b => by omega) (pd_nd_seq a1.1 a2.1) (pd_au_seq a1.2 a2.2 a1.1 a2.1)
  · have a1 := h (ht - 2) (by omega)
    have a2 := h (ht - 1) (by omega)
    exact up (n := ht - 1) (fun i a b => by omega) (pd_nd_or a1.1 a2.1) (pd_au_or a1.2 a2.2)
  · have a2 := h (ht - 1) (by omega)
    exact up2 (n := ht) (fun i a b => by omega) (pd_nd_or pd_nd_id (pd_nd_pl a2.1)) (pd_au_st a2.2)
  · have a2 := h (ht - 1) (by omega)
    exact up2 (n := ht) (fun i a b => by omega) (pd_nd_pl a2.1) (pd_au_pl _ a2.2)
  · have a2 := h (ht - 1) (by omega)
    exact up2 (n := ht) (fun i a b => by omega) (pd_nd_or pd_nd_id a2.1) (pd_au_mb a2.2)
  · have a2 := h (ht - 1) (by omega)
    exact up (n := ht) (fun i a b => by omega) (pd_nd_cp a2.1 _ _) (pd_au_cp a2.2 a2.1 _ _)
theorem bx_au {os : List Nat} (E : Nat → Nat → Nat → Bool) (Tg : Nat → Nat → Bool) (hg : bx_gd os) : ∀ k, k ≤ os.length → ∀ i, i < (bx_hk os k).1 → pd_nd (bx_ak E Tg os k i) ∧ pd_au (bx_ak E Tg os k i) ((bx_hk os k).2 i)
  | 0, _ => fun i hi => absurd hi (Nat.not_lt_zero _)
  | k + 1, hk => bx_auS (hg.1 k (by omega)) (bx_au E Tg hg k (by omega))
theorem bx_bd {os : List Nat} {E : Nat → Nat → Nat → Bool} {Tg : Nat → Nat → Bool} {M : Nat → Nat → Nat} (hg : bx_gd os) (hm : pd_mn (oA E Tg os 0) M) : ∀ i j, i < 32 → j < 32 → M i j < 1000000 → M i j ≤ 2560 := by
  intro i j hi hj hf
  have h1 := hg.2.2
  have h2 := hg.2.1 os.length (Nat.le_refl _) 0 (by omega)
  have h3 := (bx_au E Tg hg os.length (Nat.le_refl _) 0 (by omega)).2
  exact Nat.le_trans (pd_mn_bd hm h3 hi hj hf) h2
theorem bx_bm24 {os : List Nat} {made : Nat} (hg : bx_gd os) (h : made ≤ 24) : ∀ k, k ≤ os.length → bx_bm os made k ≤ 24
  | 0, _ => h
  | k + 1, hk => by
    have h1 := bx_bm24 hg h k (by omega)
    have h2 := hg.1 k (by omega)
    show bx_bm os made k + bx_mk _ _ _ ≤ 24
    unfold bx_mk
    split
    · rename_i c
      have := h2.2.2.2.1 c.1
      omega
    · omega
theorem ch_via {M N : Nat → Nat → Nat} {x y : Nat} (hx : x < 32) (hy : y < 32) (h1 : ∀ i j, i < 32 → j < 32 → M i j < 1000000 → M i j ≤ 2560) (h2 : ∀ i j, i < 32 → j < 32 → N i j < 1000000 → N i j ≤ 2560) : ∀ v, v ≤ 32 → (md_ch M N x v y < 1000000 ↔ md_via M N x y v = true)
  | 0, _ => by
    show 1000000 < 1000000 ↔ false = true
    simp
  | v + 1, hv => by
    have ih := ch_via hx hy h1 h2 v (by omega)
    have a := h1 x v hx (by omega)
    have b := h2 v y (by omega) hy
    show (if M x v < 1000000 ∧ N v y < 1000000 then min (md_ch M N x v y) (M x v + N v y) else md_ch M N x v y) < 1000000 ↔ (md_via M N x y v || (decide (M x v < 1000000) && decide (N v y < 1000000))) = true
    rw [Bool.or_eq_true, Bool.and_eq_true, decide_eq_true_eq, decide_eq_true_eq, ← ih]
    split
    · rename_i c
      have a := a c.1
      have b := b c.2
      exact ⟨fun _ => Or.inr c, fun _ => by omega⟩
    · rename_i c
      exact ⟨fun h => Or.inl h, fun h => h.resolve_right c⟩
set_option maxHeartbeats 4000000 in
set_option maxRecDepth 100000 in
theorem c_MO_pairs (K : xK) (n : Nat) (h : xH) (p th ma w : Nat) (E : Nat → Nat → Nat → Bool) (Tg : Nat → Nat → Bool) (cs : Nat → Nat) (TX : Nat → Nat → Nat) (SZ SX : Nat → Nat) (s t how : Nat) (os os2 : List Nat) (r : mo_W K h p th ma w E Tg cs TX SZ SX) (hs4 : s < 4) (ht4 : t < 4) (hw : how < 5) (hsl : sl_T (TX s) (SZ s) os) (hsl2 : sl_T (TX t) (SZ t) os2) (hg1 : bx_gd os) (hg2 : bx_gd os2) : XM K xy_MO_pairs xw_MO_pairs (xrm 8 164 0 0) [.ref p, .int (nI s), .int (nI t), .int (nI how)] n h (x_pi fun r n' h' => n = n' ∧ mw_fr p h h' ∧ mo_W K h' p 0 (ma) w (E) (Tg) (cs) (TX) (SZ) (SX) ∧ ∃ M N, pd_mn (oA E Tg os 0) M ∧ pd_mn (oA E Tg os2 0) N ∧ r = nI (dk_pr how M N)) 0 0 := by
  obtain ⟨⟨ln, at_, f, op, mk, tx, S, so, ba, r1⟩, r2⟩ := id r
  have ho := r1.1
  refine xm_i (by decide +kernel) (Nat.le_of_ble_eq_true rfl) (fun G hF hR => ?_)
  refine xv_iload_n (pc' := 1) (i := 1) hF xd_MO_pairs_0 rfl rfl rfl ?_
  refine xv_iconstN (pc' := 2) 4 hF xd_MO_pairs_1 (by decide +kernel) rfl ?_
  refine xv_callSi (pc' := 5) hF (c_MO_in K n h _ 4) xq_MO_in xk_MO_m52 xk_t_MO_in ⟨(Nat.le_of_ble_eq_true rfl), (Nat.le_of_ble_eq_true rfl)⟩ rfl rfl (Nat.le_of_ble_eq_true rfl) ⟨(Nat.le_of_ble_eq_true rfl), (Nat.le_of_ble_eq_true rfl)⟩ xd_MO_pairs_2 rfl (fun q0 n1 h1 q1 => ?_)
  obtain ⟨rfl, rfl, rfl⟩ := q1
  rw [x_in_nI hs4 (by decide)]
  refine xv_if_eqB (pc' := 8) (tgt := 20) hF xd_MO_pairs_5 (by decide) rfl (fun e1 => ?_) (fun e1 => ?_)
  · cases e1
  · refine xv_iload_n (pc' := 9) (i := 2) hF xd_MO_pairs_8 rfl rfl rfl ?_
    refine xv_iconstN (pc' := 10) 4 hF xd_MO_pairs_9 (by decide +kernel) rfl ?_
    refine xv_callSi (pc' := 13) hF (c_MO_in K n h _ 4) xq_MO_in xk_MO_m52 xk_t_MO_in ⟨(Nat.le_of_ble_eq_true rfl), (Nat.le_of_ble_eq_true rfl)⟩ rfl rfl (Nat.le_of_ble_eq_true rfl) ⟨(Nat.le_of_ble_eq_true rfl), (Nat.le_of_ble_eq_true rfl)⟩ xd_MO_pairs_10 rfl (fun q0 n1 h1 q1 => ?_)
    obtain ⟨rfl, rfl, rfl⟩ := q1
    rw [x_in_nI ht4 (by decide)]
    refine xv_if_eqB (pc' := 16) (tgt := 20) hF xd_MO_pairs_13 (by decide) rfl (fun e2 => ?_) (fun e2 => ?_)
    · cases e2
    · refine xv_iconstN (pc' := 17) 1 hF xd_MO_pairs_16 (by decide +kernel) rfl ?_
      refine xv_goto (tgt := 21) hF xd_MO_pairs_17 (by decide) ?_
      refine xv_topi (v' := xb true) (by decide +kernel) ?_
      refine xv_istore (pc' := 23) hF xd_MO_pairs_21 (Nat.le_of_ble_eq_true rfl) rfl rfl ?_
      refine xv_aload_n (pc' := 24) (i := 0) hF xd_MO_pairs_23 rfl rfl rfl ?_
      refine xv_iload (pc' := 26) hF xd_MO_pairs_24 rfl rfl ?_
      refine xv_if_neB (pc' := 29) (tgt := 33) hF xd_MO_pairs_26 (by decide) rfl (fun e3 => ?_) (fun e3 => ?_)
      · refine xv_iconstN (pc' := 34) 0 hF xd_MO_pairs_33 (by decide +kernel) rfl ?_
        refine xv_topi (v' := xb false) (by decide +kernel) ?_
        refine xv_iload (pc' := 36) hF xd_MO_pairs_34 rfl rfl ?_
        refine xv_if_eqB (pc' := 39) (tgt := 51) hF xd_MO_pairs_36 (by decide) rfl (fun e4 => ?_) (fun e4 => ?_)
        · cases e4
        · refine xv_iload_n (pc' := 40) (i := 3) hF xd_MO_pairs_39 rfl rfl rfl ?_
          refine xv_iconstN (pc' := 41) 5 hF xd_MO_pairs_40 (by decide +kernel) rfl ?_
          refine xv_callSi (pc' := 44) hF (c_MO_in K n h _ 5) xq_MO_in xk_MO_m52 xk_t_MO_in ⟨(Nat.le_of_ble_eq_true rfl), (Nat.le_of_ble_eq_true rfl)⟩ rfl rfl (Nat.le_of_ble_eq_true rfl) ⟨(Nat.le_of_ble_eq_true rfl), (Nat.le_of_ble_eq_true rfl)⟩ xd_MO_pairs_41 rfl (fun q0 n1 h1 q1 => ?_)
          obtain ⟨rfl, rfl, rfl⟩ := q1
          rw [x_in_nI hw (by decide)]
          refine xv_if_neB (pc' := 47) (tgt := 51) hF xd_MO_pairs_44 (by decide) rfl (fun e5 => ?_) (fun e5 => ?_)
          · refine xv_iconstN (pc' := 52) 0 hF xd_MO_pairs_51 (by decide +kernel) rfl ?_
            refine xv_topi (v' := xb false) (by decide +kernel) ?_
            refine xv_callVi (pc' := 55) (ci := 6) hF (c_MO_fails K n h p th ma w ln at_ f op mk false false ho) xq_MO_fails xk_MO_m56 xk_i_MO_fails xk_s_MO_fails (by first | assumption | exact xu_self | (refine (xu_ne (by omega)).trans ?_; first | assumption | exact xu_self | (refine (xu_ne (by omega)).trans ?_; first | assumption | exact xu_self | (refine (xu_ne (by omega)).trans ?_; first | assumption | exact xu_self | (refine (xu_ne (by omega)).trans ?_; first | assumption | exact xu_self))))) rfl ⟨(Nat.le_of_ble_eq_true rfl), (Nat.le_of_ble_eq_true rfl)⟩ rfl rfl (Nat.le_of_ble_eq_true rfl) ⟨(Nat.le_of_ble_eq_true rfl), (Nat.le_of_ble_eq_true rfl)⟩ xd_MO_pairs_52 rfl (fun q0 n1 h1 q1 => ?_)
            obtain ⟨rfl, rfl, rfl⟩ := q1
            have r3 := r1.mm (th' := 0) (ma' := ma) (sz' := w)
            have f3 : mw_fr p h (xu h p (.inr (6, [.int (nI 0), .ref (p + 1), .ref (p + 2), .int (nI ma), .ref (p + 3), .int (nI w), .ref (p + 4), .ref (p + 5), .ref (p + 6), .ref (p + 7), .int (nI ln), .int (nI at_), .int (xm1 f), .int (xb mk), .ref (p + 8), .ref (p + 9), .ref (p + 10), .int (nI op), .ref (p + 11), .ref (p + 12)]))) := mw_fr.rf.x (by omega)
            have r4 : mw_X K (xu h p (.inr (6, [.int (nI 0), .ref (p + 1), .ref (p + 2), .int (nI ma), .ref (p + 3), .int (nI w), .ref (p + 4), .ref (p + 5), .ref (p + 6), .ref (p + 7), .int (nI ln), .int (nI at_), .int (xm1 f), .int (xb mk), .ref (p + 8), .ref (p + 9), .ref (p + 10), .int (nI op), .ref (p + 11), .ref (p + 12)]))) p cs w TX SZ SX := r2.keep (fun q a1 _ _ _ _ _ _ => xu_ne a1)
            simp only [Bool.false_eq_true, if_false, Bool.or_false]
            generalize xu h p (.inr (6, [.int (nI 0), .ref (p + 1), .ref (p + 2), .int (nI ma), .ref (p + 3), .int (nI w), .ref (p + 4), .ref (p + 5), .ref (p + 6), .ref (p + 7), .int (nI ln), .int (nI at_), .int (xm1 f), .int (xb mk), .ref (p + 8), .ref (p + 9), .ref (p + 10), .int (nI op), .ref (p + 11), .ref (p + 12)])) = h3 at r3 f3 r4 ⊢
            clear ho
            have ho := r3.1
            refine xv_if_eqB (pc' := 58) (tgt := 60) hF xd_MO_pairs_55 (by decide) rfl (fun e6 => ?_) (fun e6 => ?_)
            · refine xv_aload_n (pc' := 61) (i := 0) hF xd_MO_pairs_60 rfl rfl rfl ?_
              refine xv_iload_n (pc' := 62) (i := 1) hF xd_MO_pairs_61 rfl rfl rfl ?_
              refine xv_aload_n (pc' := 63) (i := 0) hF xd_MO_pairs_62 rfl rfl rfl ?_
              refine xv_get (pc' := 66) (ci := 6) hF (by first | assumption | exact xu_self | (refine (xu_ne (by omega)).trans ?_; first | assumption | exact xu_self | (refine (xu_ne (by omega)).trans ?_; first | assumption | exact xu_self | (refine (xu_ne (by omega)).trans ?_; first | assumption | exact xu_self | (refine (xu_ne (by omega)).trans ?_; first | assumption | exact xu_self))))) rfl xu_MO 18 (by decide) xk_MO_f42 (by rfl) xd_MO_pairs_63 rfl ?_
              refine xv_callVv (pc' := 69) (ci := 6) hF (c_MO_lengths K n h3 p 0 ma w E Tg cs TX SZ SX s (p + 11) os ⟨⟨_, _, _, _, _, _, _, _, _, r3⟩, r4⟩ hs4 (Or.inl rfl) hsl) xq_MO_lengths xk_MO_m166 xk_i_MO_lengths xk_s_MO_lengths (by first | assumption | exact xu_self | (refine (xu_ne (by omega)).trans ?_; first | assumption | exact xu_self | (refine (xu_ne (by omega)).trans ?_; first | assumption | exact xu_self | (refine (xu_ne (by omega)).trans ?_; first | assumption | exact xu_self | (refine (xu_ne (by omega)).trans ?_; first | assumption | exact xu_self))))) rfl ⟨(Nat.le_of_ble_eq_true rfl), (Nat.le_of_ble_eq_true rfl)⟩ rfl rfl (Nat.le_of_ble_eq_true rfl) ⟨(Nat.le_of_ble_eq_true rfl), (Nat.le_of_ble_eq_true rfl)⟩ xd_MO_pairs_66 rfl (fun n5 h5 q5 => ?_)
              obtain ⟨rfl, f5, w5, ⟨S5, so5, ba5, ln5, at5, f5', op5, tx5, r5⟩, af, M, ha, hM, hmn⟩ := q5
              clear ho
              have ho := r5.1
              refine xv_aload_n (pc' := 70) (i := 0) hF xd_MO_pairs_69 rfl rfl rfl ?_
              refine xv_iload_n (pc' := 71) (i := 2) hF xd_MO_pairs_70 rfl rfl rfl ?_
              refine xv_aload_n (pc' := 72) (i := 0) hF xd_MO_pairs_71 rfl rfl rfl ?_
              refine xv_get (pc' := 75) (ci := 6) hF (by first | assumption | exact xu_self | (refine (xu_ne (by omega)).trans ?_; first | assumption | exact xu_self | (refine (xu_ne (by omega)).trans ?_; first | assumption | exact xu_self | (refine (xu_ne (by omega)).trans ?_; first | assumption | exact xu_self | (refine (xu_ne (by omega)).trans ?_; first | assumption | exact xu_self))))) rfl xu_MO 19 (by decide) xk_MO_f45 (by rfl) xd_MO_pairs_72 rfl ?_
              refine xv_callVv (pc' := 78) (ci := 6) hF (c_MO_lengths K n h5 p 0 ma w E Tg cs TX SZ SX t (p + 12) os2 w5 ht4 (Or.inr rfl) hsl2) xq_MO_lengths xk_MO_m166 xk_i_MO_lengths xk_s_MO_lengths (by first | assumption | exact xu_self | (refine (xu_ne (by omega)).trans ?_; first | assumption | exact xu_self | (refine (xu_ne (by omega)).trans ?_; first | assumption | exact xu_self | (refine (xu_ne (by omega)).trans ?_; first | assumption | exact xu_self | (refine (xu_ne (by omega)).trans ?_; first | assumption | exact xu_self))))) rfl ⟨(Nat.le_of_ble_eq_true rfl), (Nat.le_of_ble_eq_true rfl)⟩ rfl rfl (Nat.le_of_ble_eq_true rfl) ⟨(Nat.le_of_ble_eq_true rfl), (Nat.le_of_ble_eq_true rfl)⟩ xd_MO_pairs_75 rfl (fun n6 h6 q6 => ?_)
              obtain ⟨rfl, f6, w6, ⟨S6, so6, ba6, ln6, at6, f6', op6, tx6, r6⟩, af2, N, ha2, hN, hmn2⟩ := q6
              have ha : h6 (p + 11) = some (.inl (K.2.2.1 0, 1024, .inl af)) := (f6 _ (by omega) (by omega)).trans ha
              have f7 : mw_fr p h h6 := f3.tr (fun q c => (f6 q (by omega) (by omega)).trans (f5 q (by omega) (by omega)))
              clear ho
              obtain ⟨ho, ⟨g6, hs6, hg6⟩, -⟩ := id r6
              obtain ⟨-, w6X⟩ := id w6
              have hb1 : ∀ z, z < 1024 → M (z / 32) (z % 32) ≤ 1000000 := fun z hz => (hmn _ _ (by omega) (by omega)).1
              have hb2 : ∀ z, z < 1024 → N (z / 32) (z % 32) ≤ 1000000 := fun z hz => (hmn2 _ _ (by omega) (by omega)).1
              have eo : xu h6 p (.inr (6, [.int (nI 0), .ref (p + 1), .ref (p + 2), .int (nI ma), .ref (p + 3), .int (nI w), .ref (p + 4), .ref (p + 5), .ref (p + 6), .ref (p + 7), .int (nI ln6), .int (nI at6), .int (xm1 f6'), .int (xb true), .ref (p + 8), .ref (p + 9), .ref (p + 10), .int (nI op6), .ref (p + 11), .ref (p + 12)])) = h6 := xu_same ho
              refine xv_aload_n (pc' := 79) (i := 0) hF xd_MO_pairs_78 rfl rfl rfl ?_
              refine xv_iconstN (pc' := 80) 1 hF xd_MO_pairs_79 (by decide +kernel) rfl ?_
              refine xv_topi (v' := xb true) (by decide +kernel) ?_
              refine xv_put (pc' := 83) (ci := 6) (ty := xt_MO 13) hF (by first | assumption | exact xu_self | (refine (xu_ne (by omega)).trans ?_; first | assumption | exact xu_self | (refine (xu_ne (by omega)).trans ?_; first | assumption | exact xu_self | (refine (xu_ne (by omega)).trans ?_; first | assumption | exact xu_self | (refine (xu_ne (by omega)).trans ?_; first | assumption | exact xu_self))))) rfl xu_MO xt_MO xo_MO xn_MO 13 (by decide) xk_MO_f92 rfl (by decide +kernel) (by first | rfl | exact xb_nw _ | decide +kernel) (by first | rfl | exact xb_ft _ | decide +kernel) (by exact Nat.le_of_ble_eq_true rfl) (by dsimp only [List.set] <;> rfl) xd_MO_pairs_80 rfl ?_
              rw [eo]
              refine xv_iconstN (pc' := 84) 0 hF xd_MO_pairs_83 (by decide +kernel) rfl ?_
              refine xv_istore (pc' := 86) hF xd_MO_pairs_84 (Nat.le_of_ble_eq_true rfl) rfl rfl ?_
              have tail : ∀ g7, sq_is g7 (va_up (va_up S6 0 M) 1 N) → XV G (0 + 0 + 0 + 0 + 0 + 0 + 0) (0 + 0 + 0 + 0 + 0 + 0 + 0) 132 [(5, .int (nI 1024)), (4, .int (xb true)), (0, .ref p), (1, .int (nI s)), (2, .int (nI t)), (3, .int (nI how))] [] n (xu h6 (p + 8) (.inl (K.2.2.1 0, 40960, .inl g7))) := by
                intro g7 hg7
                have ho7 : (xu h6 (p + 8) (.inl (K.2.2.1 0, 40960, .inl g7))) p = some (.inr (6, [.int (nI 0), .ref (p + 1), .ref (p + 2), .int (nI ma), .ref (p + 3), .int (nI w), .ref (p + 4), .ref (p + 5), .ref (p + 6), .ref (p + 7), .int (nI ln6), .int (nI at6), .int (xm1 f6'), .int (xb true), .ref (p + 8), .ref (p + 9), .ref (p + 10), .int (nI op6), .ref (p + 11), .ref (p + 12)])) := by rw [xu_ne (by omega)]; exact ho
                refine xv_aload_n (pc' := 133) (i := 0) hF xd_MO_pairs_132 rfl rfl rfl ?_
                refine xv_iconstN (pc' := 134) 0 hF xd_MO_pairs_133 (by decide +kernel) rfl ?_
                refine xv_iconstN (pc' := 135) 1 hF xd_MO_pairs_134 (by decide +kernel) rfl ?_
                refine xv_callVv (pc' := 138) (ci := 6) hF (c_MO_behind K n _ p 0 ma w ln6 at6 f6' op6 true 0 1 g7 _ ho7 xu_self hg7 (by omega) (by omega)) xq_MO_behind xk_MO_m152 xk_i_MO_behind xk_s_MO_behind (by first | assumption | exact xu_self | (refine (xu_ne (by omega)).trans ?_; first | assumption | exact xu_self | (refine (xu_ne (by omega)).trans ?_; first | assumption | exact xu_self | (refine (xu_ne (by omega)).trans ?_; first | assumption | exact xu_self | (refine (xu_ne (by omega)).trans ?_; first | assumption | exact xu_self))))) rfl ⟨(Nat.le_of_ble_eq_true rfl), (Nat.le_of_ble_eq_true rfl)⟩ rfl rfl (Nat.le_of_ble_eq_true rfl) ⟨(Nat.le_of_ble_eq_true rfl), (Nat.le_of_ble_eq_true rfl)⟩ xd_MO_pairs_135 rfl (fun n8 h8 q8 => ?_)
                obtain ⟨rfl, g8, rfl, hg8⟩ := q8
                rw [xu_xu]
                simp only [if_true] at hg8
                have hSq : ∀ z, z < 1024 → g8 z = nI (md_ch M N (z / 32) 32 (z % 32)) ∧ md_ch M N (z / 32) 32 (z % 32) ≤ 1000000 := by
                  intro z hz
                  have := hg8 0 z (by omega) hz
                  rw [va_s, va_n (by omega), va_s, va_s] at this
                  rw [Nat.mul_zero, Nat.zero_add] at this
                  exact this
                have r9 := r6.sq (g' := g8) hg8
                have w9 : mo_W K (xu h6 (p + 8) (.inl (K.2.2.1 0, 40960, .inl g8))) p 0 (ma) w (E) (Tg) (cs) (TX) (SZ) (SX) := ⟨⟨_, _, _, _, _, _, _, _, _, r9⟩, w6X.keep (fun q _ _ _ _ a _ _ => xu_ne a)⟩
                have f9 : mw_fr p h (xu h6 (p + 8) (.inl (K.2.2.1 0, 40960, .inl g8))) := f7.x (by omega)
                have ha9 : (xu h6 (p + 8) (.inl (K.2.2.1 0, 40960, .inl g8))) (p + 11) = some (.inl (K.2.2.1 0, 1024, .inl af)) := by rw [xu_ne (by omega)]; exact ha
                have hb9 : (xu h6 (p + 8) (.inl (K.2.2.1 0, 40960, .inl g8))) (p + 12) = some (.inl (K.2.2.1 0, 1024, .inl af2)) := by rw [xu_ne (by omega)]; exact ha2
                have hc9 : (xu h6 (p + 8) (.inl (K.2.2.1 0, 40960, .inl g8))) (p + 8) = some (.inl (K.2.2.1 0, 40960, .inl g8)) := xu_self
                clear ho7
                have ho9 := r9.1
                clear ho hs6 ha ha2
                generalize xu h6 (p + 8) (.inl (K.2.2.1 0, 40960, .inl g8)) = h9 at r9 w9 f9 ha9 hb9 hc9 ho9 ⊢
                refine xv_iconstN (pc' := 139) 0 hF xd_MO_pairs_138 (by decide +kernel) rfl ?_
                refine xv_istore (pc' := 141) hF xd_MO_pairs_139 (Nat.le_of_ble_eq_true rfl) rfl rfl ?_
                refine xv_iconstN (pc' := 142) 0 hF xd_MO_pairs_141 (by decide +kernel) rfl ?_
                refine xv_istore (pc' := 144) hF xd_MO_pairs_142 (Nat.le_of_ble_eq_true rfl) rfl rfl ?_
                obtain ⟨P, eP⟩ : ∃ P : Nat → Nat → Bool, P = (fun i j => if how = 4 then md_via M N i j 32 else if how = 3 then decide (M i j < 1000000) && decide (N j i < 1000000) else if how = 2 then decide (M i j < 1000000) && !decide (N i j < 1000000) else if how = 1 then decide (M i j < 1000000) && decide (N i j < 1000000) else decide (M i j < 1000000)) := ⟨_, rfl⟩
                have loop : ∀ d k, 1024 - k = d → k ≤ 1024 → XV G (0 + 0 + 0 + 0 + 0 + 0 + 0 + 0) (0 + 0 + 0 + 0 + 0 + 0 + 0 + 0) 144 [(6, .int (nI k)), (5, .int (nI (md_cn P k))), (4, .int (xb true)), (0, .ref p), (1, .int (nI s)), (2, .int (nI t)), (3, .int (nI how))] [] n h9 := by
                  intro d
                  induction d using Nat.strongRecOn with
                  | ind d ih =>
                    intro k hd hk
                    refine xv_iload (pc' := 146) hF xd_MO_pairs_144 rfl rfl ?_
                    refine xv_sipushN (pc' := 149) 1024 hF xd_MO_pairs_146 (by decide +kernel) rfl ?_
                    refine xv_icmp_geN (pc' := 152) (tgt := 272) hF (by omega) (by omega) xd_MO_pairs_149 (by decide) rfl (fun k1 => ?_) (fun k1 => ?_)
                    · have : k = 1024 := by omega
                      subst this
                      refine xv_iload (pc' := 274) hF xd_MO_pairs_272 rfl rfl ?_
                      refine hR _ _ _ _ _ _ _ (by omega) (by omega) ?_ xd_MO_pairs_274
                      refine ⟨rfl, f9, w9, M, N, hmn, hmn2, ?_⟩
                      unfold dk_pr
                      rw [eP]
                    · have hz1 := hb1 k k1
                      have hz2 := hb2 k k1
                      have hy1 : k / 32 < 32 := by omega
                      have hy2 : k % 32 < 32 := by omega
                      have ePk : P (k / 32) (k % 32) = (fun i j => if how = 4 then md_via M N i j 32 else if how = 3 then decide (M i j < 1000000) && decide (N j i < 1000000) else if how = 2 then decide (M i j < 1000000) && !decide (N i j < 1000000) else if how = 1 then decide (M i j < 1000000) && decide (N i j < 1000000) else decide (M i j < 1000000)) (k / 32) (k % 32) := by rw [eP]
                      dsimp only at ePk
                      have nx : md_cn P (k + 1) = md_cn P k + if P (k / 32) (k % 32) then 1 else 0 := by
                        unfold md_cn
                        simp only [bc_n]
                      have go := ih _ (by omega) (k + 1) rfl (by omega)
                      rw [nx] at go
                      refine xv_aload_n (pc' := 153) (i := 0) hF xd_MO_pairs_152 rfl rfl rfl ?_
                      refine xv_get (pc' := 156) (ci := 6) hF (by first | assumption | exact xu_self | (refine (xu_ne (by omega)).trans ?_; first | assumption | exact xu_self | (refine (xu_ne (by omega)).trans ?_; first | assumption | exact xu_self | (refine (xu_ne (by omega)).trans ?_; first | assumption | exact xu_self | (refine (xu_ne (by omega)).trans ?_; first | assumption | exact xu_self))))) rfl xu_MO 18 (by decide) xk_MO_f42 (by rfl) xd_MO_pairs_153 rfl ?_
                      refine xv_iload (pc' := 158) hF xd_MO_pairs_156 rfl rfl ?_
                      first | refine xv_ialdN (pc' := 159) hF (by first | assumption | exact xu_self | (refine (xu_ne (by omega)).trans ?_; first | assumption | exact xu_self | (refine (xu_ne (by omega)).trans ?_; first | assumption | exact xu_self | (refine (xu_ne (by omega)).trans ?_; first | assumption | exact xu_self | (refine (xu_ne (by omega)).trans ?_; first | assumption | exact xu_self))))) (by omega) (by decide) xd_MO_pairs_158 rfl ?_ | refine xv_iald (pc' := 159) hF (by first | assumption | exact xu_self | (refine (xu_ne (by omega)).trans ?_; first | assumption | exact xu_self | (refine (xu_ne (by omega)).trans ?_; first | assumption | exact xu_self | (refine (xu_ne (by omega)).trans ?_; first | assumption | exact xu_self | (refine (xu_ne (by omega)).trans ?_; first | assumption | exact xu_self))))) (by omega) xd_MO_pairs_158 rfl ?_
                      refine xv_topi (hM k k1) ?_
                      refine xv_ldc (pc' := 161) hF xk_MO_k96 xd_MO_pairs_159 rfl ?_
                      refine xv_topi (v' := nI 1000000) (by decide +kernel) ?_
                      have last : ∀ b8 : Bool, (if P (k / 32) (k % 32) then XV G (0 + 0 + 0 + 0 + 0 + 0 + 0 + 0) (0 + 0 + 0 + 0 + 0 + 0 + 0 + 0) 258 [(8, .int (xb b8)), (7, .int (xb (decide (M (k / 32) (k % 32) < 1000000)))), (6, .int (nI k)), (5, .int (nI (md_cn P k))), (4, .int (xb true)), (0, .ref p), (1, .int (nI s)), (2, .int (nI t)), (3, .int (nI how))] [.int (nI (md_cn P k))] n h9 else XV G (0 + 0 + 0 + 0 + 0 + 0 + 0 + 0) (0 + 0 + 0 + 0 + 0 + 0 + 0 + 0) 262 [(8, .int (xb b8)), (7, .int (xb (decide (M (k / 32) (k % 32) < 1000000)))), (6, .int (nI k)), (5, .int (nI (md_cn P k))), (4, .int (xb true)), (0, .ref p), (1, .int (nI s)), (2, .int (nI t)), (3, .int (nI how))] [.int (nI (md_cn P k))] n h9) := by
                        intro b8
                        split
                        · rename_i c
                          rw [if_pos c] at go
                          refine xv_iconstN (pc' := 259) 1 hF xd_MO_pairs_258 (by decide +kernel) rfl ?_
                          refine xv_goto (tgt := 263) hF xd_MO_pairs_259 (by decide) ?_
                          first | refine xv_iaddN (pc' := 264) hF xd_MO_pairs_263 rfl ?_ | refine xv_iadd (pc' := 264) hF xd_MO_pairs_263 rfl ?_
                          refine xv_istore (pc' := 266) hF xd_MO_pairs_264 (Nat.le_of_ble_eq_true rfl) rfl rfl ?_
                          first | refine xv_iincN (pc' := 269) hF xd_MO_pairs_266 rfl rfl (Nat.le_of_ble_eq_true rfl) rfl rfl ?_ | refine xv_iinc (pc' := 269) hF xd_MO_pairs_266 rfl rfl (Nat.le_of_ble_eq_true rfl) rfl rfl ?_
                          refine xv_goto (tgt := 144) hF xd_MO_pairs_269 (by decide) ?_
                          exact xv_loc _ (by repeat (first | exact trivial | refine ⟨rfl, ?_⟩)) go
                        · rename_i c
                          rw [if_neg c] at go
                          refine xv_iconstN (pc' := 263) 0 hF xd_MO_pairs_262 (by decide +kernel) rfl ?_
                          first | refine xv_iaddN (pc' := 264) hF xd_MO_pairs_263 rfl ?_ | refine xv_iadd (pc' := 264) hF xd_MO_pairs_263 rfl ?_
                          refine xv_istore (pc' := 266) hF xd_MO_pairs_264 (Nat.le_of_ble_eq_true rfl) rfl rfl ?_
                          first | refine xv_iincN (pc' := 269) hF xd_MO_pairs_266 rfl rfl (Nat.le_of_ble_eq_true rfl) rfl rfl ?_ | refine xv_iinc (pc' := 269) hF xd_MO_pairs_266 rfl rfl (Nat.le_of_ble_eq_true rfl) rfl rfl ?_
                          refine xv_goto (tgt := 144) hF xd_MO_pairs_269 (by decide) ?_
                          exact xv_loc _ (by repeat (first | exact trivial | refine ⟨rfl, ?_⟩)) go
                      have mid2 : ∀ b8 : Bool, b8 = (if how = 3 then decide (N (k % 32) (k / 32) < 1000000) else decide (N (k / 32) (k % 32) < 1000000)) → XV G (0 + 0 + 0 + 0 + 0 + 0 + 0 + 0) (0 + 0 + 0 + 0 + 0 + 0 + 0 + 0) 212 [(8, .int (xb b8)), (7, .int (xb (decide (M (k / 32) (k % 32) < 1000000)))), (6, .int (nI k)), (5, .int (nI (md_cn P k))), (4, .int (xb true)), (0, .ref p), (1, .int (nI s)), (2, .int (nI t)), (3, .int (nI how))] [] n h9 := by
                        intro b8 hb8
                        have last := last b8
                        refine xv_iload (pc' := 214) hF xd_MO_pairs_212 rfl rfl ?_
                        refine xv_iload_n (pc' := 215) (i := 3) hF xd_MO_pairs_214 rfl rfl rfl ?_
                        refine xv_iconstN (pc' := 216) 4 hF xd_MO_pairs_215 (by decide +kernel) rfl ?_
                        refine xv_icmp_neN (pc' := 219) (tgt := 234) hF (by omega) (by omega) xd_MO_pairs_216 (by decide) rfl (fun k2 => ?_) (fun k2 => ?_)
                        · rw [if_neg k2] at ePk
                          refine xv_iload (pc' := 236) hF xd_MO_pairs_234 rfl rfl ?_
                          refine xv_if_eqB (pc' := 239) (tgt := 262) hF xd_MO_pairs_236 (by decide) rfl (fun k3 => ?_) (fun k3 => ?_)
                          · have : P (k / 32) (k % 32) = false := by rw [ePk, k3]; simp
                            rw [this, if_neg (by decide)] at last
                            exact xv_loc _ (by repeat (first | exact trivial | refine ⟨rfl, ?_⟩)) last
                          · rw [k3] at ePk
                            refine xv_iload_n (pc' := 240) (i := 3) hF xd_MO_pairs_239 rfl rfl rfl ?_
                            refine xv_if_eqN (pc' := 243) (tgt := 258) hF (by omega) xd_MO_pairs_240 (by decide) rfl (fun k4 => ?_) (fun k4 => ?_)
                            · have : P (k / 32) (k % 32) = true := by rw [ePk, k4]; rfl
                              rw [this, if_pos rfl] at last
                              exact xv_loc _ (by repeat (first | exact trivial | refine ⟨rfl, ?_⟩)) last
                            · refine xv_iload (pc' := 245) hF xd_MO_pairs_243 rfl rfl ?_
                              refine xv_iload_n (pc' := 246) (i := 3) hF xd_MO_pairs_245 rfl rfl rfl ?_
                              refine xv_iconstN (pc' := 247) 2 hF xd_MO_pairs_246 (by decide +kernel) rfl ?_
                              refine xv_icmp_eqN (pc' := 250) (tgt := 254) hF (by omega) (by omega) xd_MO_pairs_247 (by decide) rfl (fun k5 => ?_) (fun k5 => ?_)
                              · subst k5
                                refine xv_iconstN (pc' := 255) 0 hF xd_MO_pairs_254 (by decide +kernel) rfl ?_
                                refine xv_topi (v' := xb false) (by decide +kernel) ?_
                                rw [if_neg (by decide)] at hb8
                                rw [if_neg (by decide), if_pos rfl] at ePk
                                rw [← hb8] at ePk
                                cases b8 with
                                | false =>
                                  rw [ePk, if_pos (by decide)] at last
                                  refine xv_icmp_ne (pc' := 258) (tgt := 262) hF xd_MO_pairs_255 (by decide) rfl (fun k6 => ?_) (fun k6 => ?_)
                                  · exact absurd rfl k6
                                  · exact xv_loc _ (by repeat (first | exact trivial | refine ⟨rfl, ?_⟩)) last
                                | true =>
                                  rw [ePk, if_neg (by decide)] at last
                                  refine xv_icmp_ne (pc' := 258) (tgt := 262) hF xd_MO_pairs_255 (by decide) rfl (fun k6 => ?_) (fun k6 => ?_)
                                  · exact xv_loc _ (by repeat (first | exact trivial | refine ⟨rfl, ?_⟩)) last
                                  · exact absurd k6 (by decide +kernel)
                              · refine xv_iconstN (pc' := 251) 1 hF xd_MO_pairs_250 (by decide +kernel) rfl ?_
                                refine xv_goto (tgt := 255) hF xd_MO_pairs_251 (by decide) ?_
                                refine xv_topi (v' := xb true) (by decide +kernel) ?_
                                have : P (k / 32) (k % 32) = b8 := by
                                  have c : how = 1 ∨ how = 3 := by omega
                                  rw [ePk, hb8]
                                  rcases c with rfl | rfl <;> rfl
                                cases b8 with
                                | true =>
                                  rw [this, if_pos (by decide)] at last
                                  refine xv_icmp_ne (pc' := 258) (tgt := 262) hF xd_MO_pairs_255 (by decide) rfl (fun k6 => ?_) (fun k6 => ?_)
                                  · exact absurd rfl k6
                                  · exact xv_loc _ (by repeat (first | exact trivial | refine ⟨rfl, ?_⟩)) last
                                | false =>
                                  rw [this, if_neg (by decide)] at last
                                  refine xv_icmp_ne (pc' := 258) (tgt := 262) hF xd_MO_pairs_255 (by decide) rfl (fun k6 => ?_) (fun k6 => ?_)
                                  · exact xv_loc _ (by repeat (first | exact trivial | refine ⟨rfl, ?_⟩)) last
                                  · exact absurd k6 (by decide +kernel)
                        · rw [if_pos k2] at ePk
                          have hcv := ch_via hy1 hy2 (bx_bd hg1 hmn) (bx_bd hg2 hmn2) 32 (Nat.le_refl _)
                          rw [← ePk] at hcv
                          have hq := hSq k k1
                          refine xv_aload_n (pc' := 220) (i := 0) hF xd_MO_pairs_219 rfl rfl rfl ?_
                          refine xv_get (pc' := 223) (ci := 6) hF (by first | assumption | exact xu_self | (refine (xu_ne (by omega)).trans ?_; first | assumption | exact xu_self | (refine (xu_ne (by omega)).trans ?_; first | assumption | exact xu_self | (refine (xu_ne (by omega)).trans ?_; first | assumption | exact xu_self | (refine (xu_ne (by omega)).trans ?_; first | assumption | exact xu_self))))) rfl xu_MO 14 (by decide) xk_MO_f33 (by rfl) xd_MO_pairs_220 rfl ?_
                          refine xv_iload (pc' := 225) hF xd_MO_pairs_223 rfl rfl ?_
                          first | refine xv_ialdN (pc' := 226) hF (by first | assumption | exact xu_self | (refine (xu_ne (by omega)).trans ?_; first | assumption | exact xu_self | (refine (xu_ne (by omega)).trans ?_; first | assumption | exact xu_self | (refine (xu_ne (by omega)).trans ?_; first | assumption | exact xu_self | (refine (xu_ne (by omega)).trans ?_; first | assumption | exact xu_self))))) (by omega) (by decide) xd_MO_pairs_225 rfl ?_ | refine xv_iald (pc' := 226) hF (by first | assumption | exact xu_self | (refine (xu_ne (by omega)).trans ?_; first | assumption | exact xu_self | (refine (xu_ne (by omega)).trans ?_; first | assumption | exact xu_self | (refine (xu_ne (by omega)).trans ?_; first | assumption | exact xu_self | (refine (xu_ne (by omega)).trans ?_; first | assumption | exact xu_self))))) (by omega) xd_MO_pairs_225 rfl ?_
                          refine xv_topi hq.1 ?_
                          have hq2 := hq.2
                          refine xv_ldc (pc' := 228) hF xk_MO_k96 xd_MO_pairs_226 rfl ?_
                          refine xv_topi (v' := nI 1000000) (by decide +kernel) ?_
                          refine xv_icmp_geN (pc' := 231) (tgt := 262) hF (by omega) (by omega) xd_MO_pairs_228 (by decide) rfl (fun k3 => ?_) (fun k3 => ?_)
                          · rw [if_neg (fun c => by have := hcv.mpr c; omega)] at last
                            exact xv_loc _ (by repeat (first | exact trivial | refine ⟨rfl, ?_⟩)) last
                          · rw [if_pos (hcv.mp k3)] at last
                            refine xv_goto (tgt := 258) hF xd_MO_pairs_231 (by decide) ?_
                            exact xv_loc _ (by repeat (first | exact trivial | refine ⟨rfl, ?_⟩)) last
                      have mid1 : XV G (0 + 0 + 0 + 0 + 0 + 0 + 0 + 0) (0 + 0 + 0 + 0 + 0 + 0 + 0 + 0) 171 [(7, .int (xb (decide (M (k / 32) (k % 32) < 1000000)))), (6, .int (nI k)), (5, .int (nI (md_cn P k))), (4, .int (xb true)), (0, .ref p), (1, .int (nI s)), (2, .int (nI t)), (3, .int (nI how))] [] n h9 := by
                        refine xv_aload_n (pc' := 172) (i := 0) hF xd_MO_pairs_171 rfl rfl rfl ?_
                        refine xv_get (pc' := 175) (ci := 6) hF (by first | assumption | exact xu_self | (refine (xu_ne (by omega)).trans ?_; first | assumption | exact xu_self | (refine (xu_ne (by omega)).trans ?_; first | assumption | exact xu_self | (refine (xu_ne (by omega)).trans ?_; first | assumption | exact xu_self | (refine (xu_ne (by omega)).trans ?_; first | assumption | exact xu_self))))) rfl xu_MO 19 (by decide) xk_MO_f45 (by rfl) xd_MO_pairs_172 rfl ?_
                        refine xv_iload_n (pc' := 176) (i := 3) hF xd_MO_pairs_175 rfl rfl rfl ?_
                        refine xv_iconstN (pc' := 177) 3 hF xd_MO_pairs_176 (by decide +kernel) rfl ?_
                        have rd : ∀ v : Nat, v ≤ 1000000 → (∀ b8 : Bool, b8 = decide (v < 1000000) → XV G (0 + 0 + 0 + 0 + 0 + 0 + 0 + 0) (0 + 0 + 0 + 0 + 0 + 0 + 0 + 0) 212 [(8, .int (xb b8)), (7, .int (xb (decide (M (k / 32) (k % 32) < 1000000)))), (6, .int (nI k)), (5, .int (nI (md_cn P k))), (4, .int (xb true)), (0, .ref p), (1, .int (nI s)), (2, .int (nI t)), (3, .int (nI how))] [] n h9) → XV G (0 + 0 + 0 + 0 + 0 + 0 + 0 + 0) (0 + 0 + 0 + 0 + 0 + 0 + 0 + 0) 200 [(7, .int (xb (decide (M (k / 32) (k % 32) < 1000000)))), (6, .int (nI k)), (5, .int (nI (md_cn P k))), (4, .int (xb true)), (0, .ref p), (1, .int (nI s)), (2, .int (nI t)), (3, .int (nI how))] [.int (nI v)] n h9 := by
                          intro v hv kk
                          refine xv_ldc (pc' := 202) hF xk_MO_k96 xd_MO_pairs_200 rfl ?_
                          refine xv_topi (v' := nI 1000000) (by decide +kernel) ?_
                          refine xv_icmp_geN (pc' := 205) (tgt := 209) hF (by omega) (by omega) xd_MO_pairs_202 (by decide) rfl (fun k2 => ?_) (fun k2 => ?_)
                          · refine xv_iconstN (pc' := 210) 0 hF xd_MO_pairs_209 (by decide +kernel) rfl ?_
                            refine xv_istore (pc' := 212) hF xd_MO_pairs_210 (Nat.le_of_ble_eq_true rfl) rfl rfl ?_
                            exact xv_loc _ (by repeat (first | exact trivial | refine ⟨rfl, ?_⟩)) (kk false (by rw [decide_eq_false (by omega)]))
                          · refine xv_iconstN (pc' := 206) 1 hF xd_MO_pairs_205 (by decide +kernel) rfl ?_
                            refine xv_goto (tgt := 210) hF xd_MO_pairs_206 (by decide) ?_
                            refine xv_istore (pc' := 212) hF xd_MO_pairs_210 (Nat.le_of_ble_eq_true rfl) rfl rfl ?_
                            exact xv_loc _ (by repeat (first | exact trivial | refine ⟨rfl, ?_⟩)) (kk true (by rw [decide_eq_true k2]))
                        refine xv_icmp_neN (pc' := 180) (tgt := 197) hF (by omega) (by omega) xd_MO_pairs_177 (by decide) rfl (fun k2 => ?_) (fun k2 => ?_)
                        · refine xv_iload (pc' := 199) hF xd_MO_pairs_197 rfl rfl ?_
                          have := rd _ hz2 (fun b8 hb => mid2 b8 (by rw [hb, if_neg k2]))
                          first | refine xv_ialdN (pc' := 200) hF (by first | assumption | exact xu_self | (refine (xu_ne (by omega)).trans ?_; first | assumption | exact xu_self | (refine (xu_ne (by omega)).trans ?_; first | assumption | exact xu_self | (refine (xu_ne (by omega)).trans ?_; first | assumption | exact xu_self | (refine (xu_ne (by omega)).trans ?_; first | assumption | exact xu_self))))) (by omega) (by decide) xd_MO_pairs_199 rfl ?_ | refine xv_iald (pc' := 200) hF (by first | assumption | exact xu_self | (refine (xu_ne (by omega)).trans ?_; first | assumption | exact xu_self | (refine (xu_ne (by omega)).trans ?_; first | assumption | exact xu_self | (refine (xu_ne (by omega)).trans ?_; first | assumption | exact xu_self | (refine (xu_ne (by omega)).trans ?_; first | assumption | exact xu_self))))) (by omega) xd_MO_pairs_199 rfl ?_
                          refine xv_topi (hN k k1) ?_
                          exact xv_loc _ (by repeat (first | exact trivial | refine ⟨rfl, ?_⟩)) this
                        · have hq := hN (32 * (k % 32) + k / 32) (by omega)
                          have hq2 := hb2 (32 * (k % 32) + k / 32) (by omega)
                          rw [show (32 * (k % 32) + k / 32) / 32 = k % 32 by omega, show (32 * (k % 32) + k / 32) % 32 = k / 32 by omega] at hq hq2
                          have := rd _ hq2 (fun b8 hb => mid2 b8 (by rw [hb, if_pos k2]))
                          refine xv_bipushN (pc' := 182) 32 hF xd_MO_pairs_180 (by decide +kernel) rfl ?_
                          refine xv_iload (pc' := 184) hF xd_MO_pairs_182 rfl rfl ?_
                          refine xv_bipushN (pc' := 186) 32 hF xd_MO_pairs_184 (by decide +kernel) rfl ?_
                          refine xv_iremN (pc' := 187) hF (by omega) (by decide) (by decide) xd_MO_pairs_186 rfl ?_
                          first | refine xv_imulN (pc' := 188) hF xd_MO_pairs_187 rfl ?_ | refine xv_imul (pc' := 188) hF xd_MO_pairs_187 rfl ?_
                          refine xv_iload (pc' := 190) hF xd_MO_pairs_188 rfl rfl ?_
                          refine xv_bipushN (pc' := 192) 32 hF xd_MO_pairs_190 (by decide +kernel) rfl ?_
                          refine xv_idivN (pc' := 193) hF (by omega) (by decide) (by decide) xd_MO_pairs_192 rfl ?_
                          first | refine xv_iaddN (pc' := 194) hF xd_MO_pairs_193 rfl ?_ | refine xv_iadd (pc' := 194) hF xd_MO_pairs_193 rfl ?_
                          refine xv_goto (tgt := 199) hF xd_MO_pairs_194 (by decide) ?_
                          first | refine xv_ialdN (pc' := 200) hF (by first | assumption | exact xu_self | (refine (xu_ne (by omega)).trans ?_; first | assumption | exact xu_self | (refine (xu_ne (by omega)).trans ?_; first | assumption | exact xu_self | (refine (xu_ne (by omega)).trans ?_; first | assumption | exact xu_self | (refine (xu_ne (by omega)).trans ?_; first | assumption | exact xu_self))))) (by omega) (by decide) xd_MO_pairs_199 rfl ?_ | refine xv_iald (pc' := 200) hF (by first | assumption | exact xu_self | (refine (xu_ne (by omega)).trans ?_; first | assumption | exact xu_self | (refine (xu_ne (by omega)).trans ?_; first | assumption | exact xu_self | (refine (xu_ne (by omega)).trans ?_; first | assumption | exact xu_self | (refine (xu_ne (by omega)).trans ?_; first | assumption | exact xu_self))))) (by omega) xd_MO_pairs_199 rfl ?_
                          refine xv_topi hq ?_
                          exact xv_loc _ (by repeat (first | exact trivial | refine ⟨rfl, ?_⟩)) this
                      refine xv_icmp_geN (pc' := 164) (tgt := 168) hF (by omega) (by omega) xd_MO_pairs_161 (by decide) rfl (fun k2 => ?_) (fun k2 => ?_)
                      · rw [decide_eq_false (by omega)] at mid1
                        refine xv_iconstN (pc' := 169) 0 hF xd_MO_pairs_168 (by decide +kernel) rfl ?_
                        refine xv_istore (pc' := 171) hF xd_MO_pairs_169 (Nat.le_of_ble_eq_true rfl) rfl rfl ?_
                        exact xv_loc _ (by repeat (first | exact trivial | refine ⟨rfl, ?_⟩)) mid1
                      · rw [decide_eq_true k2] at mid1
                        refine xv_iconstN (pc' := 165) 1 hF xd_MO_pairs_164 (by decide +kernel) rfl ?_
                        refine xv_goto (tgt := 169) hF xd_MO_pairs_165 (by decide) ?_
                        refine xv_istore (pc' := 171) hF xd_MO_pairs_169 (Nat.le_of_ble_eq_true rfl) rfl rfl ?_
                        exact xv_loc _ (by repeat (first | exact trivial | refine ⟨rfl, ?_⟩)) mid1
                exact xv_loc _ (by repeat (first | exact trivial | refine ⟨rfl, ?_⟩)) (loop 1024 0 (by omega) (by omega))
              have cl : ∀ d k g7, 1024 - k = d → k ≤ 1024 → sq_is g7 (sq_up (sq_up S6 0 M k) 1 N k) → XV G (0 + 0 + 0 + 0 + 0 + 0 + 0) (0 + 0 + 0 + 0 + 0 + 0 + 0) 86 [(5, .int (nI k)), (4, .int (xb true)), (0, .ref p), (1, .int (nI s)), (2, .int (nI t)), (3, .int (nI how))] [] n (xu h6 (p + 8) (.inl (K.2.2.1 0, 40960, .inl g7))) := by
                intro d
                induction d using Nat.strongRecOn with
                | ind d ih =>
                  intro k g7 hd hk hg7
                  have ho7 : (xu h6 (p + 8) (.inl (K.2.2.1 0, 40960, .inl g7))) p = some (.inr (6, [.int (nI 0), .ref (p + 1), .ref (p + 2), .int (nI ma), .ref (p + 3), .int (nI w), .ref (p + 4), .ref (p + 5), .ref (p + 6), .ref (p + 7), .int (nI ln6), .int (nI at6), .int (xm1 f6'), .int (xb true), .ref (p + 8), .ref (p + 9), .ref (p + 10), .int (nI op6), .ref (p + 11), .ref (p + 12)])) := by rw [xu_ne (by omega)]; exact ho
                  have hs7 : (xu h6 (p + 8) (.inl (K.2.2.1 0, 40960, .inl g7))) (p + 8) = some (.inl (K.2.2.1 0, 40960, .inl g7)) := xu_self
                  have ha7 : (xu h6 (p + 8) (.inl (K.2.2.1 0, 40960, .inl g7))) (p + 11) = some (.inl (K.2.2.1 0, 1024, .inl af)) := by rw [xu_ne (by omega)]; exact ha
                  refine xv_iload (pc' := 88) hF xd_MO_pairs_86 rfl rfl ?_
                  refine xv_sipushN (pc' := 91) 1024 hF xd_MO_pairs_88 (by decide +kernel) rfl ?_
                  refine xv_icmp_geN (pc' := 94) (tgt := 132) hF (by omega) (by omega) xd_MO_pairs_91 (by decide) rfl (fun k1 => ?_) (fun k1 => ?_)
                  · have : k = 1024 := by omega
                    subst this
                    refine xv_loc _ (by repeat (first | exact trivial | refine ⟨rfl, ?_⟩)) (tail g7 (hg7.congr fun s' a b _ ha' hb' => ?_))
                    unfold sq_up va_up
                    by_cases c : s' = 1
                    · subst c
                      rw [if_pos rfl, if_pos rfl, if_pos (by omega)]
                    · rw [if_neg c, if_neg c]
                      by_cases c2 : s' = 0
                      · subst c2
                        rw [if_pos rfl, if_pos rfl, if_pos (by omega)]
                      · rw [if_neg c2, if_neg c2]
                  · refine xv_aload_n (pc' := 95) (i := 0) hF xd_MO_pairs_94 rfl rfl rfl ?_
                    refine xv_get (pc' := 98) (ci := 6) hF (by first | assumption | exact xu_self | (refine (xu_ne (by omega)).trans ?_; first | assumption | exact xu_self | (refine (xu_ne (by omega)).trans ?_; first | assumption | exact xu_self | (refine (xu_ne (by omega)).trans ?_; first | assumption | exact xu_self | (refine (xu_ne (by omega)).trans ?_; first | assumption | exact xu_self))))) rfl xu_MO 14 (by decide) xk_MO_f33 (by rfl) xd_MO_pairs_95 rfl ?_
                    refine xv_iload (pc' := 100) hF xd_MO_pairs_98 rfl rfl ?_
                    refine xv_aload_n (pc' := 101) (i := 0) hF xd_MO_pairs_100 rfl rfl rfl ?_
                    refine xv_get (pc' := 104) (ci := 6) hF (by first | assumption | exact xu_self | (refine (xu_ne (by omega)).trans ?_; first | assumption | exact xu_self | (refine (xu_ne (by omega)).trans ?_; first | assumption | exact xu_self | (refine (xu_ne (by omega)).trans ?_; first | assumption | exact xu_self | (refine (xu_ne (by omega)).trans ?_; first | assumption | exact xu_self))))) rfl xu_MO 18 (by decide) xk_MO_f42 (by rfl) xd_MO_pairs_101 rfl ?_
                    refine xv_iload (pc' := 106) hF xd_MO_pairs_104 rfl rfl ?_
                    first | refine xv_ialdN (pc' := 107) hF (by first | assumption | exact xu_self | (refine (xu_ne (by omega)).trans ?_; first | assumption | exact xu_self | (refine (xu_ne (by omega)).trans ?_; first | assumption | exact xu_self | (refine (xu_ne (by omega)).trans ?_; first | assumption | exact xu_self | (refine (xu_ne (by omega)).trans ?_; first | assumption | exact xu_self))))) (by omega) (by decide) xd_MO_pairs_106 rfl ?_ | refine xv_iald (pc' := 107) hF (by first | assumption | exact xu_self | (refine (xu_ne (by omega)).trans ?_; first | assumption | exact xu_self | (refine (xu_ne (by omega)).trans ?_; first | assumption | exact xu_self | (refine (xu_ne (by omega)).trans ?_; first | assumption | exact xu_self | (refine (xu_ne (by omega)).trans ?_; first | assumption | exact xu_self))))) (by omega) xd_MO_pairs_106 rfl ?_
                    refine xv_topi (hM k k1) ?_
                    refine xv_iastN (pc' := 108) hF (by first | assumption | exact xu_self | (refine (xu_ne (by omega)).trans ?_; first | assumption | exact xu_self | (refine (xu_ne (by omega)).trans ?_; first | assumption | exact xu_self | (refine (xu_ne (by omega)).trans ?_; first | assumption | exact xu_self | (refine (xu_ne (by omega)).trans ?_; first | assumption | exact xu_self))))) (by omega) (by decide) xd_MO_pairs_107 rfl ?_
                    rw [xu_xu]
                    have hg71 : sq_is (upd g7 (1024 * 0 + k) (nI (M (k / 32) (k % 32)))) (sq_up (sq_up S6 0 M (k + 1)) 1 N k) := by
                      have h01 : sq_is g7 (sq_up (sq_up S6 1 N k) 0 M k) := hg7.congr fun s' a b _ _ _ => by
                        unfold sq_up va_up
                        by_cases c : s' = 1
                        · subst c; simp
                        · by_cases c2 : s' = 0
                          · subst c2; simp
                          · simp [c, c2]
                      exact (sq_step h01 (by omega) k1 rfl (hb1 k k1)).congr fun s' a b _ _ _ => by
                        unfold sq_up va_up
                        by_cases c : s' = 1
                        · subst c; simp
                        · by_cases c2 : s' = 0
                          · subst c2; simp
                          · simp [c, c2]
                    rw [Nat.mul_zero, Nat.zero_add] at hg71
                    have hg72 := sq_step (v := nI (N (k / 32) (k % 32))) hg71 (by omega) k1 rfl (hb2 k k1)
                    rw [Nat.mul_one] at hg72
                    generalize upd g7 k (nI (M (k / 32) (k % 32))) = g71 at hg71 hg72 ⊢
                    clear ho7 hs7 ha7
                    have ho7 : (xu h6 (p + 8) (.inl (K.2.2.1 0, 40960, .inl g71))) p = some (.inr (6, [.int (nI 0), .ref (p + 1), .ref (p + 2), .int (nI ma), .ref (p + 3), .int (nI w), .ref (p + 4), .ref (p + 5), .ref (p + 6), .ref (p + 7), .int (nI ln6), .int (nI at6), .int (xm1 f6'), .int (xb true), .ref (p + 8), .ref (p + 9), .ref (p + 10), .int (nI op6), .ref (p + 11), .ref (p + 12)])) := by rw [xu_ne (by omega)]; exact ho
                    have hs7 : (xu h6 (p + 8) (.inl (K.2.2.1 0, 40960, .inl g71))) (p + 8) = some (.inl (K.2.2.1 0, 40960, .inl g71)) := xu_self
                    have ha7 : (xu h6 (p + 8) (.inl (K.2.2.1 0, 40960, .inl g71))) (p + 12) = some (.inl (K.2.2.1 0, 1024, .inl af2)) := by rw [xu_ne (by omega)]; exact ha2
                    have go := ih _ (by omega) (k + 1) _ rfl (by omega) hg72
                    refine xv_aload_n (pc' := 109) (i := 0) hF xd_MO_pairs_108 rfl rfl rfl ?_
                    refine xv_get (pc' := 112) (ci := 6) hF (by first | assumption | exact xu_self | (refine (xu_ne (by omega)).trans ?_; first | assumption | exact xu_self | (refine (xu_ne (by omega)).trans ?_; first | assumption | exact xu_self | (refine (xu_ne (by omega)).trans ?_; first | assumption | exact xu_self | (refine (xu_ne (by omega)).trans ?_; first | assumption | exact xu_self))))) rfl xu_MO 14 (by decide) xk_MO_f33 (by rfl) xd_MO_pairs_109 rfl ?_
                    refine xv_sipushN (pc' := 115) 1024 hF xd_MO_pairs_112 (by decide +kernel) rfl ?_
                    refine xv_iload (pc' := 117) hF xd_MO_pairs_115 rfl rfl ?_
                    first | refine xv_iaddN (pc' := 118) hF xd_MO_pairs_117 rfl ?_ | refine xv_iadd (pc' := 118) hF xd_MO_pairs_117 rfl ?_
                    refine xv_aload_n (pc' := 119) (i := 0) hF xd_MO_pairs_118 rfl rfl rfl ?_
                    refine xv_get (pc' := 122) (ci := 6) hF (by first | assumption | exact xu_self | (refine (xu_ne (by omega)).trans ?_; first | assumption | exact xu_self | (refine (xu_ne (by omega)).trans ?_; first | assumption | exact xu_self | (refine (xu_ne (by omega)).trans ?_; first | assumption | exact xu_self | (refine (xu_ne (by omega)).trans ?_; first | assumption | exact xu_self))))) rfl xu_MO 19 (by decide) xk_MO_f45 (by rfl) xd_MO_pairs_119 rfl ?_
                    refine xv_iload (pc' := 124) hF xd_MO_pairs_122 rfl rfl ?_
                    first | refine xv_ialdN (pc' := 125) hF (by first | assumption | exact xu_self | (refine (xu_ne (by omega)).trans ?_; first | assumption | exact xu_self | (refine (xu_ne (by omega)).trans ?_; first | assumption | exact xu_self | (refine (xu_ne (by omega)).trans ?_; first | assumption | exact xu_self | (refine (xu_ne (by omega)).trans ?_; first | assumption | exact xu_self))))) (by omega) (by decide) xd_MO_pairs_124 rfl ?_ | refine xv_iald (pc' := 125) hF (by first | assumption | exact xu_self | (refine (xu_ne (by omega)).trans ?_; first | assumption | exact xu_self | (refine (xu_ne (by omega)).trans ?_; first | assumption | exact xu_self | (refine (xu_ne (by omega)).trans ?_; first | assumption | exact xu_self | (refine (xu_ne (by omega)).trans ?_; first | assumption | exact xu_self))))) (by omega) xd_MO_pairs_124 rfl ?_
                    refine xv_topi (hN k k1) ?_
                    refine xv_iastN (pc' := 126) hF (by first | assumption | exact xu_self | (refine (xu_ne (by omega)).trans ?_; first | assumption | exact xu_self | (refine (xu_ne (by omega)).trans ?_; first | assumption | exact xu_self | (refine (xu_ne (by omega)).trans ?_; first | assumption | exact xu_self | (refine (xu_ne (by omega)).trans ?_; first | assumption | exact xu_self))))) (by omega) (by decide) xd_MO_pairs_125 rfl ?_
                    rw [xu_xu]
                    first | refine xv_iincN (pc' := 129) hF xd_MO_pairs_126 rfl rfl (Nat.le_of_ble_eq_true rfl) rfl rfl ?_ | refine xv_iinc (pc' := 129) hF xd_MO_pairs_126 rfl rfl (Nat.le_of_ble_eq_true rfl) rfl rfl ?_
                    refine xv_goto (tgt := 86) hF xd_MO_pairs_129 (by decide) ?_
                    exact xv_loc _ (by repeat (first | exact trivial | refine ⟨rfl, ?_⟩)) go
              have := cl 1024 0 g6 (by omega) (by omega) (sq_0 1 N (sq_0 0 M hg6))
              rw [show xu h6 (p + 8) (.inl (K.2.2.1 0, 40960, .inl g6)) = h6 from xu_same hs6] at this
              exact xv_loc _ (by repeat (first | exact trivial | refine ⟨rfl, ?_⟩)) this
            · cases e6
          · cases e5
      · cases e3
