/-! the reference: a group's end -/
set_option maxHeartbeats 4000000 in
set_option maxRecDepth 100000 in
theorem c_MO_shuts (K : xK) (n : Nat) (h : xH) (p th ma sz ln at_ f op : Nat) (mk : Bool) (tx : Nat → Nat) (E : Nat → Nat → Nat → Bool) (Tg : Nat → Nat → Bool) (S : Nat → Nat → Nat → Nat) (so : Nat → Nat) (ba : Nat → Bool) (q0 q1 : rs_T) (r : mo_S K h p th ma sz ln at_ 0 op mk tx E Tg (S) (so) (ba)) (hat : mo_c ln tx at_ = 41) (hop : 0 < op) (hrun : rp_run tx q0 at_ = some q1) (hst : q1.1 = 0) (hti : ti_R E Tg mk S so ba op at_ (rp_er q1)) : XM K xy_MO_shuts xw_MO_shuts (xrm 5 96 0 0) [.ref p] n h (x_pv fun n' h' => n = n' ∧ mo_fr p h h' ∧ ∃ a' f' S' so', sg_end E Tg mk ln tx q0 (at_ + 1) S' so' (va_up ba op true) (op - 1) a' f' ∧ mo_S K h' p th ma sz ln a' f' (op - 1) mk tx E Tg (S') (so') (va_up ba op true)) 0 0 := by
  obtain ⟨b1, b2, b3, b4, b5⟩ := id r.2.2.2.2.2.2.2
  have ho := r.1
  obtain ⟨la, ea⟩ := mo_c_in (k := at_) (tx := tx) (ln := ln) (by omega)
  obtain ⟨l1, l2, l3, l4⟩ := rp_er_le q1
  have hop1 : (rp_er q1).2.1 = op := hti.1
  refine xm_v (by decide +kernel) (Nat.le_of_ble_eq_true rfl) (fun G hF hR => ?_)
  refine xv_aload_n (pc' := 1) (i := 0) hF xd_MO_shuts_0 rfl rfl rfl ?_
  refine xv_dup (pc' := 2) hF xd_MO_shuts_1 rfl rfl ?_
  refine xv_get (pc' := 5) (ci := 6) hF (by first | assumption | exact xu_self | (refine (xu_ne (by omega)).trans ?_; first | assumption | exact xu_self | (refine (xu_ne (by omega)).trans ?_; first | assumption | exact xu_self | (refine (xu_ne (by omega)).trans ?_; first | assumption | exact xu_self | (refine (xu_ne (by omega)).trans ?_; first | assumption | exact xu_self))))) rfl xu_MO 11 (by decide) xk_MO_f72 (by rfl) xd_MO_shuts_2 rfl ?_
  refine xv_iconstN (pc' := 6) 1 hF xd_MO_shuts_5 (by decide +kernel) rfl ?_
  first | refine xv_iaddN (pc' := 7) hF xd_MO_shuts_6 rfl ?_ | refine xv_iadd (pc' := 7) hF xd_MO_shuts_6 rfl ?_
  refine xv_put (pc' := 10) (ci := 6) (ty := xt_MO 11) hF (by first | assumption | exact xu_self | (refine (xu_ne (by omega)).trans ?_; first | assumption | exact xu_self | (refine (xu_ne (by omega)).trans ?_; first | assumption | exact xu_self | (refine (xu_ne (by omega)).trans ?_; first | assumption | exact xu_self | (refine (xu_ne (by omega)).trans ?_; first | assumption | exact xu_self))))) rfl xu_MO xt_MO xo_MO xn_MO 11 (by decide) xk_MO_f72 rfl (by decide +kernel) (by first | rfl | exact xb_nw _ | decide +kernel) (by first | rfl | exact xb_ft _ | decide +kernel) (by exact Nat.le_of_ble_eq_true rfl) (by dsimp only [List.set] <;> rfl) xd_MO_shuts_7 rfl ?_
  refine xv_aload_n (pc' := 11) (i := 0) hF xd_MO_shuts_10 rfl rfl rfl ?_
  have r1 := r.ob (th' := th) (at' := at_ + 1) (f' := 0) (op' := op) (mk' := mk) b1 (by omega) (by omega)
  refine xv_callVv (pc' := 14) (ci := 6) hF (c_MO_bar K n _ p th ma sz ln (at_ + 1) 0 op mk tx E Tg S so ba r1) xq_MO_bar xk_MO_m126 xk_i_MO_bar xk_s_MO_bar (by first | assumption | exact xu_self | (refine (xu_ne (by omega)).trans ?_; first | assumption | exact xu_self | (refine (xu_ne (by omega)).trans ?_; first | assumption | exact xu_self | (refine (xu_ne (by omega)).trans ?_; first | assumption | exact xu_self | (refine (xu_ne (by omega)).trans ?_; first | assumption | exact xu_self))))) rfl ⟨(Nat.le_of_ble_eq_true rfl), (Nat.le_of_ble_eq_true rfl)⟩ rfl rfl (Nat.le_of_ble_eq_true rfl) ⟨(Nat.le_of_ble_eq_true rfl), (Nat.le_of_ble_eq_true rfl)⟩ xd_MO_shuts_11 rfl (fun n2 h2 q2 => ?_)
  obtain ⟨rfl, f2, r2⟩ := q2
  have f2 : mo_fr p h h2 := (mo_fr.rf.x (by omega)).tr f2
  clear ho
  obtain ⟨ho, ⟨g2, hs2, hg2⟩, -⟩ := id r2
  refine xv_aload_n (pc' := 15) (i := 0) hF xd_MO_shuts_14 rfl rfl rfl ?_
  refine xv_iconstN (pc' := 16) 3 hF xd_MO_shuts_15 (by decide +kernel) rfl ?_
  refine xv_aload_n (pc' := 17) (i := 0) hF xd_MO_shuts_16 rfl rfl rfl ?_
  refine xv_get (pc' := 20) (ci := 6) hF (by first | assumption | exact xu_self | (refine (xu_ne (by omega)).trans ?_; first | assumption | exact xu_self | (refine (xu_ne (by omega)).trans ?_; first | assumption | exact xu_self | (refine (xu_ne (by omega)).trans ?_; first | assumption | exact xu_self | (refine (xu_ne (by omega)).trans ?_; first | assumption | exact xu_self))))) rfl xu_MO 17 (by decide) xk_MO_f114 (by rfl) xd_MO_shuts_17 rfl ?_
  first | refine xv_imulN (pc' := 21) hF xd_MO_shuts_20 rfl ?_ | refine xv_imul (pc' := 21) hF xd_MO_shuts_20 rfl ?_
  refine xv_iconstN (pc' := 22) 3 hF xd_MO_shuts_21 (by decide +kernel) rfl ?_
  refine xv_aload_n (pc' := 23) (i := 0) hF xd_MO_shuts_22 rfl rfl rfl ?_
  refine xv_get (pc' := 26) (ci := 6) hF (by first | assumption | exact xu_self | (refine (xu_ne (by omega)).trans ?_; first | assumption | exact xu_self | (refine (xu_ne (by omega)).trans ?_; first | assumption | exact xu_self | (refine (xu_ne (by omega)).trans ?_; first | assumption | exact xu_self | (refine (xu_ne (by omega)).trans ?_; first | assumption | exact xu_self))))) rfl xu_MO 17 (by decide) xk_MO_f114 (by rfl) xd_MO_shuts_23 rfl ?_
  first | refine xv_imulN (pc' := 27) hF xd_MO_shuts_26 rfl ?_ | refine xv_imul (pc' := 27) hF xd_MO_shuts_26 rfl ?_
  refine xv_iconstN (pc' := 28) 1 hF xd_MO_shuts_27 (by decide +kernel) rfl ?_
  first | refine xv_isubN (pc' := 29) hF (by omega) xd_MO_shuts_28 rfl ?_ | refine xv_isub (pc' := 29) hF xd_MO_shuts_28 rfl ?_
  refine xv_callVv (pc' := 32) (ci := 6) hF (c_MO_copy K n h2 p th ma sz ln (at_ + 1) 0 op mk (3 * op) (3 * op - 1) g2 _ ho hs2 hg2 (by omega) (by omega)) xq_MO_copy xk_MO_m105 xk_i_MO_copy xk_s_MO_copy (by first | assumption | exact xu_self | (refine (xu_ne (by omega)).trans ?_; first | assumption | exact xu_self | (refine (xu_ne (by omega)).trans ?_; first | assumption | exact xu_self | (refine (xu_ne (by omega)).trans ?_; first | assumption | exact xu_self | (refine (xu_ne (by omega)).trans ?_; first | assumption | exact xu_self))))) rfl ⟨(Nat.le_of_ble_eq_true rfl), (Nat.le_of_ble_eq_true rfl)⟩ rfl rfl (Nat.le_of_ble_eq_true rfl) ⟨(Nat.le_of_ble_eq_true rfl), (Nat.le_of_ble_eq_true rfl)⟩ xd_MO_shuts_29 rfl (fun n3 h3 q3 => ?_)
  obtain ⟨rfl, g3, rfl, hg3⟩ := q3
  have r3 := r2.sq hg3
  clear ho hs2 hg2
  obtain ⟨ho, -, ⟨sf, hso, hso2⟩, -⟩ := id r3
  refine xv_aload_n (pc' := 33) (i := 0) hF xd_MO_shuts_32 rfl rfl rfl ?_
  refine xv_get (pc' := 36) (ci := 6) hF (by first | assumption | exact xu_self | (refine (xu_ne (by omega)).trans ?_; first | assumption | exact xu_self | (refine (xu_ne (by omega)).trans ?_; first | assumption | exact xu_self | (refine (xu_ne (by omega)).trans ?_; first | assumption | exact xu_self | (refine (xu_ne (by omega)).trans ?_; first | assumption | exact xu_self))))) rfl xu_MO 15 (by decide) xk_MO_f36 (by rfl) xd_MO_shuts_33 rfl ?_
  refine xv_iconstN (pc' := 37) 3 hF xd_MO_shuts_36 (by decide +kernel) rfl ?_
  refine xv_aload_n (pc' := 38) (i := 0) hF xd_MO_shuts_37 rfl rfl rfl ?_
  refine xv_get (pc' := 41) (ci := 6) hF (by first | assumption | exact xu_self | (refine (xu_ne (by omega)).trans ?_; first | assumption | exact xu_self | (refine (xu_ne (by omega)).trans ?_; first | assumption | exact xu_self | (refine (xu_ne (by omega)).trans ?_; first | assumption | exact xu_self | (refine (xu_ne (by omega)).trans ?_; first | assumption | exact xu_self))))) rfl xu_MO 17 (by decide) xk_MO_f114 (by rfl) xd_MO_shuts_38 rfl ?_
  first | refine xv_imulN (pc' := 42) hF xd_MO_shuts_41 rfl ?_ | refine xv_imul (pc' := 42) hF xd_MO_shuts_41 rfl ?_
  refine xv_iconstN (pc' := 43) 1 hF xd_MO_shuts_42 (by decide +kernel) rfl ?_
  first | refine xv_isubN (pc' := 44) hF (by omega) xd_MO_shuts_43 rfl ?_ | refine xv_isub (pc' := 44) hF xd_MO_shuts_43 rfl ?_
  refine xv_aload_n (pc' := 45) (i := 0) hF xd_MO_shuts_44 rfl rfl rfl ?_
  refine xv_get (pc' := 48) (ci := 6) hF (by first | assumption | exact xu_self | (refine (xu_ne (by omega)).trans ?_; first | assumption | exact xu_self | (refine (xu_ne (by omega)).trans ?_; first | assumption | exact xu_self | (refine (xu_ne (by omega)).trans ?_; first | assumption | exact xu_self | (refine (xu_ne (by omega)).trans ?_; first | assumption | exact xu_self))))) rfl xu_MO 15 (by decide) xk_MO_f36 (by rfl) xd_MO_shuts_45 rfl ?_
  refine xv_iconstN (pc' := 49) 3 hF xd_MO_shuts_48 (by decide +kernel) rfl ?_
  refine xv_aload_n (pc' := 50) (i := 0) hF xd_MO_shuts_49 rfl rfl rfl ?_
  refine xv_get (pc' := 53) (ci := 6) hF (by first | assumption | exact xu_self | (refine (xu_ne (by omega)).trans ?_; first | assumption | exact xu_self | (refine (xu_ne (by omega)).trans ?_; first | assumption | exact xu_self | (refine (xu_ne (by omega)).trans ?_; first | assumption | exact xu_self | (refine (xu_ne (by omega)).trans ?_; first | assumption | exact xu_self))))) rfl xu_MO 17 (by decide) xk_MO_f114 (by rfl) xd_MO_shuts_50 rfl ?_
  first | refine xv_imulN (pc' := 54) hF xd_MO_shuts_53 rfl ?_ | refine xv_imul (pc' := 54) hF xd_MO_shuts_53 rfl ?_
  first | refine xv_ialdN (pc' := 55) hF (by first | assumption | exact xu_self | (refine (xu_ne (by omega)).trans ?_; first | assumption | exact xu_self | (refine (xu_ne (by omega)).trans ?_; first | assumption | exact xu_self | (refine (xu_ne (by omega)).trans ?_; first | assumption | exact xu_self | (refine (xu_ne (by omega)).trans ?_; first | assumption | exact xu_self))))) (by omega) (by decide) xd_MO_shuts_54 rfl ?_ | refine xv_iald (pc' := 55) hF (by first | assumption | exact xu_self | (refine (xu_ne (by omega)).trans ?_; first | assumption | exact xu_self | (refine (xu_ne (by omega)).trans ?_; first | assumption | exact xu_self | (refine (xu_ne (by omega)).trans ?_; first | assumption | exact xu_self | (refine (xu_ne (by omega)).trans ?_; first | assumption | exact xu_self))))) (by omega) xd_MO_shuts_54 rfl ?_
  refine xv_topi (v' := nI (so (3 * op) + so (3 * op + 1))) (by rw [hso2 _ (by omega), va_s]) ?_
  refine xv_iastN (pc' := 56) hF (by first | assumption | exact xu_self | (refine (xu_ne (by omega)).trans ?_; first | assumption | exact xu_self | (refine (xu_ne (by omega)).trans ?_; first | assumption | exact xu_self | (refine (xu_ne (by omega)).trans ?_; first | assumption | exact xu_self | (refine (xu_ne (by omega)).trans ?_; first | assumption | exact xu_self))))) (by omega) (by decide) xd_MO_shuts_55 rfl ?_
  have r4 := r3.so (so_up hso2 (3 * op - 1) (so (3 * op) + so (3 * op + 1)))
  clear ho
  have ho := r4.1
  refine xv_aload_n (pc' := 57) (i := 0) hF xd_MO_shuts_56 rfl rfl rfl ?_
  refine xv_dup (pc' := 58) hF xd_MO_shuts_57 rfl rfl ?_
  refine xv_get (pc' := 61) (ci := 6) hF (by first | assumption | exact xu_self | (refine (xu_ne (by omega)).trans ?_; first | assumption | exact xu_self | (refine (xu_ne (by omega)).trans ?_; first | assumption | exact xu_self | (refine (xu_ne (by omega)).trans ?_; first | assumption | exact xu_self | (refine (xu_ne (by omega)).trans ?_; first | assumption | exact xu_self))))) rfl xu_MO 17 (by decide) xk_MO_f114 (by rfl) xd_MO_shuts_58 rfl ?_
  refine xv_iconstN (pc' := 62) 1 hF xd_MO_shuts_61 (by decide +kernel) rfl ?_
  first | refine xv_isubN (pc' := 63) hF (by omega) xd_MO_shuts_62 rfl ?_ | refine xv_isub (pc' := 63) hF xd_MO_shuts_62 rfl ?_
  refine xv_put (pc' := 66) (ci := 6) (ty := xt_MO 17) hF (by first | assumption | exact xu_self | (refine (xu_ne (by omega)).trans ?_; first | assumption | exact xu_self | (refine (xu_ne (by omega)).trans ?_; first | assumption | exact xu_self | (refine (xu_ne (by omega)).trans ?_; first | assumption | exact xu_self | (refine (xu_ne (by omega)).trans ?_; first | assumption | exact xu_self))))) rfl xu_MO xt_MO xo_MO xn_MO 17 (by decide) xk_MO_f114 rfl (by decide +kernel) (by first | rfl | exact xb_nw _ | decide +kernel) (by first | rfl | exact xb_ft _ | decide +kernel) (by exact Nat.le_of_ble_eq_true rfl) (by dsimp only [List.set] <;> rfl) xd_MO_shuts_63 rfl ?_
  refine xv_aload_n (pc' := 67) (i := 0) hF xd_MO_shuts_66 rfl rfl rfl ?_
  have r5 := r4.ob (th' := th) (at' := at_ + 1) (f' := 0) (op' := op - 1) (mk' := mk) (by omega) (by omega) (by omega)
  have ht := hti.shut (rp_er_ir q1) hop
  have hrun2 : rp_run tx q0 (at_ + 1) = some (rp_dn (rp_sr ((rp_er q1).2.2.2.2.2.2.1 (rp_er q1).2.1) (rp_ap 7 (rp_er q1)))) := by
    refine rp_run_s hrun ?_
    rw [← ea, hat]
    unfold rp_step
    rw [if_pos hst]
    show (if q1.2.1 = 0 then none else some (rp_dn (rp_sr ((rp_ew q1).2.2.2.2.2.2.1 q1.2.1) (rp_ew q1)))) = _
    rw [if_neg (by omega), l4]
    rfl
  refine xv_callVv (pc' := 70) (ci := 6) hF (c_MO_signs K n _ p th ma sz ln (at_ + 1) f (op - 1) mk tx E Tg _ _ (va_up ba op true) q0 _ r5 hrun2 (by show (rp_er q1).1 = 0; omega) rfl ht) xq_MO_signs xk_MO_m136 xk_i_MO_signs xk_s_MO_signs (by first | assumption | exact xu_self | (refine (xu_ne (by omega)).trans ?_; first | assumption | exact xu_self | (refine (xu_ne (by omega)).trans ?_; first | assumption | exact xu_self | (refine (xu_ne (by omega)).trans ?_; first | assumption | exact xu_self | (refine (xu_ne (by omega)).trans ?_; first | assumption | exact xu_self))))) rfl ⟨(Nat.le_of_ble_eq_true rfl), (Nat.le_of_ble_eq_true rfl)⟩ rfl rfl (Nat.le_of_ble_eq_true rfl) ⟨(Nat.le_of_ble_eq_true rfl), (Nat.le_of_ble_eq_true rfl)⟩ xd_MO_shuts_67 rfl (fun n6 h6 q6 => ?_)
  obtain ⟨rfl, f6, a', f', S', so', q6, q7⟩ := q6
  refine hR _ _ _ _ _ _ (by omega) (by omega) ?_ xd_MO_shuts_70
  exact ⟨rfl, (((f2.x (by omega)).x (by omega)).x (by omega)).tr f6, a', f', S', so', q6, q7⟩
/-! an atom, in the reader -/
theorem gh_nx_ex (E : Nat → Nat → Nat → Bool) (x : Int32) (i j : Nat) : ∀ k, gh_nx E x i j k = true ↔ ∃ l, l < k ∧ bt x l = true ∧ E l i j = true
  | 0 => ⟨fun h => (by cases h), fun ⟨l, h, _⟩ => absurd h (Nat.not_lt_zero _)⟩
  | k + 1 => by
    simp only [gh_nx, Bool.or_eq_true, Bool.and_eq_true]
    rw [gh_nx_ex E x i j k]
    constructor
    · rintro (⟨l, h1, h2⟩ | h)
      · exact ⟨l, by omega, h2⟩
      · exact ⟨k, by omega, h⟩
    · rintro ⟨l, h1, h2⟩
      by_cases c : l = k
      · subst c; exact Or.inr h2
      · exact Or.inl ⟨l, by omega, h2⟩
def am_m (c : Nat) : Nat := if c = 46 then 255 else 2 ^ (c - 97)
theorem am_bt : ∀ c, c < 105 → (c = 46 ∨ 97 ≤ c) → ∀ l, l < 8 → (bt (nI (am_m c)) l = true ↔ (c = 46 ∨ c = 97 + l)) := by decide +kernel
theorem am_eg {E : Nat → Nat → Nat → Bool} {c : Nat} (hc : am_c c) (f : Nat → Nat → Nat × Nat) : pd_eg (fun i j => gh_nx E (nI (am_m c)) (f i j).1 (f i j).2 8 = true) = pd_eg (fun i j => ∃ l, l < 8 ∧ am_l c l ∧ E l (f i j).1 (f i j).2 = true) := by
  congr 1
  funext i j
  rw [eq_iff_iff, gh_nx_ex]
  unfold am_c at hc
  constructor
  · rintro ⟨l, h1, h2, h3⟩
    exact ⟨l, h1, (am_bt c (by omega) (by omega) l h1).mp h2, h3⟩
  · rintro ⟨l, h1, h2, h3⟩
    exact ⟨l, h1, (am_bt c (by omega) (by omega) l h1).mpr h2, h3⟩
theorem am_st {c k : Nat} {q : rs_T} (h : am_c c) : rp_st c k q = some (rp_go 0 (rp_as k (am_m c) q)) := by
  unfold rp_st am_m
  rcases h with h | h
  · rw [if_pos h, if_pos h]
  · rw [if_neg (by omega), if_pos h, if_neg (by omega)]
theorem am_no {c k : Nat} {q : rs_T} (h : ¬ am_c c) : rp_st c k q = none := by
  unfold rp_st
  unfold am_c at h
  rw [if_neg (by omega), if_neg (by omega)]
/-- which characters begin what: in a row -/
theorem row_st {c : Nat} {q : rs_T} (h : am_c c) : rp_row c q = rp_st c 2 q := by
  unfold rp_row
  unfold am_c at h
  rw [if_neg (by omega), if_neg (by omega), if_neg (by omega), if_neg (by omega), if_neg (by omega), if_neg (by omega), if_neg (by omega), if_neg (by omega), if_neg (by omega)]
theorem row_no {c : Nat} {q : rs_T} (h1 : c ≠ 40) (h2 : c = 41 → q.2.1 = 0) (h3 : c ≠ 124) (h4 : ¬ am_c c) (h5 : c ≠ 94) (h6 : c ≠ 91) (h7 : q.2.2.1 = true → ¬ sg c) : rp_row c q = none := by
  unfold rp_row
  rw [if_neg h1]
  split
  · rw [if_pos (h2 (by assumption))]
  · split
    · split
      · exact absurd (Or.inl (by assumption)) (h7 (by assumption))
      · rfl
    · split
      · split
        · exact absurd (Or.inr (Or.inl (by assumption))) (h7 (by assumption))
        · rfl
      · split
        · split
          · exact absurd (Or.inr (Or.inr (Or.inl (by assumption)))) (h7 (by assumption))
          · rfl
        · split
          · split
            · exact absurd (Or.inr (Or.inr (Or.inr (by assumption)))) (h7 (by assumption))
            · rfl
          · exact am_no h4
theorem rp_as_go (s k m : Nat) (q : rs_T) : rp_go 0 (rp_as k m (rp_go s q)) = rp_go 0 (rp_as k m q) := by
  obtain ⟨st, op, ir, rs, le, mo, en, os⟩ := q
  cases ir <;> rfl
theorem am_run {ln a : Nat} {tx : Nat → Nat} {q0 q : rs_T} (h : rp_run tx q0 a = some q) (hq : q.1 = 0) (hc : am_c (mo_c ln tx a) ∨ mo_c ln tx a = 94) : am_d ln tx a ≤ ln ∧ (am_c (mo_c ln tx (am_d ln tx a)) → rp_run tx q0 (am_d ln tx a + 1) = some (rp_go 0 (rp_as (if am_e ln tx a then 3 else 2) (am_m (mo_c ln tx (am_d ln tx a))) q))) ∧ (¬ am_c (mo_c ln tx (am_d ln tx a)) → rd_bad ln tx q0 (am_d ln tx a + 1)) := by
  obtain ⟨la, ea⟩ := mo_c_in (k := a) (tx := tx) (ln := ln) (by unfold am_c at hc; omega)
  by_cases c : mo_c ln tx a = 94
  · have e1 : am_e ln tx a = true := decide_eq_true c
    have e2 : am_d ln tx a = a + 1 := by unfold am_d; rw [e1]; rfl
    rw [e1, e2]
    have s1 : rp_run tx q0 (a + 1) = some (rp_go 1 q) := by
      refine rp_run_s h ?_
      rw [← ea, c]
      unfold rp_step
      rw [if_pos hq]
      rfl
    have s2 : ∀ d, rp_step d (rp_go 1 q) = rp_st d 3 (rp_go 1 q) := fun d => rfl
    refine ⟨by omega, fun hc => ?_, fun hc => rd_bad_at s1 (by omega) (show (1 : Nat) ≠ 0 by decide) fun hk => ?_⟩
    · obtain ⟨l2, e3⟩ := mo_c_in (k := a + 1) (tx := tx) (ln := ln) (by unfold am_c at hc; omega)
      refine rp_run_s s1 ?_
      rw [← e3, s2, am_st hc, rp_as_go]
      rfl
    · rw [mo_c_of hk] at hc
      rw [s2, am_no hc]
  · have e1 : am_e ln tx a = false := decide_eq_false c
    have e2 : am_d ln tx a = a := by unfold am_d; rw [e1]; rfl
    have hc : am_c (mo_c ln tx a) := hc.resolve_right c
    rw [e1, e2]
    refine ⟨by omega, fun _ => ?_, fun hn => absurd hc hn⟩
    refine rp_run_s h ?_
    rw [← ea]
    unfold rp_step
    rw [if_pos hq, row_st hc, am_st hc]
    rfl
/-- a test, in the reader -/
theorem ts_run {ln a : Nat} {tx : Nat → Nat} {q0 q : rs_T} (h : rp_run tx q0 a = some q) (hq : q.1 = 0) (hc : mo_c ln tx a = 91) : ts_d ln tx a ≤ ln ∧ (¬ (48 ≤ mo_c ln tx (ts_d ln tx a) ∧ mo_c ln tx (ts_d ln tx a) < 52) → rd_bad ln tx q0 (ts_d ln tx a + 1)) ∧ (48 ≤ mo_c ln tx (ts_d ln tx a) → mo_c ln tx (ts_d ln tx a) < 52 → (mo_c ln tx (ts_d ln tx a + 1) = 93 → ts_d ln tx a + 2 ≤ ln ∧ rp_run tx q0 (ts_d ln tx a + 2) = some (rp_go 0 (rp_as (if ts_e ln tx a then 5 else 4) (mo_c ln tx (ts_d ln tx a) - 48) q))) ∧ (mo_c ln tx (ts_d ln tx a + 1) ≠ 93 → rd_bad ln tx q0 (ts_d ln tx a + 2))) := by
  obtain ⟨la, ea⟩ := mo_c_in (k := a) (tx := tx) (ln := ln) (by omega)
  have s1 : rp_run tx q0 (a + 1) = some (rp_go 2 q) := by
    refine rp_run_s h ?_
    rw [← ea, hc]
    unfold rp_step
    rw [if_pos hq]
    rfl
  obtain ⟨sx, sk, hd, hsx, htg⟩ : ∃ sx sk, ts_d ln tx a ≤ ln ∧ (rp_run tx q0 (ts_d ln tx a) = some (rp_go sx q) ∧ sx ≠ 0 ∧ sk = (if ts_e ln tx a then 5 else 4)) ∧ (ts_d ln tx a < ln → rp_step (tx (ts_d ln tx a)) (rp_go sx q) = rp_tg (tx (ts_d ln tx a)) sk (rp_go sx q)) := by
    by_cases c : mo_c ln tx (a + 1) = 33
    · obtain ⟨l2, e2⟩ := mo_c_in (k := a + 1) (tx := tx) (ln := ln) (by omega)
      have e1 : ts_e ln tx a = true := decide_eq_true c
      have e3 : ts_d ln tx a = a + 2 := by unfold ts_d; rw [e1]; rfl
      rw [e1, e3]
      refine ⟨3, 5, by omega, ⟨rp_run_s s1 ?_, by decide, rfl⟩, fun _ => rfl⟩
      rw [← e2, c]; rfl
    · have e1 : ts_e ln tx a = false := decide_eq_false c
      have e3 : ts_d ln tx a = a + 1 := by unfold ts_d; rw [e1]; rfl
      rw [e1, e3]
      refine ⟨2, 4, by omega, ⟨s1, by decide, rfl⟩, fun hk => ?_⟩
      rw [mo_c_of hk] at c
      show (if tx (a + 1) = 33 then _ else _) = _
      rw [if_neg c]
  obtain ⟨r1, r2, r3⟩ := hsx
  generalize ts_d ln tx a = da at *
  refine ⟨hd, fun hn => rd_bad_at r1 hd r2 fun hk => ?_, fun h1 h2 => ?_⟩
  · rw [htg hk]
    rw [mo_c_of hk] at hn
    unfold rp_tg
    rw [if_neg hn]
  · obtain ⟨l3, e3⟩ := mo_c_in (k := da) (tx := tx) (ln := ln) (by omega)
    have s2 : rp_run tx q0 (da + 1) = some (rp_go 4 (rp_as sk (mo_c ln tx da - 48) (rp_go sx q))) := by
      refine rp_run_s r1 ?_
      rw [htg l3, e3]
      unfold rp_tg
      rw [if_pos (by omega)]
    refine ⟨fun h93 => ?_, fun h93 => rd_bad_at s2 (by omega) (show (4 : Nat) ≠ 0 by decide) fun hk => ?_⟩
    · obtain ⟨l4, e4⟩ := mo_c_in (k := da + 1) (tx := tx) (ln := ln) (by omega)
      refine ⟨by omega, rp_run_s s2 ?_⟩
      rw [← r3, ← rp_as_go sx]
      show (if tx (da + 1) = 93 then some (rp_go 0 _) else none) = _
      rw [if_pos (by omega)]
      rfl
    · rw [mo_c_of hk] at h93
      show (if tx (da + 1) = 93 then some (rp_go 0 _) else none) = _
      rw [if_neg h93]
