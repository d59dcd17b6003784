/-! the reference's small steps -/
theorem dg_lt : ∀ a, a < 48 → ∀ l, l < 10 → nI a - nI 48 < nI l := by decide +kernel
set_option maxHeartbeats 4000000 in
set_option maxRecDepth 100000 in
theorem c_MO_digit (K : xK) (n : Nat) (h : xH) (p th ma sz ln at_ f op : Nat) (mk : Bool) (tx : Nat → Nat) (E : Nat → Nat → Nat → Bool) (Tg : Nat → Nat → Bool) (S : Nat → Nat → Nat → Nat) (so : Nat → Nat) (ba : Nat → Bool) (l : Nat) (r : mo_S K h p th ma sz ln at_ f op mk tx E Tg (S) (so) (ba)) (hl : l < 10) : XM K xy_MO_digit xw_MO_digit (xrm 1 20 0 0) [.ref p, .int (nI l)] n h (x_pi fun r n' h' => n = n' ∧ mo_fr p h h' ∧ ((f ≠ 0 ∧ r = nI 1 ∧ mo_S K h' p th ma sz ln at_ f op mk tx E Tg (S) (so) (ba)) ∨ (f = 0 ∧ 48 + l ≤ mo_c ln tx at_ ∧ mo_c ln tx at_ ≤ 57 ∧ r = nI (mo_c ln tx at_ - 48) ∧ mo_S K h' p th ma sz ln (at_ + 1) f op mk tx E Tg (S) (so) (ba)) ∨ (f = 0 ∧ ¬ (48 + l ≤ mo_c ln tx at_ ∧ mo_c ln tx at_ ≤ 57) ∧ r = nI 1 ∧ mo_S K h' p th ma sz ln at_ (at_ + 1) op mk tx E Tg (S) (so) (ba)))) 0 0 := by
  obtain ⟨ho, ⟨g, hs, hg⟩, ⟨sf, hso, hso2⟩, ⟨bf, hba, hba2⟩, ⟨tf, htx, htx2⟩, ⟨ef, hed, hed2⟩, ⟨gf, htg, htg2⟩, b1, b2, b3, b4, b5⟩ := id r
  have m256 := mo_c_lt (k := at_) b5
  refine xm_i (by decide +kernel) (Nat.le_of_ble_eq_true rfl) (fun G hF hR => ?_)
  refine xv_aload_n (pc' := 1) (i := 0) hF xd_MO_digit_0 rfl rfl rfl ?_
  refine xv_callVi (pc' := 4) (ci := 6) hF (c_MO_nowS K n h p th ma sz ln at_ f op mk tx E Tg S so ba r) xq_MO_now xk_MO_m85 xk_i_MO_now xk_s_MO_now (by first | assumption | exact xu_self | (refine (xu_ne (by omega)).trans ?_; first | assumption | exact xu_self | (refine (xu_ne (by omega)).trans ?_; first | assumption | exact xu_self | (refine (xu_ne (by omega)).trans ?_; first | assumption | exact xu_self | (refine (xu_ne (by omega)).trans ?_; first | assumption | exact xu_self))))) rfl ⟨(Nat.le_of_ble_eq_true rfl), (Nat.le_of_ble_eq_true rfl)⟩ rfl rfl (Nat.le_of_ble_eq_true rfl) ⟨(Nat.le_of_ble_eq_true rfl), (Nat.le_of_ble_eq_true rfl)⟩ xd_MO_digit_1 rfl (fun r1 n1 h1 q1 => ?_)
  obtain ⟨rfl, rfl, rfl⟩ := q1
  have bad : f = 0 → ¬ (48 + l ≤ mo_c ln tx at_ ∧ mo_c ln tx at_ ≤ 57) → ∀ x, XV G (0 + 0 + 0) (0 + 0 + 0) 26 [(2, .int x), (0, .ref p), (1, .int (nI l))] [] n h := by
    intro e hb x
    subst e
    refine xv_aload_n (pc' := 27) (i := 0) hF xd_MO_digit_26 rfl rfl rfl ?_
    refine xv_callVv (pc' := 30) (ci := 6) hF (c_MO_fail K n h p th ma sz ln at_ 0 op mk ho (by omega)) xq_MO_fail xk_MO_m89 xk_i_MO_fail xk_s_MO_fail (by first | assumption | exact xu_self | (refine (xu_ne (by omega)).trans ?_; first | assumption | exact xu_self | (refine (xu_ne (by omega)).trans ?_; first | assumption | exact xu_self | (refine (xu_ne (by omega)).trans ?_; first | assumption | exact xu_self | (refine (xu_ne (by omega)).trans ?_; first | assumption | exact xu_self))))) rfl ⟨(Nat.le_of_ble_eq_true rfl), (Nat.le_of_ble_eq_true rfl)⟩ rfl rfl (Nat.le_of_ble_eq_true rfl) ⟨(Nat.le_of_ble_eq_true rfl), (Nat.le_of_ble_eq_true rfl)⟩ xd_MO_digit_27 rfl (fun n1 h1 q1 => ?_)
    obtain ⟨rfl, rfl⟩ := q1
    rw [if_pos rfl]
    refine xv_aload_n (pc' := 31) (i := 0) hF xd_MO_digit_30 rfl rfl rfl ?_
    refine xv_callVi (pc' := 34) (ci := 6) hF (c_MO_goes K n _ p th ma sz ln at_ (at_ + 1) op mk xu_self (by omega)) xq_MO_goes xk_MO_m81 xk_i_MO_goes xk_s_MO_goes (by first | assumption | exact xu_self | (refine (xu_ne (by omega)).trans ?_; first | assumption | exact xu_self | (refine (xu_ne (by omega)).trans ?_; first | assumption | exact xu_self | (refine (xu_ne (by omega)).trans ?_; first | assumption | exact xu_self | (refine (xu_ne (by omega)).trans ?_; first | assumption | exact xu_self))))) rfl ⟨(Nat.le_of_ble_eq_true rfl), (Nat.le_of_ble_eq_true rfl)⟩ rfl rfl (Nat.le_of_ble_eq_true rfl) ⟨(Nat.le_of_ble_eq_true rfl), (Nat.le_of_ble_eq_true rfl)⟩ xd_MO_digit_31 rfl (fun r1 n1 h1 q1 => ?_)
    obtain ⟨rfl, rfl, rfl⟩ := q1
    rw [decide_eq_false (Nat.succ_ne_zero at_)]
    refine xv_if_eqB (pc' := 37) (tgt := 47) hF xd_MO_digit_34 (by decide) rfl (fun e3 => ?_) (fun e3 => ?_)
    · refine xv_aload_n (pc' := 48) (i := 0) hF xd_MO_digit_47 rfl rfl rfl ?_
      refine xv_callVi (pc' := 51) (ci := 6) hF (c_MO_goes K n _ p th ma sz ln at_ (at_ + 1) op mk xu_self (by omega)) xq_MO_goes xk_MO_m81 xk_i_MO_goes xk_s_MO_goes (by first | assumption | exact xu_self | (refine (xu_ne (by omega)).trans ?_; first | assumption | exact xu_self | (refine (xu_ne (by omega)).trans ?_; first | assumption | exact xu_self | (refine (xu_ne (by omega)).trans ?_; first | assumption | exact xu_self | (refine (xu_ne (by omega)).trans ?_; first | assumption | exact xu_self))))) rfl ⟨(Nat.le_of_ble_eq_true rfl), (Nat.le_of_ble_eq_true rfl)⟩ rfl rfl (Nat.le_of_ble_eq_true rfl) ⟨(Nat.le_of_ble_eq_true rfl), (Nat.le_of_ble_eq_true rfl)⟩ xd_MO_digit_48 rfl (fun r1 n1 h1 q1 => ?_)
      obtain ⟨rfl, rfl, rfl⟩ := q1
      rw [decide_eq_false (Nat.succ_ne_zero at_)]
      refine xv_if_eqB (pc' := 54) (tgt := 58) hF xd_MO_digit_51 (by decide) rfl (fun e4 => ?_) (fun e4 => ?_)
      · refine xv_iconstN (pc' := 59) 1 hF xd_MO_digit_58 (by decide +kernel) rfl ?_
        refine hR _ _ _ _ _ _ _ (by omega) (by omega) ?_ xd_MO_digit_59
        exact ⟨rfl, mo_fr.rf.x (by omega), Or.inr (Or.inr ⟨rfl, hb, rfl, r.ob (mk' := mk) b1 (by omega) b3⟩)⟩
      · cases e4
    · cases e3
  by_cases c48 : 48 ≤ mo_c ln tx at_
  · refine xv_bipushN (pc' := 6) 48 hF xd_MO_digit_4 (by decide +kernel) rfl ?_
    first | refine xv_isubN (pc' := 7) hF (by omega) xd_MO_digit_6 rfl ?_ | refine xv_isub (pc' := 7) hF xd_MO_digit_6 rfl ?_
    refine xv_istore_n (pc' := 8) (i := 2) hF xd_MO_digit_7 rfl (Nat.le_of_ble_eq_true rfl) rfl rfl ?_
    refine xv_aload_n (pc' := 9) (i := 0) hF xd_MO_digit_8 rfl rfl rfl ?_
    refine xv_callVi (pc' := 12) (ci := 6) hF (c_MO_goes K n h p th ma sz ln at_ f op mk ho (by omega)) xq_MO_goes xk_MO_m81 xk_i_MO_goes xk_s_MO_goes (by first | assumption | exact xu_self | (refine (xu_ne (by omega)).trans ?_; first | assumption | exact xu_self | (refine (xu_ne (by omega)).trans ?_; first | assumption | exact xu_self | (refine (xu_ne (by omega)).trans ?_; first | assumption | exact xu_self | (refine (xu_ne (by omega)).trans ?_; first | assumption | exact xu_self))))) rfl ⟨(Nat.le_of_ble_eq_true rfl), (Nat.le_of_ble_eq_true rfl)⟩ rfl rfl (Nat.le_of_ble_eq_true rfl) ⟨(Nat.le_of_ble_eq_true rfl), (Nat.le_of_ble_eq_true rfl)⟩ xd_MO_digit_9 rfl (fun r1 n1 h1 q1 => ?_)
    obtain ⟨rfl, rfl, rfl⟩ := q1
    by_cases hf : f = 0
    · subst hf
      rw [decide_eq_true rfl]
      refine xv_if_eqB (pc' := 15) (tgt := 30) hF xd_MO_digit_12 (by decide) rfl (fun e1 => ?_) (fun e1 => ?_)
      · cases e1
      · refine xv_iload_n (pc' := 16) (i := 2) hF xd_MO_digit_15 rfl rfl rfl ?_
        refine xv_iload_n (pc' := 17) (i := 1) hF xd_MO_digit_16 rfl rfl rfl ?_
        refine xv_icmp_ltN (pc' := 20) (tgt := 26) hF (by omega) (by omega) xd_MO_digit_17 (by decide) rfl (fun e2 => ?_) (fun e2 => ?_)
        · exact xv_loc _ (by repeat (first | exact trivial | refine ⟨rfl, ?_⟩)) (bad rfl (by omega) _)
        · refine xv_iload_n (pc' := 21) (i := 2) hF xd_MO_digit_20 rfl rfl rfl ?_
          refine xv_bipushN (pc' := 23) 9 hF xd_MO_digit_21 (by decide +kernel) rfl ?_
          refine xv_icmp_leN (pc' := 26) (tgt := 30) hF (by omega) (by omega) xd_MO_digit_23 (by decide) rfl (fun e3 => ?_) (fun e3 => ?_)
          · refine xv_aload_n (pc' := 31) (i := 0) hF xd_MO_digit_30 rfl rfl rfl ?_
            refine xv_callVi (pc' := 34) (ci := 6) hF (c_MO_goes K n h p th ma sz ln at_ 0 op mk ho (by omega)) xq_MO_goes xk_MO_m81 xk_i_MO_goes xk_s_MO_goes (by first | assumption | exact xu_self | (refine (xu_ne (by omega)).trans ?_; first | assumption | exact xu_self | (refine (xu_ne (by omega)).trans ?_; first | assumption | exact xu_self | (refine (xu_ne (by omega)).trans ?_; first | assumption | exact xu_self | (refine (xu_ne (by omega)).trans ?_; first | assumption | exact xu_self))))) rfl ⟨(Nat.le_of_ble_eq_true rfl), (Nat.le_of_ble_eq_true rfl)⟩ rfl rfl (Nat.le_of_ble_eq_true rfl) ⟨(Nat.le_of_ble_eq_true rfl), (Nat.le_of_ble_eq_true rfl)⟩ xd_MO_digit_31 rfl (fun r1 n1 h1 q1 => ?_)
            obtain ⟨rfl, rfl, rfl⟩ := q1
            rw [decide_eq_true rfl]
            refine xv_if_eqB (pc' := 37) (tgt := 47) hF xd_MO_digit_34 (by decide) rfl (fun e4 => ?_) (fun e4 => ?_)
            · cases e4
            · refine xv_aload_n (pc' := 38) (i := 0) hF xd_MO_digit_37 rfl rfl rfl ?_
              refine xv_dup (pc' := 39) hF xd_MO_digit_38 rfl rfl ?_
              refine xv_get (pc' := 42) (ci := 6) hF (by first | assumption | exact xu_self | (refine (xu_ne (by omega)).trans ?_; first | assumption | exact xu_self | (refine (xu_ne (by omega)).trans ?_; first | assumption | exact xu_self | (refine (xu_ne (by omega)).trans ?_; first | assumption | exact xu_self | (refine (xu_ne (by omega)).trans ?_; first | assumption | exact xu_self))))) rfl xu_MO 11 (by decide) xk_MO_f72 (by rfl) xd_MO_digit_39 rfl ?_
              refine xv_iconstN (pc' := 43) 1 hF xd_MO_digit_42 (by decide +kernel) rfl ?_
              first | refine xv_iaddN (pc' := 44) hF xd_MO_digit_43 rfl ?_ | refine xv_iadd (pc' := 44) hF xd_MO_digit_43 rfl ?_
              refine xv_put (pc' := 47) (ci := 6) (ty := xt_MO 11) hF (by first | assumption | exact xu_self | (refine (xu_ne (by omega)).trans ?_; first | assumption | exact xu_self | (refine (xu_ne (by omega)).trans ?_; first | assumption | exact xu_self | (refine (xu_ne (by omega)).trans ?_; first | assumption | exact xu_self | (refine (xu_ne (by omega)).trans ?_; first | assumption | exact xu_self))))) rfl xu_MO xt_MO xo_MO xn_MO 11 (by decide) xk_MO_f72 rfl (by decide +kernel) (by first | rfl | exact xb_nw _ | decide +kernel) (by first | rfl | exact xb_ft _ | decide +kernel) (by exact Nat.le_of_ble_eq_true rfl) (by dsimp only [List.set] <;> rfl) xd_MO_digit_44 rfl ?_
              refine xv_aload_n (pc' := 48) (i := 0) hF xd_MO_digit_47 rfl rfl rfl ?_
              refine xv_callVi (pc' := 51) (ci := 6) hF (c_MO_goes K n _ p th ma sz ln (at_ + 1) 0 op mk xu_self (by omega)) xq_MO_goes xk_MO_m81 xk_i_MO_goes xk_s_MO_goes (by first | assumption | exact xu_self | (refine (xu_ne (by omega)).trans ?_; first | assumption | exact xu_self | (refine (xu_ne (by omega)).trans ?_; first | assumption | exact xu_self | (refine (xu_ne (by omega)).trans ?_; first | assumption | exact xu_self | (refine (xu_ne (by omega)).trans ?_; first | assumption | exact xu_self))))) rfl ⟨(Nat.le_of_ble_eq_true rfl), (Nat.le_of_ble_eq_true rfl)⟩ rfl rfl (Nat.le_of_ble_eq_true rfl) ⟨(Nat.le_of_ble_eq_true rfl), (Nat.le_of_ble_eq_true rfl)⟩ xd_MO_digit_48 rfl (fun r1 n1 h1 q1 => ?_)
              obtain ⟨rfl, rfl, rfl⟩ := q1
              rw [decide_eq_true rfl]
              refine xv_if_eqB (pc' := 54) (tgt := 58) hF xd_MO_digit_51 (by decide) rfl (fun e5 => ?_) (fun e5 => ?_)
              · cases e5
              · refine xv_iload_n (pc' := 55) (i := 2) hF xd_MO_digit_54 rfl rfl rfl ?_
                refine xv_goto (tgt := 59) hF xd_MO_digit_55 (by decide) ?_
                refine hR _ _ _ _ _ _ _ (by omega) (by omega) ?_ xd_MO_digit_59
                exact ⟨rfl, mo_fr.rf.x (by omega), Or.inr (Or.inl ⟨rfl, by omega, by omega, rfl, r.ob (mk' := mk) b1 (by omega) (by have := (mo_c_in (k := at_) (tx := tx) (ln := ln) (by omega)).1; omega)⟩)⟩
          · exact xv_loc _ (by repeat (first | exact trivial | refine ⟨rfl, ?_⟩)) (bad rfl (by omega) _)
    · rw [decide_eq_false hf]
      refine xv_if_eqB (pc' := 15) (tgt := 30) hF xd_MO_digit_12 (by decide) rfl (fun e1 => ?_) (fun e1 => ?_)
      · refine xv_aload_n (pc' := 31) (i := 0) hF xd_MO_digit_30 rfl rfl rfl ?_
        refine xv_callVi (pc' := 34) (ci := 6) hF (c_MO_goes K n h p th ma sz ln at_ f op mk ho (by omega)) xq_MO_goes xk_MO_m81 xk_i_MO_goes xk_s_MO_goes (by first | assumption | exact xu_self | (refine (xu_ne (by omega)).trans ?_; first | assumption | exact xu_self | (refine (xu_ne (by omega)).trans ?_; first | assumption | exact xu_self | (refine (xu_ne (by omega)).trans ?_; first | assumption | exact xu_self | (refine (xu_ne (by omega)).trans ?_; first | assumption | exact xu_self))))) rfl ⟨(Nat.le_of_ble_eq_true rfl), (Nat.le_of_ble_eq_true rfl)⟩ rfl rfl (Nat.le_of_ble_eq_true rfl) ⟨(Nat.le_of_ble_eq_true rfl), (Nat.le_of_ble_eq_true rfl)⟩ xd_MO_digit_31 rfl (fun r1 n1 h1 q1 => ?_)
        obtain ⟨rfl, rfl, rfl⟩ := q1
        rw [decide_eq_false hf]
        refine xv_if_eqB (pc' := 37) (tgt := 47) hF xd_MO_digit_34 (by decide) rfl (fun e4 => ?_) (fun e4 => ?_)
        · refine xv_aload_n (pc' := 48) (i := 0) hF xd_MO_digit_47 rfl rfl rfl ?_
          refine xv_callVi (pc' := 51) (ci := 6) hF (c_MO_goes K n h p th ma sz ln at_ f op mk ho (by omega)) xq_MO_goes xk_MO_m81 xk_i_MO_goes xk_s_MO_goes (by first | assumption | exact xu_self | (refine (xu_ne (by omega)).trans ?_; first | assumption | exact xu_self | (refine (xu_ne (by omega)).trans ?_; first | assumption | exact xu_self | (refine (xu_ne (by omega)).trans ?_; first | assumption | exact xu_self | (refine (xu_ne (by omega)).trans ?_; first | assumption | exact xu_self))))) rfl ⟨(Nat.le_of_ble_eq_true rfl), (Nat.le_of_ble_eq_true rfl)⟩ rfl rfl (Nat.le_of_ble_eq_true rfl) ⟨(Nat.le_of_ble_eq_true rfl), (Nat.le_of_ble_eq_true rfl)⟩ xd_MO_digit_48 rfl (fun r1 n1 h1 q1 => ?_)
          obtain ⟨rfl, rfl, rfl⟩ := q1
          rw [decide_eq_false hf]
          refine xv_if_eqB (pc' := 54) (tgt := 58) hF xd_MO_digit_51 (by decide) rfl (fun e5 => ?_) (fun e5 => ?_)
          · refine xv_iconstN (pc' := 59) 1 hF xd_MO_digit_58 (by decide +kernel) rfl ?_
            refine hR _ _ _ _ _ _ _ (by omega) (by omega) ?_ xd_MO_digit_59
            exact ⟨rfl, mo_fr.rf, Or.inl ⟨hf, rfl, r⟩⟩
          · cases e5
        · cases e4
      · cases e1
  · refine xv_bipushN (pc' := 6) 48 hF xd_MO_digit_4 (by decide +kernel) rfl ?_
    first | refine xv_isubN (pc' := 7) hF (by omega) xd_MO_digit_6 rfl ?_ | refine xv_isub (pc' := 7) hF xd_MO_digit_6 rfl ?_
    refine xv_istore_n (pc' := 8) (i := 2) hF xd_MO_digit_7 rfl (Nat.le_of_ble_eq_true rfl) rfl rfl ?_
    refine xv_aload_n (pc' := 9) (i := 0) hF xd_MO_digit_8 rfl rfl rfl ?_
    refine xv_callVi (pc' := 12) (ci := 6) hF (c_MO_goes K n h p th ma sz ln at_ f op mk ho (by omega)) xq_MO_goes xk_MO_m81 xk_i_MO_goes xk_s_MO_goes (by first | assumption | exact xu_self | (refine (xu_ne (by omega)).trans ?_; first | assumption | exact xu_self | (refine (xu_ne (by omega)).trans ?_; first | assumption | exact xu_self | (refine (xu_ne (by omega)).trans ?_; first | assumption | exact xu_self | (refine (xu_ne (by omega)).trans ?_; first | assumption | exact xu_self))))) rfl ⟨(Nat.le_of_ble_eq_true rfl), (Nat.le_of_ble_eq_true rfl)⟩ rfl rfl (Nat.le_of_ble_eq_true rfl) ⟨(Nat.le_of_ble_eq_true rfl), (Nat.le_of_ble_eq_true rfl)⟩ xd_MO_digit_9 rfl (fun r1 n1 h1 q1 => ?_)
    obtain ⟨rfl, rfl, rfl⟩ := q1
    by_cases hf : f = 0
    · subst hf
      rw [decide_eq_true rfl]
      refine xv_if_eqB (pc' := 15) (tgt := 30) hF xd_MO_digit_12 (by decide) rfl (fun e1 => ?_) (fun e1 => ?_)
      · cases e1
      · refine xv_iload_n (pc' := 16) (i := 2) hF xd_MO_digit_15 rfl rfl rfl ?_
        refine xv_iload_n (pc' := 17) (i := 1) hF xd_MO_digit_16 rfl rfl rfl ?_
        refine xv_icmp_lt (pc' := 20) (tgt := 26) hF xd_MO_digit_17 (by decide) rfl (fun e2 => ?_) (fun e2 => ?_)
        · exact xv_loc _ (by repeat (first | exact trivial | refine ⟨rfl, ?_⟩)) (bad rfl (by omega) _)
        · exact absurd (dg_lt _ (by omega) l hl) e2
    · rw [decide_eq_false hf]
      refine xv_if_eqB (pc' := 15) (tgt := 30) hF xd_MO_digit_12 (by decide) rfl (fun e1 => ?_) (fun e1 => ?_)
      · refine xv_aload_n (pc' := 31) (i := 0) hF xd_MO_digit_30 rfl rfl rfl ?_
        refine xv_callVi (pc' := 34) (ci := 6) hF (c_MO_goes K n h p th ma sz ln at_ f op mk ho (by omega)) xq_MO_goes xk_MO_m81 xk_i_MO_goes xk_s_MO_goes (by first | assumption | exact xu_self | (refine (xu_ne (by omega)).trans ?_; first | assumption | exact xu_self | (refine (xu_ne (by omega)).trans ?_; first | assumption | exact xu_self | (refine (xu_ne (by omega)).trans ?_; first | assumption | exact xu_self | (refine (xu_ne (by omega)).trans ?_; first | assumption | exact xu_self))))) rfl ⟨(Nat.le_of_ble_eq_true rfl), (Nat.le_of_ble_eq_true rfl)⟩ rfl rfl (Nat.le_of_ble_eq_true rfl) ⟨(Nat.le_of_ble_eq_true rfl), (Nat.le_of_ble_eq_true rfl)⟩ xd_MO_digit_31 rfl (fun r1 n1 h1 q1 => ?_)
        obtain ⟨rfl, rfl, rfl⟩ := q1
        rw [decide_eq_false hf]
        refine xv_if_eqB (pc' := 37) (tgt := 47) hF xd_MO_digit_34 (by decide) rfl (fun e4 => ?_) (fun e4 => ?_)
        · refine xv_aload_n (pc' := 48) (i := 0) hF xd_MO_digit_47 rfl rfl rfl ?_
          refine xv_callVi (pc' := 51) (ci := 6) hF (c_MO_goes K n h p th ma sz ln at_ f op mk ho (by omega)) xq_MO_goes xk_MO_m81 xk_i_MO_goes xk_s_MO_goes (by first | assumption | exact xu_self | (refine (xu_ne (by omega)).trans ?_; first | assumption | exact xu_self | (refine (xu_ne (by omega)).trans ?_; first | assumption | exact xu_self | (refine (xu_ne (by omega)).trans ?_; first | assumption | exact xu_self | (refine (xu_ne (by omega)).trans ?_; first | assumption | exact xu_self))))) rfl ⟨(Nat.le_of_ble_eq_true rfl), (Nat.le_of_ble_eq_true rfl)⟩ rfl rfl (Nat.le_of_ble_eq_true rfl) ⟨(Nat.le_of_ble_eq_true rfl), (Nat.le_of_ble_eq_true rfl)⟩ xd_MO_digit_48 rfl (fun r1 n1 h1 q1 => ?_)
          obtain ⟨rfl, rfl, rfl⟩ := q1
          rw [decide_eq_false hf]
          refine xv_if_eqB (pc' := 54) (tgt := 58) hF xd_MO_digit_51 (by decide) rfl (fun e5 => ?_) (fun e5 => ?_)
          · refine xv_iconstN (pc' := 59) 1 hF xd_MO_digit_58 (by decide +kernel) rfl ?_
            refine hR _ _ _ _ _ _ _ (by omega) (by omega) ?_ xd_MO_digit_59
            exact ⟨rfl, mo_fr.rf, Or.inl ⟨hf, rfl, r⟩⟩
          · cases e5
        · cases e4
      · cases e1
set_option maxHeartbeats 4000000 in
set_option maxRecDepth 100000 in
theorem c_MO_bracket (K : xK) (n : Nat) (h : xH) (p th ma sz ln at_ f op : Nat) (mk : Bool) (tx : Nat → Nat) (E : Nat → Nat → Nat → Bool) (Tg : Nat → Nat → Bool) (S : Nat → Nat → Nat → Nat) (so : Nat → Nat) (ba : Nat → Bool) (r : mo_S K h p th ma sz ln at_ f op mk tx E Tg (S) (so) (ba)) : XM K xy_MO_bracket xw_MO_bracket (xrm 1 23 0 0) [.ref p] n h (x_pv fun n' h' => n = n' ∧ mo_fr p h h' ∧ mo_S K h' p th ma sz ln at_ f op mk tx E Tg (mo_pl mk S (3 * op + 1) md_1) (va_up (va_up so (3 * op) 0) (3 * op + 1) 0) (va_up ba op false)) 0 0 := by
  obtain ⟨ho, ⟨g, hs, hg⟩, ⟨sf, hso, hso2⟩, ⟨bf, hba, hba2⟩, ⟨tf, htx, htx2⟩, ⟨ef, hed, hed2⟩, ⟨gf, htg, htg2⟩, b1, b2, b3, b4, b5⟩ := id r
  refine xm_v (by decide +kernel) (Nat.le_of_ble_eq_true rfl) (fun G hF hR => ?_)
  refine xv_aload_n (pc' := 1) (i := 0) hF xd_MO_bracket_0 rfl rfl rfl ?_
  refine xv_get (pc' := 4) (ci := 6) hF (by first | assumption | exact xu_self | (refine (xu_ne (by omega)).trans ?_; first | assumption | exact xu_self | (refine (xu_ne (by omega)).trans ?_; first | assumption | exact xu_self | (refine (xu_ne (by omega)).trans ?_; first | assumption | exact xu_self | (refine (xu_ne (by omega)).trans ?_; first | assumption | exact xu_self))))) rfl xu_MO 16 (by decide) xk_MO_f39 (by rfl) xd_MO_bracket_1 rfl ?_
  refine xv_aload_n (pc' := 5) (i := 0) hF xd_MO_bracket_4 rfl rfl rfl ?_
  refine xv_get (pc' := 8) (ci := 6) hF (by first | assumption | exact xu_self | (refine (xu_ne (by omega)).trans ?_; first | assumption | exact xu_self | (refine (xu_ne (by omega)).trans ?_; first | assumption | exact xu_self | (refine (xu_ne (by omega)).trans ?_; first | assumption | exact xu_self | (refine (xu_ne (by omega)).trans ?_; first | assumption | exact xu_self))))) rfl xu_MO 17 (by decide) xk_MO_f114 (by rfl) xd_MO_bracket_5 rfl ?_
  refine xv_iconstN (pc' := 9) 0 hF xd_MO_bracket_8 (by decide +kernel) rfl ?_
  refine xv_zastN (pc' := 10) hF (by first | assumption | exact xu_self | (refine (xu_ne (by omega)).trans ?_; first | assumption | exact xu_self | (refine (xu_ne (by omega)).trans ?_; first | assumption | exact xu_self | (refine (xu_ne (by omega)).trans ?_; first | assumption | exact xu_self | (refine (xu_ne (by omega)).trans ?_; first | assumption | exact xu_self))))) (by omega) (by decide) xd_MO_bracket_9 rfl ?_
  refine xv_aload_n (pc' := 11) (i := 0) hF xd_MO_bracket_10 rfl rfl rfl ?_
  refine xv_iconstN (pc' := 12) 3 hF xd_MO_bracket_11 (by decide +kernel) rfl ?_
  refine xv_aload_n (pc' := 13) (i := 0) hF xd_MO_bracket_12 rfl rfl rfl ?_
  refine xv_get (pc' := 16) (ci := 6) hF (by first | assumption | exact xu_self | (refine (xu_ne (by omega)).trans ?_; first | assumption | exact xu_self | (refine (xu_ne (by omega)).trans ?_; first | assumption | exact xu_self | (refine (xu_ne (by omega)).trans ?_; first | assumption | exact xu_self | (refine (xu_ne (by omega)).trans ?_; first | assumption | exact xu_self))))) rfl xu_MO 17 (by decide) xk_MO_f114 (by rfl) xd_MO_bracket_13 rfl ?_
  first | refine xv_imulN (pc' := 17) hF xd_MO_bracket_16 rfl ?_ | refine xv_imul (pc' := 17) hF xd_MO_bracket_16 rfl ?_
  refine xv_iconstN (pc' := 18) 1 hF xd_MO_bracket_17 (by decide +kernel) rfl ?_
  first | refine xv_iaddN (pc' := 19) hF xd_MO_bracket_18 rfl ?_ | refine xv_iadd (pc' := 19) hF xd_MO_bracket_18 rfl ?_
  have r1 := r.ba (ba_up (v := vp_nar .boolean (nI 0)) (b := false) hba2 op (by decide +kernel))
  refine xv_iconstN (pc' := 20) 1 hF xd_MO_bracket_19 (by decide +kernel) rfl ?_
  refine xv_topi (v' := xb true) (by decide +kernel) ?_
  obtain ⟨ho1, ⟨g1, hs1, hg1⟩, -⟩ := id r1
  refine xv_callVv (pc' := 23) (ci := 6) hF (c_MO_plain K n _ p th ma sz ln at_ f op mk (3 * op + 1) true g1 S ho1 hs1 hg1 (by omega)) xq_MO_plain xk_MO_m97 xk_i_MO_plain xk_s_MO_plain (by first | assumption | exact xu_self | (refine (xu_ne (by omega)).trans ?_; first | assumption | exact xu_self | (refine (xu_ne (by omega)).trans ?_; first | assumption | exact xu_self | (refine (xu_ne (by omega)).trans ?_; first | assumption | exact xu_self | (refine (xu_ne (by omega)).trans ?_; first | assumption | exact xu_self))))) rfl ⟨(Nat.le_of_ble_eq_true rfl), (Nat.le_of_ble_eq_true rfl)⟩ rfl rfl (Nat.le_of_ble_eq_true rfl) ⟨(Nat.le_of_ble_eq_true rfl), (Nat.le_of_ble_eq_true rfl)⟩ xd_MO_bracket_20 rfl (fun n2 h2 q2 => ?_)
  obtain ⟨rfl, g2, rfl, hg2⟩ := q2
  have r2 := r1.sq (S' := mo_pl mk S (3 * op + 1) md_1) hg2
  clear ho1 hs1 hg1
  obtain ⟨ho2, -, ⟨sf2, hso3, hso4⟩, -⟩ := id r2
  refine xv_aload_n (pc' := 24) (i := 0) hF xd_MO_bracket_23 rfl rfl rfl ?_
  refine xv_get (pc' := 27) (ci := 6) hF (by first | assumption | exact xu_self | (refine (xu_ne (by omega)).trans ?_; first | assumption | exact xu_self | (refine (xu_ne (by omega)).trans ?_; first | assumption | exact xu_self | (refine (xu_ne (by omega)).trans ?_; first | assumption | exact xu_self | (refine (xu_ne (by omega)).trans ?_; first | assumption | exact xu_self))))) rfl xu_MO 15 (by decide) xk_MO_f36 (by rfl) xd_MO_bracket_24 rfl ?_
  refine xv_iconstN (pc' := 28) 3 hF xd_MO_bracket_27 (by decide +kernel) rfl ?_
  refine xv_aload_n (pc' := 29) (i := 0) hF xd_MO_bracket_28 rfl rfl rfl ?_
  refine xv_get (pc' := 32) (ci := 6) hF (by first | assumption | exact xu_self | (refine (xu_ne (by omega)).trans ?_; first | assumption | exact xu_self | (refine (xu_ne (by omega)).trans ?_; first | assumption | exact xu_self | (refine (xu_ne (by omega)).trans ?_; first | assumption | exact xu_self | (refine (xu_ne (by omega)).trans ?_; first | assumption | exact xu_self))))) rfl xu_MO 17 (by decide) xk_MO_f114 (by rfl) xd_MO_bracket_29 rfl ?_
  first | refine xv_imulN (pc' := 33) hF xd_MO_bracket_32 rfl ?_ | refine xv_imul (pc' := 33) hF xd_MO_bracket_32 rfl ?_
  refine xv_iconstN (pc' := 34) 0 hF xd_MO_bracket_33 (by decide +kernel) rfl ?_
  refine xv_iastN (pc' := 35) hF (by first | assumption | exact xu_self | (refine (xu_ne (by omega)).trans ?_; first | assumption | exact xu_self | (refine (xu_ne (by omega)).trans ?_; first | assumption | exact xu_self | (refine (xu_ne (by omega)).trans ?_; first | assumption | exact xu_self | (refine (xu_ne (by omega)).trans ?_; first | assumption | exact xu_self))))) (by omega) (by decide) xd_MO_bracket_34 rfl ?_
  have r3 := r2.so (so_up hso4 (3 * op) 0)
  clear ho2 hso3
  obtain ⟨ho2, -, ⟨sf3, hso3, hso5⟩, -⟩ := id r3
  refine xv_aload_n (pc' := 36) (i := 0) hF xd_MO_bracket_35 rfl rfl rfl ?_
  refine xv_get (pc' := 39) (ci := 6) hF (by first | assumption | exact xu_self | (refine (xu_ne (by omega)).trans ?_; first | assumption | exact xu_self | (refine (xu_ne (by omega)).trans ?_; first | assumption | exact xu_self | (refine (xu_ne (by omega)).trans ?_; first | assumption | exact xu_self | (refine (xu_ne (by omega)).trans ?_; first | assumption | exact xu_self))))) rfl xu_MO 15 (by decide) xk_MO_f36 (by rfl) xd_MO_bracket_36 rfl ?_
  refine xv_iconstN (pc' := 40) 3 hF xd_MO_bracket_39 (by decide +kernel) rfl ?_
  refine xv_aload_n (pc' := 41) (i := 0) hF xd_MO_bracket_40 rfl rfl rfl ?_
  refine xv_get (pc' := 44) (ci := 6) hF (by first | assumption | exact xu_self | (refine (xu_ne (by omega)).trans ?_; first | assumption | exact xu_self | (refine (xu_ne (by omega)).trans ?_; first | assumption | exact xu_self | (refine (xu_ne (by omega)).trans ?_; first | assumption | exact xu_self | (refine (xu_ne (by omega)).trans ?_; first | assumption | exact xu_self))))) rfl xu_MO 17 (by decide) xk_MO_f114 (by rfl) xd_MO_bracket_41 rfl ?_
  first | refine xv_imulN (pc' := 45) hF xd_MO_bracket_44 rfl ?_ | refine xv_imul (pc' := 45) hF xd_MO_bracket_44 rfl ?_
  refine xv_iconstN (pc' := 46) 1 hF xd_MO_bracket_45 (by decide +kernel) rfl ?_
  first | refine xv_iaddN (pc' := 47) hF xd_MO_bracket_46 rfl ?_ | refine xv_iadd (pc' := 47) hF xd_MO_bracket_46 rfl ?_
  refine xv_iconstN (pc' := 48) 0 hF xd_MO_bracket_47 (by decide +kernel) rfl ?_
  refine xv_iastN (pc' := 49) hF (by first | assumption | exact xu_self | (refine (xu_ne (by omega)).trans ?_; first | assumption | exact xu_self | (refine (xu_ne (by omega)).trans ?_; first | assumption | exact xu_self | (refine (xu_ne (by omega)).trans ?_; first | assumption | exact xu_self | (refine (xu_ne (by omega)).trans ?_; first | assumption | exact xu_self))))) (by omega) (by decide) xd_MO_bracket_48 rfl ?_
  have r4 := r3.so (so_up hso5 (3 * op + 1) 0)
  refine hR _ _ _ _ _ _ (by omega) (by omega) ?_ xd_MO_bracket_49
  exact ⟨rfl, (((mo_fr.rf.x (by omega)).x (by omega)).x (by omega)).x (by omega), r4⟩
set_option maxHeartbeats 4000000 in
set_option maxRecDepth 100000 in
theorem c_MO_begin (K : xK) (n : Nat) (h : xH) (p th ma sz ln at_ f op : Nat) (mk : Bool) (tx : Nat → Nat) (E : Nat → Nat → Nat → Bool) (Tg : Nat → Nat → Bool) (S : Nat → Nat → Nat → Nat) (so : Nat → Nat) (ba : Nat → Bool) (mk2 : Bool) (r : mo_S K h p th ma sz ln at_ f op mk tx E Tg (S) (so) (ba)) : XM K xy_MO_begin xw_MO_begin (xrm 2 43 0 0) [.ref p, .int (xb mk2)] n h (x_pv fun n' h' => n = n' ∧ mo_fr p h h' ∧ mo_S K h' p th ma sz ln 0 0 0 mk2 tx E Tg (mo_pl mk2 S 1 md_1) (va_up (va_up so 0 0) 1 0) (va_up ba 0 false)) 0 0 := by
  obtain ⟨ho, ⟨g, hs, hg⟩, ⟨sf, hso, hso2⟩, ⟨bf, hba, hba2⟩, ⟨tf, htx, htx2⟩, ⟨ef, hed, hed2⟩, ⟨gf, htg, htg2⟩, b1, b2, b3, b4, b5⟩ := id r
  refine xm_v (by decide +kernel) (Nat.le_of_ble_eq_true rfl) (fun G hF hR => ?_)
  refine xv_aload_n (pc' := 1) (i := 0) hF xd_MO_begin_0 rfl rfl rfl ?_
  refine xv_iconstN (pc' := 2) 0 hF xd_MO_begin_1 (by decide +kernel) rfl ?_
  refine xv_put (pc' := 5) (ci := 6) (ty := xt_MO 11) hF (by first | assumption | exact xu_self | (refine (xu_ne (by omega)).trans ?_; first | assumption | exact xu_self | (refine (xu_ne (by omega)).trans ?_; first | assumption | exact xu_self | (refine (xu_ne (by omega)).trans ?_; first | assumption | exact xu_self | (refine (xu_ne (by omega)).trans ?_; first | assumption | exact xu_self))))) rfl xu_MO xt_MO xo_MO xn_MO 11 (by decide) xk_MO_f72 rfl (by decide +kernel) (by first | rfl | exact xb_nw _ | decide +kernel) (by first | rfl | exact xb_ft _ | decide +kernel) (by exact Nat.le_of_ble_eq_true rfl) (by dsimp only [List.set] <;> rfl) xd_MO_begin_2 rfl ?_
  refine xv_aload_n (pc' := 6) (i := 0) hF xd_MO_begin_5 rfl rfl rfl ?_
  refine xv_iconstN (pc' := 7) 0 hF xd_MO_begin_6 (by decide +kernel) rfl ?_
  refine xv_put (pc' := 10) (ci := 6) (ty := xt_MO 17) hF (by first | assumption | exact xu_self | (refine (xu_ne (by omega)).trans ?_; first | assumption | exact xu_self | (refine (xu_ne (by omega)).trans ?_; first | assumption | exact xu_self | (refine (xu_ne (by omega)).trans ?_; first | assumption | exact xu_self | (refine (xu_ne (by omega)).trans ?_; first | assumption | exact xu_self))))) rfl xu_MO xt_MO xo_MO xn_MO 17 (by decide) xk_MO_f114 rfl (by decide +kernel) (by first | rfl | exact xb_nw _ | decide +kernel) (by first | rfl | exact xb_ft _ | decide +kernel) (by exact Nat.le_of_ble_eq_true rfl) (by dsimp only [List.set] <;> rfl) xd_MO_begin_7 rfl ?_
  refine xv_aload_n (pc' := 11) (i := 0) hF xd_MO_begin_10 rfl rfl rfl ?_
  refine xv_iconst (pc' := 12) (v := -1) hF xd_MO_begin_11 (by decide +kernel) rfl ?_
  refine xv_topi (v' := xm1 0) rfl ?_
  refine xv_put (pc' := 15) (ci := 6) (ty := xt_MO 12) hF (by first | assumption | exact xu_self | (refine (xu_ne (by omega)).trans ?_; first | assumption | exact xu_self | (refine (xu_ne (by omega)).trans ?_; first | assumption | exact xu_self | (refine (xu_ne (by omega)).trans ?_; first | assumption | exact xu_self | (refine (xu_ne (by omega)).trans ?_; first | assumption | exact xu_self))))) rfl xu_MO xt_MO xo_MO xn_MO 12 (by decide) xk_MO_f78 rfl (by decide +kernel) (by first | rfl | exact xb_nw _ | decide +kernel) (by first | rfl | exact xb_ft _ | decide +kernel) (by exact Nat.le_of_ble_eq_true rfl) (by dsimp only [List.set] <;> rfl) xd_MO_begin_12 rfl ?_
  refine xv_aload_n (pc' := 16) (i := 0) hF xd_MO_begin_15 rfl rfl rfl ?_
  refine xv_iload_n (pc' := 17) (i := 1) hF xd_MO_begin_16 rfl rfl rfl ?_
  refine xv_put (pc' := 20) (ci := 6) (ty := xt_MO 13) hF (by first | assumption | exact xu_self | (refine (xu_ne (by omega)).trans ?_; first | assumption | exact xu_self | (refine (xu_ne (by omega)).trans ?_; first | assumption | exact xu_self | (refine (xu_ne (by omega)).trans ?_; first | assumption | exact xu_self | (refine (xu_ne (by omega)).trans ?_; first | assumption | exact xu_self))))) rfl xu_MO xt_MO xo_MO xn_MO 13 (by decide) xk_MO_f92 rfl (by decide +kernel) (by first | rfl | exact xb_nw _ | decide +kernel) (by first | rfl | exact xb_ft _ | decide +kernel) (by exact Nat.le_of_ble_eq_true rfl) (by dsimp only [List.set] <;> rfl) xd_MO_begin_17 rfl ?_
  refine xv_aload_n (pc' := 21) (i := 0) hF xd_MO_begin_20 rfl rfl rfl ?_
  rw [xu_xu, xu_xu, xu_xu]
  have r1 := r.ob (th' := th) (at' := 0) (f' := 0) (op' := 0) (mk' := mk2) (by omega) (by omega) (by omega)
  refine xv_callVv (pc' := 24) (ci := 6) hF (c_MO_bracket K n _ p th ma sz ln 0 0 0 mk2 tx E Tg S so ba r1) xq_MO_bracket xk_MO_m117 xk_i_MO_bracket xk_s_MO_bracket (by first | assumption | exact xu_self | (refine (xu_ne (by omega)).trans ?_; first | assumption | exact xu_self | (refine (xu_ne (by omega)).trans ?_; first | assumption | exact xu_self | (refine (xu_ne (by omega)).trans ?_; first | assumption | exact xu_self | (refine (xu_ne (by omega)).trans ?_; first | assumption | exact xu_self))))) rfl ⟨(Nat.le_of_ble_eq_true rfl), (Nat.le_of_ble_eq_true rfl)⟩ rfl rfl (Nat.le_of_ble_eq_true rfl) ⟨(Nat.le_of_ble_eq_true rfl), (Nat.le_of_ble_eq_true rfl)⟩ xd_MO_begin_21 rfl (fun n1 h1 q1 => ?_)
  obtain ⟨rfl, f1, r2⟩ := q1
  refine hR _ _ _ _ _ _ (by omega) (by omega) ?_ xd_MO_begin_24
  exact ⟨rfl, (mo_fr.rf.x (by omega)).tr f1, r2⟩
set_option maxHeartbeats 4000000 in
set_option maxRecDepth 100000 in
theorem c_MO_opens (K : xK) (n : Nat) (h : xH) (p th ma sz ln at_ f op : Nat) (mk : Bool) (tx : Nat → Nat) (E : Nat → Nat → Nat → Bool) (Tg : Nat → Nat → Bool) (S : Nat → Nat → Nat → Nat) (so : Nat → Nat) (ba : Nat → Bool) (r : mo_S K h p th ma sz ln at_ f op mk tx E Tg (S) (so) (ba)) (hat : at_ < ln) : XM K xy_MO_opens xw_MO_opens (xrm 2 43 0 0) [.ref p] n h (x_pv fun n' h' => n = n' ∧ mo_fr p h h' ∧ ((op = 10 ∧ mo_S K h' p th ma sz ln at_ (if f = 0 then at_ + 1 else f) op mk tx E Tg (S) (so) (ba)) ∨ (op < 10 ∧ mo_S K h' p th ma sz ln (at_ + 1) f (op + 1) mk tx E Tg (mo_pl mk S (3 * (op + 1) + 1) md_1) (va_up (va_up so (3 * (op + 1)) 0) (3 * (op + 1) + 1) 0) (va_up ba (op + 1) false)))) 0 0 := by
  obtain ⟨ho, ⟨g, hs, hg⟩, ⟨sf, hso, hso2⟩, ⟨bf, hba, hba2⟩, ⟨tf, htx, htx2⟩, ⟨ef, hed, hed2⟩, ⟨gf, htg, htg2⟩, b1, b2, b3, b4, b5⟩ := id r
  refine xm_v (by decide +kernel) (Nat.le_of_ble_eq_true rfl) (fun G hF hR => ?_)
  refine xv_aload_n (pc' := 1) (i := 0) hF xd_MO_opens_0 rfl rfl rfl ?_
  refine xv_get (pc' := 4) (ci := 6) hF (by first | assumption | exact xu_self | (refine (xu_ne (by omega)).trans ?_; first | assumption | exact xu_self | (refine (xu_ne (by omega)).trans ?_; first | assumption | exact xu_self | (refine (xu_ne (by omega)).trans ?_; first | assumption | exact xu_self | (refine (xu_ne (by omega)).trans ?_; first | assumption | exact xu_self))))) rfl xu_MO 17 (by decide) xk_MO_f114 (by rfl) xd_MO_opens_1 rfl ?_
  refine xv_bipushN (pc' := 6) 10 hF xd_MO_opens_4 (by decide +kernel) rfl ?_
  refine xv_icmp_neN (pc' := 9) (tgt := 14) hF (by omega) (by omega) xd_MO_opens_6 (by decide) rfl (fun e1 => ?_) (fun e1 => ?_)
  · refine xv_aload_n (pc' := 15) (i := 0) hF xd_MO_opens_14 rfl rfl rfl ?_
    refine xv_dup (pc' := 16) hF xd_MO_opens_15 rfl rfl ?_
    refine xv_get (pc' := 19) (ci := 6) hF (by first | assumption | exact xu_self | (refine (xu_ne (by omega)).trans ?_; first | assumption | exact xu_self | (refine (xu_ne (by omega)).trans ?_; first | assumption | exact xu_self | (refine (xu_ne (by omega)).trans ?_; first | assumption | exact xu_self | (refine (xu_ne (by omega)).trans ?_; first | assumption | exact xu_self))))) rfl xu_MO 11 (by decide) xk_MO_f72 (by rfl) xd_MO_opens_16 rfl ?_
    refine xv_iconstN (pc' := 20) 1 hF xd_MO_opens_19 (by decide +kernel) rfl ?_
    first | refine xv_iaddN (pc' := 21) hF xd_MO_opens_20 rfl ?_ | refine xv_iadd (pc' := 21) hF xd_MO_opens_20 rfl ?_
    refine xv_put (pc' := 24) (ci := 6) (ty := xt_MO 11) hF (by first | assumption | exact xu_self | (refine (xu_ne (by omega)).trans ?_; first | assumption | exact xu_self | (refine (xu_ne (by omega)).trans ?_; first | assumption | exact xu_self | (refine (xu_ne (by omega)).trans ?_; first | assumption | exact xu_self | (refine (xu_ne (by omega)).trans ?_; first | assumption | exact xu_self))))) rfl xu_MO xt_MO xo_MO xn_MO 11 (by decide) xk_MO_f72 rfl (by decide +kernel) (by first | rfl | exact xb_nw _ | decide +kernel) (by first | rfl | exact xb_ft _ | decide +kernel) (by exact Nat.le_of_ble_eq_true rfl) (by dsimp only [List.set] <;> rfl) xd_MO_opens_21 rfl ?_
    refine xv_aload_n (pc' := 25) (i := 0) hF xd_MO_opens_24 rfl rfl rfl ?_
    refine xv_dup (pc' := 26) hF xd_MO_opens_25 rfl rfl ?_
    refine xv_get (pc' := 29) (ci := 6) hF (by first | assumption | exact xu_self | (refine (xu_ne (by omega)).trans ?_; first | assumption | exact xu_self | (refine (xu_ne (by omega)).trans ?_; first | assumption | exact xu_self | (refine (xu_ne (by omega)).trans ?_; first | assumption | exact xu_self | (refine (xu_ne (by omega)).trans ?_; first | assumption | exact xu_self))))) rfl xu_MO 17 (by decide) xk_MO_f114 (by rfl) xd_MO_opens_26 rfl ?_
    refine xv_iconstN (pc' := 30) 1 hF xd_MO_opens_29 (by decide +kernel) rfl ?_
    first | refine xv_iaddN (pc' := 31) hF xd_MO_opens_30 rfl ?_ | refine xv_iadd (pc' := 31) hF xd_MO_opens_30 rfl ?_
    refine xv_put (pc' := 34) (ci := 6) (ty := xt_MO 17) hF (by first | assumption | exact xu_self | (refine (xu_ne (by omega)).trans ?_; first | assumption | exact xu_self | (refine (xu_ne (by omega)).trans ?_; first | assumption | exact xu_self | (refine (xu_ne (by omega)).trans ?_; first | assumption | exact xu_self | (refine (xu_ne (by omega)).trans ?_; first | assumption | exact xu_self))))) rfl xu_MO xt_MO xo_MO xn_MO 17 (by decide) xk_MO_f114 rfl (by decide +kernel) (by first | rfl | exact xb_nw _ | decide +kernel) (by first | rfl | exact xb_ft _ | decide +kernel) (by exact Nat.le_of_ble_eq_true rfl) (by dsimp only [List.set] <;> rfl) xd_MO_opens_31 rfl ?_
    refine xv_aload_n (pc' := 35) (i := 0) hF xd_MO_opens_34 rfl rfl rfl ?_
    rw [xu_xu]
    have r1 := r.ob (th' := th) (at' := at_ + 1) (f' := f) (op' := op + 1) (mk' := mk) (by omega) (by omega) (by omega)
    refine xv_callVv (pc' := 38) (ci := 6) hF (c_MO_bracket K n _ p th ma sz ln (at_ + 1) f (op + 1) mk tx E Tg S so ba r1) xq_MO_bracket xk_MO_m117 xk_i_MO_bracket xk_s_MO_bracket (by first | assumption | exact xu_self | (refine (xu_ne (by omega)).trans ?_; first | assumption | exact xu_self | (refine (xu_ne (by omega)).trans ?_; first | assumption | exact xu_self | (refine (xu_ne (by omega)).trans ?_; first | assumption | exact xu_self | (refine (xu_ne (by omega)).trans ?_; first | assumption | exact xu_self))))) rfl ⟨(Nat.le_of_ble_eq_true rfl), (Nat.le_of_ble_eq_true rfl)⟩ rfl rfl (Nat.le_of_ble_eq_true rfl) ⟨(Nat.le_of_ble_eq_true rfl), (Nat.le_of_ble_eq_true rfl)⟩ xd_MO_opens_35 rfl (fun n1 h1 q1 => ?_)
    obtain ⟨rfl, f1, r2⟩ := q1
    refine hR _ _ _ _ _ _ (by omega) (by omega) ?_ xd_MO_opens_38
    exact ⟨rfl, (mo_fr.rf.x (by omega)).tr f1, Or.inr ⟨by omega, r2⟩⟩
  · refine xv_aload_n (pc' := 10) (i := 0) hF xd_MO_opens_9 rfl rfl rfl ?_
    refine xv_callVv (pc' := 13) (ci := 6) hF (c_MO_fail K n h p th ma sz ln at_ f op mk ho (by omega)) xq_MO_fail xk_MO_m89 xk_i_MO_fail xk_s_MO_fail (by first | assumption | exact xu_self | (refine (xu_ne (by omega)).trans ?_; first | assumption | exact xu_self | (refine (xu_ne (by omega)).trans ?_; first | assumption | exact xu_self | (refine (xu_ne (by omega)).trans ?_; first | assumption | exact xu_self | (refine (xu_ne (by omega)).trans ?_; first | assumption | exact xu_self))))) rfl ⟨(Nat.le_of_ble_eq_true rfl), (Nat.le_of_ble_eq_true rfl)⟩ rfl rfl (Nat.le_of_ble_eq_true rfl) ⟨(Nat.le_of_ble_eq_true rfl), (Nat.le_of_ble_eq_true rfl)⟩ xd_MO_opens_10 rfl (fun n1 h1 q1 => ?_)
    obtain ⟨rfl, rfl⟩ := q1
    refine hR _ _ _ _ _ _ (by omega) (by omega) ?_ xd_MO_opens_13
    exact ⟨rfl, mo_fr.rf.x (by omega), Or.inl ⟨e1, r.ob b1 (by split <;> omega) b3⟩⟩
set_option maxHeartbeats 4000000 in
set_option maxRecDepth 100000 in
theorem c_MO_bar (K : xK) (n : Nat) (h : xH) (p th ma sz ln at_ f op : Nat) (mk : Bool) (tx : Nat → Nat) (E : Nat → Nat → Nat → Bool) (Tg : Nat → Nat → Bool) (S : Nat → Nat → Nat → Nat) (so : Nat → Nat) (ba : Nat → Bool) (r : mo_S K h p th ma sz ln at_ f op mk tx E Tg (S) (so) (ba)) : XM K xy_MO_bar xw_MO_bar (xrm 1 24 0 0) [.ref p] n h (x_pv fun n' h' => n = n' ∧ mo_fr p h h' ∧ mo_S K h' p th ma sz ln at_ f op mk tx E Tg (mo_pl mk S (3 * op) (if ba op then (fun i j => min (S (3 * op) i j) (S (3 * op + 1) i j)) else S (3 * op + 1))) (va_up so (3 * op) (so (3 * op) + so (3 * op + 1))) (va_up ba op true)) 0 0 := by
  obtain ⟨ho, ⟨g, hs, hg⟩, ⟨sf, hso, hso2⟩, ⟨bf, hba, hba2⟩, ⟨tf, htx, htx2⟩, ⟨ef, hed, hed2⟩, ⟨gf, htg, htg2⟩, b1, b2, b3, b4, b5⟩ := id r
  refine xm_v (by decide +kernel) (Nat.le_of_ble_eq_true rfl) (fun G hF hR => ?_)
  have fin : ∀ h1 X, mo_fr p h h1 → mo_S K h1 p th ma sz ln at_ f op mk tx E Tg (X) (so) (ba) → X = mo_pl mk S (3 * op) (if ba op then (fun i j => min (S (3 * op) i j) (S (3 * op + 1) i j)) else S (3 * op + 1)) → XV G (0 + 0) (0 + 0) 51 [(0, .ref p)] [] n h1 := by
    intro h1 X f1 r1 eX
    subst eX
    clear ho hs hg hso hba htx hed htg
    obtain ⟨ho, -, -, ⟨bf1, hba, hba3⟩, -⟩ := id r1
    refine xv_aload_n (pc' := 52) (i := 0) hF xd_MO_bar_51 rfl rfl rfl ?_
    refine xv_get (pc' := 55) (ci := 6) hF (by first | assumption | exact xu_self | (refine (xu_ne (by omega)).trans ?_; first | assumption | exact xu_self | (refine (xu_ne (by omega)).trans ?_; first | assumption | exact xu_self | (refine (xu_ne (by omega)).trans ?_; first | assumption | exact xu_self | (refine (xu_ne (by omega)).trans ?_; first | assumption | exact xu_self))))) rfl xu_MO 16 (by decide) xk_MO_f39 (by rfl) xd_MO_bar_52 rfl ?_
    refine xv_aload_n (pc' := 56) (i := 0) hF xd_MO_bar_55 rfl rfl rfl ?_
    refine xv_get (pc' := 59) (ci := 6) hF (by first | assumption | exact xu_self | (refine (xu_ne (by omega)).trans ?_; first | assumption | exact xu_self | (refine (xu_ne (by omega)).trans ?_; first | assumption | exact xu_self | (refine (xu_ne (by omega)).trans ?_; first | assumption | exact xu_self | (refine (xu_ne (by omega)).trans ?_; first | assumption | exact xu_self))))) rfl xu_MO 17 (by decide) xk_MO_f114 (by rfl) xd_MO_bar_56 rfl ?_
    refine xv_iconstN (pc' := 60) 1 hF xd_MO_bar_59 (by decide +kernel) rfl ?_
    refine xv_zastN (pc' := 61) hF (by first | assumption | exact xu_self | (refine (xu_ne (by omega)).trans ?_; first | assumption | exact xu_self | (refine (xu_ne (by omega)).trans ?_; first | assumption | exact xu_self | (refine (xu_ne (by omega)).trans ?_; first | assumption | exact xu_self | (refine (xu_ne (by omega)).trans ?_; first | assumption | exact xu_self))))) (by omega) (by decide) xd_MO_bar_60 rfl ?_
    have r2 := r1.ba (ba_up (v := vp_nar .boolean (nI 1)) (b := true) hba3 op (by decide +kernel))
    clear ho hba
    obtain ⟨ho, -, ⟨sf1, hso, hso3⟩, -⟩ := id r2
    refine xv_aload_n (pc' := 62) (i := 0) hF xd_MO_bar_61 rfl rfl rfl ?_
    refine xv_get (pc' := 65) (ci := 6) hF (by first | assumption | exact xu_self | (refine (xu_ne (by omega)).trans ?_; first | assumption | exact xu_self | (refine (xu_ne (by omega)).trans ?_; first | assumption | exact xu_self | (refine (xu_ne (by omega)).trans ?_; first | assumption | exact xu_self | (refine (xu_ne (by omega)).trans ?_; first | assumption | exact xu_self))))) rfl xu_MO 15 (by decide) xk_MO_f36 (by rfl) xd_MO_bar_62 rfl ?_
    refine xv_iconstN (pc' := 66) 3 hF xd_MO_bar_65 (by decide +kernel) rfl ?_
    refine xv_aload_n (pc' := 67) (i := 0) hF xd_MO_bar_66 rfl rfl rfl ?_
    refine xv_get (pc' := 70) (ci := 6) hF (by first | assumption | exact xu_self | (refine (xu_ne (by omega)).trans ?_; first | assumption | exact xu_self | (refine (xu_ne (by omega)).trans ?_; first | assumption | exact xu_self | (refine (xu_ne (by omega)).trans ?_; first | assumption | exact xu_self | (refine (xu_ne (by omega)).trans ?_; first | assumption | exact xu_self))))) rfl xu_MO 17 (by decide) xk_MO_f114 (by rfl) xd_MO_bar_67 rfl ?_
    first | refine xv_imulN (pc' := 71) hF xd_MO_bar_70 rfl ?_ | refine xv_imul (pc' := 71) hF xd_MO_bar_70 rfl ?_
    refine xv_dup2 (pc' := 72) hF xd_MO_bar_71 rfl rfl rfl ?_
    first | refine xv_ialdN (pc' := 73) hF (by first | assumption | exact xu_self | (refine (xu_ne (by omega)).trans ?_; first | assumption | exact xu_self | (refine (xu_ne (by omega)).trans ?_; first | assumption | exact xu_self | (refine (xu_ne (by omega)).trans ?_; first | assumption | exact xu_self | (refine (xu_ne (by omega)).trans ?_; first | assumption | exact xu_self))))) (by omega) (by decide) xd_MO_bar_72 rfl ?_ | refine xv_iald (pc' := 73) hF (by first | assumption | exact xu_self | (refine (xu_ne (by omega)).trans ?_; first | assumption | exact xu_self | (refine (xu_ne (by omega)).trans ?_; first | assumption | exact xu_self | (refine (xu_ne (by omega)).trans ?_; first | assumption | exact xu_self | (refine (xu_ne (by omega)).trans ?_; first | assumption | exact xu_self))))) (by omega) xd_MO_bar_72 rfl ?_
    refine xv_topi (v' := nI (so (3 * op))) (hso3 _ (by omega)) ?_
    refine xv_aload_n (pc' := 74) (i := 0) hF xd_MO_bar_73 rfl rfl rfl ?_
    refine xv_get (pc' := 77) (ci := 6) hF (by first | assumption | exact xu_self | (refine (xu_ne (by omega)).trans ?_; first | assumption | exact xu_self | (refine (xu_ne (by omega)).trans ?_; first | assumption | exact xu_self | (refine (xu_ne (by omega)).trans ?_; first | assumption | exact xu_self | (refine (xu_ne (by omega)).trans ?_; first | assumption | exact xu_self))))) rfl xu_MO 15 (by decide) xk_MO_f36 (by rfl) xd_MO_bar_74 rfl ?_
    refine xv_iconstN (pc' := 78) 3 hF xd_MO_bar_77 (by decide +kernel) rfl ?_
    refine xv_aload_n (pc' := 79) (i := 0) hF xd_MO_bar_78 rfl rfl rfl ?_
    refine xv_get (pc' := 82) (ci := 6) hF (by first | assumption | exact xu_self | (refine (xu_ne (by omega)).trans ?_; first | assumption | exact xu_self | (refine (xu_ne (by omega)).trans ?_; first | assumption | exact xu_self | (refine (xu_ne (by omega)).trans ?_; first | assumption | exact xu_self | (refine (xu_ne (by omega)).trans ?_; first | assumption | exact xu_self))))) rfl xu_MO 17 (by decide) xk_MO_f114 (by rfl) xd_MO_bar_79 rfl ?_
    first | refine xv_imulN (pc' := 83) hF xd_MO_bar_82 rfl ?_ | refine xv_imul (pc' := 83) hF xd_MO_bar_82 rfl ?_
    refine xv_iconstN (pc' := 84) 1 hF xd_MO_bar_83 (by decide +kernel) rfl ?_
    first | refine xv_iaddN (pc' := 85) hF xd_MO_bar_84 rfl ?_ | refine xv_iadd (pc' := 85) hF xd_MO_bar_84 rfl ?_
    first | refine xv_ialdN (pc' := 86) hF (by first | assumption | exact xu_self | (refine (xu_ne (by omega)).trans ?_; first | assumption | exact xu_self | (refine (xu_ne (by omega)).trans ?_; first | assumption | exact xu_self | (refine (xu_ne (by omega)).trans ?_; first | assumption | exact xu_self | (refine (xu_ne (by omega)).trans ?_; first | assumption | exact xu_self))))) (by omega) (by decide) xd_MO_bar_85 rfl ?_ | refine xv_iald (pc' := 86) hF (by first | assumption | exact xu_self | (refine (xu_ne (by omega)).trans ?_; first | assumption | exact xu_self | (refine (xu_ne (by omega)).trans ?_; first | assumption | exact xu_self | (refine (xu_ne (by omega)).trans ?_; first | assumption | exact xu_self | (refine (xu_ne (by omega)).trans ?_; first | assumption | exact xu_self))))) (by omega) xd_MO_bar_85 rfl ?_
    refine xv_topi (v' := nI (so (3 * op + 1))) (hso3 _ (by omega)) ?_
    first | refine xv_iaddN (pc' := 87) hF xd_MO_bar_86 rfl ?_ | refine xv_iadd (pc' := 87) hF xd_MO_bar_86 rfl ?_
    refine xv_iastN (pc' := 88) hF (by first | assumption | exact xu_self | (refine (xu_ne (by omega)).trans ?_; first | assumption | exact xu_self | (refine (xu_ne (by omega)).trans ?_; first | assumption | exact xu_self | (refine (xu_ne (by omega)).trans ?_; first | assumption | exact xu_self | (refine (xu_ne (by omega)).trans ?_; first | assumption | exact xu_self))))) (by omega) (by decide) xd_MO_bar_87 rfl ?_
    have r3 := r2.so (so_up hso3 (3 * op) (so (3 * op) + so (3 * op + 1)))
    refine hR _ _ _ _ _ _ (by omega) (by omega) ?_ xd_MO_bar_88
    exact ⟨rfl, (f1.x (by omega)).x (by omega), r3⟩
  refine xv_aload_n (pc' := 1) (i := 0) hF xd_MO_bar_0 rfl rfl rfl ?_
  refine xv_get (pc' := 4) (ci := 6) hF (by first | assumption | exact xu_self | (refine (xu_ne (by omega)).trans ?_; first | assumption | exact xu_self | (refine (xu_ne (by omega)).trans ?_; first | assumption | exact xu_self | (refine (xu_ne (by omega)).trans ?_; first | assumption | exact xu_self | (refine (xu_ne (by omega)).trans ?_; first | assumption | exact xu_self))))) rfl xu_MO 16 (by decide) xk_MO_f39 (by rfl) xd_MO_bar_1 rfl ?_
  refine xv_aload_n (pc' := 5) (i := 0) hF xd_MO_bar_4 rfl rfl rfl ?_
  refine xv_get (pc' := 8) (ci := 6) hF (by first | assumption | exact xu_self | (refine (xu_ne (by omega)).trans ?_; first | assumption | exact xu_self | (refine (xu_ne (by omega)).trans ?_; first | assumption | exact xu_self | (refine (xu_ne (by omega)).trans ?_; first | assumption | exact xu_self | (refine (xu_ne (by omega)).trans ?_; first | assumption | exact xu_self))))) rfl xu_MO 17 (by decide) xk_MO_f114 (by rfl) xd_MO_bar_5 rfl ?_
  refine xv_zaldN (pc' := 9) hF (by first | assumption | exact xu_self | (refine (xu_ne (by omega)).trans ?_; first | assumption | exact xu_self | (refine (xu_ne (by omega)).trans ?_; first | assumption | exact xu_self | (refine (xu_ne (by omega)).trans ?_; first | assumption | exact xu_self | (refine (xu_ne (by omega)).trans ?_; first | assumption | exact xu_self))))) (by omega) (by decide) xd_MO_bar_8 rfl ?_
  refine xv_topi (hba2 op (by omega)) ?_
  refine xv_if_eqB (pc' := 12) (tgt := 33) hF xd_MO_bar_9 (by decide) rfl (fun e1 => ?_) (fun e1 => ?_)
  · refine xv_aload_n (pc' := 34) (i := 0) hF xd_MO_bar_33 rfl rfl rfl ?_
    refine xv_iconstN (pc' := 35) 3 hF xd_MO_bar_34 (by decide +kernel) rfl ?_
    refine xv_aload_n (pc' := 36) (i := 0) hF xd_MO_bar_35 rfl rfl rfl ?_
    refine xv_get (pc' := 39) (ci := 6) hF (by first | assumption | exact xu_self | (refine (xu_ne (by omega)).trans ?_; first | assumption | exact xu_self | (refine (xu_ne (by omega)).trans ?_; first | assumption | exact xu_self | (refine (xu_ne (by omega)).trans ?_; first | assumption | exact xu_self | (refine (xu_ne (by omega)).trans ?_; first | assumption | exact xu_self))))) rfl xu_MO 17 (by decide) xk_MO_f114 (by rfl) xd_MO_bar_36 rfl ?_
    first | refine xv_imulN (pc' := 40) hF xd_MO_bar_39 rfl ?_ | refine xv_imul (pc' := 40) hF xd_MO_bar_39 rfl ?_
    refine xv_iconstN (pc' := 41) 1 hF xd_MO_bar_40 (by decide +kernel) rfl ?_
    first | refine xv_iaddN (pc' := 42) hF xd_MO_bar_41 rfl ?_ | refine xv_iadd (pc' := 42) hF xd_MO_bar_41 rfl ?_
    refine xv_iconstN (pc' := 43) 3 hF xd_MO_bar_42 (by decide +kernel) rfl ?_
    refine xv_aload_n (pc' := 44) (i := 0) hF xd_MO_bar_43 rfl rfl rfl ?_
    refine xv_get (pc' := 47) (ci := 6) hF (by first | assumption | exact xu_self | (refine (xu_ne (by omega)).trans ?_; first | assumption | exact xu_self | (refine (xu_ne (by omega)).trans ?_; first | assumption | exact xu_self | (refine (xu_ne (by omega)).trans ?_; first | assumption | exact xu_self | (refine (xu_ne (by omega)).trans ?_; first | assumption | exact xu_self))))) rfl xu_MO 17 (by decide) xk_MO_f114 (by rfl) xd_MO_bar_44 rfl ?_
    first | refine xv_imulN (pc' := 48) hF xd_MO_bar_47 rfl ?_ | refine xv_imul (pc' := 48) hF xd_MO_bar_47 rfl ?_
    refine xv_callVv (pc' := 51) (ci := 6) hF (c_MO_copy K n h p th ma sz ln at_ f op mk (3 * op + 1) (3 * op) g S ho hs hg (by omega) (by omega)) xq_MO_copy xk_MO_m105 xk_i_MO_copy xk_s_MO_copy (by first | assumption | exact xu_self | (refine (xu_ne (by omega)).trans ?_; first | assumption | exact xu_self | (refine (xu_ne (by omega)).trans ?_; first | assumption | exact xu_self | (refine (xu_ne (by omega)).trans ?_; first | assumption | exact xu_self | (refine (xu_ne (by omega)).trans ?_; first | assumption | exact xu_self))))) rfl ⟨(Nat.le_of_ble_eq_true rfl), (Nat.le_of_ble_eq_true rfl)⟩ rfl rfl (Nat.le_of_ble_eq_true rfl) ⟨(Nat.le_of_ble_eq_true rfl), (Nat.le_of_ble_eq_true rfl)⟩ xd_MO_bar_48 rfl (fun n1 h1 q1 => ?_)
    obtain ⟨rfl, g1, rfl, hg1⟩ := q1
    refine xv_loc _ (by repeat (first | exact trivial | refine ⟨rfl, ?_⟩)) (fin _ _ (mo_fr.rf.x (by omega)) (r.sq hg1) ?_)
    unfold mo_pl
    rw [e1]
    rfl
  · refine xv_aload_n (pc' := 13) (i := 0) hF xd_MO_bar_12 rfl rfl rfl ?_
    refine xv_iconstN (pc' := 14) 3 hF xd_MO_bar_13 (by decide +kernel) rfl ?_
    refine xv_aload_n (pc' := 15) (i := 0) hF xd_MO_bar_14 rfl rfl rfl ?_
    refine xv_get (pc' := 18) (ci := 6) hF (by first | assumption | exact xu_self | (refine (xu_ne (by omega)).trans ?_; first | assumption | exact xu_self | (refine (xu_ne (by omega)).trans ?_; first | assumption | exact xu_self | (refine (xu_ne (by omega)).trans ?_; first | assumption | exact xu_self | (refine (xu_ne (by omega)).trans ?_; first | assumption | exact xu_self))))) rfl xu_MO 17 (by decide) xk_MO_f114 (by rfl) xd_MO_bar_15 rfl ?_
    first | refine xv_imulN (pc' := 19) hF xd_MO_bar_18 rfl ?_ | refine xv_imul (pc' := 19) hF xd_MO_bar_18 rfl ?_
    refine xv_iconstN (pc' := 20) 3 hF xd_MO_bar_19 (by decide +kernel) rfl ?_
    refine xv_aload_n (pc' := 21) (i := 0) hF xd_MO_bar_20 rfl rfl rfl ?_
    refine xv_get (pc' := 24) (ci := 6) hF (by first | assumption | exact xu_self | (refine (xu_ne (by omega)).trans ?_; first | assumption | exact xu_self | (refine (xu_ne (by omega)).trans ?_; first | assumption | exact xu_self | (refine (xu_ne (by omega)).trans ?_; first | assumption | exact xu_self | (refine (xu_ne (by omega)).trans ?_; first | assumption | exact xu_self))))) rfl xu_MO 17 (by decide) xk_MO_f114 (by rfl) xd_MO_bar_21 rfl ?_
    first | refine xv_imulN (pc' := 25) hF xd_MO_bar_24 rfl ?_ | refine xv_imul (pc' := 25) hF xd_MO_bar_24 rfl ?_
    refine xv_iconstN (pc' := 26) 1 hF xd_MO_bar_25 (by decide +kernel) rfl ?_
    first | refine xv_iaddN (pc' := 27) hF xd_MO_bar_26 rfl ?_ | refine xv_iadd (pc' := 27) hF xd_MO_bar_26 rfl ?_
    refine xv_callVv (pc' := 30) (ci := 6) hF (c_MO_either K n h p th ma sz ln at_ f op mk (3 * op) (3 * op + 1) g S ho hs hg (by omega) (by omega) (by omega)) xq_MO_either xk_MO_m110 xk_i_MO_either xk_s_MO_either (by first | assumption | exact xu_self | (refine (xu_ne (by omega)).trans ?_; first | assumption | exact xu_self | (refine (xu_ne (by omega)).trans ?_; first | assumption | exact xu_self | (refine (xu_ne (by omega)).trans ?_; first | assumption | exact xu_self | (refine (xu_ne (by omega)).trans ?_; first | assumption | exact xu_self))))) rfl ⟨(Nat.le_of_ble_eq_true rfl), (Nat.le_of_ble_eq_true rfl)⟩ rfl rfl (Nat.le_of_ble_eq_true rfl) ⟨(Nat.le_of_ble_eq_true rfl), (Nat.le_of_ble_eq_true rfl)⟩ xd_MO_bar_27 rfl (fun n1 h1 q1 => ?_)
    obtain ⟨rfl, g1, rfl, hg1⟩ := q1
    refine xv_goto (tgt := 51) hF xd_MO_bar_30 (by decide) ?_
    refine xv_loc _ (by repeat (first | exact trivial | refine ⟨rfl, ?_⟩)) (fin _ _ (mo_fr.rf.x (by omega)) (r.sq hg1) ?_)
    unfold mo_pl
    rw [e1]
    rfl
