/-! the reference: an atom -/
set_option maxHeartbeats 4000000 in
set_option maxRecDepth 100000 in
theorem c_MO_atomT (K : xK) (n : Nat) (h : xH) (p th ma sz ln at_ f op : Nat) (mk : Bool) (tx : Nat → Nat) (E : Nat → Nat → Nat → Bool) (Tg : Nat → Nat → Bool) (S : Nat → Nat → Nat → Nat) (so : Nat → Nat) (ba : Nat → Bool) (r : mo_S K h p th ma sz ln at_ 0 op mk tx E Tg (S) (so) (ba)) (hat : mo_c ln tx at_ = 91) (hok : mk = true → 48 ≤ mo_c ln tx (ts_d ln tx at_) ∧ mo_c ln tx (ts_d ln tx at_) < 52) : XM K xy_MO_atom xw_MO_atom (xrm 3 65 0 0) [.ref p] n h (x_pv fun n' h' => n = n' ∧ mo_fr p h h' ∧ ∃ a' f' S', ((f' = 0 ∧ 48 ≤ mo_c ln tx (ts_d ln tx at_) ∧ mo_c ln tx (ts_d ln tx at_) < 52 ∧ mo_c ln tx (ts_d ln tx at_ + 1) = 93 ∧ a' = ts_d ln tx at_ + 2) ∨ (¬ (48 ≤ mo_c ln tx (ts_d ln tx at_) ∧ mo_c ln tx (ts_d ln tx at_) < 52) ∧ f' = ts_d ln tx at_ + 1) ∨ (48 ≤ mo_c ln tx (ts_d ln tx at_) ∧ mo_c ln tx (ts_d ln tx at_) < 52 ∧ mo_c ln tx (ts_d ln tx at_ + 1) ≠ 93 ∧ f' = ts_d ln tx at_ + 2)) ∧ mo_ts mk S S' (3 * op + 2) (pd_ts (fun i => Tg (mo_c ln tx (ts_d ln tx at_) - 48) i = !ts_e ln tx at_)) ∧ mo_S K h' p th ma sz ln a' f' op mk tx E Tg (S') (va_up so (3 * op + 2) 1) (ba)) 0 0 := by
  obtain ⟨ho, ⟨g, hs, hg⟩, ⟨sf, hso, hso2⟩, ⟨bf, hba, hba2⟩, ⟨tf, htx, htx2⟩, ⟨ef, hed, hed2⟩, ⟨gf, htg, htg2⟩, b1, b2, b3, b4, b5⟩ := id r
  refine xm_v (by decide +kernel) (Nat.le_of_ble_eq_true rfl) (fun G hF hR => ?_)
  refine xv_iconstN (pc' := 1) 3 hF xd_MO_atom_0 (by decide +kernel) rfl ?_
  refine xv_aload_n (pc' := 2) (i := 0) hF xd_MO_atom_1 rfl rfl rfl ?_
  refine xv_get (pc' := 5) (ci := 6) hF (by first | assumption | exact xu_self | (refine (xu_ne (by omega)).trans ?_; first | assumption | exact xu_self | (refine (xu_ne (by omega)).trans ?_; first | assumption | exact xu_self | (refine (xu_ne (by omega)).trans ?_; first | assumption | exact xu_self | (refine (xu_ne (by omega)).trans ?_; first | assumption | exact xu_self))))) rfl xu_MO 17 (by decide) xk_MO_f114 (by rfl) xd_MO_atom_2 rfl ?_
  first | refine xv_imulN (pc' := 6) hF xd_MO_atom_5 rfl ?_ | refine xv_imul (pc' := 6) hF xd_MO_atom_5 rfl ?_
  refine xv_iconstN (pc' := 7) 2 hF xd_MO_atom_6 (by decide +kernel) rfl ?_
  first | refine xv_iaddN (pc' := 8) hF xd_MO_atom_7 rfl ?_ | refine xv_iadd (pc' := 8) hF xd_MO_atom_7 rfl ?_
  refine xv_istore_n (pc' := 9) (i := 1) hF xd_MO_atom_8 rfl (Nat.le_of_ble_eq_true rfl) rfl rfl ?_
  refine xv_aload_n (pc' := 10) (i := 0) hF xd_MO_atom_9 rfl rfl rfl ?_
  refine xv_get (pc' := 13) (ci := 6) hF (by first | assumption | exact xu_self | (refine (xu_ne (by omega)).trans ?_; first | assumption | exact xu_self | (refine (xu_ne (by omega)).trans ?_; first | assumption | exact xu_self | (refine (xu_ne (by omega)).trans ?_; first | assumption | exact xu_self | (refine (xu_ne (by omega)).trans ?_; first | assumption | exact xu_self))))) rfl xu_MO 15 (by decide) xk_MO_f36 (by rfl) xd_MO_atom_10 rfl ?_
  refine xv_iload_n (pc' := 14) (i := 1) hF xd_MO_atom_13 rfl rfl rfl ?_
  refine xv_iconstN (pc' := 15) 1 hF xd_MO_atom_14 (by decide +kernel) rfl ?_
  refine xv_iastN (pc' := 16) hF (by first | assumption | exact xu_self | (refine (xu_ne (by omega)).trans ?_; first | assumption | exact xu_self | (refine (xu_ne (by omega)).trans ?_; first | assumption | exact xu_self | (refine (xu_ne (by omega)).trans ?_; first | assumption | exact xu_self | (refine (xu_ne (by omega)).trans ?_; first | assumption | exact xu_self))))) (by omega) (by decide) xd_MO_atom_15 rfl ?_
  have r1 := r.so (so_up hso2 (3 * op + 2) 1)
  clear ho hs hg hso hba htx hed htg
  have ho := r1.1
  refine xv_aload_n (pc' := 17) (i := 0) hF xd_MO_atom_16 rfl rfl rfl ?_
  refine xv_callVi (pc' := 20) (ci := 6) hF (c_MO_nowS K n _ p th ma sz ln at_ 0 op mk tx E Tg S _ ba r1) xq_MO_now xk_MO_m85 xk_i_MO_now xk_s_MO_now (by first | assumption | exact xu_self | (refine (xu_ne (by omega)).trans ?_; first | assumption | exact xu_self | (refine (xu_ne (by omega)).trans ?_; first | assumption | exact xu_self | (refine (xu_ne (by omega)).trans ?_; first | assumption | exact xu_self | (refine (xu_ne (by omega)).trans ?_; first | assumption | exact xu_self))))) rfl ⟨(Nat.le_of_ble_eq_true rfl), (Nat.le_of_ble_eq_true rfl)⟩ rfl rfl (Nat.le_of_ble_eq_true rfl) ⟨(Nat.le_of_ble_eq_true rfl), (Nat.le_of_ble_eq_true rfl)⟩ xd_MO_atom_17 rfl (fun r2 n2 h2 q2 => ?_)
  obtain ⟨rfl, rfl, rfl⟩ := q2
  rw [hat]
  refine xv_bipushN (pc' := 22) 91 hF xd_MO_atom_20 (by decide +kernel) rfl ?_
  refine xv_icmp_neN (pc' := 25) (tgt := 31) hF (by omega) (by omega) xd_MO_atom_22 (by decide) rfl (fun e1 => ?_) (fun e1 => ?_)
  · exact absurd rfl e1
  · refine xv_aload_n (pc' := 26) (i := 0) hF xd_MO_atom_25 rfl rfl rfl ?_
    refine xv_iload_n (pc' := 27) (i := 1) hF xd_MO_atom_26 rfl rfl rfl ?_
    refine xv_callVv (pc' := 30) (ci := 6) hF (c_MO_test K n _ p th ma sz ln at_ f op mk tx E Tg S _ ba (3 * op + 2) r1 (by omega) hat hok) xq_MO_test xk_MO_m139 xk_i_MO_test xk_s_MO_test (by first | assumption | exact xu_self | (refine (xu_ne (by omega)).trans ?_; first | assumption | exact xu_self | (refine (xu_ne (by omega)).trans ?_; first | assumption | exact xu_self | (refine (xu_ne (by omega)).trans ?_; first | assumption | exact xu_self | (refine (xu_ne (by omega)).trans ?_; first | assumption | exact xu_self))))) rfl ⟨(Nat.le_of_ble_eq_true rfl), (Nat.le_of_ble_eq_true rfl)⟩ rfl rfl (Nat.le_of_ble_eq_true rfl) ⟨(Nat.le_of_ble_eq_true rfl), (Nat.le_of_ble_eq_true rfl)⟩ xd_MO_atom_27 rfl (fun n2 h2 q2 => ?_)
    obtain ⟨rfl, f2, q2⟩ := q2
    refine hR _ _ _ _ _ _ (by omega) (by omega) ?_ xd_MO_atom_30
    exact ⟨rfl, (mo_fr.rf.x (by omega)).tr f2, q2⟩
def am_e (ln : Nat) (tx : Nat → Nat) (a : Nat) : Bool := decide (mo_c ln tx a = 94)
def am_d (ln : Nat) (tx : Nat → Nat) (a : Nat) : Nat := if am_e ln tx a then a + 1 else a
def am_c (c : Nat) : Prop := c = 46 ∨ (97 ≤ c ∧ c < 105)
def am_l (c l : Nat) : Prop := c = 46 ∨ c = 97 + l
set_option maxHeartbeats 4000000 in
set_option maxRecDepth 100000 in
theorem c_MO_atomS (K : xK) (n : Nat) (h : xH) (p th ma sz ln at_ f op : Nat) (mk : Bool) (tx : Nat → Nat) (E : Nat → Nat → Nat → Bool) (Tg : Nat → Nat → Bool) (S : Nat → Nat → Nat → Nat) (so : Nat → Nat) (ba : Nat → Bool) (r : mo_S K h p th ma sz ln at_ 0 op mk tx E Tg (S) (so) (ba)) (hat : mo_c ln tx at_ ≠ 91) (hok : mk = true → am_c (mo_c ln tx (am_d ln tx at_))) : XM K xy_MO_atom xw_MO_atom (xrm 3 65 0 0) [.ref p] n h (x_pv fun n' h' => n = n' ∧ mo_fr p h h' ∧ ∃ a' f' S', ((f' = 0 ∧ am_c (mo_c ln tx (am_d ln tx at_)) ∧ a' = am_d ln tx at_ + 1) ∨ (¬ am_c (mo_c ln tx (am_d ln tx at_)) ∧ f' = am_d ln tx at_ + 1)) ∧ mo_ts mk S S' (3 * op + 2) (pd_eg (fun i j => ∃ l, l < 8 ∧ am_l (mo_c ln tx (am_d ln tx at_)) l ∧ (if am_e ln tx at_ then E l j i else E l i j) = true)) ∧ mo_S K h' p th ma sz ln a' f' op mk tx E Tg (S') (va_up so (3 * op + 2) 1) (ba)) 0 0 := by
  obtain ⟨ho, ⟨g, hs, hg⟩, ⟨sf, hso, hso2⟩, ⟨bf, hba, hba2⟩, ⟨tf, htx, htx2⟩, ⟨ef, hed, hed2⟩, ⟨gf, htg, htg2⟩, b1, b2, b3, b4, b5⟩ := id r
  have m256 := fun k => mo_c_lt (k := k) b5
  obtain ⟨nt, ent⟩ : ∃ nt, nt = am_e ln tx at_ := ⟨_, rfl⟩
  obtain ⟨da, eda⟩ : ∃ da, da = am_d ln tx at_ := ⟨_, rfl⟩
  rw [← ent, ← eda]
  rw [← eda] at hok
  have md := m256 da
  have eda2 : da = if nt then at_ + 1 else at_ := by rw [eda, ent]; rfl
  obtain ⟨so1, eso⟩ : ∃ so1, so1 = va_up so (3 * op + 2) 1 := ⟨_, rfl⟩
  rw [← eso]
  refine xm_v (by decide +kernel) (Nat.le_of_ble_eq_true rfl) (fun G hF hR => ?_)
  have fin : ∀ a' f' h1, mo_fr p h h1 → mo_S K h1 p th ma sz ln a' f' op mk tx E Tg (S) (so1) (ba) → ((f' = 0 ∧ am_c (mo_c ln tx da) ∧ a' = da + 1) ∨ (¬ am_c (mo_c ln tx da) ∧ f' = da + 1)) → XV G 0 0 99 [(3, .int (nI (mo_c ln tx da))), (2, .int (xb nt)), (1, .int (nI (3 * op + 2))), (0, .ref p)] [] n h1 := by
    intro a' f' h1 f1 r1 hc
    clear ho hs hg hso hba htx hed htg hso2 hba2 htx2 hed2 htg2 b2 b3
    obtain ⟨ho, ⟨g, hs, hg⟩, ⟨sf, hso, hso2⟩, ⟨bf, hba, hba2⟩, ⟨tf, htx, htx2⟩, ⟨ef, hed, hed2⟩, ⟨gf, htg, htg2⟩, b1, b2, b3, b4, b5⟩ := id r1
    refine xv_aload_n (pc' := 100) (i := 0) hF xd_MO_atom_99 rfl rfl rfl ?_
    refine xv_iload_n (pc' := 101) (i := 1) hF xd_MO_atom_100 rfl rfl rfl ?_
    refine xv_iconstN (pc' := 102) 0 hF xd_MO_atom_101 (by decide +kernel) rfl ?_
    refine xv_topi (v' := xb false) (by decide +kernel) ?_
    refine xv_callVv (pc' := 105) (ci := 6) hF (c_MO_plain K n h1 p th ma sz ln a' f' op mk (3 * op + 2) false g S ho hs hg (by omega)) xq_MO_plain xk_MO_m97 xk_i_MO_plain xk_s_MO_plain (by first | assumption | exact xu_self | (refine (xu_ne (by omega)).trans ?_; first | assumption | exact xu_self | (refine (xu_ne (by omega)).trans ?_; first | assumption | exact xu_self | (refine (xu_ne (by omega)).trans ?_; first | assumption | exact xu_self | (refine (xu_ne (by omega)).trans ?_; first | assumption | exact xu_self))))) rfl ⟨(Nat.le_of_ble_eq_true rfl), (Nat.le_of_ble_eq_true rfl)⟩ rfl rfl (Nat.le_of_ble_eq_true rfl) ⟨(Nat.le_of_ble_eq_true rfl), (Nat.le_of_ble_eq_true rfl)⟩ xd_MO_atom_102 rfl (fun n2 h2 q2 => ?_)
    obtain ⟨rfl, g2, rfl, hg2⟩ := q2
    refine xv_iconstN (pc' := 106) 0 hF xd_MO_atom_105 (by decide +kernel) rfl ?_
    refine xv_istore (pc' := 108) hF xd_MO_atom_106 (Nat.le_of_ble_eq_true rfl) rfl rfl ?_
    cases mk with
    | false =>
      have r2 := r1.sq hg2
      clear ho
      have ho := r2.1
      refine xv_aload_n (pc' := 109) (i := 0) hF xd_MO_atom_108 rfl rfl rfl ?_
      refine xv_get (pc' := 112) (ci := 6) hF (by first | assumption | exact xu_self | (refine (xu_ne (by omega)).trans ?_; first | assumption | exact xu_self | (refine (xu_ne (by omega)).trans ?_; first | assumption | exact xu_self | (refine (xu_ne (by omega)).trans ?_; first | assumption | exact xu_self | (refine (xu_ne (by omega)).trans ?_; first | assumption | exact xu_self))))) rfl xu_MO 13 (by decide) xk_MO_f92 (by rfl) xd_MO_atom_109 rfl ?_
      refine xv_if_eqB (pc' := 115) (tgt := 213) hF xd_MO_atom_112 (by decide) rfl (fun e1 => ?_) (fun e1 => ?_)
      · refine hR _ _ _ _ _ _ (by omega) (by omega) ?_ xd_MO_atom_213
        exact ⟨rfl, f1.x (by omega), a', f', S, hc, ⟨fun _ _ _ => rfl, fun h => (by cases h)⟩, r2⟩
      · cases e1
    | true =>
      have hok := hok rfl
      have hg3 : sq_is g2 (va_up S (3 * op + 2) md_no) := hg2
      have loop : ∀ d k g4 X, 8192 - k = d → k ≤ 8192 → sq_is g4 (va_up S (3 * op + 2) X) → (∀ i j, i < 32 → j < 32 → X i j = 1 ∨ X i j = 1000000) → (∀ i j, i < 32 → j < 32 → (X i j = 1 ↔ ∃ l, l < 8 ∧ am_l (mo_c ln tx da) l ∧ (if nt then E l j i else E l i j) = true ∧ (if nt then 1024 * l + 32 * j + i else 1024 * l + 32 * i + j) < k)) → XV G (0 + 0) (0 + 0) 108 [(4, .int (nI k)), (3, .int (nI (mo_c ln tx da))), (2, .int (xb nt)), (1, .int (nI (3 * op + 2))), (0, .ref p)] [] n (xu h1 (p + 8) (.inl (K.2.2.1 0, 40960, .inl g4))) := by
        intro d
        induction d using Nat.strongRecOn with
        | ind d ih =>
          intro k g4 X hd hk hg4 hX hX2
          have r4 := r1.sq hg4
          refine xv_aload_n (pc' := 109) (i := 0) hF xd_MO_atom_108 rfl rfl rfl ?_
          refine xv_get (pc' := 112) (ci := 6) hF (by first | assumption | exact xu_self | (refine (xu_ne (by omega)).trans ?_; first | assumption | exact xu_self | (refine (xu_ne (by omega)).trans ?_; first | assumption | exact xu_self | (refine (xu_ne (by omega)).trans ?_; first | assumption | exact xu_self | (refine (xu_ne (by omega)).trans ?_; first | assumption | exact xu_self))))) rfl xu_MO 13 (by decide) xk_MO_f92 (by rfl) xd_MO_atom_109 rfl ?_
          refine xv_if_eqB (pc' := 115) (tgt := 213) hF xd_MO_atom_112 (by decide) rfl (fun e1 => ?_) (fun e1 => ?_)
          · cases e1
          · refine xv_iload (pc' := 117) hF xd_MO_atom_115 rfl rfl ?_
            refine xv_sipushN (pc' := 120) 8192 hF xd_MO_atom_117 (by decide +kernel) rfl ?_
            refine xv_icmp_geN (pc' := 123) (tgt := 213) hF (by omega) (by omega) xd_MO_atom_120 (by decide) rfl (fun e2 => ?_) (fun e2 => ?_)
            · have : k = 8192 := by omega
              subst this
              refine hR _ _ _ _ _ _ (by omega) (by omega) ?_ xd_MO_atom_213
              refine ⟨rfl, f1.x (by omega), a', f', _, hc, ⟨fun t _ hne => va_n hne, fun _ => ?_⟩, r4⟩
              rw [va_s]
              refine pd_mn_eg fun i j hi hj => ⟨fun h => (hX2 i j hi hj).mpr ?_, fun h => ?_⟩
              · obtain ⟨l, h1, h2, h3⟩ := h
                exact ⟨l, h1, h2, h3, by split <;> omega⟩
              · rcases hX i j hi hj with h5 | h5
                · obtain ⟨l, h1, h2, h3, -⟩ := (hX2 i j hi hj).mp h5
                  exact absurd ⟨l, h1, h2, h3⟩ h
                · exact h5
            · have skip : ¬ (E (k / 1024) (k / 32 % 32) (k % 32) = true ∧ am_l (mo_c ln tx da) (k / 1024)) → XV G (0 + 0) (0 + 0) 207 [(4, .int (nI k)), (3, .int (nI (mo_c ln tx da))), (2, .int (xb nt)), (1, .int (nI (3 * op + 2))), (0, .ref p)] [] n (xu h1 (p + 8) (.inl (K.2.2.1 0, 40960, .inl g4))) := by
                intro hn
                first | refine xv_iincN (pc' := 210) hF xd_MO_atom_207 rfl rfl (Nat.le_of_ble_eq_true rfl) rfl rfl ?_ | refine xv_iinc (pc' := 210) hF xd_MO_atom_207 rfl rfl (Nat.le_of_ble_eq_true rfl) rfl rfl ?_
                refine xv_goto (tgt := 108) hF xd_MO_atom_210 (by decide) ?_
                refine xv_loc _ (by repeat (first | exact trivial | refine ⟨rfl, ?_⟩)) (ih _ (by omega) (k + 1) g4 X rfl (by omega) hg4 hX (fun i j hi hj => ?_))
                rw [hX2 i j hi hj]
                constructor
                · rintro ⟨l, h1, h2, h3, h4⟩
                  exact ⟨l, h1, h2, h3, by omega⟩
                · rintro ⟨l, h1, h2, h3, h4⟩
                  refine ⟨l, h1, h2, h3, ?_⟩
                  refine Nat.lt_of_le_of_ne (by omega) fun hk' => hn ?_
                  cases nt
                  · simp only [Bool.false_eq_true, if_false] at h3 hk'
                    rw [show k / 1024 = l by omega, show k / 32 % 32 = i by omega, show k % 32 = j by omega]
                    exact ⟨h3, h2⟩
                  · simp only [if_true] at h3 hk'
                    rw [show k / 1024 = l by omega, show k / 32 % 32 = j by omega, show k % 32 = i by omega]
                    exact ⟨h3, h2⟩
              have put : E (k / 1024) (k / 32 % 32) (k % 32) = true → am_l (mo_c ln tx da) (k / 1024) → XV G (0 + 0) (0 + 0) 155 [(4, .int (nI k)), (3, .int (nI (mo_c ln tx da))), (2, .int (xb nt)), (1, .int (nI (3 * op + 2))), (0, .ref p)] [] n (xu h1 (p + 8) (.inl (K.2.2.1 0, 40960, .inl g4))) := by
                intro hE hl
                have put2 : ∀ z i0 j0, i0 = (if nt then k % 32 else k / 32 % 32) → j0 = (if nt then k / 32 % 32 else k % 32) → z = 32 * i0 + j0 → XV G (0 + 0) (0 + 0) 204 [(6, .int (nI (k % 32))), (5, .int (nI (k / 32 % 32))), (4, .int (nI k)), (3, .int (nI (mo_c ln tx da))), (2, .int (xb nt)), (1, .int (nI (3 * op + 2))), (0, .ref p)] [.int (nI z), .int (nI (1024 * (3 * op + 2))), .ref (p + 8)] n (xu h1 (p + 8) (.inl (K.2.2.1 0, 40960, .inl g4))) := by
                  intro z i0 j0 ei ej ez
                  have hi0 : i0 < 32 := by rw [ei]; split <;> omega
                  have hj0 : j0 < 32 := by rw [ej]; split <;> omega
                  first | refine xv_iaddN (pc' := 205) hF xd_MO_atom_204 rfl ?_ | refine xv_iadd (pc' := 205) hF xd_MO_atom_204 rfl ?_
                  refine xv_iconstN (pc' := 206) 1 hF xd_MO_atom_205 (by decide +kernel) rfl ?_
                  refine xv_iastN (pc' := 207) hF (by first | assumption | exact xu_self | (refine (xu_ne (by omega)).trans ?_; first | assumption | exact xu_self | (refine (xu_ne (by omega)).trans ?_; first | assumption | exact xu_self | (refine (xu_ne (by omega)).trans ?_; first | assumption | exact xu_self | (refine (xu_ne (by omega)).trans ?_; first | assumption | exact xu_self))))) (by omega) (by decide) xd_MO_atom_206 rfl ?_
                  first | refine xv_iincN (pc' := 210) hF xd_MO_atom_207 rfl rfl (Nat.le_of_ble_eq_true rfl) rfl rfl ?_ | refine xv_iinc (pc' := 210) hF xd_MO_atom_207 rfl rfl (Nat.le_of_ble_eq_true rfl) rfl rfl ?_
                  refine xv_goto (tgt := 108) hF xd_MO_atom_210 (by decide) ?_
                  rw [xu_xu]
                  have s1 := sq_set hg4 (t := 3 * op + 2) (i := i0) (j := j0) (v := 1) (by omega) hi0 hj0 (by omega)
                  rw [show 1024 * (3 * op + 2) + 32 * i0 + j0 = 1024 * (3 * op + 2) + z by omega, va_s] at s1
                  refine xv_loc _ (by repeat (first | exact trivial | refine ⟨rfl, ?_⟩)) (ih _ (by omega) (k + 1) _ (md_set X i0 j0 1) rfl (by omega) (s1.congr fun s a b hs ha hb => ?_) (fun i j hi hj => ?_) (fun i j hi hj => ?_))
                  · by_cases c : s = 3 * op + 2
                    · subst c; rw [va_s, va_s]
                    · rw [va_n c, va_n c, va_n c]
                  · by_cases c : i = i0 ∧ j = j0
                    · rw [c.1, c.2, md_set_s]; exact Or.inl rfl
                    · rw [md_set_n c]; exact hX i j hi hj
                  · by_cases c : i = i0 ∧ j = j0
                    · obtain ⟨rfl, rfl⟩ := c
                      rw [md_set_s]
                      refine ⟨fun _ => ⟨k / 1024, by omega, hl, ?_, ?_⟩, fun _ => rfl⟩
                      · rw [ei, ej]; cases nt <;> exact hE
                      · rw [ei, ej]; cases nt
                        · simp only [Bool.false_eq_true, if_false]; omega
                        · simp only [if_true]; omega
                    · rw [md_set_n c, hX2 i j hi hj]
                      constructor
                      · rintro ⟨l, h1, h2, h3, h4⟩
                        exact ⟨l, h1, h2, h3, by omega⟩
                      · rintro ⟨l, h1, h2, h3, h4⟩
                        refine ⟨l, h1, h2, h3, ?_⟩
                        refine Nat.lt_of_le_of_ne (by omega) fun hk' => c ?_
                        rw [ei, ej]
                        cases nt
                        · simp only [Bool.false_eq_true, if_false] at hk' ⊢; omega
                        · simp only [if_true] at hk' ⊢; omega
                refine xv_iload (pc' := 157) hF xd_MO_atom_155 rfl rfl ?_
                refine xv_bipushN (pc' := 159) 32 hF xd_MO_atom_157 (by decide +kernel) rfl ?_
                refine xv_idivN (pc' := 160) hF (by omega) (by decide) (by decide) xd_MO_atom_159 rfl ?_
                refine xv_bipushN (pc' := 162) 32 hF xd_MO_atom_160 (by decide +kernel) rfl ?_
                refine xv_iremN (pc' := 163) hF (by omega) (by decide) (by decide) xd_MO_atom_162 rfl ?_
                refine xv_istore (pc' := 165) hF xd_MO_atom_163 (Nat.le_of_ble_eq_true rfl) rfl rfl ?_
                refine xv_iload (pc' := 167) hF xd_MO_atom_165 rfl rfl ?_
                refine xv_bipushN (pc' := 169) 32 hF xd_MO_atom_167 (by decide +kernel) rfl ?_
                refine xv_iremN (pc' := 170) hF (by omega) (by decide) (by decide) xd_MO_atom_169 rfl ?_
                refine xv_istore (pc' := 172) hF xd_MO_atom_170 (Nat.le_of_ble_eq_true rfl) rfl rfl ?_
                refine xv_aload_n (pc' := 173) (i := 0) hF xd_MO_atom_172 rfl rfl rfl ?_
                refine xv_get (pc' := 176) (ci := 6) hF (by first | assumption | exact xu_self | (refine (xu_ne (by omega)).trans ?_; first | assumption | exact xu_self | (refine (xu_ne (by omega)).trans ?_; first | assumption | exact xu_self | (refine (xu_ne (by omega)).trans ?_; first | assumption | exact xu_self | (refine (xu_ne (by omega)).trans ?_; first | assumption | exact xu_self))))) rfl xu_MO 14 (by decide) xk_MO_f33 (by rfl) xd_MO_atom_173 rfl ?_
                refine xv_sipushN (pc' := 179) 1024 hF xd_MO_atom_176 (by decide +kernel) rfl ?_
                refine xv_iload_n (pc' := 180) (i := 1) hF xd_MO_atom_179 rfl rfl rfl ?_
                first | refine xv_imulN (pc' := 181) hF xd_MO_atom_180 rfl ?_ | refine xv_imul (pc' := 181) hF xd_MO_atom_180 rfl ?_
                refine xv_iload_n (pc' := 182) (i := 2) hF xd_MO_atom_181 rfl rfl rfl ?_
                refine xv_if_eqB (pc' := 185) (tgt := 196) hF xd_MO_atom_182 (by decide) rfl (fun e5 => ?_) (fun e5 => ?_)
                · refine xv_bipushN (pc' := 198) 32 hF xd_MO_atom_196 (by decide +kernel) rfl ?_
                  refine xv_iload (pc' := 200) hF xd_MO_atom_198 rfl rfl ?_
                  first | refine xv_imulN (pc' := 201) hF xd_MO_atom_200 rfl ?_ | refine xv_imul (pc' := 201) hF xd_MO_atom_200 rfl ?_
                  refine xv_iload (pc' := 203) hF xd_MO_atom_201 rfl rfl ?_
                  first | refine xv_iaddN (pc' := 204) hF xd_MO_atom_203 rfl ?_ | refine xv_iadd (pc' := 204) hF xd_MO_atom_203 rfl ?_
                  exact xv_loc _ (by repeat (first | exact trivial | refine ⟨rfl, ?_⟩)) (put2 _ (k / 32 % 32) (k % 32) (by rw [e5]; rfl) (by rw [e5]; rfl) rfl)
                · refine xv_bipushN (pc' := 187) 32 hF xd_MO_atom_185 (by decide +kernel) rfl ?_
                  refine xv_iload (pc' := 189) hF xd_MO_atom_187 rfl rfl ?_
                  first | refine xv_imulN (pc' := 190) hF xd_MO_atom_189 rfl ?_ | refine xv_imul (pc' := 190) hF xd_MO_atom_189 rfl ?_
                  refine xv_iload (pc' := 192) hF xd_MO_atom_190 rfl rfl ?_
                  first | refine xv_iaddN (pc' := 193) hF xd_MO_atom_192 rfl ?_ | refine xv_iadd (pc' := 193) hF xd_MO_atom_192 rfl ?_
                  refine xv_goto (tgt := 204) hF xd_MO_atom_193 (by decide) ?_
                  exact xv_loc _ (by repeat (first | exact trivial | refine ⟨rfl, ?_⟩)) (put2 _ (k % 32) (k / 32 % 32) (by rw [e5]; rfl) (by rw [e5]; rfl) rfl)
              refine xv_aload_n (pc' := 124) (i := 0) hF xd_MO_atom_123 rfl rfl rfl ?_
              refine xv_get (pc' := 127) (ci := 6) hF (by first | assumption | exact xu_self | (refine (xu_ne (by omega)).trans ?_; first | assumption | exact xu_self | (refine (xu_ne (by omega)).trans ?_; first | assumption | exact xu_self | (refine (xu_ne (by omega)).trans ?_; first | assumption | exact xu_self | (refine (xu_ne (by omega)).trans ?_; first | assumption | exact xu_self))))) rfl xu_MO 1 (by decide) xk_MO_f7 (by rfl) xd_MO_atom_124 rfl ?_
              refine xv_iload (pc' := 129) hF xd_MO_atom_127 rfl rfl ?_
              refine xv_zaldN (pc' := 130) hF (by first | assumption | exact xu_self | (refine (xu_ne (by omega)).trans ?_; first | assumption | exact xu_self | (refine (xu_ne (by omega)).trans ?_; first | assumption | exact xu_self | (refine (xu_ne (by omega)).trans ?_; first | assumption | exact xu_self | (refine (xu_ne (by omega)).trans ?_; first | assumption | exact xu_self))))) (by omega) (by decide) xd_MO_atom_129 rfl ?_
              refine xv_topi (hed2 k e2) ?_
              refine xv_if_eqB (pc' := 133) (tgt := 207) hF xd_MO_atom_130 (by decide) rfl (fun e3 => ?_) (fun e3 => ?_)
              · exact xv_loc _ (by repeat (first | exact trivial | refine ⟨rfl, ?_⟩)) (skip (by rw [e3]; simp))
              · refine xv_iload_n (pc' := 134) (i := 3) hF xd_MO_atom_133 rfl rfl rfl ?_
                refine xv_bipushN (pc' := 136) 46 hF xd_MO_atom_134 (by decide +kernel) rfl ?_
                refine xv_icmp_eqN (pc' := 139) (tgt := 155) hF (by omega) (by omega) xd_MO_atom_136 (by decide) rfl (fun e4 => ?_) (fun e4 => ?_)
                · exact xv_loc _ (by repeat (first | exact trivial | refine ⟨rfl, ?_⟩)) (put e3 (Or.inl e4))
                · unfold am_c at hok
                  refine xv_iload_n (pc' := 140) (i := 3) hF xd_MO_atom_139 rfl rfl rfl ?_
                  refine xv_bipushN (pc' := 142) 97 hF xd_MO_atom_140 (by decide +kernel) rfl ?_
                  first | refine xv_isubN (pc' := 143) hF (by omega) xd_MO_atom_142 rfl ?_ | refine xv_isub (pc' := 143) hF xd_MO_atom_142 rfl ?_
                  refine xv_iload (pc' := 145) hF xd_MO_atom_143 rfl rfl ?_
                  refine xv_sipushN (pc' := 148) 1024 hF xd_MO_atom_145 (by decide +kernel) rfl ?_
                  refine xv_idivN (pc' := 149) hF (by omega) (by decide) (by decide) xd_MO_atom_148 rfl ?_
                  refine xv_icmp_eqN (pc' := 152) (tgt := 155) hF (by omega) (by omega) xd_MO_atom_149 (by decide) rfl (fun e5 => ?_) (fun e5 => ?_)
                  · exact xv_loc _ (by repeat (first | exact trivial | refine ⟨rfl, ?_⟩)) (put e3 (Or.inr (by omega)))
                  · refine xv_goto (tgt := 207) hF xd_MO_atom_152 (by decide) ?_
                    exact xv_loc _ (by repeat (first | exact trivial | refine ⟨rfl, ?_⟩)) (skip (fun h => by have := h.2; unfold am_l at this; omega))
      refine xv_loc _ (by repeat (first | exact trivial | refine ⟨rfl, ?_⟩)) (loop 8192 0 g2 md_no (by omega) (by omega) hg3 (fun i j _ _ => Or.inr rfl) (fun i j _ _ => ⟨fun h => ?_, fun ⟨l, _, _, _, h⟩ => absurd h (Nat.not_lt_zero _)⟩))
      have h : (1000000 : Nat) = 1 := h
      omega
  have mid : ∀ h1, mo_fr p h h1 → mo_S K h1 p th ma sz ln da 0 op mk tx E Tg (S) (so1) (ba) → XV G 0 0 60 [(2, .int (xb nt)), (1, .int (nI (3 * op + 2))), (0, .ref p)] [] n h1 := by
    intro h1 f1 r1
    clear ho hs hg hso hba htx hed htg hso2 hba2 htx2 hed2 htg2 b2 b3
    have ho := r1.1
    obtain ⟨-, b2, b3, -⟩ := id r1.2.2.2.2.2.2.2
    refine xv_aload_n (pc' := 61) (i := 0) hF xd_MO_atom_60 rfl rfl rfl ?_
    refine xv_callVi (pc' := 64) (ci := 6) hF (c_MO_nowS K n h1 p th ma sz ln da 0 op mk tx E Tg S so1 ba r1) xq_MO_now xk_MO_m85 xk_i_MO_now xk_s_MO_now (by first | assumption | exact xu_self | (refine (xu_ne (by omega)).trans ?_; first | assumption | exact xu_self | (refine (xu_ne (by omega)).trans ?_; first | assumption | exact xu_self | (refine (xu_ne (by omega)).trans ?_; first | assumption | exact xu_self | (refine (xu_ne (by omega)).trans ?_; first | assumption | exact xu_self))))) rfl ⟨(Nat.le_of_ble_eq_true rfl), (Nat.le_of_ble_eq_true rfl)⟩ rfl rfl (Nat.le_of_ble_eq_true rfl) ⟨(Nat.le_of_ble_eq_true rfl), (Nat.le_of_ble_eq_true rfl)⟩ xd_MO_atom_61 rfl (fun r2 n2 h2 q2 => ?_)
    obtain ⟨rfl, rfl, rfl⟩ := q2
    have good : am_c (mo_c ln tx da) → XV G (0 + 0 + 0) (0 + 0 + 0) 82 [(3, .int (nI (mo_c ln tx da))), (2, .int (xb nt)), (1, .int (nI (3 * op + 2))), (0, .ref p)] [] n h1 := by
      intro hc
      have bd := (mo_c_in (k := da) (tx := tx) (ln := ln) (by unfold am_c at hc; omega)).1
      refine xv_aload_n (pc' := 83) (i := 0) hF xd_MO_atom_82 rfl rfl rfl ?_
      refine xv_callVi (pc' := 86) (ci := 6) hF (c_MO_goes K n h1 p th ma sz ln da 0 op mk ho (by omega)) xq_MO_goes xk_MO_m81 xk_i_MO_goes xk_s_MO_goes (by first | assumption | exact xu_self | (refine (xu_ne (by omega)).trans ?_; first | assumption | exact xu_self | (refine (xu_ne (by omega)).trans ?_; first | assumption | exact xu_self | (refine (xu_ne (by omega)).trans ?_; first | assumption | exact xu_self | (refine (xu_ne (by omega)).trans ?_; first | assumption | exact xu_self))))) rfl ⟨(Nat.le_of_ble_eq_true rfl), (Nat.le_of_ble_eq_true rfl)⟩ rfl rfl (Nat.le_of_ble_eq_true rfl) ⟨(Nat.le_of_ble_eq_true rfl), (Nat.le_of_ble_eq_true rfl)⟩ xd_MO_atom_83 rfl (fun r2 n2 h2 q2 => ?_)
      obtain ⟨rfl, rfl, rfl⟩ := q2
      rw [decide_eq_true rfl]
      refine xv_if_eqB (pc' := 89) (tgt := 99) hF xd_MO_atom_86 (by decide) rfl (fun e2 => ?_) (fun e2 => ?_)
      · cases e2
      · refine xv_aload_n (pc' := 90) (i := 0) hF xd_MO_atom_89 rfl rfl rfl ?_
        refine xv_dup (pc' := 91) hF xd_MO_atom_90 rfl rfl ?_
        refine xv_get (pc' := 94) (ci := 6) hF (by first | assumption | exact xu_self | (refine (xu_ne (by omega)).trans ?_; first | assumption | exact xu_self | (refine (xu_ne (by omega)).trans ?_; first | assumption | exact xu_self | (refine (xu_ne (by omega)).trans ?_; first | assumption | exact xu_self | (refine (xu_ne (by omega)).trans ?_; first | assumption | exact xu_self))))) rfl xu_MO 11 (by decide) xk_MO_f72 (by rfl) xd_MO_atom_91 rfl ?_
        refine xv_iconstN (pc' := 95) 1 hF xd_MO_atom_94 (by decide +kernel) rfl ?_
        first | refine xv_iaddN (pc' := 96) hF xd_MO_atom_95 rfl ?_ | refine xv_iadd (pc' := 96) hF xd_MO_atom_95 rfl ?_
        refine xv_put (pc' := 99) (ci := 6) (ty := xt_MO 11) hF (by first | assumption | exact xu_self | (refine (xu_ne (by omega)).trans ?_; first | assumption | exact xu_self | (refine (xu_ne (by omega)).trans ?_; first | assumption | exact xu_self | (refine (xu_ne (by omega)).trans ?_; first | assumption | exact xu_self | (refine (xu_ne (by omega)).trans ?_; first | assumption | exact xu_self))))) rfl xu_MO xt_MO xo_MO xn_MO 11 (by decide) xk_MO_f72 rfl (by decide +kernel) (by first | rfl | exact xb_nw _ | decide +kernel) (by first | rfl | exact xb_ft _ | decide +kernel) (by exact Nat.le_of_ble_eq_true rfl) (by dsimp only [List.set] <;> rfl) xd_MO_atom_96 rfl ?_
        exact xv_loc _ (by repeat (first | exact trivial | refine ⟨rfl, ?_⟩)) (fin (da + 1) 0 _ (f1.x (by omega)) (r1.ob (mk' := mk) b1 (by omega) (by omega)) (Or.inl ⟨rfl, hc, rfl⟩))
    refine xv_istore_n (pc' := 65) (i := 3) hF xd_MO_atom_64 rfl (Nat.le_of_ble_eq_true rfl) rfl rfl ?_
    refine xv_iload_n (pc' := 66) (i := 3) hF xd_MO_atom_65 rfl rfl rfl ?_
    refine xv_callSi (pc' := 69) hF (c_MO_isLetter K n h1 (mo_c ln tx da) (by omega)) xq_MO_isLetter xk_MO_m129 xk_t_MO_isLetter ⟨(Nat.le_of_ble_eq_true rfl), (Nat.le_of_ble_eq_true rfl)⟩ rfl rfl (Nat.le_of_ble_eq_true rfl) ⟨(Nat.le_of_ble_eq_true rfl), (Nat.le_of_ble_eq_true rfl)⟩ xd_MO_atom_66 rfl (fun r2 n2 h2 q2 => ?_)
    obtain ⟨rfl, rfl, rfl⟩ := q2
    refine xv_if_neB (pc' := 72) (tgt := 82) hF xd_MO_atom_69 (by decide) rfl (fun e1 => ?_) (fun e1 => ?_)
    · exact xv_loc _ (by repeat (first | exact trivial | refine ⟨rfl, ?_⟩)) (good (Or.inr (of_decide_eq_true e1)))
    · have e1 := of_decide_eq_false e1
      refine xv_iload_n (pc' := 73) (i := 3) hF xd_MO_atom_72 rfl rfl rfl ?_
      refine xv_bipushN (pc' := 75) 46 hF xd_MO_atom_73 (by decide +kernel) rfl ?_
      refine xv_icmp_eqN (pc' := 78) (tgt := 82) hF (by omega) (by omega) xd_MO_atom_75 (by decide) rfl (fun e2 => ?_) (fun e2 => ?_)
      · exact xv_loc _ (by repeat (first | exact trivial | refine ⟨rfl, ?_⟩)) (good (Or.inl e2))
      · have hn : ¬ am_c (mo_c ln tx da) := fun h => h.elim e2 e1
        refine xv_aload_n (pc' := 79) (i := 0) hF xd_MO_atom_78 rfl rfl rfl ?_
        refine xv_callVv (pc' := 82) (ci := 6) hF (c_MO_fail K n h1 p th ma sz ln da 0 op mk ho (by omega)) xq_MO_fail xk_MO_m89 xk_i_MO_fail xk_s_MO_fail (by first | assumption | exact xu_self | (refine (xu_ne (by omega)).trans ?_; first | assumption | exact xu_self | (refine (xu_ne (by omega)).trans ?_; first | assumption | exact xu_self | (refine (xu_ne (by omega)).trans ?_; first | assumption | exact xu_self | (refine (xu_ne (by omega)).trans ?_; first | assumption | exact xu_self))))) rfl ⟨(Nat.le_of_ble_eq_true rfl), (Nat.le_of_ble_eq_true rfl)⟩ rfl rfl (Nat.le_of_ble_eq_true rfl) ⟨(Nat.le_of_ble_eq_true rfl), (Nat.le_of_ble_eq_true rfl)⟩ xd_MO_atom_79 rfl (fun n2 h2 q2 => ?_)
        obtain ⟨rfl, rfl⟩ := q2
        rw [if_pos rfl]
        refine xv_aload_n (pc' := 83) (i := 0) hF xd_MO_atom_82 rfl rfl rfl ?_
        refine xv_callVi (pc' := 86) (ci := 6) hF (c_MO_goes K n _ p th ma sz ln da (da + 1) op mk xu_self (by omega)) xq_MO_goes xk_MO_m81 xk_i_MO_goes xk_s_MO_goes (by first | assumption | exact xu_self | (refine (xu_ne (by omega)).trans ?_; first | assumption | exact xu_self | (refine (xu_ne (by omega)).trans ?_; first | assumption | exact xu_self | (refine (xu_ne (by omega)).trans ?_; first | assumption | exact xu_self | (refine (xu_ne (by omega)).trans ?_; first | assumption | exact xu_self))))) rfl ⟨(Nat.le_of_ble_eq_true rfl), (Nat.le_of_ble_eq_true rfl)⟩ rfl rfl (Nat.le_of_ble_eq_true rfl) ⟨(Nat.le_of_ble_eq_true rfl), (Nat.le_of_ble_eq_true rfl)⟩ xd_MO_atom_83 rfl (fun r2 n2 h2 q2 => ?_)
        obtain ⟨rfl, rfl, rfl⟩ := q2
        rw [decide_eq_false (Nat.succ_ne_zero da)]
        refine xv_if_eqB (pc' := 89) (tgt := 99) hF xd_MO_atom_86 (by decide) rfl (fun e3 => ?_) (fun e3 => ?_)
        · exact xv_loc _ (by repeat (first | exact trivial | refine ⟨rfl, ?_⟩)) (fin da (da + 1) _ (f1.x (by omega)) (r1.ob (mk' := mk) b1 (by omega) b3) (Or.inr ⟨hn, rfl⟩))
        · cases e3
  refine xv_iconstN (pc' := 1) 3 hF xd_MO_atom_0 (by decide +kernel) rfl ?_
  refine xv_aload_n (pc' := 2) (i := 0) hF xd_MO_atom_1 rfl rfl rfl ?_
  refine xv_get (pc' := 5) (ci := 6) hF (by first | assumption | exact xu_self | (refine (xu_ne (by omega)).trans ?_; first | assumption | exact xu_self | (refine (xu_ne (by omega)).trans ?_; first | assumption | exact xu_self | (refine (xu_ne (by omega)).trans ?_; first | assumption | exact xu_self | (refine (xu_ne (by omega)).trans ?_; first | assumption | exact xu_self))))) rfl xu_MO 17 (by decide) xk_MO_f114 (by rfl) xd_MO_atom_2 rfl ?_
  first | refine xv_imulN (pc' := 6) hF xd_MO_atom_5 rfl ?_ | refine xv_imul (pc' := 6) hF xd_MO_atom_5 rfl ?_
  refine xv_iconstN (pc' := 7) 2 hF xd_MO_atom_6 (by decide +kernel) rfl ?_
  first | refine xv_iaddN (pc' := 8) hF xd_MO_atom_7 rfl ?_ | refine xv_iadd (pc' := 8) hF xd_MO_atom_7 rfl ?_
  refine xv_istore_n (pc' := 9) (i := 1) hF xd_MO_atom_8 rfl (Nat.le_of_ble_eq_true rfl) rfl rfl ?_
  refine xv_aload_n (pc' := 10) (i := 0) hF xd_MO_atom_9 rfl rfl rfl ?_
  refine xv_get (pc' := 13) (ci := 6) hF (by first | assumption | exact xu_self | (refine (xu_ne (by omega)).trans ?_; first | assumption | exact xu_self | (refine (xu_ne (by omega)).trans ?_; first | assumption | exact xu_self | (refine (xu_ne (by omega)).trans ?_; first | assumption | exact xu_self | (refine (xu_ne (by omega)).trans ?_; first | assumption | exact xu_self))))) rfl xu_MO 15 (by decide) xk_MO_f36 (by rfl) xd_MO_atom_10 rfl ?_
  refine xv_iload_n (pc' := 14) (i := 1) hF xd_MO_atom_13 rfl rfl rfl ?_
  refine xv_iconstN (pc' := 15) 1 hF xd_MO_atom_14 (by decide +kernel) rfl ?_
  refine xv_iastN (pc' := 16) hF (by first | assumption | exact xu_self | (refine (xu_ne (by omega)).trans ?_; first | assumption | exact xu_self | (refine (xu_ne (by omega)).trans ?_; first | assumption | exact xu_self | (refine (xu_ne (by omega)).trans ?_; first | assumption | exact xu_self | (refine (xu_ne (by omega)).trans ?_; first | assumption | exact xu_self))))) (by omega) (by decide) xd_MO_atom_15 rfl ?_
  have r1 := r.so (so_up hso2 (3 * op + 2) 1)
  rw [← eso] at r1
  have f1 : mo_fr p h (xu h (p + 9) (.inl (K.2.2.1 0, 40, .inl (upd sf (3 * op + 2) (nI 1))))) := mo_fr.rf.x (by omega)
  generalize xu h (p + 9) (.inl (K.2.2.1 0, 40, .inl (upd sf (3 * op + 2) (nI 1)))) = h1 at r1 f1 ⊢
  clear ho hs hg hso hba htx hed htg hso2 hba2 htx2 hed2 htg2
  have ho := r1.1
  refine xv_aload_n (pc' := 17) (i := 0) hF xd_MO_atom_16 rfl rfl rfl ?_
  refine xv_callVi (pc' := 20) (ci := 6) hF (c_MO_nowS K n h1 p th ma sz ln at_ 0 op mk tx E Tg S so1 ba r1) xq_MO_now xk_MO_m85 xk_i_MO_now xk_s_MO_now (by first | assumption | exact xu_self | (refine (xu_ne (by omega)).trans ?_; first | assumption | exact xu_self | (refine (xu_ne (by omega)).trans ?_; first | assumption | exact xu_self | (refine (xu_ne (by omega)).trans ?_; first | assumption | exact xu_self | (refine (xu_ne (by omega)).trans ?_; first | assumption | exact xu_self))))) rfl ⟨(Nat.le_of_ble_eq_true rfl), (Nat.le_of_ble_eq_true rfl)⟩ rfl rfl (Nat.le_of_ble_eq_true rfl) ⟨(Nat.le_of_ble_eq_true rfl), (Nat.le_of_ble_eq_true rfl)⟩ xd_MO_atom_17 rfl (fun r2 n2 h2 q2 => ?_)
  obtain ⟨rfl, rfl, rfl⟩ := q2
  have m1 := m256 at_
  refine xv_bipushN (pc' := 22) 91 hF xd_MO_atom_20 (by decide +kernel) rfl ?_
  refine xv_icmp_neN (pc' := 25) (tgt := 31) hF (by omega) (by omega) xd_MO_atom_22 (by decide) rfl (fun e1 => ?_) (fun e1 => ?_)
  · refine xv_aload_n (pc' := 32) (i := 0) hF xd_MO_atom_31 rfl rfl rfl ?_
    refine xv_callVi (pc' := 35) (ci := 6) hF (c_MO_nowS K n h1 p th ma sz ln at_ 0 op mk tx E Tg S so1 ba r1) xq_MO_now xk_MO_m85 xk_i_MO_now xk_s_MO_now (by first | assumption | exact xu_self | (refine (xu_ne (by omega)).trans ?_; first | assumption | exact xu_self | (refine (xu_ne (by omega)).trans ?_; first | assumption | exact xu_self | (refine (xu_ne (by omega)).trans ?_; first | assumption | exact xu_self | (refine (xu_ne (by omega)).trans ?_; first | assumption | exact xu_self))))) rfl ⟨(Nat.le_of_ble_eq_true rfl), (Nat.le_of_ble_eq_true rfl)⟩ rfl rfl (Nat.le_of_ble_eq_true rfl) ⟨(Nat.le_of_ble_eq_true rfl), (Nat.le_of_ble_eq_true rfl)⟩ xd_MO_atom_32 rfl (fun r2 n2 h2 q2 => ?_)
    obtain ⟨rfl, rfl, rfl⟩ := q2
    refine xv_bipushN (pc' := 37) 94 hF xd_MO_atom_35 (by decide +kernel) rfl ?_
    refine xv_icmp_neN (pc' := 40) (tgt := 44) hF (by omega) (by omega) xd_MO_atom_37 (by decide) rfl (fun e2 => ?_) (fun e2 => ?_)
    · have : nt = false := by rw [ent]; exact decide_eq_false e2
      subst this
      have : da = at_ := eda2
      subst this
      refine xv_iconstN (pc' := 45) 0 hF xd_MO_atom_44 (by decide +kernel) rfl ?_
      refine xv_topi (v' := xb false) (by decide +kernel) ?_
      refine xv_istore_n (pc' := 46) (i := 2) hF xd_MO_atom_45 rfl (Nat.le_of_ble_eq_true rfl) rfl rfl ?_
      refine xv_iload_n (pc' := 47) (i := 2) hF xd_MO_atom_46 rfl rfl rfl ?_
      refine xv_if_eqB (pc' := 50) (tgt := 60) hF xd_MO_atom_47 (by decide) rfl (fun e3 => ?_) (fun e3 => ?_)
      · exact xv_loc _ (by repeat (first | exact trivial | refine ⟨rfl, ?_⟩)) (mid h1 f1 r1)
      · cases e3
    · have : nt = true := by rw [ent]; exact decide_eq_true e2
      subst this
      have : da = at_ + 1 := eda2
      subst this
      have bd := (mo_c_in (k := at_) (tx := tx) (ln := ln) (by omega)).1
      refine xv_iconstN (pc' := 41) 1 hF xd_MO_atom_40 (by decide +kernel) rfl ?_
      refine xv_goto (tgt := 45) hF xd_MO_atom_41 (by decide) ?_
      refine xv_topi (v' := xb true) (by decide +kernel) ?_
      refine xv_istore_n (pc' := 46) (i := 2) hF xd_MO_atom_45 rfl (Nat.le_of_ble_eq_true rfl) rfl rfl ?_
      refine xv_iload_n (pc' := 47) (i := 2) hF xd_MO_atom_46 rfl rfl rfl ?_
      refine xv_if_eqB (pc' := 50) (tgt := 60) hF xd_MO_atom_47 (by decide) rfl (fun e3 => ?_) (fun e3 => ?_)
      · cases e3
      · refine xv_aload_n (pc' := 51) (i := 0) hF xd_MO_atom_50 rfl rfl rfl ?_
        refine xv_dup (pc' := 52) hF xd_MO_atom_51 rfl rfl ?_
        refine xv_get (pc' := 55) (ci := 6) hF (by first | assumption | exact xu_self | (refine (xu_ne (by omega)).trans ?_; first | assumption | exact xu_self | (refine (xu_ne (by omega)).trans ?_; first | assumption | exact xu_self | (refine (xu_ne (by omega)).trans ?_; first | assumption | exact xu_self | (refine (xu_ne (by omega)).trans ?_; first | assumption | exact xu_self))))) rfl xu_MO 11 (by decide) xk_MO_f72 (by rfl) xd_MO_atom_52 rfl ?_
        refine xv_iconstN (pc' := 56) 1 hF xd_MO_atom_55 (by decide +kernel) rfl ?_
        first | refine xv_iaddN (pc' := 57) hF xd_MO_atom_56 rfl ?_ | refine xv_iadd (pc' := 57) hF xd_MO_atom_56 rfl ?_
        refine xv_put (pc' := 60) (ci := 6) (ty := xt_MO 11) hF (by first | assumption | exact xu_self | (refine (xu_ne (by omega)).trans ?_; first | assumption | exact xu_self | (refine (xu_ne (by omega)).trans ?_; first | assumption | exact xu_self | (refine (xu_ne (by omega)).trans ?_; first | assumption | exact xu_self | (refine (xu_ne (by omega)).trans ?_; first | assumption | exact xu_self))))) rfl xu_MO xt_MO xo_MO xn_MO 11 (by decide) xk_MO_f72 rfl (by decide +kernel) (by first | rfl | exact xb_nw _ | decide +kernel) (by first | rfl | exact xb_ft _ | decide +kernel) (by exact Nat.le_of_ble_eq_true rfl) (by dsimp only [List.set] <;> rfl) xd_MO_atom_57 rfl ?_
        exact xv_loc _ (by repeat (first | exact trivial | refine ⟨rfl, ?_⟩)) (mid _ (f1.x (by omega)) (r1.ob (mk' := mk) b1 (by omega) (by omega)))
  · exact absurd e1 hat
