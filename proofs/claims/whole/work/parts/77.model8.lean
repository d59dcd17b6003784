/-! the reference: a tag's test -/
def ts_e (ln : Nat) (tx : Nat → Nat) (a : Nat) : Bool := decide (mo_c ln tx (a + 1) = 33)
def ts_d (ln : Nat) (tx : Nat → Nat) (a : Nat) : Nat := if ts_e ln tx a then a + 2 else a + 1
def mo_ts (mk : Bool) (S S' : Nat → Nat → Nat → Nat) (to : Nat) (A : pd_L) : Prop := (∀ t, t < 36 → t ≠ to → S' t = S t) ∧ (mk = true → pd_mn A (S' to))
theorem in4_lo : ∀ a, a < 48 → x_in (nI a - nI 48) 4 = false := by decide +kernel
theorem in4_hi : ∀ a, a < 256 → 48 ≤ a → x_in (nI (a - 48)) 4 = decide (a < 52) := by decide +kernel
theorem xb_eq {a b : Bool} : xb a = xb b ↔ a = b := by cases a <;> cases b <;> decide +kernel
set_option maxHeartbeats 4000000 in
set_option maxRecDepth 100000 in
theorem c_MO_test (K : xK) (n : Nat) (h : xH) (p th ma sz ln at_ f op : Nat) (mk : Bool) (tx : Nat → Nat) (E : Nat → Nat → Nat → Bool) (Tg : Nat → Nat → Bool) (S : Nat → Nat → Nat → Nat) (so : Nat → Nat) (ba : Nat → Bool) (to : Nat) (r : mo_S K h p th ma sz ln at_ 0 op mk tx E Tg (S) (so) (ba)) (hto : to < 36) (hat : mo_c ln tx at_ = 91) (hok : mk = true → 48 ≤ mo_c ln tx (ts_d ln tx at_) ∧ mo_c ln tx (ts_d ln tx at_) < 52) : XM K xy_MO_test xw_MO_test (xrm 2 41 0 0) [.ref p, .int (nI to)] n h (x_pv fun n' h' => n = n' ∧ mo_fr p h h' ∧ ∃ a' f' S', ((f' = 0 ∧ 48 ≤ mo_c ln tx (ts_d ln tx at_) ∧ mo_c ln tx (ts_d ln tx at_) < 52 ∧ mo_c ln tx (ts_d ln tx at_ + 1) = 93 ∧ a' = ts_d ln tx at_ + 2) ∨ (¬ (48 ≤ mo_c ln tx (ts_d ln tx at_) ∧ mo_c ln tx (ts_d ln tx at_) < 52) ∧ f' = ts_d ln tx at_ + 1) ∨ (48 ≤ mo_c ln tx (ts_d ln tx at_) ∧ mo_c ln tx (ts_d ln tx at_) < 52 ∧ mo_c ln tx (ts_d ln tx at_ + 1) ≠ 93 ∧ f' = ts_d ln tx at_ + 2)) ∧ mo_ts mk S S' to (pd_ts (fun i => Tg (mo_c ln tx (ts_d ln tx at_) - 48) i = !ts_e ln tx at_)) ∧ mo_S K h' p th ma sz ln a' f' op mk tx E Tg (S') (so) (ba)) 0 0 := by
  obtain ⟨ho, ⟨g, hs, hg⟩, ⟨sf, hso, hso2⟩, ⟨bf, hba, hba2⟩, ⟨tf, htx, htx2⟩, ⟨ef, hed, hed2⟩, ⟨gf, htg, htg2⟩, b1, b2, b3, b4, b5⟩ := id r
  have m256 := fun k => mo_c_lt (k := k) b5
  have bat := (mo_c_in (k := at_) (tx := tx) (ln := ln) (by omega)).1
  obtain ⟨nt, ent⟩ : ∃ nt, nt = ts_e ln tx at_ := ⟨_, rfl⟩
  obtain ⟨da, eda⟩ : ∃ da, da = ts_d ln tx at_ := ⟨_, rfl⟩
  rw [← ent, ← eda]
  rw [← eda] at hok
  have md := m256 da
  have eda2 : da = if nt then at_ + 2 else at_ + 1 := by rw [eda, ent]; rfl
  refine xm_v (by decide +kernel) (Nat.le_of_ble_eq_true rfl) (fun G hF hR => ?_)
  have fin : ∀ x a' f' h1, mo_fr p h h1 → mo_S K h1 p th ma sz ln a' f' op mk tx E Tg (S) (so) (ba) → (mk = true → x = nI (mo_c ln tx da - 48)) → ((f' = 0 ∧ 48 ≤ mo_c ln tx da ∧ mo_c ln tx da < 52 ∧ mo_c ln tx (da + 1) = 93 ∧ a' = da + 2) ∨ (¬ (48 ≤ mo_c ln tx da ∧ mo_c ln tx da < 52) ∧ f' = da + 1) ∨ (48 ≤ mo_c ln tx da ∧ mo_c ln tx da < 52 ∧ mo_c ln tx (da + 1) ≠ 93 ∧ f' = da + 2)) → XV G 0 0 82 [(3, .int x), (2, .int (xb nt)), (0, .ref p), (1, .int (nI to))] [] n h1 := by
    intro x a' f' h1 f1 r1 hx hc
    clear ho hs hg hso hba htx hed htg hso2 hba2 htx2 hed2 htg2 b2 b3
    obtain ⟨ho, ⟨g, hs, hg⟩, ⟨sf, hso, hso2⟩, ⟨bf, hba, hba2⟩, ⟨tf, htx, htx2⟩, ⟨ef, hed, hed2⟩, ⟨gf, htg, htg2⟩, b1, b2, b3, b4, b5⟩ := id r1
    refine xv_aload_n (pc' := 83) (i := 0) hF xd_MO_test_82 rfl rfl rfl ?_
    refine xv_iload_n (pc' := 84) (i := 1) hF xd_MO_test_83 rfl rfl rfl ?_
    refine xv_iconstN (pc' := 85) 0 hF xd_MO_test_84 (by decide +kernel) rfl ?_
    refine xv_topi (v' := xb false) (by decide +kernel) ?_
    refine xv_callVv (pc' := 88) (ci := 6) hF (c_MO_plain K n h1 p th ma sz ln a' f' op mk to false g S ho hs hg (by omega)) xq_MO_plain xk_MO_m97 xk_i_MO_plain xk_s_MO_plain (by first | assumption | exact xu_self | (refine (xu_ne (by omega)).trans ?_; first | assumption | exact xu_self | (refine (xu_ne (by omega)).trans ?_; first | assumption | exact xu_self | (refine (xu_ne (by omega)).trans ?_; first | assumption | exact xu_self | (refine (xu_ne (by omega)).trans ?_; first | assumption | exact xu_self))))) rfl ⟨(Nat.le_of_ble_eq_true rfl), (Nat.le_of_ble_eq_true rfl)⟩ rfl rfl (Nat.le_of_ble_eq_true rfl) ⟨(Nat.le_of_ble_eq_true rfl), (Nat.le_of_ble_eq_true rfl)⟩ xd_MO_test_85 rfl (fun n2 h2 q2 => ?_)
    obtain ⟨rfl, g2, rfl, hg2⟩ := q2
    refine xv_iconstN (pc' := 89) 0 hF xd_MO_test_88 (by decide +kernel) rfl ?_
    refine xv_istore (pc' := 91) hF xd_MO_test_89 (Nat.le_of_ble_eq_true rfl) rfl rfl ?_
    cases mk with
    | false =>
      have r2 := r1.sq hg2
      clear ho
      have ho := r2.1
      refine xv_aload_n (pc' := 92) (i := 0) hF xd_MO_test_91 rfl rfl rfl ?_
      refine xv_get (pc' := 95) (ci := 6) hF (by first | assumption | exact xu_self | (refine (xu_ne (by omega)).trans ?_; first | assumption | exact xu_self | (refine (xu_ne (by omega)).trans ?_; first | assumption | exact xu_self | (refine (xu_ne (by omega)).trans ?_; first | assumption | exact xu_self | (refine (xu_ne (by omega)).trans ?_; first | assumption | exact xu_self))))) rfl xu_MO 13 (by decide) xk_MO_f92 (by rfl) xd_MO_test_92 rfl ?_
      refine xv_if_eqB (pc' := 98) (tgt := 148) hF xd_MO_test_95 (by decide) rfl (fun e1 => ?_) (fun e1 => ?_)
      · refine hR _ _ _ _ _ _ (by omega) (by omega) ?_ xd_MO_test_148
        exact ⟨rfl, f1.x (by omega), a', f', S, hc, ⟨fun _ _ _ => rfl, fun h => (by cases h)⟩, r2⟩
      · cases e1
    | true =>
      have hx := hx rfl
      obtain ⟨k1, k2⟩ := hok rfl
      subst hx
      have hg3 : sq_is g2 (va_up S to md_no) := hg2
      have loop : ∀ d k g4 X, 32 - k = d → k ≤ 32 → sq_is g4 (va_up S to X) → (∀ i j, i < 32 → j < 32 → X i j = 0 ∨ X i j = 1000000) → (∀ i j, i < 32 → j < 32 → (X i j = 0 ↔ (i = j ∧ i < k ∧ Tg (mo_c ln tx da - 48) i = !nt))) → XV G (0 + 0) (0 + 0) 91 [(4, .int (nI k)), (3, .int (nI (mo_c ln tx da - 48))), (2, .int (xb nt)), (0, .ref p), (1, .int (nI to))] [] n (xu h1 (p + 8) (.inl (K.2.2.1 0, 40960, .inl g4))) := by
        intro d
        induction d using Nat.strongRecOn with
        | ind d ih =>
          intro k g4 X hd hk hg4 hX hX2
          have r4 := r1.sq hg4
          refine xv_aload_n (pc' := 92) (i := 0) hF xd_MO_test_91 rfl rfl rfl ?_
          refine xv_get (pc' := 95) (ci := 6) hF (by first | assumption | exact xu_self | (refine (xu_ne (by omega)).trans ?_; first | assumption | exact xu_self | (refine (xu_ne (by omega)).trans ?_; first | assumption | exact xu_self | (refine (xu_ne (by omega)).trans ?_; first | assumption | exact xu_self | (refine (xu_ne (by omega)).trans ?_; first | assumption | exact xu_self))))) rfl xu_MO 13 (by decide) xk_MO_f92 (by rfl) xd_MO_test_92 rfl ?_
          refine xv_if_eqB (pc' := 98) (tgt := 148) hF xd_MO_test_95 (by decide) rfl (fun e1 => ?_) (fun e1 => ?_)
          · cases e1
          · refine xv_iload (pc' := 100) hF xd_MO_test_98 rfl rfl ?_
            refine xv_bipushN (pc' := 102) 32 hF xd_MO_test_100 (by decide +kernel) rfl ?_
            refine xv_icmp_geN (pc' := 105) (tgt := 148) hF (by omega) (by omega) xd_MO_test_102 (by decide) rfl (fun e2 => ?_) (fun e2 => ?_)
            · have : k = 32 := by omega
              subst this
              refine hR _ _ _ _ _ _ (by omega) (by omega) ?_ xd_MO_test_148
              refine ⟨rfl, f1.x (by omega), a', f', _, hc, ⟨fun t _ hne => va_n hne, fun _ => ?_⟩, r4⟩
              rw [va_s]
              refine pd_mn_ts fun i j hi hj => ⟨fun h => (hX2 i j hi hj).mpr ⟨h.1, hi, h.2⟩, fun h => ?_⟩
              rcases hX i j hi hj with h5 | h5
              · have := (hX2 i j hi hj).mp h5
                exact absurd ⟨this.1, this.2.2⟩ h
              · exact h5
            · have nx : ∀ v, (v = 0 ∨ v = 1000000) → (v = 0 ↔ Tg (mo_c ln tx da - 48) k = !nt) → XV G (0 + 0) (0 + 0) 141 [(4, .int (nI k)), (3, .int (nI (mo_c ln tx da - 48))), (2, .int (xb nt)), (0, .ref p), (1, .int (nI to))] [.int (nI v), .int (nI (1024 * to + k * 33)), .ref (p + 8)] n (xu h1 (p + 8) (.inl (K.2.2.1 0, 40960, .inl g4))) := by
                intro v hv hv2
                refine xv_iastN (pc' := 142) hF (by first | assumption | exact xu_self | (refine (xu_ne (by omega)).trans ?_; first | assumption | exact xu_self | (refine (xu_ne (by omega)).trans ?_; first | assumption | exact xu_self | (refine (xu_ne (by omega)).trans ?_; first | assumption | exact xu_self | (refine (xu_ne (by omega)).trans ?_; first | assumption | exact xu_self))))) (by omega) (by decide) xd_MO_test_141 rfl ?_
                first | refine xv_iincN (pc' := 145) hF xd_MO_test_142 rfl rfl (Nat.le_of_ble_eq_true rfl) rfl rfl ?_ | refine xv_iinc (pc' := 145) hF xd_MO_test_142 rfl rfl (Nat.le_of_ble_eq_true rfl) rfl rfl ?_
                refine xv_goto (tgt := 91) hF xd_MO_test_145 (by decide) ?_
                rw [xu_xu]
                have s1 := sq_set hg4 (t := to) (i := k) (j := k) (v := v) (by omega) e2 e2 (by omega)
                rw [show 1024 * to + 32 * k + k = 1024 * to + k * 33 by omega, va_s] at s1
                refine xv_loc _ (by repeat (first | exact trivial | refine ⟨rfl, ?_⟩)) (ih _ (by omega) (k + 1) _ (md_set X k k v) rfl (by omega) (s1.congr fun s a b hs ha hb => ?_) (fun i j hi hj => ?_) (fun i j hi hj => ?_))
                · by_cases c : s = to
                  · subst c; rw [va_s, va_s]
                  · rw [va_n c, va_n c, va_n c]
                · by_cases c : i = k ∧ j = k
                  · rw [c.1, c.2, md_set_s]; exact hv
                  · rw [md_set_n c]; exact hX i j hi hj
                · by_cases c : i = k ∧ j = k
                  · obtain ⟨rfl, rfl⟩ := c
                    rw [md_set_s, hv2]
                    exact ⟨fun h => ⟨rfl, by omega, h⟩, fun h => h.2.2⟩
                  · rw [md_set_n c, hX2 i j hi hj]
                    exact ⟨fun h => ⟨h.1, by omega, h.2.2⟩, fun h => ⟨h.1, by omega, h.2.2⟩⟩
              refine xv_aload_n (pc' := 106) (i := 0) hF xd_MO_test_105 rfl rfl rfl ?_
              refine xv_get (pc' := 109) (ci := 6) hF (by first | assumption | exact xu_self | (refine (xu_ne (by omega)).trans ?_; first | assumption | exact xu_self | (refine (xu_ne (by omega)).trans ?_; first | assumption | exact xu_self | (refine (xu_ne (by omega)).trans ?_; first | assumption | exact xu_self | (refine (xu_ne (by omega)).trans ?_; first | assumption | exact xu_self))))) rfl xu_MO 14 (by decide) xk_MO_f33 (by rfl) xd_MO_test_106 rfl ?_
              refine xv_sipushN (pc' := 112) 1024 hF xd_MO_test_109 (by decide +kernel) rfl ?_
              refine xv_iload_n (pc' := 113) (i := 1) hF xd_MO_test_112 rfl rfl rfl ?_
              first | refine xv_imulN (pc' := 114) hF xd_MO_test_113 rfl ?_ | refine xv_imul (pc' := 114) hF xd_MO_test_113 rfl ?_
              refine xv_iload (pc' := 116) hF xd_MO_test_114 rfl rfl ?_
              refine xv_bipushN (pc' := 118) 33 hF xd_MO_test_116 (by decide +kernel) rfl ?_
              first | refine xv_imulN (pc' := 119) hF xd_MO_test_118 rfl ?_ | refine xv_imul (pc' := 119) hF xd_MO_test_118 rfl ?_
              first | refine xv_iaddN (pc' := 120) hF xd_MO_test_119 rfl ?_ | refine xv_iadd (pc' := 120) hF xd_MO_test_119 rfl ?_
              refine xv_aload_n (pc' := 121) (i := 0) hF xd_MO_test_120 rfl rfl rfl ?_
              refine xv_get (pc' := 124) (ci := 6) hF (by first | assumption | exact xu_self | (refine (xu_ne (by omega)).trans ?_; first | assumption | exact xu_self | (refine (xu_ne (by omega)).trans ?_; first | assumption | exact xu_self | (refine (xu_ne (by omega)).trans ?_; first | assumption | exact xu_self | (refine (xu_ne (by omega)).trans ?_; first | assumption | exact xu_self))))) rfl xu_MO 2 (by decide) xk_MO_f13 (by rfl) xd_MO_test_121 rfl ?_
              refine xv_iconstN (pc' := 125) 4 hF xd_MO_test_124 (by decide +kernel) rfl ?_
              refine xv_iload (pc' := 127) hF xd_MO_test_125 rfl rfl ?_
              first | refine xv_imulN (pc' := 128) hF xd_MO_test_127 rfl ?_ | refine xv_imul (pc' := 128) hF xd_MO_test_127 rfl ?_
              refine xv_iload_n (pc' := 129) (i := 3) hF xd_MO_test_128 rfl rfl rfl ?_
              first | refine xv_iaddN (pc' := 130) hF xd_MO_test_129 rfl ?_ | refine xv_iadd (pc' := 130) hF xd_MO_test_129 rfl ?_
              refine xv_zaldN (pc' := 131) hF (by first | assumption | exact xu_self | (refine (xu_ne (by omega)).trans ?_; first | assumption | exact xu_self | (refine (xu_ne (by omega)).trans ?_; first | assumption | exact xu_self | (refine (xu_ne (by omega)).trans ?_; first | assumption | exact xu_self | (refine (xu_ne (by omega)).trans ?_; first | assumption | exact xu_self))))) (by omega) (by decide) xd_MO_test_130 rfl ?_
              refine xv_topi (htg2 (mo_c ln tx da - 48) k (by omega) e2) ?_
              refine xv_iload_n (pc' := 132) (i := 2) hF xd_MO_test_131 rfl rfl rfl ?_
              refine xv_icmp_eq (pc' := 135) (tgt := 139) hF xd_MO_test_132 (by decide) rfl (fun e3 => ?_) (fun e3 => ?_)
              · rw [xb_eq] at e3
                refine xv_ldc (pc' := 141) hF xk_MO_k96 xd_MO_test_139 rfl ?_
                refine xv_topi (v' := nI 1000000) (by decide +kernel) ?_
                exact xv_loc _ (by repeat (first | exact trivial | refine ⟨rfl, ?_⟩)) (nx 1000000 (Or.inr rfl) ⟨fun h => by omega, fun h => by rw [e3] at h; cases nt <;> cases h⟩)
              · rw [xb_eq] at e3
                refine xv_iconstN (pc' := 136) 0 hF xd_MO_test_135 (by decide +kernel) rfl ?_
                refine xv_goto (tgt := 141) hF xd_MO_test_136 (by decide) ?_
                exact xv_loc _ (by repeat (first | exact trivial | refine ⟨rfl, ?_⟩)) (nx 0 (Or.inl rfl) ⟨fun _ => by revert e3; cases nt <;> cases Tg (mo_c ln tx da - 48) k <;> simp, fun _ => rfl⟩)
      refine xv_loc _ (by repeat (first | exact trivial | refine ⟨rfl, ?_⟩)) (loop 32 0 g2 md_no (by omega) (by omega) hg3 (fun i j _ _ => Or.inr rfl) (fun i j _ _ => ⟨fun h => ?_, fun h => by omega⟩))
      have h : (1000000 : Nat) = 0 := h
      omega
  have aft : ∀ x f' a' h1, mo_fr p h h1 → mo_S K h1 p th ma sz ln a' f' op mk tx E Tg (S) (so) (ba) → ((f' = 0 ∧ 48 ≤ mo_c ln tx da ∧ mo_c ln tx da < 52 ∧ a' = da + 1 ∧ x = nI (mo_c ln tx da - 48)) ∨ (¬ (48 ≤ mo_c ln tx da ∧ mo_c ln tx da < 52) ∧ f' = da + 1)) → XV G 0 0 76 [(3, .int x), (2, .int (xb nt)), (0, .ref p), (1, .int (nI to))] [] n h1 := by
    intro x f' a' h1 f1 r1 hc
    clear ho hs hg hso hba htx hed htg hso2 hba2 htx2 hed2 htg2 b2 b3
    have ho := r1.1
    refine xv_aload_n (pc' := 77) (i := 0) hF xd_MO_test_76 rfl rfl rfl ?_
    refine xv_bipushN (pc' := 79) 93 hF xd_MO_test_77 (by decide +kernel) rfl ?_
    refine xv_callVv (pc' := 82) (ci := 6) hF (c_MO_must K n h1 p th ma sz ln a' f' op mk tx E Tg S so ba 93 r1 (by decide) (by decide)) xq_MO_must xk_MO_m143 xk_i_MO_must xk_s_MO_must (by first | assumption | exact xu_self | (refine (xu_ne (by omega)).trans ?_; first | assumption | exact xu_self | (refine (xu_ne (by omega)).trans ?_; first | assumption | exact xu_self | (refine (xu_ne (by omega)).trans ?_; first | assumption | exact xu_self | (refine (xu_ne (by omega)).trans ?_; first | assumption | exact xu_self))))) rfl ⟨(Nat.le_of_ble_eq_true rfl), (Nat.le_of_ble_eq_true rfl)⟩ rfl rfl (Nat.le_of_ble_eq_true rfl) ⟨(Nat.le_of_ble_eq_true rfl), (Nat.le_of_ble_eq_true rfl)⟩ xd_MO_test_79 rfl (fun n4 h4 q4 => ?_)
    obtain ⟨rfl, f4, q4⟩ := q4
    rcases q4 with ⟨h5, r4⟩ | ⟨h5, h6, r4⟩ | ⟨h5, h6, r4⟩
    · rcases hc with ⟨h7, -⟩ | ⟨h7, h8⟩
      · exact absurd h7 h5
      · exact xv_loc _ (by repeat (first | exact trivial | refine ⟨rfl, ?_⟩)) (fin x a' f' h4 (f1.tr f4) r4 (fun hm => absurd (hok hm) h7) (Or.inr (Or.inl ⟨h7, h8⟩)))
    · rcases hc with ⟨-, k1, k2, k3, k4⟩ | ⟨-, h8⟩
      · subst k3 h5
        exact xv_loc _ (by repeat (first | exact trivial | refine ⟨rfl, ?_⟩)) (fin x (da + 1 + 1) 0 h4 (f1.tr f4) r4 (fun _ => k4) (Or.inl ⟨rfl, k1, k2, h6, rfl⟩))
      · omega
    · rcases hc with ⟨-, k1, k2, k3, k4⟩ | ⟨-, h8⟩
      · subst k3
        exact xv_loc _ (by repeat (first | exact trivial | refine ⟨rfl, ?_⟩)) (fin x (da + 1) (da + 1 + 1) h4 (f1.tr f4) r4 (fun _ => k4) (Or.inr (Or.inr ⟨k1, k2, h6, rfl⟩)))
      · omega
  have mid : ∀ h1, mo_fr p h h1 → mo_S K h1 p th ma sz ln da 0 op mk tx E Tg (S) (so) (ba) → XV G 0 0 39 [(2, .int (xb nt)), (0, .ref p), (1, .int (nI to))] [] n h1 := by
    intro h1 f1 r1
    clear ho hs hg hso hba htx hed htg hso2 hba2 htx2 hed2 htg2 b2 b3
    have ho := r1.1
    obtain ⟨-, b2, b3, -⟩ := id r1.2.2.2.2.2.2.2
    have bad : ∀ x, ¬ (48 ≤ mo_c ln tx da ∧ mo_c ln tx da < 52) → XV G (0 + 0 + 0) (0 + 0 + 0) 55 [(3, .int x), (2, .int (xb nt)), (0, .ref p), (1, .int (nI to))] [] n h1 := by
      intro x hb
      refine xv_aload_n (pc' := 56) (i := 0) hF xd_MO_test_55 rfl rfl rfl ?_
      refine xv_callVv (pc' := 59) (ci := 6) hF (c_MO_fail K n h1 p th ma sz ln da 0 op mk ho (by omega)) xq_MO_fail xk_MO_m89 xk_i_MO_fail xk_s_MO_fail (by first | assumption | exact xu_self | (refine (xu_ne (by omega)).trans ?_; first | assumption | exact xu_self | (refine (xu_ne (by omega)).trans ?_; first | assumption | exact xu_self | (refine (xu_ne (by omega)).trans ?_; first | assumption | exact xu_self | (refine (xu_ne (by omega)).trans ?_; first | assumption | exact xu_self))))) rfl ⟨(Nat.le_of_ble_eq_true rfl), (Nat.le_of_ble_eq_true rfl)⟩ rfl rfl (Nat.le_of_ble_eq_true rfl) ⟨(Nat.le_of_ble_eq_true rfl), (Nat.le_of_ble_eq_true rfl)⟩ xd_MO_test_56 rfl (fun n2 h2 q2 => ?_)
      obtain ⟨rfl, rfl⟩ := q2
      rw [if_pos rfl]
      refine xv_aload_n (pc' := 60) (i := 0) hF xd_MO_test_59 rfl rfl rfl ?_
      refine xv_callVi (pc' := 63) (ci := 6) hF (c_MO_goes K n _ p th ma sz ln da (da + 1) op mk xu_self (by omega)) xq_MO_goes xk_MO_m81 xk_i_MO_goes xk_s_MO_goes (by first | assumption | exact xu_self | (refine (xu_ne (by omega)).trans ?_; first | assumption | exact xu_self | (refine (xu_ne (by omega)).trans ?_; first | assumption | exact xu_self | (refine (xu_ne (by omega)).trans ?_; first | assumption | exact xu_self | (refine (xu_ne (by omega)).trans ?_; first | assumption | exact xu_self))))) rfl ⟨(Nat.le_of_ble_eq_true rfl), (Nat.le_of_ble_eq_true rfl)⟩ rfl rfl (Nat.le_of_ble_eq_true rfl) ⟨(Nat.le_of_ble_eq_true rfl), (Nat.le_of_ble_eq_true rfl)⟩ xd_MO_test_60 rfl (fun r2 n2 h2 q2 => ?_)
      obtain ⟨rfl, rfl, rfl⟩ := q2
      rw [decide_eq_false (Nat.succ_ne_zero da)]
      refine xv_if_eqB (pc' := 66) (tgt := 76) hF xd_MO_test_63 (by decide) rfl (fun e1 => ?_) (fun e1 => ?_)
      · exact xv_loc _ (by repeat (first | exact trivial | refine ⟨rfl, ?_⟩)) (aft x (da + 1) da _ (f1.x (by omega)) (r1.ob (mk' := mk) b1 (by omega) b3) (Or.inr ⟨hb, rfl⟩))
      · cases e1
    refine xv_aload_n (pc' := 40) (i := 0) hF xd_MO_test_39 rfl rfl rfl ?_
    refine xv_callVi (pc' := 43) (ci := 6) hF (c_MO_nowS K n h1 p th ma sz ln da 0 op mk tx E Tg S so ba r1) xq_MO_now xk_MO_m85 xk_i_MO_now xk_s_MO_now (by first | assumption | exact xu_self | (refine (xu_ne (by omega)).trans ?_; first | assumption | exact xu_self | (refine (xu_ne (by omega)).trans ?_; first | assumption | exact xu_self | (refine (xu_ne (by omega)).trans ?_; first | assumption | exact xu_self | (refine (xu_ne (by omega)).trans ?_; first | assumption | exact xu_self))))) rfl ⟨(Nat.le_of_ble_eq_true rfl), (Nat.le_of_ble_eq_true rfl)⟩ rfl rfl (Nat.le_of_ble_eq_true rfl) ⟨(Nat.le_of_ble_eq_true rfl), (Nat.le_of_ble_eq_true rfl)⟩ xd_MO_test_40 rfl (fun r2 n2 h2 q2 => ?_)
    obtain ⟨rfl, rfl, rfl⟩ := q2
    by_cases c48 : 48 ≤ mo_c ln tx da
    · refine xv_bipushN (pc' := 45) 48 hF xd_MO_test_43 (by decide +kernel) rfl ?_
      first | refine xv_isubN (pc' := 46) hF (by omega) xd_MO_test_45 rfl ?_ | refine xv_isub (pc' := 46) hF xd_MO_test_45 rfl ?_
      refine xv_istore_n (pc' := 47) (i := 3) hF xd_MO_test_46 rfl (Nat.le_of_ble_eq_true rfl) rfl rfl ?_
      refine xv_iload_n (pc' := 48) (i := 3) hF xd_MO_test_47 rfl rfl rfl ?_
      refine xv_iconstN (pc' := 49) 4 hF xd_MO_test_48 (by decide +kernel) rfl ?_
      refine xv_callSi (pc' := 52) hF (c_MO_in K n h1 _ 4) xq_MO_in xk_MO_m52 xk_t_MO_in ⟨(Nat.le_of_ble_eq_true rfl), (Nat.le_of_ble_eq_true rfl)⟩ rfl rfl (Nat.le_of_ble_eq_true rfl) ⟨(Nat.le_of_ble_eq_true rfl), (Nat.le_of_ble_eq_true rfl)⟩ xd_MO_test_49 rfl (fun r2 n2 h2 q2 => ?_)
      obtain ⟨rfl, rfl, rfl⟩ := q2
      rw [in4_hi _ md c48]
      refine xv_if_neB (pc' := 55) (tgt := 59) hF xd_MO_test_52 (by decide) rfl (fun e1 => ?_) (fun e1 => ?_)
      · have e1 := of_decide_eq_true e1
        have bd := (mo_c_in (k := da) (tx := tx) (ln := ln) (by omega)).1
        refine xv_aload_n (pc' := 60) (i := 0) hF xd_MO_test_59 rfl rfl rfl ?_
        refine xv_callVi (pc' := 63) (ci := 6) hF (c_MO_goes K n h1 p th ma sz ln da 0 op mk ho (by omega)) xq_MO_goes xk_MO_m81 xk_i_MO_goes xk_s_MO_goes (by first | assumption | exact xu_self | (refine (xu_ne (by omega)).trans ?_; first | assumption | exact xu_self | (refine (xu_ne (by omega)).trans ?_; first | assumption | exact xu_self | (refine (xu_ne (by omega)).trans ?_; first | assumption | exact xu_self | (refine (xu_ne (by omega)).trans ?_; first | assumption | exact xu_self))))) rfl ⟨(Nat.le_of_ble_eq_true rfl), (Nat.le_of_ble_eq_true rfl)⟩ rfl rfl (Nat.le_of_ble_eq_true rfl) ⟨(Nat.le_of_ble_eq_true rfl), (Nat.le_of_ble_eq_true rfl)⟩ xd_MO_test_60 rfl (fun r2 n2 h2 q2 => ?_)
        obtain ⟨rfl, rfl, rfl⟩ := q2
        rw [decide_eq_true rfl]
        refine xv_if_eqB (pc' := 66) (tgt := 76) hF xd_MO_test_63 (by decide) rfl (fun e2 => ?_) (fun e2 => ?_)
        · cases e2
        · refine xv_aload_n (pc' := 67) (i := 0) hF xd_MO_test_66 rfl rfl rfl ?_
          refine xv_dup (pc' := 68) hF xd_MO_test_67 rfl rfl ?_
          refine xv_get (pc' := 71) (ci := 6) hF (by first | assumption | exact xu_self | (refine (xu_ne (by omega)).trans ?_; first | assumption | exact xu_self | (refine (xu_ne (by omega)).trans ?_; first | assumption | exact xu_self | (refine (xu_ne (by omega)).trans ?_; first | assumption | exact xu_self | (refine (xu_ne (by omega)).trans ?_; first | assumption | exact xu_self))))) rfl xu_MO 11 (by decide) xk_MO_f72 (by rfl) xd_MO_test_68 rfl ?_
          refine xv_iconstN (pc' := 72) 1 hF xd_MO_test_71 (by decide +kernel) rfl ?_
          first | refine xv_iaddN (pc' := 73) hF xd_MO_test_72 rfl ?_ | refine xv_iadd (pc' := 73) hF xd_MO_test_72 rfl ?_
          refine xv_put (pc' := 76) (ci := 6) (ty := xt_MO 11) hF (by first | assumption | exact xu_self | (refine (xu_ne (by omega)).trans ?_; first | assumption | exact xu_self | (refine (xu_ne (by omega)).trans ?_; first | assumption | exact xu_self | (refine (xu_ne (by omega)).trans ?_; first | assumption | exact xu_self | (refine (xu_ne (by omega)).trans ?_; first | assumption | exact xu_self))))) rfl xu_MO xt_MO xo_MO xn_MO 11 (by decide) xk_MO_f72 rfl (by decide +kernel) (by first | rfl | exact xb_nw _ | decide +kernel) (by first | rfl | exact xb_ft _ | decide +kernel) (by exact Nat.le_of_ble_eq_true rfl) (by dsimp only [List.set] <;> rfl) xd_MO_test_73 rfl ?_
          exact xv_loc _ (by repeat (first | exact trivial | refine ⟨rfl, ?_⟩)) (aft _ 0 (da + 1) _ (f1.x (by omega)) (r1.ob (mk' := mk) b1 (by omega) (by omega)) (Or.inl ⟨rfl, c48, e1, rfl, rfl⟩))
      · have e1 := of_decide_eq_false e1
        exact xv_loc _ (by repeat (first | exact trivial | refine ⟨rfl, ?_⟩)) (bad _ (by omega))
    · refine xv_bipushN (pc' := 45) 48 hF xd_MO_test_43 (by decide +kernel) rfl ?_
      first | refine xv_isubN (pc' := 46) hF (by omega) xd_MO_test_45 rfl ?_ | refine xv_isub (pc' := 46) hF xd_MO_test_45 rfl ?_
      refine xv_istore_n (pc' := 47) (i := 3) hF xd_MO_test_46 rfl (Nat.le_of_ble_eq_true rfl) rfl rfl ?_
      refine xv_iload_n (pc' := 48) (i := 3) hF xd_MO_test_47 rfl rfl rfl ?_
      refine xv_iconstN (pc' := 49) 4 hF xd_MO_test_48 (by decide +kernel) rfl ?_
      refine xv_callSi (pc' := 52) hF (c_MO_in K n h1 _ 4) xq_MO_in xk_MO_m52 xk_t_MO_in ⟨(Nat.le_of_ble_eq_true rfl), (Nat.le_of_ble_eq_true rfl)⟩ rfl rfl (Nat.le_of_ble_eq_true rfl) ⟨(Nat.le_of_ble_eq_true rfl), (Nat.le_of_ble_eq_true rfl)⟩ xd_MO_test_49 rfl (fun r2 n2 h2 q2 => ?_)
      obtain ⟨rfl, rfl, rfl⟩ := q2
      rw [in4_lo _ (by omega)]
      refine xv_if_neB (pc' := 55) (tgt := 59) hF xd_MO_test_52 (by decide) rfl (fun e1 => ?_) (fun e1 => ?_)
      · cases e1
      · exact xv_loc _ (by repeat (first | exact trivial | refine ⟨rfl, ?_⟩)) (bad _ (by omega))
  refine xv_aload_n (pc' := 1) (i := 0) hF xd_MO_test_0 rfl rfl rfl ?_
  refine xv_dup (pc' := 2) hF xd_MO_test_1 rfl rfl ?_
  refine xv_get (pc' := 5) (ci := 6) hF (by first | assumption | exact xu_self | (refine (xu_ne (by omega)).trans ?_; first | assumption | exact xu_self | (refine (xu_ne (by omega)).trans ?_; first | assumption | exact xu_self | (refine (xu_ne (by omega)).trans ?_; first | assumption | exact xu_self | (refine (xu_ne (by omega)).trans ?_; first | assumption | exact xu_self))))) rfl xu_MO 11 (by decide) xk_MO_f72 (by rfl) xd_MO_test_2 rfl ?_
  refine xv_iconstN (pc' := 6) 1 hF xd_MO_test_5 (by decide +kernel) rfl ?_
  first | refine xv_iaddN (pc' := 7) hF xd_MO_test_6 rfl ?_ | refine xv_iadd (pc' := 7) hF xd_MO_test_6 rfl ?_
  refine xv_put (pc' := 10) (ci := 6) (ty := xt_MO 11) hF (by first | assumption | exact xu_self | (refine (xu_ne (by omega)).trans ?_; first | assumption | exact xu_self | (refine (xu_ne (by omega)).trans ?_; first | assumption | exact xu_self | (refine (xu_ne (by omega)).trans ?_; first | assumption | exact xu_self | (refine (xu_ne (by omega)).trans ?_; first | assumption | exact xu_self))))) rfl xu_MO xt_MO xo_MO xn_MO 11 (by decide) xk_MO_f72 rfl (by decide +kernel) (by first | rfl | exact xb_nw _ | decide +kernel) (by first | rfl | exact xb_ft _ | decide +kernel) (by exact Nat.le_of_ble_eq_true rfl) (by dsimp only [List.set] <;> rfl) xd_MO_test_7 rfl ?_
  have r1 := r.ob (th' := th) (at' := at_ + 1) (f' := 0) (op' := op) (mk' := mk) b1 (by omega) (by omega)
  have f1 : mo_fr p h (xu h p (.inr (6, [.int (nI th), .ref (p + 1), .ref (p + 2), .int (nI ma), .ref (p + 3), .int (nI sz), .ref (p + 4), .ref (p + 5), .ref (p + 6), .ref (p + 7), .int (nI ln), .int (nI (at_ + 1)), .int (xm1 0), .int (xb mk), .ref (p + 8), .ref (p + 9), .ref (p + 10), .int (nI op), .ref (p + 11), .ref (p + 12)]))) := mo_fr.rf.x (by omega)
  generalize xu h p (.inr (6, [.int (nI th), .ref (p + 1), .ref (p + 2), .int (nI ma), .ref (p + 3), .int (nI sz), .ref (p + 4), .ref (p + 5), .ref (p + 6), .ref (p + 7), .int (nI ln), .int (nI (at_ + 1)), .int (xm1 0), .int (xb mk), .ref (p + 8), .ref (p + 9), .ref (p + 10), .int (nI op), .ref (p + 11), .ref (p + 12)])) = h1 at r1 f1 ⊢
  clear ho hs hg hso hba htx hed htg hso2 hba2 htx2 hed2 htg2
  have ho := r1.1
  refine xv_aload_n (pc' := 11) (i := 0) hF xd_MO_test_10 rfl rfl rfl ?_
  refine xv_callVi (pc' := 14) (ci := 6) hF (c_MO_nowS K n h1 p th ma sz ln (at_ + 1) 0 op mk tx E Tg S so ba r1) xq_MO_now xk_MO_m85 xk_i_MO_now xk_s_MO_now (by first | assumption | exact xu_self | (refine (xu_ne (by omega)).trans ?_; first | assumption | exact xu_self | (refine (xu_ne (by omega)).trans ?_; first | assumption | exact xu_self | (refine (xu_ne (by omega)).trans ?_; first | assumption | exact xu_self | (refine (xu_ne (by omega)).trans ?_; first | assumption | exact xu_self))))) rfl ⟨(Nat.le_of_ble_eq_true rfl), (Nat.le_of_ble_eq_true rfl)⟩ rfl rfl (Nat.le_of_ble_eq_true rfl) ⟨(Nat.le_of_ble_eq_true rfl), (Nat.le_of_ble_eq_true rfl)⟩ xd_MO_test_11 rfl (fun r2 n2 h2 q2 => ?_)
  obtain ⟨rfl, rfl, rfl⟩ := q2
  have m1 := m256 (at_ + 1)
  refine xv_bipushN (pc' := 16) 33 hF xd_MO_test_14 (by decide +kernel) rfl ?_
  refine xv_icmp_neN (pc' := 19) (tgt := 23) hF (by omega) (by omega) xd_MO_test_16 (by decide) rfl (fun e1 => ?_) (fun e1 => ?_)
  · have : nt = false := by rw [ent]; exact decide_eq_false e1
    subst this
    have : da = at_ + 1 := eda2
    subst this
    refine xv_iconstN (pc' := 24) 0 hF xd_MO_test_23 (by decide +kernel) rfl ?_
    refine xv_topi (v' := xb false) (by decide +kernel) ?_
    refine xv_istore_n (pc' := 25) (i := 2) hF xd_MO_test_24 rfl (Nat.le_of_ble_eq_true rfl) rfl rfl ?_
    refine xv_iload_n (pc' := 26) (i := 2) hF xd_MO_test_25 rfl rfl rfl ?_
    refine xv_if_eqB (pc' := 29) (tgt := 39) hF xd_MO_test_26 (by decide) rfl (fun e2 => ?_) (fun e2 => ?_)
    · exact xv_loc _ (by repeat (first | exact trivial | refine ⟨rfl, ?_⟩)) (mid h1 f1 r1)
    · cases e2
  · have : nt = true := by rw [ent]; exact decide_eq_true e1
    subst this
    have : da = at_ + 2 := eda2
    subst this
    have bd := (mo_c_in (k := at_ + 1) (tx := tx) (ln := ln) (by omega)).1
    refine xv_iconstN (pc' := 20) 1 hF xd_MO_test_19 (by decide +kernel) rfl ?_
    refine xv_goto (tgt := 24) hF xd_MO_test_20 (by decide) ?_
    refine xv_topi (v' := xb true) (by decide +kernel) ?_
    refine xv_istore_n (pc' := 25) (i := 2) hF xd_MO_test_24 rfl (Nat.le_of_ble_eq_true rfl) rfl rfl ?_
    refine xv_iload_n (pc' := 26) (i := 2) hF xd_MO_test_25 rfl rfl rfl ?_
    refine xv_if_eqB (pc' := 29) (tgt := 39) hF xd_MO_test_26 (by decide) rfl (fun e2 => ?_) (fun e2 => ?_)
    · cases e2
    · refine xv_aload_n (pc' := 30) (i := 0) hF xd_MO_test_29 rfl rfl rfl ?_
      refine xv_dup (pc' := 31) hF xd_MO_test_30 rfl rfl ?_
      refine xv_get (pc' := 34) (ci := 6) hF (by first | assumption | exact xu_self | (refine (xu_ne (by omega)).trans ?_; first | assumption | exact xu_self | (refine (xu_ne (by omega)).trans ?_; first | assumption | exact xu_self | (refine (xu_ne (by omega)).trans ?_; first | assumption | exact xu_self | (refine (xu_ne (by omega)).trans ?_; first | assumption | exact xu_self))))) rfl xu_MO 11 (by decide) xk_MO_f72 (by rfl) xd_MO_test_31 rfl ?_
      refine xv_iconstN (pc' := 35) 1 hF xd_MO_test_34 (by decide +kernel) rfl ?_
      first | refine xv_iaddN (pc' := 36) hF xd_MO_test_35 rfl ?_ | refine xv_iadd (pc' := 36) hF xd_MO_test_35 rfl ?_
      refine xv_put (pc' := 39) (ci := 6) (ty := xt_MO 11) hF (by first | assumption | exact xu_self | (refine (xu_ne (by omega)).trans ?_; first | assumption | exact xu_self | (refine (xu_ne (by omega)).trans ?_; first | assumption | exact xu_self | (refine (xu_ne (by omega)).trans ?_; first | assumption | exact xu_self | (refine (xu_ne (by omega)).trans ?_; first | assumption | exact xu_self))))) rfl xu_MO xt_MO xo_MO xn_MO 11 (by decide) xk_MO_f72 rfl (by decide +kernel) (by first | rfl | exact xb_nw _ | decide +kernel) (by first | rfl | exact xb_ft _ | decide +kernel) (by exact Nat.le_of_ble_eq_true rfl) (by dsimp only [List.set] <;> rfl) xd_MO_test_36 rfl ?_
      exact xv_loc _ (by repeat (first | exact trivial | refine ⟨rfl, ?_⟩)) (mid _ (f1.x (by omega)) (r1.ob (mk' := mk) b1 (by omega) (by omega)))
