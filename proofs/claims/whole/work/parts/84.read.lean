/-! the reference: a text -/
theorem rp_er_id {q : rs_T} (h : q.2.2.1 = false) : rp_er q = q := by
  obtain ⟨st, op, ir, rs, le, mo, en, os⟩ := q
  dsimp only at h
  subst h
  rfl
def rd_fin (E : Nat → Nat → Nat → Bool) (Tg : Nat → Nat → Bool) (mk : Bool) (ln : Nat) (tx : Nat → Nat) (q0 : rs_T) (S : Nat → Nat → Nat → Nat) (so : Nat → Nat) (f : Nat) : Prop := (f ≠ 0 ∧ rd_bad ln tx q0 f) ∨ (f = 0 ∧ ∃ q, rp_run tx q0 ln = some q ∧ q.1 = 0 ∧ q.2.1 = 0 ∧ (rp_ew q).2.2.2.2.2.2.1 0 = min (so 0) 81 ∧ so 0 ≤ 100000 ∧ (mk = true → pd_mn (oA E Tg (rp_ew q).2.2.2.2.2.2.2 0) (S 0)))
set_option maxHeartbeats 4000000 in
set_option maxRecDepth 100000 in
theorem c_MO_read (K : xK) (n : Nat) (h : xH) (p th ma sz ln at_ f op : Nat) (mk : Bool) (tx : Nat → Nat) (E : Nat → Nat → Nat → Bool) (Tg : Nat → Nat → Bool) (S : Nat → Nat → Nat → Nat) (so : Nat → Nat) (ba : Nat → Bool) (q0 q1 : rs_T) (r : mo_S K h p th ma sz ln at_ 0 op mk tx E Tg (S) (so) (ba)) (hrun : rp_run tx q0 at_ = some q1) (hst : q1.1 = 0) (hti : ti_R E Tg mk S so ba op at_ (rp_er q1)) (hsg : q1.2.2.1 = true → ¬ sg (mo_c ln tx at_)) (hgood : mk = true → ∀ x, ¬ rd_bad ln tx q0 x) : XM K xy_MO_read xw_MO_read (xrm 6 116 0 0) [.ref p] n h (x_pv fun n' h' => n = n' ∧ mo_fr p h h' ∧ ∃ a' f' op' S' so' ba', rd_fin E Tg mk ln tx q0 S' so' f' ∧ mo_S K h' p th ma sz ln a' f' op' mk tx E Tg (S') (so') (ba')) 0 0 := by
  obtain ⟨b1, b2, b3, b4, b5⟩ := id r.2.2.2.2.2.2.2
  have ho0 := r.1
  have m256 := fun k => mo_c_lt (k := k) b5
  refine xm_v (by decide +kernel) (Nat.le_of_ble_eq_true rfl) (fun G hF hR => ?_)
  have fin : ∀ a f' h1 S1 so1 ba1 op1 x, mo_fr p h h1 → mo_S K h1 p th ma sz ln a f' op1 mk tx E Tg (S1) (so1) (ba1) → ((f' ≠ 0 ∧ rd_bad ln tx q0 f') ∨ (f' = 0 ∧ a < ln ∧ rd_bad ln tx q0 (a + 1)) ∨ (f' = 0 ∧ a = ln ∧ 0 < op1 ∧ rd_bad ln tx q0 (ln + 1)) ∨ (f' = 0 ∧ a = ln ∧ op1 = 0 ∧ ∃ q, rp_run tx q0 ln = some q ∧ q.1 = 0 ∧ ti_R E Tg mk S1 so1 ba1 0 ln (rp_er q))) → XV G 0 0 142 [(1, .int x), (0, .ref p)] [] n h1 := by
    intro a f' h1 S1 so1 ba1 op1 x f1 r1 hc
    have ho := r1.1
    obtain ⟨c1, c2, c3, -⟩ := id r1.2.2.2.2.2.2.2
    have end1 : ∀ f'' h2, mo_fr p h h2 → mo_S K h2 p th ma sz ln a f'' op1 mk tx E Tg (S1) (so1) (ba1) → f'' ≠ 0 → rd_bad ln tx q0 f'' → XV G 0 0 164 [(1, .int x), (0, .ref p)] [] n h2 := by
      intro f'' h2 f2 r2 hf2 hb
      clear ho
      have ho := r2.1
      obtain ⟨-, d2, -⟩ := id r2.2.2.2.2.2.2.2
      refine xv_aload_n (pc' := 165) (i := 0) hF xd_MO_read_164 rfl rfl rfl ?_
      refine xv_callVi (pc' := 168) (ci := 6) hF (c_MO_goes K n h2 p th ma sz ln a f'' op1 mk ho (by omega)) xq_MO_goes xk_MO_m81 xk_i_MO_goes xk_s_MO_goes (by first | assumption | exact xu_self | (refine (xu_ne (by omega)).trans ?_; first | assumption | exact xu_self | (refine (xu_ne (by omega)).trans ?_; first | assumption | exact xu_self | (refine (xu_ne (by omega)).trans ?_; first | assumption | exact xu_self | (refine (xu_ne (by omega)).trans ?_; first | assumption | exact xu_self))))) rfl ⟨(Nat.le_of_ble_eq_true rfl), (Nat.le_of_ble_eq_true rfl)⟩ rfl rfl (Nat.le_of_ble_eq_true rfl) ⟨(Nat.le_of_ble_eq_true rfl), (Nat.le_of_ble_eq_true rfl)⟩ xd_MO_read_165 rfl (fun r3 n3 h3 q3 => ?_)
      obtain ⟨rfl, rfl, rfl⟩ := q3
      rw [decide_eq_false hf2]
      refine xv_if_eqB (pc' := 171) (tgt := 175) hF xd_MO_read_168 (by decide) rfl (fun e1 => ?_) (fun e1 => ?_)
      · refine hR _ _ _ _ _ _ (by omega) (by omega) ?_ xd_MO_read_175
        exact ⟨rfl, f2, a, f'', op1, S1, so1, ba1, Or.inl ⟨hf2, hb⟩, r2⟩
      · cases e1
    have fl : ((f' ≠ 0 ∧ rd_bad ln tx q0 f') ∨ (f' = 0 ∧ rd_bad ln tx q0 (a + 1))) → XV G 0 0 160 [(1, .int x), (0, .ref p)] [] n h1 := by
      intro hb
      refine xv_aload_n (pc' := 161) (i := 0) hF xd_MO_read_160 rfl rfl rfl ?_
      refine xv_callVv (pc' := 164) (ci := 6) hF (c_MO_fail K n h1 p th ma sz ln a f' op1 mk ho (by omega)) xq_MO_fail xk_MO_m89 xk_i_MO_fail xk_s_MO_fail (by first | assumption | exact xu_self | (refine (xu_ne (by omega)).trans ?_; first | assumption | exact xu_self | (refine (xu_ne (by omega)).trans ?_; first | assumption | exact xu_self | (refine (xu_ne (by omega)).trans ?_; first | assumption | exact xu_self | (refine (xu_ne (by omega)).trans ?_; first | assumption | exact xu_self))))) rfl ⟨(Nat.le_of_ble_eq_true rfl), (Nat.le_of_ble_eq_true rfl)⟩ rfl rfl (Nat.le_of_ble_eq_true rfl) ⟨(Nat.le_of_ble_eq_true rfl), (Nat.le_of_ble_eq_true rfl)⟩ xd_MO_read_161 rfl (fun n2 h2 q2 => ?_)
      obtain ⟨rfl, rfl⟩ := q2
      refine xv_loc _ (by repeat (first | exact trivial | refine ⟨rfl, ?_⟩)) (end1 (if f' = 0 then a + 1 else f') _ (f1.x (by omega)) (r1.ob (mk' := mk) c1 (by split <;> omega) c3) (by split <;> omega) ?_)
      rcases hb with ⟨h1, h2⟩ | ⟨h1, h2⟩
      · rw [if_neg h1]; exact h2
      · rw [if_pos h1]; exact h2
    refine xv_aload_n (pc' := 143) (i := 0) hF xd_MO_read_142 rfl rfl rfl ?_
    refine xv_get (pc' := 146) (ci := 6) hF (by first | assumption | exact xu_self | (refine (xu_ne (by omega)).trans ?_; first | assumption | exact xu_self | (refine (xu_ne (by omega)).trans ?_; first | assumption | exact xu_self | (refine (xu_ne (by omega)).trans ?_; first | assumption | exact xu_self | (refine (xu_ne (by omega)).trans ?_; first | assumption | exact xu_self))))) rfl xu_MO 11 (by decide) xk_MO_f72 (by rfl) xd_MO_read_143 rfl ?_
    refine xv_aload_n (pc' := 147) (i := 0) hF xd_MO_read_146 rfl rfl rfl ?_
    refine xv_get (pc' := 150) (ci := 6) hF (by first | assumption | exact xu_self | (refine (xu_ne (by omega)).trans ?_; first | assumption | exact xu_self | (refine (xu_ne (by omega)).trans ?_; first | assumption | exact xu_self | (refine (xu_ne (by omega)).trans ?_; first | assumption | exact xu_self | (refine (xu_ne (by omega)).trans ?_; first | assumption | exact xu_self))))) rfl xu_MO 10 (by decide) xk_MO_f75 (by rfl) xd_MO_read_147 rfl ?_
    refine xv_icmp_ltN (pc' := 153) (tgt := 160) hF (by omega) (by omega) xd_MO_read_150 (by decide) rfl (fun e1 => ?_) (fun e1 => ?_)
    · refine xv_loc _ (by repeat (first | exact trivial | refine ⟨rfl, ?_⟩)) (fl ?_)
      rcases hc with hc | ⟨h1, h2, h3⟩ | ⟨h1, h2, -⟩ | ⟨h1, h2, -⟩
      · exact Or.inl hc
      · exact Or.inr ⟨h1, h3⟩
      · omega
      · omega
    · refine xv_aload_n (pc' := 154) (i := 0) hF xd_MO_read_153 rfl rfl rfl ?_
      refine xv_get (pc' := 157) (ci := 6) hF (by first | assumption | exact xu_self | (refine (xu_ne (by omega)).trans ?_; first | assumption | exact xu_self | (refine (xu_ne (by omega)).trans ?_; first | assumption | exact xu_self | (refine (xu_ne (by omega)).trans ?_; first | assumption | exact xu_self | (refine (xu_ne (by omega)).trans ?_; first | assumption | exact xu_self))))) rfl xu_MO 17 (by decide) xk_MO_f114 (by rfl) xd_MO_read_154 rfl ?_
      refine xv_if_leN (pc' := 160) (tgt := 164) hF (by omega) xd_MO_read_157 (by decide) rfl (fun e2 => ?_) (fun e2 => ?_)
      · rcases hc with ⟨y1, y2⟩ | ⟨y1, y2, y3⟩ | ⟨y1, y2, y3, -⟩ | ⟨y1, y2, y3, q, k1, k2, k3⟩
        · exact xv_loc _ (by repeat (first | exact trivial | refine ⟨rfl, ?_⟩)) (end1 f' h1 f1 r1 y1 y2)
        · omega
        · omega
        · subst y1 y3
          refine xv_aload_n (pc' := 165) (i := 0) hF xd_MO_read_164 rfl rfl rfl ?_
          refine xv_callVi (pc' := 168) (ci := 6) hF (c_MO_goes K n h1 p th ma sz ln a 0 0 mk ho (by omega)) xq_MO_goes xk_MO_m81 xk_i_MO_goes xk_s_MO_goes (by first | assumption | exact xu_self | (refine (xu_ne (by omega)).trans ?_; first | assumption | exact xu_self | (refine (xu_ne (by omega)).trans ?_; first | assumption | exact xu_self | (refine (xu_ne (by omega)).trans ?_; first | assumption | exact xu_self | (refine (xu_ne (by omega)).trans ?_; first | assumption | exact xu_self))))) rfl ⟨(Nat.le_of_ble_eq_true rfl), (Nat.le_of_ble_eq_true rfl)⟩ rfl rfl (Nat.le_of_ble_eq_true rfl) ⟨(Nat.le_of_ble_eq_true rfl), (Nat.le_of_ble_eq_true rfl)⟩ xd_MO_read_165 rfl (fun r3 n3 h3 q3 => ?_)
          obtain ⟨rfl, rfl, rfl⟩ := q3
          rw [decide_eq_true rfl]
          refine xv_if_eqB (pc' := 171) (tgt := 175) hF xd_MO_read_168 (by decide) rfl (fun e3 => ?_) (fun e3 => ?_)
          · cases e3
          · refine xv_aload_n (pc' := 172) (i := 0) hF xd_MO_read_171 rfl rfl rfl ?_
            refine xv_callVv (pc' := 175) (ci := 6) hF (c_MO_bar K n h1 p th ma sz ln a 0 0 mk tx E Tg S1 so1 ba1 r1) xq_MO_bar xk_MO_m126 xk_i_MO_bar xk_s_MO_bar (by first | assumption | exact xu_self | (refine (xu_ne (by omega)).trans ?_; first | assumption | exact xu_self | (refine (xu_ne (by omega)).trans ?_; first | assumption | exact xu_self | (refine (xu_ne (by omega)).trans ?_; first | assumption | exact xu_self | (refine (xu_ne (by omega)).trans ?_; first | assumption | exact xu_self))))) rfl ⟨(Nat.le_of_ble_eq_true rfl), (Nat.le_of_ble_eq_true rfl)⟩ rfl rfl (Nat.le_of_ble_eq_true rfl) ⟨(Nat.le_of_ble_eq_true rfl), (Nat.le_of_ble_eq_true rfl)⟩ xd_MO_read_172 rfl (fun n4 h4 q4 => ?_)
            obtain ⟨rfl, f4, r4⟩ := q4
            refine hR _ _ _ _ _ _ (by omega) (by omega) ?_ xd_MO_read_175
            refine ⟨rfl, f1.tr f4, a, 0, 0, _, _, _, Or.inr ⟨rfl, q, k1, k2, ?_, ?_, ?_, fun hm => ?_⟩, r4⟩
            · have := k3.1
              have l4 := (rp_er_le q).2.2.2
              omega
            · have := k3.2.2.2.1 0 (Nat.le_refl _)
              rw [va_s]
              exact this
            · have := k3.2.2.2.2.2.1
              have : sm (fun i => so1 (3 * i) + so1 (3 * i + 1)) (0 + 1) + _ ≤ 1000 * ln := this
              have e9 : sm (fun i => so1 (3 * i) + so1 (3 * i + 1)) (0 + 1) = 0 + (so1 (3 * 0) + so1 (3 * 0 + 1)) := rfl
              rw [va_s]
              omega
            · have k3' := k3
              have hir := rp_er_ir q
              unfold rp_ew
              generalize rp_er q = qq at k3' hir
              obtain ⟨st, op', ir, rs, le, mo, en, os⟩ := qq
              dsimp only at hir
              subst hir
              have e0 : op' = 0 := k3'.1
              subst e0
              obtain ⟨j1, j2, j3⟩ := ti_bar k3'
              subst hm
              show pd_mn (oA E Tg (os ++ [7]) 0) _
              rw [j2]
              unfold mo_pl
              simp only [if_true]
              exact j3 rfl
      · refine xv_loc _ (by repeat (first | exact trivial | refine ⟨rfl, ?_⟩)) (fl ?_)
        rcases hc with hc | ⟨h1, h2, h3⟩ | ⟨h1, h2, h3, h4⟩ | ⟨h1, h2, h3, -⟩
        · exact Or.inl hc
        · exact Or.inr ⟨h1, h3⟩
        · rw [h2]; exact Or.inr ⟨h1, h4⟩
        · omega
  have flt : ∀ a f' h1 S1 so1 ba1 op1, mo_fr p h h1 → mo_S K h1 p th ma sz ln a f' op1 mk tx E Tg (S1) (so1) (ba1) → f' ≠ 0 → rd_bad ln tx q0 f' → XV G 0 0 2 [(1, .int (nI 1)), (0, .ref p)] [] n h1 := by
    intro a f' h1 S1 so1 ba1 op1 f1 r1 hf hb
    have ho := r1.1
    obtain ⟨c1, c2, c3, -⟩ := id r1.2.2.2.2.2.2.2
    refine xv_iload_n (pc' := 3) (i := 1) hF xd_MO_read_2 rfl rfl rfl ?_
    refine xv_if_eqN (pc' := 6) (tgt := 142) hF (by omega) xd_MO_read_3 (by decide) rfl (fun e1 => ?_) (fun e1 => ?_)
    · omega
    · refine xv_aload_n (pc' := 7) (i := 0) hF xd_MO_read_6 rfl rfl rfl ?_
      refine xv_callVi (pc' := 10) (ci := 6) hF (c_MO_goes K n h1 p th ma sz ln a f' op1 mk ho (by omega)) xq_MO_goes xk_MO_m81 xk_i_MO_goes xk_s_MO_goes (by first | assumption | exact xu_self | (refine (xu_ne (by omega)).trans ?_; first | assumption | exact xu_self | (refine (xu_ne (by omega)).trans ?_; first | assumption | exact xu_self | (refine (xu_ne (by omega)).trans ?_; first | assumption | exact xu_self | (refine (xu_ne (by omega)).trans ?_; first | assumption | exact xu_self))))) rfl ⟨(Nat.le_of_ble_eq_true rfl), (Nat.le_of_ble_eq_true rfl)⟩ rfl rfl (Nat.le_of_ble_eq_true rfl) ⟨(Nat.le_of_ble_eq_true rfl), (Nat.le_of_ble_eq_true rfl)⟩ xd_MO_read_7 rfl (fun r3 n3 h3 q3 => ?_)
      obtain ⟨rfl, rfl, rfl⟩ := q3
      rw [decide_eq_false hf]
      refine xv_if_eqB (pc' := 13) (tgt := 142) hF xd_MO_read_10 (by decide) rfl (fun e2 => ?_) (fun e2 => ?_)
      · exact xv_loc _ (by repeat (first | exact trivial | refine ⟨rfl, ?_⟩)) (fin a f' h1 S1 so1 ba1 op1 _ f1 r1 (Or.inl ⟨hf, hb⟩))
      · cases e2
  have loop : ∀ d a h1 S1 so1 ba1 op1 q, ln - a = d → mo_fr p h h1 → mo_S K h1 p th ma sz ln a 0 op1 mk tx E Tg (S1) (so1) (ba1) → rp_run tx q0 a = some q → q.1 = 0 → ti_R E Tg mk S1 so1 ba1 op1 a (rp_er q) → (q.2.2.1 = true → ¬ sg (mo_c ln tx a)) → XV G 0 0 2 [(1, .int (nI 1)), (0, .ref p)] [] n h1 := by
    intro d
    induction d using Nat.strongRecOn with
    | ind d ih =>
      intro a h1 S1 so1 ba1 op1 q hd f1 r1 hrun hst hti hsg
      have ho := r1.1
      obtain ⟨c1, c2, c3, -⟩ := id r1.2.2.2.2.2.2.2
      obtain ⟨l1, l2, l3, l4⟩ := rp_er_le q
      have hop : q.2.1 = op1 := l4.symm.trans hti.1
      have m2a := m256 a
      have hstep : ∀ c, rp_step c q = rp_row c q := fun c => by unfold rp_step; rw [if_pos hst]
      have cont : ∀ a' h2 S2 so2 ba2 op2 q2, a < a' → a' ≤ ln → mo_fr p h h2 → mo_S K h2 p th ma sz ln a' 0 op2 mk tx E Tg (S2) (so2) (ba2) → rp_run tx q0 a' = some q2 → q2.1 = 0 → ti_R E Tg mk S2 so2 ba2 op2 a' (rp_er q2) → (q2.2.2.1 = true → ¬ sg (mo_c ln tx a')) → XV G 0 0 139 [(1, .int (nI 1)), (0, .ref p)] [] n h2 := by
        intro a' h2 S2 so2 ba2 op2 q2 y1 y2 f2 r2 y3 y4 y5 y6
        refine xv_goto (tgt := 2) hF xd_MO_read_139 (by decide) ?_
        exact xv_loc _ (by repeat (first | exact trivial | refine ⟨rfl, ?_⟩)) (ih _ (by omega) a' h2 S2 so2 ba2 op2 q2 rfl f2 r2 y3 y4 y5 y6)
      have flt9 : ∀ a' f' h2 S2 so2 ba2 op2, mo_fr p h h2 → mo_S K h2 p th ma sz ln a' f' op2 mk tx E Tg (S2) (so2) (ba2) → f' ≠ 0 → rd_bad ln tx q0 f' → XV G 0 0 139 [(1, .int (nI 1)), (0, .ref p)] [] n h2 := by
        intro a' f' h2 S2 so2 ba2 op2 f2 r2 y1 y2
        refine xv_goto (tgt := 2) hF xd_MO_read_139 (by decide) ?_
        exact xv_loc _ (by repeat (first | exact trivial | refine ⟨rfl, ?_⟩)) (flt a' f' h2 S2 so2 ba2 op2 f2 r2 y1 y2)
      have sgn : ∀ a0 a' f' h2 S2 so2 ba2 op2, a < a0 → mo_fr p h h2 → sg_end E Tg mk ln tx q0 a0 S2 so2 ba2 op2 a' f' → mo_S K h2 p th ma sz ln a' f' op2 mk tx E Tg (S2) (so2) (ba2) → XV G 0 0 139 [(1, .int (nI 1)), (0, .ref p)] [] n h2 := by
        intro a0 a' f' h2 S2 so2 ba2 op2 ha f2 he r2
        rcases he with ⟨rfl, y1, y2, q2, y3, y4, y5, y6⟩ | ⟨y1, y2⟩
        · exact cont a' h2 S2 so2 ba2 op2 q2 (by omega) y2 f2 r2 y3 y4 y5 (fun _ => y6)
        · exact flt9 a' f' h2 S2 so2 ba2 op2 f2 r2 y1 y2
      have stop : mo_c ln tx a ≠ 40 → (mo_c ln tx a = 41 → op1 = 0) → mo_c ln tx a ≠ 124 → ¬ am_c (mo_c ln tx a) → mo_c ln tx a ≠ 94 → mo_c ln tx a ≠ 91 → XV G 0 0 137 [(1, .int (nI 1)), (0, .ref p)] [] n h1 := by
        intro y1 y2 y3 y4 y5 y6
        refine xv_iconstN (pc' := 138) 0 hF xd_MO_read_137 (by decide +kernel) rfl ?_
        refine xv_istore_n (pc' := 139) (i := 1) hF xd_MO_read_138 rfl (Nat.le_of_ble_eq_true rfl) rfl rfl ?_
        refine xv_goto (tgt := 2) hF xd_MO_read_139 (by decide) ?_
        refine xv_iload_n (pc' := 3) (i := 1) hF xd_MO_read_2 rfl rfl rfl ?_
        refine xv_if_eqN (pc' := 6) (tgt := 142) hF (by omega) xd_MO_read_3 (by decide) rfl (fun e1 => ?_) (fun e1 => ?_)
        · refine xv_loc _ (by repeat (first | exact trivial | refine ⟨rfl, ?_⟩)) (fin a 0 h1 S1 so1 ba1 op1 _ f1 r1 ?_)
          by_cases c : a < ln
          · refine Or.inr (Or.inl ⟨rfl, c, Or.inl ⟨a, q, c, hrun, ?_, rfl⟩⟩)
            rw [hstep, ← mo_c_of (tx := tx) c]
            exact row_no y1 (fun h => by rw [hop]; exact y2 h) y3 y4 y5 y6 hsg
          · have e9 : a = ln := by omega
            have hrun : rp_run tx q0 ln = some q := by rw [← e9]; exact hrun
            have hti : ti_R E Tg mk S1 so1 ba1 op1 ln (rp_er q) := by rw [← e9]; exact hti
            by_cases c2 : 0 < op1
            · exact Or.inr (Or.inr (Or.inl ⟨rfl, e9, c2, Or.inr ⟨q, hrun, Or.inr (by omega), rfl⟩⟩))
            · have : op1 = 0 := by omega
              subst this
              exact Or.inr (Or.inr (Or.inr ⟨rfl, e9, rfl, q, hrun, hst, hti⟩))
        · omega
      have atm : (am_c (mo_c ln tx a) ∨ mo_c ln tx a = 94 ∨ mo_c ln tx a = 91) → XV G 0 0 126 [(1, .int (nI 1)), (0, .ref p)] [] n h1 := by
        intro hc
        have hc0 : mo_c ln tx a ≠ 0 := by unfold am_c at hc; omega
        obtain ⟨la, ea⟩ := mo_c_in (k := a) (tx := tx) (ln := ln) hc0
        have bad : ∀ a' f' h2 S2 so2, mo_fr p h h2 → mo_S K h2 p th ma sz ln a' f' op1 mk tx E Tg (S2) (so2) (ba1) → f' ≠ 0 → rd_bad ln tx q0 f' → XV G (0 + 0) (0 + 0) 130 [(1, .int (nI 1)), (0, .ref p)] [] n h2 := by
          intro a' f' h2 S2 so2 f2 r2 y1 y2
          clear ho
          have ho := r2.1
          refine xv_aload_n (pc' := 131) (i := 0) hF xd_MO_read_130 rfl rfl rfl ?_
          refine xv_callVv (pc' := 134) (ci := 6) hF (c_MO_signsF K n h2 p th ma sz ln a' f' op1 mk tx E Tg S2 so2 ba1 r2 y1) xq_MO_signs xk_MO_m136 xk_i_MO_signs xk_s_MO_signs (by first | assumption | exact xu_self | (refine (xu_ne (by omega)).trans ?_; first | assumption | exact xu_self | (refine (xu_ne (by omega)).trans ?_; first | assumption | exact xu_self | (refine (xu_ne (by omega)).trans ?_; first | assumption | exact xu_self | (refine (xu_ne (by omega)).trans ?_; first | assumption | exact xu_self))))) rfl ⟨(Nat.le_of_ble_eq_true rfl), (Nat.le_of_ble_eq_true rfl)⟩ rfl rfl (Nat.le_of_ble_eq_true rfl) ⟨(Nat.le_of_ble_eq_true rfl), (Nat.le_of_ble_eq_true rfl)⟩ xd_MO_read_131 rfl (fun n3 h3 q3 => ?_)
          obtain ⟨rfl, f3, S3, so3, r3⟩ := q3
          refine xv_goto (tgt := 139) hF xd_MO_read_134 (by decide) ?_
          exact xv_loc _ (by repeat (first | exact trivial | refine ⟨rfl, ?_⟩)) (flt9 a' f' h3 S3 so3 ba1 op1 (f2.tr f3) r3 y1 y2)
        have good : ∀ a' h2 S2 so2 q2, a < a' → mo_fr p h h2 → mo_S K h2 p th ma sz ln a' 0 op1 mk tx E Tg (S2) (so2) (ba1) → rp_run tx q0 a' = some q2 → q2.1 = 0 → q2.2.2.1 = true → ti_R E Tg mk S2 so2 ba1 op1 a' q2 → XV G (0 + 0) (0 + 0) 130 [(1, .int (nI 1)), (0, .ref p)] [] n h2 := by
          intro a' h2 S2 so2 q2 y1 f2 r2 y2 y3 y4 y5
          clear ho
          have ho := r2.1
          refine xv_aload_n (pc' := 131) (i := 0) hF xd_MO_read_130 rfl rfl rfl ?_
          refine xv_callVv (pc' := 134) (ci := 6) hF (c_MO_signs K n h2 p th ma sz ln a' f op1 mk tx E Tg S2 so2 ba1 q0 q2 r2 y2 y3 y4 y5) xq_MO_signs xk_MO_m136 xk_i_MO_signs xk_s_MO_signs (by first | assumption | exact xu_self | (refine (xu_ne (by omega)).trans ?_; first | assumption | exact xu_self | (refine (xu_ne (by omega)).trans ?_; first | assumption | exact xu_self | (refine (xu_ne (by omega)).trans ?_; first | assumption | exact xu_self | (refine (xu_ne (by omega)).trans ?_; first | assumption | exact xu_self))))) rfl ⟨(Nat.le_of_ble_eq_true rfl), (Nat.le_of_ble_eq_true rfl)⟩ rfl rfl (Nat.le_of_ble_eq_true rfl) ⟨(Nat.le_of_ble_eq_true rfl), (Nat.le_of_ble_eq_true rfl)⟩ xd_MO_read_131 rfl (fun n3 h3 q3 => ?_)
          obtain ⟨rfl, f3, a3, f3', S3, so3, y6, r3⟩ := q3
          refine xv_goto (tgt := 139) hF xd_MO_read_134 (by decide) ?_
          exact xv_loc _ (by repeat (first | exact trivial | refine ⟨rfl, ?_⟩)) (sgn a' a3 f3' h3 S3 so3 ba1 op1 y1 (f2.tr f3) y6 r3)
        by_cases c91 : mo_c ln tx a = 91
        · obtain ⟨t1, t2, t3⟩ := ts_run hrun hst c91
          have hok : mk = true → 48 ≤ mo_c ln tx (ts_d ln tx a) ∧ mo_c ln tx (ts_d ln tx a) < 52 := fun hm => Decidable.byContradiction fun hn => hgood hm _ (t2 hn)
          have hda : a < ts_d ln tx a := by unfold ts_d; split <;> omega
          refine xv_aload_n (pc' := 127) (i := 0) hF xd_MO_read_126 rfl rfl rfl ?_
          refine xv_callVv (pc' := 130) (ci := 6) hF (c_MO_atomT K n h1 p th ma sz ln a f op1 mk tx E Tg S1 so1 ba1 r1 c91 hok) xq_MO_atom xk_MO_m133 xk_i_MO_atom xk_s_MO_atom (by first | assumption | exact xu_self | (refine (xu_ne (by omega)).trans ?_; first | assumption | exact xu_self | (refine (xu_ne (by omega)).trans ?_; first | assumption | exact xu_self | (refine (xu_ne (by omega)).trans ?_; first | assumption | exact xu_self | (refine (xu_ne (by omega)).trans ?_; first | assumption | exact xu_self))))) rfl ⟨(Nat.le_of_ble_eq_true rfl), (Nat.le_of_ble_eq_true rfl)⟩ rfl rfl (Nat.le_of_ble_eq_true rfl) ⟨(Nat.le_of_ble_eq_true rfl), (Nat.le_of_ble_eq_true rfl)⟩ xd_MO_read_127 rfl (fun n2 h2 q2 => ?_)
          obtain ⟨rfl, f2, a', f', S2, y1, y2, r2⟩ := q2
          rcases y1 with ⟨rfl, k1, k2, k3, rfl⟩ | ⟨k1, rfl⟩ | ⟨k1, k2, k3, rfl⟩
          · obtain ⟨t4, t5⟩ := (t3 k1 k2).1 k3
            refine xv_loc _ (by repeat (first | exact trivial | refine ⟨rfl, ?_⟩)) (good _ h2 S2 _ _ (by omega) (f1.tr f2) r2 t5 rfl rfl ?_)
            refine hti.step (rp_er_ir q) (by split <;> omega) (by split <;> omega) y2.1 ?_ y2.2 (by omega)
            cases ts_e ln tx a <;> rfl
          · exact xv_loc _ (by repeat (first | exact trivial | refine ⟨rfl, ?_⟩)) (bad _ _ h2 S2 _ (f1.tr f2) r2 (by omega) (t2 k1))
          · exact xv_loc _ (by repeat (first | exact trivial | refine ⟨rfl, ?_⟩)) (bad _ _ h2 S2 _ (f1.tr f2) r2 (by omega) ((t3 k1 k2).2 k3))
        · have hc2 : am_c (mo_c ln tx a) ∨ mo_c ln tx a = 94 := hc.imp_right (fun h => h.resolve_right c91)
          obtain ⟨t1, t2, t3⟩ := am_run hrun hst hc2
          have hok : mk = true → am_c (mo_c ln tx (am_d ln tx a)) := fun hm => by
            refine Classical.byContradiction fun hn => hgood hm _ (t3 hn)
          have hda : a ≤ am_d ln tx a := by unfold am_d; split <;> omega
          refine xv_aload_n (pc' := 127) (i := 0) hF xd_MO_read_126 rfl rfl rfl ?_
          refine xv_callVv (pc' := 130) (ci := 6) hF (c_MO_atomS K n h1 p th ma sz ln a f op1 mk tx E Tg S1 so1 ba1 r1 c91 hok) xq_MO_atom xk_MO_m133 xk_i_MO_atom xk_s_MO_atom (by first | assumption | exact xu_self | (refine (xu_ne (by omega)).trans ?_; first | assumption | exact xu_self | (refine (xu_ne (by omega)).trans ?_; first | assumption | exact xu_self | (refine (xu_ne (by omega)).trans ?_; first | assumption | exact xu_self | (refine (xu_ne (by omega)).trans ?_; first | assumption | exact xu_self))))) rfl ⟨(Nat.le_of_ble_eq_true rfl), (Nat.le_of_ble_eq_true rfl)⟩ rfl rfl (Nat.le_of_ble_eq_true rfl) ⟨(Nat.le_of_ble_eq_true rfl), (Nat.le_of_ble_eq_true rfl)⟩ xd_MO_read_127 rfl (fun n2 h2 q2 => ?_)
          obtain ⟨rfl, f2, a', f', S2, y1, y2, r2⟩ := q2
          rcases y1 with ⟨rfl, k1, rfl⟩ | ⟨k1, rfl⟩
          · refine xv_loc _ (by repeat (first | exact trivial | refine ⟨rfl, ?_⟩)) (good _ h2 S2 _ _ (by omega) (f1.tr f2) r2 (t2 k1) rfl rfl ?_)
            refine hti.step (rp_er_ir q) (by split <;> omega) (by split <;> omega) y2.1 ?_ y2.2 (by omega)
            have g1 := am_eg (E := E) k1 (fun i j => (i, j))
            have g2 := am_eg (E := E) k1 (fun i j => (j, i))
            dsimp only at g1 g2
            cases am_e ln tx a
            · show va_up _ _ (pd_eg _) = _
              rw [g1]
              rfl
            · show va_up _ _ (pd_eg _) = _
              rw [g2]
              rfl
          · exact xv_loc _ (by repeat (first | exact trivial | refine ⟨rfl, ?_⟩)) (bad _ _ h2 S2 _ (f1.tr f2) r2 (by omega) (t3 k1))
      have s101 : mo_c ln tx a ≠ 40 → (mo_c ln tx a = 41 → op1 = 0) → mo_c ln tx a ≠ 124 → XV G (0 + 0 + 0) (0 + 0 + 0) 101 [(2, .int (nI (mo_c ln tx a))), (1, .int (nI 1)), (0, .ref p)] [] n h1 := by
        intro y1 y2 y3
        refine xv_iload_n (pc' := 102) (i := 2) hF xd_MO_read_101 rfl rfl rfl ?_
        refine xv_callSi (pc' := 105) hF (c_MO_isLetter K n h1 (mo_c ln tx a) (by omega)) xq_MO_isLetter xk_MO_m129 xk_t_MO_isLetter ⟨(Nat.le_of_ble_eq_true rfl), (Nat.le_of_ble_eq_true rfl)⟩ rfl rfl (Nat.le_of_ble_eq_true rfl) ⟨(Nat.le_of_ble_eq_true rfl), (Nat.le_of_ble_eq_true rfl)⟩ xd_MO_read_102 rfl (fun r3 n3 h3 q3 => ?_)
        obtain ⟨rfl, rfl, rfl⟩ := q3
        refine xv_if_neB (pc' := 108) (tgt := 126) hF xd_MO_read_105 (by decide) rfl (fun e1 => ?_) (fun e1 => ?_)
        · exact xv_loc _ (by repeat (first | exact trivial | refine ⟨rfl, ?_⟩)) (atm (Or.inl (Or.inr (of_decide_eq_true e1))))
        · have e1 := of_decide_eq_false e1
          refine xv_iload_n (pc' := 109) (i := 2) hF xd_MO_read_108 rfl rfl rfl ?_
          refine xv_bipushN (pc' := 111) 94 hF xd_MO_read_109 (by decide +kernel) rfl ?_
          refine xv_icmp_eqN (pc' := 114) (tgt := 126) hF (by omega) (by omega) xd_MO_read_111 (by decide) rfl (fun e2 => ?_) (fun e2 => ?_)
          · exact xv_loc _ (by repeat (first | exact trivial | refine ⟨rfl, ?_⟩)) (atm (Or.inr (Or.inl e2)))
          · refine xv_iload_n (pc' := 115) (i := 2) hF xd_MO_read_114 rfl rfl rfl ?_
            refine xv_bipushN (pc' := 117) 46 hF xd_MO_read_115 (by decide +kernel) rfl ?_
            refine xv_icmp_eqN (pc' := 120) (tgt := 126) hF (by omega) (by omega) xd_MO_read_117 (by decide) rfl (fun e3 => ?_) (fun e3 => ?_)
            · exact xv_loc _ (by repeat (first | exact trivial | refine ⟨rfl, ?_⟩)) (atm (Or.inl (Or.inl e3)))
            · refine xv_iload_n (pc' := 121) (i := 2) hF xd_MO_read_120 rfl rfl rfl ?_
              refine xv_bipushN (pc' := 123) 91 hF xd_MO_read_121 (by decide +kernel) rfl ?_
              refine xv_icmp_neN (pc' := 126) (tgt := 137) hF (by omega) (by omega) xd_MO_read_123 (by decide) rfl (fun e4 => ?_) (fun e4 => ?_)
              · exact xv_loc _ (by repeat (first | exact trivial | refine ⟨rfl, ?_⟩)) (stop y1 y2 y3 (fun h => h.elim e3 e1) e2 e4)
              · exact xv_loc _ (by repeat (first | exact trivial | refine ⟨rfl, ?_⟩)) (atm (Or.inr (Or.inr e4)))
      have s51 : mo_c ln tx a ≠ 40 → (mo_c ln tx a = 41 → op1 = 0) → XV G (0 + 0 + 0) (0 + 0 + 0) 51 [(2, .int (nI (mo_c ln tx a))), (1, .int (nI 1)), (0, .ref p)] [] n h1 := by
        intro y1 y2
        refine xv_iload_n (pc' := 52) (i := 2) hF xd_MO_read_51 rfl rfl rfl ?_
        refine xv_bipushN (pc' := 54) 124 hF xd_MO_read_52 (by decide +kernel) rfl ?_
        refine xv_icmp_neN (pc' := 57) (tgt := 101) hF (by omega) (by omega) xd_MO_read_54 (by decide) rfl (fun e1 => ?_) (fun e1 => ?_)
        · exact xv_loc _ (by repeat (first | exact trivial | refine ⟨rfl, ?_⟩)) (s101 y1 y2 e1)
        · obtain ⟨la, ea⟩ := mo_c_in (k := a) (tx := tx) (ln := ln) (by omega)
          refine xv_aload_n (pc' := 58) (i := 0) hF xd_MO_read_57 rfl rfl rfl ?_
          refine xv_dup (pc' := 59) hF xd_MO_read_58 rfl rfl ?_
          refine xv_get (pc' := 62) (ci := 6) hF (by first | assumption | exact xu_self | (refine (xu_ne (by omega)).trans ?_; first | assumption | exact xu_self | (refine (xu_ne (by omega)).trans ?_; first | assumption | exact xu_self | (refine (xu_ne (by omega)).trans ?_; first | assumption | exact xu_self | (refine (xu_ne (by omega)).trans ?_; first | assumption | exact xu_self))))) rfl xu_MO 11 (by decide) xk_MO_f72 (by rfl) xd_MO_read_59 rfl ?_
          refine xv_iconstN (pc' := 63) 1 hF xd_MO_read_62 (by decide +kernel) rfl ?_
          first | refine xv_iaddN (pc' := 64) hF xd_MO_read_63 rfl ?_ | refine xv_iadd (pc' := 64) hF xd_MO_read_63 rfl ?_
          refine xv_put (pc' := 67) (ci := 6) (ty := xt_MO 11) hF (by first | assumption | exact xu_self | (refine (xu_ne (by omega)).trans ?_; first | assumption | exact xu_self | (refine (xu_ne (by omega)).trans ?_; first | assumption | exact xu_self | (refine (xu_ne (by omega)).trans ?_; first | assumption | exact xu_self | (refine (xu_ne (by omega)).trans ?_; first | assumption | exact xu_self))))) rfl xu_MO xt_MO xo_MO xn_MO 11 (by decide) xk_MO_f72 rfl (by decide +kernel) (by first | rfl | exact xb_nw _ | decide +kernel) (by first | rfl | exact xb_ft _ | decide +kernel) (by exact Nat.le_of_ble_eq_true rfl) (by dsimp only [List.set] <;> rfl) xd_MO_read_64 rfl ?_
          refine xv_aload_n (pc' := 68) (i := 0) hF xd_MO_read_67 rfl rfl rfl ?_
          have r2 := r1.ob (th' := th) (at' := a + 1) (f' := 0) (op' := op1) (mk' := mk) c1 (by omega) (by omega)
          refine xv_callVv (pc' := 71) (ci := 6) hF (c_MO_bar K n _ p th ma sz ln (a + 1) 0 op1 mk tx E Tg S1 so1 ba1 r2) xq_MO_bar xk_MO_m126 xk_i_MO_bar xk_s_MO_bar (by first | assumption | exact xu_self | (refine (xu_ne (by omega)).trans ?_; first | assumption | exact xu_self | (refine (xu_ne (by omega)).trans ?_; first | assumption | exact xu_self | (refine (xu_ne (by omega)).trans ?_; first | assumption | exact xu_self | (refine (xu_ne (by omega)).trans ?_; first | assumption | exact xu_self))))) rfl ⟨(Nat.le_of_ble_eq_true rfl), (Nat.le_of_ble_eq_true rfl)⟩ rfl rfl (Nat.le_of_ble_eq_true rfl) ⟨(Nat.le_of_ble_eq_true rfl), (Nat.le_of_ble_eq_true rfl)⟩ xd_MO_read_68 rfl (fun n3 h3 q3 => ?_)
          obtain ⟨rfl, f3, r3⟩ := q3
          have f3 : mo_fr p h h3 := (f1.x (by omega)).tr f3
          clear ho
          obtain ⟨ho, ⟨g3, hs3, hg3⟩, -⟩ := id r3
          refine xv_aload_n (pc' := 72) (i := 0) hF xd_MO_read_71 rfl rfl rfl ?_
          refine xv_iconstN (pc' := 73) 3 hF xd_MO_read_72 (by decide +kernel) rfl ?_
          refine xv_aload_n (pc' := 74) (i := 0) hF xd_MO_read_73 rfl rfl rfl ?_
          refine xv_get (pc' := 77) (ci := 6) hF (by first | assumption | exact xu_self | (refine (xu_ne (by omega)).trans ?_; first | assumption | exact xu_self | (refine (xu_ne (by omega)).trans ?_; first | assumption | exact xu_self | (refine (xu_ne (by omega)).trans ?_; first | assumption | exact xu_self | (refine (xu_ne (by omega)).trans ?_; first | assumption | exact xu_self))))) rfl xu_MO 17 (by decide) xk_MO_f114 (by rfl) xd_MO_read_74 rfl ?_
          first | refine xv_imulN (pc' := 78) hF xd_MO_read_77 rfl ?_ | refine xv_imul (pc' := 78) hF xd_MO_read_77 rfl ?_
          refine xv_iconstN (pc' := 79) 1 hF xd_MO_read_78 (by decide +kernel) rfl ?_
          first | refine xv_iaddN (pc' := 80) hF xd_MO_read_79 rfl ?_ | refine xv_iadd (pc' := 80) hF xd_MO_read_79 rfl ?_
          refine xv_iconstN (pc' := 81) 1 hF xd_MO_read_80 (by decide +kernel) rfl ?_
          refine xv_topi (v' := xb true) (by decide +kernel) ?_
          refine xv_callVv (pc' := 84) (ci := 6) hF (c_MO_plain K n h3 p th ma sz ln (a + 1) 0 op1 mk (3 * op1 + 1) true g3 _ ho hs3 hg3 (by omega)) xq_MO_plain xk_MO_m97 xk_i_MO_plain xk_s_MO_plain (by first | assumption | exact xu_self | (refine (xu_ne (by omega)).trans ?_; first | assumption | exact xu_self | (refine (xu_ne (by omega)).trans ?_; first | assumption | exact xu_self | (refine (xu_ne (by omega)).trans ?_; first | assumption | exact xu_self | (refine (xu_ne (by omega)).trans ?_; first | assumption | exact xu_self))))) rfl ⟨(Nat.le_of_ble_eq_true rfl), (Nat.le_of_ble_eq_true rfl)⟩ rfl rfl (Nat.le_of_ble_eq_true rfl) ⟨(Nat.le_of_ble_eq_true rfl), (Nat.le_of_ble_eq_true rfl)⟩ xd_MO_read_81 rfl (fun n4 h4 q4 => ?_)
          obtain ⟨rfl, g4, rfl, hg4⟩ := q4
          have r4 := r3.sq hg4
          clear ho hs3 hg3
          obtain ⟨ho, -, ⟨sf, hso, hso2⟩, -⟩ := id r4
          refine xv_aload_n (pc' := 85) (i := 0) hF xd_MO_read_84 rfl rfl rfl ?_
          refine xv_get (pc' := 88) (ci := 6) hF (by first | assumption | exact xu_self | (refine (xu_ne (by omega)).trans ?_; first | assumption | exact xu_self | (refine (xu_ne (by omega)).trans ?_; first | assumption | exact xu_self | (refine (xu_ne (by omega)).trans ?_; first | assumption | exact xu_self | (refine (xu_ne (by omega)).trans ?_; first | assumption | exact xu_self))))) rfl xu_MO 15 (by decide) xk_MO_f36 (by rfl) xd_MO_read_85 rfl ?_
          refine xv_iconstN (pc' := 89) 3 hF xd_MO_read_88 (by decide +kernel) rfl ?_
          refine xv_aload_n (pc' := 90) (i := 0) hF xd_MO_read_89 rfl rfl rfl ?_
          refine xv_get (pc' := 93) (ci := 6) hF (by first | assumption | exact xu_self | (refine (xu_ne (by omega)).trans ?_; first | assumption | exact xu_self | (refine (xu_ne (by omega)).trans ?_; first | assumption | exact xu_self | (refine (xu_ne (by omega)).trans ?_; first | assumption | exact xu_self | (refine (xu_ne (by omega)).trans ?_; first | assumption | exact xu_self))))) rfl xu_MO 17 (by decide) xk_MO_f114 (by rfl) xd_MO_read_90 rfl ?_
          first | refine xv_imulN (pc' := 94) hF xd_MO_read_93 rfl ?_ | refine xv_imul (pc' := 94) hF xd_MO_read_93 rfl ?_
          refine xv_iconstN (pc' := 95) 1 hF xd_MO_read_94 (by decide +kernel) rfl ?_
          first | refine xv_iaddN (pc' := 96) hF xd_MO_read_95 rfl ?_ | refine xv_iadd (pc' := 96) hF xd_MO_read_95 rfl ?_
          refine xv_iconstN (pc' := 97) 0 hF xd_MO_read_96 (by decide +kernel) rfl ?_
          refine xv_iastN (pc' := 98) hF (by first | assumption | exact xu_self | (refine (xu_ne (by omega)).trans ?_; first | assumption | exact xu_self | (refine (xu_ne (by omega)).trans ?_; first | assumption | exact xu_self | (refine (xu_ne (by omega)).trans ?_; first | assumption | exact xu_self | (refine (xu_ne (by omega)).trans ?_; first | assumption | exact xu_self))))) (by omega) (by decide) xd_MO_read_97 rfl ?_
          have r5 := r4.so (so_up hso2 (3 * op1 + 1) 0)
          have hr2 : rp_run tx q0 (a + 1) = some (rp_ap 1 (rp_ap 7 (rp_er q))) := by
            refine rp_run_s hrun ?_
            rw [hstep, ← ea, e1]
            rfl
          have hir2 : (rp_ap 1 (rp_ap 7 (rp_er q))).2.2.1 = false := rp_er_ir q
          have ht := hti.bar (rp_er_ir q)
          refine xv_goto (tgt := 139) hF xd_MO_read_98 (by decide) ?_
          exact xv_loc _ (by repeat (first | exact trivial | refine ⟨rfl, ?_⟩)) (cont (a + 1) _ _ _ _ op1 _ (by omega) (by omega) ((f3.x (by omega)).x (by omega)) r5 hr2 (by show (rp_er q).1 = 0; omega) (by rw [rp_er_id hir2]; exact ht) (fun h => by rw [hir2] at h; cases h))
      refine xv_iload_n (pc' := 3) (i := 1) hF xd_MO_read_2 rfl rfl rfl ?_
      refine xv_if_eqN (pc' := 6) (tgt := 142) hF (by omega) xd_MO_read_3 (by decide) rfl (fun e1 => ?_) (fun e1 => ?_)
      · omega
      · refine xv_aload_n (pc' := 7) (i := 0) hF xd_MO_read_6 rfl rfl rfl ?_
        refine xv_callVi (pc' := 10) (ci := 6) hF (c_MO_goes K n h1 p th ma sz ln a 0 op1 mk ho (by omega)) xq_MO_goes xk_MO_m81 xk_i_MO_goes xk_s_MO_goes (by first | assumption | exact xu_self | (refine (xu_ne (by omega)).trans ?_; first | assumption | exact xu_self | (refine (xu_ne (by omega)).trans ?_; first | assumption | exact xu_self | (refine (xu_ne (by omega)).trans ?_; first | assumption | exact xu_self | (refine (xu_ne (by omega)).trans ?_; first | assumption | exact xu_self))))) rfl ⟨(Nat.le_of_ble_eq_true rfl), (Nat.le_of_ble_eq_true rfl)⟩ rfl rfl (Nat.le_of_ble_eq_true rfl) ⟨(Nat.le_of_ble_eq_true rfl), (Nat.le_of_ble_eq_true rfl)⟩ xd_MO_read_7 rfl (fun r3 n3 h3 q3 => ?_)
        obtain ⟨rfl, rfl, rfl⟩ := q3
        rw [decide_eq_true rfl]
        refine xv_if_eqB (pc' := 13) (tgt := 142) hF xd_MO_read_10 (by decide) rfl (fun e2 => ?_) (fun e2 => ?_)
        · cases e2
        · refine xv_aload_n (pc' := 14) (i := 0) hF xd_MO_read_13 rfl rfl rfl ?_
          refine xv_callVi (pc' := 17) (ci := 6) hF (c_MO_nowS K n h1 p th ma sz ln a 0 op1 mk tx E Tg S1 so1 ba1 r1) xq_MO_now xk_MO_m85 xk_i_MO_now xk_s_MO_now (by first | assumption | exact xu_self | (refine (xu_ne (by omega)).trans ?_; first | assumption | exact xu_self | (refine (xu_ne (by omega)).trans ?_; first | assumption | exact xu_self | (refine (xu_ne (by omega)).trans ?_; first | assumption | exact xu_self | (refine (xu_ne (by omega)).trans ?_; first | assumption | exact xu_self))))) rfl ⟨(Nat.le_of_ble_eq_true rfl), (Nat.le_of_ble_eq_true rfl)⟩ rfl rfl (Nat.le_of_ble_eq_true rfl) ⟨(Nat.le_of_ble_eq_true rfl), (Nat.le_of_ble_eq_true rfl)⟩ xd_MO_read_14 rfl (fun r3 n3 h3 q3 => ?_)
          obtain ⟨rfl, rfl, rfl⟩ := q3
          refine xv_istore_n (pc' := 18) (i := 2) hF xd_MO_read_17 rfl (Nat.le_of_ble_eq_true rfl) rfl rfl ?_
          refine xv_iload_n (pc' := 19) (i := 2) hF xd_MO_read_18 rfl rfl rfl ?_
          refine xv_bipushN (pc' := 21) 40 hF xd_MO_read_19 (by decide +kernel) rfl ?_
          refine xv_icmp_neN (pc' := 24) (tgt := 31) hF (by omega) (by omega) xd_MO_read_21 (by decide) rfl (fun e3 => ?_) (fun e3 => ?_)
          · refine xv_iload_n (pc' := 32) (i := 2) hF xd_MO_read_31 rfl rfl rfl ?_
            refine xv_bipushN (pc' := 34) 41 hF xd_MO_read_32 (by decide +kernel) rfl ?_
            refine xv_icmp_neN (pc' := 37) (tgt := 51) hF (by omega) (by omega) xd_MO_read_34 (by decide) rfl (fun e4 => ?_) (fun e4 => ?_)
            · exact xv_loc _ (by repeat (first | exact trivial | refine ⟨rfl, ?_⟩)) (s51 e3 (fun h => absurd h e4))
            · refine xv_aload_n (pc' := 38) (i := 0) hF xd_MO_read_37 rfl rfl rfl ?_
              refine xv_get (pc' := 41) (ci := 6) hF (by first | assumption | exact xu_self | (refine (xu_ne (by omega)).trans ?_; first | assumption | exact xu_self | (refine (xu_ne (by omega)).trans ?_; first | assumption | exact xu_self | (refine (xu_ne (by omega)).trans ?_; first | assumption | exact xu_self | (refine (xu_ne (by omega)).trans ?_; first | assumption | exact xu_self))))) rfl xu_MO 17 (by decide) xk_MO_f114 (by rfl) xd_MO_read_38 rfl ?_
              refine xv_if_leN (pc' := 44) (tgt := 51) hF (by omega) xd_MO_read_41 (by decide) rfl (fun e5 => ?_) (fun e5 => ?_)
              · exact xv_loc _ (by repeat (first | exact trivial | refine ⟨rfl, ?_⟩)) (s51 e3 (fun _ => e5))
              · refine xv_aload_n (pc' := 45) (i := 0) hF xd_MO_read_44 rfl rfl rfl ?_
                refine xv_callVv (pc' := 48) (ci := 6) hF (c_MO_shuts K n h1 p th ma sz ln a f op1 mk tx E Tg S1 so1 ba1 q0 q r1 e4 e5 hrun hst hti) xq_MO_shuts xk_MO_m123 xk_i_MO_shuts xk_s_MO_shuts (by first | assumption | exact xu_self | (refine (xu_ne (by omega)).trans ?_; first | assumption | exact xu_self | (refine (xu_ne (by omega)).trans ?_; first | assumption | exact xu_self | (refine (xu_ne (by omega)).trans ?_; first | assumption | exact xu_self | (refine (xu_ne (by omega)).trans ?_; first | assumption | exact xu_self))))) rfl ⟨(Nat.le_of_ble_eq_true rfl), (Nat.le_of_ble_eq_true rfl)⟩ rfl rfl (Nat.le_of_ble_eq_true rfl) ⟨(Nat.le_of_ble_eq_true rfl), (Nat.le_of_ble_eq_true rfl)⟩ xd_MO_read_45 rfl (fun n4 h4 q4 => ?_)
                obtain ⟨rfl, f4, a', f', S', so', y6, r4⟩ := q4
                refine xv_goto (tgt := 139) hF xd_MO_read_48 (by decide) ?_
                exact xv_loc _ (by repeat (first | exact trivial | refine ⟨rfl, ?_⟩)) (sgn (a + 1) a' f' h4 S' so' _ _ (by omega) (f1.tr f4) y6 r4)
          · obtain ⟨la, ea⟩ := mo_c_in (k := a) (tx := tx) (ln := ln) (by omega)
            refine xv_aload_n (pc' := 25) (i := 0) hF xd_MO_read_24 rfl rfl rfl ?_
            refine xv_callVv (pc' := 28) (ci := 6) hF (c_MO_opens K n h1 p th ma sz ln a 0 op1 mk tx E Tg S1 so1 ba1 r1 la) xq_MO_opens xk_MO_m120 xk_i_MO_opens xk_s_MO_opens (by first | assumption | exact xu_self | (refine (xu_ne (by omega)).trans ?_; first | assumption | exact xu_self | (refine (xu_ne (by omega)).trans ?_; first | assumption | exact xu_self | (refine (xu_ne (by omega)).trans ?_; first | assumption | exact xu_self | (refine (xu_ne (by omega)).trans ?_; first | assumption | exact xu_self))))) rfl ⟨(Nat.le_of_ble_eq_true rfl), (Nat.le_of_ble_eq_true rfl)⟩ rfl rfl (Nat.le_of_ble_eq_true rfl) ⟨(Nat.le_of_ble_eq_true rfl), (Nat.le_of_ble_eq_true rfl)⟩ xd_MO_read_25 rfl (fun n4 h4 q4 => ?_)
            obtain ⟨rfl, f4, q4⟩ := q4
            refine xv_goto (tgt := 139) hF xd_MO_read_28 (by decide) ?_
            rcases q4 with ⟨y1, r4⟩ | ⟨y1, r4⟩
            · rw [if_pos rfl] at r4
              refine xv_loc _ (by repeat (first | exact trivial | refine ⟨rfl, ?_⟩)) (flt9 a (a + 1) h4 S1 so1 ba1 op1 (f1.tr f4) r4 (by omega) (Or.inl ⟨a, q, la, hrun, ?_, rfl⟩))
              rw [hstep, ← ea, e3]
              show (if q.2.1 = 10 then none else _) = _
              rw [if_pos (by omega)]
            · have hr2 : rp_run tx q0 (a + 1) = some (rp_sa (rp_up (rp_er q))) := by
                refine rp_run_s hrun ?_
                rw [hstep, ← ea, e3]
                show (if q.2.1 = 10 then none else some _) = _
                rw [if_neg (by omega)]
              have hir := rp_er_ir q
              have ht := hti.opn hir y1
              have hir2 : (rp_sa (rp_up (rp_er q))).2.2.1 = false := hir
              refine xv_loc _ (by repeat (first | exact trivial | refine ⟨rfl, ?_⟩)) (cont (a + 1) h4 _ _ _ (op1 + 1) _ (by omega) (by omega) (f1.tr f4) r4 hr2 (by show (rp_er q).1 = 0; omega) (by rw [rp_er_id hir2]; exact ht) (fun h => by rw [hir2] at h; cases h))
  refine xv_iconstN (pc' := 1) 1 hF xd_MO_read_0 (by decide +kernel) rfl ?_
  refine xv_istore_n (pc' := 2) (i := 1) hF xd_MO_read_1 rfl (Nat.le_of_ble_eq_true rfl) rfl rfl ?_
  exact xv_loc _ (by repeat (first | exact trivial | refine ⟨rfl, ?_⟩)) (loop _ at_ h S so ba op q1 rfl mo_fr.rf r hrun hst hti hsg)
