/-! the reference: signs -/
set_option maxHeartbeats 4000000 in
set_option maxRecDepth 100000 in
theorem c_MO_signsF (K : xK) (n : Nat) (h : xH) (p th ma sz ln at_ f op : Nat) (mk : Bool) (tx : Nat → Nat) (E : Nat → Nat → Nat → Bool) (Tg : Nat → Nat → Bool) (S : Nat → Nat → Nat → Nat) (so : Nat → Nat) (ba : Nat → Bool) (r : mo_S K h p th ma sz ln at_ f op mk tx E Tg (S) (so) (ba)) (hf : f ≠ 0) : XM K xy_MO_signs xw_MO_signs (xrm 4 74 0 0) [.ref p] n h (x_pv fun n' h' => n = n' ∧ mo_fr p h h' ∧ ∃ S' so', mo_S K h' p th ma sz ln at_ f op mk tx E Tg (S') (so') (ba)) 0 0 := by
  have ho := r.1
  obtain ⟨b1, b2, b3, b4, b5⟩ := id r.2.2.2.2.2.2.2
  refine xm_v (by decide +kernel) (Nat.le_of_ble_eq_true rfl) (fun G hF hR => ?_)
  have tail : ∀ a' f' h1 S1 so1, mo_fr p h h1 → mo_S K h1 p th ma sz ln a' f' op mk tx E Tg (S1) (so1) (ba) → (∀ h2 S2, mo_fr p h h2 → mo_S K h2 p th ma sz ln a' f' op mk tx E Tg (S2) (va_up so1 (3 * op + 1) (so1 (3 * op + 1) + so1 (3 * op + 2))) (ba) → (∀ t, t < 36 → t ≠ 3 * op + 1 → S2 t = S1 t) → (mk = true → S2 (3 * op + 1) = (fun x y => md_ch (S1 (3 * op + 1)) (S1 (3 * op + 2)) x 32 y)) → (n = n ∧ mo_fr p h h2 ∧ ∃ S' so', mo_S K h2 p th ma sz ln at_ f op mk tx E Tg (S') (so') (ba))) → XV G 0 0 135 [(1, .int (nI (3 * op + 2))), (0, .ref p)] [] n h1 := by
    intro a' f' h1 S1 so1 f1 r1 hpost
    obtain ⟨ho, ⟨g1, hs1, hg1⟩, -, -, -, -, -, b1, -⟩ := id r1
    refine xv_aload_n (pc' := 136) (i := 0) hF xd_MO_signs_135 rfl rfl rfl ?_
    refine xv_iload_n (pc' := 137) (i := 1) hF xd_MO_signs_136 rfl rfl rfl ?_
    refine xv_iconstN (pc' := 138) 1 hF xd_MO_signs_137 (by decide +kernel) rfl ?_
    first | refine xv_isubN (pc' := 139) hF (by omega) xd_MO_signs_138 rfl ?_ | refine xv_isub (pc' := 139) hF xd_MO_signs_138 rfl ?_
    refine xv_topi (v' := nI (3 * op + 1)) rfl ?_
    refine xv_iload_n (pc' := 140) (i := 1) hF xd_MO_signs_139 rfl rfl rfl ?_
    refine xv_callVv (pc' := 143) (ci := 6) hF (c_MO_behind K n h1 p th ma sz ln a' f' op mk (3 * op + 1) (3 * op + 2) g1 S1 ho hs1 hg1 (by omega) (by omega)) xq_MO_behind xk_MO_m152 xk_i_MO_behind xk_s_MO_behind (by first | assumption | exact xu_self | (refine (xu_ne (by omega)).trans ?_; first | assumption | exact xu_self | (refine (xu_ne (by omega)).trans ?_; first | assumption | exact xu_self | (refine (xu_ne (by omega)).trans ?_; first | assumption | exact xu_self | (refine (xu_ne (by omega)).trans ?_; first | assumption | exact xu_self))))) rfl ⟨(Nat.le_of_ble_eq_true rfl), (Nat.le_of_ble_eq_true rfl)⟩ rfl rfl (Nat.le_of_ble_eq_true rfl) ⟨(Nat.le_of_ble_eq_true rfl), (Nat.le_of_ble_eq_true rfl)⟩ xd_MO_signs_140 rfl (fun n2 h2 q2 => ?_)
    obtain ⟨rfl, g2, rfl, hg2⟩ := q2
    have r2 := r1.sq hg2
    clear ho
    obtain ⟨ho, -, ⟨sf, hso, hso2⟩, -⟩ := id r2
    refine xv_aload_n (pc' := 144) (i := 0) hF xd_MO_signs_143 rfl rfl rfl ?_
    refine xv_get (pc' := 147) (ci := 6) hF (by first | assumption | exact xu_self | (refine (xu_ne (by omega)).trans ?_; first | assumption | exact xu_self | (refine (xu_ne (by omega)).trans ?_; first | assumption | exact xu_self | (refine (xu_ne (by omega)).trans ?_; first | assumption | exact xu_self | (refine (xu_ne (by omega)).trans ?_; first | assumption | exact xu_self))))) rfl xu_MO 15 (by decide) xk_MO_f36 (by rfl) xd_MO_signs_144 rfl ?_
    refine xv_iload_n (pc' := 148) (i := 1) hF xd_MO_signs_147 rfl rfl rfl ?_
    refine xv_iconstN (pc' := 149) 1 hF xd_MO_signs_148 (by decide +kernel) rfl ?_
    first | refine xv_isubN (pc' := 150) hF (by omega) xd_MO_signs_149 rfl ?_ | refine xv_isub (pc' := 150) hF xd_MO_signs_149 rfl ?_
    refine xv_topi (v' := nI (3 * op + 1)) rfl ?_
    refine xv_dup2 (pc' := 151) hF xd_MO_signs_150 rfl rfl rfl ?_
    first | refine xv_ialdN (pc' := 152) hF (by first | assumption | exact xu_self | (refine (xu_ne (by omega)).trans ?_; first | assumption | exact xu_self | (refine (xu_ne (by omega)).trans ?_; first | assumption | exact xu_self | (refine (xu_ne (by omega)).trans ?_; first | assumption | exact xu_self | (refine (xu_ne (by omega)).trans ?_; first | assumption | exact xu_self))))) (by omega) (by decide) xd_MO_signs_151 rfl ?_ | refine xv_iald (pc' := 152) hF (by first | assumption | exact xu_self | (refine (xu_ne (by omega)).trans ?_; first | assumption | exact xu_self | (refine (xu_ne (by omega)).trans ?_; first | assumption | exact xu_self | (refine (xu_ne (by omega)).trans ?_; first | assumption | exact xu_self | (refine (xu_ne (by omega)).trans ?_; first | assumption | exact xu_self))))) (by omega) xd_MO_signs_151 rfl ?_
    refine xv_topi (v' := nI (so1 (3 * op + 1))) (hso2 _ (by omega)) ?_
    refine xv_aload_n (pc' := 153) (i := 0) hF xd_MO_signs_152 rfl rfl rfl ?_
    refine xv_get (pc' := 156) (ci := 6) hF (by first | assumption | exact xu_self | (refine (xu_ne (by omega)).trans ?_; first | assumption | exact xu_self | (refine (xu_ne (by omega)).trans ?_; first | assumption | exact xu_self | (refine (xu_ne (by omega)).trans ?_; first | assumption | exact xu_self | (refine (xu_ne (by omega)).trans ?_; first | assumption | exact xu_self))))) rfl xu_MO 15 (by decide) xk_MO_f36 (by rfl) xd_MO_signs_153 rfl ?_
    refine xv_iload_n (pc' := 157) (i := 1) hF xd_MO_signs_156 rfl rfl rfl ?_
    first | refine xv_ialdN (pc' := 158) hF (by first | assumption | exact xu_self | (refine (xu_ne (by omega)).trans ?_; first | assumption | exact xu_self | (refine (xu_ne (by omega)).trans ?_; first | assumption | exact xu_self | (refine (xu_ne (by omega)).trans ?_; first | assumption | exact xu_self | (refine (xu_ne (by omega)).trans ?_; first | assumption | exact xu_self))))) (by omega) (by decide) xd_MO_signs_157 rfl ?_ | refine xv_iald (pc' := 158) hF (by first | assumption | exact xu_self | (refine (xu_ne (by omega)).trans ?_; first | assumption | exact xu_self | (refine (xu_ne (by omega)).trans ?_; first | assumption | exact xu_self | (refine (xu_ne (by omega)).trans ?_; first | assumption | exact xu_self | (refine (xu_ne (by omega)).trans ?_; first | assumption | exact xu_self))))) (by omega) xd_MO_signs_157 rfl ?_
    refine xv_topi (v' := nI (so1 (3 * op + 2))) (hso2 _ (by omega)) ?_
    first | refine xv_iaddN (pc' := 159) hF xd_MO_signs_158 rfl ?_ | refine xv_iadd (pc' := 159) hF xd_MO_signs_158 rfl ?_
    refine xv_iastN (pc' := 160) hF (by first | assumption | exact xu_self | (refine (xu_ne (by omega)).trans ?_; first | assumption | exact xu_self | (refine (xu_ne (by omega)).trans ?_; first | assumption | exact xu_self | (refine (xu_ne (by omega)).trans ?_; first | assumption | exact xu_self | (refine (xu_ne (by omega)).trans ?_; first | assumption | exact xu_self))))) (by omega) (by decide) xd_MO_signs_159 rfl ?_
    have r3 := r2.so (so_up hso2 (3 * op + 1) (so1 (3 * op + 1) + so1 (3 * op + 2)))
    refine hR _ _ _ _ _ _ (by omega) (by omega) ?_ xd_MO_signs_160
    refine hpost _ _ ((f1.x (by omega)).x (by omega)) r3 (fun t ht hne => ?_) (fun hm => ?_)
    · cases mk
      · rfl
      · simp only [if_true]
        rw [va_n hne, va_n (by omega)]
    · subst hm
      simp only [if_true]
      rw [va_s]

  refine xv_iconstN (pc' := 1) 3 hF xd_MO_signs_0 (by decide +kernel) rfl ?_
  refine xv_aload_n (pc' := 2) (i := 0) hF xd_MO_signs_1 rfl rfl rfl ?_
  refine xv_get (pc' := 5) (ci := 6) hF (by first | assumption | exact xu_self | (refine (xu_ne (by omega)).trans ?_; first | assumption | exact xu_self | (refine (xu_ne (by omega)).trans ?_; first | assumption | exact xu_self | (refine (xu_ne (by omega)).trans ?_; first | assumption | exact xu_self | (refine (xu_ne (by omega)).trans ?_; first | assumption | exact xu_self))))) rfl xu_MO 17 (by decide) xk_MO_f114 (by rfl) xd_MO_signs_2 rfl ?_
  first | refine xv_imulN (pc' := 6) hF xd_MO_signs_5 rfl ?_ | refine xv_imul (pc' := 6) hF xd_MO_signs_5 rfl ?_
  refine xv_iconstN (pc' := 7) 2 hF xd_MO_signs_6 (by decide +kernel) rfl ?_
  first | refine xv_iaddN (pc' := 8) hF xd_MO_signs_7 rfl ?_ | refine xv_iadd (pc' := 8) hF xd_MO_signs_7 rfl ?_
  refine xv_istore_n (pc' := 9) (i := 1) hF xd_MO_signs_8 rfl (Nat.le_of_ble_eq_true rfl) rfl rfl ?_
  refine xv_aload_n (pc' := 10) (i := 0) hF xd_MO_signs_9 rfl rfl rfl ?_
  refine xv_callVi (pc' := 13) (ci := 6) hF (c_MO_goes K n h p th ma sz ln at_ f op mk ho (by omega)) xq_MO_goes xk_MO_m81 xk_i_MO_goes xk_s_MO_goes (by first | assumption | exact xu_self | (refine (xu_ne (by omega)).trans ?_; first | assumption | exact xu_self | (refine (xu_ne (by omega)).trans ?_; first | assumption | exact xu_self | (refine (xu_ne (by omega)).trans ?_; first | assumption | exact xu_self | (refine (xu_ne (by omega)).trans ?_; first | assumption | exact xu_self))))) rfl ⟨(Nat.le_of_ble_eq_true rfl), (Nat.le_of_ble_eq_true rfl)⟩ rfl rfl (Nat.le_of_ble_eq_true rfl) ⟨(Nat.le_of_ble_eq_true rfl), (Nat.le_of_ble_eq_true rfl)⟩ xd_MO_signs_10 rfl (fun r1 n1 h1 q1 => ?_)
  obtain ⟨rfl, rfl, rfl⟩ := q1
  rw [decide_eq_false hf]
  refine xv_if_eqB (pc' := 16) (tgt := 135) hF xd_MO_signs_13 (by decide) rfl (fun e1 => ?_) (fun e1 => ?_)
  · exact xv_loc _ (by repeat (first | exact trivial | refine ⟨rfl, ?_⟩)) (tail at_ f h S so mo_fr.rf r (fun h2 S2 f2 r2 _ _ => ⟨rfl, f2, _, _, r2⟩))
  · cases e1
def sg (c : Nat) : Prop := c = 42 ∨ c = 43 ∨ c = 63 ∨ c = 123
theorem sg_min {s u : Nat} (hu : u ≠ 0) : min (min s 81 * u) 81 = min (min (s * u) 1000) 81 := by
  by_cases c : s ≤ 81
  · rw [Nat.min_eq_left c]; omega
  · have e1 : 81 ≤ 81 * u := Nat.le_mul_of_pos_right _ (by omega)
    have e2 : s ≤ s * u := Nat.le_mul_of_pos_right _ (by omega)
    rw [Nat.min_eq_right (show 81 ≤ s by omega)]
    omega
/-- what signs end with -/
def sg_end (E : Nat → Nat → Nat → Bool) (Tg : Nat → Nat → Bool) (mk : Bool) (ln : Nat) (tx : Nat → Nat) (q0 : rs_T) (a0 : Nat) (S : Nat → Nat → Nat → Nat) (so : Nat → Nat) (ba : Nat → Bool) (op a f : Nat) : Prop := (f = 0 ∧ a0 ≤ a ∧ a ≤ ln ∧ ∃ q, rp_run tx q0 a = some q ∧ q.1 = 0 ∧ ti_R E Tg mk S so ba op a (rp_er q) ∧ ¬ sg (mo_c ln tx a)) ∨ (f ≠ 0 ∧ rd_bad ln tx q0 f)
set_option maxHeartbeats 4000000 in
set_option maxRecDepth 100000 in
theorem c_MO_signs (K : xK) (n : Nat) (h : xH) (p th ma sz ln at_ f op : Nat) (mk : Bool) (tx : Nat → Nat) (E : Nat → Nat → Nat → Bool) (Tg : Nat → Nat → Bool) (S : Nat → Nat → Nat → Nat) (so : Nat → Nat) (ba : Nat → Bool) (q0 q1 : rs_T) (r : mo_S K h p th ma sz ln at_ 0 op mk tx E Tg (S) (so) (ba)) (hrun : rp_run tx q0 at_ = some q1) (hst : q1.1 = 0) (hir : q1.2.2.1 = true) (hti : ti_R E Tg mk S so ba op at_ q1) : XM K xy_MO_signs xw_MO_signs (xrm 4 74 0 0) [.ref p] n h (x_pv fun n' h' => n = n' ∧ mo_fr p h h' ∧ ∃ a' f' S' so', sg_end E Tg mk ln tx q0 at_ S' so' ba op a' f' ∧ mo_S K h' p th ma sz ln a' f' op mk tx E Tg (S') (so') (ba)) 0 0 := by
  obtain ⟨b1, b2, b3, b4, b5⟩ := id r.2.2.2.2.2.2.2
  have ho0 := r.1
  have m256 := fun k => mo_c_lt (k := k) b5
  refine xm_v (by decide +kernel) (Nat.le_of_ble_eq_true rfl) (fun G hF hR => ?_)
  have tail : ∀ a' f' h1 S1 so1, mo_fr p h h1 → mo_S K h1 p th ma sz ln a' f' op mk tx E Tg (S1) (so1) (ba) → (∀ h2 S2, mo_fr p h h2 → mo_S K h2 p th ma sz ln a' f' op mk tx E Tg (S2) (va_up so1 (3 * op + 1) (so1 (3 * op + 1) + so1 (3 * op + 2))) (ba) → (∀ t, t < 36 → t ≠ 3 * op + 1 → S2 t = S1 t) → (mk = true → S2 (3 * op + 1) = (fun x y => md_ch (S1 (3 * op + 1)) (S1 (3 * op + 2)) x 32 y)) → (n = n ∧ mo_fr p h h2 ∧ ∃ a' f' S' so', sg_end E Tg mk ln tx q0 at_ S' so' ba op a' f' ∧ mo_S K h2 p th ma sz ln a' f' op mk tx E Tg (S') (so') (ba))) → XV G 0 0 135 [(1, .int (nI (3 * op + 2))), (0, .ref p)] [] n h1 := by
    intro a' f' h1 S1 so1 f1 r1 hpost
    obtain ⟨ho, ⟨g1, hs1, hg1⟩, -, -, -, -, -, b1, -⟩ := id r1
    refine xv_aload_n (pc' := 136) (i := 0) hF xd_MO_signs_135 rfl rfl rfl ?_
    refine xv_iload_n (pc' := 137) (i := 1) hF xd_MO_signs_136 rfl rfl rfl ?_
    refine xv_iconstN (pc' := 138) 1 hF xd_MO_signs_137 (by decide +kernel) rfl ?_
    first | refine xv_isubN (pc' := 139) hF (by omega) xd_MO_signs_138 rfl ?_ | refine xv_isub (pc' := 139) hF xd_MO_signs_138 rfl ?_
    refine xv_topi (v' := nI (3 * op + 1)) rfl ?_
    refine xv_iload_n (pc' := 140) (i := 1) hF xd_MO_signs_139 rfl rfl rfl ?_
    refine xv_callVv (pc' := 143) (ci := 6) hF (c_MO_behind K n h1 p th ma sz ln a' f' op mk (3 * op + 1) (3 * op + 2) g1 S1 ho hs1 hg1 (by omega) (by omega)) xq_MO_behind xk_MO_m152 xk_i_MO_behind xk_s_MO_behind (by first | assumption | exact xu_self | (refine (xu_ne (by omega)).trans ?_; first | assumption | exact xu_self | (refine (xu_ne (by omega)).trans ?_; first | assumption | exact xu_self | (refine (xu_ne (by omega)).trans ?_; first | assumption | exact xu_self | (refine (xu_ne (by omega)).trans ?_; first | assumption | exact xu_self))))) rfl ⟨(Nat.le_of_ble_eq_true rfl), (Nat.le_of_ble_eq_true rfl)⟩ rfl rfl (Nat.le_of_ble_eq_true rfl) ⟨(Nat.le_of_ble_eq_true rfl), (Nat.le_of_ble_eq_true rfl)⟩ xd_MO_signs_140 rfl (fun n2 h2 q2 => ?_)
    obtain ⟨rfl, g2, rfl, hg2⟩ := q2
    have r2 := r1.sq hg2
    clear ho
    obtain ⟨ho, -, ⟨sf, hso, hso2⟩, -⟩ := id r2
    refine xv_aload_n (pc' := 144) (i := 0) hF xd_MO_signs_143 rfl rfl rfl ?_
    refine xv_get (pc' := 147) (ci := 6) hF (by first | assumption | exact xu_self | (refine (xu_ne (by omega)).trans ?_; first | assumption | exact xu_self | (refine (xu_ne (by omega)).trans ?_; first | assumption | exact xu_self | (refine (xu_ne (by omega)).trans ?_; first | assumption | exact xu_self | (refine (xu_ne (by omega)).trans ?_; first | assumption | exact xu_self))))) rfl xu_MO 15 (by decide) xk_MO_f36 (by rfl) xd_MO_signs_144 rfl ?_
    refine xv_iload_n (pc' := 148) (i := 1) hF xd_MO_signs_147 rfl rfl rfl ?_
    refine xv_iconstN (pc' := 149) 1 hF xd_MO_signs_148 (by decide +kernel) rfl ?_
    first | refine xv_isubN (pc' := 150) hF (by omega) xd_MO_signs_149 rfl ?_ | refine xv_isub (pc' := 150) hF xd_MO_signs_149 rfl ?_
    refine xv_topi (v' := nI (3 * op + 1)) rfl ?_
    refine xv_dup2 (pc' := 151) hF xd_MO_signs_150 rfl rfl rfl ?_
    first | refine xv_ialdN (pc' := 152) hF (by first | assumption | exact xu_self | (refine (xu_ne (by omega)).trans ?_; first | assumption | exact xu_self | (refine (xu_ne (by omega)).trans ?_; first | assumption | exact xu_self | (refine (xu_ne (by omega)).trans ?_; first | assumption | exact xu_self | (refine (xu_ne (by omega)).trans ?_; first | assumption | exact xu_self))))) (by omega) (by decide) xd_MO_signs_151 rfl ?_ | refine xv_iald (pc' := 152) hF (by first | assumption | exact xu_self | (refine (xu_ne (by omega)).trans ?_; first | assumption | exact xu_self | (refine (xu_ne (by omega)).trans ?_; first | assumption | exact xu_self | (refine (xu_ne (by omega)).trans ?_; first | assumption | exact xu_self | (refine (xu_ne (by omega)).trans ?_; first | assumption | exact xu_self))))) (by omega) xd_MO_signs_151 rfl ?_
    refine xv_topi (v' := nI (so1 (3 * op + 1))) (hso2 _ (by omega)) ?_
    refine xv_aload_n (pc' := 153) (i := 0) hF xd_MO_signs_152 rfl rfl rfl ?_
    refine xv_get (pc' := 156) (ci := 6) hF (by first | assumption | exact xu_self | (refine (xu_ne (by omega)).trans ?_; first | assumption | exact xu_self | (refine (xu_ne (by omega)).trans ?_; first | assumption | exact xu_self | (refine (xu_ne (by omega)).trans ?_; first | assumption | exact xu_self | (refine (xu_ne (by omega)).trans ?_; first | assumption | exact xu_self))))) rfl xu_MO 15 (by decide) xk_MO_f36 (by rfl) xd_MO_signs_153 rfl ?_
    refine xv_iload_n (pc' := 157) (i := 1) hF xd_MO_signs_156 rfl rfl rfl ?_
    first | refine xv_ialdN (pc' := 158) hF (by first | assumption | exact xu_self | (refine (xu_ne (by omega)).trans ?_; first | assumption | exact xu_self | (refine (xu_ne (by omega)).trans ?_; first | assumption | exact xu_self | (refine (xu_ne (by omega)).trans ?_; first | assumption | exact xu_self | (refine (xu_ne (by omega)).trans ?_; first | assumption | exact xu_self))))) (by omega) (by decide) xd_MO_signs_157 rfl ?_ | refine xv_iald (pc' := 158) hF (by first | assumption | exact xu_self | (refine (xu_ne (by omega)).trans ?_; first | assumption | exact xu_self | (refine (xu_ne (by omega)).trans ?_; first | assumption | exact xu_self | (refine (xu_ne (by omega)).trans ?_; first | assumption | exact xu_self | (refine (xu_ne (by omega)).trans ?_; first | assumption | exact xu_self))))) (by omega) xd_MO_signs_157 rfl ?_
    refine xv_topi (v' := nI (so1 (3 * op + 2))) (hso2 _ (by omega)) ?_
    first | refine xv_iaddN (pc' := 159) hF xd_MO_signs_158 rfl ?_ | refine xv_iadd (pc' := 159) hF xd_MO_signs_158 rfl ?_
    refine xv_iastN (pc' := 160) hF (by first | assumption | exact xu_self | (refine (xu_ne (by omega)).trans ?_; first | assumption | exact xu_self | (refine (xu_ne (by omega)).trans ?_; first | assumption | exact xu_self | (refine (xu_ne (by omega)).trans ?_; first | assumption | exact xu_self | (refine (xu_ne (by omega)).trans ?_; first | assumption | exact xu_self))))) (by omega) (by decide) xd_MO_signs_159 rfl ?_
    have r3 := r2.so (so_up hso2 (3 * op + 1) (so1 (3 * op + 1) + so1 (3 * op + 2)))
    refine hR _ _ _ _ _ _ (by omega) (by omega) ?_ xd_MO_signs_160
    refine hpost _ _ ((f1.x (by omega)).x (by omega)) r3 (fun t ht hne => ?_) (fun hm => ?_)
    · cases mk
      · rfl
      · simp only [if_true]
        rw [va_n hne, va_n (by omega)]
    · subst hm
      simp only [if_true]
      rw [va_s]

  have loop : ∀ d a h1 S1 so1 q, ln - a = d → at_ ≤ a → mo_fr p h h1 → mo_S K h1 p th ma sz ln a 0 op mk tx E Tg (S1) (so1) (ba) → rp_run tx q0 a = some q → q.1 = 0 → q.2.2.1 = true → ti_R E Tg mk S1 so1 ba op a q → XV G 0 0 9 [(1, .int (nI (3 * op + 2))), (0, .ref p)] [] n h1 := by
    intro d
    induction d using Nat.strongRecOn with
    | ind d ih =>
      intro a h1 S1 so1 q hd hla f1 r1 hrun hst hir hti
      obtain ⟨st, op', ir, rs, le, mo, en, os⟩ := q
      dsimp only at hst hir
      have e0 : op' = op := hti.1
      subst hst hir e0
      have ho := r1.1
      obtain ⟨-, -, b3', -⟩ := id r1.2.2.2.2.2.2.2
      have m2a := m256 a
      have hH : oH os = 2 * (op' + 1) + 1 := hti.2.2.1
      have hrs : rs = min (so1 (3 * op' + 2)) 81 := hti.2.2.2.2.1 rfl
      have hp8 : mk = true → pd_mn (oA E Tg os (2 * op' + 2)) (S1 (3 * op' + 2)) := fun hm => hti.2.2.2.2.2.2.2 hm rfl
      have hsb : so1 (3 * op' + 2) ≤ 200000 := by
        have : sm (fun i => so1 (3 * i) + so1 (3 * i + 1)) (op' + 1) + so1 (3 * op' + 2) ≤ 1000 * a := hti.2.2.2.2.2.1
        omega
      have stop : ¬ sg (mo_c ln tx a) → XV G 0 0 135 [(1, .int (nI (3 * op' + 2))), (0, .ref p)] [] n h1 := by
        intro hn
        refine tail a 0 h1 S1 so1 f1 r1 (fun h2 S2 f2 r2 t1 t2 => ⟨rfl, f2, a, 0, S2, _, Or.inl ⟨rfl, hla, b3', _, hrun, rfl, hti.er rfl t1 t2, hn⟩, r2⟩)
      have go : sg (mo_c ln tx a) → XV G 0 0 52 [(1, .int (nI (3 * op' + 2))), (0, .ref p)] [] n h1 := by
        intro hsg
        obtain ⟨la, ea⟩ := mo_c_in (k := a) (tx := tx) (ln := ln) (by unfold sg at hsg; omega)
        refine xv_aload_n (pc' := 53) (i := 0) hF xd_MO_signs_52 rfl rfl rfl ?_
        refine xv_callVi (pc' := 56) (ci := 6) hF (c_MO_nowS K n h1 p th ma sz ln a 0 op' mk tx E Tg S1 so1 ba r1) xq_MO_now xk_MO_m85 xk_i_MO_now xk_s_MO_now (by first | assumption | exact xu_self | (refine (xu_ne (by omega)).trans ?_; first | assumption | exact xu_self | (refine (xu_ne (by omega)).trans ?_; first | assumption | exact xu_self | (refine (xu_ne (by omega)).trans ?_; first | assumption | exact xu_self | (refine (xu_ne (by omega)).trans ?_; first | assumption | exact xu_self))))) rfl ⟨(Nat.le_of_ble_eq_true rfl), (Nat.le_of_ble_eq_true rfl)⟩ rfl rfl (Nat.le_of_ble_eq_true rfl) ⟨(Nat.le_of_ble_eq_true rfl), (Nat.le_of_ble_eq_true rfl)⟩ xd_MO_signs_53 rfl (fun r2 n2 h2 q2 => ?_)
        obtain ⟨rfl, rfl, rfl⟩ := q2
        refine xv_istore_n (pc' := 57) (i := 2) hF xd_MO_signs_56 rfl (Nat.le_of_ble_eq_true rfl) rfl rfl ?_
        refine xv_aload_n (pc' := 58) (i := 0) hF xd_MO_signs_57 rfl rfl rfl ?_
        refine xv_dup (pc' := 59) hF xd_MO_signs_58 rfl rfl ?_
        refine xv_get (pc' := 62) (ci := 6) hF (by first | assumption | exact xu_self | (refine (xu_ne (by omega)).trans ?_; first | assumption | exact xu_self | (refine (xu_ne (by omega)).trans ?_; first | assumption | exact xu_self | (refine (xu_ne (by omega)).trans ?_; first | assumption | exact xu_self | (refine (xu_ne (by omega)).trans ?_; first | assumption | exact xu_self))))) rfl xu_MO 11 (by decide) xk_MO_f72 (by rfl) xd_MO_signs_59 rfl ?_
        refine xv_iconstN (pc' := 63) 1 hF xd_MO_signs_62 (by decide +kernel) rfl ?_
        first | refine xv_iaddN (pc' := 64) hF xd_MO_signs_63 rfl ?_ | refine xv_iadd (pc' := 64) hF xd_MO_signs_63 rfl ?_
        refine xv_put (pc' := 67) (ci := 6) (ty := xt_MO 11) hF (by first | assumption | exact xu_self | (refine (xu_ne (by omega)).trans ?_; first | assumption | exact xu_self | (refine (xu_ne (by omega)).trans ?_; first | assumption | exact xu_self | (refine (xu_ne (by omega)).trans ?_; first | assumption | exact xu_self | (refine (xu_ne (by omega)).trans ?_; first | assumption | exact xu_self))))) rfl xu_MO xt_MO xo_MO xn_MO 11 (by decide) xk_MO_f72 rfl (by decide +kernel) (by first | rfl | exact xb_nw _ | decide +kernel) (by first | rfl | exact xb_ft _ | decide +kernel) (by exact Nat.le_of_ble_eq_true rfl) (by dsimp only [List.set] <;> rfl) xd_MO_signs_64 rfl ?_
        have r2 := r1.ob (th' := th) (at' := a + 1) (f' := 0) (op' := op') (mk' := mk) b1 (by omega) (by omega)
        have f2 : mo_fr p h (xu h1 p (.inr (6, [.int (nI th), .ref (p + 1), .ref (p + 2), .int (nI ma), .ref (p + 3), .int (nI sz), .ref (p + 4), .ref (p + 5), .ref (p + 6), .ref (p + 7), .int (nI ln), .int (nI (a + 1)), .int (xm1 0), .int (xb mk), .ref (p + 8), .ref (p + 9), .ref (p + 10), .int (nI op'), .ref (p + 11), .ref (p + 12)]))) := f1.x (by omega)
        generalize xu h1 p (.inr (6, [.int (nI th), .ref (p + 1), .ref (p + 2), .int (nI ma), .ref (p + 3), .int (nI sz), .ref (p + 4), .ref (p + 5), .ref (p + 6), .ref (p + 7), .int (nI ln), .int (nI (a + 1)), .int (xm1 0), .int (xb mk), .ref (p + 8), .ref (p + 9), .ref (p + 10), .int (nI op'), .ref (p + 11), .ref (p + 12)])) = h2 at r2 f2 ⊢
        clear ho
        obtain ⟨ho, ⟨g2, hs2, hg2⟩, -⟩ := id r2
        have back : ∀ k h3 S3 B, mo_fr p h h3 → mo_S K h3 p th ma sz ln (a + 1) 0 op' mk tx E Tg (S3) (so1) (ba) → (k = 8 ∨ k = 9 ∨ k = 10) → rp_step (tx a) (0, op', true, rs, le, mo, en, os) = some (rp_ap k (0, op', true, rs, le, mo, en, os)) → (∀ t, t < 36 → t ≠ 3 * op' + 2 → S3 t = S1 t) → oA E Tg (os ++ [k + 16 * 0]) = va_up (oA E Tg os) (2 * op' + 2) B → (mk = true → pd_mn B (S3 (3 * op' + 2))) → XV G 0 0 132 [(2, .int (nI (mo_c ln tx a))), (1, .int (nI (3 * op' + 2))), (0, .ref p)] [] n h3 := by
          intro k h3 S3 B f3 r3 hk hs3 t1 t2 t3
          refine xv_goto (tgt := 9) hF xd_MO_signs_132 (by decide) ?_
          refine xv_loc _ (by repeat (first | exact trivial | refine ⟨rfl, ?_⟩)) (ih _ (by omega) (a + 1) h3 S3 so1 _ rfl (by omega) f3 r3 (rp_run_s hrun hs3) rfl rfl ?_)
          have := hti.chg (a' := a + 1) (st' := 0) (rs' := rs) (le' := le) (mo' := mo) (k := k) (m := 0) (z := so1 (3 * op' + 2)) (by omega) (by omega) t1 t2 t3 hrs (by omega) (by omega)
          rw [va_up_same] at this
          exact this
        refine xv_iload_n (pc' := 68) (i := 2) hF xd_MO_signs_67 rfl rfl rfl ?_
        refine xv_bipushN (pc' := 70) 123 hF xd_MO_signs_68 (by decide +kernel) rfl ?_
        refine xv_icmp_neN (pc' := 73) (tgt := 81) hF (by omega) (by omega) xd_MO_signs_70 (by decide) rfl (fun e1 => ?_) (fun e1 => ?_)
        · refine xv_iload_n (pc' := 82) (i := 2) hF xd_MO_signs_81 rfl rfl rfl ?_
          refine xv_bipushN (pc' := 84) 63 hF xd_MO_signs_82 (by decide +kernel) rfl ?_
          refine xv_icmp_neN (pc' := 87) (tgt := 104) hF (by omega) (by omega) xd_MO_signs_84 (by decide) rfl (fun e2 => ?_) (fun e2 => ?_)
          · refine xv_aload_n (pc' := 105) (i := 0) hF xd_MO_signs_104 rfl rfl rfl ?_
            refine xv_iload_n (pc' := 106) (i := 1) hF xd_MO_signs_105 rfl rfl rfl ?_
            refine xv_callVv (pc' := 109) (ci := 6) hF (c_MO_again K n h2 p th ma sz ln (a + 1) 0 op' mk (3 * op' + 2) g2 S1 ho hs2 hg2 (by omega)) xq_MO_again xk_MO_m149 xk_i_MO_again xk_s_MO_again (by first | assumption | exact xu_self | (refine (xu_ne (by omega)).trans ?_; first | assumption | exact xu_self | (refine (xu_ne (by omega)).trans ?_; first | assumption | exact xu_self | (refine (xu_ne (by omega)).trans ?_; first | assumption | exact xu_self | (refine (xu_ne (by omega)).trans ?_; first | assumption | exact xu_self))))) rfl ⟨(Nat.le_of_ble_eq_true rfl), (Nat.le_of_ble_eq_true rfl)⟩ rfl rfl (Nat.le_of_ble_eq_true rfl) ⟨(Nat.le_of_ble_eq_true rfl), (Nat.le_of_ble_eq_true rfl)⟩ xd_MO_signs_106 rfl (fun n3 h3 q3 => ?_)
            obtain ⟨rfl, g3, rfl, hg3⟩ := q3
            have r3 := r2.sq hg3
            clear ho hs2 hg2
            obtain ⟨ho, ⟨g4, hs4, hg4⟩, -⟩ := id r3
            have nA := oA_nd E Tg os (2 * op' + 2)
            have hst9 : mk = true → pd_mn (pd_or pd_id (pd_ps (oA E Tg os (2 * op' + 2)))) (md_fw (fun i j => min (md_1 i j) (S1 (3 * op' + 2) i j)) 32) := by
              intro hm
              have := mn_fw (pd_mn_or (M := fun i j => min (md_1 i j) (S1 (3 * op' + 2) i j)) mn_1 (hp8 hm) (fun i j _ _ => rfl)) (pd_nd_or pd_nd_id nA)
              rw [pd_ps_id nA] at this
              exact this
            generalize md_fw (fun i j => min (md_1 i j) (S1 (3 * op' + 2) i j)) 32 = FW at *
            refine xv_iload_n (pc' := 110) (i := 2) hF xd_MO_signs_109 rfl rfl rfl ?_
            refine xv_bipushN (pc' := 112) 43 hF xd_MO_signs_110 (by decide +kernel) rfl ?_
            refine xv_icmp_neN (pc' := 115) (tgt := 125) hF (by omega) (by omega) xd_MO_signs_112 (by decide) rfl (fun e3 => ?_) (fun e3 => ?_)
            · have e42 : tx a = 42 := by unfold sg at hsg; omega
              refine xv_aload_n (pc' := 126) (i := 0) hF xd_MO_signs_125 rfl rfl rfl ?_
              refine xv_bipushN (pc' := 128) 36 hF xd_MO_signs_126 (by decide +kernel) rfl ?_
              refine xv_iload_n (pc' := 129) (i := 1) hF xd_MO_signs_128 rfl rfl rfl ?_
              refine xv_callVv (pc' := 132) (ci := 6) hF (c_MO_copy K n _ p th ma sz ln (a + 1) 0 op' mk 36 (3 * op' + 2) g4 _ ho hs4 hg4 (by omega) (by omega)) xq_MO_copy xk_MO_m105 xk_i_MO_copy xk_s_MO_copy (by first | assumption | exact xu_self | (refine (xu_ne (by omega)).trans ?_; first | assumption | exact xu_self | (refine (xu_ne (by omega)).trans ?_; first | assumption | exact xu_self | (refine (xu_ne (by omega)).trans ?_; first | assumption | exact xu_self | (refine (xu_ne (by omega)).trans ?_; first | assumption | exact xu_self))))) rfl ⟨(Nat.le_of_ble_eq_true rfl), (Nat.le_of_ble_eq_true rfl)⟩ rfl rfl (Nat.le_of_ble_eq_true rfl) ⟨(Nat.le_of_ble_eq_true rfl), (Nat.le_of_ble_eq_true rfl)⟩ xd_MO_signs_129 rfl (fun n5 h5 q5 => ?_)
              obtain ⟨rfl, g5, rfl, hg5⟩ := q5
              refine xv_loc _ (by repeat (first | exact trivial | refine ⟨rfl, ?_⟩)) (back 8 _ _ (pd_or pd_id (pd_ps (oA E Tg os (2 * op' + 2)))) ((f2.x (by omega)).x (by omega)) (r3.sq hg5) (by omega) (by rw [e42]; rfl) (fun t ht hne => ?_) ?_ (fun hm => ?_))
              · cases mk
                · rfl
                · simp only [if_true]
                  rw [va_n hne, va_n (by omega)]
              · rw [oA_ap E Tg os 8 0 (by decide), hH]; rfl
              · have := hst9 hm
                subst hm
                simp only [if_true]
                rw [va_s, va_s]
                exact this
            · have e43 : tx a = 43 := by omega
              refine xv_aload_n (pc' := 116) (i := 0) hF xd_MO_signs_115 rfl rfl rfl ?_
              refine xv_iload_n (pc' := 117) (i := 1) hF xd_MO_signs_116 rfl rfl rfl ?_
              refine xv_bipushN (pc' := 119) 36 hF xd_MO_signs_117 (by decide +kernel) rfl ?_
              refine xv_callVv (pc' := 122) (ci := 6) hF (c_MO_behind K n _ p th ma sz ln (a + 1) 0 op' mk (3 * op' + 2) 36 g4 _ ho hs4 hg4 (by omega) (by omega)) xq_MO_behind xk_MO_m152 xk_i_MO_behind xk_s_MO_behind (by first | assumption | exact xu_self | (refine (xu_ne (by omega)).trans ?_; first | assumption | exact xu_self | (refine (xu_ne (by omega)).trans ?_; first | assumption | exact xu_self | (refine (xu_ne (by omega)).trans ?_; first | assumption | exact xu_self | (refine (xu_ne (by omega)).trans ?_; first | assumption | exact xu_self))))) rfl ⟨(Nat.le_of_ble_eq_true rfl), (Nat.le_of_ble_eq_true rfl)⟩ rfl rfl (Nat.le_of_ble_eq_true rfl) ⟨(Nat.le_of_ble_eq_true rfl), (Nat.le_of_ble_eq_true rfl)⟩ xd_MO_signs_119 rfl (fun n5 h5 q5 => ?_)
              obtain ⟨rfl, g5, rfl, hg5⟩ := q5
              refine xv_goto (tgt := 132) hF xd_MO_signs_122 (by decide) ?_
              refine xv_loc _ (by repeat (first | exact trivial | refine ⟨rfl, ?_⟩)) (back 9 _ _ (pd_ps (oA E Tg os (2 * op' + 2))) ((f2.x (by omega)).x (by omega)) (r3.sq hg5) (by omega) (by rw [e43]; rfl) (fun t ht hne => ?_) ?_ (fun hm => ?_))
              · cases mk
                · rfl
                · simp only [if_true]
                  rw [va_n hne, va_n (by omega), va_n (by omega)]
              · rw [oA_ap E Tg os 9 0 (by decide), hH]; rfl
              · have h9 := hst9 hm
                have h8 := hp8 hm
                subst hm
                simp only [if_true]
                rw [va_s, va_s, va_n (by omega)]
                have := mn_ch h8 h9 nA
                rw [pd_seq_ps nA] at this
                exact this
          · have e63 : tx a = 63 := by omega
            refine xv_aload_n (pc' := 88) (i := 0) hF xd_MO_signs_87 rfl rfl rfl ?_
            refine xv_bipushN (pc' := 90) 36 hF xd_MO_signs_88 (by decide +kernel) rfl ?_
            refine xv_iconstN (pc' := 91) 1 hF xd_MO_signs_90 (by decide +kernel) rfl ?_
            refine xv_topi (v' := xb true) (by decide +kernel) ?_
            refine xv_callVv (pc' := 94) (ci := 6) hF (c_MO_plain K n h2 p th ma sz ln (a + 1) 0 op' mk 36 true g2 S1 ho hs2 hg2 (by omega)) xq_MO_plain xk_MO_m97 xk_i_MO_plain xk_s_MO_plain (by first | assumption | exact xu_self | (refine (xu_ne (by omega)).trans ?_; first | assumption | exact xu_self | (refine (xu_ne (by omega)).trans ?_; first | assumption | exact xu_self | (refine (xu_ne (by omega)).trans ?_; first | assumption | exact xu_self | (refine (xu_ne (by omega)).trans ?_; first | assumption | exact xu_self))))) rfl ⟨(Nat.le_of_ble_eq_true rfl), (Nat.le_of_ble_eq_true rfl)⟩ rfl rfl (Nat.le_of_ble_eq_true rfl) ⟨(Nat.le_of_ble_eq_true rfl), (Nat.le_of_ble_eq_true rfl)⟩ xd_MO_signs_91 rfl (fun n3 h3 q3 => ?_)
            obtain ⟨rfl, g3, rfl, hg3⟩ := q3
            have r3 := r2.sq hg3
            clear ho hs2 hg2
            obtain ⟨ho, ⟨g4, hs4, hg4⟩, -⟩ := id r3
            refine xv_aload_n (pc' := 95) (i := 0) hF xd_MO_signs_94 rfl rfl rfl ?_
            refine xv_iload_n (pc' := 96) (i := 1) hF xd_MO_signs_95 rfl rfl rfl ?_
            refine xv_bipushN (pc' := 98) 36 hF xd_MO_signs_96 (by decide +kernel) rfl ?_
            refine xv_callVv (pc' := 101) (ci := 6) hF (c_MO_either K n _ p th ma sz ln (a + 1) 0 op' mk (3 * op' + 2) 36 g4 _ ho hs4 hg4 (by omega) (by omega) (by omega)) xq_MO_either xk_MO_m110 xk_i_MO_either xk_s_MO_either (by first | assumption | exact xu_self | (refine (xu_ne (by omega)).trans ?_; first | assumption | exact xu_self | (refine (xu_ne (by omega)).trans ?_; first | assumption | exact xu_self | (refine (xu_ne (by omega)).trans ?_; first | assumption | exact xu_self | (refine (xu_ne (by omega)).trans ?_; first | assumption | exact xu_self))))) rfl ⟨(Nat.le_of_ble_eq_true rfl), (Nat.le_of_ble_eq_true rfl)⟩ rfl rfl (Nat.le_of_ble_eq_true rfl) ⟨(Nat.le_of_ble_eq_true rfl), (Nat.le_of_ble_eq_true rfl)⟩ xd_MO_signs_98 rfl (fun n5 h5 q5 => ?_)
            obtain ⟨rfl, g5, rfl, hg5⟩ := q5
            refine xv_goto (tgt := 132) hF xd_MO_signs_101 (by decide) ?_
            refine xv_loc _ (by repeat (first | exact trivial | refine ⟨rfl, ?_⟩)) (back 10 _ _ (pd_or pd_id (oA E Tg os (2 * op' + 2))) ((f2.x (by omega)).x (by omega)) (r3.sq hg5) (by omega) (by rw [e63]; rfl) (fun t ht hne => ?_) ?_ (fun hm => ?_))
            · cases mk
              · rfl
              · simp only [if_true]
                rw [va_n hne, va_n (by omega)]
            · rw [oA_ap E Tg os 10 0 (by decide), hH]; rfl
            · have h8 := hp8 hm
              subst hm
              simp only [if_true]
              rw [va_s, va_s, va_n (by omega)]
              exact pd_mn_or mn_1 h8 (fun i j _ _ => Nat.min_comm _ _)
        · have e123 : tx a = 123 := by omega
          refine xv_aload_n (pc' := 74) (i := 0) hF xd_MO_signs_73 rfl rfl rfl ?_
          refine xv_iload_n (pc' := 75) (i := 1) hF xd_MO_signs_74 rfl rfl rfl ?_
          refine xv_callVv (pc' := 78) (ci := 6) hF (c_MO_counted K n h2 p th ma sz ln (a + 1) f op' mk tx E Tg S1 so1 ba (3 * op' + 2) r2 (by omega) hsb) xq_MO_counted xk_MO_m146 xk_i_MO_counted xk_s_MO_counted (by first | assumption | exact xu_self | (refine (xu_ne (by omega)).trans ?_; first | assumption | exact xu_self | (refine (xu_ne (by omega)).trans ?_; first | assumption | exact xu_self | (refine (xu_ne (by omega)).trans ?_; first | assumption | exact xu_self | (refine (xu_ne (by omega)).trans ?_; first | assumption | exact xu_self))))) rfl ⟨(Nat.le_of_ble_eq_true rfl), (Nat.le_of_ble_eq_true rfl)⟩ rfl rfl (Nat.le_of_ble_eq_true rfl) ⟨(Nat.le_of_ble_eq_true rfl), (Nat.le_of_ble_eq_true rfl)⟩ xd_MO_signs_75 rfl (fun n3 h3 q3 => ?_)
          obtain ⟨rfl, f3, m, u, a', f', S3, hm9, hu9, hct, hcp, r3⟩ := q3
          have hr5 : rp_run tx q0 (a + 1) = some (5, op', true, rs, le, mo, en, os) := rp_run_s hrun (by rw [e123]; rfl)
          refine xv_goto (tgt := 132) hF xd_MO_signs_78 (by decide) ?_
          refine xv_goto (tgt := 9) hF xd_MO_signs_132 (by decide) ?_
          rcases hct with ⟨rfl, hct⟩ | ⟨hf', hct⟩
          · have hu0 : u ≠ 0 := by
              rcases hct.2.2.2 with ⟨_, h2, _⟩ | ⟨_, _, h3, _⟩
              · omega
              · exact h3
            obtain ⟨k1, k2, k3⟩ := ct_run hr5 hct
            refine xv_loc _ (by repeat (first | exact trivial | refine ⟨rfl, ?_⟩)) (ih _ (by omega) a' h3 S3 _ _ rfl (by omega) (f2.tr f3) r3 k2 rfl rfl ?_)
            refine hti.chg (B := pd_mo (oA E Tg os (2 * op' + 2)) m u) (by omega) (by omega) hcp.1 ?_ (fun hm => hcp.2 hm _ (hp8 hm) (oA_nd _ _ _ _)) (by rw [hrs]; exact sg_min hu0) (by omega) (by omega)
            rw [oA_ap E Tg os 11 _ (by decide), hH, ← pd_cp_mo (oA_nd E Tg os (2 * op' + 2)) m u]
            show va_up _ (2 * op' + 2) (pd_cp _ ((m * 10 + u) / 10) ((m * 10 + u) % 10)) = _
            rw [show (m * 10 + u) / 10 = m by omega, show (m * 10 + u) % 10 = u by omega]
            rfl
          · have hbad := ct_fail hr5 (by omega) hct
            clear ho
            have ho := r3.1
            obtain ⟨-, b6, -⟩ := id r3.2.2.2.2.2.2.2
            refine xv_aload_n (pc' := 10) (i := 0) hF xd_MO_signs_9 rfl rfl rfl ?_
            refine xv_callVi (pc' := 13) (ci := 6) hF (c_MO_goes K n h3 p th ma sz ln a' f' op' mk ho (by omega)) xq_MO_goes xk_MO_m81 xk_i_MO_goes xk_s_MO_goes (by first | assumption | exact xu_self | (refine (xu_ne (by omega)).trans ?_; first | assumption | exact xu_self | (refine (xu_ne (by omega)).trans ?_; first | assumption | exact xu_self | (refine (xu_ne (by omega)).trans ?_; first | assumption | exact xu_self | (refine (xu_ne (by omega)).trans ?_; first | assumption | exact xu_self))))) rfl ⟨(Nat.le_of_ble_eq_true rfl), (Nat.le_of_ble_eq_true rfl)⟩ rfl rfl (Nat.le_of_ble_eq_true rfl) ⟨(Nat.le_of_ble_eq_true rfl), (Nat.le_of_ble_eq_true rfl)⟩ xd_MO_signs_10 rfl (fun r4 n4 h4 q4 => ?_)
            obtain ⟨rfl, rfl, rfl⟩ := q4
            rw [decide_eq_false hf']
            refine xv_if_eqB (pc' := 16) (tgt := 135) hF xd_MO_signs_13 (by decide) rfl (fun e5 => ?_) (fun e5 => ?_)
            · exact xv_loc _ (by repeat (first | exact trivial | refine ⟨rfl, ?_⟩)) (tail a' f' h3 S3 _ (f2.tr f3) r3 (fun h4 S4 f4 r4 _ _ => ⟨rfl, f4, a', f', S4, _, Or.inr ⟨hf', hbad⟩, r4⟩))
            · cases e5
      refine xv_aload_n (pc' := 10) (i := 0) hF xd_MO_signs_9 rfl rfl rfl ?_
      refine xv_callVi (pc' := 13) (ci := 6) hF (c_MO_goes K n h1 p th ma sz ln a 0 op' mk ho (by omega)) xq_MO_goes xk_MO_m81 xk_i_MO_goes xk_s_MO_goes (by first | assumption | exact xu_self | (refine (xu_ne (by omega)).trans ?_; first | assumption | exact xu_self | (refine (xu_ne (by omega)).trans ?_; first | assumption | exact xu_self | (refine (xu_ne (by omega)).trans ?_; first | assumption | exact xu_self | (refine (xu_ne (by omega)).trans ?_; first | assumption | exact xu_self))))) rfl ⟨(Nat.le_of_ble_eq_true rfl), (Nat.le_of_ble_eq_true rfl)⟩ rfl rfl (Nat.le_of_ble_eq_true rfl) ⟨(Nat.le_of_ble_eq_true rfl), (Nat.le_of_ble_eq_true rfl)⟩ xd_MO_signs_10 rfl (fun r2 n2 h2 q2 => ?_)
      obtain ⟨rfl, rfl, rfl⟩ := q2
      rw [decide_eq_true rfl]
      refine xv_if_eqB (pc' := 16) (tgt := 135) hF xd_MO_signs_13 (by decide) rfl (fun e1 => ?_) (fun e1 => ?_)
      · cases e1
      · refine xv_aload_n (pc' := 17) (i := 0) hF xd_MO_signs_16 rfl rfl rfl ?_
        refine xv_callVi (pc' := 20) (ci := 6) hF (c_MO_nowS K n h1 p th ma sz ln a 0 op' mk tx E Tg S1 so1 ba r1) xq_MO_now xk_MO_m85 xk_i_MO_now xk_s_MO_now (by first | assumption | exact xu_self | (refine (xu_ne (by omega)).trans ?_; first | assumption | exact xu_self | (refine (xu_ne (by omega)).trans ?_; first | assumption | exact xu_self | (refine (xu_ne (by omega)).trans ?_; first | assumption | exact xu_self | (refine (xu_ne (by omega)).trans ?_; first | assumption | exact xu_self))))) rfl ⟨(Nat.le_of_ble_eq_true rfl), (Nat.le_of_ble_eq_true rfl)⟩ rfl rfl (Nat.le_of_ble_eq_true rfl) ⟨(Nat.le_of_ble_eq_true rfl), (Nat.le_of_ble_eq_true rfl)⟩ xd_MO_signs_17 rfl (fun r2 n2 h2 q2 => ?_)
        obtain ⟨rfl, rfl, rfl⟩ := q2
        refine xv_bipushN (pc' := 22) 42 hF xd_MO_signs_20 (by decide +kernel) rfl ?_
        refine xv_icmp_eqN (pc' := 25) (tgt := 52) hF (by omega) (by omega) xd_MO_signs_22 (by decide) rfl (fun e2 => ?_) (fun e2 => ?_)
        · exact xv_loc _ (by repeat (first | exact trivial | refine ⟨rfl, ?_⟩)) (go (Or.inl e2))
        · refine xv_aload_n (pc' := 26) (i := 0) hF xd_MO_signs_25 rfl rfl rfl ?_
          refine xv_callVi (pc' := 29) (ci := 6) hF (c_MO_nowS K n h1 p th ma sz ln a 0 op' mk tx E Tg S1 so1 ba r1) xq_MO_now xk_MO_m85 xk_i_MO_now xk_s_MO_now (by first | assumption | exact xu_self | (refine (xu_ne (by omega)).trans ?_; first | assumption | exact xu_self | (refine (xu_ne (by omega)).trans ?_; first | assumption | exact xu_self | (refine (xu_ne (by omega)).trans ?_; first | assumption | exact xu_self | (refine (xu_ne (by omega)).trans ?_; first | assumption | exact xu_self))))) rfl ⟨(Nat.le_of_ble_eq_true rfl), (Nat.le_of_ble_eq_true rfl)⟩ rfl rfl (Nat.le_of_ble_eq_true rfl) ⟨(Nat.le_of_ble_eq_true rfl), (Nat.le_of_ble_eq_true rfl)⟩ xd_MO_signs_26 rfl (fun r2 n2 h2 q2 => ?_)
          obtain ⟨rfl, rfl, rfl⟩ := q2
          refine xv_bipushN (pc' := 31) 43 hF xd_MO_signs_29 (by decide +kernel) rfl ?_
          refine xv_icmp_eqN (pc' := 34) (tgt := 52) hF (by omega) (by omega) xd_MO_signs_31 (by decide) rfl (fun e3 => ?_) (fun e3 => ?_)
          · exact xv_loc _ (by repeat (first | exact trivial | refine ⟨rfl, ?_⟩)) (go (Or.inr (Or.inl e3)))
          · refine xv_aload_n (pc' := 35) (i := 0) hF xd_MO_signs_34 rfl rfl rfl ?_
            refine xv_callVi (pc' := 38) (ci := 6) hF (c_MO_nowS K n h1 p th ma sz ln a 0 op' mk tx E Tg S1 so1 ba r1) xq_MO_now xk_MO_m85 xk_i_MO_now xk_s_MO_now (by first | assumption | exact xu_self | (refine (xu_ne (by omega)).trans ?_; first | assumption | exact xu_self | (refine (xu_ne (by omega)).trans ?_; first | assumption | exact xu_self | (refine (xu_ne (by omega)).trans ?_; first | assumption | exact xu_self | (refine (xu_ne (by omega)).trans ?_; first | assumption | exact xu_self))))) rfl ⟨(Nat.le_of_ble_eq_true rfl), (Nat.le_of_ble_eq_true rfl)⟩ rfl rfl (Nat.le_of_ble_eq_true rfl) ⟨(Nat.le_of_ble_eq_true rfl), (Nat.le_of_ble_eq_true rfl)⟩ xd_MO_signs_35 rfl (fun r2 n2 h2 q2 => ?_)
            obtain ⟨rfl, rfl, rfl⟩ := q2
            refine xv_bipushN (pc' := 40) 63 hF xd_MO_signs_38 (by decide +kernel) rfl ?_
            refine xv_icmp_eqN (pc' := 43) (tgt := 52) hF (by omega) (by omega) xd_MO_signs_40 (by decide) rfl (fun e4 => ?_) (fun e4 => ?_)
            · exact xv_loc _ (by repeat (first | exact trivial | refine ⟨rfl, ?_⟩)) (go (Or.inr (Or.inr (Or.inl e4))))
            · refine xv_aload_n (pc' := 44) (i := 0) hF xd_MO_signs_43 rfl rfl rfl ?_
              refine xv_callVi (pc' := 47) (ci := 6) hF (c_MO_nowS K n h1 p th ma sz ln a 0 op' mk tx E Tg S1 so1 ba r1) xq_MO_now xk_MO_m85 xk_i_MO_now xk_s_MO_now (by first | assumption | exact xu_self | (refine (xu_ne (by omega)).trans ?_; first | assumption | exact xu_self | (refine (xu_ne (by omega)).trans ?_; first | assumption | exact xu_self | (refine (xu_ne (by omega)).trans ?_; first | assumption | exact xu_self | (refine (xu_ne (by omega)).trans ?_; first | assumption | exact xu_self))))) rfl ⟨(Nat.le_of_ble_eq_true rfl), (Nat.le_of_ble_eq_true rfl)⟩ rfl rfl (Nat.le_of_ble_eq_true rfl) ⟨(Nat.le_of_ble_eq_true rfl), (Nat.le_of_ble_eq_true rfl)⟩ xd_MO_signs_44 rfl (fun r2 n2 h2 q2 => ?_)
              obtain ⟨rfl, rfl, rfl⟩ := q2
              refine xv_bipushN (pc' := 49) 123 hF xd_MO_signs_47 (by decide +kernel) rfl ?_
              refine xv_icmp_neN (pc' := 52) (tgt := 135) hF (by omega) (by omega) xd_MO_signs_49 (by decide) rfl (fun e5 => ?_) (fun e5 => ?_)
              · exact xv_loc _ (by repeat (first | exact trivial | refine ⟨rfl, ?_⟩)) (stop (by unfold sg; omega))
              · exact xv_loc _ (by repeat (first | exact trivial | refine ⟨rfl, ?_⟩)) (go (Or.inr (Or.inr (Or.inr e5))))
  refine xv_iconstN (pc' := 1) 3 hF xd_MO_signs_0 (by decide +kernel) rfl ?_
  refine xv_aload_n (pc' := 2) (i := 0) hF xd_MO_signs_1 rfl rfl rfl ?_
  refine xv_get (pc' := 5) (ci := 6) hF (by first | assumption | exact xu_self | (refine (xu_ne (by omega)).trans ?_; first | assumption | exact xu_self | (refine (xu_ne (by omega)).trans ?_; first | assumption | exact xu_self | (refine (xu_ne (by omega)).trans ?_; first | assumption | exact xu_self | (refine (xu_ne (by omega)).trans ?_; first | assumption | exact xu_self))))) rfl xu_MO 17 (by decide) xk_MO_f114 (by rfl) xd_MO_signs_2 rfl ?_
  first | refine xv_imulN (pc' := 6) hF xd_MO_signs_5 rfl ?_ | refine xv_imul (pc' := 6) hF xd_MO_signs_5 rfl ?_
  refine xv_iconstN (pc' := 7) 2 hF xd_MO_signs_6 (by decide +kernel) rfl ?_
  first | refine xv_iaddN (pc' := 8) hF xd_MO_signs_7 rfl ?_ | refine xv_iadd (pc' := 8) hF xd_MO_signs_7 rfl ?_
  refine xv_istore_n (pc' := 9) (i := 1) hF xd_MO_signs_8 rfl (Nat.le_of_ble_eq_true rfl) rfl rfl ?_
  exact xv_loc _ (by repeat (first | exact trivial | refine ⟨rfl, ?_⟩)) (loop _ at_ h S so q1 rfl (Nat.le_refl _) mo_fr.rf r hrun hst hir hti)
