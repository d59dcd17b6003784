/-! Relation.addGoingOn: row i of M is led on from v by N, behind a length w -/
def md_go (M N : Nat → Nat → Nat) (i w v t : Nat) : Nat → Nat → Nat := fun x y => if x = i ∧ y < t ∧ N v y < 1000000 then min (M x y) (w + N v y) else M x y
set_option maxHeartbeats 4000000 in
set_option maxRecDepth 100000 in
theorem c_RE_addGoingOn (K : xK) (n : Nat) (h : xH) (a i w c v : Nat) (M N : Nat → Nat → Nat) (hr : re_R K h a M) (hc : re_R K h c N) (hal : (c = a ∧ N = M) ∨ re_ap a c) (hi : i < 32) (hv : v < 32) (hw : w < 1000000) (hb : ∀ j, j < 32 → N v j < 1000000 → w + N v j < 1000000) : XM K xy_RE_addGoingOn xw_RE_addGoingOn (xrm 1 25 0 0) [.ref a, .int (nI i), .int (nI w), .ref c, .int (nI v)] n h (x_pv fun n' h' => n = n' ∧ re_fr h h' a ∧ re_R K h' a (md_go M N i w v 32)) 0 0 := by
  obtain ⟨fN, gN, ⟨hc1, hc2, hc3⟩, hcN⟩ := id hc
  refine xm_v (by decide +kernel) (Nat.le_of_ble_eq_true rfl) (fun G hF hR => ?_)
  refine xv_aload_n (pc' := 1) (i := 3) hF xd_RE_addGoingOn_0 rfl rfl rfl ?_
  refine xv_get (pc' := 4) (ci := 2) hF (by first | assumption | exact xu_self | (refine (xu_ne (by omega)).trans ?_; first | assumption | exact xu_self | (refine (xu_ne (by omega)).trans ?_; first | assumption | exact xu_self | (refine (xu_ne (by omega)).trans ?_; first | assumption | exact xu_self | (refine (xu_ne (by omega)).trans ?_; first | assumption | exact xu_self))))) rfl xu_RE 0 (by decide) xk_RE_f9 (by rfl) xd_RE_addGoingOn_1 rfl ?_
  refine xv_iload (pc' := 6) hF xd_RE_addGoingOn_4 rfl rfl ?_
  first | refine xv_ialdN (pc' := 7) hF (by first | assumption | exact xu_self | (refine (xu_ne (by omega)).trans ?_; first | assumption | exact xu_self | (refine (xu_ne (by omega)).trans ?_; first | assumption | exact xu_self | (refine (xu_ne (by omega)).trans ?_; first | assumption | exact xu_self | (refine (xu_ne (by omega)).trans ?_; first | assumption | exact xu_self))))) (by omega) (by decide) xd_RE_addGoingOn_6 rfl ?_ | refine xv_iald (pc' := 7) hF (by first | assumption | exact xu_self | (refine (xu_ne (by omega)).trans ?_; first | assumption | exact xu_self | (refine (xu_ne (by omega)).trans ?_; first | assumption | exact xu_self | (refine (xu_ne (by omega)).trans ?_; first | assumption | exact xu_self | (refine (xu_ne (by omega)).trans ?_; first | assumption | exact xu_self))))) (by omega) xd_RE_addGoingOn_6 rfl ?_
  refine xv_istore (pc' := 9) hF xd_RE_addGoingOn_7 (Nat.le_of_ble_eq_true rfl) rfl rfl ?_
  refine xv_iconstN (pc' := 10) 0 hF xd_RE_addGoingOn_9 (by decide +kernel) rfl ?_
  refine xv_istore (pc' := 12) hF xd_RE_addGoingOn_10 (Nat.le_of_ble_eq_true rfl) rfl rfl ?_
  have hx : ∀ j, j < 32 → bt (fN v) j = decide (N v j < 1000000) := fun j hj => (hcN v j hv hj).1
  generalize fN v = x at hx ⊢
  have loop : ∀ d t h1, 32 - t = d → t ≤ 32 → re_fr h h1 a → re_R K h1 a (md_go M N i w v t) → (∃ N1, re_R K h1 c N1 ∧ ((c = a ∧ N1 = md_go M N i w v t) ∨ N1 = N)) → XV G 0 0 12 [(6, .int (nI t)), (5, .int x), (0, .ref a), (1, .int (nI i)), (2, .int (nI w)), (3, .ref c), (4, .int (nI v))] [] n h1 := by
    intro d
    induction d using Nat.strongRecOn with
    | ind d ih =>
      intro t h1 hd ht hfr hr1 hc1'
      have fin : (∀ j, t ≤ j → j < 32 → ¬ N v j < 1000000) → re_R K h1 a (md_go M N i w v 32) := by
        intro hz
        refine hr1.congr fun y z hy hz2 => ?_
        unfold md_go
        by_cases c0 : z < t
        · simp [c0, hz2]
        · have := hz z (by omega) hz2
          simp [this]
      refine xv_iload (pc' := 14) hF xd_RE_addGoingOn_12 rfl rfl ?_
      refine xv_bipushN (pc' := 16) 32 hF xd_RE_addGoingOn_14 (by decide +kernel) rfl ?_
      refine xv_icmp_geN (pc' := 19) (tgt := 65) hF (by omega) (by omega) xd_RE_addGoingOn_16 (by decide) rfl (fun e => ?_) (fun e => ?_)
      · refine hR _ _ _ _ _ _ (by omega) (by omega) ?_ xd_RE_addGoingOn_65
        exact ⟨rfl, hfr, fin fun j h1 h2 => by omega⟩
      · refine xv_iload (pc' := 21) hF xd_RE_addGoingOn_19 rfl rfl ?_
        refine xv_iload (pc' := 23) hF xd_RE_addGoingOn_21 rfl rfl ?_
        refine xv_iushr (pc' := 24) hF xd_RE_addGoingOn_23 rfl rfl ?_
        refine xv_if_eq (pc' := 27) (tgt := 65) hF xd_RE_addGoingOn_24 (by decide) rfl (fun e1 => ?_) (fun e1 => ?_)
        · rw [bt_ush x e] at e1
          refine hR _ _ _ _ _ _ (by omega) (by omega) ?_ xd_RE_addGoingOn_65
          refine ⟨rfl, hfr, fin fun j q1 q2 => ?_⟩
          have := e1 j q1 q2
          rw [hx j q2] at this
          exact of_decide_eq_false this
        · clear e1
          refine xv_iload (pc' := 29) hF xd_RE_addGoingOn_27 rfl rfl ?_
          refine xv_iload (pc' := 31) hF xd_RE_addGoingOn_29 rfl rfl ?_
          refine xv_callSNi (pc' := 34) hF (c_PD_isIn K n h1 x t e) xq_PD_isIn xk_RE_m24 xk_t_PD_isIn ⟨(Nat.le_of_ble_eq_true rfl), (Nat.le_of_ble_eq_true rfl)⟩ rfl rfl (Nat.le_of_ble_eq_true rfl) ⟨(Nat.le_of_ble_eq_true rfl), (Nat.le_of_ble_eq_true rfl)⟩ xd_RE_addGoingOn_31 rfl (fun r n2 h2 p2 => ?_)
          obtain ⟨rfl, rfl, rfl⟩ := p2
          refine xv_if_eqB (pc' := 37) (tgt := 59) hF xd_RE_addGoingOn_34 (by decide) rfl (fun e2 => ?_) (fun e2 => ?_)
          · rw [hx t e] at e2
            have e2 := of_decide_eq_false e2
            have same : md_go M N i w v (t + 1) = md_go M N i w v t := by
              funext y z
              unfold md_go
              by_cases c0 : z = t
              · subst c0; simp [e2]
              · have : z < t + 1 ↔ z < t := by omega
                simp only [this]
            first | refine xv_iincN (pc' := 62) hF xd_RE_addGoingOn_59 rfl rfl (Nat.le_of_ble_eq_true rfl) rfl rfl ?_ | refine xv_iinc (pc' := 62) hF xd_RE_addGoingOn_59 rfl rfl (Nat.le_of_ble_eq_true rfl) rfl rfl ?_
            refine xv_goto (tgt := 12) hF xd_RE_addGoingOn_62 (by decide) ?_
            refine xv_loc _ (by repeat (first | exact trivial | refine ⟨rfl, ?_⟩)) (ih _ (by omega) (t + 1) _ rfl (by omega) hfr (by rw [same]; exact hr1) (by rw [same]; exact hc1'))
          · rw [hx t e] at e2
            have e2 := of_decide_eq_true e2
            obtain ⟨N1, hcR, hN1⟩ := hc1'
            have hN1t : N1 v t = N v t := by
              rcases hN1 with ⟨q1, rfl⟩ | rfl
              · rcases hal with ⟨-, rfl⟩ | q
                · unfold md_go; simp
                · unfold re_ap at q; omega
              · rfl
            obtain ⟨f1, g1, ⟨k1, k2, k3⟩, k4⟩ := id hcR
            have k5 := (k4 v t hv e).2 (by rw [hN1t]; exact e2)
            rw [hN1t] at k5
            obtain ⟨fA, gA, ⟨j1, j2, j3⟩, j4⟩ := id hr1
            refine xv_aload_n (pc' := 38) (i := 0) hF xd_RE_addGoingOn_37 rfl rfl rfl ?_
            refine xv_iload_n (pc' := 39) (i := 1) hF xd_RE_addGoingOn_38 rfl rfl rfl ?_
            refine xv_iload (pc' := 41) hF xd_RE_addGoingOn_39 rfl rfl ?_
            refine xv_iload_n (pc' := 42) (i := 2) hF xd_RE_addGoingOn_41 rfl rfl rfl ?_
            refine xv_aload_n (pc' := 43) (i := 3) hF xd_RE_addGoingOn_42 rfl rfl rfl ?_
            refine xv_get (pc' := 46) (ci := 2) hF (by first | assumption | exact xu_self | (refine (xu_ne (by omega)).trans ?_; first | assumption | exact xu_self | (refine (xu_ne (by omega)).trans ?_; first | assumption | exact xu_self | (refine (xu_ne (by omega)).trans ?_; first | assumption | exact xu_self | (refine (xu_ne (by omega)).trans ?_; first | assumption | exact xu_self))))) rfl xu_RE 1 (by decide) xk_RE_f15 (by rfl) xd_RE_addGoingOn_43 rfl ?_
            refine xv_iload (pc' := 48) hF xd_RE_addGoingOn_46 rfl rfl ?_
            refine xv_bipushN (pc' := 50) 32 hF xd_RE_addGoingOn_48 (by decide +kernel) rfl ?_
            first | refine xv_imulN (pc' := 51) hF xd_RE_addGoingOn_50 rfl ?_ | refine xv_imul (pc' := 51) hF xd_RE_addGoingOn_50 rfl ?_
            refine xv_iload (pc' := 53) hF xd_RE_addGoingOn_51 rfl rfl ?_
            first | refine xv_iaddN (pc' := 54) hF xd_RE_addGoingOn_53 rfl ?_ | refine xv_iadd (pc' := 54) hF xd_RE_addGoingOn_53 rfl ?_
            first | refine xv_ialdN (pc' := 55) hF (by first | assumption | exact xu_self | (refine (xu_ne (by omega)).trans ?_; first | assumption | exact xu_self | (refine (xu_ne (by omega)).trans ?_; first | assumption | exact xu_self | (refine (xu_ne (by omega)).trans ?_; first | assumption | exact xu_self | (refine (xu_ne (by omega)).trans ?_; first | assumption | exact xu_self))))) (by omega) (by decide) xd_RE_addGoingOn_54 rfl ?_ | refine xv_iald (pc' := 55) hF (by first | assumption | exact xu_self | (refine (xu_ne (by omega)).trans ?_; first | assumption | exact xu_self | (refine (xu_ne (by omega)).trans ?_; first | assumption | exact xu_self | (refine (xu_ne (by omega)).trans ?_; first | assumption | exact xu_self | (refine (xu_ne (by omega)).trans ?_; first | assumption | exact xu_self))))) (by omega) xd_RE_addGoingOn_54 rfl ?_
            refine xv_topi k5 ?_
            first | refine xv_iaddN (pc' := 56) hF xd_RE_addGoingOn_55 rfl ?_ | refine xv_iadd (pc' := 56) hF xd_RE_addGoingOn_55 rfl ?_
            refine xv_callVv (pc' := 59) (ci := 2) hF (c_RE_offer K n h1 a i t (w + N v t) _ hr1 hi e (hb t e e2)) xq_RE_offer xk_RE_m28 xk_i_RE_offer xk_s_RE_offer (by first | assumption | exact xu_self | (refine (xu_ne (by omega)).trans ?_; first | assumption | exact xu_self | (refine (xu_ne (by omega)).trans ?_; first | assumption | exact xu_self | (refine (xu_ne (by omega)).trans ?_; first | assumption | exact xu_self | (refine (xu_ne (by omega)).trans ?_; first | assumption | exact xu_self))))) rfl ⟨(Nat.le_of_ble_eq_true rfl), (Nat.le_of_ble_eq_true rfl)⟩ rfl rfl (Nat.le_of_ble_eq_true rfl) ⟨(Nat.le_of_ble_eq_true rfl), (Nat.le_of_ble_eq_true rfl)⟩ xd_RE_addGoingOn_56 rfl (fun n3 h3 p3 => ?_)
            obtain ⟨rfl, hfr3, hr3⟩ := p3
            have same : ∀ y z, y < 32 → z < 32 → md_go M N i w v (t + 1) y z = md_set (md_go M N i w v t) i t (min (md_go M N i w v t i t) (w + N v t)) y z := by
              intro y z _ _
              unfold md_set md_go
              by_cases c0 : y = i
              · subst c0
                by_cases c1 : z = t
                · subst c1; simp [e2]
                · have : z < t + 1 ↔ z < t := by omega
                  simp [c1, this]
              · simp [c0]
            first | refine xv_iincN (pc' := 62) hF xd_RE_addGoingOn_59 rfl rfl (Nat.le_of_ble_eq_true rfl) rfl rfl ?_ | refine xv_iinc (pc' := 62) hF xd_RE_addGoingOn_59 rfl rfl (Nat.le_of_ble_eq_true rfl) rfl rfl ?_
            refine xv_goto (tgt := 12) hF xd_RE_addGoingOn_62 (by decide) ?_
            refine xv_loc _ (by repeat (first | exact trivial | refine ⟨rfl, ?_⟩)) (ih _ (by omega) (t + 1) _ rfl (by omega) (hfr.tr hfr3) (hr3.congr same) ?_)
            rcases hal with ⟨q, q2⟩ | q
            · subst q
              exact ⟨_, hr3.congr same, Or.inl ⟨rfl, rfl⟩⟩
            · rcases hN1 with ⟨q1, -⟩ | rfl
              · unfold re_ap at q; omega
              · exact ⟨_, hcR.keep hfr3 q, Or.inr rfl⟩
  refine xv_loc _ (by repeat (first | exact trivial | refine ⟨rfl, ?_⟩)) (loop 32 0 h (by omega) (by omega) re_fr.rf (hr.congr ?_) ⟨N, hc, Or.inr rfl⟩)
  intro y z hy hz
  unfold md_go
  simp
/-! Relation.addAll -/
def md_mi (M N : Nat → Nat → Nat) (t : Nat) : Nat → Nat → Nat := fun x y => if x < t ∧ N x y < 1000000 then min (M x y) (N x y) else M x y
set_option maxHeartbeats 4000000 in
set_option maxRecDepth 100000 in
theorem c_RE_addAll (K : xK) (n : Nat) (h : xH) (a c : Nat) (M N : Nat → Nat → Nat) (hr : re_R K h a M) (hc : re_R K h c N) (hap : re_ap a c) : XM K xy_RE_addAll xw_RE_addAll (xrm 2 51 0 0) [.ref a, .ref c] n h (x_pv fun n' h' => n = n' ∧ re_fr h h' a ∧ re_R K h' a (md_mi M N 32)) 0 0 := by
  refine xm_v (by decide +kernel) (Nat.le_of_ble_eq_true rfl) (fun G hF hR => ?_)
  refine xv_iconstN (pc' := 1) 0 hF xd_RE_addAll_0 (by decide +kernel) rfl ?_
  refine xv_istore_n (pc' := 2) (i := 2) hF xd_RE_addAll_1 rfl (Nat.le_of_ble_eq_true rfl) rfl rfl ?_
  have loop : ∀ d t h1, 32 - t = d → t ≤ 32 → re_fr h h1 a → re_R K h1 a (md_mi M N t) → XV G 0 0 2 [(2, .int (nI t)), (0, .ref a), (1, .ref c)] [] n h1 := by
    intro d
    induction d using Nat.strongRecOn with
    | ind d ih =>
      intro t h1 hd ht hfr hr1
      refine xv_iload_n (pc' := 3) (i := 2) hF xd_RE_addAll_2 rfl rfl rfl ?_
      refine xv_bipushN (pc' := 5) 32 hF xd_RE_addAll_3 (by decide +kernel) rfl ?_
      refine xv_icmp_geN (pc' := 8) (tgt := 22) hF (by omega) (by omega) xd_RE_addAll_5 (by decide) rfl (fun e => ?_) (fun e => ?_)
      · refine hR _ _ _ _ _ _ (by omega) (by omega) ?_ xd_RE_addAll_22
        have : t = 32 := by omega
        subst this
        exact ⟨rfl, hfr, hr1⟩
      · obtain ⟨f1, g1, ⟨k1, k2, k3⟩, k4⟩ := id hr1
        refine xv_aload_n (pc' := 9) (i := 0) hF xd_RE_addAll_8 rfl rfl rfl ?_
        refine xv_iload_n (pc' := 10) (i := 2) hF xd_RE_addAll_9 rfl rfl rfl ?_
        refine xv_iconstN (pc' := 11) 0 hF xd_RE_addAll_10 (by decide +kernel) rfl ?_
        refine xv_aload_n (pc' := 12) (i := 1) hF xd_RE_addAll_11 rfl rfl rfl ?_
        refine xv_iload_n (pc' := 13) (i := 2) hF xd_RE_addAll_12 rfl rfl rfl ?_
        refine xv_callVv (pc' := 16) (ci := 2) hF (c_RE_addGoingOn K n h1 a t 0 c t _ N hr1 (hc.keep hfr hap) (Or.inr hap) e e (by decide) (fun j hj hz => by omega)) xq_RE_addGoingOn xk_RE_m38 xk_i_RE_addGoingOn xk_s_RE_addGoingOn (by first | assumption | exact xu_self | (refine (xu_ne (by omega)).trans ?_; first | assumption | exact xu_self | (refine (xu_ne (by omega)).trans ?_; first | assumption | exact xu_self | (refine (xu_ne (by omega)).trans ?_; first | assumption | exact xu_self | (refine (xu_ne (by omega)).trans ?_; first | assumption | exact xu_self))))) rfl ⟨(Nat.le_of_ble_eq_true rfl), (Nat.le_of_ble_eq_true rfl)⟩ rfl rfl (Nat.le_of_ble_eq_true rfl) ⟨(Nat.le_of_ble_eq_true rfl), (Nat.le_of_ble_eq_true rfl)⟩ xd_RE_addAll_13 rfl (fun n2 h2 p2 => ?_)
        obtain ⟨rfl, hfr2, hr2⟩ := p2
        first | refine xv_iincN (pc' := 19) hF xd_RE_addAll_16 rfl rfl (Nat.le_of_ble_eq_true rfl) rfl rfl ?_ | refine xv_iinc (pc' := 19) hF xd_RE_addAll_16 rfl rfl (Nat.le_of_ble_eq_true rfl) rfl rfl ?_
        refine xv_goto (tgt := 2) hF xd_RE_addAll_19 (by decide) ?_
        refine xv_loc _ (by repeat (first | exact trivial | refine ⟨rfl, ?_⟩)) (ih _ (by omega) (t + 1) _ rfl (by omega) (hfr.tr hfr2) (hr2.congr ?_))
        intro y z hy hz
        unfold md_go md_mi
        by_cases c0 : y = t
        · subst c0; simp [hz]
        · have : y < t + 1 ↔ y < t := by omega
          simp [c0, this]
  refine xv_loc _ (by repeat (first | exact trivial | refine ⟨rfl, ?_⟩)) (loop 32 0 h (by omega) (by omega) re_fr.rf (hr.congr ?_))
  intro y z hy hz
  unfold md_mi
  simp
/-! Relation.setToChain -/
def md_ch (C D : Nat → Nat → Nat) (x : Nat) : Nat → Nat → Nat
  | 0, _ => 1000000
  | v + 1, y => if C x v < 1000000 ∧ D v y < 1000000 then min (md_ch C D x v y) (C x v + D v y) else md_ch C D x v y
def md_ct (C D : Nat → Nat → Nat) (i v : Nat) : Nat → Nat → Nat := fun x y => if x < i then md_ch C D x 32 y else if x = i then md_ch C D x v y else 1000000
theorem md_ct_lt {C D : Nat → Nat → Nat} {i v x y : Nat} (h : x < i) : md_ct C D i v x y = md_ch C D x 32 y := by unfold md_ct; rw [if_pos h]
theorem md_ct_eq {C D : Nat → Nat → Nat} {i v y : Nat} : md_ct C D i v i y = md_ch C D i v y := by unfold md_ct; rw [if_neg (Nat.lt_irrefl _), if_pos rfl]
theorem md_ct_gt {C D : Nat → Nat → Nat} {i v x y : Nat} (h : i < x) : md_ct C D i v x y = 1000000 := by unfold md_ct; rw [if_neg (by omega), if_neg (by omega)]
theorem md_ct_0 {C D : Nat → Nat → Nat} {i x y : Nat} (h : i ≤ x) : md_ct C D i 0 x y = 1000000 := by
  rcases Nat.lt_or_eq_of_le h with h | h
  · exact md_ct_gt h
  · subst h; exact md_ct_eq
theorem md_ch_sq (C D : Nat → Nat → Nat) : pd_sq C D (fun x y => md_ch C D x 32 y) := by
  intro x y hx hy
  have key : ∀ v, v ≤ 32 → md_ch C D x v y ≤ 1000000 ∧ (md_ch C D x v y < 1000000 → ∃ u, u < v ∧ C x u < 1000000 ∧ D u y < 1000000 ∧ md_ch C D x v y = C x u + D u y) ∧ ∀ u, u < v → C x u < 1000000 → D u y < 1000000 → md_ch C D x v y ≤ C x u + D u y := by
    intro v
    induction v with
    | zero => intro _; exact ⟨Nat.le_refl _, fun h => absurd h (Nat.lt_irrefl _), fun u hu => by omega⟩
    | succ v ih =>
      intro hv
      obtain ⟨a1, a2, a3⟩ := ih (by omega)
      unfold md_ch
      by_cases c : C x v < 1000000 ∧ D v y < 1000000
      · rw [if_pos c]
        refine ⟨by omega, fun h => ?_, fun u hu h1 h2 => ?_⟩
        · by_cases c2 : md_ch C D x v y ≤ C x v + D v y
          · rw [Nat.min_eq_left c2] at h ⊢
            obtain ⟨u, b1, b2, b3, b4⟩ := a2 h
            exact ⟨u, by omega, b2, b3, b4⟩
          · rw [Nat.min_eq_right (by omega)]
            exact ⟨v, by omega, c.1, c.2, rfl⟩
        · by_cases c3 : u = v
          · subst c3; exact Nat.min_le_right _ _
          · have := a3 u (by omega) h1 h2
            omega
      · rw [if_neg c]
        refine ⟨a1, fun h => ?_, fun u hu h1 h2 => ?_⟩
        · obtain ⟨u, b1, b2, b3, b4⟩ := a2 h
          exact ⟨u, by omega, b2, b3, b4⟩
        · by_cases c3 : u = v
          · subst c3; exact absurd ⟨h1, h2⟩ c
          · exact a3 u (by omega) h1 h2
  exact key 32 (Nat.le_refl _)
set_option maxHeartbeats 4000000 in
set_option maxRecDepth 100000 in
theorem c_RE_setToChain (K : xK) (n : Nat) (h : xH) (a c e0 : Nat) (M C D : Nat → Nat → Nat) (hr : re_R K h a M) (hc : re_R K h c C) (he : re_R K h e0 D) (h1p : re_ap a c) (h2p : re_ap a e0) (hb : ∀ x v y, x < 32 → v < 32 → y < 32 → C x v < 1000000 → D v y < 1000000 → C x v + D v y < 1000000) : XM K xy_RE_setToChain xw_RE_setToChain (xrm 2 51 0 0) [.ref a, .ref c, .ref e0] n h (x_pv fun n' h' => n = n' ∧ re_fr h h' a ∧ re_R K h' a (fun x y => md_ch C D x 32 y)) 0 0 := by
  obtain ⟨f0, g0, ⟨z1, z2, z3⟩, z4⟩ := id hr
  refine xm_v (by decide +kernel) (Nat.le_of_ble_eq_true rfl) (fun G hF hR => ?_)
  refine xv_aload_n (pc' := 1) (i := 0) hF xd_RE_setToChain_0 rfl rfl rfl ?_
  refine xv_callVv (pc' := 4) (ci := 2) hF (c_RE_clear K n h a M hr) xq_RE_clear xk_RE_m42 xk_i_RE_clear xk_s_RE_clear (by first | assumption | exact xu_self | (refine (xu_ne (by omega)).trans ?_; first | assumption | exact xu_self | (refine (xu_ne (by omega)).trans ?_; first | assumption | exact xu_self | (refine (xu_ne (by omega)).trans ?_; first | assumption | exact xu_self | (refine (xu_ne (by omega)).trans ?_; first | assumption | exact xu_self))))) rfl ⟨(Nat.le_of_ble_eq_true rfl), (Nat.le_of_ble_eq_true rfl)⟩ rfl rfl (Nat.le_of_ble_eq_true rfl) ⟨(Nat.le_of_ble_eq_true rfl), (Nat.le_of_ble_eq_true rfl)⟩ xd_RE_setToChain_1 rfl (fun n1 h1 p1 => ?_)
  obtain ⟨rfl, hfr1, hr1⟩ := p1
  refine xv_iconstN (pc' := 5) 0 hF xd_RE_setToChain_4 (by decide +kernel) rfl ?_
  refine xv_istore_n (pc' := 6) (i := 3) hF xd_RE_setToChain_5 rfl (Nat.le_of_ble_eq_true rfl) rfl rfl ?_
  have loop : ∀ d i h1, 32 - i = d → i ≤ 32 → re_fr h h1 a → re_R K h1 a (md_ct C D i 0) → XV G 0 0 6 [(3, .int (nI i)), (0, .ref a), (1, .ref c), (2, .ref e0)] [] n h1 := by
    intro d
    induction d using Nat.strongRecOn with
    | ind d ih =>
      intro i h1 hd hi hfr hr1
      refine xv_iload_n (pc' := 7) (i := 3) hF xd_RE_setToChain_6 rfl rfl rfl ?_
      refine xv_bipushN (pc' := 9) 32 hF xd_RE_setToChain_7 (by decide +kernel) rfl ?_
      refine xv_icmp_geN (pc' := 12) (tgt := 80) hF (by omega) (by omega) xd_RE_setToChain_9 (by decide) rfl (fun e => ?_) (fun e => ?_)
      · refine hR _ _ _ _ _ _ (by omega) (by omega) ?_ xd_RE_setToChain_80
        refine ⟨rfl, hfr, hr1.congr fun x y hx hy => ?_⟩
        rw [md_ct_lt (by omega)]
      · have hcK := hc.keep hfr h1p
        obtain ⟨fC, gC, ⟨k1, k2, k3⟩, k4⟩ := id hcK
        refine xv_aload_n (pc' := 13) (i := 1) hF xd_RE_setToChain_12 rfl rfl rfl ?_
        refine xv_get (pc' := 16) (ci := 2) hF (by first | assumption | exact xu_self | (refine (xu_ne (by omega)).trans ?_; first | assumption | exact xu_self | (refine (xu_ne (by omega)).trans ?_; first | assumption | exact xu_self | (refine (xu_ne (by omega)).trans ?_; first | assumption | exact xu_self | (refine (xu_ne (by omega)).trans ?_; first | assumption | exact xu_self))))) rfl xu_RE 0 (by decide) xk_RE_f9 (by rfl) xd_RE_setToChain_13 rfl ?_
        refine xv_iload_n (pc' := 17) (i := 3) hF xd_RE_setToChain_16 rfl rfl rfl ?_
        first | refine xv_ialdN (pc' := 18) hF (by first | assumption | exact xu_self | (refine (xu_ne (by omega)).trans ?_; first | assumption | exact xu_self | (refine (xu_ne (by omega)).trans ?_; first | assumption | exact xu_self | (refine (xu_ne (by omega)).trans ?_; first | assumption | exact xu_self | (refine (xu_ne (by omega)).trans ?_; first | assumption | exact xu_self))))) (by omega) (by decide) xd_RE_setToChain_17 rfl ?_ | refine xv_iald (pc' := 18) hF (by first | assumption | exact xu_self | (refine (xu_ne (by omega)).trans ?_; first | assumption | exact xu_self | (refine (xu_ne (by omega)).trans ?_; first | assumption | exact xu_self | (refine (xu_ne (by omega)).trans ?_; first | assumption | exact xu_self | (refine (xu_ne (by omega)).trans ?_; first | assumption | exact xu_self))))) (by omega) xd_RE_setToChain_17 rfl ?_
        refine xv_istore (pc' := 20) hF xd_RE_setToChain_18 (Nat.le_of_ble_eq_true rfl) rfl rfl ?_
        refine xv_iconstN (pc' := 21) 0 hF xd_RE_setToChain_20 (by decide +kernel) rfl ?_
        refine xv_istore (pc' := 23) hF xd_RE_setToChain_21 (Nat.le_of_ble_eq_true rfl) rfl rfl ?_
        have hx : ∀ j, j < 32 → bt (fC i) j = decide (C i j < 1000000) := fun j hj => (k4 i j e hj).1
        clear k1 k2 k3 k4 hcK
        generalize fC i = x at hx ⊢
        have loop2 : ∀ d2 v h2, 32 - v = d2 → v ≤ 32 → re_fr h h2 a → re_R K h2 a (md_ct C D i v) → XV G 0 0 23 [(5, .int (nI v)), (4, .int x), (3, .int (nI i)), (0, .ref a), (1, .ref c), (2, .ref e0)] [] n h2 := by
          intro d2
          induction d2 using Nat.strongRecOn with
          | ind d2 ih2 =>
            intro v h2 hd2 hv hfr2 hr2
            have fin : (∀ j, v ≤ j → j < 32 → ¬ C i j < 1000000) → XV G 0 0 74 [(5, .int (nI v)), (4, .int x), (3, .int (nI i)), (0, .ref a), (1, .ref c), (2, .ref e0)] [] n h2 := by
              intro hz
              first | refine xv_iincN (pc' := 77) hF xd_RE_setToChain_74 rfl rfl (Nat.le_of_ble_eq_true rfl) rfl rfl ?_ | refine xv_iinc (pc' := 77) hF xd_RE_setToChain_74 rfl rfl (Nat.le_of_ble_eq_true rfl) rfl rfl ?_
              refine xv_goto (tgt := 6) hF xd_RE_setToChain_77 (by decide) ?_
              refine xv_loc _ (by repeat (first | exact trivial | refine ⟨rfl, ?_⟩)) (ih _ (by omega) (i + 1) _ rfl (by omega) hfr2 (hr2.congr ?_))
              have key : ∀ q y, v + q ≤ 32 → md_ch C D i (v + q) y = md_ch C D i v y := by
                intro q y
                induction q with
                | zero => intro _; rfl
                | succ q ihq =>
                  intro hq
                  show md_ch C D i (v + q + 1) y = _
                  show (if C i (v + q) < 1000000 ∧ D (v + q) y < 1000000 then _ else _) = _
                  rw [if_neg (fun h => hz (v + q) (by omega) (by omega) h.1)]
                  exact ihq (by omega)
              intro y z hy hz2
              by_cases c0 : y < i
              · rw [md_ct_lt (by omega), md_ct_lt c0]
              · by_cases c1 : y = i
                · subst c1
                  rw [md_ct_lt (by omega), md_ct_eq]
                  have := key (32 - v) z (by omega)
                  rw [show v + (32 - v) = 32 by omega] at this
                  exact this
                · rw [md_ct_0 (by omega), md_ct_gt (by omega)]
            refine xv_iload (pc' := 25) hF xd_RE_setToChain_23 rfl rfl ?_
            refine xv_bipushN (pc' := 27) 32 hF xd_RE_setToChain_25 (by decide +kernel) rfl ?_
            refine xv_icmp_geN (pc' := 30) (tgt := 74) hF (by omega) (by omega) xd_RE_setToChain_27 (by decide) rfl (fun e3 => ?_) (fun e3 => ?_)
            · exact fin fun j q1 q2 => by omega
            · refine xv_iload (pc' := 32) hF xd_RE_setToChain_30 rfl rfl ?_
              refine xv_iload (pc' := 34) hF xd_RE_setToChain_32 rfl rfl ?_
              refine xv_iushr (pc' := 35) hF xd_RE_setToChain_34 rfl rfl ?_
              refine xv_if_eq (pc' := 38) (tgt := 74) hF xd_RE_setToChain_35 (by decide) rfl (fun e4 => ?_) (fun e4 => ?_)
              · rw [bt_ush x e3] at e4
                refine fin fun j q1 q2 => ?_
                have := e4 j q1 q2
                rw [hx j q2] at this
                exact of_decide_eq_false this
              · clear e4
                refine xv_iload (pc' := 40) hF xd_RE_setToChain_38 rfl rfl ?_
                refine xv_iload (pc' := 42) hF xd_RE_setToChain_40 rfl rfl ?_
                refine xv_callSNi (pc' := 45) hF (c_PD_isIn K n h2 x v e3) xq_PD_isIn xk_RE_m24 xk_t_PD_isIn ⟨(Nat.le_of_ble_eq_true rfl), (Nat.le_of_ble_eq_true rfl)⟩ rfl rfl (Nat.le_of_ble_eq_true rfl) ⟨(Nat.le_of_ble_eq_true rfl), (Nat.le_of_ble_eq_true rfl)⟩ xd_RE_setToChain_42 rfl (fun r n3 h3 p3 => ?_)
                obtain ⟨rfl, rfl, rfl⟩ := p3
                refine xv_if_eqB (pc' := 48) (tgt := 68) hF xd_RE_setToChain_45 (by decide) rfl (fun e5 => ?_) (fun e5 => ?_)
                · rw [hx v e3] at e5
                  have e5 := of_decide_eq_false e5
                  first | refine xv_iincN (pc' := 71) hF xd_RE_setToChain_68 rfl rfl (Nat.le_of_ble_eq_true rfl) rfl rfl ?_ | refine xv_iinc (pc' := 71) hF xd_RE_setToChain_68 rfl rfl (Nat.le_of_ble_eq_true rfl) rfl rfl ?_
                  refine xv_goto (tgt := 23) hF xd_RE_setToChain_71 (by decide) ?_
                  refine xv_loc _ (by repeat (first | exact trivial | refine ⟨rfl, ?_⟩)) (ih2 _ (by omega) (v + 1) _ rfl (by omega) hfr2 (hr2.congr ?_))
                  intro y z hy hz
                  by_cases c0 : y < i
                  · rw [md_ct_lt c0, md_ct_lt c0]
                  · by_cases c1 : y = i
                    · subst c1
                      rw [md_ct_eq, md_ct_eq]
                      show (if C y v < 1000000 ∧ D v z < 1000000 then _ else _) = _
                      rw [if_neg (fun h => e5 h.1)]
                    · rw [md_ct_gt (by omega), md_ct_gt (by omega)]
                · rw [hx v e3] at e5
                  have e5 := of_decide_eq_true e5
                  have hcK := hc.keep hfr2 h1p
                  obtain ⟨fC, gC, ⟨k1, k2, k3⟩, k4⟩ := id hcK
                  have k5 := (k4 i v e e3).2 e5
                  obtain ⟨fA, gA, ⟨j1, j2, j3⟩, j4⟩ := id hr2
                  refine xv_aload_n (pc' := 49) (i := 0) hF xd_RE_setToChain_48 rfl rfl rfl ?_
                  refine xv_iload_n (pc' := 50) (i := 3) hF xd_RE_setToChain_49 rfl rfl rfl ?_
                  refine xv_aload_n (pc' := 51) (i := 1) hF xd_RE_setToChain_50 rfl rfl rfl ?_
                  refine xv_get (pc' := 54) (ci := 2) hF (by first | assumption | exact xu_self | (refine (xu_ne (by omega)).trans ?_; first | assumption | exact xu_self | (refine (xu_ne (by omega)).trans ?_; first | assumption | exact xu_self | (refine (xu_ne (by omega)).trans ?_; first | assumption | exact xu_self | (refine (xu_ne (by omega)).trans ?_; first | assumption | exact xu_self))))) rfl xu_RE 1 (by decide) xk_RE_f15 (by rfl) xd_RE_setToChain_51 rfl ?_
                  refine xv_iload_n (pc' := 55) (i := 3) hF xd_RE_setToChain_54 rfl rfl rfl ?_
                  refine xv_bipushN (pc' := 57) 32 hF xd_RE_setToChain_55 (by decide +kernel) rfl ?_
                  first | refine xv_imulN (pc' := 58) hF xd_RE_setToChain_57 rfl ?_ | refine xv_imul (pc' := 58) hF xd_RE_setToChain_57 rfl ?_
                  refine xv_iload (pc' := 60) hF xd_RE_setToChain_58 rfl rfl ?_
                  first | refine xv_iaddN (pc' := 61) hF xd_RE_setToChain_60 rfl ?_ | refine xv_iadd (pc' := 61) hF xd_RE_setToChain_60 rfl ?_
                  first | refine xv_ialdN (pc' := 62) hF (by first | assumption | exact xu_self | (refine (xu_ne (by omega)).trans ?_; first | assumption | exact xu_self | (refine (xu_ne (by omega)).trans ?_; first | assumption | exact xu_self | (refine (xu_ne (by omega)).trans ?_; first | assumption | exact xu_self | (refine (xu_ne (by omega)).trans ?_; first | assumption | exact xu_self))))) (by omega) (by decide) xd_RE_setToChain_61 rfl ?_ | refine xv_iald (pc' := 62) hF (by first | assumption | exact xu_self | (refine (xu_ne (by omega)).trans ?_; first | assumption | exact xu_self | (refine (xu_ne (by omega)).trans ?_; first | assumption | exact xu_self | (refine (xu_ne (by omega)).trans ?_; first | assumption | exact xu_self | (refine (xu_ne (by omega)).trans ?_; first | assumption | exact xu_self))))) (by omega) xd_RE_setToChain_61 rfl ?_
                  refine xv_topi k5 ?_
                  refine xv_aload_n (pc' := 63) (i := 2) hF xd_RE_setToChain_62 rfl rfl rfl ?_
                  refine xv_iload (pc' := 65) hF xd_RE_setToChain_63 rfl rfl ?_
                  refine xv_callVv (pc' := 68) (ci := 2) hF (c_RE_addGoingOn K n h2 a i (C i v) e0 v _ D hr2 (he.keep hfr2 h2p) (Or.inr h2p) e e3 e5 (fun j hj hz => hb i v j e e3 hj e5 hz)) xq_RE_addGoingOn xk_RE_m38 xk_i_RE_addGoingOn xk_s_RE_addGoingOn (by first | assumption | exact xu_self | (refine (xu_ne (by omega)).trans ?_; first | assumption | exact xu_self | (refine (xu_ne (by omega)).trans ?_; first | assumption | exact xu_self | (refine (xu_ne (by omega)).trans ?_; first | assumption | exact xu_self | (refine (xu_ne (by omega)).trans ?_; first | assumption | exact xu_self))))) rfl ⟨(Nat.le_of_ble_eq_true rfl), (Nat.le_of_ble_eq_true rfl)⟩ rfl rfl (Nat.le_of_ble_eq_true rfl) ⟨(Nat.le_of_ble_eq_true rfl), (Nat.le_of_ble_eq_true rfl)⟩ xd_RE_setToChain_65 rfl (fun n4 h4 p4 => ?_)
                  obtain ⟨rfl, hfr4, hr4⟩ := p4
                  first | refine xv_iincN (pc' := 71) hF xd_RE_setToChain_68 rfl rfl (Nat.le_of_ble_eq_true rfl) rfl rfl ?_ | refine xv_iinc (pc' := 71) hF xd_RE_setToChain_68 rfl rfl (Nat.le_of_ble_eq_true rfl) rfl rfl ?_
                  refine xv_goto (tgt := 23) hF xd_RE_setToChain_71 (by decide) ?_
                  refine xv_loc _ (by repeat (first | exact trivial | refine ⟨rfl, ?_⟩)) (ih2 _ (by omega) (v + 1) _ rfl (by omega) (hfr2.tr hfr4) (hr4.congr ?_))
                  intro y z hy hz
                  unfold md_go
                  by_cases c0 : y < i
                  · rw [md_ct_lt c0, md_ct_lt c0, if_neg (by omega)]
                  · by_cases c1 : y = i
                    · subst c1
                      rw [md_ct_eq, md_ct_eq]
                      show (if C y v < 1000000 ∧ D v z < 1000000 then _ else _) = _
                      by_cases c2 : D v z < 1000000
                      · rw [if_pos ⟨e5, c2⟩, if_pos ⟨rfl, hz, c2⟩]
                      · rw [if_neg (fun h => c2 h.2), if_neg (fun h => c2 h.2.2)]
                    · rw [md_ct_gt (by omega), md_ct_gt (by omega), if_neg (fun h => c1 h.1)]
        exact xv_loc _ (by repeat (first | exact trivial | refine ⟨rfl, ?_⟩)) (loop2 32 0 h1 (by omega) (by omega) hfr hr1)
  refine xv_loc _ (by repeat (first | exact trivial | refine ⟨rfl, ?_⟩)) (loop 32 0 h1 (by omega) (by omega) hfr1 (hr1.congr ?_))
  intro y z hy hz
  rw [md_ct_0 (by omega)]
  rfl
