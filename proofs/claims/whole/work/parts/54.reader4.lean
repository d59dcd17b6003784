theorem rp_sr_ln (s : Nat) (q : rs_T) : rp_ln (rp_sr s q) ≤ q.2.2.2.2.2.2.2.length + 1 := by
  obtain ⟨st, op, ir, rs, le, mo, en, os⟩ := q
  exact Nat.le_refl _
theorem rp_as_ln (k m : Nat) (q : rs_T) : rp_ln (rp_as k m q) ≤ rp_ln q + 2 := by
  unfold rp_as
  have h1 := rp_sr_ln 1 (rp_ap (k + 16 * m) (rp_er q))
  have h2 := rp_er_os q
  generalize rp_er q = q' at h1 h2 ⊢
  obtain ⟨st, op, ir, rs, le, mo, en, os⟩ := q'
  have h3 : (rp_ap (k + 16 * m) (st, op, ir, rs, le, mo, en, os)).2.2.2.2.2.2.2.length = os.length + 1 := by simp [rp_ap]
  rw [h3] at h1
  dsimp only at h2
  omega
theorem rp_go_ln (s : Nat) (q : rs_T) : rp_ln (rp_go s q) = rp_ln q := rfl
theorem rp_ap_ln (w : Nat) (q : rs_T) : rp_ln (rp_ap w q) = rp_ln q + 1 := by
  obtain ⟨st, op, ir, rs, le, mo, en, os⟩ := q
  cases ir <;> simp [rp_ap, rp_ln]
theorem rp_st_ln {c k : Nat} {q q' : rs_T} (h : rp_st c k q = some q') : rp_ln q' ≤ rp_ln q + 2 := by
  unfold rp_st at h
  split at h
  · cases h; rw [rp_go_ln]; exact rp_as_ln _ _ _
  · split at h
    · cases h; rw [rp_go_ln]; exact rp_as_ln _ _ _
    · cases h
theorem rp_tg_ln {c k : Nat} {q q' : rs_T} (h : rp_tg c k q = some q') : rp_ln q' ≤ rp_ln q + 2 := by
  unfold rp_tg at h
  split at h
  · cases h; rw [rp_go_ln]; exact rp_as_ln _ _ _
  · cases h
theorem rp_be_ln {c : Nat} {q q' : rs_T} (h : rp_be c q = some q') : rp_ln q' ≤ rp_ln q + 2 := by
  obtain ⟨st, op, ir, rs, le, mo, en, os⟩ := q
  have h : (if c = 125 ∧ mo ≠ 0 then _ else _) = some q' := h
  split at h
  · cases h
    simp [rp_ln]
    omega
  · cases h
theorem rp_step_ln {c : Nat} {q q' : rs_T} (h : rp_step c q = some q') : rp_ln q' ≤ rp_ln q + 2 := by
  unfold rp_step at h
  split at h
  · unfold rp_row at h
    split at h
    · split at h
      · cases h
      · cases h
        have h2 := rp_er_os q
        have h3 := rp_er_ir q
        generalize rp_er q = q' at h2 h3 ⊢
        obtain ⟨st, op, ir, rs, le, mo, en, os⟩ := q'
        dsimp only at h2 h3
        subst h3
        simp [rp_sa, rp_up, rp_ln] at h2 ⊢
        omega
    split at h
    · split at h
      · cases h
      · cases h
        have h2 := rp_er_os q
        unfold rp_ew
        generalize rp_er q = q' at h2 ⊢
        obtain ⟨st, op, ir, rs, le, mo, en, os⟩ := q'
        dsimp only at h2
        simp [rp_dn, rp_sr, rp_ap, rp_ln] at h2 ⊢
        omega
    split at h
    · split at h
      · cases h; rw [rp_ap_ln]; omega
      · cases h
    split at h
    · split at h
      · cases h; rw [rp_ap_ln]; omega
      · cases h
    split at h
    · split at h
      · cases h; rw [rp_ap_ln]; omega
      · cases h
    split at h
    · cases h; rw [rp_go_ln]; omega
    split at h
    · cases h; rw [rp_go_ln]; omega
    split at h
    · split at h
      · cases h; rw [rp_go_ln]; omega
      · cases h
    split at h
    · cases h
      rw [rp_ap_ln]
      unfold rp_ew
      rw [rp_ap_ln, rp_er_ln]
      omega
    · exact rp_st_ln h
  · unfold rp_ins at h
    split at h
    · exact rp_st_ln h
    · split at h
      · cases h; rw [rp_go_ln]; omega
      · exact rp_tg_ln h
    · exact rp_tg_ln h
    · split at h
      · cases h; rw [rp_go_ln]; omega
      · cases h
    · split at h
      · cases h; rw [rp_go_ln]; exact Nat.le_add_right _ _
      · cases h
    · split at h
      · cases h; rw [rp_go_ln]; omega
      · exact rp_be_ln h
    · split at h
      · cases h; rw [rp_go_ln]; exact Nat.le_add_right _ _
      · cases h
    · exact rp_be_ln h
/-- a text's first k characters -/
def rp_run (cs : Nat → Nat) (q0 : rs_T) : Nat → Option rs_T
  | 0 => some q0
  | k + 1 => (rp_run cs q0 k).bind (rp_step (cs k))
/-- a start -/
def rp_0 (rs le mo : Nat) (en : Nat → Nat) : rs_T := rp_sa (0, 0, false, rs, le, mo, en, [])
theorem rd_tell {K : xK} {h : xH} {o x x' : Nat} {st op rs le mo : Nat} {ir : Bool} {en : Nat → Nat} {os os' : List Nat} {sx sx' : Nat} (p : rd_R K h o x (st, op, ir, rs, le, mo, en, os) sx) (hx : ex_R K h x' os' sx') (hok : rd_ok o x') : rd_R K (xu h (o + 4) (.inr (4, [.ref (o + 5), .ref x', .int (nI st), .int (nI op), .int (xb ir), .int (nI rs), .int (nI le), .int (nI mo)]))) o x' (st, op, ir, rs, le, mo, en, os') sx' ∧ rd_fr o x' h (xu h (o + 4) (.inr (4, [.ref (o + 5), .ref x', .int (nI st), .int (nI op), .int (xb ir), .int (nI rs), .int (nI le), .int (nI mo)]))) := by
  obtain ⟨p1, ⟨f, p2, p3⟩, p4, p5, b⟩ := p
  have hf : ∀ q, q ≠ o + 4 → q ≠ o + 5 → (xu h (o + 4) (.inr (4, [.ref (o + 5), .ref x', .int (nI st), .int (nI op), .int (xb ir), .int (nI rs), .int (nI le), .int (nI mo)]))) q = h q := fun q h1 _ => xu_ne h1
  exact ⟨⟨xu_self, ⟨f, by rw [xu_ne (by omega)]; exact p2, p3⟩, hx.own hok hf, hok, b⟩, fun q a b c d => hf q a b⟩
set_option maxHeartbeats 4000000 in
set_option maxRecDepth 100000 in
theorem c_RD_start (K : xK) (n : Nat) (h : xH) (o x0 x : Nat) (q : rs_T) (sx0 sx : Nat) (os : List Nat) (hr : rd_R K h o x0 q sx0) (hx : ex_R K h x os sx) (hok : rd_ok o x) : XM K xy_RD_start xw_RD_start (xrm 2 42 0 0) [.ref (o + 4), .ref x] n h (x_pv fun n' h' => n = n' ∧ rd_fr o x h h' ∧ rd_R K h' o x (rp_0 q.2.2.2.1 q.2.2.2.2.1 q.2.2.2.2.2.1 q.2.2.2.2.2.2.1) 0) 0 0 := by
  obtain ⟨st, op, ir, rs, le, mo, en, os0⟩ := q
  obtain ⟨p1, ⟨f, p2, p3⟩, p4, p5, b1, b2, b3, b4, b5, b6⟩ := id hr
  dsimp only at p1 p3 p4 b1 b2 b3 b4 b5 b6
  dsimp only
  refine xm_v (by decide +kernel) (Nat.le_of_ble_eq_true rfl) (fun G hF hR => ?_)
  refine xv_aload_n (pc' := 1) (i := 0) hF xd_RD_start_0 rfl rfl rfl ?_
  refine xv_aload_n (pc' := 2) (i := 1) hF xd_RD_start_1 rfl rfl rfl ?_
  refine xv_put (pc' := 5) (ci := 4) (ty := xt_RD 1) hF (by first | assumption | exact xu_self | (refine (xu_ne (by omega)).trans ?_; first | assumption | exact xu_self | (refine (xu_ne (by omega)).trans ?_; first | assumption | exact xu_self | (refine (xu_ne (by omega)).trans ?_; first | assumption | exact xu_self | (refine (xu_ne (by omega)).trans ?_; first | assumption | exact xu_self))))) rfl xu_RD xt_RD xo_RD xn_RD 1 (by decide) xk_RD_f18 rfl (by decide +kernel) (by first | rfl | exact xb_nw _ | decide +kernel) (by first | rfl | exact xb_ft _ | decide +kernel) (by exact Nat.le_of_ble_eq_true rfl) (by dsimp only [List.set] <;> rfl) xd_RD_start_2 rfl ?_
  obtain ⟨hr1, hfr1⟩ := rd_tell hr hx hok
  generalize xu h (o + 4) (.inr (4, [.ref (o + 5), .ref x, .int (nI st), .int (nI op), .int (xb ir), .int (nI rs), .int (nI le), .int (nI mo)])) = h1 at hr1 hfr1 ⊢
  clear p1 p2 p3 p4
  obtain ⟨p1, ⟨f, p2, p3⟩, p4, -⟩ := id hr1
  dsimp only at p1 p4
  obtain ⟨z0, zf, ⟨z1, z2⟩, z3⟩ := id p4
  refine xv_aload_n (pc' := 6) (i := 0) hF xd_RD_start_5 rfl rfl rfl ?_
  refine xv_get (pc' := 9) (ci := 4) hF (by first | assumption | exact xu_self | (refine (xu_ne (by omega)).trans ?_; first | assumption | exact xu_self | (refine (xu_ne (by omega)).trans ?_; first | assumption | exact xu_self | (refine (xu_ne (by omega)).trans ?_; first | assumption | exact xu_self | (refine (xu_ne (by omega)).trans ?_; first | assumption | exact xu_self))))) rfl xu_RD 1 (by decide) xk_RD_f18 (by rfl) xd_RD_start_6 rfl ?_
  refine xv_callVv (pc' := 12) (ci := 3) hF (c_EX_clear K n h1 x os sx p4) xq_EX_clear xk_RD_m59 xk_i_EX_clear xk_s_EX_clear (by first | assumption | exact xu_self | (refine (xu_ne (by omega)).trans ?_; first | assumption | exact xu_self | (refine (xu_ne (by omega)).trans ?_; first | assumption | exact xu_self | (refine (xu_ne (by omega)).trans ?_; first | assumption | exact xu_self | (refine (xu_ne (by omega)).trans ?_; first | assumption | exact xu_self))))) rfl ⟨(Nat.le_of_ble_eq_true rfl), (Nat.le_of_ble_eq_true rfl)⟩ rfl rfl (Nat.le_of_ble_eq_true rfl) ⟨(Nat.le_of_ble_eq_true rfl), (Nat.le_of_ble_eq_true rfl)⟩ xd_RD_start_9 rfl (fun n2 h2 q2 => ?_)
  obtain ⟨rfl, f2, r2⟩ := q2
  obtain ⟨hr2, hfr2⟩ := rd_ex hr1 f2 r2
  clear p1 p2 p3 p4 z1 z2 z3
  obtain ⟨p1, -⟩ := id hr2
  dsimp only at p1
  refine xv_aload_n (pc' := 13) (i := 0) hF xd_RD_start_12 rfl rfl rfl ?_
  refine xv_iconstN (pc' := 14) 0 hF xd_RD_start_13 (by decide +kernel) rfl ?_
  refine xv_put (pc' := 17) (ci := 4) (ty := xt_RD 2) hF (by first | assumption | exact xu_self | (refine (xu_ne (by omega)).trans ?_; first | assumption | exact xu_self | (refine (xu_ne (by omega)).trans ?_; first | assumption | exact xu_self | (refine (xu_ne (by omega)).trans ?_; first | assumption | exact xu_self | (refine (xu_ne (by omega)).trans ?_; first | assumption | exact xu_self))))) rfl xu_RD xt_RD xo_RD xn_RD 2 (by decide) xk_RD_f22 rfl (by decide +kernel) (by first | rfl | exact xb_nw _ | decide +kernel) (by first | rfl | exact xb_ft _ | decide +kernel) (by exact Nat.le_of_ble_eq_true rfl) (by dsimp only [List.set] <;> rfl) xd_RD_start_14 rfl ?_
  refine xv_aload_n (pc' := 18) (i := 0) hF xd_RD_start_17 rfl rfl rfl ?_
  refine xv_iconstN (pc' := 19) 0 hF xd_RD_start_18 (by decide +kernel) rfl ?_
  refine xv_put (pc' := 22) (ci := 4) (ty := xt_RD 3) hF (by first | assumption | exact xu_self | (refine (xu_ne (by omega)).trans ?_; first | assumption | exact xu_self | (refine (xu_ne (by omega)).trans ?_; first | assumption | exact xu_self | (refine (xu_ne (by omega)).trans ?_; first | assumption | exact xu_self | (refine (xu_ne (by omega)).trans ?_; first | assumption | exact xu_self))))) rfl xu_RD xt_RD xo_RD xn_RD 3 (by decide) xk_RD_f26 rfl (by decide +kernel) (by first | rfl | exact xb_nw _ | decide +kernel) (by first | rfl | exact xb_ft _ | decide +kernel) (by exact Nat.le_of_ble_eq_true rfl) (by dsimp only [List.set] <;> rfl) xd_RD_start_19 rfl ?_
  refine xv_aload_n (pc' := 23) (i := 0) hF xd_RD_start_22 rfl rfl rfl ?_
  refine xv_iconstN (pc' := 24) 0 hF xd_RD_start_23 (by decide +kernel) rfl ?_
  refine xv_topi (v' := xb false) (by decide +kernel) ?_
  refine xv_put (pc' := 27) (ci := 4) (ty := xt_RD 4) hF (by first | assumption | exact xu_self | (refine (xu_ne (by omega)).trans ?_; first | assumption | exact xu_self | (refine (xu_ne (by omega)).trans ?_; first | assumption | exact xu_self | (refine (xu_ne (by omega)).trans ?_; first | assumption | exact xu_self | (refine (xu_ne (by omega)).trans ?_; first | assumption | exact xu_self))))) rfl xu_RD xt_RD xo_RD xn_RD 4 (by decide) xk_RD_f29 rfl (by decide +kernel) (by first | rfl | exact xb_nw _ | decide +kernel) (by first | rfl | exact xb_ft _ | decide +kernel) (by exact Nat.le_of_ble_eq_true rfl) (by dsimp only [List.set] <;> rfl) xd_RD_start_24 rfl ?_
  rw [xu_xu, xu_xu]
  obtain ⟨hr3, hfr3⟩ := rd_own (ir' := false) (st' := 0) (op' := 0) (rs' := rs) (le' := le) (mo' := mo) hr2 (by omega) (by omega) b3 b4 b5
  generalize xu h2 (o + 4) (.inr (4, [.ref (o + 5), .ref x, .int (nI 0), .int (nI 0), .int (xb false), .int (nI rs), .int (nI le), .int (nI mo)])) = h3 at hr3 hfr3 ⊢
  clear p1
  obtain ⟨p1, -⟩ := id hr3
  refine xv_aload_n (pc' := 28) (i := 0) hF xd_RD_start_27 rfl rfl rfl ?_
  refine xv_callVv (pc' := 31) (ci := 4) hF (c_RD_startAlternative K n h3 o x _ 0 hr3 (by show ([] : List Nat).length + 2 ≤ 203; decide)) xq_RD_startAlternative xk_RD_m62 xk_i_RD_startAlternative xk_s_RD_startAlternative (by first | assumption | exact xu_self | (refine (xu_ne (by omega)).trans ?_; first | assumption | exact xu_self | (refine (xu_ne (by omega)).trans ?_; first | assumption | exact xu_self | (refine (xu_ne (by omega)).trans ?_; first | assumption | exact xu_self | (refine (xu_ne (by omega)).trans ?_; first | assumption | exact xu_self))))) rfl ⟨(Nat.le_of_ble_eq_true rfl), (Nat.le_of_ble_eq_true rfl)⟩ rfl rfl (Nat.le_of_ble_eq_true rfl) ⟨(Nat.le_of_ble_eq_true rfl), (Nat.le_of_ble_eq_true rfl)⟩ xd_RD_start_28 rfl (fun n4 h4 q4 => ?_)
  obtain ⟨rfl, f4, r4⟩ := q4
  refine hR _ _ _ _ _ _ (by omega) (by omega) ?_ xd_RD_start_31
  exact ⟨rfl, ((hfr1.tr hfr2).tr hfr3).tr f4, r4⟩
/-- what a reading ends with -/
def rd_end9 (K : xK) (h' : xH) (o x : Nat) (cs : Nat → Nat) (N : Nat) (q0 : rs_T) (r : Int32) : Prop :=
  (∃ k q, k < N ∧ rp_run cs q0 k = some q ∧ rp_step (cs k) q = none ∧ r = nI k) ∨ (∃ q, rp_run cs q0 N = some q ∧ (q.1 ≠ 0 ∨ 0 < q.2.1) ∧ r = nI N) ∨
  ∃ q, rp_run cs q0 N = some q ∧ q.1 = 0 ∧ q.2.1 = 0 ∧ r = -1 ∧ ex_R K h' x (rp_ew q).2.2.2.2.2.2.2 ((rp_ew q).2.2.2.2.2.2.1 0)
set_option maxHeartbeats 4000000 in
set_option maxRecDepth 100000 in
theorem c_RD_read (K : xK) (n : Nat) (h : xH) (o x0 x N : Nat) (q : rs_T) (sx0 sx : Nat) (os : List Nat) (cs : Nat → Nat) (f : Nat → Int32) (hr : rd_R K h o x0 q sx0) (hx : ex_R K h x os sx) (hok : rd_ok o x) (hxc : x ≠ o + 13 ∧ x + 1 ≠ o + 13) (hca : h (o + 13) = some (.inl (K.2.2.1 0, 100, .inl f))) (hcs : ∀ i, i < N → f i = nI (cs i) ∧ cs i < 256) (hN : N ≤ 100) : XM K xy_RD_read xw_RD_read (xrm 5 108 0 0) [.ref (o + 4), .ref (o + 13), .int (nI N), .ref x] n h (x_pi fun r n' h' => n = n' ∧ rd_fr o x h h' ∧ (∃ q' sx', rd_R K h' o x q' sx') ∧ rd_end9 K h' o x cs N (rp_0 q.2.2.2.1 q.2.2.2.2.1 q.2.2.2.2.2.1 q.2.2.2.2.2.2.1) r) 0 0 := by
  obtain ⟨p1, -⟩ := id hr
  refine xm_i (by decide +kernel) (Nat.le_of_ble_eq_true rfl) (fun G hF hR => ?_)
  refine xv_aload_n (pc' := 1) (i := 0) hF xd_RD_read_0 rfl rfl rfl ?_
  refine xv_aload_n (pc' := 2) (i := 3) hF xd_RD_read_1 rfl rfl rfl ?_
  refine xv_callVv (pc' := 5) (ci := 4) hF (c_RD_start K n h o x0 x q sx0 sx os hr hx hok) xq_RD_start xk_RD_m42 xk_i_RD_start xk_s_RD_start (by first | assumption | exact xu_self | (refine (xu_ne (by omega)).trans ?_; first | assumption | exact xu_self | (refine (xu_ne (by omega)).trans ?_; first | assumption | exact xu_self | (refine (xu_ne (by omega)).trans ?_; first | assumption | exact xu_self | (refine (xu_ne (by omega)).trans ?_; first | assumption | exact xu_self))))) rfl ⟨(Nat.le_of_ble_eq_true rfl), (Nat.le_of_ble_eq_true rfl)⟩ rfl rfl (Nat.le_of_ble_eq_true rfl) ⟨(Nat.le_of_ble_eq_true rfl), (Nat.le_of_ble_eq_true rfl)⟩ xd_RD_read_2 rfl (fun n1 h1 q1 => ?_)
  obtain ⟨rfl, hfr1, hr1⟩ := q1
  have hq0 : rp_ln (rp_0 q.2.2.2.1 q.2.2.2.2.1 q.2.2.2.2.2.1 q.2.2.2.2.2.2.1) = 2 := rfl
  generalize rp_0 q.2.2.2.1 q.2.2.2.2.1 q.2.2.2.2.2.1 q.2.2.2.2.2.2.1 = q0 at hr1 hR hq0
  refine xv_iconstN (pc' := 6) 0 hF xd_RD_read_5 (by decide +kernel) rfl ?_
  refine xv_istore (pc' := 8) hF xd_RD_read_6 (Nat.le_of_ble_eq_true rfl) rfl rfl ?_
  have loop : ∀ d k h1 qk, N - k = d → k ≤ N → rd_fr o x h h1 → rp_run cs q0 k = some qk → rd_R K h1 o x qk 0 → rp_ln qk ≤ 2 * k + 2 → XV G (0 + 0) (0 + 0) 8 [(4, .int (nI k)), (0, .ref (o + 4)), (1, .ref (o + 13)), (2, .int (nI N)), (3, .ref x)] [] n h1 := by
    intro d
    induction d using Nat.strongRecOn with
    | ind d ih =>
      intro k h1 qk hd hk hfr hrun hrk hln
      clear p1
      obtain ⟨p1, ⟨f5, p2, p3⟩, p4, p5, b1, b2, b3, b4, b5, b6⟩ := id hrk
      have hca1 : h1 (o + 13) = some (.inl (K.2.2.1 0, 100, .inl f)) := by
        rw [hfr _ (by omega) (by omega) (by omega) (by omega)]; exact hca
      refine xv_iload (pc' := 10) hF xd_RD_read_8 rfl rfl ?_
      refine xv_iload_n (pc' := 11) (i := 2) hF xd_RD_read_10 rfl rfl rfl ?_
      refine xv_icmp_geN (pc' := 14) (tgt := 57) hF (by omega) (by omega) xd_RD_read_11 (by decide) rfl (fun e => ?_) (fun e => ?_)
      · have : k = N := by omega
        subst this
        refine xv_aload_n (pc' := 58) (i := 0) hF xd_RD_read_57 rfl rfl rfl ?_
        refine xv_get (pc' := 61) (ci := 4) hF (by first | assumption | exact xu_self | (refine (xu_ne (by omega)).trans ?_; first | assumption | exact xu_self | (refine (xu_ne (by omega)).trans ?_; first | assumption | exact xu_self | (refine (xu_ne (by omega)).trans ?_; first | assumption | exact xu_self | (refine (xu_ne (by omega)).trans ?_; first | assumption | exact xu_self))))) rfl xu_RD 2 (by decide) xk_RD_f22 (by rfl) xd_RD_read_58 rfl ?_
        refine xv_if_neN (pc' := 64) (tgt := 71) hF (by omega) xd_RD_read_61 (by decide) rfl (fun e2 => ?_) (fun e2 => ?_)
        · refine xv_iload_n (pc' := 72) (i := 2) hF xd_RD_read_71 rfl rfl rfl ?_
          refine hR _ _ _ _ _ _ _ (by omega) (by omega) ?_ xd_RD_read_72
          exact ⟨rfl, hfr, ⟨_, _, hrk⟩, Or.inr (Or.inl ⟨qk, hrun, Or.inl (by omega), rfl⟩)⟩
        · refine xv_aload_n (pc' := 65) (i := 0) hF xd_RD_read_64 rfl rfl rfl ?_
          refine xv_get (pc' := 68) (ci := 4) hF (by first | assumption | exact xu_self | (refine (xu_ne (by omega)).trans ?_; first | assumption | exact xu_self | (refine (xu_ne (by omega)).trans ?_; first | assumption | exact xu_self | (refine (xu_ne (by omega)).trans ?_; first | assumption | exact xu_self | (refine (xu_ne (by omega)).trans ?_; first | assumption | exact xu_self))))) rfl xu_RD 3 (by decide) xk_RD_f26 (by rfl) xd_RD_read_65 rfl ?_
          refine xv_if_leN (pc' := 71) (tgt := 73) hF (by omega) xd_RD_read_68 (by decide) rfl (fun e3 => ?_) (fun e3 => ?_)
          · refine xv_aload_n (pc' := 74) (i := 0) hF xd_RD_read_73 rfl rfl rfl ?_
            refine xv_callVv (pc' := 77) (ci := 4) hF (c_RD_endRow K n h1 o x qk 0 hrk (by omega)) xq_RD_endRow xk_RD_m53 xk_i_RD_endRow xk_s_RD_endRow (by first | assumption | exact xu_self | (refine (xu_ne (by omega)).trans ?_; first | assumption | exact xu_self | (refine (xu_ne (by omega)).trans ?_; first | assumption | exact xu_self | (refine (xu_ne (by omega)).trans ?_; first | assumption | exact xu_self | (refine (xu_ne (by omega)).trans ?_; first | assumption | exact xu_self))))) rfl ⟨(Nat.le_of_ble_eq_true rfl), (Nat.le_of_ble_eq_true rfl)⟩ rfl rfl (Nat.le_of_ble_eq_true rfl) ⟨(Nat.le_of_ble_eq_true rfl), (Nat.le_of_ble_eq_true rfl)⟩ xd_RD_read_74 rfl (fun n2 h2 q2 => ?_)
            obtain ⟨rfl, f2, r2⟩ := q2
            have hca2 := r2
            obtain ⟨z1, ⟨zf, z2, z3⟩, ⟨z4, zg, ⟨z5, z6⟩, z7⟩, z8, c1, c2, c3, c4, c5, c6⟩ := id r2
            clear p1 p2 p3 p4
            refine xv_aload_n (pc' := 78) (i := 0) hF xd_RD_read_77 rfl rfl rfl ?_
            refine xv_get (pc' := 81) (ci := 4) hF (by first | assumption | exact xu_self | (refine (xu_ne (by omega)).trans ?_; first | assumption | exact xu_self | (refine (xu_ne (by omega)).trans ?_; first | assumption | exact xu_self | (refine (xu_ne (by omega)).trans ?_; first | assumption | exact xu_self | (refine (xu_ne (by omega)).trans ?_; first | assumption | exact xu_self))))) rfl xu_RD 1 (by decide) xk_RD_f18 (by rfl) xd_RD_read_78 rfl ?_
            refine xv_aload_n (pc' := 82) (i := 0) hF xd_RD_read_81 rfl rfl rfl ?_
            refine xv_get (pc' := 85) (ci := 4) hF (by first | assumption | exact xu_self | (refine (xu_ne (by omega)).trans ?_; first | assumption | exact xu_self | (refine (xu_ne (by omega)).trans ?_; first | assumption | exact xu_self | (refine (xu_ne (by omega)).trans ?_; first | assumption | exact xu_self | (refine (xu_ne (by omega)).trans ?_; first | assumption | exact xu_self))))) rfl xu_RD 0 (by decide) xk_RD_f9 (by rfl) xd_RD_read_82 rfl ?_
            refine xv_iconstN (pc' := 86) 0 hF xd_RD_read_85 (by decide +kernel) rfl ?_
            first | refine xv_ialdN (pc' := 87) hF (by first | assumption | exact xu_self | (refine (xu_ne (by omega)).trans ?_; first | assumption | exact xu_self | (refine (xu_ne (by omega)).trans ?_; first | assumption | exact xu_self | (refine (xu_ne (by omega)).trans ?_; first | assumption | exact xu_self | (refine (xu_ne (by omega)).trans ?_; first | assumption | exact xu_self))))) (by omega) (by decide) xd_RD_read_86 rfl ?_ | refine xv_iald (pc' := 87) hF (by first | assumption | exact xu_self | (refine (xu_ne (by omega)).trans ?_; first | assumption | exact xu_self | (refine (xu_ne (by omega)).trans ?_; first | assumption | exact xu_self | (refine (xu_ne (by omega)).trans ?_; first | assumption | exact xu_self | (refine (xu_ne (by omega)).trans ?_; first | assumption | exact xu_self))))) (by omega) xd_RD_read_86 rfl ?_
            refine xv_topi (z3 0 (by decide)) ?_
            refine xv_putN (pc' := 90) (ci := 3) (ty := xt_EX 2) hF (by first | assumption | exact xu_self | (refine (xu_ne (by omega)).trans ?_; first | assumption | exact xu_self | (refine (xu_ne (by omega)).trans ?_; first | assumption | exact xu_self | (refine (xu_ne (by omega)).trans ?_; first | assumption | exact xu_self | (refine (xu_ne (by omega)).trans ?_; first | assumption | exact xu_self))))) rfl xu_EX xt_EX xo_EX xn_EX 2 (by decide) xk_RD_f56 rfl (by decide +kernel) (by first | rfl | exact xb_nw _ | decide +kernel) (by first | rfl | exact xb_ft _ | decide +kernel) (by exact Nat.le_of_ble_eq_true rfl) (by dsimp only [List.set] <;> rfl) xd_RD_read_87 rfl ?_
            refine xv_iconst (pc' := 91) (v := -1) hF xd_RD_read_90 (by decide +kernel) rfl ?_
            refine hR _ _ _ _ _ _ _ (by omega) (by omega) ?_ xd_RD_read_91
            unfold rd_ok at z8
            refine ⟨rfl, fun y a1 a2 a3 a4 => ?_, ⟨rp_ew qk, (rp_ew qk).2.2.2.2.2.2.1 0, ?_⟩, Or.inr (Or.inr ⟨qk, hrun, e2, e3, rfl, ?_⟩)⟩
            · rw [xu_ne a3, f2 y a1 a2 a3 a4]; exact hfr y a1 a2 a3 a4
            · exact ⟨by rw [xu_ne (by omega)]; exact z1, ⟨zf, by rw [xu_ne (by omega)]; exact z2, z3⟩, ⟨z4, zg, ⟨xu_self, by rw [xu_ne (by omega)]; exact z6⟩, z7⟩, z8, c1, c2, c3, c4, c5, c6⟩
            · exact ⟨z4, zg, ⟨xu_self, by rw [xu_ne (by omega)]; exact z6⟩, z7⟩
          · refine xv_iload_n (pc' := 72) (i := 2) hF xd_RD_read_71 rfl rfl rfl ?_
            refine hR _ _ _ _ _ _ _ (by omega) (by omega) ?_ xd_RD_read_72
            exact ⟨rfl, hfr, ⟨_, _, hrk⟩, Or.inr (Or.inl ⟨qk, hrun, Or.inr e3, rfl⟩)⟩
      · refine xv_aload_n (pc' := 15) (i := 1) hF xd_RD_read_14 rfl rfl rfl ?_
        refine xv_iload (pc' := 17) hF xd_RD_read_15 rfl rfl ?_
        first | refine xv_ialdN (pc' := 18) hF (by first | assumption | exact xu_self | (refine (xu_ne (by omega)).trans ?_; first | assumption | exact xu_self | (refine (xu_ne (by omega)).trans ?_; first | assumption | exact xu_self | (refine (xu_ne (by omega)).trans ?_; first | assumption | exact xu_self | (refine (xu_ne (by omega)).trans ?_; first | assumption | exact xu_self))))) (by omega) (by decide) xd_RD_read_17 rfl ?_ | refine xv_iald (pc' := 18) hF (by first | assumption | exact xu_self | (refine (xu_ne (by omega)).trans ?_; first | assumption | exact xu_self | (refine (xu_ne (by omega)).trans ?_; first | assumption | exact xu_self | (refine (xu_ne (by omega)).trans ?_; first | assumption | exact xu_self | (refine (xu_ne (by omega)).trans ?_; first | assumption | exact xu_self))))) (by omega) xd_RD_read_17 rfl ?_
        refine xv_topi (hcs k e).1 ?_
        have c256 := (hcs k e).2
        refine xv_istore (pc' := 20) hF xd_RD_read_18 (Nat.le_of_ble_eq_true rfl) rfl rfl ?_
        refine xv_aload_n (pc' := 21) (i := 0) hF xd_RD_read_20 rfl rfl rfl ?_
        refine xv_get (pc' := 24) (ci := 4) hF (by first | assumption | exact xu_self | (refine (xu_ne (by omega)).trans ?_; first | assumption | exact xu_self | (refine (xu_ne (by omega)).trans ?_; first | assumption | exact xu_self | (refine (xu_ne (by omega)).trans ?_; first | assumption | exact xu_self | (refine (xu_ne (by omega)).trans ?_; first | assumption | exact xu_self))))) rfl xu_RD 2 (by decide) xk_RD_f22 (by rfl) xd_RD_read_21 rfl ?_
        have good : ∀ h2 q', rd_fr o x h1 h2 → rp_step (cs k) qk = some q' → rd_R K h2 o x q' 0 → XV G (0 + 0 + 0) (0 + 0 + 0) 51 [(5, .int (nI (cs k))), (4, .int (nI k)), (0, .ref (o + 4)), (1, .ref (o + 13)), (2, .int (nI N)), (3, .ref x)] [] n h2 := by
          intro h2 q' f2 hs r2
          first | refine xv_iincN (pc' := 54) hF xd_RD_read_51 rfl rfl (Nat.le_of_ble_eq_true rfl) rfl rfl ?_ | refine xv_iinc (pc' := 54) hF xd_RD_read_51 rfl rfl (Nat.le_of_ble_eq_true rfl) rfl rfl ?_
          refine xv_goto (tgt := 8) hF xd_RD_read_54 (by decide) ?_
          refine xv_loc _ (by repeat (first | exact trivial | refine ⟨rfl, ?_⟩)) (ih _ (by omega) (k + 1) _ q' rfl (by omega) (hfr.tr f2) ?_ r2 ?_)
          · show (rp_run cs q0 k).bind _ = _
            rw [hrun]; exact hs
          · have := rp_step_ln hs
            omega
        have bad : ∀ h2, rd_fr o x h1 h2 → rp_step (cs k) qk = none → (∃ q', rd_R K h2 o x q' 0) → XV G (0 + 0 + 0) (0 + 0 + 0) 48 [(5, .int (nI (cs k))), (4, .int (nI k)), (0, .ref (o + 4)), (1, .ref (o + 13)), (2, .int (nI N)), (3, .ref x)] [] n h2 := by
          intro h2 f2 hs ⟨q', r2⟩
          refine xv_iload (pc' := 50) hF xd_RD_read_48 rfl rfl ?_
          refine hR _ _ _ _ _ _ _ (by omega) (by omega) ?_ xd_RD_read_50
          exact ⟨rfl, hfr.tr f2, ⟨q', 0, r2⟩, Or.inl ⟨k, qk, e, hrun, hs, rfl⟩⟩
        refine xv_if_neN (pc' := 27) (tgt := 39) hF (by omega) xd_RD_read_24 (by decide) rfl (fun e2 => ?_) (fun e2 => ?_)
        · refine xv_aload_n (pc' := 40) (i := 0) hF xd_RD_read_39 rfl rfl rfl ?_
          refine xv_iload (pc' := 42) hF xd_RD_read_40 rfl rfl ?_
          refine xv_callVi (pc' := 45) (ci := 4) hF (c_RD_takeInside K n h1 o x (cs k) qk 0 hrk (by omega) c256 e2) xq_RD_takeInside xk_RD_m50 xk_i_RD_takeInside xk_s_RD_takeInside (by first | assumption | exact xu_self | (refine (xu_ne (by omega)).trans ?_; first | assumption | exact xu_self | (refine (xu_ne (by omega)).trans ?_; first | assumption | exact xu_self | (refine (xu_ne (by omega)).trans ?_; first | assumption | exact xu_self | (refine (xu_ne (by omega)).trans ?_; first | assumption | exact xu_self))))) rfl ⟨(Nat.le_of_ble_eq_true rfl), (Nat.le_of_ble_eq_true rfl)⟩ rfl rfl (Nat.le_of_ble_eq_true rfl) ⟨(Nat.le_of_ble_eq_true rfl), (Nat.le_of_ble_eq_true rfl)⟩ xd_RD_read_42 rfl (fun r n2 h2 q2 => ?_)
          obtain ⟨rfl, f2, q2⟩ := q2
          have hst : rp_step (cs k) qk = rp_ins (cs k) qk := by unfold rp_step; rw [if_neg (by omega)]
          rcases q2 with ⟨q', a1, rfl, a3⟩ | ⟨a1, rfl, a3⟩
          · refine xv_if_neB (pc' := 48) (tgt := 51) hF xd_RD_read_45 (by decide) rfl (fun e4 => ?_) (fun e4 => ?_)
            · exact xv_loc _ (by repeat (first | exact trivial | refine ⟨rfl, ?_⟩)) (good h2 q' f2 (hst.trans a1) a3)
            · cases e4
          · refine xv_if_neB (pc' := 48) (tgt := 51) hF xd_RD_read_45 (by decide) rfl (fun e4 => ?_) (fun e4 => ?_)
            · cases e4
            · exact xv_loc _ (by repeat (first | exact trivial | refine ⟨rfl, ?_⟩)) (bad h2 f2 (hst.trans a1) a3)
        · refine xv_aload_n (pc' := 28) (i := 0) hF xd_RD_read_27 rfl rfl rfl ?_
          refine xv_iload (pc' := 30) hF xd_RD_read_28 rfl rfl ?_
          refine xv_callVi (pc' := 33) (ci := 4) hF (c_RD_takeInRow K n h1 o x (cs k) qk 0 hrk (by omega) c256) xq_RD_takeInRow xk_RD_m46 xk_i_RD_takeInRow xk_s_RD_takeInRow (by first | assumption | exact xu_self | (refine (xu_ne (by omega)).trans ?_; first | assumption | exact xu_self | (refine (xu_ne (by omega)).trans ?_; first | assumption | exact xu_self | (refine (xu_ne (by omega)).trans ?_; first | assumption | exact xu_self | (refine (xu_ne (by omega)).trans ?_; first | assumption | exact xu_self))))) rfl ⟨(Nat.le_of_ble_eq_true rfl), (Nat.le_of_ble_eq_true rfl)⟩ rfl rfl (Nat.le_of_ble_eq_true rfl) ⟨(Nat.le_of_ble_eq_true rfl), (Nat.le_of_ble_eq_true rfl)⟩ xd_RD_read_30 rfl (fun r n2 h2 q2 => ?_)
          obtain ⟨rfl, f2, q2⟩ := q2
          have hst : rp_step (cs k) qk = rp_row (cs k) qk := by unfold rp_step; rw [if_pos e2]
          rcases q2 with ⟨q', a1, rfl, a3⟩ | ⟨a1, rfl, a3⟩
          · refine xv_if_eqB (pc' := 36) (tgt := 48) hF xd_RD_read_33 (by decide) rfl (fun e4 => ?_) (fun e4 => ?_)
            · cases e4
            · refine xv_goto (tgt := 51) hF xd_RD_read_36 (by decide) ?_
              exact xv_loc _ (by repeat (first | exact trivial | refine ⟨rfl, ?_⟩)) (good h2 q' f2 (hst.trans a1) a3)
          · refine xv_if_eqB (pc' := 36) (tgt := 48) hF xd_RD_read_33 (by decide) rfl (fun e4 => ?_) (fun e4 => ?_)
            · exact xv_loc _ (by repeat (first | exact trivial | refine ⟨rfl, ?_⟩)) (bad h2 f2 (hst.trans a1) a3)
            · cases e4
  exact xv_loc _ (by repeat (first | exact trivial | refine ⟨rfl, ?_⟩)) (loop N 0 h1 q0 (by omega) (by omega) hfr1 rfl hr1 (by omega))
