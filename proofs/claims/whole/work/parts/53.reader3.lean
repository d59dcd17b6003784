set_option maxHeartbeats 4000000 in
set_option maxRecDepth 100000 in
theorem c_RD_openGroup (K : xK) (n : Nat) (h : xH) (o x : Nat) (q : rs_T) (sx : Nat) (hr : rd_R K h o x q sx) (hl : rp_ln q + 2 ≤ 203) : XM K xy_RD_openGroup xw_RD_openGroup (xrm 2 42 0 0) [.ref (o + 4)] n h (x_pi (rd_po K o x h n sx (if q.2.1 = 10 then none else some (rp_sa (rp_up (rp_er q)))))) 0 0 := by
  obtain ⟨p1, ⟨f, p2, p3⟩, p4, p5, b1, b2, b3, b4, b5, b6⟩ := id hr
  refine xm_z (by decide +kernel) (Nat.le_of_ble_eq_true rfl) (fun G hF hR => ?_)
  refine xv_aload_n (pc' := 1) (i := 0) hF xd_RD_openGroup_0 rfl rfl rfl ?_
  refine xv_get (pc' := 4) (ci := 4) hF (by first | assumption | exact xu_self | (refine (xu_ne (by omega)).trans ?_; first | assumption | exact xu_self | (refine (xu_ne (by omega)).trans ?_; first | assumption | exact xu_self | (refine (xu_ne (by omega)).trans ?_; first | assumption | exact xu_self | (refine (xu_ne (by omega)).trans ?_; first | assumption | exact xu_self))))) rfl xu_RD 3 (by decide) xk_RD_f26 (by rfl) xd_RD_openGroup_1 rfl ?_
  refine xv_bipushN (pc' := 6) 10 hF xd_RD_openGroup_4 (by decide +kernel) rfl ?_
  refine xv_icmp_neN (pc' := 9) (tgt := 11) hF (by omega) (by omega) xd_RD_openGroup_6 (by decide) rfl (fun e => ?_) (fun e => ?_)
  · refine xv_aload_n (pc' := 12) (i := 0) hF xd_RD_openGroup_11 rfl rfl rfl ?_
    refine xv_callVv (pc' := 15) (ci := 4) hF (c_RD_endRepeat K n h o x q sx hr (by omega)) xq_RD_endRepeat xk_RD_m110 xk_i_RD_endRepeat xk_s_RD_endRepeat (by first | assumption | exact xu_self | (refine (xu_ne (by omega)).trans ?_; first | assumption | exact xu_self | (refine (xu_ne (by omega)).trans ?_; first | assumption | exact xu_self | (refine (xu_ne (by omega)).trans ?_; first | assumption | exact xu_self | (refine (xu_ne (by omega)).trans ?_; first | assumption | exact xu_self))))) rfl ⟨(Nat.le_of_ble_eq_true rfl), (Nat.le_of_ble_eq_true rfl)⟩ rfl rfl (Nat.le_of_ble_eq_true rfl) ⟨(Nat.le_of_ble_eq_true rfl), (Nat.le_of_ble_eq_true rfl)⟩ xd_RD_openGroup_12 rfl (fun n1 h1 q1 => ?_)
    obtain ⟨rfl, hfr1, hr1⟩ := q1
    have hlen := rp_er_os q
    have hop : (rp_er q).2.1 = q.2.1 := by
      obtain ⟨st, op, ir, rs, le, mo, en, os⟩ := q
      cases ir <;> simp [rp_er]
    rw [if_neg e] at hR
    generalize rp_er q = q' at hr1 hlen hop hR
    obtain ⟨st, op, ir, rs, le, mo, en, os⟩ := q'
    clear p1 p2 p3 p4
    obtain ⟨p1, ⟨f, p2, p3⟩, p4, -, c1, c2, c3, c4, c5, c6⟩ := id hr1
    dsimp only at p1 p4 hlen hop c1 c2 c3 c4 c5
    refine xv_aload_n (pc' := 16) (i := 0) hF xd_RD_openGroup_15 rfl rfl rfl ?_
    refine xv_dup (pc' := 17) hF xd_RD_openGroup_16 rfl rfl ?_
    refine xv_get (pc' := 20) (ci := 4) hF (by first | assumption | exact xu_self | (refine (xu_ne (by omega)).trans ?_; first | assumption | exact xu_self | (refine (xu_ne (by omega)).trans ?_; first | assumption | exact xu_self | (refine (xu_ne (by omega)).trans ?_; first | assumption | exact xu_self | (refine (xu_ne (by omega)).trans ?_; first | assumption | exact xu_self))))) rfl xu_RD 3 (by decide) xk_RD_f26 (by rfl) xd_RD_openGroup_17 rfl ?_
    refine xv_iconstN (pc' := 21) 1 hF xd_RD_openGroup_20 (by decide +kernel) rfl ?_
    first | refine xv_iaddN (pc' := 22) hF xd_RD_openGroup_21 rfl ?_ | refine xv_iadd (pc' := 22) hF xd_RD_openGroup_21 rfl ?_
    refine xv_put (pc' := 25) (ci := 4) (ty := xt_RD 3) hF (by first | assumption | exact xu_self | (refine (xu_ne (by omega)).trans ?_; first | assumption | exact xu_self | (refine (xu_ne (by omega)).trans ?_; first | assumption | exact xu_self | (refine (xu_ne (by omega)).trans ?_; first | assumption | exact xu_self | (refine (xu_ne (by omega)).trans ?_; first | assumption | exact xu_self))))) rfl xu_RD xt_RD xo_RD xn_RD 3 (by decide) xk_RD_f26 rfl (by decide +kernel) (by first | rfl | exact xb_nw _ | decide +kernel) (by first | rfl | exact xb_ft _ | decide +kernel) (by exact Nat.le_of_ble_eq_true rfl) (by dsimp only [List.set] <;> rfl) xd_RD_openGroup_22 rfl ?_
    obtain ⟨hr2, hfr2⟩ := rd_own (ir' := ir) (st' := st) (op' := op + 1) (rs' := rs) (le' := le) (mo' := mo) hr1 c1 (by omega) c3 c4 c5
    generalize xu h1 (o + 4) (.inr (4, [.ref (o + 5), .ref x, .int (nI st), .int (nI (op + 1)), .int (xb ir), .int (nI rs), .int (nI le), .int (nI mo)])) = h2 at hr2 hfr2 ⊢
    clear p1 p2 p3
    obtain ⟨p1, -⟩ := id hr2
    refine xv_aload_n (pc' := 26) (i := 0) hF xd_RD_openGroup_25 rfl rfl rfl ?_
    refine xv_callVv (pc' := 29) (ci := 4) hF (c_RD_startAlternative K n h2 o x _ sx hr2 (by show os.length + 2 ≤ 203; omega)) xq_RD_startAlternative xk_RD_m62 xk_i_RD_startAlternative xk_s_RD_startAlternative (by first | assumption | exact xu_self | (refine (xu_ne (by omega)).trans ?_; first | assumption | exact xu_self | (refine (xu_ne (by omega)).trans ?_; first | assumption | exact xu_self | (refine (xu_ne (by omega)).trans ?_; first | assumption | exact xu_self | (refine (xu_ne (by omega)).trans ?_; first | assumption | exact xu_self))))) rfl ⟨(Nat.le_of_ble_eq_true rfl), (Nat.le_of_ble_eq_true rfl)⟩ rfl rfl (Nat.le_of_ble_eq_true rfl) ⟨(Nat.le_of_ble_eq_true rfl), (Nat.le_of_ble_eq_true rfl)⟩ xd_RD_openGroup_26 rfl (fun n3 h3 q3 => ?_)
    obtain ⟨rfl, hfr3, hr3⟩ := q3
    refine xv_iconstN (pc' := 30) 1 hF xd_RD_openGroup_29 (by decide +kernel) rfl ?_
    refine hR _ _ _ _ _ _ _ (by omega) (by omega) ?_ (by first | rfl | exact xb_nw _ | decide +kernel) xd_RD_openGroup_30
    exact ⟨rfl, (hfr1.tr hfr2).tr hfr3, Or.inl ⟨_, rfl, by decide +kernel, hr3⟩⟩
  · refine xv_iconstN (pc' := 10) 0 hF xd_RD_openGroup_9 (by decide +kernel) rfl ?_
    refine hR _ _ _ _ _ _ _ (by omega) (by omega) ?_ (by first | rfl | exact xb_nw _ | decide +kernel) xd_RD_openGroup_10
    exact ⟨rfl, rd_fr.rf, Or.inr ⟨by rw [if_pos e], by decide +kernel, q, hr⟩⟩
set_option maxHeartbeats 4000000 in
set_option maxRecDepth 100000 in
theorem c_RD_closeGroup (K : xK) (n : Nat) (h : xH) (o x : Nat) (q : rs_T) (sx : Nat) (hr : rd_R K h o x q sx) (hl : rp_ln q < 203) : XM K xy_RD_closeGroup xw_RD_closeGroup (xrm 3 62 0 0) [.ref (o + 4)] n h (x_pi (rd_po K o x h n sx (if q.2.1 = 0 then none else some (rp_dn (rp_sr ((rp_ew q).2.2.2.2.2.2.1 q.2.1) (rp_ew q)))))) 0 0 := by
  obtain ⟨p1, ⟨f, p2, p3⟩, p4, p5, b1, b2, b3, b4, b5, b6⟩ := id hr
  refine xm_z (by decide +kernel) (Nat.le_of_ble_eq_true rfl) (fun G hF hR => ?_)
  refine xv_aload_n (pc' := 1) (i := 0) hF xd_RD_closeGroup_0 rfl rfl rfl ?_
  refine xv_get (pc' := 4) (ci := 4) hF (by first | assumption | exact xu_self | (refine (xu_ne (by omega)).trans ?_; first | assumption | exact xu_self | (refine (xu_ne (by omega)).trans ?_; first | assumption | exact xu_self | (refine (xu_ne (by omega)).trans ?_; first | assumption | exact xu_self | (refine (xu_ne (by omega)).trans ?_; first | assumption | exact xu_self))))) rfl xu_RD 3 (by decide) xk_RD_f26 (by rfl) xd_RD_closeGroup_1 rfl ?_
  refine xv_if_neN (pc' := 7) (tgt := 9) hF (by omega) xd_RD_closeGroup_4 (by decide) rfl (fun e => ?_) (fun e => ?_)
  · refine xv_aload_n (pc' := 10) (i := 0) hF xd_RD_closeGroup_9 rfl rfl rfl ?_
    refine xv_callVv (pc' := 13) (ci := 4) hF (c_RD_endRow K n h o x q sx hr hl) xq_RD_endRow xk_RD_m53 xk_i_RD_endRow xk_s_RD_endRow (by first | assumption | exact xu_self | (refine (xu_ne (by omega)).trans ?_; first | assumption | exact xu_self | (refine (xu_ne (by omega)).trans ?_; first | assumption | exact xu_self | (refine (xu_ne (by omega)).trans ?_; first | assumption | exact xu_self | (refine (xu_ne (by omega)).trans ?_; first | assumption | exact xu_self))))) rfl ⟨(Nat.le_of_ble_eq_true rfl), (Nat.le_of_ble_eq_true rfl)⟩ rfl rfl (Nat.le_of_ble_eq_true rfl) ⟨(Nat.le_of_ble_eq_true rfl), (Nat.le_of_ble_eq_true rfl)⟩ xd_RD_closeGroup_10 rfl (fun n1 h1 q1 => ?_)
    obtain ⟨rfl, hfr1, hr1⟩ := q1
    have hop : (rp_ew q).2.1 = q.2.1 := by
      obtain ⟨st, op, ir, rs, le, mo, en, os⟩ := q
      cases ir <;> simp [rp_ew, rp_er, rp_ap]
    rw [if_neg (by omega), ← hop] at hR
    rw [← hop] at e
    generalize rp_ew q = q' at hr1 hR e
    obtain ⟨st, op, ir, rs, le, mo, en, os⟩ := q'
    clear p1 p2 p3 p4
    obtain ⟨p1, ⟨f, p2, p3⟩, p4, -, c1, c2, c3, c4, c5, c6⟩ := id hr1
    dsimp only at p1 p3 p4 c1 c2 c3 c4 c5 c6 e hR
    refine xv_aload_n (pc' := 14) (i := 0) hF xd_RD_closeGroup_13 rfl rfl rfl ?_
    refine xv_aload_n (pc' := 15) (i := 0) hF xd_RD_closeGroup_14 rfl rfl rfl ?_
    refine xv_get (pc' := 18) (ci := 4) hF (by first | assumption | exact xu_self | (refine (xu_ne (by omega)).trans ?_; first | assumption | exact xu_self | (refine (xu_ne (by omega)).trans ?_; first | assumption | exact xu_self | (refine (xu_ne (by omega)).trans ?_; first | assumption | exact xu_self | (refine (xu_ne (by omega)).trans ?_; first | assumption | exact xu_self))))) rfl xu_RD 0 (by decide) xk_RD_f9 (by rfl) xd_RD_closeGroup_15 rfl ?_
    refine xv_aload_n (pc' := 19) (i := 0) hF xd_RD_closeGroup_18 rfl rfl rfl ?_
    refine xv_get (pc' := 22) (ci := 4) hF (by first | assumption | exact xu_self | (refine (xu_ne (by omega)).trans ?_; first | assumption | exact xu_self | (refine (xu_ne (by omega)).trans ?_; first | assumption | exact xu_self | (refine (xu_ne (by omega)).trans ?_; first | assumption | exact xu_self | (refine (xu_ne (by omega)).trans ?_; first | assumption | exact xu_self))))) rfl xu_RD 3 (by decide) xk_RD_f26 (by rfl) xd_RD_closeGroup_19 rfl ?_
    first | refine xv_ialdN (pc' := 23) hF (by first | assumption | exact xu_self | (refine (xu_ne (by omega)).trans ?_; first | assumption | exact xu_self | (refine (xu_ne (by omega)).trans ?_; first | assumption | exact xu_self | (refine (xu_ne (by omega)).trans ?_; first | assumption | exact xu_self | (refine (xu_ne (by omega)).trans ?_; first | assumption | exact xu_self))))) (by omega) (by decide) xd_RD_closeGroup_22 rfl ?_ | refine xv_iald (pc' := 23) hF (by first | assumption | exact xu_self | (refine (xu_ne (by omega)).trans ?_; first | assumption | exact xu_self | (refine (xu_ne (by omega)).trans ?_; first | assumption | exact xu_self | (refine (xu_ne (by omega)).trans ?_; first | assumption | exact xu_self | (refine (xu_ne (by omega)).trans ?_; first | assumption | exact xu_self))))) (by omega) xd_RD_closeGroup_22 rfl ?_
    refine xv_topi (p3 op (by omega)) ?_
    refine xv_callVv (pc' := 26) (ci := 4) hF (c_RD_startRepeat K n h1 o x (en op) _ sx hr1 (c6 op)) xq_RD_startRepeat xk_RD_m113 xk_i_RD_startRepeat xk_s_RD_startRepeat (by first | assumption | exact xu_self | (refine (xu_ne (by omega)).trans ?_; first | assumption | exact xu_self | (refine (xu_ne (by omega)).trans ?_; first | assumption | exact xu_self | (refine (xu_ne (by omega)).trans ?_; first | assumption | exact xu_self | (refine (xu_ne (by omega)).trans ?_; first | assumption | exact xu_self))))) rfl ⟨(Nat.le_of_ble_eq_true rfl), (Nat.le_of_ble_eq_true rfl)⟩ rfl rfl (Nat.le_of_ble_eq_true rfl) ⟨(Nat.le_of_ble_eq_true rfl), (Nat.le_of_ble_eq_true rfl)⟩ xd_RD_closeGroup_23 rfl (fun n2 h2 q2 => ?_)
    obtain ⟨rfl, hfr2, hr2⟩ := q2
    clear p1 p2 p3
    have hr2' : rd_R K h2 o x (st, op, true, en op, le, mo, en, os) sx := hr2
    obtain ⟨p1, -⟩ := id hr2'
    dsimp only at p1
    refine xv_aload_n (pc' := 27) (i := 0) hF xd_RD_closeGroup_26 rfl rfl rfl ?_
    refine xv_dup (pc' := 28) hF xd_RD_closeGroup_27 rfl rfl ?_
    refine xv_get (pc' := 31) (ci := 4) hF (by first | assumption | exact xu_self | (refine (xu_ne (by omega)).trans ?_; first | assumption | exact xu_self | (refine (xu_ne (by omega)).trans ?_; first | assumption | exact xu_self | (refine (xu_ne (by omega)).trans ?_; first | assumption | exact xu_self | (refine (xu_ne (by omega)).trans ?_; first | assumption | exact xu_self))))) rfl xu_RD 3 (by decide) xk_RD_f26 (by rfl) xd_RD_closeGroup_28 rfl ?_
    refine xv_iconstN (pc' := 32) 1 hF xd_RD_closeGroup_31 (by decide +kernel) rfl ?_
    first | refine xv_isubN (pc' := 33) hF (by omega) xd_RD_closeGroup_32 rfl ?_ | refine xv_isub (pc' := 33) hF xd_RD_closeGroup_32 rfl ?_
    refine xv_put (pc' := 36) (ci := 4) (ty := xt_RD 3) hF (by first | assumption | exact xu_self | (refine (xu_ne (by omega)).trans ?_; first | assumption | exact xu_self | (refine (xu_ne (by omega)).trans ?_; first | assumption | exact xu_self | (refine (xu_ne (by omega)).trans ?_; first | assumption | exact xu_self | (refine (xu_ne (by omega)).trans ?_; first | assumption | exact xu_self))))) rfl xu_RD xt_RD xo_RD xn_RD 3 (by decide) xk_RD_f26 rfl (by decide +kernel) (by first | rfl | exact xb_nw _ | decide +kernel) (by first | rfl | exact xb_ft _ | decide +kernel) (by exact Nat.le_of_ble_eq_true rfl) (by dsimp only [List.set] <;> rfl) xd_RD_closeGroup_33 rfl ?_
    obtain ⟨hr3, hfr3⟩ := rd_own (ir' := true) (st' := st) (op' := op - 1) (rs' := en op) (le' := le) (mo' := mo) hr2' c1 (by omega) (c6 op) c4 c5
    refine xv_iconstN (pc' := 37) 1 hF xd_RD_closeGroup_36 (by decide +kernel) rfl ?_
    refine hR _ _ _ _ _ _ _ (by omega) (by omega) ?_ (by first | rfl | exact xb_nw _ | decide +kernel) xd_RD_closeGroup_37
    exact ⟨rfl, (hfr1.tr hfr2).tr hfr3, Or.inl ⟨_, rfl, by decide +kernel, hr3⟩⟩
  · refine xv_iconstN (pc' := 8) 0 hF xd_RD_closeGroup_7 (by decide +kernel) rfl ?_
    refine hR _ _ _ _ _ _ _ (by omega) (by omega) ?_ (by first | rfl | exact xb_nw _ | decide +kernel) xd_RD_closeGroup_8
    exact ⟨rfl, rd_fr.rf, Or.inr ⟨by rw [if_pos e], by decide +kernel, q, hr⟩⟩
theorem nI_int : ∀ k, k < 9 → (nI k).toInt = (k : Int) := by decide +kernel
set_option maxHeartbeats 4000000 in
set_option maxRecDepth 100000 in
theorem c_RD_takeInside (K : xK) (n : Nat) (h : xH) (o x c : Nat) (q : rs_T) (sx : Nat) (hr : rd_R K h o x q sx) (hl : rp_ln q + 2 ≤ 203) (hc : c < 256) (h0 : 1 ≤ q.1) : XM K xy_RD_takeInside xw_RD_takeInside (xrm 4 87 0 0) [.ref (o + 4), .int (nI c)] n h (x_pi (rd_po K o x h n sx (rp_ins c q))) 0 0 := by
  obtain ⟨p1, ⟨f, p2, p3⟩, p4, p5, b1, b2, b3, b4, b5, b6⟩ := id hr
  have hl2 : q.2.2.2.2.2.2.2.length < 203 := by unfold rp_ln at hl; omega
  obtain ⟨s, hs⟩ : ∃ s, s = q.1 := ⟨_, rfl⟩
  unfold rp_ins
  rw [← hs] at h0 b1 p1 ⊢
  refine xm_z (by decide +kernel) (Nat.le_of_ble_eq_true rfl) (fun G hF hR => ?_)
  refine xv_aload_n (pc' := 1) (i := 0) hF xd_RD_takeInside_0 rfl rfl rfl ?_
  refine xv_get (pc' := 4) (ci := 4) hF (by first | assumption | exact xu_self | (refine (xu_ne (by omega)).trans ?_; first | assumption | exact xu_self | (refine (xu_ne (by omega)).trans ?_; first | assumption | exact xu_self | (refine (xu_ne (by omega)).trans ?_; first | assumption | exact xu_self | (refine (xu_ne (by omega)).trans ?_; first | assumption | exact xu_self))))) rfl xu_RD 2 (by decide) xk_RD_f22 (by rfl) xd_RD_takeInside_1 rfl ?_
  have c8 : s = 1 ∨ s = 2 ∨ s = 3 ∨ s = 4 ∨ s = 5 ∨ s = 6 ∨ s = 7 ∨ s = 8 := by omega
  rcases c8 with rfl | rfl | rfl | rfl | rfl | rfl | rfl | rfl
  · refine xv_tabIn (off := 44) (tgt := 48) hF xd_RD_takeInside_4 (by decide +kernel) (by decide +kernel) (by decide +kernel) (by decide) ?_
    refine xv_aload_n (pc' := 49) (i := 0) hF xd_RD_takeInside_48 rfl rfl rfl ?_
    refine xv_iload_n (pc' := 50) (i := 1) hF xd_RD_takeInside_49 rfl rfl rfl ?_
    refine xv_iconstN (pc' := 51) 3 hF xd_RD_takeInside_50 (by decide +kernel) rfl ?_
    refine xv_callVi (pc' := 54) (ci := 4) hF (c_RD_takeStep K n h o x c 3 q sx hr (by omega) hc (by decide)) xq_RD_takeStep xk_RD_m65 xk_i_RD_takeStep xk_s_RD_takeStep (by first | assumption | exact xu_self | (refine (xu_ne (by omega)).trans ?_; first | assumption | exact xu_self | (refine (xu_ne (by omega)).trans ?_; first | assumption | exact xu_self | (refine (xu_ne (by omega)).trans ?_; first | assumption | exact xu_self | (refine (xu_ne (by omega)).trans ?_; first | assumption | exact xu_self))))) rfl ⟨(Nat.le_of_ble_eq_true rfl), (Nat.le_of_ble_eq_true rfl)⟩ rfl rfl (Nat.le_of_ble_eq_true rfl) ⟨(Nat.le_of_ble_eq_true rfl), (Nat.le_of_ble_eq_true rfl)⟩ xd_RD_takeInside_51 rfl (fun r n1 h1 q1 => ?_)
    refine hR _ _ _ _ _ _ _ (by omega) (by omega) q1 q1.nar xd_RD_takeInside_54
  · refine xv_tabIn (off := 51) (tgt := 55) hF xd_RD_takeInside_4 (by decide +kernel) (by decide +kernel) (by decide +kernel) (by decide) ?_
    refine xv_iload_n (pc' := 56) (i := 1) hF xd_RD_takeInside_55 rfl rfl rfl ?_
    refine xv_bipushN (pc' := 58) 33 hF xd_RD_takeInside_56 (by decide +kernel) rfl ?_
    refine xv_icmp_neN (pc' := 61) (tgt := 69) hF (by omega) (by omega) xd_RD_takeInside_58 (by decide) rfl (fun e => ?_) (fun e => ?_)
    · refine xv_aload_n (pc' := 70) (i := 0) hF xd_RD_takeInside_69 rfl rfl rfl ?_
      refine xv_iload_n (pc' := 71) (i := 1) hF xd_RD_takeInside_70 rfl rfl rfl ?_
      refine xv_iconstN (pc' := 72) 4 hF xd_RD_takeInside_71 (by decide +kernel) rfl ?_
      refine xv_callVi (pc' := 75) (ci := 4) hF (c_RD_takeTag K n h o x c 4 q sx hr (by omega) hc (by decide)) xq_RD_takeTag xk_RD_m72 xk_i_RD_takeTag xk_s_RD_takeTag (by first | assumption | exact xu_self | (refine (xu_ne (by omega)).trans ?_; first | assumption | exact xu_self | (refine (xu_ne (by omega)).trans ?_; first | assumption | exact xu_self | (refine (xu_ne (by omega)).trans ?_; first | assumption | exact xu_self | (refine (xu_ne (by omega)).trans ?_; first | assumption | exact xu_self))))) rfl ⟨(Nat.le_of_ble_eq_true rfl), (Nat.le_of_ble_eq_true rfl)⟩ rfl rfl (Nat.le_of_ble_eq_true rfl) ⟨(Nat.le_of_ble_eq_true rfl), (Nat.le_of_ble_eq_true rfl)⟩ xd_RD_takeInside_72 rfl (fun r n1 h1 q1 => ?_)
      refine hR _ _ _ _ _ _ _ (by omega) (by omega) ?_ q1.nar xd_RD_takeInside_75
      show rd_po K o x h n sx (if c = 33 then _ else _) r n1 h1
      rw [if_neg e]; exact q1
    · refine xv_aload_n (pc' := 62) (i := 0) hF xd_RD_takeInside_61 rfl rfl rfl ?_
      refine xv_iconstN (pc' := 63) 3 hF xd_RD_takeInside_62 (by decide +kernel) rfl ?_
      refine xv_callVi (pc' := 66) (ci := 4) hF (c_RD_goOnTo K n h o x 3 _ sx hr (by decide)) xq_RD_goOnTo xk_RD_m69 xk_i_RD_goOnTo xk_s_RD_goOnTo (by first | assumption | exact xu_self | (refine (xu_ne (by omega)).trans ?_; first | assumption | exact xu_self | (refine (xu_ne (by omega)).trans ?_; first | assumption | exact xu_self | (refine (xu_ne (by omega)).trans ?_; first | assumption | exact xu_self | (refine (xu_ne (by omega)).trans ?_; first | assumption | exact xu_self))))) rfl ⟨(Nat.le_of_ble_eq_true rfl), (Nat.le_of_ble_eq_true rfl)⟩ rfl rfl (Nat.le_of_ble_eq_true rfl) ⟨(Nat.le_of_ble_eq_true rfl), (Nat.le_of_ble_eq_true rfl)⟩ xd_RD_takeInside_63 rfl (fun r n1 h1 q1 => ?_)
      obtain ⟨rfl, rfl, f1, r1⟩ := q1
      refine xv_goto (tgt := 75) hF xd_RD_takeInside_66 (by decide) ?_
      refine hR _ _ _ _ _ _ _ (by omega) (by omega) ?_ (by first | rfl | exact xb_nw _ | decide +kernel) xd_RD_takeInside_75
      exact ⟨rfl, f1, Or.inl ⟨_, by show (if c = 33 then _ else _) = _; rw [if_pos e], rfl, r1⟩⟩
  · refine xv_tabIn (off := 72) (tgt := 76) hF xd_RD_takeInside_4 (by decide +kernel) (by decide +kernel) (by decide +kernel) (by decide) ?_
    refine xv_aload_n (pc' := 77) (i := 0) hF xd_RD_takeInside_76 rfl rfl rfl ?_
    refine xv_iload_n (pc' := 78) (i := 1) hF xd_RD_takeInside_77 rfl rfl rfl ?_
    refine xv_iconstN (pc' := 79) 5 hF xd_RD_takeInside_78 (by decide +kernel) rfl ?_
    refine xv_callVi (pc' := 82) (ci := 4) hF (c_RD_takeTag K n h o x c 5 q sx hr (by omega) hc (by decide)) xq_RD_takeTag xk_RD_m72 xk_i_RD_takeTag xk_s_RD_takeTag (by first | assumption | exact xu_self | (refine (xu_ne (by omega)).trans ?_; first | assumption | exact xu_self | (refine (xu_ne (by omega)).trans ?_; first | assumption | exact xu_self | (refine (xu_ne (by omega)).trans ?_; first | assumption | exact xu_self | (refine (xu_ne (by omega)).trans ?_; first | assumption | exact xu_self))))) rfl ⟨(Nat.le_of_ble_eq_true rfl), (Nat.le_of_ble_eq_true rfl)⟩ rfl rfl (Nat.le_of_ble_eq_true rfl) ⟨(Nat.le_of_ble_eq_true rfl), (Nat.le_of_ble_eq_true rfl)⟩ xd_RD_takeInside_79 rfl (fun r n1 h1 q1 => ?_)
    refine hR _ _ _ _ _ _ _ (by omega) (by omega) q1 q1.nar xd_RD_takeInside_82
  · refine xv_tabIn (off := 79) (tgt := 83) hF xd_RD_takeInside_4 (by decide +kernel) (by decide +kernel) (by decide +kernel) (by decide) ?_
    refine xv_iload_n (pc' := 84) (i := 1) hF xd_RD_takeInside_83 rfl rfl rfl ?_
    refine xv_bipushN (pc' := 86) 93 hF xd_RD_takeInside_84 (by decide +kernel) rfl ?_
    refine xv_icmp_neN (pc' := 89) (tgt := 101) hF (by omega) (by omega) xd_RD_takeInside_86 (by decide) rfl (fun e => ?_) (fun e => ?_)
    · refine xv_iconstN (pc' := 102) 0 hF xd_RD_takeInside_101 (by decide +kernel) rfl ?_
      refine hR _ _ _ _ _ _ _ (by omega) (by omega) ?_ (by first | rfl | exact xb_nw _ | decide +kernel) xd_RD_takeInside_102
      exact ⟨rfl, rd_fr.rf, Or.inr ⟨by show (if c = 93 then _ else _) = _; rw [if_neg e], by decide +kernel, q, hr⟩⟩
    · refine xv_aload_n (pc' := 90) (i := 0) hF xd_RD_takeInside_89 rfl rfl rfl ?_
      refine xv_iconstN (pc' := 91) 0 hF xd_RD_takeInside_90 (by decide +kernel) rfl ?_
      refine xv_callVi (pc' := 94) (ci := 4) hF (c_RD_goOnTo K n h o x 0 _ sx hr (by decide)) xq_RD_goOnTo xk_RD_m69 xk_i_RD_goOnTo xk_s_RD_goOnTo (by first | assumption | exact xu_self | (refine (xu_ne (by omega)).trans ?_; first | assumption | exact xu_self | (refine (xu_ne (by omega)).trans ?_; first | assumption | exact xu_self | (refine (xu_ne (by omega)).trans ?_; first | assumption | exact xu_self | (refine (xu_ne (by omega)).trans ?_; first | assumption | exact xu_self))))) rfl ⟨(Nat.le_of_ble_eq_true rfl), (Nat.le_of_ble_eq_true rfl)⟩ rfl rfl (Nat.le_of_ble_eq_true rfl) ⟨(Nat.le_of_ble_eq_true rfl), (Nat.le_of_ble_eq_true rfl)⟩ xd_RD_takeInside_91 rfl (fun r n1 h1 q1 => ?_)
      obtain ⟨rfl, rfl, f1, r1⟩ := q1
      refine xv_if_eqB (pc' := 97) (tgt := 101) hF xd_RD_takeInside_94 (by decide) rfl (fun e4 => ?_) (fun e4 => ?_)
      · cases e4
      · refine xv_iconstN (pc' := 98) 1 hF xd_RD_takeInside_97 (by decide +kernel) rfl ?_
        refine xv_goto (tgt := 102) hF xd_RD_takeInside_98 (by decide) ?_
        refine hR _ _ _ _ _ _ _ (by omega) (by omega) ?_ (by first | rfl | exact xb_nw _ | decide +kernel) xd_RD_takeInside_102
        exact ⟨rfl, f1, Or.inl ⟨_, by show (if c = 93 then _ else _) = _; rw [if_pos e], by decide +kernel, r1⟩⟩
  · refine xv_tabIn (off := 99) (tgt := 103) hF xd_RD_takeInside_4 (by decide +kernel) (by decide +kernel) (by decide +kernel) (by decide) ?_
    refine xv_aload_n (pc' := 104) (i := 0) hF xd_RD_takeInside_103 rfl rfl rfl ?_
    refine xv_iload_n (pc' := 105) (i := 1) hF xd_RD_takeInside_104 rfl rfl rfl ?_
    refine xv_callVi (pc' := 108) (ci := 4) hF (c_RD_takeLeast K n h o x c q sx hr hc) xq_RD_takeLeast xk_RD_m75 xk_i_RD_takeLeast xk_s_RD_takeLeast (by first | assumption | exact xu_self | (refine (xu_ne (by omega)).trans ?_; first | assumption | exact xu_self | (refine (xu_ne (by omega)).trans ?_; first | assumption | exact xu_self | (refine (xu_ne (by omega)).trans ?_; first | assumption | exact xu_self | (refine (xu_ne (by omega)).trans ?_; first | assumption | exact xu_self))))) rfl ⟨(Nat.le_of_ble_eq_true rfl), (Nat.le_of_ble_eq_true rfl)⟩ rfl rfl (Nat.le_of_ble_eq_true rfl) ⟨(Nat.le_of_ble_eq_true rfl), (Nat.le_of_ble_eq_true rfl)⟩ xd_RD_takeInside_105 rfl (fun r n1 h1 q1 => ?_)
    refine hR _ _ _ _ _ _ _ (by omega) (by omega) q1 q1.nar xd_RD_takeInside_108
  · refine xv_tabIn (off := 105) (tgt := 109) hF xd_RD_takeInside_4 (by decide +kernel) (by decide +kernel) (by decide +kernel) (by decide) ?_
    refine xv_iload_n (pc' := 110) (i := 1) hF xd_RD_takeInside_109 rfl rfl rfl ?_
    refine xv_bipushN (pc' := 112) 44 hF xd_RD_takeInside_110 (by decide +kernel) rfl ?_
    refine xv_icmp_neN (pc' := 115) (tgt := 124) hF (by omega) (by omega) xd_RD_takeInside_112 (by decide) rfl (fun e => ?_) (fun e => ?_)
    · refine xv_aload_n (pc' := 125) (i := 0) hF xd_RD_takeInside_124 rfl rfl rfl ?_
      refine xv_iload_n (pc' := 126) (i := 1) hF xd_RD_takeInside_125 rfl rfl rfl ?_
      refine xv_callVi (pc' := 129) (ci := 4) hF (c_RD_takeBraceEnd K n h o x c q sx hr hl2 hc) xq_RD_takeBraceEnd xk_RD_m78 xk_i_RD_takeBraceEnd xk_s_RD_takeBraceEnd (by first | assumption | exact xu_self | (refine (xu_ne (by omega)).trans ?_; first | assumption | exact xu_self | (refine (xu_ne (by omega)).trans ?_; first | assumption | exact xu_self | (refine (xu_ne (by omega)).trans ?_; first | assumption | exact xu_self | (refine (xu_ne (by omega)).trans ?_; first | assumption | exact xu_self))))) rfl ⟨(Nat.le_of_ble_eq_true rfl), (Nat.le_of_ble_eq_true rfl)⟩ rfl rfl (Nat.le_of_ble_eq_true rfl) ⟨(Nat.le_of_ble_eq_true rfl), (Nat.le_of_ble_eq_true rfl)⟩ xd_RD_takeInside_126 rfl (fun r n1 h1 q1 => ?_)
      refine hR _ _ _ _ _ _ _ (by omega) (by omega) ?_ q1.nar xd_RD_takeInside_129
      show rd_po K o x h n sx (if c = 44 then _ else _) r n1 h1
      rw [if_neg e]; exact q1
    · refine xv_aload_n (pc' := 116) (i := 0) hF xd_RD_takeInside_115 rfl rfl rfl ?_
      refine xv_bipushN (pc' := 118) 7 hF xd_RD_takeInside_116 (by decide +kernel) rfl ?_
      refine xv_callVi (pc' := 121) (ci := 4) hF (c_RD_goOnTo K n h o x 7 _ sx hr (by decide)) xq_RD_goOnTo xk_RD_m69 xk_i_RD_goOnTo xk_s_RD_goOnTo (by first | assumption | exact xu_self | (refine (xu_ne (by omega)).trans ?_; first | assumption | exact xu_self | (refine (xu_ne (by omega)).trans ?_; first | assumption | exact xu_self | (refine (xu_ne (by omega)).trans ?_; first | assumption | exact xu_self | (refine (xu_ne (by omega)).trans ?_; first | assumption | exact xu_self))))) rfl ⟨(Nat.le_of_ble_eq_true rfl), (Nat.le_of_ble_eq_true rfl)⟩ rfl rfl (Nat.le_of_ble_eq_true rfl) ⟨(Nat.le_of_ble_eq_true rfl), (Nat.le_of_ble_eq_true rfl)⟩ xd_RD_takeInside_118 rfl (fun r n1 h1 q1 => ?_)
      obtain ⟨rfl, rfl, f1, r1⟩ := q1
      refine xv_goto (tgt := 129) hF xd_RD_takeInside_121 (by decide) ?_
      refine hR _ _ _ _ _ _ _ (by omega) (by omega) ?_ (by first | rfl | exact xb_nw _ | decide +kernel) xd_RD_takeInside_129
      exact ⟨rfl, f1, Or.inl ⟨_, by show (if c = 44 then _ else _) = _; rw [if_pos e], rfl, r1⟩⟩
  · refine xv_tabIn (off := 126) (tgt := 130) hF xd_RD_takeInside_4 (by decide +kernel) (by decide +kernel) (by decide +kernel) (by decide) ?_
    refine xv_aload_n (pc' := 131) (i := 0) hF xd_RD_takeInside_130 rfl rfl rfl ?_
    refine xv_iload_n (pc' := 132) (i := 1) hF xd_RD_takeInside_131 rfl rfl rfl ?_
    refine xv_callVi (pc' := 135) (ci := 4) hF (c_RD_takeMost K n h o x c q sx hr hc) xq_RD_takeMost xk_RD_m81 xk_i_RD_takeMost xk_s_RD_takeMost (by first | assumption | exact xu_self | (refine (xu_ne (by omega)).trans ?_; first | assumption | exact xu_self | (refine (xu_ne (by omega)).trans ?_; first | assumption | exact xu_self | (refine (xu_ne (by omega)).trans ?_; first | assumption | exact xu_self | (refine (xu_ne (by omega)).trans ?_; first | assumption | exact xu_self))))) rfl ⟨(Nat.le_of_ble_eq_true rfl), (Nat.le_of_ble_eq_true rfl)⟩ rfl rfl (Nat.le_of_ble_eq_true rfl) ⟨(Nat.le_of_ble_eq_true rfl), (Nat.le_of_ble_eq_true rfl)⟩ xd_RD_takeInside_132 rfl (fun r n1 h1 q1 => ?_)
    refine hR _ _ _ _ _ _ _ (by omega) (by omega) q1 q1.nar xd_RD_takeInside_135
  · refine xv_tabOut (tgt := 136) hF xd_RD_takeInside_4 (by decide +kernel) (by decide) ?_
    refine xv_aload_n (pc' := 137) (i := 0) hF xd_RD_takeInside_136 rfl rfl rfl ?_
    refine xv_iload_n (pc' := 138) (i := 1) hF xd_RD_takeInside_137 rfl rfl rfl ?_
    refine xv_callVi (pc' := 141) (ci := 4) hF (c_RD_takeBraceEnd K n h o x c q sx hr hl2 hc) xq_RD_takeBraceEnd xk_RD_m78 xk_i_RD_takeBraceEnd xk_s_RD_takeBraceEnd (by first | assumption | exact xu_self | (refine (xu_ne (by omega)).trans ?_; first | assumption | exact xu_self | (refine (xu_ne (by omega)).trans ?_; first | assumption | exact xu_self | (refine (xu_ne (by omega)).trans ?_; first | assumption | exact xu_self | (refine (xu_ne (by omega)).trans ?_; first | assumption | exact xu_self))))) rfl ⟨(Nat.le_of_ble_eq_true rfl), (Nat.le_of_ble_eq_true rfl)⟩ rfl rfl (Nat.le_of_ble_eq_true rfl) ⟨(Nat.le_of_ble_eq_true rfl), (Nat.le_of_ble_eq_true rfl)⟩ xd_RD_takeInside_138 rfl (fun r n1 h1 q1 => ?_)
    refine hR _ _ _ _ _ _ _ (by omega) (by omega) q1 q1.nar xd_RD_takeInside_141
theorem rd_look0 : ∀ c, c < 256 → (Op.lookupswitch.offset (#[(40, 83), (41, 88), (42, 120), (43, 127), (63, 134), (91, 114), (94, 108), (123, 141), (124, 93)] : Array (Int × Int)).toList 162 (nI c).toInt = 162 ∨ c = 40 ∨ c = 41 ∨ c = 42 ∨ c = 43 ∨ c = 63 ∨ c = 91 ∨ c = 94 ∨ c = 123 ∨ c = 124) := by decide +kernel
theorem rd_look (c : Nat) (hc : c < 256) (h1 : c ≠ 40) (h2 : c ≠ 41) (h3 : c ≠ 42) (h4 : c ≠ 43) (h5 : c ≠ 63) (h6 : c ≠ 91) (h7 : c ≠ 94) (h8 : c ≠ 123) (h9 : c ≠ 124) : Op.lookupswitch.offset (#[(40, 83), (41, 88), (42, 120), (43, 127), (63, 134), (91, 114), (94, 108), (123, 141), (124, 93)] : Array (Int × Int)).toList 162 (nI c).toInt = 162 := by
  rcases rd_look0 c hc with h | h
  · exact h
  · omega
set_option maxHeartbeats 4000000 in
set_option maxRecDepth 100000 in
theorem c_RD_takeInRow (K : xK) (n : Nat) (h : xH) (o x c : Nat) (q : rs_T) (sx : Nat) (hr : rd_R K h o x q sx) (hl : rp_ln q + 2 ≤ 203) (hc : c < 256) : XM K xy_RD_takeInRow xw_RD_takeInRow (xrm 4 87 0 0) [.ref (o + 4), .int (nI c)] n h (x_pi (rd_po K o x h n sx (rp_row c q))) 0 0 := by
  obtain ⟨p1, ⟨f, p2, p3⟩, p4, p5, b1, b2, b3, b4, b5, b6⟩ := id hr
  have hl2 : q.2.2.2.2.2.2.2.length < 203 := by unfold rp_ln at hl; omega
  refine xm_z (by decide +kernel) (Nat.le_of_ble_eq_true rfl) (fun G hF hR => ?_)
  refine xv_iload_n (pc' := 1) (i := 1) hF xd_RD_takeInRow_0 rfl rfl rfl ?_
  by_cases e40 : c = 40
  · subst e40
    refine xv_look (off := 83) (tgt := 84) hF xd_RD_takeInRow_1 (by decide +kernel) (by decide +kernel) (by decide) ?_
    refine xv_aload_n (pc' := 85) (i := 0) hF xd_RD_takeInRow_84 rfl rfl rfl ?_
    refine xv_callVi (pc' := 88) (ci := 4) hF (c_RD_openGroup K n h o x q sx hr hl) xq_RD_openGroup xk_RD_m84 xk_i_RD_openGroup xk_s_RD_openGroup (by first | assumption | exact xu_self | (refine (xu_ne (by omega)).trans ?_; first | assumption | exact xu_self | (refine (xu_ne (by omega)).trans ?_; first | assumption | exact xu_self | (refine (xu_ne (by omega)).trans ?_; first | assumption | exact xu_self | (refine (xu_ne (by omega)).trans ?_; first | assumption | exact xu_self))))) rfl ⟨(Nat.le_of_ble_eq_true rfl), (Nat.le_of_ble_eq_true rfl)⟩ rfl rfl (Nat.le_of_ble_eq_true rfl) ⟨(Nat.le_of_ble_eq_true rfl), (Nat.le_of_ble_eq_true rfl)⟩ xd_RD_takeInRow_85 rfl (fun r n1 h1 q1 => ?_)
    exact hR _ _ _ _ _ _ _ (by omega) (by omega) q1 q1.nar xd_RD_takeInRow_88
  by_cases e41 : c = 41
  · subst e41
    refine xv_look (off := 88) (tgt := 89) hF xd_RD_takeInRow_1 (by decide +kernel) (by decide +kernel) (by decide) ?_
    refine xv_aload_n (pc' := 90) (i := 0) hF xd_RD_takeInRow_89 rfl rfl rfl ?_
    refine xv_callVi (pc' := 93) (ci := 4) hF (c_RD_closeGroup K n h o x q sx hr (by omega)) xq_RD_closeGroup xk_RD_m88 xk_i_RD_closeGroup xk_s_RD_closeGroup (by first | assumption | exact xu_self | (refine (xu_ne (by omega)).trans ?_; first | assumption | exact xu_self | (refine (xu_ne (by omega)).trans ?_; first | assumption | exact xu_self | (refine (xu_ne (by omega)).trans ?_; first | assumption | exact xu_self | (refine (xu_ne (by omega)).trans ?_; first | assumption | exact xu_self))))) rfl ⟨(Nat.le_of_ble_eq_true rfl), (Nat.le_of_ble_eq_true rfl)⟩ rfl rfl (Nat.le_of_ble_eq_true rfl) ⟨(Nat.le_of_ble_eq_true rfl), (Nat.le_of_ble_eq_true rfl)⟩ xd_RD_takeInRow_90 rfl (fun r n1 h1 q1 => ?_)
    exact hR _ _ _ _ _ _ _ (by omega) (by omega) q1 q1.nar xd_RD_takeInRow_93
  by_cases e42 : c = 42
  · subst e42
    refine xv_look (off := 120) (tgt := 121) hF xd_RD_takeInRow_1 (by decide +kernel) (by decide +kernel) (by decide) ?_
    refine xv_aload_n (pc' := 122) (i := 0) hF xd_RD_takeInRow_121 rfl rfl rfl ?_
    refine xv_bipushN (pc' := 124) 8 hF xd_RD_takeInRow_122 (by decide +kernel) rfl ?_
    refine xv_callVi (pc' := 127) (ci := 4) hF (c_RD_changeRepeat K n h o x 8 q sx hr hl2 (by decide)) xq_RD_changeRepeat xk_RD_m95 xk_i_RD_changeRepeat xk_s_RD_changeRepeat (by first | assumption | exact xu_self | (refine (xu_ne (by omega)).trans ?_; first | assumption | exact xu_self | (refine (xu_ne (by omega)).trans ?_; first | assumption | exact xu_self | (refine (xu_ne (by omega)).trans ?_; first | assumption | exact xu_self | (refine (xu_ne (by omega)).trans ?_; first | assumption | exact xu_self))))) rfl ⟨(Nat.le_of_ble_eq_true rfl), (Nat.le_of_ble_eq_true rfl)⟩ rfl rfl (Nat.le_of_ble_eq_true rfl) ⟨(Nat.le_of_ble_eq_true rfl), (Nat.le_of_ble_eq_true rfl)⟩ xd_RD_takeInRow_124 rfl (fun r n1 h1 q1 => ?_)
    exact hR _ _ _ _ _ _ _ (by omega) (by omega) q1 q1.nar xd_RD_takeInRow_127
  by_cases e43 : c = 43
  · subst e43
    refine xv_look (off := 127) (tgt := 128) hF xd_RD_takeInRow_1 (by decide +kernel) (by decide +kernel) (by decide) ?_
    refine xv_aload_n (pc' := 129) (i := 0) hF xd_RD_takeInRow_128 rfl rfl rfl ?_
    refine xv_bipushN (pc' := 131) 9 hF xd_RD_takeInRow_129 (by decide +kernel) rfl ?_
    refine xv_callVi (pc' := 134) (ci := 4) hF (c_RD_changeRepeat K n h o x 9 q sx hr hl2 (by decide)) xq_RD_changeRepeat xk_RD_m95 xk_i_RD_changeRepeat xk_s_RD_changeRepeat (by first | assumption | exact xu_self | (refine (xu_ne (by omega)).trans ?_; first | assumption | exact xu_self | (refine (xu_ne (by omega)).trans ?_; first | assumption | exact xu_self | (refine (xu_ne (by omega)).trans ?_; first | assumption | exact xu_self | (refine (xu_ne (by omega)).trans ?_; first | assumption | exact xu_self))))) rfl ⟨(Nat.le_of_ble_eq_true rfl), (Nat.le_of_ble_eq_true rfl)⟩ rfl rfl (Nat.le_of_ble_eq_true rfl) ⟨(Nat.le_of_ble_eq_true rfl), (Nat.le_of_ble_eq_true rfl)⟩ xd_RD_takeInRow_131 rfl (fun r n1 h1 q1 => ?_)
    exact hR _ _ _ _ _ _ _ (by omega) (by omega) q1 q1.nar xd_RD_takeInRow_134
  by_cases e63 : c = 63
  · subst e63
    refine xv_look (off := 134) (tgt := 135) hF xd_RD_takeInRow_1 (by decide +kernel) (by decide +kernel) (by decide) ?_
    refine xv_aload_n (pc' := 136) (i := 0) hF xd_RD_takeInRow_135 rfl rfl rfl ?_
    refine xv_bipushN (pc' := 138) 10 hF xd_RD_takeInRow_136 (by decide +kernel) rfl ?_
    refine xv_callVi (pc' := 141) (ci := 4) hF (c_RD_changeRepeat K n h o x 10 q sx hr hl2 (by decide)) xq_RD_changeRepeat xk_RD_m95 xk_i_RD_changeRepeat xk_s_RD_changeRepeat (by first | assumption | exact xu_self | (refine (xu_ne (by omega)).trans ?_; first | assumption | exact xu_self | (refine (xu_ne (by omega)).trans ?_; first | assumption | exact xu_self | (refine (xu_ne (by omega)).trans ?_; first | assumption | exact xu_self | (refine (xu_ne (by omega)).trans ?_; first | assumption | exact xu_self))))) rfl ⟨(Nat.le_of_ble_eq_true rfl), (Nat.le_of_ble_eq_true rfl)⟩ rfl rfl (Nat.le_of_ble_eq_true rfl) ⟨(Nat.le_of_ble_eq_true rfl), (Nat.le_of_ble_eq_true rfl)⟩ xd_RD_takeInRow_138 rfl (fun r n1 h1 q1 => ?_)
    exact hR _ _ _ _ _ _ _ (by omega) (by omega) q1 q1.nar xd_RD_takeInRow_141
  by_cases e91 : c = 91
  · subst e91
    refine xv_look (off := 114) (tgt := 115) hF xd_RD_takeInRow_1 (by decide +kernel) (by decide +kernel) (by decide) ?_
    refine xv_aload_n (pc' := 116) (i := 0) hF xd_RD_takeInRow_115 rfl rfl rfl ?_
    refine xv_iconstN (pc' := 117) 2 hF xd_RD_takeInRow_116 (by decide +kernel) rfl ?_
    refine xv_callVi (pc' := 120) (ci := 4) hF (c_RD_goOnTo K n h o x 2 _ sx hr (by decide)) xq_RD_goOnTo xk_RD_m69 xk_i_RD_goOnTo xk_s_RD_goOnTo (by first | assumption | exact xu_self | (refine (xu_ne (by omega)).trans ?_; first | assumption | exact xu_self | (refine (xu_ne (by omega)).trans ?_; first | assumption | exact xu_self | (refine (xu_ne (by omega)).trans ?_; first | assumption | exact xu_self | (refine (xu_ne (by omega)).trans ?_; first | assumption | exact xu_self))))) rfl ⟨(Nat.le_of_ble_eq_true rfl), (Nat.le_of_ble_eq_true rfl)⟩ rfl rfl (Nat.le_of_ble_eq_true rfl) ⟨(Nat.le_of_ble_eq_true rfl), (Nat.le_of_ble_eq_true rfl)⟩ xd_RD_takeInRow_117 rfl (fun r n1 h1 q1 => ?_)
    obtain ⟨rfl, rfl, f1, r1⟩ := q1
    refine hR _ _ _ _ _ _ _ (by omega) (by omega) ?_ (by first | rfl | exact xb_nw _ | decide +kernel) xd_RD_takeInRow_120
    exact ⟨rfl, f1, Or.inl ⟨_, rfl, rfl, r1⟩⟩
  by_cases e94 : c = 94
  · subst e94
    refine xv_look (off := 108) (tgt := 109) hF xd_RD_takeInRow_1 (by decide +kernel) (by decide +kernel) (by decide) ?_
    refine xv_aload_n (pc' := 110) (i := 0) hF xd_RD_takeInRow_109 rfl rfl rfl ?_
    refine xv_iconstN (pc' := 111) 1 hF xd_RD_takeInRow_110 (by decide +kernel) rfl ?_
    refine xv_callVi (pc' := 114) (ci := 4) hF (c_RD_goOnTo K n h o x 1 _ sx hr (by decide)) xq_RD_goOnTo xk_RD_m69 xk_i_RD_goOnTo xk_s_RD_goOnTo (by first | assumption | exact xu_self | (refine (xu_ne (by omega)).trans ?_; first | assumption | exact xu_self | (refine (xu_ne (by omega)).trans ?_; first | assumption | exact xu_self | (refine (xu_ne (by omega)).trans ?_; first | assumption | exact xu_self | (refine (xu_ne (by omega)).trans ?_; first | assumption | exact xu_self))))) rfl ⟨(Nat.le_of_ble_eq_true rfl), (Nat.le_of_ble_eq_true rfl)⟩ rfl rfl (Nat.le_of_ble_eq_true rfl) ⟨(Nat.le_of_ble_eq_true rfl), (Nat.le_of_ble_eq_true rfl)⟩ xd_RD_takeInRow_111 rfl (fun r n1 h1 q1 => ?_)
    obtain ⟨rfl, rfl, f1, r1⟩ := q1
    refine hR _ _ _ _ _ _ _ (by omega) (by omega) ?_ (by first | rfl | exact xb_nw _ | decide +kernel) xd_RD_takeInRow_114
    exact ⟨rfl, f1, Or.inl ⟨_, rfl, rfl, r1⟩⟩
  by_cases e123 : c = 123
  · subst e123
    refine xv_look (off := 141) (tgt := 142) hF xd_RD_takeInRow_1 (by decide +kernel) (by decide +kernel) (by decide) ?_
    refine xv_aload_n (pc' := 143) (i := 0) hF xd_RD_takeInRow_142 rfl rfl rfl ?_
    refine xv_get (pc' := 146) (ci := 4) hF (by first | assumption | exact xu_self | (refine (xu_ne (by omega)).trans ?_; first | assumption | exact xu_self | (refine (xu_ne (by omega)).trans ?_; first | assumption | exact xu_self | (refine (xu_ne (by omega)).trans ?_; first | assumption | exact xu_self | (refine (xu_ne (by omega)).trans ?_; first | assumption | exact xu_self))))) rfl xu_RD 4 (by decide) xk_RD_f29 (by rfl) xd_RD_takeInRow_143 rfl ?_
    refine xv_if_eqB (pc' := 149) (tgt := 161) hF xd_RD_takeInRow_146 (by decide) rfl (fun e => ?_) (fun e => ?_)
    · refine xv_iconstN (pc' := 162) 0 hF xd_RD_takeInRow_161 (by decide +kernel) rfl ?_
      refine hR _ _ _ _ _ _ _ (by omega) (by omega) ?_ (by first | rfl | exact xb_nw _ | decide +kernel) xd_RD_takeInRow_162
      exact ⟨rfl, rd_fr.rf, Or.inr ⟨by show (if q.2.2.1 = true then _ else _) = _; rw [e]; rfl, by decide +kernel, q, hr⟩⟩
    · refine xv_aload_n (pc' := 150) (i := 0) hF xd_RD_takeInRow_149 rfl rfl rfl ?_
      refine xv_iconstN (pc' := 151) 5 hF xd_RD_takeInRow_150 (by decide +kernel) rfl ?_
      refine xv_callVi (pc' := 154) (ci := 4) hF (c_RD_goOnTo K n h o x 5 _ sx hr (by decide)) xq_RD_goOnTo xk_RD_m69 xk_i_RD_goOnTo xk_s_RD_goOnTo (by first | assumption | exact xu_self | (refine (xu_ne (by omega)).trans ?_; first | assumption | exact xu_self | (refine (xu_ne (by omega)).trans ?_; first | assumption | exact xu_self | (refine (xu_ne (by omega)).trans ?_; first | assumption | exact xu_self | (refine (xu_ne (by omega)).trans ?_; first | assumption | exact xu_self))))) rfl ⟨(Nat.le_of_ble_eq_true rfl), (Nat.le_of_ble_eq_true rfl)⟩ rfl rfl (Nat.le_of_ble_eq_true rfl) ⟨(Nat.le_of_ble_eq_true rfl), (Nat.le_of_ble_eq_true rfl)⟩ xd_RD_takeInRow_151 rfl (fun r n1 h1 q1 => ?_)
      obtain ⟨rfl, rfl, f1, r1⟩ := q1
      refine xv_if_eqB (pc' := 157) (tgt := 161) hF xd_RD_takeInRow_154 (by decide) rfl (fun e4 => ?_) (fun e4 => ?_)
      · cases e4
      · refine xv_iconstN (pc' := 158) 1 hF xd_RD_takeInRow_157 (by decide +kernel) rfl ?_
        refine xv_goto (tgt := 162) hF xd_RD_takeInRow_158 (by decide) ?_
        refine hR _ _ _ _ _ _ _ (by omega) (by omega) ?_ (by first | rfl | exact xb_nw _ | decide +kernel) xd_RD_takeInRow_162
        exact ⟨rfl, f1, Or.inl ⟨_, by show (if q.2.2.1 = true then _ else _) = _; rw [e]; rfl, by decide +kernel, r1⟩⟩
  by_cases e124 : c = 124
  · subst e124
    refine xv_look (off := 93) (tgt := 94) hF xd_RD_takeInRow_1 (by decide +kernel) (by decide +kernel) (by decide) ?_
    refine xv_aload_n (pc' := 95) (i := 0) hF xd_RD_takeInRow_94 rfl rfl rfl ?_
    refine xv_callVv (pc' := 98) (ci := 4) hF (c_RD_endRow K n h o x q sx hr (by omega)) xq_RD_endRow xk_RD_m53 xk_i_RD_endRow xk_s_RD_endRow (by first | assumption | exact xu_self | (refine (xu_ne (by omega)).trans ?_; first | assumption | exact xu_self | (refine (xu_ne (by omega)).trans ?_; first | assumption | exact xu_self | (refine (xu_ne (by omega)).trans ?_; first | assumption | exact xu_self | (refine (xu_ne (by omega)).trans ?_; first | assumption | exact xu_self))))) rfl ⟨(Nat.le_of_ble_eq_true rfl), (Nat.le_of_ble_eq_true rfl)⟩ rfl rfl (Nat.le_of_ble_eq_true rfl) ⟨(Nat.le_of_ble_eq_true rfl), (Nat.le_of_ble_eq_true rfl)⟩ xd_RD_takeInRow_95 rfl (fun n1 h1 q1 => ?_)
    obtain ⟨rfl, f1, r1⟩ := q1
    have hlen : (rp_ew q).2.2.2.2.2.2.2.length = rp_ln q + 1 := by
      unfold rp_ew
      have := rp_er_os q
      generalize rp_er q = q' at this ⊢
      obtain ⟨st, op, ir, rs, le, mo, en, os⟩ := q'
      show (os ++ [7]).length = _
      rw [List.length_append, ← this]; rfl
    have hFq : rp_row 124 q = some (rp_ap 1 (rp_ew q)) := rfl
    rw [hFq] at hR
    generalize rp_ew q = q' at r1 hlen hR
    obtain ⟨st, op, ir, rs, le, mo, en, os⟩ := q'
    clear p1 p2 p3 p4
    obtain ⟨p1, ⟨f, p2, p3⟩, p4, -⟩ := id r1
    dsimp only at p1 p4 hlen
    obtain ⟨z0, zf, ⟨z1, z2⟩, z3⟩ := id p4
    refine xv_aload_n (pc' := 99) (i := 0) hF xd_RD_takeInRow_98 rfl rfl rfl ?_
    refine xv_get (pc' := 102) (ci := 4) hF (by first | assumption | exact xu_self | (refine (xu_ne (by omega)).trans ?_; first | assumption | exact xu_self | (refine (xu_ne (by omega)).trans ?_; first | assumption | exact xu_self | (refine (xu_ne (by omega)).trans ?_; first | assumption | exact xu_self | (refine (xu_ne (by omega)).trans ?_; first | assumption | exact xu_self))))) rfl xu_RD 1 (by decide) xk_RD_f18 (by rfl) xd_RD_takeInRow_99 rfl ?_
    refine xv_iconstN (pc' := 103) 1 hF xd_RD_takeInRow_102 (by decide +kernel) rfl ?_
    refine xv_iconstN (pc' := 104) 0 hF xd_RD_takeInRow_103 (by decide +kernel) rfl ?_
    refine xv_callVv (pc' := 107) (ci := 3) hF (c_EX_append K n h1 x 1 0 os sx p4 (by decide) (by decide) (by omega)) xq_EX_append xk_RD_m91 xk_i_EX_append xk_s_EX_append (by first | assumption | exact xu_self | (refine (xu_ne (by omega)).trans ?_; first | assumption | exact xu_self | (refine (xu_ne (by omega)).trans ?_; first | assumption | exact xu_self | (refine (xu_ne (by omega)).trans ?_; first | assumption | exact xu_self | (refine (xu_ne (by omega)).trans ?_; first | assumption | exact xu_self))))) rfl ⟨(Nat.le_of_ble_eq_true rfl), (Nat.le_of_ble_eq_true rfl)⟩ rfl rfl (Nat.le_of_ble_eq_true rfl) ⟨(Nat.le_of_ble_eq_true rfl), (Nat.le_of_ble_eq_true rfl)⟩ xd_RD_takeInRow_104 rfl (fun n2 h2 q2 => ?_)
    obtain ⟨rfl, f2, r2⟩ := q2
    obtain ⟨hr2, hfr2⟩ := rd_ex r1 f2 r2
    refine xv_iconstN (pc' := 108) 1 hF xd_RD_takeInRow_107 (by decide +kernel) rfl ?_
    refine hR _ _ _ _ _ _ _ (by omega) (by omega) ?_ (by first | rfl | exact xb_nw _ | decide +kernel) xd_RD_takeInRow_108
    exact ⟨rfl, f1.tr hfr2, Or.inl ⟨_, rfl, by decide +kernel, hr2⟩⟩
  · refine xv_look (off := 162) (tgt := 163) hF xd_RD_takeInRow_1 (by decide +kernel) (rd_look c hc e40 e41 e42 e43 e63 e91 e94 e123 e124) (by decide) ?_
    refine xv_aload_n (pc' := 164) (i := 0) hF xd_RD_takeInRow_163 rfl rfl rfl ?_
    refine xv_iload_n (pc' := 165) (i := 1) hF xd_RD_takeInRow_164 rfl rfl rfl ?_
    refine xv_iconstN (pc' := 166) 2 hF xd_RD_takeInRow_165 (by decide +kernel) rfl ?_
    refine xv_callVi (pc' := 169) (ci := 4) hF (c_RD_takeStep K n h o x c 2 q sx hr (by omega) hc (by decide)) xq_RD_takeStep xk_RD_m65 xk_i_RD_takeStep xk_s_RD_takeStep (by first | assumption | exact xu_self | (refine (xu_ne (by omega)).trans ?_; first | assumption | exact xu_self | (refine (xu_ne (by omega)).trans ?_; first | assumption | exact xu_self | (refine (xu_ne (by omega)).trans ?_; first | assumption | exact xu_self | (refine (xu_ne (by omega)).trans ?_; first | assumption | exact xu_self))))) rfl ⟨(Nat.le_of_ble_eq_true rfl), (Nat.le_of_ble_eq_true rfl)⟩ rfl rfl (Nat.le_of_ble_eq_true rfl) ⟨(Nat.le_of_ble_eq_true rfl), (Nat.le_of_ble_eq_true rfl)⟩ xd_RD_takeInRow_166 rfl (fun r n1 h1 q1 => ?_)
    refine hR _ _ _ _ _ _ _ (by omega) (by omega) ?_ q1.nar xd_RD_takeInRow_169
    unfold rp_row
    rw [if_neg e40, if_neg e41, if_neg e42, if_neg e43, if_neg e63, if_neg e91, if_neg e94, if_neg e123, if_neg e124]
    exact q1
