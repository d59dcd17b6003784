theorem be_setH {K : xK} {h : xH} {n o ht ht' made : Nat} {ad : Nat → Nat} {sp : Nat} {Mv : Nat → Nat → Nat → Nat} (p : be_R K h n o ht made ad sp Mv) : be_R K (xu h (o + 8) (.inr (5, [.ref (o + 9), .int (nI ht'), .ref sp]))) n o ht' made ad sp Mv ∧ be_fr o h (xu h (o + 8) (.inr (5, [.ref (o + 9), .int (nI ht'), .ref sp]))) := by
  obtain ⟨⟨pl, p1, p2, p3⟩, pin⟩ := p
  have hf : ∀ q, q ≠ o + 8 → q ≠ o + 9 → (xu h (o + 8) (.inr (5, [.ref (o + 9), .int (nI ht'), .ref sp]))) q = h q := fun q h1 _ => xu_ne h1
  exact ⟨⟨⟨pl, xu_self, by rw [xu_ne (by omega)]; exact p2, p3⟩, pin.own hf⟩, fun q a b c d e => hf q b c⟩
set_option maxHeartbeats 4000000 in
set_option maxRecDepth 100000 in
theorem c_BE_layDown (K : xK) (n : Nat) (h : xH) (o ht made mk : Nat) (ad : Nat → Nat) (sp : Nat) (Mv : Nat → Nat → Nat → Nat) (hr : be_R K h n o ht made ad sp Mv) (h24 : ht < 24) (hmk : (mk = 0 ∧ ht < made) ∨ (mk = 1 ∧ ht = made)) : XM K xy_BE_layDown xw_BE_layDown (xrm 3 55 (3 * mk) (1058 * mk)) [.ref (o + 8)] n h (x_pr fun r n' h' => n' = n + 3 * mk ∧ be_fr o h h' ∧ ∃ ad', r = ad' ht ∧ (∀ i, i < made → ad' i = ad i) ∧ be_R K h' n' o (ht + 1) (made + mk) ad' sp (va_up Mv ht md_no)) (3 * mk) (1058 * mk) := by
  obtain ⟨⟨pl, p1, p2, p3⟩, pin⟩ := id hr
  refine xm_r (by decide +kernel) (Nat.le_of_ble_eq_true rfl) (fun G hF hR => ?_)
  refine xv_aload_n (pc' := 1) (i := 0) hF xd_BE_layDown_0 rfl rfl rfl ?_
  refine xv_aload_n (pc' := 2) (i := 0) hF xd_BE_layDown_1 rfl rfl rfl ?_
  refine xv_get (pc' := 5) (ci := 5) hF (by first | assumption | exact xu_self | (refine (xu_ne (by omega)).trans ?_; first | assumption | exact xu_self | (refine (xu_ne (by omega)).trans ?_; first | assumption | exact xu_self | (refine (xu_ne (by omega)).trans ?_; first | assumption | exact xu_self | (refine (xu_ne (by omega)).trans ?_; first | assumption | exact xu_self))))) rfl xu_BE 1 (by decide) xk_BE_f17 (by rfl) xd_BE_layDown_2 rfl ?_
  refine xv_iconstN (pc' := 6) 1 hF xd_BE_layDown_5 (by decide +kernel) rfl ?_
  first | refine xv_iaddN (pc' := 7) hF xd_BE_layDown_6 rfl ?_ | refine xv_iadd (pc' := 7) hF xd_BE_layDown_6 rfl ?_
  refine xv_bipushN (pc' := 9) 24 hF xd_BE_layDown_7 (by decide +kernel) rfl ?_
  refine xv_mmin (pc' := 12) hF xk_BE_m66 xk_t_JM_min xk_n_JM xk_c_JM_min (Nat.le_of_ble_eq_true rfl) (Nat.le_of_ble_eq_true rfl) (Nat.zero_le _) (Nat.zero_le _) xd_BE_layDown_9 rfl ?_
  refine xv_topi ((nI_mn (by omega) (by omega)).trans (by rw [Nat.min_eq_left (by omega)])) ?_
  refine xv_put (pc' := 15) (ci := 5) (ty := xt_BE 1) hF (by first | assumption | exact xu_self | (refine (xu_ne (by omega)).trans ?_; first | assumption | exact xu_self | (refine (xu_ne (by omega)).trans ?_; first | assumption | exact xu_self | (refine (xu_ne (by omega)).trans ?_; first | assumption | exact xu_self | (refine (xu_ne (by omega)).trans ?_; first | assumption | exact xu_self))))) rfl xu_BE xt_BE xo_BE xn_BE 1 (by decide) xk_BE_f17 rfl (by decide +kernel) (by first | rfl | exact xb_nw _ | decide +kernel) (by first | rfl | exact xb_ft _ | decide +kernel) (by exact Nat.le_of_ble_eq_true rfl) (by dsimp only [List.set] <;> rfl) xd_BE_layDown_12 rfl ?_
  obtain ⟨hr1, hfr1⟩ := be_setH (ht' := ht + 1) hr
  generalize xu h (o + 8) (.inr (5, [.ref (o + 9), .int (nI (ht + 1)), .ref sp])) = h1 at hr1 hfr1 ⊢
  obtain ⟨⟨pl1, q1, q2, q3⟩, -⟩ := id hr1
  refine xv_aload_n (pc' := 16) (i := 0) hF xd_BE_layDown_15 rfl rfl rfl ?_
  refine xv_aload_n (pc' := 17) (i := 0) hF xd_BE_layDown_16 rfl rfl rfl ?_
  refine xv_get (pc' := 20) (ci := 5) hF (by first | assumption | exact xu_self | (refine (xu_ne (by omega)).trans ?_; first | assumption | exact xu_self | (refine (xu_ne (by omega)).trans ?_; first | assumption | exact xu_self | (refine (xu_ne (by omega)).trans ?_; first | assumption | exact xu_self | (refine (xu_ne (by omega)).trans ?_; first | assumption | exact xu_self))))) rfl xu_BE 1 (by decide) xk_BE_f17 (by rfl) xd_BE_layDown_17 rfl ?_
  refine xv_iconstN (pc' := 21) 1 hF xd_BE_layDown_20 (by decide +kernel) rfl ?_
  first | refine xv_isubN (pc' := 22) hF (by omega) xd_BE_layDown_21 rfl ?_ | refine xv_isub (pc' := 22) hF xd_BE_layDown_21 rfl ?_
  refine xv_topi (v' := nI ht) rfl ?_
  have tail : ∀ k kS n2 h2 made2 ad2 Mv2, k ≤ 3 * mk → kS ≤ 1058 * mk → be_R K h2 n2 o (ht + 1) made2 ad2 sp Mv2 → ht < made2 → be_fr o h h2 → n2 = n + 3 * mk → made2 = made + mk → (∀ i, i < made → ad2 i = ad i) → va_up Mv2 ht md_no = va_up Mv ht md_no → XV G k kS 25 [(0, .ref (o + 8))] [.ref (ad2 ht)] n2 h2 := by
    intro k kS n2 h2 made2 ad2 Mv2 hk hkS hr2 hlt hfr2 e1 e2 e3 e4
    subst e1 e2
    obtain ⟨f, g, ⟨z1, z2, z3⟩, z4⟩ := id (hr2.2.2.2.1 ht hlt).2
    refine xv_astore_n (pc' := 26) (i := 1) hF xd_BE_layDown_25 rfl (Nat.le_of_ble_eq_true rfl) rfl rfl ?_
    refine xv_aload_n (pc' := 27) (i := 1) hF xd_BE_layDown_26 rfl rfl rfl ?_
    refine xv_callVv (pc' := 30) (ci := 2) hF (c_RE_clear K _ h2 (ad2 ht) _ (hr2.2.2.2.1 ht hlt).2) xq_RE_clear xk_BE_m75 xk_i_RE_clear xk_s_RE_clear (by first | assumption | exact xu_self | (refine (xu_ne (by omega)).trans ?_; first | assumption | exact xu_self | (refine (xu_ne (by omega)).trans ?_; first | assumption | exact xu_self | (refine (xu_ne (by omega)).trans ?_; first | assumption | exact xu_self | (refine (xu_ne (by omega)).trans ?_; first | assumption | exact xu_self))))) rfl ⟨(Nat.le_of_ble_eq_true rfl), (Nat.le_of_ble_eq_true rfl)⟩ rfl rfl (Nat.le_of_ble_eq_true rfl) ⟨(by first | (show k + 0 ≤ 3 * mk; omega) | (show kS + 0 ≤ 1058 * mk; omega)), (by first | (show k + 0 ≤ 3 * mk; omega) | (show kS + 0 ≤ 1058 * mk; omega))⟩ xd_BE_layDown_27 rfl (fun n3 h3 p3 => ?_)
    obtain ⟨rfl, f3, r3⟩ := p3
    refine xv_aload_n (pc' := 31) (i := 1) hF xd_BE_layDown_30 rfl rfl rfl ?_
    refine hR _ _ _ _ _ _ _ (by omega) (by omega) ?_ xd_BE_layDown_31
    refine ⟨rfl, hfr2.tr (be_frR (hr2.2.2.2.1 ht hlt).1 f3), ad2, rfl, e3, ?_⟩
    rw [← e4]
    exact be_upd hr2 hlt f3 r3
  rcases hmk with ⟨rfl, hlt⟩ | ⟨rfl, rfl⟩
  · refine xv_callVr (pc' := 25) (ci := 5) hF (c_BE_at K n h1 o (ht + 1) made ht ad sp Mv hr1 hlt) xq_BE_at xk_BE_m26 xk_i_BE_at xk_s_BE_at (by first | assumption | exact xu_self | (refine (xu_ne (by omega)).trans ?_; first | assumption | exact xu_self | (refine (xu_ne (by omega)).trans ?_; first | assumption | exact xu_self | (refine (xu_ne (by omega)).trans ?_; first | assumption | exact xu_self | (refine (xu_ne (by omega)).trans ?_; first | assumption | exact xu_self))))) rfl ⟨(Nat.le_of_ble_eq_true rfl), (Nat.le_of_ble_eq_true rfl)⟩ rfl rfl (Nat.le_of_ble_eq_true rfl) ⟨(Nat.le_of_ble_eq_true rfl), (Nat.le_of_ble_eq_true rfl)⟩ xd_BE_layDown_22 rfl (fun r n2 h2 q2 => ?_)
    obtain ⟨rfl, rfl, rfl⟩ := q2
    exact xv_loc _ (by repeat (first | exact trivial | refine ⟨rfl, ?_⟩)) (tail _ _ n h1 made ad Mv (by omega) (by omega) hr1 hlt hfr1 rfl rfl (fun _ _ => rfl) rfl)
  · refine xv_callVr (pc' := 25) (ci := 5) hF (c_BE_atN K n h1 o (ht + 1) ht ad sp Mv hr1 h24) xq_BE_at xk_BE_m26 xk_i_BE_at xk_s_BE_at (by first | assumption | exact xu_self | (refine (xu_ne (by omega)).trans ?_; first | assumption | exact xu_self | (refine (xu_ne (by omega)).trans ?_; first | assumption | exact xu_self | (refine (xu_ne (by omega)).trans ?_; first | assumption | exact xu_self | (refine (xu_ne (by omega)).trans ?_; first | assumption | exact xu_self))))) rfl ⟨(Nat.le_of_ble_eq_true rfl), (Nat.le_of_ble_eq_true rfl)⟩ rfl rfl (Nat.le_of_ble_eq_true rfl) ⟨(Nat.le_of_ble_eq_true rfl), (Nat.le_of_ble_eq_true rfl)⟩ xd_BE_layDown_22 rfl (fun r n2 h2 q2 => ?_)
    obtain ⟨rfl, rfl, hfr2, hr2⟩ := q2
    have e : va_up ad ht r ht = r := va_up_self _ _ _
    have t := tail (0 + 3) (0 + 1058) (r + 3) h2 (ht + 1) (va_up ad ht r) (va_up Mv ht md_no) (by omega) (by omega) hr2 (by omega) (hfr1.tr hfr2) rfl rfl (fun i hi => by unfold va_up; rw [if_neg (by omega)]) (bx_uu _ _ _ _)
    rw [e] at t
    exact xv_loc _ (by repeat (first | exact trivial | refine ⟨rfl, ?_⟩)) t
set_option maxHeartbeats 4000000 in
set_option maxRecDepth 100000 in
theorem c_BE_joinTwo (K : xK) (n : Nat) (h : xH) (o ht made : Nat) (ad : Nat → Nat) (sp : Nat) (Mv : Nat → Nat → Nat → Nat) (hr : be_R K h n o ht made ad sp Mv) (h2 : 2 ≤ ht) (hm : ht ≤ made) : XM K xy_BE_joinTwo xw_BE_joinTwo (xrm 3 73 0 0) [.ref (o + 8)] n h (x_pv fun n' h' => n = n' ∧ be_fr o h h' ∧ be_R K h' n o (ht - 1) made ad sp (va_up Mv (ht - 2) (md_mi (Mv (ht - 2)) (Mv (ht - 1)) 32))) 0 0 := by
  obtain ⟨⟨pl, p1, p2, p3⟩, pin⟩ := id hr
  have h24 := pin.1
  refine xm_v (by decide +kernel) (Nat.le_of_ble_eq_true rfl) (fun G hF hR => ?_)
  refine xv_aload_n (pc' := 1) (i := 0) hF xd_BE_joinTwo_0 rfl rfl rfl ?_
  refine xv_get (pc' := 4) (ci := 5) hF (by first | assumption | exact xu_self | (refine (xu_ne (by omega)).trans ?_; first | assumption | exact xu_self | (refine (xu_ne (by omega)).trans ?_; first | assumption | exact xu_self | (refine (xu_ne (by omega)).trans ?_; first | assumption | exact xu_self | (refine (xu_ne (by omega)).trans ?_; first | assumption | exact xu_self))))) rfl xu_BE 1 (by decide) xk_BE_f17 (by rfl) xd_BE_joinTwo_1 rfl ?_
  refine xv_iconstN (pc' := 5) 2 hF xd_BE_joinTwo_4 (by decide +kernel) rfl ?_
  refine xv_icmp_ltN (pc' := 8) (tgt := 33) hF (by omega) (by omega) xd_BE_joinTwo_5 (by decide) rfl (fun e => ?_) (fun e => ?_)
  · omega
  · refine xv_aload_n (pc' := 9) (i := 0) hF xd_BE_joinTwo_8 rfl rfl rfl ?_
    refine xv_dup (pc' := 10) hF xd_BE_joinTwo_9 rfl rfl ?_
    refine xv_get (pc' := 13) (ci := 5) hF (by first | assumption | exact xu_self | (refine (xu_ne (by omega)).trans ?_; first | assumption | exact xu_self | (refine (xu_ne (by omega)).trans ?_; first | assumption | exact xu_self | (refine (xu_ne (by omega)).trans ?_; first | assumption | exact xu_self | (refine (xu_ne (by omega)).trans ?_; first | assumption | exact xu_self))))) rfl xu_BE 1 (by decide) xk_BE_f17 (by rfl) xd_BE_joinTwo_10 rfl ?_
    refine xv_iconstN (pc' := 14) 1 hF xd_BE_joinTwo_13 (by decide +kernel) rfl ?_
    first | refine xv_isubN (pc' := 15) hF (by omega) xd_BE_joinTwo_14 rfl ?_ | refine xv_isub (pc' := 15) hF xd_BE_joinTwo_14 rfl ?_
    refine xv_put (pc' := 18) (ci := 5) (ty := xt_BE 1) hF (by first | assumption | exact xu_self | (refine (xu_ne (by omega)).trans ?_; first | assumption | exact xu_self | (refine (xu_ne (by omega)).trans ?_; first | assumption | exact xu_self | (refine (xu_ne (by omega)).trans ?_; first | assumption | exact xu_self | (refine (xu_ne (by omega)).trans ?_; first | assumption | exact xu_self))))) rfl xu_BE xt_BE xo_BE xn_BE 1 (by decide) xk_BE_f17 rfl (by decide +kernel) (by first | rfl | exact xb_nw _ | decide +kernel) (by first | rfl | exact xb_ft _ | decide +kernel) (by exact Nat.le_of_ble_eq_true rfl) (by dsimp only [List.set] <;> rfl) xd_BE_joinTwo_15 rfl ?_
    obtain ⟨hr1, hfr1⟩ := be_setH (ht' := ht - 1) hr
    generalize xu h (o + 8) (.inr (5, [.ref (o + 9), .int (nI (ht - 1)), .ref sp])) = h1 at hr1 hfr1 ⊢
    obtain ⟨⟨pl1, q1, q2, q3⟩, -⟩ := id hr1
    refine xv_aload_n (pc' := 19) (i := 0) hF xd_BE_joinTwo_18 rfl rfl rfl ?_
    refine xv_callVr (pc' := 22) (ci := 5) hF (c_BE_top K n h1 o (ht - 1) made ad sp Mv hr1 (by omega) (by omega)) xq_BE_top xk_BE_m56 xk_i_BE_top xk_s_BE_top (by first | assumption | exact xu_self | (refine (xu_ne (by omega)).trans ?_; first | assumption | exact xu_self | (refine (xu_ne (by omega)).trans ?_; first | assumption | exact xu_self | (refine (xu_ne (by omega)).trans ?_; first | assumption | exact xu_self | (refine (xu_ne (by omega)).trans ?_; first | assumption | exact xu_self))))) rfl ⟨(Nat.le_of_ble_eq_true rfl), (Nat.le_of_ble_eq_true rfl)⟩ rfl rfl (Nat.le_of_ble_eq_true rfl) ⟨(Nat.le_of_ble_eq_true rfl), (Nat.le_of_ble_eq_true rfl)⟩ xd_BE_joinTwo_19 rfl (fun r n2 h2 w2 => ?_)
    obtain ⟨rfl, rfl, rfl⟩ := w2
    refine xv_aload_n (pc' := 23) (i := 0) hF xd_BE_joinTwo_22 rfl rfl rfl ?_
    refine xv_aload_n (pc' := 24) (i := 0) hF xd_BE_joinTwo_23 rfl rfl rfl ?_
    refine xv_get (pc' := 27) (ci := 5) hF (by first | assumption | exact xu_self | (refine (xu_ne (by omega)).trans ?_; first | assumption | exact xu_self | (refine (xu_ne (by omega)).trans ?_; first | assumption | exact xu_self | (refine (xu_ne (by omega)).trans ?_; first | assumption | exact xu_self | (refine (xu_ne (by omega)).trans ?_; first | assumption | exact xu_self))))) rfl xu_BE 1 (by decide) xk_BE_f17 (by rfl) xd_BE_joinTwo_24 rfl ?_
    refine xv_callVr (pc' := 30) (ci := 5) hF (c_BE_at K n h1 o (ht - 1) made (ht - 1) ad sp Mv hr1 (by omega)) xq_BE_at xk_BE_m26 xk_i_BE_at xk_s_BE_at (by first | assumption | exact xu_self | (refine (xu_ne (by omega)).trans ?_; first | assumption | exact xu_self | (refine (xu_ne (by omega)).trans ?_; first | assumption | exact xu_self | (refine (xu_ne (by omega)).trans ?_; first | assumption | exact xu_self | (refine (xu_ne (by omega)).trans ?_; first | assumption | exact xu_self))))) rfl ⟨(Nat.le_of_ble_eq_true rfl), (Nat.le_of_ble_eq_true rfl)⟩ rfl rfl (Nat.le_of_ble_eq_true rfl) ⟨(Nat.le_of_ble_eq_true rfl), (Nat.le_of_ble_eq_true rfl)⟩ xd_BE_joinTwo_27 rfl (fun r n2 h2 w2 => ?_)
    obtain ⟨rfl, rfl, rfl⟩ := w2
    have ea : ht - 1 - 1 = ht - 2 := by omega
    rw [ea]
    obtain ⟨f, g, ⟨z1, z2, z3⟩, z4⟩ := id (hr1.2.2.2.1 (ht - 2) (by omega)).2
    refine xv_callVv (pc' := 33) (ci := 2) hF (c_RE_addAll K n h1 (ad (ht - 2)) (ad (ht - 1)) _ _ (hr1.2.2.2.1 (ht - 2) (by omega)).2 (hr1.2.2.2.1 (ht - 1) (by omega)).2 (hr1.2.2.2.2.2.2.1 _ _ (by omega) (by omega) (by omega))) xq_RE_addAll xk_BE_m78 xk_i_RE_addAll xk_s_RE_addAll (by first | assumption | exact xu_self | (refine (xu_ne (by omega)).trans ?_; first | assumption | exact xu_self | (refine (xu_ne (by omega)).trans ?_; first | assumption | exact xu_self | (refine (xu_ne (by omega)).trans ?_; first | assumption | exact xu_self | (refine (xu_ne (by omega)).trans ?_; first | assumption | exact xu_self))))) rfl ⟨(Nat.le_of_ble_eq_true rfl), (Nat.le_of_ble_eq_true rfl)⟩ rfl rfl (Nat.le_of_ble_eq_true rfl) ⟨(Nat.le_of_ble_eq_true rfl), (Nat.le_of_ble_eq_true rfl)⟩ xd_BE_joinTwo_30 rfl (fun n3 h3 p3 => ?_)
    obtain ⟨rfl, f3, r3⟩ := p3
    refine hR _ _ _ _ _ _ (by omega) (by omega) ?_ xd_BE_joinTwo_33
    exact ⟨rfl, hfr1.tr (be_frR (hr1.2.2.2.1 (ht - 2) (by omega)).1 f3), be_upd hr1 (by omega) f3 r3⟩
set_option maxHeartbeats 4000000 in
set_option maxRecDepth 100000 in
theorem c_BE_chainTwo (K : xK) (n : Nat) (h : xH) (o ht made : Nat) (ad : Nat → Nat) (sp : Nat) (Mv : Nat → Nat → Nat → Nat) (hr : be_R K h n o ht made ad sp Mv) (h2 : 2 ≤ ht) (hm : ht ≤ made) (hb : ∀ x v y, x < 32 → v < 32 → y < 32 → Mv (ht - 2) x v < 1000000 → Mv (ht - 1) v y < 1000000 → Mv (ht - 2) x v + Mv (ht - 1) v y < 1000000) : XM K xy_BE_chainTwo xw_BE_chainTwo (xrm 3 76 0 0) [.ref (o + 8)] n h (x_pv fun n' h' => n = n' ∧ be_fr o h h' ∧ ∃ ad' sp', be_R K h' n o (ht - 1) made ad' sp' (va_up Mv (ht - 2) (fun x y => md_ch (Mv (ht - 2)) (Mv (ht - 1)) x 32 y))) 0 0 := by
  obtain ⟨⟨pl, p1, p2, p3⟩, pin⟩ := id hr
  have h24 := pin.1
  refine xm_v (by decide +kernel) (Nat.le_of_ble_eq_true rfl) (fun G hF hR => ?_)
  refine xv_aload_n (pc' := 1) (i := 0) hF xd_BE_chainTwo_0 rfl rfl rfl ?_
  refine xv_get (pc' := 4) (ci := 5) hF (by first | assumption | exact xu_self | (refine (xu_ne (by omega)).trans ?_; first | assumption | exact xu_self | (refine (xu_ne (by omega)).trans ?_; first | assumption | exact xu_self | (refine (xu_ne (by omega)).trans ?_; first | assumption | exact xu_self | (refine (xu_ne (by omega)).trans ?_; first | assumption | exact xu_self))))) rfl xu_BE 1 (by decide) xk_BE_f17 (by rfl) xd_BE_chainTwo_1 rfl ?_
  refine xv_iconstN (pc' := 5) 2 hF xd_BE_chainTwo_4 (by decide +kernel) rfl ?_
  refine xv_icmp_ltN (pc' := 8) (tgt := 59) hF (by omega) (by omega) xd_BE_chainTwo_5 (by decide) rfl (fun e => ?_) (fun e => ?_)
  · omega
  · refine xv_aload_n (pc' := 9) (i := 0) hF xd_BE_chainTwo_8 rfl rfl rfl ?_
    refine xv_dup (pc' := 10) hF xd_BE_chainTwo_9 rfl rfl ?_
    refine xv_get (pc' := 13) (ci := 5) hF (by first | assumption | exact xu_self | (refine (xu_ne (by omega)).trans ?_; first | assumption | exact xu_self | (refine (xu_ne (by omega)).trans ?_; first | assumption | exact xu_self | (refine (xu_ne (by omega)).trans ?_; first | assumption | exact xu_self | (refine (xu_ne (by omega)).trans ?_; first | assumption | exact xu_self))))) rfl xu_BE 1 (by decide) xk_BE_f17 (by rfl) xd_BE_chainTwo_10 rfl ?_
    refine xv_iconstN (pc' := 14) 1 hF xd_BE_chainTwo_13 (by decide +kernel) rfl ?_
    first | refine xv_isubN (pc' := 15) hF (by omega) xd_BE_chainTwo_14 rfl ?_ | refine xv_isub (pc' := 15) hF xd_BE_chainTwo_14 rfl ?_
    refine xv_put (pc' := 18) (ci := 5) (ty := xt_BE 1) hF (by first | assumption | exact xu_self | (refine (xu_ne (by omega)).trans ?_; first | assumption | exact xu_self | (refine (xu_ne (by omega)).trans ?_; first | assumption | exact xu_self | (refine (xu_ne (by omega)).trans ?_; first | assumption | exact xu_self | (refine (xu_ne (by omega)).trans ?_; first | assumption | exact xu_self))))) rfl xu_BE xt_BE xo_BE xn_BE 1 (by decide) xk_BE_f17 rfl (by decide +kernel) (by first | rfl | exact xb_nw _ | decide +kernel) (by first | rfl | exact xb_ft _ | decide +kernel) (by exact Nat.le_of_ble_eq_true rfl) (by dsimp only [List.set] <;> rfl) xd_BE_chainTwo_15 rfl ?_
    obtain ⟨hr1, hfr1⟩ := be_setH (ht' := ht - 1) hr
    generalize xu h (o + 8) (.inr (5, [.ref (o + 9), .int (nI (ht - 1)), .ref sp])) = h1 at hr1 hfr1 ⊢
    obtain ⟨⟨pl1, q1, q2, q3, q4⟩, i1, i2, i3, i4, ⟨Ms, i5⟩, i6, i7⟩ := id hr1
    refine xv_aload_n (pc' := 19) (i := 0) hF xd_BE_chainTwo_18 rfl rfl rfl ?_
    refine xv_callVr (pc' := 22) (ci := 5) hF (c_BE_top K n h1 o (ht - 1) made ad sp Mv hr1 (by omega) (by omega)) xq_BE_top xk_BE_m56 xk_i_BE_top xk_s_BE_top (by first | assumption | exact xu_self | (refine (xu_ne (by omega)).trans ?_; first | assumption | exact xu_self | (refine (xu_ne (by omega)).trans ?_; first | assumption | exact xu_self | (refine (xu_ne (by omega)).trans ?_; first | assumption | exact xu_self | (refine (xu_ne (by omega)).trans ?_; first | assumption | exact xu_self))))) rfl ⟨(Nat.le_of_ble_eq_true rfl), (Nat.le_of_ble_eq_true rfl)⟩ rfl rfl (Nat.le_of_ble_eq_true rfl) ⟨(Nat.le_of_ble_eq_true rfl), (Nat.le_of_ble_eq_true rfl)⟩ xd_BE_chainTwo_19 rfl (fun r n2 h2 w2 => ?_)
    obtain ⟨rfl, rfl, rfl⟩ := w2
    have ea : ht - 1 - 1 = ht - 2 := by omega
    rw [ea]
    refine xv_astore_n (pc' := 23) (i := 1) hF xd_BE_chainTwo_22 rfl (Nat.le_of_ble_eq_true rfl) rfl rfl ?_
    refine xv_aload_n (pc' := 24) (i := 0) hF xd_BE_chainTwo_23 rfl rfl rfl ?_
    refine xv_get (pc' := 27) (ci := 5) hF (by first | assumption | exact xu_self | (refine (xu_ne (by omega)).trans ?_; first | assumption | exact xu_self | (refine (xu_ne (by omega)).trans ?_; first | assumption | exact xu_self | (refine (xu_ne (by omega)).trans ?_; first | assumption | exact xu_self | (refine (xu_ne (by omega)).trans ?_; first | assumption | exact xu_self))))) rfl xu_BE 2 (by decide) xk_BE_f22 (by rfl) xd_BE_chainTwo_24 rfl ?_
    refine xv_aload_n (pc' := 28) (i := 1) hF xd_BE_chainTwo_27 rfl rfl rfl ?_
    refine xv_aload_n (pc' := 29) (i := 0) hF xd_BE_chainTwo_28 rfl rfl rfl ?_
    refine xv_aload_n (pc' := 30) (i := 0) hF xd_BE_chainTwo_29 rfl rfl rfl ?_
    refine xv_get (pc' := 33) (ci := 5) hF (by first | assumption | exact xu_self | (refine (xu_ne (by omega)).trans ?_; first | assumption | exact xu_self | (refine (xu_ne (by omega)).trans ?_; first | assumption | exact xu_self | (refine (xu_ne (by omega)).trans ?_; first | assumption | exact xu_self | (refine (xu_ne (by omega)).trans ?_; first | assumption | exact xu_self))))) rfl xu_BE 1 (by decide) xk_BE_f17 (by rfl) xd_BE_chainTwo_30 rfl ?_
    refine xv_callVr (pc' := 36) (ci := 5) hF (c_BE_at K n h1 o (ht - 1) made (ht - 1) ad sp Mv hr1 (by omega)) xq_BE_at xk_BE_m26 xk_i_BE_at xk_s_BE_at (by first | assumption | exact xu_self | (refine (xu_ne (by omega)).trans ?_; first | assumption | exact xu_self | (refine (xu_ne (by omega)).trans ?_; first | assumption | exact xu_self | (refine (xu_ne (by omega)).trans ?_; first | assumption | exact xu_self | (refine (xu_ne (by omega)).trans ?_; first | assumption | exact xu_self))))) rfl ⟨(Nat.le_of_ble_eq_true rfl), (Nat.le_of_ble_eq_true rfl)⟩ rfl rfl (Nat.le_of_ble_eq_true rfl) ⟨(Nat.le_of_ble_eq_true rfl), (Nat.le_of_ble_eq_true rfl)⟩ xd_BE_chainTwo_33 rfl (fun r n2 h2 w2 => ?_)
    obtain ⟨rfl, rfl, rfl⟩ := w2
    obtain ⟨f, g, ⟨z1, z2, z3⟩, z4⟩ := id i5
    refine xv_callVv (pc' := 39) (ci := 2) hF (c_RE_setToChain K n h1 sp (ad (ht - 2)) (ad (ht - 1)) _ _ _ i5 (i3 (ht - 2) (by omega)).2 (i3 (ht - 1) (by omega)).2 (i7 _ (by omega)).sy (i7 _ (by omega)).sy hb) xq_RE_setToChain xk_BE_m82 xk_i_RE_setToChain xk_s_RE_setToChain (by first | assumption | exact xu_self | (refine (xu_ne (by omega)).trans ?_; first | assumption | exact xu_self | (refine (xu_ne (by omega)).trans ?_; first | assumption | exact xu_self | (refine (xu_ne (by omega)).trans ?_; first | assumption | exact xu_self | (refine (xu_ne (by omega)).trans ?_; first | assumption | exact xu_self))))) rfl ⟨(Nat.le_of_ble_eq_true rfl), (Nat.le_of_ble_eq_true rfl)⟩ rfl rfl (Nat.le_of_ble_eq_true rfl) ⟨(Nat.le_of_ble_eq_true rfl), (Nat.le_of_ble_eq_true rfl)⟩ xd_BE_chainTwo_36 rfl (fun n3 h3 p3 => ?_)
    obtain ⟨rfl, f3, r3⟩ := p3
    have hr3 := be_updS hr1 f3 r3
    have hfr3 := hfr1.tr (be_frR i4 f3)
    clear z1 z2 z3 z4 q1 q2
    obtain ⟨⟨pl3, q1, q2, q5, q6⟩, j1, j2, j3, j4, -, j6, j7⟩ := id hr3
    obtain ⟨f, g, ⟨z1, z2, z3⟩, z4⟩ := id r3
    refine xv_aload_n (pc' := 40) (i := 0) hF xd_BE_chainTwo_39 rfl rfl rfl ?_
    refine xv_get (pc' := 43) (ci := 5) hF (by first | assumption | exact xu_self | (refine (xu_ne (by omega)).trans ?_; first | assumption | exact xu_self | (refine (xu_ne (by omega)).trans ?_; first | assumption | exact xu_self | (refine (xu_ne (by omega)).trans ?_; first | assumption | exact xu_self | (refine (xu_ne (by omega)).trans ?_; first | assumption | exact xu_self))))) rfl xu_BE 0 (by decide) xk_BE_f13 (by rfl) xd_BE_chainTwo_40 rfl ?_
    refine xv_aload_n (pc' := 44) (i := 0) hF xd_BE_chainTwo_43 rfl rfl rfl ?_
    refine xv_get (pc' := 47) (ci := 5) hF (by first | assumption | exact xu_self | (refine (xu_ne (by omega)).trans ?_; first | assumption | exact xu_self | (refine (xu_ne (by omega)).trans ?_; first | assumption | exact xu_self | (refine (xu_ne (by omega)).trans ?_; first | assumption | exact xu_self | (refine (xu_ne (by omega)).trans ?_; first | assumption | exact xu_self))))) rfl xu_BE 1 (by decide) xk_BE_f17 (by rfl) xd_BE_chainTwo_44 rfl ?_
    refine xv_iconstN (pc' := 48) 1 hF xd_BE_chainTwo_47 (by decide +kernel) rfl ?_
    refine xv_isubN (pc' := 49) hF (by omega) xd_BE_chainTwo_48 rfl ?_
    refine xv_topi (v' := nI (ht - 2)) (by rw [ea]) ?_
    refine xv_aload_n (pc' := 50) (i := 0) hF xd_BE_chainTwo_49 rfl rfl rfl ?_
    refine xv_get (pc' := 53) (ci := 5) hF (by first | assumption | exact xu_self | (refine (xu_ne (by omega)).trans ?_; first | assumption | exact xu_self | (refine (xu_ne (by omega)).trans ?_; first | assumption | exact xu_self | (refine (xu_ne (by omega)).trans ?_; first | assumption | exact xu_self | (refine (xu_ne (by omega)).trans ?_; first | assumption | exact xu_self))))) rfl xu_BE 2 (by decide) xk_BE_f22 (by rfl) xd_BE_chainTwo_50 rfl ?_
    refine xv_aastN (pc' := 54) (ci := 2) 4 hF (by first | assumption | exact xu_self | (refine (xu_ne (by omega)).trans ?_; first | assumption | exact xu_self | (refine (xu_ne (by omega)).trans ?_; first | assumption | exact xu_self | (refine (xu_ne (by omega)).trans ?_; first | assumption | exact xu_self | (refine (xu_ne (by omega)).trans ?_; first | assumption | exact xu_self))))) rfl (by first | assumption | exact xu_self | (refine (xu_ne (by omega)).trans ?_; first | assumption | exact xu_self | (refine (xu_ne (by omega)).trans ?_; first | assumption | exact xu_self | (refine (xu_ne (by omega)).trans ?_; first | assumption | exact xu_self | (refine (xu_ne (by omega)).trans ?_; first | assumption | exact xu_self))))) rfl (by omega) (by decide) xd_BE_chainTwo_53 rfl ?_
    refine xv_aload_n (pc' := 55) (i := 0) hF xd_BE_chainTwo_54 rfl rfl rfl ?_
    refine xv_aload_n (pc' := 56) (i := 1) hF xd_BE_chainTwo_55 rfl rfl rfl ?_
    refine xv_put (pc' := 59) (ci := 5) (ty := xt_BE 2) hF (by first | assumption | exact xu_self | (refine (xu_ne (by omega)).trans ?_; first | assumption | exact xu_self | (refine (xu_ne (by omega)).trans ?_; first | assumption | exact xu_self | (refine (xu_ne (by omega)).trans ?_; first | assumption | exact xu_self | (refine (xu_ne (by omega)).trans ?_; first | assumption | exact xu_self))))) rfl xu_BE xt_BE xo_BE xn_BE 2 (by decide) xk_BE_f22 rfl (by decide +kernel) (by first | rfl | exact xb_nw _ | decide +kernel) (by first | rfl | exact xb_ft _ | decide +kernel) (by exact Nat.le_of_ble_eq_true rfl) (by dsimp only [List.set] <;> rfl) xd_BE_chainTwo_56 rfl ?_
    refine hR _ _ _ _ _ _ (by omega) (by omega) ?_ xd_BE_chainTwo_59
    have hf : ∀ q, q ≠ o + 8 → q ≠ o + 9 → (xu (xu h3 (o + 9) (.inl (K.2.2.1 4, 24, .inr (.inr (.inr (.inr (va_up pl3 (ht - 2) (some sp)))))))) (o + 8) (.inr (5, [.ref (o + 9), .int (nI (ht - 1)), .ref (ad (ht - 2))]))) q = h3 q := fun q h1 h2 => by rw [xu_ne h1, xu_ne h2]
    refine ⟨rfl, fun q a b c d e => by rw [hf q b c]; exact hfr3 q a b c d e, va_up ad (ht - 2) sp, ad (ht - 2), ⟨va_up pl3 (ht - 2) (some sp), xu_self, by rw [xu_ne (by omega)]; exact xu_self, fun i hi => ?_, fun i h1 h2 => ?_⟩, be_in.own hf ⟨j1, j2, fun j hj => ?_, (j3 _ (by omega)).1, ⟨_, (j3 _ (by omega)).2⟩, fun i j hi hj hne => ?_, fun i hi => ?_⟩⟩
    · unfold va_up
      by_cases c : i = ht - 2
      · rw [if_pos c, if_pos c]
      · rw [if_neg c, if_neg c]; exact q5 i hi
    · unfold va_up
      rw [if_neg (by omega)]; exact q6 i h1 h2
    · unfold va_up
      by_cases c : j = ht - 2
      · rw [if_pos c, if_pos c]; exact ⟨j4, r3⟩
      · rw [if_neg c, if_neg c]; exact j3 j hj
    · unfold va_up
      by_cases c : i = ht - 2
      · rw [if_pos c, if_neg (by omega)]; exact (j7 j hj).sy
      · by_cases c2 : j = ht - 2
        · rw [if_neg c, if_pos c2]; exact j7 i hi
        · rw [if_neg c, if_neg c2]; exact j6 i j hi hj hne
    · unfold va_up
      by_cases c : i = ht - 2
      · rw [if_pos c]; exact (j7 _ (by omega)).sy
      · rw [if_neg c]; exact j6 _ _ hi (by omega) c
