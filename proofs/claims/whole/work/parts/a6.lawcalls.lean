/-! the law's own methods: a call of PathDesk, its answer laid into a row, or what was thrown told by a number -/
set_option maxHeartbeats 4000000 in
set_option maxRecDepth 100000 in
theorem c_LW_edge (K : xK) (n : Nat) (h : xH) (o q d w mc ms : Nat) (x y z : Int32) (fs : List Value) (ha : h o = some (.inr (0, fs))) {P : Int32 → Nat → xH → Prop} (hM : XM K xy_PD_edge xw_PD_edge (xrm d w mc ms) [.ref o, .int x, .int y, .int z] n h (x_pi P) mc ms) (hq : ∀ v n' h', P v n' h' → ∃ b f, v = xb b ∧ h' q = some (.inl (K.2.2.1 2, 1, .inr (.inl f)))) : XMJ K xy_LW_edge xw_LW_edge (xrm (d + 1) (23 + w) mc ms) [.ref o, .int x, .int y, .int z, .ref q] n h (x_pi fun r n' h' => r = nI 0 ∧ ∃ b h1 f, P (xb b) n' h1 ∧ h' = xu h1 q (.inl (K.2.2.1 2, 1, .inr (.inl f))) ∧ f 0 = if b then 1 else 0) mc ms := by
  refine xw_i (by decide +kernel) (Nat.le_of_ble_eq_true rfl) (fun G hF hT hR => ?_)
  refine xv_aload (pc' := 2) hF xd_LW_edge_0 rfl rfl ?_
  refine xv_iconstN (pc' := 3) 0 hF xd_LW_edge_2 (by decide +kernel) rfl ?_
  refine xv_aload_n (pc' := 4) (i := 0) hF xd_LW_edge_3 rfl rfl rfl ?_
  refine xv_iload_n (pc' := 5) (i := 1) hF xd_LW_edge_4 rfl rfl rfl ?_
  refine xv_iload_n (pc' := 6) (i := 2) hF xd_LW_edge_5 rfl rfl rfl ?_
  refine xv_iload_n (pc' := 7) (i := 3) hF xd_LW_edge_6 rfl rfl rfl ?_
  refine xv_callVi (pc' := 10) (ci := 0) hF hM xq_PD_edge xk_LW_m7 xk_i_PD_edge xk_s_PD_edge ha rfl ⟨(by show d + 1 ≤ d + 1; omega), (by show 8 + (4 + 11) + w ≤ 23 + w; omega)⟩ rfl rfl (Nat.le_of_ble_eq_true rfl) ⟨(by show 0 + mc ≤ mc; omega), (by show 0 + ms ≤ ms; omega)⟩ xd_LW_edge_7 rfl (fun v n1 h1 p1 => ?_)
  obtain ⟨b, f, rfl, hf⟩ := hq v n1 h1 p1
  refine xv_if_eqB (pc' := 13) (tgt := 17) hF xd_LW_edge_10 (by decide) rfl (fun e1 => ?_) (fun e1 => ?_)
  · subst e1
    refine xv_lconst (pc' := 18) (v := 0) hF xd_LW_edge_17 (by decide +kernel) rfl ?_
    refine xv_lastN (pc' := 19) hF (by first | assumption | exact xu_self | (refine (xu_ne (by omega)).trans ?_; first | assumption | exact xu_self | (refine (xu_ne (by omega)).trans ?_; first | assumption | exact xu_self | (refine (xu_ne (by omega)).trans ?_; first | assumption | exact xu_self | (refine (xu_ne (by omega)).trans ?_; first | assumption | exact xu_self))))) (by omega) (by decide) xd_LW_edge_18 rfl ?_
    refine xv_goto (tgt := 26) hF xd_LW_edge_19 (by decide) ?_
    refine xv_iconstN (pc' := 27) 0 hF xd_LW_edge_26 (by decide +kernel) rfl ?_
    refine hR _ _ _ _ _ _ _ (by omega) (by omega) ?_ xd_LW_edge_27
    exact ⟨rfl, false, h1, _, p1, rfl, rfl⟩
  · subst e1
    refine xv_lconst (pc' := 14) (v := 1) hF xd_LW_edge_13 (by decide +kernel) rfl ?_
    refine xv_goto (tgt := 18) hF xd_LW_edge_14 (by decide) ?_
    refine xv_lastN (pc' := 19) hF (by first | assumption | exact xu_self | (refine (xu_ne (by omega)).trans ?_; first | assumption | exact xu_self | (refine (xu_ne (by omega)).trans ?_; first | assumption | exact xu_self | (refine (xu_ne (by omega)).trans ?_; first | assumption | exact xu_self | (refine (xu_ne (by omega)).trans ?_; first | assumption | exact xu_self))))) (by omega) (by decide) xd_LW_edge_18 rfl ?_
    refine xv_goto (tgt := 26) hF xd_LW_edge_19 (by decide) ?_
    refine xv_iconstN (pc' := 27) 0 hF xd_LW_edge_26 (by decide +kernel) rfl ?_
    refine hR _ _ _ _ _ _ _ (by omega) (by omega) ?_ xd_LW_edge_27
    exact ⟨rfl, true, h1, _, p1, rfl, rfl⟩
set_option maxHeartbeats 4000000 in
set_option maxRecDepth 100000 in
theorem c_LW_edgeT (K : xK) (n : Nat) (h : xH) (o q : Nat) (x y z : Int32) (fs : List Value) (ha : h o = some (.inr (0, fs))) (hM : XMT K xy_PD_edge xw_PD_edge (xrm 7 102 1 6) [.ref o, .int x, .int y, .int z] n h xr_JG 1 6) : XMJ K xy_LW_edge xw_LW_edge (xrm 8 125 1 6) [.ref o, .int x, .int y, .int z, .ref q] n h (x_pi fun r n' h' => r = nI 1 ∧ n ≤ n' ∧ h = h') 1 6 := by
  refine xw_i (by decide +kernel) (Nat.le_of_ble_eq_true rfl) (fun G hF hT hR => ?_)
  refine xv_aload (pc' := 2) hF xd_LW_edge_0 rfl rfl ?_
  refine xv_iconstN (pc' := 3) 0 hF xd_LW_edge_2 (by decide +kernel) rfl ?_
  refine xv_aload_n (pc' := 4) (i := 0) hF xd_LW_edge_3 rfl rfl rfl ?_
  refine xv_iload_n (pc' := 5) (i := 1) hF xd_LW_edge_4 rfl rfl rfl ?_
  refine xv_iload_n (pc' := 6) (i := 2) hF xd_LW_edge_5 rfl rfl rfl ?_
  refine xv_iload_n (pc' := 7) (i := 3) hF xd_LW_edge_6 rfl rfl rfl ?_
  refine xw_callX (ci := 0) hF hT hM xq_PD_edge xk_LW_m7 xk_i_PD_edge xk_s_PD_edge ha rfl ⟨(Nat.le_of_ble_eq_true rfl), (Nat.le_of_ble_eq_true rfl)⟩ rfl rfl (Nat.le_of_ble_eq_true rfl) ⟨(Nat.le_of_ble_eq_true rfl), (Nat.le_of_ble_eq_true rfl)⟩ xd_LW_edge_7 [] _ [] rfl (fun z hz => nomatch hz) (by decide) (by decide) xk_LW_c13 xz_cG (fun n' q9 hn => ?_)
  show XV G _ _ 22 _ _ _ _
  refine xv_astore (pc' := 24) hF xd_LW_edge_22 (Nat.le_of_ble_eq_true rfl) rfl rfl ?_
  refine xv_iconstN (pc' := 25) 1 hF xd_LW_edge_24 (by decide +kernel) rfl ?_
  refine hR _ _ _ _ _ _ _ (by omega) (by omega) ?_ xd_LW_edge_25
  exact ⟨rfl, hn, rfl⟩
set_option maxHeartbeats 4000000 in
set_option maxRecDepth 100000 in
theorem c_LW_cut (K : xK) (n : Nat) (h : xH) (o q d w mc ms : Nat) (x y z : Int32) (fs : List Value) (ha : h o = some (.inr (0, fs))) {P : Int32 → Nat → xH → Prop} (hM : XM K xy_PD_cut xw_PD_cut (xrm d w mc ms) [.ref o, .int x, .int y, .int z] n h (x_pi P) mc ms) (hq : ∀ v n' h', P v n' h' → ∃ b f, v = xb b ∧ h' q = some (.inl (K.2.2.1 2, 1, .inr (.inl f)))) : XMJ K xy_LW_cut xw_LW_cut (xrm (d + 1) (23 + w) mc ms) [.ref o, .int x, .int y, .int z, .ref q] n h (x_pi fun r n' h' => r = nI 0 ∧ ∃ b h1 f, P (xb b) n' h1 ∧ h' = xu h1 q (.inl (K.2.2.1 2, 1, .inr (.inl f))) ∧ f 0 = if b then 1 else 0) mc ms := by
  refine xw_i (by decide +kernel) (Nat.le_of_ble_eq_true rfl) (fun G hF hT hR => ?_)
  refine xv_aload (pc' := 2) hF xd_LW_cut_0 rfl rfl ?_
  refine xv_iconstN (pc' := 3) 0 hF xd_LW_cut_2 (by decide +kernel) rfl ?_
  refine xv_aload_n (pc' := 4) (i := 0) hF xd_LW_cut_3 rfl rfl rfl ?_
  refine xv_iload_n (pc' := 5) (i := 1) hF xd_LW_cut_4 rfl rfl rfl ?_
  refine xv_iload_n (pc' := 6) (i := 2) hF xd_LW_cut_5 rfl rfl rfl ?_
  refine xv_iload_n (pc' := 7) (i := 3) hF xd_LW_cut_6 rfl rfl rfl ?_
  refine xv_callVi (pc' := 10) (ci := 0) hF hM xq_PD_cut xk_LW_m15 xk_i_PD_cut xk_s_PD_cut ha rfl ⟨(by show d + 1 ≤ d + 1; omega), (by show 8 + (4 + 11) + w ≤ 23 + w; omega)⟩ rfl rfl (Nat.le_of_ble_eq_true rfl) ⟨(by show 0 + mc ≤ mc; omega), (by show 0 + ms ≤ ms; omega)⟩ xd_LW_cut_7 rfl (fun v n1 h1 p1 => ?_)
  obtain ⟨b, f, rfl, hf⟩ := hq v n1 h1 p1
  refine xv_if_eqB (pc' := 13) (tgt := 17) hF xd_LW_cut_10 (by decide) rfl (fun e1 => ?_) (fun e1 => ?_)
  · subst e1
    refine xv_lconst (pc' := 18) (v := 0) hF xd_LW_cut_17 (by decide +kernel) rfl ?_
    refine xv_lastN (pc' := 19) hF (by first | assumption | exact xu_self | (refine (xu_ne (by omega)).trans ?_; first | assumption | exact xu_self | (refine (xu_ne (by omega)).trans ?_; first | assumption | exact xu_self | (refine (xu_ne (by omega)).trans ?_; first | assumption | exact xu_self | (refine (xu_ne (by omega)).trans ?_; first | assumption | exact xu_self))))) (by omega) (by decide) xd_LW_cut_18 rfl ?_
    refine xv_goto (tgt := 26) hF xd_LW_cut_19 (by decide) ?_
    refine xv_iconstN (pc' := 27) 0 hF xd_LW_cut_26 (by decide +kernel) rfl ?_
    refine hR _ _ _ _ _ _ _ (by omega) (by omega) ?_ xd_LW_cut_27
    exact ⟨rfl, false, h1, _, p1, rfl, rfl⟩
  · subst e1
    refine xv_lconst (pc' := 14) (v := 1) hF xd_LW_cut_13 (by decide +kernel) rfl ?_
    refine xv_goto (tgt := 18) hF xd_LW_cut_14 (by decide) ?_
    refine xv_lastN (pc' := 19) hF (by first | assumption | exact xu_self | (refine (xu_ne (by omega)).trans ?_; first | assumption | exact xu_self | (refine (xu_ne (by omega)).trans ?_; first | assumption | exact xu_self | (refine (xu_ne (by omega)).trans ?_; first | assumption | exact xu_self | (refine (xu_ne (by omega)).trans ?_; first | assumption | exact xu_self))))) (by omega) (by decide) xd_LW_cut_18 rfl ?_
    refine xv_goto (tgt := 26) hF xd_LW_cut_19 (by decide) ?_
    refine xv_iconstN (pc' := 27) 0 hF xd_LW_cut_26 (by decide +kernel) rfl ?_
    refine hR _ _ _ _ _ _ _ (by omega) (by omega) ?_ xd_LW_cut_27
    exact ⟨rfl, true, h1, _, p1, rfl, rfl⟩
set_option maxHeartbeats 4000000 in
set_option maxRecDepth 100000 in
theorem c_LW_cutT (K : xK) (n : Nat) (h : xH) (o q : Nat) (x y z : Int32) (fs : List Value) (ha : h o = some (.inr (0, fs))) (hM : XMT K xy_PD_cut xw_PD_cut (xrm 7 102 1 6) [.ref o, .int x, .int y, .int z] n h xr_JG 1 6) : XMJ K xy_LW_cut xw_LW_cut (xrm 8 125 1 6) [.ref o, .int x, .int y, .int z, .ref q] n h (x_pi fun r n' h' => r = nI 1 ∧ n ≤ n' ∧ h = h') 1 6 := by
  refine xw_i (by decide +kernel) (Nat.le_of_ble_eq_true rfl) (fun G hF hT hR => ?_)
  refine xv_aload (pc' := 2) hF xd_LW_cut_0 rfl rfl ?_
  refine xv_iconstN (pc' := 3) 0 hF xd_LW_cut_2 (by decide +kernel) rfl ?_
  refine xv_aload_n (pc' := 4) (i := 0) hF xd_LW_cut_3 rfl rfl rfl ?_
  refine xv_iload_n (pc' := 5) (i := 1) hF xd_LW_cut_4 rfl rfl rfl ?_
  refine xv_iload_n (pc' := 6) (i := 2) hF xd_LW_cut_5 rfl rfl rfl ?_
  refine xv_iload_n (pc' := 7) (i := 3) hF xd_LW_cut_6 rfl rfl rfl ?_
  refine xw_callX (ci := 0) hF hT hM xq_PD_cut xk_LW_m15 xk_i_PD_cut xk_s_PD_cut ha rfl ⟨(Nat.le_of_ble_eq_true rfl), (Nat.le_of_ble_eq_true rfl)⟩ rfl rfl (Nat.le_of_ble_eq_true rfl) ⟨(Nat.le_of_ble_eq_true rfl), (Nat.le_of_ble_eq_true rfl)⟩ xd_LW_cut_7 [] _ [] rfl (fun z hz => nomatch hz) (by decide) (by decide) xk_LW_c13 xz_cG (fun n' q9 hn => ?_)
  show XV G _ _ 22 _ _ _ _
  refine xv_astore (pc' := 24) hF xd_LW_cut_22 (Nat.le_of_ble_eq_true rfl) rfl rfl ?_
  refine xv_iconstN (pc' := 25) 1 hF xd_LW_cut_24 (by decide +kernel) rfl ?_
  refine hR _ _ _ _ _ _ _ (by omega) (by omega) ?_ xd_LW_cut_25
  exact ⟨rfl, hn, rfl⟩
set_option maxHeartbeats 4000000 in
set_option maxRecDepth 100000 in
theorem c_LW_tag (K : xK) (n : Nat) (h : xH) (o d w mc ms : Nat) (x y z : Int32) (fs : List Value) (ha : h o = some (.inr (0, fs))) {P : Nat → xH → Prop} (hM : XM K xy_PD_tag xw_PD_tag (xrm d w mc ms) [.ref o, .int x, .int y, .int z] n h (x_pv P) mc ms) : XMJ K xy_LW_tag xw_LW_tag (xrm (d + 1) (23 + w) mc ms) [.ref o, .int x, .int y, .int z] n h (x_pi fun r n' h' => r = nI 0 ∧ P n' h') mc ms := by
  refine xw_i (by decide +kernel) (Nat.le_of_ble_eq_true rfl) (fun G hF hT hR => ?_)
  refine xv_aload_n (pc' := 1) (i := 0) hF xd_LW_tag_0 rfl rfl rfl ?_
  refine xv_iload_n (pc' := 2) (i := 1) hF xd_LW_tag_1 rfl rfl rfl ?_
  refine xv_iload_n (pc' := 3) (i := 2) hF xd_LW_tag_2 rfl rfl rfl ?_
  refine xv_iload_n (pc' := 4) (i := 3) hF xd_LW_tag_3 rfl rfl rfl ?_
  refine xv_callVv (pc' := 7) (ci := 0) hF hM xq_PD_tag xk_LW_m18 xk_i_PD_tag xk_s_PD_tag ha rfl ⟨(by show d + 1 ≤ d + 1; omega), (by show 8 + (4 + 11) + w ≤ 23 + w; omega)⟩ rfl rfl (Nat.le_of_ble_eq_true rfl) ⟨(by show 0 + mc ≤ mc; omega), (by show 0 + ms ≤ ms; omega)⟩ xd_LW_tag_4 rfl (fun n1 h1 p1 => ?_)
  refine xv_goto (tgt := 14) hF xd_LW_tag_7 (by decide) ?_
  refine xv_iconstN (pc' := 15) 0 hF xd_LW_tag_14 (by decide +kernel) rfl ?_
  refine hR _ _ _ _ _ _ _ (by omega) (by omega) ?_ xd_LW_tag_15
  exact ⟨rfl, p1⟩
set_option maxHeartbeats 4000000 in
set_option maxRecDepth 100000 in
theorem c_LW_tagT (K : xK) (n : Nat) (h : xH) (o : Nat) (x y z : Int32) (fs : List Value) (ha : h o = some (.inr (0, fs))) (hM : XMT K xy_PD_tag xw_PD_tag (xrm 7 102 1 6) [.ref o, .int x, .int y, .int z] n h xr_JG 1 6) : XMJ K xy_LW_tag xw_LW_tag (xrm 8 125 1 6) [.ref o, .int x, .int y, .int z] n h (x_pi fun r n' h' => r = nI 1 ∧ n ≤ n' ∧ h = h') 1 6 := by
  refine xw_i (by decide +kernel) (Nat.le_of_ble_eq_true rfl) (fun G hF hT hR => ?_)
  refine xv_aload_n (pc' := 1) (i := 0) hF xd_LW_tag_0 rfl rfl rfl ?_
  refine xv_iload_n (pc' := 2) (i := 1) hF xd_LW_tag_1 rfl rfl rfl ?_
  refine xv_iload_n (pc' := 3) (i := 2) hF xd_LW_tag_2 rfl rfl rfl ?_
  refine xv_iload_n (pc' := 4) (i := 3) hF xd_LW_tag_3 rfl rfl rfl ?_
  refine xw_callX (ci := 0) hF hT hM xq_PD_tag xk_LW_m18 xk_i_PD_tag xk_s_PD_tag ha rfl ⟨(Nat.le_of_ble_eq_true rfl), (Nat.le_of_ble_eq_true rfl)⟩ rfl rfl (Nat.le_of_ble_eq_true rfl) ⟨(Nat.le_of_ble_eq_true rfl), (Nat.le_of_ble_eq_true rfl)⟩ xd_LW_tag_4 [] _ [] rfl (fun z hz => nomatch hz) (by decide) (by decide) xk_LW_c13 xz_cG (fun n' q9 hn => ?_)
  show XV G _ _ 10 _ _ _ _
  refine xv_astore (pc' := 12) hF xd_LW_tag_10 (Nat.le_of_ble_eq_true rfl) rfl rfl ?_
  refine xv_iconstN (pc' := 13) 1 hF xd_LW_tag_12 (by decide +kernel) rfl ?_
  refine hR _ _ _ _ _ _ _ (by omega) (by omega) ?_ xd_LW_tag_13
  exact ⟨rfl, hn, rfl⟩
set_option maxHeartbeats 4000000 in
set_option maxRecDepth 100000 in
theorem c_LW_feed (K : xK) (n : Nat) (h : xH) (o q d w mc ms : Nat) (X : Int64) (x : Int32) (fs : List Value) (ha : h o = some (.inr (0, fs))) {P : Int32 → Nat → xH → Prop} (hM : XM K xy_PD_feed xw_PD_feed (xrm d w mc ms) [.ref o, .long X, .int x] n h (x_pi P) mc ms) (hq : ∀ v n' h', P v n' h' → ∃ f, h' q = some (.inl (K.2.2.1 2, 1, .inr (.inl f)))) : XMJ K xy_LW_feed xw_LW_feed (xrm (d + 1) (24 + w) mc ms) [.ref o, .long X, .int x, .ref q] n h (x_pi fun r n' h' => r = nI 0 ∧ ∃ v h1 f, P v n' h1 ∧ h' = xu h1 q (.inl (K.2.2.1 2, 1, .inr (.inl f))) ∧ f 0 = v.toInt64) mc ms := by
  refine xw_i (by decide +kernel) (Nat.le_of_ble_eq_true rfl) (fun G hF hT hR => ?_)
  refine xv_aload (pc' := 2) hF xd_LW_feed_0 rfl rfl ?_
  refine xv_iconstN (pc' := 3) 0 hF xd_LW_feed_2 (by decide +kernel) rfl ?_
  refine xv_aload_n (pc' := 4) (i := 0) hF xd_LW_feed_3 rfl rfl rfl ?_
  refine xv_lload_n (pc' := 5) (i := 1) hF xd_LW_feed_4 rfl rfl rfl ?_
  refine xv_iload_n (pc' := 6) (i := 3) hF xd_LW_feed_5 rfl rfl rfl ?_
  refine xv_callVi (pc' := 9) (ci := 0) hF hM xq_PD_feed xk_LW_m22 xk_i_PD_feed xk_s_PD_feed ha rfl ⟨(by show d + 1 ≤ d + 1; omega), (by show 8 + (5 + 11) + w ≤ 24 + w; omega)⟩ rfl rfl (Nat.le_of_ble_eq_true rfl) ⟨(by show 0 + mc ≤ mc; omega), (by show 0 + ms ≤ ms; omega)⟩ xd_LW_feed_6 rfl (fun v n1 h1 p1 => ?_)
  obtain ⟨f, hf⟩ := hq v n1 h1 p1
  refine xv_i2l (pc' := 10) hF xd_LW_feed_9 rfl rfl ?_
  refine xv_lastN (pc' := 11) hF (by first | assumption | exact xu_self | (refine (xu_ne (by omega)).trans ?_; first | assumption | exact xu_self | (refine (xu_ne (by omega)).trans ?_; first | assumption | exact xu_self | (refine (xu_ne (by omega)).trans ?_; first | assumption | exact xu_self | (refine (xu_ne (by omega)).trans ?_; first | assumption | exact xu_self))))) (by omega) (by decide) xd_LW_feed_10 rfl ?_
  refine xv_goto (tgt := 18) hF xd_LW_feed_11 (by decide) ?_
  refine xv_iconstN (pc' := 19) 0 hF xd_LW_feed_18 (by decide +kernel) rfl ?_
  refine hR _ _ _ _ _ _ _ (by omega) (by omega) ?_ xd_LW_feed_19
  exact ⟨rfl, v, h1, _, p1, rfl, rfl⟩
set_option maxHeartbeats 4000000 in
set_option maxRecDepth 100000 in
theorem c_LW_feedT (K : xK) (n : Nat) (h : xH) (o q : Nat) (X : Int64) (x : Int32) (fs : List Value) (ha : h o = some (.inr (0, fs))) (hM : XMT K xy_PD_feed xw_PD_feed (xrm 7 102 1 6) [.ref o, .long X, .int x] n h xr_JG 1 6) : XMJ K xy_LW_feed xw_LW_feed (xrm 8 126 1 6) [.ref o, .long X, .int x, .ref q] n h (x_pi fun r n' h' => r = nI 1 ∧ n ≤ n' ∧ h = h') 1 6 := by
  refine xw_i (by decide +kernel) (Nat.le_of_ble_eq_true rfl) (fun G hF hT hR => ?_)
  refine xv_aload (pc' := 2) hF xd_LW_feed_0 rfl rfl ?_
  refine xv_iconstN (pc' := 3) 0 hF xd_LW_feed_2 (by decide +kernel) rfl ?_
  refine xv_aload_n (pc' := 4) (i := 0) hF xd_LW_feed_3 rfl rfl rfl ?_
  refine xv_lload_n (pc' := 5) (i := 1) hF xd_LW_feed_4 rfl rfl rfl ?_
  refine xv_iload_n (pc' := 6) (i := 3) hF xd_LW_feed_5 rfl rfl rfl ?_
  refine xw_callX (ci := 0) hF hT hM xq_PD_feed xk_LW_m22 xk_i_PD_feed xk_s_PD_feed ha rfl ⟨(Nat.le_of_ble_eq_true rfl), (Nat.le_of_ble_eq_true rfl)⟩ rfl rfl (Nat.le_of_ble_eq_true rfl) ⟨(Nat.le_of_ble_eq_true rfl), (Nat.le_of_ble_eq_true rfl)⟩ xd_LW_feed_6 [] _ [] rfl (fun z hz => nomatch hz) (by decide) (by decide) xk_LW_c13 xz_cG (fun n' q9 hn => ?_)
  show XV G _ _ 14 _ _ _ _
  refine xv_astore (pc' := 16) hF xd_LW_feed_14 (Nat.le_of_ble_eq_true rfl) rfl rfl ?_
  refine xv_iconstN (pc' := 17) 1 hF xd_LW_feed_16 (by decide +kernel) rfl ?_
  refine hR _ _ _ _ _ _ _ (by omega) (by omega) ?_ xd_LW_feed_17
  exact ⟨rfl, hn, rfl⟩
set_option maxHeartbeats 4000000 in
set_option maxRecDepth 100000 in
theorem c_LW_load (K : xK) (n : Nat) (h : xH) (o q d w mc ms : Nat) (x : Int32) (fs : List Value) (ha : h o = some (.inr (0, fs))) {P : Int32 → Nat → xH → Prop} (hM : XM K xy_PD_load xw_PD_load (xrm d w mc ms) [.ref o, .int x] n h (x_pi P) mc ms) (hq : ∀ v n' h', P v n' h' → ∃ f, h' q = some (.inl (K.2.2.1 2, 1, .inr (.inl f)))) : XMJ K xy_LW_load xw_LW_load (xrm (d + 1) (23 + w) mc ms) [.ref o, .int x, .ref q] n h (x_pi fun r n' h' => r = nI 0 ∧ ∃ v h1 f, P v n' h1 ∧ h' = xu h1 q (.inl (K.2.2.1 2, 1, .inr (.inl f))) ∧ f 0 = v.toInt64) mc ms := by
  refine xw_i (by decide +kernel) (Nat.le_of_ble_eq_true rfl) (fun G hF hT hR => ?_)
  refine xv_aload_n (pc' := 1) (i := 2) hF xd_LW_load_0 rfl rfl rfl ?_
  refine xv_iconstN (pc' := 2) 0 hF xd_LW_load_1 (by decide +kernel) rfl ?_
  refine xv_aload_n (pc' := 3) (i := 0) hF xd_LW_load_2 rfl rfl rfl ?_
  refine xv_iload_n (pc' := 4) (i := 1) hF xd_LW_load_3 rfl rfl rfl ?_
  refine xv_callVi (pc' := 7) (ci := 0) hF hM xq_PD_load xk_LW_m26 xk_i_PD_load xk_s_PD_load ha rfl ⟨(by show d + 1 ≤ d + 1; omega), (by show 8 + (4 + 11) + w ≤ 23 + w; omega)⟩ rfl rfl (Nat.le_of_ble_eq_true rfl) ⟨(by show 0 + mc ≤ mc; omega), (by show 0 + ms ≤ ms; omega)⟩ xd_LW_load_4 rfl (fun v n1 h1 p1 => ?_)
  obtain ⟨f, hf⟩ := hq v n1 h1 p1
  refine xv_i2l (pc' := 8) hF xd_LW_load_7 rfl rfl ?_
  refine xv_lastN (pc' := 9) hF (by first | assumption | exact xu_self | (refine (xu_ne (by omega)).trans ?_; first | assumption | exact xu_self | (refine (xu_ne (by omega)).trans ?_; first | assumption | exact xu_self | (refine (xu_ne (by omega)).trans ?_; first | assumption | exact xu_self | (refine (xu_ne (by omega)).trans ?_; first | assumption | exact xu_self))))) (by omega) (by decide) xd_LW_load_8 rfl ?_
  refine xv_goto (tgt := 15) hF xd_LW_load_9 (by decide) ?_
  refine xv_iconstN (pc' := 16) 0 hF xd_LW_load_15 (by decide +kernel) rfl ?_
  refine hR _ _ _ _ _ _ _ (by omega) (by omega) ?_ xd_LW_load_16
  exact ⟨rfl, v, h1, _, p1, rfl, rfl⟩
set_option maxHeartbeats 4000000 in
set_option maxRecDepth 100000 in
theorem c_LW_loadT (K : xK) (n : Nat) (h : xH) (o q : Nat) (x : Int32) (fs : List Value) (ha : h o = some (.inr (0, fs))) (hM : XMT K xy_PD_load xw_PD_load (xrm 7 102 1 6) [.ref o, .int x] n h xr_JX 1 6) : XMJ K xy_LW_load xw_LW_load (xrm 8 125 1 6) [.ref o, .int x, .ref q] n h (x_pi fun r n' h' => r = nI 1 ∧ n ≤ n' ∧ h = h') 1 6 := by
  refine xw_i (by decide +kernel) (Nat.le_of_ble_eq_true rfl) (fun G hF hT hR => ?_)
  refine xv_aload_n (pc' := 1) (i := 2) hF xd_LW_load_0 rfl rfl rfl ?_
  refine xv_iconstN (pc' := 2) 0 hF xd_LW_load_1 (by decide +kernel) rfl ?_
  refine xv_aload_n (pc' := 3) (i := 0) hF xd_LW_load_2 rfl rfl rfl ?_
  refine xv_iload_n (pc' := 4) (i := 1) hF xd_LW_load_3 rfl rfl rfl ?_
  refine xw_callX (ci := 0) hF hT hM xq_PD_load xk_LW_m26 xk_i_PD_load xk_s_PD_load ha rfl ⟨(Nat.le_of_ble_eq_true rfl), (Nat.le_of_ble_eq_true rfl)⟩ rfl rfl (Nat.le_of_ble_eq_true rfl) ⟨(Nat.le_of_ble_eq_true rfl), (Nat.le_of_ble_eq_true rfl)⟩ xd_LW_load_4 [] _ [] rfl (fun z hz => nomatch hz) (by decide) (by decide) xk_LW_c30 xz_cX (fun n' q9 hn => ?_)
  show XV G _ _ 12 _ _ _ _
  refine xv_astore_n (pc' := 13) (i := 3) hF xd_LW_load_12 rfl (Nat.le_of_ble_eq_true rfl) rfl rfl ?_
  refine xv_iconstN (pc' := 14) 1 hF xd_LW_load_13 (by decide +kernel) rfl ?_
  refine hR _ _ _ _ _ _ _ (by omega) (by omega) ?_ xd_LW_load_14
  exact ⟨rfl, hn, rfl⟩
set_option maxHeartbeats 4000000 in
set_option maxRecDepth 100000 in
theorem c_LW_reach (K : xK) (n : Nat) (h : xH) (o q d w mc ms : Nat) (x y z : Int32) (fs : List Value) (ha : h o = some (.inr (0, fs))) {P : Int32 → Nat → xH → Prop} (hM : XM K xy_PD_reach xw_PD_reach (xrm d w mc ms) [.ref o, .int x, .int y, .int z] n h (x_pi P) mc ms) (hq : ∀ v n' h', P v n' h' → ∃ f, h' q = some (.inl (K.2.2.1 2, 1, .inr (.inl f)))) : XMJ K xy_LW_reach xw_LW_reach (xrm (d + 1) (24 + w) mc ms) [.ref o, .int x, .int y, .int z, .ref q] n h (x_pi fun r n' h' => r = nI 0 ∧ ∃ v h1 f, P v n' h1 ∧ h' = xu h1 q (.inl (K.2.2.1 2, 1, .inr (.inl f))) ∧ f 0 = v.toInt64) mc ms := by
  refine xw_i (by decide +kernel) (Nat.le_of_ble_eq_true rfl) (fun G hF hT hR => ?_)
  refine xv_aload (pc' := 2) hF xd_LW_reach_0 rfl rfl ?_
  refine xv_iconstN (pc' := 3) 0 hF xd_LW_reach_2 (by decide +kernel) rfl ?_
  refine xv_aload_n (pc' := 4) (i := 0) hF xd_LW_reach_3 rfl rfl rfl ?_
  refine xv_iload_n (pc' := 5) (i := 1) hF xd_LW_reach_4 rfl rfl rfl ?_
  refine xv_iload_n (pc' := 6) (i := 2) hF xd_LW_reach_5 rfl rfl rfl ?_
  refine xv_iload_n (pc' := 7) (i := 3) hF xd_LW_reach_6 rfl rfl rfl ?_
  refine xv_callVi (pc' := 10) (ci := 0) hF hM xq_PD_reach xk_LW_m32 xk_i_PD_reach xk_s_PD_reach ha rfl ⟨(by show d + 1 ≤ d + 1; omega), (by show 8 + (5 + 11) + w ≤ 24 + w; omega)⟩ rfl rfl (Nat.le_of_ble_eq_true rfl) ⟨(by show 0 + mc ≤ mc; omega), (by show 0 + ms ≤ ms; omega)⟩ xd_LW_reach_7 rfl (fun v n1 h1 p1 => ?_)
  obtain ⟨f, hf⟩ := hq v n1 h1 p1
  refine xv_i2l (pc' := 11) hF xd_LW_reach_10 rfl rfl ?_
  refine xv_lastN (pc' := 12) hF (by first | assumption | exact xu_self | (refine (xu_ne (by omega)).trans ?_; first | assumption | exact xu_self | (refine (xu_ne (by omega)).trans ?_; first | assumption | exact xu_self | (refine (xu_ne (by omega)).trans ?_; first | assumption | exact xu_self | (refine (xu_ne (by omega)).trans ?_; first | assumption | exact xu_self))))) (by omega) (by decide) xd_LW_reach_11 rfl ?_
  refine xv_goto (tgt := 23) hF xd_LW_reach_12 (by decide) ?_
  refine xv_iconstN (pc' := 24) 0 hF xd_LW_reach_23 (by decide +kernel) rfl ?_
  refine hR _ _ _ _ _ _ _ (by omega) (by omega) ?_ xd_LW_reach_24
  exact ⟨rfl, v, h1, _, p1, rfl, rfl⟩
set_option maxHeartbeats 4000000 in
set_option maxRecDepth 100000 in
theorem c_LW_reachT1 (K : xK) (n : Nat) (h : xH) (o q : Nat) (x y z : Int32) (fs : List Value) (ha : h o = some (.inr (0, fs))) (hM : XMT K xy_PD_reach xw_PD_reach (xrm 7 102 1 6) [.ref o, .int x, .int y, .int z] n h xr_JX 1 6) : XMJ K xy_LW_reach xw_LW_reach (xrm 8 126 1 6) [.ref o, .int x, .int y, .int z, .ref q] n h (x_pi fun r n' h' => r = nI 1 ∧ n ≤ n' ∧ h = h') 1 6 := by
  refine xw_i (by decide +kernel) (Nat.le_of_ble_eq_true rfl) (fun G hF hT hR => ?_)
  refine xv_aload (pc' := 2) hF xd_LW_reach_0 rfl rfl ?_
  refine xv_iconstN (pc' := 3) 0 hF xd_LW_reach_2 (by decide +kernel) rfl ?_
  refine xv_aload_n (pc' := 4) (i := 0) hF xd_LW_reach_3 rfl rfl rfl ?_
  refine xv_iload_n (pc' := 5) (i := 1) hF xd_LW_reach_4 rfl rfl rfl ?_
  refine xv_iload_n (pc' := 6) (i := 2) hF xd_LW_reach_5 rfl rfl rfl ?_
  refine xv_iload_n (pc' := 7) (i := 3) hF xd_LW_reach_6 rfl rfl rfl ?_
  refine xw_callX (ci := 0) hF hT hM xq_PD_reach xk_LW_m32 xk_i_PD_reach xk_s_PD_reach ha rfl ⟨(Nat.le_of_ble_eq_true rfl), (Nat.le_of_ble_eq_true rfl)⟩ rfl rfl (Nat.le_of_ble_eq_true rfl) ⟨(Nat.le_of_ble_eq_true rfl), (Nat.le_of_ble_eq_true rfl)⟩ xd_LW_reach_7 [] _ [_] rfl (fun z hz => nomatch hz) (by decide) (by decide) xk_LW_c30 xz_cX (fun n' q9 hn => ?_)
  show XV G _ _ 15 _ _ _ _
  refine xv_astore (pc' := 17) hF xd_LW_reach_15 (Nat.le_of_ble_eq_true rfl) rfl rfl ?_
  refine xv_iconstN (pc' := 18) 1 hF xd_LW_reach_17 (by decide +kernel) rfl ?_
  refine hR _ _ _ _ _ _ _ (by omega) (by omega) ?_ xd_LW_reach_18
  exact ⟨rfl, hn, rfl⟩
set_option maxHeartbeats 4000000 in
set_option maxRecDepth 100000 in
theorem c_LW_reachT2 (K : xK) (n : Nat) (h : xH) (o q : Nat) (x y z : Int32) (fs : List Value) (ha : h o = some (.inr (0, fs))) (hM : XMT K xy_PD_reach xw_PD_reach (xrm 7 102 1 6) [.ref o, .int x, .int y, .int z] n h xr_JG 1 6) : XMJ K xy_LW_reach xw_LW_reach (xrm 8 126 1 6) [.ref o, .int x, .int y, .int z, .ref q] n h (x_pi fun r n' h' => r = nI 2 ∧ n ≤ n' ∧ h = h') 1 6 := by
  refine xw_i (by decide +kernel) (Nat.le_of_ble_eq_true rfl) (fun G hF hT hR => ?_)
  refine xv_aload (pc' := 2) hF xd_LW_reach_0 rfl rfl ?_
  refine xv_iconstN (pc' := 3) 0 hF xd_LW_reach_2 (by decide +kernel) rfl ?_
  refine xv_aload_n (pc' := 4) (i := 0) hF xd_LW_reach_3 rfl rfl rfl ?_
  refine xv_iload_n (pc' := 5) (i := 1) hF xd_LW_reach_4 rfl rfl rfl ?_
  refine xv_iload_n (pc' := 6) (i := 2) hF xd_LW_reach_5 rfl rfl rfl ?_
  refine xv_iload_n (pc' := 7) (i := 3) hF xd_LW_reach_6 rfl rfl rfl ?_
  refine xw_callX (ci := 0) hF hT hM xq_PD_reach xk_LW_m32 xk_i_PD_reach xk_s_PD_reach ha rfl ⟨(Nat.le_of_ble_eq_true rfl), (Nat.le_of_ble_eq_true rfl)⟩ rfl rfl (Nat.le_of_ble_eq_true rfl) ⟨(Nat.le_of_ble_eq_true rfl), (Nat.le_of_ble_eq_true rfl)⟩ xd_LW_reach_7 [_] _ [] rfl (fun z hz => by rw [List.mem_singleton.mp hz]; exact Or.inr ⟨by decide, xk_LW_c30, rfl⟩) (by decide) (by decide) xk_LW_c13 xz_cG (fun n' q9 hn => ?_)
  show XV G _ _ 19 _ _ _ _
  refine xv_astore (pc' := 21) hF xd_LW_reach_19 (Nat.le_of_ble_eq_true rfl) rfl rfl ?_
  refine xv_iconstN (pc' := 22) 2 hF xd_LW_reach_21 (by decide +kernel) rfl ?_
  refine hR _ _ _ _ _ _ _ (by omega) (by omega) ?_ xd_LW_reach_22
  exact ⟨rfl, hn, rfl⟩
set_option maxHeartbeats 4000000 in
set_option maxRecDepth 100000 in
theorem c_LW_distance (K : xK) (n : Nat) (h : xH) (o q d w mc ms : Nat) (x y z : Int32) (fs : List Value) (ha : h o = some (.inr (0, fs))) {P : Int32 → Nat → xH → Prop} (hM : XM K xy_PD_distance xw_PD_distance (xrm d w mc ms) [.ref o, .int x, .int y, .int z] n h (x_pi P) mc ms) (hq : ∀ v n' h', P v n' h' → ∃ f, h' q = some (.inl (K.2.2.1 2, 1, .inr (.inl f)))) : XMJ K xy_LW_distance xw_LW_distance (xrm (d + 1) (23 + w) mc ms) [.ref o, .int x, .int y, .int z, .ref q] n h (x_pi fun r n' h' => r = nI 0 ∧ ∃ v h1 f, P v n' h1 ∧ h' = xu h1 q (.inl (K.2.2.1 2, 1, .inr (.inl f))) ∧ f 0 = v.toInt64) mc ms := by
  refine xw_i (by decide +kernel) (Nat.le_of_ble_eq_true rfl) (fun G hF hT hR => ?_)
  refine xv_aload (pc' := 2) hF xd_LW_distance_0 rfl rfl ?_
  refine xv_iconstN (pc' := 3) 0 hF xd_LW_distance_2 (by decide +kernel) rfl ?_
  refine xv_aload_n (pc' := 4) (i := 0) hF xd_LW_distance_3 rfl rfl rfl ?_
  refine xv_iload_n (pc' := 5) (i := 1) hF xd_LW_distance_4 rfl rfl rfl ?_
  refine xv_iload_n (pc' := 6) (i := 2) hF xd_LW_distance_5 rfl rfl rfl ?_
  refine xv_iload_n (pc' := 7) (i := 3) hF xd_LW_distance_6 rfl rfl rfl ?_
  refine xv_callVi (pc' := 10) (ci := 0) hF hM xq_PD_distance xk_LW_m36 xk_i_PD_distance xk_s_PD_distance ha rfl ⟨(by show d + 1 ≤ d + 1; omega), (by show 8 + (4 + 11) + w ≤ 23 + w; omega)⟩ rfl rfl (Nat.le_of_ble_eq_true rfl) ⟨(by show 0 + mc ≤ mc; omega), (by show 0 + ms ≤ ms; omega)⟩ xd_LW_distance_7 rfl (fun v n1 h1 p1 => ?_)
  obtain ⟨f, hf⟩ := hq v n1 h1 p1
  refine xv_i2l (pc' := 11) hF xd_LW_distance_10 rfl rfl ?_
  refine xv_lastN (pc' := 12) hF (by first | assumption | exact xu_self | (refine (xu_ne (by omega)).trans ?_; first | assumption | exact xu_self | (refine (xu_ne (by omega)).trans ?_; first | assumption | exact xu_self | (refine (xu_ne (by omega)).trans ?_; first | assumption | exact xu_self | (refine (xu_ne (by omega)).trans ?_; first | assumption | exact xu_self))))) (by omega) (by decide) xd_LW_distance_11 rfl ?_
  refine xv_goto (tgt := 23) hF xd_LW_distance_12 (by decide) ?_
  refine xv_iconstN (pc' := 24) 0 hF xd_LW_distance_23 (by decide +kernel) rfl ?_
  refine hR _ _ _ _ _ _ _ (by omega) (by omega) ?_ xd_LW_distance_24
  exact ⟨rfl, v, h1, _, p1, rfl, rfl⟩
set_option maxHeartbeats 4000000 in
set_option maxRecDepth 100000 in
theorem c_LW_distanceT1 (K : xK) (n : Nat) (h : xH) (o q : Nat) (x y z : Int32) (fs : List Value) (ha : h o = some (.inr (0, fs))) (hM : XMT K xy_PD_distance xw_PD_distance (xrm 7 102 1 6) [.ref o, .int x, .int y, .int z] n h xr_JX 1 6) : XMJ K xy_LW_distance xw_LW_distance (xrm 8 125 1 6) [.ref o, .int x, .int y, .int z, .ref q] n h (x_pi fun r n' h' => r = nI 1 ∧ n ≤ n' ∧ h = h') 1 6 := by
  refine xw_i (by decide +kernel) (Nat.le_of_ble_eq_true rfl) (fun G hF hT hR => ?_)
  refine xv_aload (pc' := 2) hF xd_LW_distance_0 rfl rfl ?_
  refine xv_iconstN (pc' := 3) 0 hF xd_LW_distance_2 (by decide +kernel) rfl ?_
  refine xv_aload_n (pc' := 4) (i := 0) hF xd_LW_distance_3 rfl rfl rfl ?_
  refine xv_iload_n (pc' := 5) (i := 1) hF xd_LW_distance_4 rfl rfl rfl ?_
  refine xv_iload_n (pc' := 6) (i := 2) hF xd_LW_distance_5 rfl rfl rfl ?_
  refine xv_iload_n (pc' := 7) (i := 3) hF xd_LW_distance_6 rfl rfl rfl ?_
  refine xw_callX (ci := 0) hF hT hM xq_PD_distance xk_LW_m36 xk_i_PD_distance xk_s_PD_distance ha rfl ⟨(Nat.le_of_ble_eq_true rfl), (Nat.le_of_ble_eq_true rfl)⟩ rfl rfl (Nat.le_of_ble_eq_true rfl) ⟨(Nat.le_of_ble_eq_true rfl), (Nat.le_of_ble_eq_true rfl)⟩ xd_LW_distance_7 [] _ [_] rfl (fun z hz => nomatch hz) (by decide) (by decide) xk_LW_c30 xz_cX (fun n' q9 hn => ?_)
  show XV G _ _ 15 _ _ _ _
  refine xv_astore (pc' := 17) hF xd_LW_distance_15 (Nat.le_of_ble_eq_true rfl) rfl rfl ?_
  refine xv_iconstN (pc' := 18) 1 hF xd_LW_distance_17 (by decide +kernel) rfl ?_
  refine hR _ _ _ _ _ _ _ (by omega) (by omega) ?_ xd_LW_distance_18
  exact ⟨rfl, hn, rfl⟩
set_option maxHeartbeats 4000000 in
set_option maxRecDepth 100000 in
theorem c_LW_distanceT2 (K : xK) (n : Nat) (h : xH) (o q : Nat) (x y z : Int32) (fs : List Value) (ha : h o = some (.inr (0, fs))) (hM : XMT K xy_PD_distance xw_PD_distance (xrm 7 102 1 6) [.ref o, .int x, .int y, .int z] n h xr_JG 1 6) : XMJ K xy_LW_distance xw_LW_distance (xrm 8 125 1 6) [.ref o, .int x, .int y, .int z, .ref q] n h (x_pi fun r n' h' => r = nI 2 ∧ n ≤ n' ∧ h = h') 1 6 := by
  refine xw_i (by decide +kernel) (Nat.le_of_ble_eq_true rfl) (fun G hF hT hR => ?_)
  refine xv_aload (pc' := 2) hF xd_LW_distance_0 rfl rfl ?_
  refine xv_iconstN (pc' := 3) 0 hF xd_LW_distance_2 (by decide +kernel) rfl ?_
  refine xv_aload_n (pc' := 4) (i := 0) hF xd_LW_distance_3 rfl rfl rfl ?_
  refine xv_iload_n (pc' := 5) (i := 1) hF xd_LW_distance_4 rfl rfl rfl ?_
  refine xv_iload_n (pc' := 6) (i := 2) hF xd_LW_distance_5 rfl rfl rfl ?_
  refine xv_iload_n (pc' := 7) (i := 3) hF xd_LW_distance_6 rfl rfl rfl ?_
  refine xw_callX (ci := 0) hF hT hM xq_PD_distance xk_LW_m36 xk_i_PD_distance xk_s_PD_distance ha rfl ⟨(Nat.le_of_ble_eq_true rfl), (Nat.le_of_ble_eq_true rfl)⟩ rfl rfl (Nat.le_of_ble_eq_true rfl) ⟨(Nat.le_of_ble_eq_true rfl), (Nat.le_of_ble_eq_true rfl)⟩ xd_LW_distance_7 [_] _ [] rfl (fun z hz => by rw [List.mem_singleton.mp hz]; exact Or.inr ⟨by decide, xk_LW_c30, rfl⟩) (by decide) (by decide) xk_LW_c13 xz_cG (fun n' q9 hn => ?_)
  show XV G _ _ 19 _ _ _ _
  refine xv_astore (pc' := 21) hF xd_LW_distance_19 (Nat.le_of_ble_eq_true rfl) rfl rfl ?_
  refine xv_iconstN (pc' := 22) 2 hF xd_LW_distance_21 (by decide +kernel) rfl ?_
  refine hR _ _ _ _ _ _ _ (by omega) (by omega) ?_ xd_LW_distance_22
  exact ⟨rfl, hn, rfl⟩
set_option maxHeartbeats 4000000 in
set_option maxRecDepth 100000 in
theorem c_LW_span (K : xK) (n : Nat) (h : xH) (o q d w mc ms : Nat) (x : Int32) (fs : List Value) (ha : h o = some (.inr (0, fs))) {P : Int32 → Nat → xH → Prop} (hM : XM K xy_PD_span xw_PD_span (xrm d w mc ms) [.ref o, .int x] n h (x_pi P) mc ms) (hq : ∀ v n' h', P v n' h' → ∃ f, h' q = some (.inl (K.2.2.1 2, 1, .inr (.inl f)))) : XMJ K xy_LW_span xw_LW_span (xrm (d + 1) (21 + w) mc ms) [.ref o, .int x, .ref q] n h (x_pi fun r n' h' => r = nI 0 ∧ ∃ v h1 f, P v n' h1 ∧ h' = xu h1 q (.inl (K.2.2.1 2, 1, .inr (.inl f))) ∧ f 0 = v.toInt64) mc ms := by
  refine xw_i (by decide +kernel) (Nat.le_of_ble_eq_true rfl) (fun G hF hT hR => ?_)
  refine xv_aload_n (pc' := 1) (i := 2) hF xd_LW_span_0 rfl rfl rfl ?_
  refine xv_iconstN (pc' := 2) 0 hF xd_LW_span_1 (by decide +kernel) rfl ?_
  refine xv_aload_n (pc' := 3) (i := 0) hF xd_LW_span_2 rfl rfl rfl ?_
  refine xv_iload_n (pc' := 4) (i := 1) hF xd_LW_span_3 rfl rfl rfl ?_
  refine xv_callVi (pc' := 7) (ci := 0) hF hM xq_PD_span xk_LW_m40 xk_i_PD_span xk_s_PD_span ha rfl ⟨(by show d + 1 ≤ d + 1; omega), (by show 8 + (2 + 11) + w ≤ 21 + w; omega)⟩ rfl rfl (Nat.le_of_ble_eq_true rfl) ⟨(by show 0 + mc ≤ mc; omega), (by show 0 + ms ≤ ms; omega)⟩ xd_LW_span_4 rfl (fun v n1 h1 p1 => ?_)
  obtain ⟨f, hf⟩ := hq v n1 h1 p1
  refine xv_i2l (pc' := 8) hF xd_LW_span_7 rfl rfl ?_
  refine xv_lastN (pc' := 9) hF (by first | assumption | exact xu_self | (refine (xu_ne (by omega)).trans ?_; first | assumption | exact xu_self | (refine (xu_ne (by omega)).trans ?_; first | assumption | exact xu_self | (refine (xu_ne (by omega)).trans ?_; first | assumption | exact xu_self | (refine (xu_ne (by omega)).trans ?_; first | assumption | exact xu_self))))) (by omega) (by decide) xd_LW_span_8 rfl ?_
  refine xv_goto (tgt := 15) hF xd_LW_span_9 (by decide) ?_
  refine xv_iconstN (pc' := 16) 0 hF xd_LW_span_15 (by decide +kernel) rfl ?_
  refine hR _ _ _ _ _ _ _ (by omega) (by omega) ?_ xd_LW_span_16
  exact ⟨rfl, v, h1, _, p1, rfl, rfl⟩
set_option maxHeartbeats 4000000 in
set_option maxRecDepth 100000 in
theorem c_LW_spanT (K : xK) (n : Nat) (h : xH) (o q : Nat) (x : Int32) (fs : List Value) (ha : h o = some (.inr (0, fs))) (hM : XMT K xy_PD_span xw_PD_span (xrm 7 102 1 6) [.ref o, .int x] n h xr_JX 1 6) : XMJ K xy_LW_span xw_LW_span (xrm 8 123 1 6) [.ref o, .int x, .ref q] n h (x_pi fun r n' h' => r = nI 1 ∧ n ≤ n' ∧ h = h') 1 6 := by
  refine xw_i (by decide +kernel) (Nat.le_of_ble_eq_true rfl) (fun G hF hT hR => ?_)
  refine xv_aload_n (pc' := 1) (i := 2) hF xd_LW_span_0 rfl rfl rfl ?_
  refine xv_iconstN (pc' := 2) 0 hF xd_LW_span_1 (by decide +kernel) rfl ?_
  refine xv_aload_n (pc' := 3) (i := 0) hF xd_LW_span_2 rfl rfl rfl ?_
  refine xv_iload_n (pc' := 4) (i := 1) hF xd_LW_span_3 rfl rfl rfl ?_
  refine xw_callX (ci := 0) hF hT hM xq_PD_span xk_LW_m40 xk_i_PD_span xk_s_PD_span ha rfl ⟨(Nat.le_of_ble_eq_true rfl), (Nat.le_of_ble_eq_true rfl)⟩ rfl rfl (Nat.le_of_ble_eq_true rfl) ⟨(Nat.le_of_ble_eq_true rfl), (Nat.le_of_ble_eq_true rfl)⟩ xd_LW_span_4 [] _ [] rfl (fun z hz => nomatch hz) (by decide) (by decide) xk_LW_c30 xz_cX (fun n' q9 hn => ?_)
  show XV G _ _ 12 _ _ _ _
  refine xv_astore_n (pc' := 13) (i := 3) hF xd_LW_span_12 rfl (Nat.le_of_ble_eq_true rfl) rfl rfl ?_
  refine xv_iconstN (pc' := 14) 1 hF xd_LW_span_13 (by decide +kernel) rfl ?_
  refine hR _ _ _ _ _ _ _ (by omega) (by omega) ?_ xd_LW_span_14
  exact ⟨rfl, hn, rfl⟩
set_option maxHeartbeats 4000000 in
set_option maxRecDepth 100000 in
theorem c_LW_pairs (K : xK) (n : Nat) (h : xH) (o q d w mc ms : Nat) (x y z : Int32) (fs : List Value) (ha : h o = some (.inr (0, fs))) {P : Int32 → Nat → xH → Prop} (hM : XM K xy_PD_pairs xw_PD_pairs (xrm d w mc ms) [.ref o, .int x, .int y, .int z] n h (x_pi P) mc ms) (hq : ∀ v n' h', P v n' h' → ∃ f, h' q = some (.inl (K.2.2.1 2, 1, .inr (.inl f)))) : XMJ K xy_LW_pairs xw_LW_pairs (xrm (d + 1) (25 + w) mc ms) [.ref o, .int x, .int y, .int z, .ref q] n h (x_pi fun r n' h' => r = nI 0 ∧ ∃ v h1 f, P v n' h1 ∧ h' = xu h1 q (.inl (K.2.2.1 2, 1, .inr (.inl f))) ∧ f 0 = v.toInt64) mc ms := by
  refine xw_i (by decide +kernel) (Nat.le_of_ble_eq_true rfl) (fun G hF hT hR => ?_)
  refine xv_aload (pc' := 2) hF xd_LW_pairs_0 rfl rfl ?_
  refine xv_iconstN (pc' := 3) 0 hF xd_LW_pairs_2 (by decide +kernel) rfl ?_
  refine xv_aload_n (pc' := 4) (i := 0) hF xd_LW_pairs_3 rfl rfl rfl ?_
  refine xv_iload_n (pc' := 5) (i := 1) hF xd_LW_pairs_4 rfl rfl rfl ?_
  refine xv_iload_n (pc' := 6) (i := 2) hF xd_LW_pairs_5 rfl rfl rfl ?_
  refine xv_iload_n (pc' := 7) (i := 3) hF xd_LW_pairs_6 rfl rfl rfl ?_
  refine xv_callVi (pc' := 10) (ci := 0) hF hM xq_PD_pairs xk_LW_m43 xk_i_PD_pairs xk_s_PD_pairs ha rfl ⟨(by show d + 1 ≤ d + 1; omega), (by show 8 + (6 + 11) + w ≤ 25 + w; omega)⟩ rfl rfl (Nat.le_of_ble_eq_true rfl) ⟨(by show 0 + mc ≤ mc; omega), (by show 0 + ms ≤ ms; omega)⟩ xd_LW_pairs_7 rfl (fun v n1 h1 p1 => ?_)
  obtain ⟨f, hf⟩ := hq v n1 h1 p1
  refine xv_i2l (pc' := 11) hF xd_LW_pairs_10 rfl rfl ?_
  refine xv_lastN (pc' := 12) hF (by first | assumption | exact xu_self | (refine (xu_ne (by omega)).trans ?_; first | assumption | exact xu_self | (refine (xu_ne (by omega)).trans ?_; first | assumption | exact xu_self | (refine (xu_ne (by omega)).trans ?_; first | assumption | exact xu_self | (refine (xu_ne (by omega)).trans ?_; first | assumption | exact xu_self))))) (by omega) (by decide) xd_LW_pairs_11 rfl ?_
  refine xv_goto (tgt := 23) hF xd_LW_pairs_12 (by decide) ?_
  refine xv_iconstN (pc' := 24) 0 hF xd_LW_pairs_23 (by decide +kernel) rfl ?_
  refine hR _ _ _ _ _ _ _ (by omega) (by omega) ?_ xd_LW_pairs_24
  exact ⟨rfl, v, h1, _, p1, rfl, rfl⟩
set_option maxHeartbeats 4000000 in
set_option maxRecDepth 100000 in
theorem c_LW_pairsT1 (K : xK) (n : Nat) (h : xH) (o q : Nat) (x y z : Int32) (fs : List Value) (ha : h o = some (.inr (0, fs))) (hM : XMT K xy_PD_pairs xw_PD_pairs (xrm 7 102 1 6) [.ref o, .int x, .int y, .int z] n h xr_JX 1 6) : XMJ K xy_LW_pairs xw_LW_pairs (xrm 8 127 1 6) [.ref o, .int x, .int y, .int z, .ref q] n h (x_pi fun r n' h' => r = nI 1 ∧ n ≤ n' ∧ h = h') 1 6 := by
  refine xw_i (by decide +kernel) (Nat.le_of_ble_eq_true rfl) (fun G hF hT hR => ?_)
  refine xv_aload (pc' := 2) hF xd_LW_pairs_0 rfl rfl ?_
  refine xv_iconstN (pc' := 3) 0 hF xd_LW_pairs_2 (by decide +kernel) rfl ?_
  refine xv_aload_n (pc' := 4) (i := 0) hF xd_LW_pairs_3 rfl rfl rfl ?_
  refine xv_iload_n (pc' := 5) (i := 1) hF xd_LW_pairs_4 rfl rfl rfl ?_
  refine xv_iload_n (pc' := 6) (i := 2) hF xd_LW_pairs_5 rfl rfl rfl ?_
  refine xv_iload_n (pc' := 7) (i := 3) hF xd_LW_pairs_6 rfl rfl rfl ?_
  refine xw_callX (ci := 0) hF hT hM xq_PD_pairs xk_LW_m43 xk_i_PD_pairs xk_s_PD_pairs ha rfl ⟨(Nat.le_of_ble_eq_true rfl), (Nat.le_of_ble_eq_true rfl)⟩ rfl rfl (Nat.le_of_ble_eq_true rfl) ⟨(Nat.le_of_ble_eq_true rfl), (Nat.le_of_ble_eq_true rfl)⟩ xd_LW_pairs_7 [] _ [_] rfl (fun z hz => nomatch hz) (by decide) (by decide) xk_LW_c30 xz_cX (fun n' q9 hn => ?_)
  show XV G _ _ 15 _ _ _ _
  refine xv_astore (pc' := 17) hF xd_LW_pairs_15 (Nat.le_of_ble_eq_true rfl) rfl rfl ?_
  refine xv_iconstN (pc' := 18) 1 hF xd_LW_pairs_17 (by decide +kernel) rfl ?_
  refine hR _ _ _ _ _ _ _ (by omega) (by omega) ?_ xd_LW_pairs_18
  exact ⟨rfl, hn, rfl⟩
set_option maxHeartbeats 4000000 in
set_option maxRecDepth 100000 in
theorem c_LW_pairsT2 (K : xK) (n : Nat) (h : xH) (o q : Nat) (x y z : Int32) (fs : List Value) (ha : h o = some (.inr (0, fs))) (hM : XMT K xy_PD_pairs xw_PD_pairs (xrm 7 102 1 6) [.ref o, .int x, .int y, .int z] n h xr_JG 1 6) : XMJ K xy_LW_pairs xw_LW_pairs (xrm 8 127 1 6) [.ref o, .int x, .int y, .int z, .ref q] n h (x_pi fun r n' h' => r = nI 2 ∧ n ≤ n' ∧ h = h') 1 6 := by
  refine xw_i (by decide +kernel) (Nat.le_of_ble_eq_true rfl) (fun G hF hT hR => ?_)
  refine xv_aload (pc' := 2) hF xd_LW_pairs_0 rfl rfl ?_
  refine xv_iconstN (pc' := 3) 0 hF xd_LW_pairs_2 (by decide +kernel) rfl ?_
  refine xv_aload_n (pc' := 4) (i := 0) hF xd_LW_pairs_3 rfl rfl rfl ?_
  refine xv_iload_n (pc' := 5) (i := 1) hF xd_LW_pairs_4 rfl rfl rfl ?_
  refine xv_iload_n (pc' := 6) (i := 2) hF xd_LW_pairs_5 rfl rfl rfl ?_
  refine xv_iload_n (pc' := 7) (i := 3) hF xd_LW_pairs_6 rfl rfl rfl ?_
  refine xw_callX (ci := 0) hF hT hM xq_PD_pairs xk_LW_m43 xk_i_PD_pairs xk_s_PD_pairs ha rfl ⟨(Nat.le_of_ble_eq_true rfl), (Nat.le_of_ble_eq_true rfl)⟩ rfl rfl (Nat.le_of_ble_eq_true rfl) ⟨(Nat.le_of_ble_eq_true rfl), (Nat.le_of_ble_eq_true rfl)⟩ xd_LW_pairs_7 [_] _ [] rfl (fun z hz => by rw [List.mem_singleton.mp hz]; exact Or.inr ⟨by decide, xk_LW_c30, rfl⟩) (by decide) (by decide) xk_LW_c13 xz_cG (fun n' q9 hn => ?_)
  show XV G _ _ 19 _ _ _ _
  refine xv_astore (pc' := 21) hF xd_LW_pairs_19 (Nat.le_of_ble_eq_true rfl) rfl rfl ?_
  refine xv_iconstN (pc' := 22) 2 hF xd_LW_pairs_21 (by decide +kernel) rfl ?_
  refine hR _ _ _ _ _ _ _ (by omega) (by omega) ?_ xd_LW_pairs_22
  exact ⟨rfl, hn, rfl⟩
set_option maxHeartbeats 4000000 in
set_option maxRecDepth 100000 in
theorem c_LW_circle (K : xK) (n : Nat) (h : xH) (o q d w mc ms : Nat) (x : Int32) (fs : List Value) (ha : h o = some (.inr (0, fs))) {P : Int32 → Nat → xH → Prop} (hM : XM K xy_PD_circle xw_PD_circle (xrm d w mc ms) [.ref o, .int x] n h (x_pi P) mc ms) (hq : ∀ v n' h', P v n' h' → ∃ f, h' q = some (.inl (K.2.2.1 2, 1, .inr (.inl f)))) : XMJ K xy_LW_circle xw_LW_circle (xrm (d + 1) (21 + w) mc ms) [.ref o, .int x, .ref q] n h (x_pi fun r n' h' => r = nI 0 ∧ ∃ v h1 f, P v n' h1 ∧ h' = xu h1 q (.inl (K.2.2.1 2, 1, .inr (.inl f))) ∧ f 0 = v.toInt64) mc ms := by
  refine xw_i (by decide +kernel) (Nat.le_of_ble_eq_true rfl) (fun G hF hT hR => ?_)
  refine xv_aload_n (pc' := 1) (i := 2) hF xd_LW_circle_0 rfl rfl rfl ?_
  refine xv_iconstN (pc' := 2) 0 hF xd_LW_circle_1 (by decide +kernel) rfl ?_
  refine xv_aload_n (pc' := 3) (i := 0) hF xd_LW_circle_2 rfl rfl rfl ?_
  refine xv_iload_n (pc' := 4) (i := 1) hF xd_LW_circle_3 rfl rfl rfl ?_
  refine xv_callVi (pc' := 7) (ci := 0) hF hM xq_PD_circle xk_LW_m46 xk_i_PD_circle xk_s_PD_circle ha rfl ⟨(by show d + 1 ≤ d + 1; omega), (by show 8 + (2 + 11) + w ≤ 21 + w; omega)⟩ rfl rfl (Nat.le_of_ble_eq_true rfl) ⟨(by show 0 + mc ≤ mc; omega), (by show 0 + ms ≤ ms; omega)⟩ xd_LW_circle_4 rfl (fun v n1 h1 p1 => ?_)
  obtain ⟨f, hf⟩ := hq v n1 h1 p1
  refine xv_i2l (pc' := 8) hF xd_LW_circle_7 rfl rfl ?_
  refine xv_lastN (pc' := 9) hF (by first | assumption | exact xu_self | (refine (xu_ne (by omega)).trans ?_; first | assumption | exact xu_self | (refine (xu_ne (by omega)).trans ?_; first | assumption | exact xu_self | (refine (xu_ne (by omega)).trans ?_; first | assumption | exact xu_self | (refine (xu_ne (by omega)).trans ?_; first | assumption | exact xu_self))))) (by omega) (by decide) xd_LW_circle_8 rfl ?_
  refine xv_goto (tgt := 15) hF xd_LW_circle_9 (by decide) ?_
  refine xv_iconstN (pc' := 16) 0 hF xd_LW_circle_15 (by decide +kernel) rfl ?_
  refine hR _ _ _ _ _ _ _ (by omega) (by omega) ?_ xd_LW_circle_16
  exact ⟨rfl, v, h1, _, p1, rfl, rfl⟩
set_option maxHeartbeats 4000000 in
set_option maxRecDepth 100000 in
theorem c_LW_circleT (K : xK) (n : Nat) (h : xH) (o q : Nat) (x : Int32) (fs : List Value) (ha : h o = some (.inr (0, fs))) (hM : XMT K xy_PD_circle xw_PD_circle (xrm 7 102 1 6) [.ref o, .int x] n h xr_JX 1 6) : XMJ K xy_LW_circle xw_LW_circle (xrm 8 123 1 6) [.ref o, .int x, .ref q] n h (x_pi fun r n' h' => r = nI 1 ∧ n ≤ n' ∧ h = h') 1 6 := by
  refine xw_i (by decide +kernel) (Nat.le_of_ble_eq_true rfl) (fun G hF hT hR => ?_)
  refine xv_aload_n (pc' := 1) (i := 2) hF xd_LW_circle_0 rfl rfl rfl ?_
  refine xv_iconstN (pc' := 2) 0 hF xd_LW_circle_1 (by decide +kernel) rfl ?_
  refine xv_aload_n (pc' := 3) (i := 0) hF xd_LW_circle_2 rfl rfl rfl ?_
  refine xv_iload_n (pc' := 4) (i := 1) hF xd_LW_circle_3 rfl rfl rfl ?_
  refine xw_callX (ci := 0) hF hT hM xq_PD_circle xk_LW_m46 xk_i_PD_circle xk_s_PD_circle ha rfl ⟨(Nat.le_of_ble_eq_true rfl), (Nat.le_of_ble_eq_true rfl)⟩ rfl rfl (Nat.le_of_ble_eq_true rfl) ⟨(Nat.le_of_ble_eq_true rfl), (Nat.le_of_ble_eq_true rfl)⟩ xd_LW_circle_4 [] _ [] rfl (fun z hz => nomatch hz) (by decide) (by decide) xk_LW_c30 xz_cX (fun n' q9 hn => ?_)
  show XV G _ _ 12 _ _ _ _
  refine xv_astore_n (pc' := 13) (i := 3) hF xd_LW_circle_12 rfl (Nat.le_of_ble_eq_true rfl) rfl rfl ?_
  refine xv_iconstN (pc' := 14) 1 hF xd_LW_circle_13 (by decide +kernel) rfl ?_
  refine hR _ _ _ _ _ _ _ (by omega) (by omega) ?_ xd_LW_circle_14
  exact ⟨rfl, hn, rfl⟩
set_option maxHeartbeats 4000000 in
set_option maxRecDepth 100000 in
theorem c_LW_best (K : xK) (n : Nat) (h : xH) (o q d w mc ms : Nat) (x : Int32) (fs : List Value) (ha : h o = some (.inr (0, fs))) {P : Int32 → Nat → xH → Prop} (hM : XM K xy_PD_best xw_PD_best (xrm d w mc ms) [.ref o, .int x] n h (x_pi P) mc ms) (hq : ∀ v n' h', P v n' h' → ∃ f, h' q = some (.inl (K.2.2.1 2, 1, .inr (.inl f)))) : XMJ K xy_LW_best xw_LW_best (xrm (d + 1) (21 + w) mc ms) [.ref o, .int x, .ref q] n h (x_pi fun r n' h' => r = nI 0 ∧ ∃ v h1 f, P v n' h1 ∧ h' = xu h1 q (.inl (K.2.2.1 2, 1, .inr (.inl f))) ∧ f 0 = v.toInt64) mc ms := by
  refine xw_i (by decide +kernel) (Nat.le_of_ble_eq_true rfl) (fun G hF hT hR => ?_)
  refine xv_aload_n (pc' := 1) (i := 2) hF xd_LW_best_0 rfl rfl rfl ?_
  refine xv_iconstN (pc' := 2) 0 hF xd_LW_best_1 (by decide +kernel) rfl ?_
  refine xv_aload_n (pc' := 3) (i := 0) hF xd_LW_best_2 rfl rfl rfl ?_
  refine xv_iload_n (pc' := 4) (i := 1) hF xd_LW_best_3 rfl rfl rfl ?_
  refine xv_callVi (pc' := 7) (ci := 0) hF hM xq_PD_best xk_LW_m49 xk_i_PD_best xk_s_PD_best ha rfl ⟨(by show d + 1 ≤ d + 1; omega), (by show 8 + (2 + 11) + w ≤ 21 + w; omega)⟩ rfl rfl (Nat.le_of_ble_eq_true rfl) ⟨(by show 0 + mc ≤ mc; omega), (by show 0 + ms ≤ ms; omega)⟩ xd_LW_best_4 rfl (fun v n1 h1 p1 => ?_)
  obtain ⟨f, hf⟩ := hq v n1 h1 p1
  refine xv_i2l (pc' := 8) hF xd_LW_best_7 rfl rfl ?_
  refine xv_lastN (pc' := 9) hF (by first | assumption | exact xu_self | (refine (xu_ne (by omega)).trans ?_; first | assumption | exact xu_self | (refine (xu_ne (by omega)).trans ?_; first | assumption | exact xu_self | (refine (xu_ne (by omega)).trans ?_; first | assumption | exact xu_self | (refine (xu_ne (by omega)).trans ?_; first | assumption | exact xu_self))))) (by omega) (by decide) xd_LW_best_8 rfl ?_
  refine xv_goto (tgt := 15) hF xd_LW_best_9 (by decide) ?_
  refine xv_iconstN (pc' := 16) 0 hF xd_LW_best_15 (by decide +kernel) rfl ?_
  refine hR _ _ _ _ _ _ _ (by omega) (by omega) ?_ xd_LW_best_16
  exact ⟨rfl, v, h1, _, p1, rfl, rfl⟩
set_option maxHeartbeats 4000000 in
set_option maxRecDepth 100000 in
theorem c_LW_bestT (K : xK) (n : Nat) (h : xH) (o q : Nat) (x : Int32) (fs : List Value) (ha : h o = some (.inr (0, fs))) (hM : XMT K xy_PD_best xw_PD_best (xrm 7 102 1 6) [.ref o, .int x] n h xr_JX 1 6) : XMJ K xy_LW_best xw_LW_best (xrm 8 123 1 6) [.ref o, .int x, .ref q] n h (x_pi fun r n' h' => r = nI 1 ∧ n ≤ n' ∧ h = h') 1 6 := by
  refine xw_i (by decide +kernel) (Nat.le_of_ble_eq_true rfl) (fun G hF hT hR => ?_)
  refine xv_aload_n (pc' := 1) (i := 2) hF xd_LW_best_0 rfl rfl rfl ?_
  refine xv_iconstN (pc' := 2) 0 hF xd_LW_best_1 (by decide +kernel) rfl ?_
  refine xv_aload_n (pc' := 3) (i := 0) hF xd_LW_best_2 rfl rfl rfl ?_
  refine xv_iload_n (pc' := 4) (i := 1) hF xd_LW_best_3 rfl rfl rfl ?_
  refine xw_callX (ci := 0) hF hT hM xq_PD_best xk_LW_m49 xk_i_PD_best xk_s_PD_best ha rfl ⟨(Nat.le_of_ble_eq_true rfl), (Nat.le_of_ble_eq_true rfl)⟩ rfl rfl (Nat.le_of_ble_eq_true rfl) ⟨(Nat.le_of_ble_eq_true rfl), (Nat.le_of_ble_eq_true rfl)⟩ xd_LW_best_4 [] _ [] rfl (fun z hz => nomatch hz) (by decide) (by decide) xk_LW_c30 xz_cX (fun n' q9 hn => ?_)
  show XV G _ _ 12 _ _ _ _
  refine xv_astore_n (pc' := 13) (i := 3) hF xd_LW_best_12 rfl (Nat.le_of_ble_eq_true rfl) rfl rfl ?_
  refine xv_iconstN (pc' := 14) 1 hF xd_LW_best_13 (by decide +kernel) rfl ?_
  refine hR _ _ _ _ _ _ _ (by omega) (by omega) ?_ xd_LW_best_14
  exact ⟨rfl, hn, rfl⟩
