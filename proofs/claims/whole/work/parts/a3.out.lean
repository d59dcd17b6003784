/-! PathDesk: what is not in range -/
theorem xz_lt5 {x : Int32} (h : x ≤ nI 4) : x < nI 5 := Int32.lt_of_le_of_lt h (by decide +kernel)
set_option maxHeartbeats 4000000 in
set_option maxRecDepth 100000 in
theorem c_PD_needNodeT (K : xK) (n : Nat) (h : xH) (x : Int32) (hno : x_in x 32 = false) : XMT K xy_PD_needNode xw_PD_needNode (xrm 6 82 1 6) [.int x] n h xr_JG 1 6 := by
  refine xt_m (by decide +kernel) (Nat.le_of_ble_eq_true rfl) (fun G hF hT => ?_)
  refine xv_iload_n (pc' := 1) (i := 0) hF xd_PD_needNode_0 rfl rfl rfl ?_
  refine xv_if_lt (pc' := 4) (tgt := 10) hF xd_PD_needNode_1 (by decide) rfl (fun e1 => ?_) (fun e1 => ?_)
  · exact xt_throwG hF hT (is := 184) (text := "no such node") (by decide) ⟨(Nat.le_of_ble_eq_true rfl), (Nat.le_of_ble_eq_true rfl)⟩ ⟨(Nat.le_of_ble_eq_true rfl), (Nat.le_of_ble_eq_true rfl)⟩ ⟨(Nat.le_of_ble_eq_true rfl), (Nat.le_of_ble_eq_true rfl)⟩ xd_PD_needNode_10 xd_PD_needNode_13 xd_PD_needNode_14 xd_PD_needNode_16 xd_PD_needNode_19
  · refine xv_iload_n (pc' := 5) (i := 0) hF xd_PD_needNode_4 rfl rfl rfl ?_
    refine xv_bipushN (pc' := 7) 32 hF xd_PD_needNode_5 (by decide +kernel) rfl ?_
    refine xv_icmp_lt (pc' := 10) (tgt := 20) hF xd_PD_needNode_7 (by decide) rfl (fun e2 => ?_) (fun e2 => ?_)
    · unfold x_in at hno
      rw [decide_eq_true (Int32.not_lt.mp e1), decide_eq_true e2] at hno
      cases hno
    · exact xt_throwG hF hT (is := 184) (text := "no such node") (by decide) ⟨(Nat.le_of_ble_eq_true rfl), (Nat.le_of_ble_eq_true rfl)⟩ ⟨(Nat.le_of_ble_eq_true rfl), (Nat.le_of_ble_eq_true rfl)⟩ ⟨(Nat.le_of_ble_eq_true rfl), (Nat.le_of_ble_eq_true rfl)⟩ xd_PD_needNode_10 xd_PD_needNode_13 xd_PD_needNode_14 xd_PD_needNode_16 xd_PD_needNode_19
set_option maxHeartbeats 4000000 in
set_option maxRecDepth 100000 in
theorem c_PD_needLabelT (K : xK) (n : Nat) (h : xH) (x : Int32) (hno : x_in x 8 = false) : XMT K xy_PD_needLabel xw_PD_needLabel (xrm 6 82 1 6) [.int x] n h xr_JG 1 6 := by
  refine xt_m (by decide +kernel) (Nat.le_of_ble_eq_true rfl) (fun G hF hT => ?_)
  refine xv_iload_n (pc' := 1) (i := 0) hF xd_PD_needLabel_0 rfl rfl rfl ?_
  refine xv_if_lt (pc' := 4) (tgt := 10) hF xd_PD_needLabel_1 (by decide) rfl (fun e1 => ?_) (fun e1 => ?_)
  · exact xt_throwG hF hT (is := 186) (text := "no such label") (by decide) ⟨(Nat.le_of_ble_eq_true rfl), (Nat.le_of_ble_eq_true rfl)⟩ ⟨(Nat.le_of_ble_eq_true rfl), (Nat.le_of_ble_eq_true rfl)⟩ ⟨(Nat.le_of_ble_eq_true rfl), (Nat.le_of_ble_eq_true rfl)⟩ xd_PD_needLabel_10 xd_PD_needLabel_13 xd_PD_needLabel_14 xd_PD_needLabel_16 xd_PD_needLabel_19
  · refine xv_iload_n (pc' := 5) (i := 0) hF xd_PD_needLabel_4 rfl rfl rfl ?_
    refine xv_bipushN (pc' := 7) 8 hF xd_PD_needLabel_5 (by decide +kernel) rfl ?_
    refine xv_icmp_lt (pc' := 10) (tgt := 20) hF xd_PD_needLabel_7 (by decide) rfl (fun e2 => ?_) (fun e2 => ?_)
    · unfold x_in at hno
      rw [decide_eq_true (Int32.not_lt.mp e1), decide_eq_true e2] at hno
      cases hno
    · exact xt_throwG hF hT (is := 186) (text := "no such label") (by decide) ⟨(Nat.le_of_ble_eq_true rfl), (Nat.le_of_ble_eq_true rfl)⟩ ⟨(Nat.le_of_ble_eq_true rfl), (Nat.le_of_ble_eq_true rfl)⟩ ⟨(Nat.le_of_ble_eq_true rfl), (Nat.le_of_ble_eq_true rfl)⟩ xd_PD_needLabel_10 xd_PD_needLabel_13 xd_PD_needLabel_14 xd_PD_needLabel_16 xd_PD_needLabel_19
set_option maxHeartbeats 4000000 in
set_option maxRecDepth 100000 in
theorem c_PD_needSlotT (K : xK) (n : Nat) (h : xH) (x : Int32) (hno : x_in x 4 = false) : XMT K xy_PD_needSlot xw_PD_needSlot (xrm 6 82 1 6) [.int x] n h xr_JX 1 6 := by
  refine xt_m (by decide +kernel) (Nat.le_of_ble_eq_true rfl) (fun G hF hT => ?_)
  refine xv_iload_n (pc' := 1) (i := 0) hF xd_PD_needSlot_0 rfl rfl rfl ?_
  refine xv_if_lt (pc' := 4) (tgt := 9) hF xd_PD_needSlot_1 (by decide) rfl (fun e1 => ?_) (fun e1 => ?_)
  · exact xt_throwX hF hT (is := 181) (text := "no such slot") (by decide) ⟨(Nat.le_of_ble_eq_true rfl), (Nat.le_of_ble_eq_true rfl)⟩ ⟨(Nat.le_of_ble_eq_true rfl), (Nat.le_of_ble_eq_true rfl)⟩ ⟨(Nat.le_of_ble_eq_true rfl), (Nat.le_of_ble_eq_true rfl)⟩ xd_PD_needSlot_9 xd_PD_needSlot_12 xd_PD_needSlot_13 xd_PD_needSlot_15 xd_PD_needSlot_18
  · refine xv_iload_n (pc' := 5) (i := 0) hF xd_PD_needSlot_4 rfl rfl rfl ?_
    refine xv_iconstN (pc' := 6) 4 hF xd_PD_needSlot_5 (by decide +kernel) rfl ?_
    refine xv_icmp_lt (pc' := 9) (tgt := 19) hF xd_PD_needSlot_6 (by decide) rfl (fun e2 => ?_) (fun e2 => ?_)
    · unfold x_in at hno
      rw [decide_eq_true (Int32.not_lt.mp e1), decide_eq_true e2] at hno
      cases hno
    · exact xt_throwX hF hT (is := 181) (text := "no such slot") (by decide) ⟨(Nat.le_of_ble_eq_true rfl), (Nat.le_of_ble_eq_true rfl)⟩ ⟨(Nat.le_of_ble_eq_true rfl), (Nat.le_of_ble_eq_true rfl)⟩ ⟨(Nat.le_of_ble_eq_true rfl), (Nat.le_of_ble_eq_true rfl)⟩ xd_PD_needSlot_9 xd_PD_needSlot_12 xd_PD_needSlot_13 xd_PD_needSlot_15 xd_PD_needSlot_18
set_option maxHeartbeats 4000000 in
set_option maxRecDepth 100000 in
theorem c_PD_edgeT (K : xK) (n : Nat) (h : xH) (o : Nat) (x y z : Int32) (hno : ((x_in x 32 && x_in y 8) && x_in z 32) = false) : XMT K xy_PD_edge xw_PD_edge (xrm 7 102 1 6) [.ref o, .int x, .int y, .int z] n h xr_JG 1 6 := by
  refine xt_m (by decide +kernel) (Nat.le_of_ble_eq_true rfl) (fun G hF hT => ?_)
  refine xv_iload_n (pc' := 1) (i := 1) hF xd_PD_edge_0 rfl rfl rfl ?_
  cases hx0 : x_in x 32 with
  | false => exact xt_callS (idx := 56) hF hT (c_PD_needNodeT K n h x hx0) xq_PD_needNode xk_PD_m56 xk_t_PD_needNode ⟨(Nat.le_of_ble_eq_true rfl), (Nat.le_of_ble_eq_true rfl)⟩ rfl rfl (Nat.le_of_ble_eq_true rfl) ⟨(Nat.le_of_ble_eq_true rfl), (Nat.le_of_ble_eq_true rfl)⟩ ⟨(Nat.le_of_ble_eq_true rfl), (Nat.le_of_ble_eq_true rfl)⟩ xd_PD_edge_1
  | true =>
    rw [hx0] at hno
    obtain ⟨i, hi, rfl⟩ := x_in_of (by decide) hx0
    refine xv_callSv (pc' := 4) hF (c_PD_needNode K n h i hi) xq_PD_needNode xk_PD_m56 xk_t_PD_needNode ⟨(Nat.le_of_ble_eq_true rfl), (Nat.le_of_ble_eq_true rfl)⟩ rfl rfl (Nat.le_of_ble_eq_true rfl) ⟨(Nat.le_of_ble_eq_true rfl), (Nat.le_of_ble_eq_true rfl)⟩ xd_PD_edge_1 rfl (fun n1 h1 q1 => ?_)
    obtain ⟨rfl, rfl⟩ := q1
    refine xv_iload_n (pc' := 5) (i := 2) hF xd_PD_edge_4 rfl rfl rfl ?_
    cases hx1 : x_in y 8 with
    | false => exact xt_callS (idx := 60) hF hT (c_PD_needLabelT K n h y hx1) xq_PD_needLabel xk_PD_m60 xk_t_PD_needLabel ⟨(Nat.le_of_ble_eq_true rfl), (Nat.le_of_ble_eq_true rfl)⟩ rfl rfl (Nat.le_of_ble_eq_true rfl) ⟨(Nat.le_of_ble_eq_true rfl), (Nat.le_of_ble_eq_true rfl)⟩ ⟨(Nat.le_of_ble_eq_true rfl), (Nat.le_of_ble_eq_true rfl)⟩ xd_PD_edge_5
    | true =>
      rw [hx1] at hno
      obtain ⟨j, hj, rfl⟩ := x_in_of (by decide) hx1
      refine xv_callSv (pc' := 8) hF (c_PD_needLabel K n h j hj) xq_PD_needLabel xk_PD_m60 xk_t_PD_needLabel ⟨(Nat.le_of_ble_eq_true rfl), (Nat.le_of_ble_eq_true rfl)⟩ rfl rfl (Nat.le_of_ble_eq_true rfl) ⟨(Nat.le_of_ble_eq_true rfl), (Nat.le_of_ble_eq_true rfl)⟩ xd_PD_edge_5 rfl (fun n1 h1 q1 => ?_)
      obtain ⟨rfl, rfl⟩ := q1
      refine xv_iload_n (pc' := 9) (i := 3) hF xd_PD_edge_8 rfl rfl rfl ?_
      cases hx2 : x_in z 32 with
      | false => exact xt_callS (idx := 56) hF hT (c_PD_needNodeT K n h z hx2) xq_PD_needNode xk_PD_m56 xk_t_PD_needNode ⟨(Nat.le_of_ble_eq_true rfl), (Nat.le_of_ble_eq_true rfl)⟩ rfl rfl (Nat.le_of_ble_eq_true rfl) ⟨(Nat.le_of_ble_eq_true rfl), (Nat.le_of_ble_eq_true rfl)⟩ ⟨(Nat.le_of_ble_eq_true rfl), (Nat.le_of_ble_eq_true rfl)⟩ xd_PD_edge_9
      | true =>
        rw [hx2] at hno
        obtain ⟨l, hl, rfl⟩ := x_in_of (by decide) hx2
        refine xv_callSv (pc' := 12) hF (c_PD_needNode K n h l hl) xq_PD_needNode xk_PD_m56 xk_t_PD_needNode ⟨(Nat.le_of_ble_eq_true rfl), (Nat.le_of_ble_eq_true rfl)⟩ rfl rfl (Nat.le_of_ble_eq_true rfl) ⟨(Nat.le_of_ble_eq_true rfl), (Nat.le_of_ble_eq_true rfl)⟩ xd_PD_edge_9 rfl (fun n1 h1 q1 => ?_)
        obtain ⟨rfl, rfl⟩ := q1
        cases hno
set_option maxHeartbeats 4000000 in
set_option maxRecDepth 100000 in
theorem c_PD_cutT (K : xK) (n : Nat) (h : xH) (o : Nat) (x y z : Int32) (hno : ((x_in x 32 && x_in y 8) && x_in z 32) = false) : XMT K xy_PD_cut xw_PD_cut (xrm 7 102 1 6) [.ref o, .int x, .int y, .int z] n h xr_JG 1 6 := by
  refine xt_m (by decide +kernel) (Nat.le_of_ble_eq_true rfl) (fun G hF hT => ?_)
  refine xv_iload_n (pc' := 1) (i := 1) hF xd_PD_cut_0 rfl rfl rfl ?_
  cases hx0 : x_in x 32 with
  | false => exact xt_callS (idx := 56) hF hT (c_PD_needNodeT K n h x hx0) xq_PD_needNode xk_PD_m56 xk_t_PD_needNode ⟨(Nat.le_of_ble_eq_true rfl), (Nat.le_of_ble_eq_true rfl)⟩ rfl rfl (Nat.le_of_ble_eq_true rfl) ⟨(Nat.le_of_ble_eq_true rfl), (Nat.le_of_ble_eq_true rfl)⟩ ⟨(Nat.le_of_ble_eq_true rfl), (Nat.le_of_ble_eq_true rfl)⟩ xd_PD_cut_1
  | true =>
    rw [hx0] at hno
    obtain ⟨i, hi, rfl⟩ := x_in_of (by decide) hx0
    refine xv_callSv (pc' := 4) hF (c_PD_needNode K n h i hi) xq_PD_needNode xk_PD_m56 xk_t_PD_needNode ⟨(Nat.le_of_ble_eq_true rfl), (Nat.le_of_ble_eq_true rfl)⟩ rfl rfl (Nat.le_of_ble_eq_true rfl) ⟨(Nat.le_of_ble_eq_true rfl), (Nat.le_of_ble_eq_true rfl)⟩ xd_PD_cut_1 rfl (fun n1 h1 q1 => ?_)
    obtain ⟨rfl, rfl⟩ := q1
    refine xv_iload_n (pc' := 5) (i := 2) hF xd_PD_cut_4 rfl rfl rfl ?_
    cases hx1 : x_in y 8 with
    | false => exact xt_callS (idx := 60) hF hT (c_PD_needLabelT K n h y hx1) xq_PD_needLabel xk_PD_m60 xk_t_PD_needLabel ⟨(Nat.le_of_ble_eq_true rfl), (Nat.le_of_ble_eq_true rfl)⟩ rfl rfl (Nat.le_of_ble_eq_true rfl) ⟨(Nat.le_of_ble_eq_true rfl), (Nat.le_of_ble_eq_true rfl)⟩ ⟨(Nat.le_of_ble_eq_true rfl), (Nat.le_of_ble_eq_true rfl)⟩ xd_PD_cut_5
    | true =>
      rw [hx1] at hno
      obtain ⟨j, hj, rfl⟩ := x_in_of (by decide) hx1
      refine xv_callSv (pc' := 8) hF (c_PD_needLabel K n h j hj) xq_PD_needLabel xk_PD_m60 xk_t_PD_needLabel ⟨(Nat.le_of_ble_eq_true rfl), (Nat.le_of_ble_eq_true rfl)⟩ rfl rfl (Nat.le_of_ble_eq_true rfl) ⟨(Nat.le_of_ble_eq_true rfl), (Nat.le_of_ble_eq_true rfl)⟩ xd_PD_cut_5 rfl (fun n1 h1 q1 => ?_)
      obtain ⟨rfl, rfl⟩ := q1
      refine xv_iload_n (pc' := 9) (i := 3) hF xd_PD_cut_8 rfl rfl rfl ?_
      cases hx2 : x_in z 32 with
      | false => exact xt_callS (idx := 56) hF hT (c_PD_needNodeT K n h z hx2) xq_PD_needNode xk_PD_m56 xk_t_PD_needNode ⟨(Nat.le_of_ble_eq_true rfl), (Nat.le_of_ble_eq_true rfl)⟩ rfl rfl (Nat.le_of_ble_eq_true rfl) ⟨(Nat.le_of_ble_eq_true rfl), (Nat.le_of_ble_eq_true rfl)⟩ ⟨(Nat.le_of_ble_eq_true rfl), (Nat.le_of_ble_eq_true rfl)⟩ xd_PD_cut_9
      | true =>
        rw [hx2] at hno
        obtain ⟨l, hl, rfl⟩ := x_in_of (by decide) hx2
        refine xv_callSv (pc' := 12) hF (c_PD_needNode K n h l hl) xq_PD_needNode xk_PD_m56 xk_t_PD_needNode ⟨(Nat.le_of_ble_eq_true rfl), (Nat.le_of_ble_eq_true rfl)⟩ rfl rfl (Nat.le_of_ble_eq_true rfl) ⟨(Nat.le_of_ble_eq_true rfl), (Nat.le_of_ble_eq_true rfl)⟩ xd_PD_cut_9 rfl (fun n1 h1 q1 => ?_)
        obtain ⟨rfl, rfl⟩ := q1
        cases hno
set_option maxHeartbeats 4000000 in
set_option maxRecDepth 100000 in
theorem c_PD_tagT (K : xK) (n : Nat) (h : xH) (o : Nat) (x y z : Int32) (hno : (x_in x 32 && x_in y 4) = false) : XMT K xy_PD_tag xw_PD_tag (xrm 7 102 1 6) [.ref o, .int x, .int y, .int z] n h xr_JG 1 6 := by
  refine xt_m (by decide +kernel) (Nat.le_of_ble_eq_true rfl) (fun G hF hT => ?_)
  refine xv_iload_n (pc' := 1) (i := 1) hF xd_PD_tag_0 rfl rfl rfl ?_
  cases hx0 : x_in x 32 with
  | false => exact xt_callS (idx := 56) hF hT (c_PD_needNodeT K n h x hx0) xq_PD_needNode xk_PD_m56 xk_t_PD_needNode ⟨(Nat.le_of_ble_eq_true rfl), (Nat.le_of_ble_eq_true rfl)⟩ rfl rfl (Nat.le_of_ble_eq_true rfl) ⟨(Nat.le_of_ble_eq_true rfl), (Nat.le_of_ble_eq_true rfl)⟩ ⟨(Nat.le_of_ble_eq_true rfl), (Nat.le_of_ble_eq_true rfl)⟩ xd_PD_tag_1
  | true =>
    rw [hx0] at hno
    obtain ⟨i, hi, rfl⟩ := x_in_of (by decide) hx0
    refine xv_callSv (pc' := 4) hF (c_PD_needNode K n h i hi) xq_PD_needNode xk_PD_m56 xk_t_PD_needNode ⟨(Nat.le_of_ble_eq_true rfl), (Nat.le_of_ble_eq_true rfl)⟩ rfl rfl (Nat.le_of_ble_eq_true rfl) ⟨(Nat.le_of_ble_eq_true rfl), (Nat.le_of_ble_eq_true rfl)⟩ xd_PD_tag_1 rfl (fun n1 h1 q1 => ?_)
    obtain ⟨rfl, rfl⟩ := q1
    refine xv_iload_n (pc' := 5) (i := 2) hF xd_PD_tag_4 rfl rfl rfl ?_
    refine xv_if_lt (pc' := 8) (tgt := 13) hF xd_PD_tag_5 (by decide) rfl (fun e1 => ?_) (fun e1 => ?_)
    · exact xt_throwG hF hT (is := 82) (text := "no such tag") (by decide) ⟨(Nat.le_of_ble_eq_true rfl), (Nat.le_of_ble_eq_true rfl)⟩ ⟨(Nat.le_of_ble_eq_true rfl), (Nat.le_of_ble_eq_true rfl)⟩ ⟨(Nat.le_of_ble_eq_true rfl), (Nat.le_of_ble_eq_true rfl)⟩ xd_PD_tag_13 xd_PD_tag_16 xd_PD_tag_17 xd_PD_tag_19 xd_PD_tag_22
    · refine xv_iload_n (pc' := 9) (i := 2) hF xd_PD_tag_8 rfl rfl rfl ?_
      refine xv_iconstN (pc' := 10) 4 hF xd_PD_tag_9 (by decide +kernel) rfl ?_
      refine xv_icmp_lt (pc' := 13) (tgt := 23) hF xd_PD_tag_10 (by decide) rfl (fun e2 => ?_) (fun e2 => ?_)
      · rw [Bool.true_and] at hno
        unfold x_in at hno
        rw [decide_eq_true (Int32.not_lt.mp e1), decide_eq_true e2] at hno
        cases hno
      · exact xt_throwG hF hT (is := 82) (text := "no such tag") (by decide) ⟨(Nat.le_of_ble_eq_true rfl), (Nat.le_of_ble_eq_true rfl)⟩ ⟨(Nat.le_of_ble_eq_true rfl), (Nat.le_of_ble_eq_true rfl)⟩ ⟨(Nat.le_of_ble_eq_true rfl), (Nat.le_of_ble_eq_true rfl)⟩ xd_PD_tag_13 xd_PD_tag_16 xd_PD_tag_17 xd_PD_tag_19 xd_PD_tag_22
set_option maxHeartbeats 4000000 in
set_option maxRecDepth 100000 in
theorem c_PD_feedT (K : xK) (n : Nat) (h : xH) (o : Nat) (v : Int64) (x : Int32) (hno : x < nI 1 ∨ nI 8 < x) : XMT K xy_PD_feed xw_PD_feed (xrm 7 102 1 6) [.ref o, .long v, .int x] n h xr_JG 1 6 := by
  refine xt_m (by decide +kernel) (Nat.le_of_ble_eq_true rfl) (fun G hF hT => ?_)
  refine xv_iload_n (pc' := 1) (i := 3) hF xd_PD_feed_0 rfl rfl rfl ?_
  refine xv_iconstN (pc' := 2) 1 hF xd_PD_feed_1 (by decide +kernel) rfl ?_
  refine xv_icmp_lt (pc' := 5) (tgt := 11) hF xd_PD_feed_2 (by decide) rfl (fun e1 => ?_) (fun e1 => ?_)
  · exact xt_throwG hF hT (is := 91) (text := "n is not 1 .. 8") (by decide) ⟨(Nat.le_of_ble_eq_true rfl), (Nat.le_of_ble_eq_true rfl)⟩ ⟨(Nat.le_of_ble_eq_true rfl), (Nat.le_of_ble_eq_true rfl)⟩ ⟨(Nat.le_of_ble_eq_true rfl), (Nat.le_of_ble_eq_true rfl)⟩ xd_PD_feed_11 xd_PD_feed_14 xd_PD_feed_15 xd_PD_feed_17 xd_PD_feed_20
  · refine xv_iload_n (pc' := 6) (i := 3) hF xd_PD_feed_5 rfl rfl rfl ?_
    refine xv_bipushN (pc' := 8) 8 hF xd_PD_feed_6 (by decide +kernel) rfl ?_
    refine xv_icmp_le (pc' := 11) (tgt := 21) hF xd_PD_feed_8 (by decide) rfl (fun e2 => ?_) (fun e2 => ?_)
    · exact (hno.elim e1 (fun c => (Int32.not_lt.mpr e2) c)).elim
    · exact xt_throwG hF hT (is := 91) (text := "n is not 1 .. 8") (by decide) ⟨(Nat.le_of_ble_eq_true rfl), (Nat.le_of_ble_eq_true rfl)⟩ ⟨(Nat.le_of_ble_eq_true rfl), (Nat.le_of_ble_eq_true rfl)⟩ ⟨(Nat.le_of_ble_eq_true rfl), (Nat.le_of_ble_eq_true rfl)⟩ xd_PD_feed_11 xd_PD_feed_14 xd_PD_feed_15 xd_PD_feed_17 xd_PD_feed_20
set_option maxHeartbeats 4000000 in
set_option maxRecDepth 100000 in
theorem c_PD_loadT (K : xK) (n : Nat) (h : xH) (o : Nat) (x : Int32) (hno : x_in x 4 = false) : XMT K xy_PD_load xw_PD_load (xrm 7 102 1 6) [.ref o, .int x] n h xr_JX 1 6 := by
  refine xt_m (by decide +kernel) (Nat.le_of_ble_eq_true rfl) (fun G hF hT => ?_)
  refine xv_iload_n (pc' := 1) (i := 1) hF xd_PD_load_0 rfl rfl rfl ?_
  exact xt_callS (idx := 93) hF hT (c_PD_needSlotT K n h x hno) xq_PD_needSlot xk_PD_m93 xk_t_PD_needSlot ⟨(Nat.le_of_ble_eq_true rfl), (Nat.le_of_ble_eq_true rfl)⟩ rfl rfl (Nat.le_of_ble_eq_true rfl) ⟨(Nat.le_of_ble_eq_true rfl), (Nat.le_of_ble_eq_true rfl)⟩ ⟨(Nat.le_of_ble_eq_true rfl), (Nat.le_of_ble_eq_true rfl)⟩ xd_PD_load_1
set_option maxHeartbeats 4000000 in
set_option maxRecDepth 100000 in
theorem c_PD_spanT (K : xK) (n : Nat) (h : xH) (o : Nat) (x : Int32) (hno : x_in x 4 = false) : XMT K xy_PD_span xw_PD_span (xrm 7 102 1 6) [.ref o, .int x] n h xr_JX 1 6 := by
  refine xt_m (by decide +kernel) (Nat.le_of_ble_eq_true rfl) (fun G hF hT => ?_)
  refine xv_iload_n (pc' := 1) (i := 1) hF xd_PD_span_0 rfl rfl rfl ?_
  exact xt_callS (idx := 93) hF hT (c_PD_needSlotT K n h x hno) xq_PD_needSlot xk_PD_m93 xk_t_PD_needSlot ⟨(Nat.le_of_ble_eq_true rfl), (Nat.le_of_ble_eq_true rfl)⟩ rfl rfl (Nat.le_of_ble_eq_true rfl) ⟨(Nat.le_of_ble_eq_true rfl), (Nat.le_of_ble_eq_true rfl)⟩ ⟨(Nat.le_of_ble_eq_true rfl), (Nat.le_of_ble_eq_true rfl)⟩ xd_PD_span_1
set_option maxHeartbeats 4000000 in
set_option maxRecDepth 100000 in
theorem c_PD_circleT (K : xK) (n : Nat) (h : xH) (o : Nat) (x : Int32) (hno : x_in x 4 = false) : XMT K xy_PD_circle xw_PD_circle (xrm 7 102 1 6) [.ref o, .int x] n h xr_JX 1 6 := by
  refine xt_m (by decide +kernel) (Nat.le_of_ble_eq_true rfl) (fun G hF hT => ?_)
  refine xv_iload_n (pc' := 1) (i := 1) hF xd_PD_circle_0 rfl rfl rfl ?_
  exact xt_callS (idx := 93) hF hT (c_PD_needSlotT K n h x hno) xq_PD_needSlot xk_PD_m93 xk_t_PD_needSlot ⟨(Nat.le_of_ble_eq_true rfl), (Nat.le_of_ble_eq_true rfl)⟩ rfl rfl (Nat.le_of_ble_eq_true rfl) ⟨(Nat.le_of_ble_eq_true rfl), (Nat.le_of_ble_eq_true rfl)⟩ ⟨(Nat.le_of_ble_eq_true rfl), (Nat.le_of_ble_eq_true rfl)⟩ xd_PD_circle_1
set_option maxHeartbeats 4000000 in
set_option maxRecDepth 100000 in
theorem c_PD_bestT (K : xK) (n : Nat) (h : xH) (o : Nat) (x : Int32) (hno : x_in x 4 = false) : XMT K xy_PD_best xw_PD_best (xrm 7 102 1 6) [.ref o, .int x] n h xr_JX 1 6 := by
  refine xt_m (by decide +kernel) (Nat.le_of_ble_eq_true rfl) (fun G hF hT => ?_)
  refine xv_iload_n (pc' := 1) (i := 1) hF xd_PD_best_0 rfl rfl rfl ?_
  exact xt_callS (idx := 93) hF hT (c_PD_needSlotT K n h x hno) xq_PD_needSlot xk_PD_m93 xk_t_PD_needSlot ⟨(Nat.le_of_ble_eq_true rfl), (Nat.le_of_ble_eq_true rfl)⟩ rfl rfl (Nat.le_of_ble_eq_true rfl) ⟨(Nat.le_of_ble_eq_true rfl), (Nat.le_of_ble_eq_true rfl)⟩ ⟨(Nat.le_of_ble_eq_true rfl), (Nat.le_of_ble_eq_true rfl)⟩ xd_PD_best_1
set_option maxHeartbeats 4000000 in
set_option maxRecDepth 100000 in
theorem c_PD_reachT1 (K : xK) (n : Nat) (h : xH) (o : Nat) (x y z : Int32) (hno : x_in x 4 = false) : XMT K xy_PD_reach xw_PD_reach (xrm 7 102 1 6) [.ref o, .int x, .int y, .int z] n h xr_JX 1 6 := by
  refine xt_m (by decide +kernel) (Nat.le_of_ble_eq_true rfl) (fun G hF hT => ?_)
  refine xv_iload_n (pc' := 1) (i := 1) hF xd_PD_reach_0 rfl rfl rfl ?_
  exact xt_callS (idx := 93) hF hT (c_PD_needSlotT K n h x hno) xq_PD_needSlot xk_PD_m93 xk_t_PD_needSlot ⟨(Nat.le_of_ble_eq_true rfl), (Nat.le_of_ble_eq_true rfl)⟩ rfl rfl (Nat.le_of_ble_eq_true rfl) ⟨(Nat.le_of_ble_eq_true rfl), (Nat.le_of_ble_eq_true rfl)⟩ ⟨(Nat.le_of_ble_eq_true rfl), (Nat.le_of_ble_eq_true rfl)⟩ xd_PD_reach_1
set_option maxHeartbeats 4000000 in
set_option maxRecDepth 100000 in
theorem c_PD_distanceT1 (K : xK) (n : Nat) (h : xH) (o : Nat) (x y z : Int32) (hno : x_in x 4 = false) : XMT K xy_PD_distance xw_PD_distance (xrm 7 102 1 6) [.ref o, .int x, .int y, .int z] n h xr_JX 1 6 := by
  refine xt_m (by decide +kernel) (Nat.le_of_ble_eq_true rfl) (fun G hF hT => ?_)
  refine xv_iload_n (pc' := 1) (i := 1) hF xd_PD_distance_0 rfl rfl rfl ?_
  exact xt_callS (idx := 93) hF hT (c_PD_needSlotT K n h x hno) xq_PD_needSlot xk_PD_m93 xk_t_PD_needSlot ⟨(Nat.le_of_ble_eq_true rfl), (Nat.le_of_ble_eq_true rfl)⟩ rfl rfl (Nat.le_of_ble_eq_true rfl) ⟨(Nat.le_of_ble_eq_true rfl), (Nat.le_of_ble_eq_true rfl)⟩ ⟨(Nat.le_of_ble_eq_true rfl), (Nat.le_of_ble_eq_true rfl)⟩ xd_PD_distance_1
set_option maxHeartbeats 4000000 in
set_option maxRecDepth 100000 in
theorem c_PD_reachT2 (K : xK) (n : Nat) (h : xH) (o s : Nat) (y z : Int32) (hs : s < 4) (hno : x_in y 32 = false) : XMT K xy_PD_reach xw_PD_reach (xrm 7 102 1 6) [.ref o, .int (nI s), .int y, .int z] n h xr_JG 1 6 := by
  refine xt_m (by decide +kernel) (Nat.le_of_ble_eq_true rfl) (fun G hF hT => ?_)
  refine xv_iload_n (pc' := 1) (i := 1) hF xd_PD_reach_0 rfl rfl rfl ?_
  refine xv_callSv (pc' := 4) hF (c_PD_needSlot K n h s hs) xq_PD_needSlot xk_PD_m93 xk_t_PD_needSlot ⟨(Nat.le_of_ble_eq_true rfl), (Nat.le_of_ble_eq_true rfl)⟩ rfl rfl (Nat.le_of_ble_eq_true rfl) ⟨(Nat.le_of_ble_eq_true rfl), (Nat.le_of_ble_eq_true rfl)⟩ xd_PD_reach_1 rfl (fun n1 h1 q1 => ?_)
  obtain ⟨rfl, rfl⟩ := q1
  refine xv_iload_n (pc' := 5) (i := 2) hF xd_PD_reach_4 rfl rfl rfl ?_
  exact xt_callS (idx := 56) hF hT (c_PD_needNodeT K n h y hno) xq_PD_needNode xk_PD_m56 xk_t_PD_needNode ⟨(Nat.le_of_ble_eq_true rfl), (Nat.le_of_ble_eq_true rfl)⟩ rfl rfl (Nat.le_of_ble_eq_true rfl) ⟨(Nat.le_of_ble_eq_true rfl), (Nat.le_of_ble_eq_true rfl)⟩ ⟨(Nat.le_of_ble_eq_true rfl), (Nat.le_of_ble_eq_true rfl)⟩ xd_PD_reach_5
set_option maxHeartbeats 4000000 in
set_option maxRecDepth 100000 in
theorem c_PD_distanceT2 (K : xK) (n : Nat) (h : xH) (o s : Nat) (y z : Int32) (hs : s < 4) (hno : (x_in y 32 && x_in z 32) = false) : XMT K xy_PD_distance xw_PD_distance (xrm 7 102 1 6) [.ref o, .int (nI s), .int y, .int z] n h xr_JG 1 6 := by
  refine xt_m (by decide +kernel) (Nat.le_of_ble_eq_true rfl) (fun G hF hT => ?_)
  refine xv_iload_n (pc' := 1) (i := 1) hF xd_PD_distance_0 rfl rfl rfl ?_
  refine xv_callSv (pc' := 4) hF (c_PD_needSlot K n h s hs) xq_PD_needSlot xk_PD_m93 xk_t_PD_needSlot ⟨(Nat.le_of_ble_eq_true rfl), (Nat.le_of_ble_eq_true rfl)⟩ rfl rfl (Nat.le_of_ble_eq_true rfl) ⟨(Nat.le_of_ble_eq_true rfl), (Nat.le_of_ble_eq_true rfl)⟩ xd_PD_distance_1 rfl (fun n1 h1 q1 => ?_)
  obtain ⟨rfl, rfl⟩ := q1
  refine xv_iload_n (pc' := 5) (i := 2) hF xd_PD_distance_4 rfl rfl rfl ?_
  cases hx0 : x_in y 32 with
  | false => exact xt_callS (idx := 56) hF hT (c_PD_needNodeT K n h y hx0) xq_PD_needNode xk_PD_m56 xk_t_PD_needNode ⟨(Nat.le_of_ble_eq_true rfl), (Nat.le_of_ble_eq_true rfl)⟩ rfl rfl (Nat.le_of_ble_eq_true rfl) ⟨(Nat.le_of_ble_eq_true rfl), (Nat.le_of_ble_eq_true rfl)⟩ ⟨(Nat.le_of_ble_eq_true rfl), (Nat.le_of_ble_eq_true rfl)⟩ xd_PD_distance_5
  | true =>
    rw [hx0] at hno
    obtain ⟨j, hj, rfl⟩ := x_in_of (by decide) hx0
    refine xv_callSv (pc' := 8) hF (c_PD_needNode K n h j hj) xq_PD_needNode xk_PD_m56 xk_t_PD_needNode ⟨(Nat.le_of_ble_eq_true rfl), (Nat.le_of_ble_eq_true rfl)⟩ rfl rfl (Nat.le_of_ble_eq_true rfl) ⟨(Nat.le_of_ble_eq_true rfl), (Nat.le_of_ble_eq_true rfl)⟩ xd_PD_distance_5 rfl (fun n1 h1 q1 => ?_)
    obtain ⟨rfl, rfl⟩ := q1
    refine xv_iload_n (pc' := 9) (i := 3) hF xd_PD_distance_8 rfl rfl rfl ?_
    cases hx1 : x_in z 32 with
    | false => exact xt_callS (idx := 56) hF hT (c_PD_needNodeT K n h z hx1) xq_PD_needNode xk_PD_m56 xk_t_PD_needNode ⟨(Nat.le_of_ble_eq_true rfl), (Nat.le_of_ble_eq_true rfl)⟩ rfl rfl (Nat.le_of_ble_eq_true rfl) ⟨(Nat.le_of_ble_eq_true rfl), (Nat.le_of_ble_eq_true rfl)⟩ ⟨(Nat.le_of_ble_eq_true rfl), (Nat.le_of_ble_eq_true rfl)⟩ xd_PD_distance_9
    | true =>
      rw [hx1] at hno
      obtain ⟨l, hl, rfl⟩ := x_in_of (by decide) hx1
      refine xv_callSv (pc' := 12) hF (c_PD_needNode K n h l hl) xq_PD_needNode xk_PD_m56 xk_t_PD_needNode ⟨(Nat.le_of_ble_eq_true rfl), (Nat.le_of_ble_eq_true rfl)⟩ rfl rfl (Nat.le_of_ble_eq_true rfl) ⟨(Nat.le_of_ble_eq_true rfl), (Nat.le_of_ble_eq_true rfl)⟩ xd_PD_distance_9 rfl (fun n1 h1 q1 => ?_)
      obtain ⟨rfl, rfl⟩ := q1
      cases hno
set_option maxHeartbeats 4000000 in
set_option maxRecDepth 100000 in
theorem c_PD_pairsT1 (K : xK) (n : Nat) (h : xH) (o : Nat) (x y z : Int32) (hno : (x_in x 4 && x_in y 4) = false) : XMT K xy_PD_pairs xw_PD_pairs (xrm 7 102 1 6) [.ref o, .int x, .int y, .int z] n h xr_JX 1 6 := by
  refine xt_m (by decide +kernel) (Nat.le_of_ble_eq_true rfl) (fun G hF hT => ?_)
  refine xv_iload_n (pc' := 1) (i := 1) hF xd_PD_pairs_0 rfl rfl rfl ?_
  cases hx0 : x_in x 4 with
  | false => exact xt_callS (idx := 93) hF hT (c_PD_needSlotT K n h x hx0) xq_PD_needSlot xk_PD_m93 xk_t_PD_needSlot ⟨(Nat.le_of_ble_eq_true rfl), (Nat.le_of_ble_eq_true rfl)⟩ rfl rfl (Nat.le_of_ble_eq_true rfl) ⟨(Nat.le_of_ble_eq_true rfl), (Nat.le_of_ble_eq_true rfl)⟩ ⟨(Nat.le_of_ble_eq_true rfl), (Nat.le_of_ble_eq_true rfl)⟩ xd_PD_pairs_1
  | true =>
    rw [hx0] at hno
    obtain ⟨i, hi, rfl⟩ := x_in_of (by decide) hx0
    refine xv_callSv (pc' := 4) hF (c_PD_needSlot K n h i hi) xq_PD_needSlot xk_PD_m93 xk_t_PD_needSlot ⟨(Nat.le_of_ble_eq_true rfl), (Nat.le_of_ble_eq_true rfl)⟩ rfl rfl (Nat.le_of_ble_eq_true rfl) ⟨(Nat.le_of_ble_eq_true rfl), (Nat.le_of_ble_eq_true rfl)⟩ xd_PD_pairs_1 rfl (fun n1 h1 q1 => ?_)
    obtain ⟨rfl, rfl⟩ := q1
    refine xv_iload_n (pc' := 5) (i := 2) hF xd_PD_pairs_4 rfl rfl rfl ?_
    cases hx1 : x_in y 4 with
    | false => exact xt_callS (idx := 93) hF hT (c_PD_needSlotT K n h y hx1) xq_PD_needSlot xk_PD_m93 xk_t_PD_needSlot ⟨(Nat.le_of_ble_eq_true rfl), (Nat.le_of_ble_eq_true rfl)⟩ rfl rfl (Nat.le_of_ble_eq_true rfl) ⟨(Nat.le_of_ble_eq_true rfl), (Nat.le_of_ble_eq_true rfl)⟩ ⟨(Nat.le_of_ble_eq_true rfl), (Nat.le_of_ble_eq_true rfl)⟩ xd_PD_pairs_5
    | true =>
      rw [hx1] at hno
      obtain ⟨j, hj, rfl⟩ := x_in_of (by decide) hx1
      refine xv_callSv (pc' := 8) hF (c_PD_needSlot K n h j hj) xq_PD_needSlot xk_PD_m93 xk_t_PD_needSlot ⟨(Nat.le_of_ble_eq_true rfl), (Nat.le_of_ble_eq_true rfl)⟩ rfl rfl (Nat.le_of_ble_eq_true rfl) ⟨(Nat.le_of_ble_eq_true rfl), (Nat.le_of_ble_eq_true rfl)⟩ xd_PD_pairs_5 rfl (fun n1 h1 q1 => ?_)
      obtain ⟨rfl, rfl⟩ := q1
      cases hno
set_option maxHeartbeats 4000000 in
set_option maxRecDepth 100000 in
theorem c_PD_pairsT2 (K : xK) (n : Nat) (h : xH) (o s t : Nat) (z : Int32) (hs : s < 4) (ht : t < 4) (hno : x_in z 5 = false) : XMT K xy_PD_pairs xw_PD_pairs (xrm 7 102 1 6) [.ref o, .int (nI s), .int (nI t), .int z] n h xr_JG 1 6 := by
  refine xt_m (by decide +kernel) (Nat.le_of_ble_eq_true rfl) (fun G hF hT => ?_)
  refine xv_iload_n (pc' := 1) (i := 1) hF xd_PD_pairs_0 rfl rfl rfl ?_
  refine xv_callSv (pc' := 4) hF (c_PD_needSlot K n h s hs) xq_PD_needSlot xk_PD_m93 xk_t_PD_needSlot ⟨(Nat.le_of_ble_eq_true rfl), (Nat.le_of_ble_eq_true rfl)⟩ rfl rfl (Nat.le_of_ble_eq_true rfl) ⟨(Nat.le_of_ble_eq_true rfl), (Nat.le_of_ble_eq_true rfl)⟩ xd_PD_pairs_1 rfl (fun n1 h1 q1 => ?_)
  obtain ⟨rfl, rfl⟩ := q1
  refine xv_iload_n (pc' := 5) (i := 2) hF xd_PD_pairs_4 rfl rfl rfl ?_
  refine xv_callSv (pc' := 8) hF (c_PD_needSlot K n h t ht) xq_PD_needSlot xk_PD_m93 xk_t_PD_needSlot ⟨(Nat.le_of_ble_eq_true rfl), (Nat.le_of_ble_eq_true rfl)⟩ rfl rfl (Nat.le_of_ble_eq_true rfl) ⟨(Nat.le_of_ble_eq_true rfl), (Nat.le_of_ble_eq_true rfl)⟩ xd_PD_pairs_5 rfl (fun n1 h1 q1 => ?_)
  obtain ⟨rfl, rfl⟩ := q1
  refine xv_iload_n (pc' := 9) (i := 3) hF xd_PD_pairs_8 rfl rfl rfl ?_
  refine xv_if_lt (pc' := 12) (tgt := 17) hF xd_PD_pairs_9 (by decide) rfl (fun e1 => ?_) (fun e1 => ?_)
  · exact xt_throwG hF hT (is := 125) (text := "how is not 0 .. 4") (by decide) ⟨(Nat.le_of_ble_eq_true rfl), (Nat.le_of_ble_eq_true rfl)⟩ ⟨(Nat.le_of_ble_eq_true rfl), (Nat.le_of_ble_eq_true rfl)⟩ ⟨(Nat.le_of_ble_eq_true rfl), (Nat.le_of_ble_eq_true rfl)⟩ xd_PD_pairs_17 xd_PD_pairs_20 xd_PD_pairs_21 xd_PD_pairs_23 xd_PD_pairs_26
  · refine xv_iload_n (pc' := 13) (i := 3) hF xd_PD_pairs_12 rfl rfl rfl ?_
    refine xv_iconstN (pc' := 14) 4 hF xd_PD_pairs_13 (by decide +kernel) rfl ?_
    refine xv_icmp_le (pc' := 17) (tgt := 27) hF xd_PD_pairs_14 (by decide) rfl (fun e2 => ?_) (fun e2 => ?_)
    · unfold x_in at hno
      rw [decide_eq_true (Int32.not_lt.mp e1), decide_eq_true (xz_lt5 e2)] at hno
      cases hno
    · exact xt_throwG hF hT (is := 125) (text := "how is not 0 .. 4") (by decide) ⟨(Nat.le_of_ble_eq_true rfl), (Nat.le_of_ble_eq_true rfl)⟩ ⟨(Nat.le_of_ble_eq_true rfl), (Nat.le_of_ble_eq_true rfl)⟩ ⟨(Nat.le_of_ble_eq_true rfl), (Nat.le_of_ble_eq_true rfl)⟩ xd_PD_pairs_17 xd_PD_pairs_20 xd_PD_pairs_21 xd_PD_pairs_23 xd_PD_pairs_26
