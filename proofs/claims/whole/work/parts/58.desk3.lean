set_option maxHeartbeats 4000000 in
set_option maxRecDepth 100000 in
theorem c_PD_span (K : xK) (n : Nat) (h : xH) (o e w made i md : Nat) (E : Nat → Nat → Nat → Bool) (Tg : Nat → Nat → Bool) (cs : Nat → Nat) (OS : Nat → List Nat) (SX : Nat → Nat) (kn : Nat → Bool)  (hr : dk_R K h n o E Tg e cs w OS SX kn made) (hi : i < 4) (hmd : md = if kn i then made else bx_bm (OS i) made (OS i).length)  : XM K xy_PD_span xw_PD_span (xrm 7 149 (3 * (md - made)) (1058 * (md - made))) [.ref o, .int (nI i)] n h (x_pi fun r n' h' => ∃ M, pd_mn (bx_ak E Tg (OS i) (OS i).length 0) M ∧ r = xm1 (md_sp M 1024) ∧ n' = n + 3 * (md - made) ∧ dk_fr o h h' ∧ dk_R K h' n' o E Tg e cs w OS SX (va_up kn i true) md) (3 * (md - made)) (1058 * (md - made)) := by
  obtain ⟨p1, -⟩ := id hr
  refine xm_i (by decide +kernel) (Nat.le_of_ble_eq_true rfl) (fun G hF hR => ?_)
  refine xv_iload_n (pc' := 1) (i := 1) hF xd_PD_span_0 rfl rfl rfl ?_
  refine xv_callSv (pc' := 4) hF (c_PD_needSlot K n h i hi) xq_PD_needSlot xk_PD_m93 xk_t_PD_needSlot ⟨(Nat.le_of_ble_eq_true rfl), (Nat.le_of_ble_eq_true rfl)⟩ rfl rfl (Nat.le_of_ble_eq_true rfl) ⟨(Nat.le_of_ble_eq_true rfl), (Nat.le_of_ble_eq_true rfl)⟩ xd_PD_span_1 rfl (fun n1 h1 q1 => ?_)
  obtain ⟨rfl, rfl⟩ := q1
  refine xv_aload_n (pc' := 5) (i := 0) hF xd_PD_span_4 rfl rfl rfl ?_
  refine xv_iload_n (pc' := 6) (i := 1) hF xd_PD_span_5 rfl rfl rfl ?_
  refine xv_callVr (pc' := 9) (ci := 0) hF (c_PD_relationOf K n h o e w made i md E Tg cs OS SX kn hr hi hmd) xq_PD_relationOf xk_PD_m106 xk_i_PD_relationOf xk_s_PD_relationOf (by first | assumption | exact xu_self | (refine (xu_ne (by omega)).trans ?_; first | assumption | exact xu_self | (refine (xu_ne (by omega)).trans ?_; first | assumption | exact xu_self | (refine (xu_ne (by omega)).trans ?_; first | assumption | exact xu_self | (refine (xu_ne (by omega)).trans ?_; first | assumption | exact xu_self))))) rfl ⟨(Nat.le_of_ble_eq_true rfl), (Nat.le_of_ble_eq_true rfl)⟩ rfl rfl (Nat.le_of_ble_eq_true rfl) ⟨(by simp only [xrm]; omega), (by simp only [xrm]; omega)⟩ xd_PD_span_6 rfl (fun r n1 h1 q1 => ?_)
  obtain ⟨rfl, rfl, f1, d1, M, m1, m2⟩ := q1
  obtain ⟨mf, mg, ⟨m3, m4, m5⟩, m6⟩ := id m1
  refine xv_callVi (pc' := 12) (ci := 2) hF (c_RE_greatestLength K _ h1 _ M m1) xq_RE_greatestLength xk_PD_m121 xk_i_RE_greatestLength xk_s_RE_greatestLength (by first | assumption | exact xu_self | (refine (xu_ne (by omega)).trans ?_; first | assumption | exact xu_self | (refine (xu_ne (by omega)).trans ?_; first | assumption | exact xu_self | (refine (xu_ne (by omega)).trans ?_; first | assumption | exact xu_self | (refine (xu_ne (by omega)).trans ?_; first | assumption | exact xu_self))))) rfl ⟨(Nat.le_of_ble_eq_true rfl), (Nat.le_of_ble_eq_true rfl)⟩ rfl rfl (Nat.le_of_ble_eq_true rfl) ⟨(by simp only [xrm]; omega), (by simp only [xrm]; omega)⟩ xd_PD_span_9 rfl (fun r n2 h2 q2 => ?_)
  obtain ⟨q3, rfl, rfl⟩ := q2
  refine hR _ _ _ _ _ _ _ (by omega) (by omega) ?_ xd_PD_span_12
  exact ⟨M, m2, q3, rfl, f1, d1⟩
set_option maxHeartbeats 4000000 in
set_option maxRecDepth 100000 in
theorem c_PD_circle (K : xK) (n : Nat) (h : xH) (o e w made i md : Nat) (E : Nat → Nat → Nat → Bool) (Tg : Nat → Nat → Bool) (cs : Nat → Nat) (OS : Nat → List Nat) (SX : Nat → Nat) (kn : Nat → Bool)  (hr : dk_R K h n o E Tg e cs w OS SX kn made) (hi : i < 4) (hmd : md = if kn i then made else bx_bm (OS i) made (OS i).length)  : XM K xy_PD_circle xw_PD_circle (xrm 7 149 (3 * (md - made)) (1058 * (md - made))) [.ref o, .int (nI i)] n h (x_pi fun r n' h' => ∃ M, pd_mn (bx_ak E Tg (OS i) (OS i).length 0) M ∧ md_fst (fun i => M i i < 1000000) r ∧ n' = n + 3 * (md - made) ∧ dk_fr o h h' ∧ dk_R K h' n' o E Tg e cs w OS SX (va_up kn i true) md) (3 * (md - made)) (1058 * (md - made)) := by
  obtain ⟨p1, -⟩ := id hr
  refine xm_i (by decide +kernel) (Nat.le_of_ble_eq_true rfl) (fun G hF hR => ?_)
  refine xv_iload_n (pc' := 1) (i := 1) hF xd_PD_circle_0 rfl rfl rfl ?_
  refine xv_callSv (pc' := 4) hF (c_PD_needSlot K n h i hi) xq_PD_needSlot xk_PD_m93 xk_t_PD_needSlot ⟨(Nat.le_of_ble_eq_true rfl), (Nat.le_of_ble_eq_true rfl)⟩ rfl rfl (Nat.le_of_ble_eq_true rfl) ⟨(Nat.le_of_ble_eq_true rfl), (Nat.le_of_ble_eq_true rfl)⟩ xd_PD_circle_1 rfl (fun n1 h1 q1 => ?_)
  obtain ⟨rfl, rfl⟩ := q1
  refine xv_aload_n (pc' := 5) (i := 0) hF xd_PD_circle_4 rfl rfl rfl ?_
  refine xv_iload_n (pc' := 6) (i := 1) hF xd_PD_circle_5 rfl rfl rfl ?_
  refine xv_callVr (pc' := 9) (ci := 0) hF (c_PD_relationOf K n h o e w made i md E Tg cs OS SX kn hr hi hmd) xq_PD_relationOf xk_PD_m106 xk_i_PD_relationOf xk_s_PD_relationOf (by first | assumption | exact xu_self | (refine (xu_ne (by omega)).trans ?_; first | assumption | exact xu_self | (refine (xu_ne (by omega)).trans ?_; first | assumption | exact xu_self | (refine (xu_ne (by omega)).trans ?_; first | assumption | exact xu_self | (refine (xu_ne (by omega)).trans ?_; first | assumption | exact xu_self))))) rfl ⟨(Nat.le_of_ble_eq_true rfl), (Nat.le_of_ble_eq_true rfl)⟩ rfl rfl (Nat.le_of_ble_eq_true rfl) ⟨(by simp only [xrm]; omega), (by simp only [xrm]; omega)⟩ xd_PD_circle_6 rfl (fun r n1 h1 q1 => ?_)
  obtain ⟨rfl, rfl, f1, d1, M, m1, m2⟩ := q1
  obtain ⟨mf, mg, ⟨m3, m4, m5⟩, m6⟩ := id m1
  refine xv_callVi (pc' := 12) (ci := 2) hF (c_RE_leastOnCircle K _ h1 _ M m1) xq_RE_leastOnCircle xk_PD_m140 xk_i_RE_leastOnCircle xk_s_RE_leastOnCircle (by first | assumption | exact xu_self | (refine (xu_ne (by omega)).trans ?_; first | assumption | exact xu_self | (refine (xu_ne (by omega)).trans ?_; first | assumption | exact xu_self | (refine (xu_ne (by omega)).trans ?_; first | assumption | exact xu_self | (refine (xu_ne (by omega)).trans ?_; first | assumption | exact xu_self))))) rfl ⟨(Nat.le_of_ble_eq_true rfl), (Nat.le_of_ble_eq_true rfl)⟩ rfl rfl (Nat.le_of_ble_eq_true rfl) ⟨(by simp only [xrm]; omega), (by simp only [xrm]; omega)⟩ xd_PD_circle_9 rfl (fun r n2 h2 q2 => ?_)
  obtain ⟨q3, rfl, rfl⟩ := q2
  refine hR _ _ _ _ _ _ _ (by omega) (by omega) ?_ xd_PD_circle_12
  exact ⟨M, m2, q3, rfl, f1, d1⟩
set_option maxHeartbeats 4000000 in
set_option maxRecDepth 100000 in
theorem c_PD_best (K : xK) (n : Nat) (h : xH) (o e w made i md : Nat) (E : Nat → Nat → Nat → Bool) (Tg : Nat → Nat → Bool) (cs : Nat → Nat) (OS : Nat → List Nat) (SX : Nat → Nat) (kn : Nat → Bool)  (hr : dk_R K h n o E Tg e cs w OS SX kn made) (hi : i < 4) (hmd : md = if kn i then made else bx_bm (OS i) made (OS i).length)  : XM K xy_PD_best xw_PD_best (xrm 7 149 (3 * (md - made)) (1058 * (md - made))) [.ref o, .int (nI i)] n h (x_pi fun r n' h' => ∃ M, pd_mn (bx_ak E Tg (OS i) (OS i).length 0) M ∧ r = xm1 (md_be M 32).1 ∧ n' = n + 3 * (md - made) ∧ dk_fr o h h' ∧ dk_R K h' n' o E Tg e cs w OS SX (va_up kn i true) md) (3 * (md - made)) (1058 * (md - made)) := by
  obtain ⟨p1, -⟩ := id hr
  refine xm_i (by decide +kernel) (Nat.le_of_ble_eq_true rfl) (fun G hF hR => ?_)
  refine xv_iload_n (pc' := 1) (i := 1) hF xd_PD_best_0 rfl rfl rfl ?_
  refine xv_callSv (pc' := 4) hF (c_PD_needSlot K n h i hi) xq_PD_needSlot xk_PD_m93 xk_t_PD_needSlot ⟨(Nat.le_of_ble_eq_true rfl), (Nat.le_of_ble_eq_true rfl)⟩ rfl rfl (Nat.le_of_ble_eq_true rfl) ⟨(Nat.le_of_ble_eq_true rfl), (Nat.le_of_ble_eq_true rfl)⟩ xd_PD_best_1 rfl (fun n1 h1 q1 => ?_)
  obtain ⟨rfl, rfl⟩ := q1
  refine xv_aload_n (pc' := 5) (i := 0) hF xd_PD_best_4 rfl rfl rfl ?_
  refine xv_iload_n (pc' := 6) (i := 1) hF xd_PD_best_5 rfl rfl rfl ?_
  refine xv_callVr (pc' := 9) (ci := 0) hF (c_PD_relationOf K n h o e w made i md E Tg cs OS SX kn hr hi hmd) xq_PD_relationOf xk_PD_m106 xk_i_PD_relationOf xk_s_PD_relationOf (by first | assumption | exact xu_self | (refine (xu_ne (by omega)).trans ?_; first | assumption | exact xu_self | (refine (xu_ne (by omega)).trans ?_; first | assumption | exact xu_self | (refine (xu_ne (by omega)).trans ?_; first | assumption | exact xu_self | (refine (xu_ne (by omega)).trans ?_; first | assumption | exact xu_self))))) rfl ⟨(Nat.le_of_ble_eq_true rfl), (Nat.le_of_ble_eq_true rfl)⟩ rfl rfl (Nat.le_of_ble_eq_true rfl) ⟨(by simp only [xrm]; omega), (by simp only [xrm]; omega)⟩ xd_PD_best_6 rfl (fun r n1 h1 q1 => ?_)
  obtain ⟨rfl, rfl, f1, d1, M, m1, m2⟩ := q1
  obtain ⟨mf, mg, ⟨m3, m4, m5⟩, m6⟩ := id m1
  refine xv_callVi (pc' := 12) (ci := 2) hF (c_RE_richestNode K _ h1 _ M m1) xq_RE_richestNode xk_PD_m143 xk_i_RE_richestNode xk_s_RE_richestNode (by first | assumption | exact xu_self | (refine (xu_ne (by omega)).trans ?_; first | assumption | exact xu_self | (refine (xu_ne (by omega)).trans ?_; first | assumption | exact xu_self | (refine (xu_ne (by omega)).trans ?_; first | assumption | exact xu_self | (refine (xu_ne (by omega)).trans ?_; first | assumption | exact xu_self))))) rfl ⟨(Nat.le_of_ble_eq_true rfl), (Nat.le_of_ble_eq_true rfl)⟩ rfl rfl (Nat.le_of_ble_eq_true rfl) ⟨(by simp only [xrm]; omega), (by simp only [xrm]; omega)⟩ xd_PD_best_9 rfl (fun r n2 h2 q2 => ?_)
  obtain ⟨q3, rfl, rfl⟩ := q2
  refine hR _ _ _ _ _ _ _ (by omega) (by omega) ?_ xd_PD_best_12
  exact ⟨M, m2, q3, rfl, f1, d1⟩
set_option maxHeartbeats 4000000 in
set_option maxRecDepth 100000 in
theorem c_PD_distance (K : xK) (n : Nat) (h : xH) (o e w made i md : Nat) (E : Nat → Nat → Nat → Bool) (Tg : Nat → Nat → Bool) (cs : Nat → Nat) (OS : Nat → List Nat) (SX : Nat → Nat) (kn : Nat → Bool) (a c : Nat) (hr : dk_R K h n o E Tg e cs w OS SX kn made) (hi : i < 4) (hmd : md = if kn i then made else bx_bm (OS i) made (OS i).length) (ha : a < 32) (hc : c < 32) : XM K xy_PD_distance xw_PD_distance (xrm 7 149 (3 * (md - made)) (1058 * (md - made))) [.ref o, .int (nI i), .int (nI a), .int (nI c)] n h (x_pi fun r n' h' => ∃ M, pd_mn (bx_ak E Tg (OS i) (OS i).length 0) M ∧ r = md_len (M a c) ∧ n' = n + 3 * (md - made) ∧ dk_fr o h h' ∧ dk_R K h' n' o E Tg e cs w OS SX (va_up kn i true) md) (3 * (md - made)) (1058 * (md - made)) := by
  obtain ⟨p1, -⟩ := id hr
  refine xm_i (by decide +kernel) (Nat.le_of_ble_eq_true rfl) (fun G hF hR => ?_)
  refine xv_iload_n (pc' := 1) (i := 1) hF xd_PD_distance_0 rfl rfl rfl ?_
  refine xv_callSv (pc' := 4) hF (c_PD_needSlot K n h i hi) xq_PD_needSlot xk_PD_m93 xk_t_PD_needSlot ⟨(Nat.le_of_ble_eq_true rfl), (Nat.le_of_ble_eq_true rfl)⟩ rfl rfl (Nat.le_of_ble_eq_true rfl) ⟨(Nat.le_of_ble_eq_true rfl), (Nat.le_of_ble_eq_true rfl)⟩ xd_PD_distance_1 rfl (fun n1 h1 q1 => ?_)
  obtain ⟨rfl, rfl⟩ := q1
  refine xv_iload_n (pc' := 5) (i := 2) hF xd_PD_distance_4 rfl rfl rfl ?_
  refine xv_callSv (pc' := 8) hF (c_PD_needNode K n h a ha) xq_PD_needNode xk_PD_m56 xk_t_PD_needNode ⟨(Nat.le_of_ble_eq_true rfl), (Nat.le_of_ble_eq_true rfl)⟩ rfl rfl (Nat.le_of_ble_eq_true rfl) ⟨(Nat.le_of_ble_eq_true rfl), (Nat.le_of_ble_eq_true rfl)⟩ xd_PD_distance_5 rfl (fun n1 h1 q1 => ?_)
  obtain ⟨rfl, rfl⟩ := q1
  refine xv_iload_n (pc' := 9) (i := 3) hF xd_PD_distance_8 rfl rfl rfl ?_
  refine xv_callSv (pc' := 12) hF (c_PD_needNode K n h c hc) xq_PD_needNode xk_PD_m56 xk_t_PD_needNode ⟨(Nat.le_of_ble_eq_true rfl), (Nat.le_of_ble_eq_true rfl)⟩ rfl rfl (Nat.le_of_ble_eq_true rfl) ⟨(Nat.le_of_ble_eq_true rfl), (Nat.le_of_ble_eq_true rfl)⟩ xd_PD_distance_9 rfl (fun n1 h1 q1 => ?_)
  obtain ⟨rfl, rfl⟩ := q1
  refine xv_aload_n (pc' := 13) (i := 0) hF xd_PD_distance_12 rfl rfl rfl ?_
  refine xv_iload_n (pc' := 14) (i := 1) hF xd_PD_distance_13 rfl rfl rfl ?_
  refine xv_callVr (pc' := 17) (ci := 0) hF (c_PD_relationOf K n h o e w made i md E Tg cs OS SX kn hr hi hmd) xq_PD_relationOf xk_PD_m106 xk_i_PD_relationOf xk_s_PD_relationOf (by first | assumption | exact xu_self | (refine (xu_ne (by omega)).trans ?_; first | assumption | exact xu_self | (refine (xu_ne (by omega)).trans ?_; first | assumption | exact xu_self | (refine (xu_ne (by omega)).trans ?_; first | assumption | exact xu_self | (refine (xu_ne (by omega)).trans ?_; first | assumption | exact xu_self))))) rfl ⟨(Nat.le_of_ble_eq_true rfl), (Nat.le_of_ble_eq_true rfl)⟩ rfl rfl (Nat.le_of_ble_eq_true rfl) ⟨(by simp only [xrm]; omega), (by simp only [xrm]; omega)⟩ xd_PD_distance_14 rfl (fun r n1 h1 q1 => ?_)
  obtain ⟨rfl, rfl, f1, d1, M, m1, m2⟩ := q1
  obtain ⟨mf, mg, ⟨m3, m4, m5⟩, m6⟩ := id m1
  refine xv_iload_n (pc' := 18) (i := 2) hF xd_PD_distance_17 rfl rfl rfl ?_
  refine xv_iload_n (pc' := 19) (i := 3) hF xd_PD_distance_18 rfl rfl rfl ?_
  refine xv_callVi (pc' := 22) (ci := 2) hF (c_RE_lengthOf K _ h1 _ a c M m1 ha hc) xq_RE_lengthOf xk_PD_m117 xk_i_RE_lengthOf xk_s_RE_lengthOf (by first | assumption | exact xu_self | (refine (xu_ne (by omega)).trans ?_; first | assumption | exact xu_self | (refine (xu_ne (by omega)).trans ?_; first | assumption | exact xu_self | (refine (xu_ne (by omega)).trans ?_; first | assumption | exact xu_self | (refine (xu_ne (by omega)).trans ?_; first | assumption | exact xu_self))))) rfl ⟨(Nat.le_of_ble_eq_true rfl), (Nat.le_of_ble_eq_true rfl)⟩ rfl rfl (Nat.le_of_ble_eq_true rfl) ⟨(by simp only [xrm]; omega), (by simp only [xrm]; omega)⟩ xd_PD_distance_19 rfl (fun r n2 h2 q2 => ?_)
  obtain ⟨q3, rfl, rfl⟩ := q2
  refine hR _ _ _ _ _ _ _ (by omega) (by omega) ?_ xd_PD_distance_22
  exact ⟨M, m2, q3, rfl, f1, d1⟩
set_option maxHeartbeats 4000000 in
set_option maxRecDepth 100000 in
theorem c_PD_reach (K : xK) (n : Nat) (h : xH) (o e w made i md : Nat) (E : Nat → Nat → Nat → Bool) (Tg : Nat → Nat → Bool) (cs : Nat → Nat) (OS : Nat → List Nat) (SX : Nat → Nat) (kn : Nat → Bool) (a : Nat) (bw : Bool) (hr : dk_R K h n o E Tg e cs w OS SX kn made) (hi : i < 4) (hmd : md = if kn i then made else bx_bm (OS i) made (OS i).length) (ha : a < 32) : XM K xy_PD_reach xw_PD_reach (xrm 7 149 (3 * (md - made)) (1058 * (md - made))) [.ref o, .int (nI i), .int (nI a), .int (xb bw)] n h (x_pi fun r n' h' => ∃ M, pd_mn (bx_ak E Tg (OS i) (OS i).length 0) M ∧ (∀ j, j < 32 → bt r j = decide ((if bw then M j a else M a j) < 1000000)) ∧ n' = n + 3 * (md - made) ∧ dk_fr o h h' ∧ dk_R K h' n' o E Tg e cs w OS SX (va_up kn i true) md) (3 * (md - made)) (1058 * (md - made)) := by
  obtain ⟨p1, -⟩ := id hr
  refine xm_i (by decide +kernel) (Nat.le_of_ble_eq_true rfl) (fun G hF hR => ?_)
  refine xv_iload_n (pc' := 1) (i := 1) hF xd_PD_reach_0 rfl rfl rfl ?_
  refine xv_callSv (pc' := 4) hF (c_PD_needSlot K n h i hi) xq_PD_needSlot xk_PD_m93 xk_t_PD_needSlot ⟨(Nat.le_of_ble_eq_true rfl), (Nat.le_of_ble_eq_true rfl)⟩ rfl rfl (Nat.le_of_ble_eq_true rfl) ⟨(Nat.le_of_ble_eq_true rfl), (Nat.le_of_ble_eq_true rfl)⟩ xd_PD_reach_1 rfl (fun n1 h1 q1 => ?_)
  obtain ⟨rfl, rfl⟩ := q1
  refine xv_iload_n (pc' := 5) (i := 2) hF xd_PD_reach_4 rfl rfl rfl ?_
  refine xv_callSv (pc' := 8) hF (c_PD_needNode K n h a ha) xq_PD_needNode xk_PD_m56 xk_t_PD_needNode ⟨(Nat.le_of_ble_eq_true rfl), (Nat.le_of_ble_eq_true rfl)⟩ rfl rfl (Nat.le_of_ble_eq_true rfl) ⟨(Nat.le_of_ble_eq_true rfl), (Nat.le_of_ble_eq_true rfl)⟩ xd_PD_reach_5 rfl (fun n1 h1 q1 => ?_)
  obtain ⟨rfl, rfl⟩ := q1
  refine xv_aload_n (pc' := 9) (i := 0) hF xd_PD_reach_8 rfl rfl rfl ?_
  refine xv_iload_n (pc' := 10) (i := 1) hF xd_PD_reach_9 rfl rfl rfl ?_
  refine xv_callVr (pc' := 13) (ci := 0) hF (c_PD_relationOf K n h o e w made i md E Tg cs OS SX kn hr hi hmd) xq_PD_relationOf xk_PD_m106 xk_i_PD_relationOf xk_s_PD_relationOf (by first | assumption | exact xu_self | (refine (xu_ne (by omega)).trans ?_; first | assumption | exact xu_self | (refine (xu_ne (by omega)).trans ?_; first | assumption | exact xu_self | (refine (xu_ne (by omega)).trans ?_; first | assumption | exact xu_self | (refine (xu_ne (by omega)).trans ?_; first | assumption | exact xu_self))))) rfl ⟨(Nat.le_of_ble_eq_true rfl), (Nat.le_of_ble_eq_true rfl)⟩ rfl rfl (Nat.le_of_ble_eq_true rfl) ⟨(by simp only [xrm]; omega), (by simp only [xrm]; omega)⟩ xd_PD_reach_10 rfl (fun r n1 h1 q1 => ?_)
  obtain ⟨rfl, rfl, f1, d1, M, m1, m2⟩ := q1
  obtain ⟨mf, mg, ⟨m3, m4, m5⟩, m6⟩ := id m1
  refine xv_astore (pc' := 15) hF xd_PD_reach_13 (Nat.le_of_ble_eq_true rfl) rfl rfl ?_
  refine xv_iload_n (pc' := 16) (i := 3) hF xd_PD_reach_15 rfl rfl rfl ?_
  refine xv_if_eqB (pc' := 19) (tgt := 28) hF xd_PD_reach_16 (by decide) rfl (fun e1 => ?_) (fun e1 => ?_)
  · refine xv_aload (pc' := 30) hF xd_PD_reach_28 rfl rfl ?_
    refine xv_getN (pc' := 33) (ci := 2) hF (by first | assumption | exact xu_self | (refine (xu_ne (by omega)).trans ?_; first | assumption | exact xu_self | (refine (xu_ne (by omega)).trans ?_; first | assumption | exact xu_self | (refine (xu_ne (by omega)).trans ?_; first | assumption | exact xu_self | (refine (xu_ne (by omega)).trans ?_; first | assumption | exact xu_self))))) rfl xu_RE 0 (by decide) xk_PD_f114 (by rfl) xd_PD_reach_30 rfl ?_
    refine xv_iload_n (pc' := 34) (i := 2) hF xd_PD_reach_33 rfl rfl rfl ?_
    first | refine xv_ialdN (pc' := 35) hF (by first | assumption | exact xu_self | (refine (xu_ne (by omega)).trans ?_; first | assumption | exact xu_self | (refine (xu_ne (by omega)).trans ?_; first | assumption | exact xu_self | (refine (xu_ne (by omega)).trans ?_; first | assumption | exact xu_self | (refine (xu_ne (by omega)).trans ?_; first | assumption | exact xu_self))))) (by omega) (by decide) xd_PD_reach_34 rfl ?_ | refine xv_iald (pc' := 35) hF (by first | assumption | exact xu_self | (refine (xu_ne (by omega)).trans ?_; first | assumption | exact xu_self | (refine (xu_ne (by omega)).trans ?_; first | assumption | exact xu_self | (refine (xu_ne (by omega)).trans ?_; first | assumption | exact xu_self | (refine (xu_ne (by omega)).trans ?_; first | assumption | exact xu_self))))) (by omega) xd_PD_reach_34 rfl ?_
    refine hR _ _ _ _ _ _ _ (by omega) (by omega) ?_ xd_PD_reach_35
    exact ⟨M, m2, fun j hj => by rw [if_neg (by rw [e1]; decide)]; exact (m6 a j ha hj).1, rfl, f1, d1⟩
  · refine xv_aload (pc' := 21) hF xd_PD_reach_19 rfl rfl ?_
    refine xv_iload_n (pc' := 22) (i := 2) hF xd_PD_reach_21 rfl rfl rfl ?_
    refine xv_callVi (pc' := 25) (ci := 2) hF (c_RE_sourcesOf K _ h1 _ a M m1 ha) xq_RE_sourcesOf xk_PD_m110 xk_i_RE_sourcesOf xk_s_RE_sourcesOf (by first | assumption | exact xu_self | (refine (xu_ne (by omega)).trans ?_; first | assumption | exact xu_self | (refine (xu_ne (by omega)).trans ?_; first | assumption | exact xu_self | (refine (xu_ne (by omega)).trans ?_; first | assumption | exact xu_self | (refine (xu_ne (by omega)).trans ?_; first | assumption | exact xu_self))))) rfl ⟨(Nat.le_of_ble_eq_true rfl), (Nat.le_of_ble_eq_true rfl)⟩ rfl rfl (Nat.le_of_ble_eq_true rfl) ⟨(by simp only [xrm]; omega), (by simp only [xrm]; omega)⟩ xd_PD_reach_22 rfl (fun r n2 h2 q2 => ?_)
    obtain ⟨q3, rfl, rfl⟩ := q2
    refine xv_goto (tgt := 35) hF xd_PD_reach_25 (by decide) ?_
    refine hR _ _ _ _ _ _ _ (by omega) (by omega) ?_ xd_PD_reach_35
    exact ⟨M, m2, fun j hj => by rw [if_pos e1]; exact q3 j hj, rfl, f1, d1⟩
/-! count, and pairs -/
def dk_cn (E : Nat → Nat → Nat → Bool) (Tg : Nat → Nat → Bool) (e w : Nat) (SX : Nat → Nat) (k : Nat) : Nat := if k = 0 then e else if k = 1 then w else if k < 6 then SX (k - 2) else if k < 14 then md_cn (E (k - 6)) 1024 else bc_n (Tg (k - 14)) 32
set_option maxHeartbeats 4000000 in
set_option maxRecDepth 100000 in
theorem c_PD_count (K : xK) (n : Nat) (h : xH) (o e w made k : Nat) (E : Nat → Nat → Nat → Bool) (Tg : Nat → Nat → Bool) (cs : Nat → Nat) (OS : Nat → List Nat) (SX : Nat → Nat) (kn : Nat → Bool) (hr : dk_R K h n o E Tg e cs w OS SX kn made) (hk : k < 18) : XM K xy_PD_count xw_PD_count (xrm 2 44 0 0) [.ref o, .int (nI k)] n h (x_pi fun r n' h' => r = nI (dk_cn E Tg e w SX k) ∧ n = n' ∧ h = h') 0 0 := by
  obtain ⟨p1, p2, -, -, -, -, ⟨g1, p8, p9⟩, -, -, pe, -⟩ := id hr
  obtain ⟨T, g, ⟨a1, a2, a3⟩, a4⟩ := id p2
  refine xm_i (by decide +kernel) (Nat.le_of_ble_eq_true rfl) (fun G hF hR => ?_)
  refine xv_iload_n (pc' := 1) (i := 1) hF xd_PD_count_0 rfl rfl rfl ?_
  refine xv_if_ltN (pc' := 4) (tgt := 10) hF (by omega) xd_PD_count_1 (by decide) rfl ?_
  refine xv_iload_n (pc' := 5) (i := 1) hF xd_PD_count_4 rfl rfl rfl ?_
  refine xv_bipushN (pc' := 7) 18 hF xd_PD_count_5 (by decide +kernel) rfl ?_
  refine xv_icmp_ltN (pc' := 10) (tgt := 12) hF (by omega) (by omega) xd_PD_count_7 (by decide) rfl (fun e1 => ?_) (fun e1 => ?_)
  · refine xv_iload_n (pc' := 13) (i := 1) hF xd_PD_count_12 rfl rfl rfl ?_
    refine xv_if_neN (pc' := 16) (tgt := 24) hF (by omega) xd_PD_count_13 (by decide) rfl (fun e2 => ?_) (fun e2 => ?_)
    · refine xv_iload_n (pc' := 25) (i := 1) hF xd_PD_count_24 rfl rfl rfl ?_
      refine xv_iconstN (pc' := 26) 1 hF xd_PD_count_25 (by decide +kernel) rfl ?_
      refine xv_icmp_neN (pc' := 29) (tgt := 34) hF (by omega) (by omega) xd_PD_count_26 (by decide) rfl (fun e3 => ?_) (fun e3 => ?_)
      · refine xv_iload_n (pc' := 35) (i := 1) hF xd_PD_count_34 rfl rfl rfl ?_
        refine xv_bipushN (pc' := 37) 6 hF xd_PD_count_35 (by decide +kernel) rfl ?_
        refine xv_icmp_geN (pc' := 40) (tgt := 52) hF (by omega) (by omega) xd_PD_count_37 (by decide) rfl (fun e4 => ?_) (fun e4 => ?_)
        · refine xv_iload_n (pc' := 53) (i := 1) hF xd_PD_count_52 rfl rfl rfl ?_
          refine xv_bipushN (pc' := 55) 14 hF xd_PD_count_53 (by decide +kernel) rfl ?_
          refine xv_icmp_geN (pc' := 58) (tgt := 70) hF (by omega) (by omega) xd_PD_count_55 (by decide) rfl (fun e5 => ?_) (fun e5 => ?_)
          · refine xv_aload_n (pc' := 71) (i := 0) hF xd_PD_count_70 rfl rfl rfl ?_
            refine xv_get (pc' := 74) (ci := 0) hF (by first | assumption | exact xu_self | (refine (xu_ne (by omega)).trans ?_; first | assumption | exact xu_self | (refine (xu_ne (by omega)).trans ?_; first | assumption | exact xu_self | (refine (xu_ne (by omega)).trans ?_; first | assumption | exact xu_self | (refine (xu_ne (by omega)).trans ?_; first | assumption | exact xu_self))))) rfl xu_PD 0 (by decide) xk_PD_f12 (by rfl) xd_PD_count_71 rfl ?_
            refine xv_iload_n (pc' := 75) (i := 1) hF xd_PD_count_74 rfl rfl rfl ?_
            refine xv_bipushN (pc' := 77) 14 hF xd_PD_count_75 (by decide +kernel) rfl ?_
            first | refine xv_isubN (pc' := 78) hF (by omega) xd_PD_count_77 rfl ?_ | refine xv_isub (pc' := 78) hF xd_PD_count_77 rfl ?_
            refine xv_callVi (pc' := 81) (ci := 1) hF (c_GR_nodesWith K n h (o + 1) (k - 14) e E Tg p2 (by omega)) xq_GR_nodesWith xk_PD_m149 xk_i_GR_nodesWith xk_s_GR_nodesWith (by first | assumption | exact xu_self | (refine (xu_ne (by omega)).trans ?_; first | assumption | exact xu_self | (refine (xu_ne (by omega)).trans ?_; first | assumption | exact xu_self | (refine (xu_ne (by omega)).trans ?_; first | assumption | exact xu_self | (refine (xu_ne (by omega)).trans ?_; first | assumption | exact xu_self))))) rfl ⟨(Nat.le_of_ble_eq_true rfl), (Nat.le_of_ble_eq_true rfl)⟩ rfl rfl (Nat.le_of_ble_eq_true rfl) ⟨(Nat.le_of_ble_eq_true rfl), (Nat.le_of_ble_eq_true rfl)⟩ xd_PD_count_78 rfl (fun r n1 h1 q1 => ?_)
            obtain ⟨q1, rfl, rfl⟩ := q1
            refine xv_callSi (pc' := 84) hF (c_JI_bitCount K n h r) xq_JI_bitCount xk_PD_m152 xk_t_JI_bitCount ⟨(Nat.le_of_ble_eq_true rfl), (Nat.le_of_ble_eq_true rfl)⟩ rfl rfl (Nat.le_of_ble_eq_true rfl) ⟨(Nat.le_of_ble_eq_true rfl), (Nat.le_of_ble_eq_true rfl)⟩ xd_PD_count_81 rfl (fun r2 n1 h1 q2 => ?_)
            obtain ⟨rfl, rfl, rfl⟩ := q2
            refine hR _ _ _ _ _ _ _ (by omega) (by omega) ?_ xd_PD_count_84
            refine ⟨?_, rfl, rfl⟩
            unfold dk_cn
            rw [if_neg (by omega), if_neg (by omega), if_neg (by omega), if_neg (by omega), bc_congr (fun i hi => q1 i hi)]
          · refine xv_aload_n (pc' := 59) (i := 0) hF xd_PD_count_58 rfl rfl rfl ?_
            refine xv_get (pc' := 62) (ci := 0) hF (by first | assumption | exact xu_self | (refine (xu_ne (by omega)).trans ?_; first | assumption | exact xu_self | (refine (xu_ne (by omega)).trans ?_; first | assumption | exact xu_self | (refine (xu_ne (by omega)).trans ?_; first | assumption | exact xu_self | (refine (xu_ne (by omega)).trans ?_; first | assumption | exact xu_self))))) rfl xu_PD 0 (by decide) xk_PD_f12 (by rfl) xd_PD_count_59 rfl ?_
            refine xv_iload_n (pc' := 63) (i := 1) hF xd_PD_count_62 rfl rfl rfl ?_
            refine xv_bipushN (pc' := 65) 6 hF xd_PD_count_63 (by decide +kernel) rfl ?_
            first | refine xv_isubN (pc' := 66) hF (by omega) xd_PD_count_65 rfl ?_ | refine xv_isub (pc' := 66) hF xd_PD_count_65 rfl ?_
            refine xv_callVi (pc' := 69) (ci := 1) hF (c_GR_edgesOf K n h (o + 1) (k - 6) e E Tg p2 (by omega)) xq_GR_edgesOf xk_PD_m146 xk_i_GR_edgesOf xk_s_GR_edgesOf (by first | assumption | exact xu_self | (refine (xu_ne (by omega)).trans ?_; first | assumption | exact xu_self | (refine (xu_ne (by omega)).trans ?_; first | assumption | exact xu_self | (refine (xu_ne (by omega)).trans ?_; first | assumption | exact xu_self | (refine (xu_ne (by omega)).trans ?_; first | assumption | exact xu_self))))) rfl ⟨(Nat.le_of_ble_eq_true rfl), (Nat.le_of_ble_eq_true rfl)⟩ rfl rfl (Nat.le_of_ble_eq_true rfl) ⟨(Nat.le_of_ble_eq_true rfl), (Nat.le_of_ble_eq_true rfl)⟩ xd_PD_count_66 rfl (fun r n1 h1 q1 => ?_)
            obtain ⟨rfl, rfl, rfl⟩ := q1
            refine hR _ _ _ _ _ _ _ (by omega) (by omega) ?_ xd_PD_count_69
            refine ⟨?_, rfl, rfl⟩
            unfold dk_cn
            rw [if_neg (by omega), if_neg (by omega), if_neg (by omega), if_pos (by omega)]
        · obtain ⟨⟨x0, xf, ⟨x1, x2⟩, x3⟩, -⟩ := id (pe (k - 2) (by omega))
          refine xv_aload_n (pc' := 41) (i := 0) hF xd_PD_count_40 rfl rfl rfl ?_
          refine xv_get (pc' := 44) (ci := 0) hF (by first | assumption | exact xu_self | (refine (xu_ne (by omega)).trans ?_; first | assumption | exact xu_self | (refine (xu_ne (by omega)).trans ?_; first | assumption | exact xu_self | (refine (xu_ne (by omega)).trans ?_; first | assumption | exact xu_self | (refine (xu_ne (by omega)).trans ?_; first | assumption | exact xu_self))))) rfl xu_PD 5 (by decide) xk_PD_f40 (by rfl) xd_PD_count_41 rfl ?_
          refine xv_iload_n (pc' := 45) (i := 1) hF xd_PD_count_44 rfl rfl rfl ?_
          refine xv_iconstN (pc' := 46) 2 hF xd_PD_count_45 (by decide +kernel) rfl ?_
          first | refine xv_isubN (pc' := 47) hF (by omega) xd_PD_count_46 rfl ?_ | refine xv_isub (pc' := 47) hF xd_PD_count_46 rfl ?_
          refine xv_aaldN (pc' := 48) 3 hF (by first | assumption | exact xu_self | (refine (xu_ne (by omega)).trans ?_; first | assumption | exact xu_self | (refine (xu_ne (by omega)).trans ?_; first | assumption | exact xu_self | (refine (xu_ne (by omega)).trans ?_; first | assumption | exact xu_self | (refine (xu_ne (by omega)).trans ?_; first | assumption | exact xu_self))))) rfl (by omega) (by decide) xd_PD_count_47 rfl ?_
          refine xv_top (v' := .ref (o + 17 + 5 * (k - 2))) (by rw [p9 (k - 2) (by omega)]; rfl) ?_
          refine xv_getN (pc' := 51) (ci := 3) hF (by first | assumption | exact xu_self | (refine (xu_ne (by omega)).trans ?_; first | assumption | exact xu_self | (refine (xu_ne (by omega)).trans ?_; first | assumption | exact xu_self | (refine (xu_ne (by omega)).trans ?_; first | assumption | exact xu_self | (refine (xu_ne (by omega)).trans ?_; first | assumption | exact xu_self))))) rfl xu_EX 2 (by decide) xk_PD_f103 (by rfl) xd_PD_count_48 rfl ?_
          refine hR _ _ _ _ _ _ _ (by omega) (by omega) ?_ xd_PD_count_51
          refine ⟨?_, rfl, rfl⟩
          unfold dk_cn
          rw [if_neg (by omega), if_neg (by omega), if_pos (by omega)]
      · refine xv_aload_n (pc' := 30) (i := 0) hF xd_PD_count_29 rfl rfl rfl ?_
        refine xv_get (pc' := 33) (ci := 0) hF (by first | assumption | exact xu_self | (refine (xu_ne (by omega)).trans ?_; first | assumption | exact xu_self | (refine (xu_ne (by omega)).trans ?_; first | assumption | exact xu_self | (refine (xu_ne (by omega)).trans ?_; first | assumption | exact xu_self | (refine (xu_ne (by omega)).trans ?_; first | assumption | exact xu_self))))) rfl xu_PD 4 (by decide) xk_PD_f34 (by rfl) xd_PD_count_30 rfl ?_
        refine hR _ _ _ _ _ _ _ (by omega) (by omega) ?_ xd_PD_count_33
        exact ⟨by unfold dk_cn; rw [if_neg (by omega), if_pos (by omega)], rfl, rfl⟩
    · refine xv_aload_n (pc' := 17) (i := 0) hF xd_PD_count_16 rfl rfl rfl ?_
      refine xv_get (pc' := 20) (ci := 0) hF (by first | assumption | exact xu_self | (refine (xu_ne (by omega)).trans ?_; first | assumption | exact xu_self | (refine (xu_ne (by omega)).trans ?_; first | assumption | exact xu_self | (refine (xu_ne (by omega)).trans ?_; first | assumption | exact xu_self | (refine (xu_ne (by omega)).trans ?_; first | assumption | exact xu_self))))) rfl xu_PD 0 (by decide) xk_PD_f12 (by rfl) xd_PD_count_17 rfl ?_
      refine xv_getN (pc' := 23) (ci := 1) hF (by first | assumption | exact xu_self | (refine (xu_ne (by omega)).trans ?_; first | assumption | exact xu_self | (refine (xu_ne (by omega)).trans ?_; first | assumption | exact xu_self | (refine (xu_ne (by omega)).trans ?_; first | assumption | exact xu_self | (refine (xu_ne (by omega)).trans ?_; first | assumption | exact xu_self))))) rfl xu_GR 2 (by decide) xk_PD_f67 (by rfl) xd_PD_count_20 rfl ?_
      refine hR _ _ _ _ _ _ _ (by omega) (by omega) ?_ xd_PD_count_23
      exact ⟨by unfold dk_cn; rw [if_pos (by omega)], rfl, rfl⟩
  · omega
def dk_pr (how : Nat) (M N : Nat → Nat → Nat) : Nat := md_cn (fun i j => if how = 4 then md_via M N i j 32 else if how = 3 then decide (M i j < 1000000) && decide (N j i < 1000000) else if how = 2 then decide (M i j < 1000000) && !decide (N i j < 1000000) else if how = 1 then decide (M i j < 1000000) && decide (N i j < 1000000) else decide (M i j < 1000000)) 1024
theorem bc_split (f g : Nat → Bool) : ∀ n, bc_n (fun i => f i && g i) n + bc_n (fun i => f i && !g i) n = bc_n f n
  | 0 => rfl
  | n + 1 => by
    have := bc_split f g n
    simp only [bc_n]
    by_cases hf : f n = true <;> by_cases hg : g n = true <;> simp [hf, hg] <;> omega
set_option maxHeartbeats 4000000 in
set_option maxRecDepth 100000 in
theorem c_PD_pairs (K : xK) (n : Nat) (h : xH) (o e w made i md j md2 how : Nat) (E : Nat → Nat → Nat → Bool) (Tg : Nat → Nat → Bool) (cs : Nat → Nat) (OS : Nat → List Nat) (SX : Nat → Nat) (kn : Nat → Bool) (hr : dk_R K h n o E Tg e cs w OS SX kn made) (hi : i < 4) (hmd : md = if kn i then made else bx_bm (OS i) made (OS i).length) (hj : j < 4) (hw : how < 5) (h0 : how ≠ 0) (hm2 : md2 = if va_up kn i true j then md else bx_bm (OS j) md (OS j).length) (hle : made ≤ md) (hl2 : md ≤ md2) : XM K xy_PD_pairs xw_PD_pairs (xrm 7 149 (3 * (md2 - made)) (1058 * (md2 - made))) [.ref o, .int (nI i), .int (nI j), .int (nI how)] n h (x_pi fun r n' h' => ∃ M N, pd_mn (bx_ak E Tg (OS i) (OS i).length 0) M ∧ pd_mn (bx_ak E Tg (OS j) (OS j).length 0) N ∧ r = nI (dk_pr how M N) ∧ n' = n + 3 * (md2 - made) ∧ dk_fr o h h' ∧ dk_R K h' n' o E Tg e cs w OS SX (va_up (va_up kn i true) j true) md2) (3 * (md2 - made)) (1058 * (md2 - made)) := by
  obtain ⟨p1, -⟩ := id hr
  refine xm_i (by decide +kernel) (Nat.le_of_ble_eq_true rfl) (fun G hF hR => ?_)
  refine xv_iload_n (pc' := 1) (i := 1) hF xd_PD_pairs_0 rfl rfl rfl ?_
  refine xv_callSv (pc' := 4) hF (c_PD_needSlot K n h i hi) xq_PD_needSlot xk_PD_m93 xk_t_PD_needSlot ⟨(Nat.le_of_ble_eq_true rfl), (Nat.le_of_ble_eq_true rfl)⟩ rfl rfl (Nat.le_of_ble_eq_true rfl) ⟨(Nat.le_of_ble_eq_true rfl), (Nat.le_of_ble_eq_true rfl)⟩ xd_PD_pairs_1 rfl (fun n1 h1 q1 => ?_)
  obtain ⟨rfl, rfl⟩ := q1
  refine xv_iload_n (pc' := 5) (i := 2) hF xd_PD_pairs_4 rfl rfl rfl ?_
  refine xv_callSv (pc' := 8) hF (c_PD_needSlot K n h j hj) xq_PD_needSlot xk_PD_m93 xk_t_PD_needSlot ⟨(Nat.le_of_ble_eq_true rfl), (Nat.le_of_ble_eq_true rfl)⟩ rfl rfl (Nat.le_of_ble_eq_true rfl) ⟨(Nat.le_of_ble_eq_true rfl), (Nat.le_of_ble_eq_true rfl)⟩ xd_PD_pairs_5 rfl (fun n1 h1 q1 => ?_)
  obtain ⟨rfl, rfl⟩ := q1
  refine xv_iload_n (pc' := 9) (i := 3) hF xd_PD_pairs_8 rfl rfl rfl ?_
  refine xv_if_ltN (pc' := 12) (tgt := 17) hF (by omega) xd_PD_pairs_9 (by decide) rfl ?_
  refine xv_iload_n (pc' := 13) (i := 3) hF xd_PD_pairs_12 rfl rfl rfl ?_
  refine xv_iconstN (pc' := 14) 4 hF xd_PD_pairs_13 (by decide +kernel) rfl ?_
  refine xv_icmp_leN (pc' := 17) (tgt := 27) hF (by omega) (by omega) xd_PD_pairs_14 (by decide) rfl (fun e1 => ?_) (fun e1 => ?_)
  · refine xv_aload_n (pc' := 28) (i := 0) hF xd_PD_pairs_27 rfl rfl rfl ?_
    refine xv_iload_n (pc' := 29) (i := 1) hF xd_PD_pairs_28 rfl rfl rfl ?_
    refine xv_callVr (pc' := 32) (ci := 0) hF (c_PD_relationOf K n h o e w made i md E Tg cs OS SX kn hr hi hmd) xq_PD_relationOf xk_PD_m106 xk_i_PD_relationOf xk_s_PD_relationOf (by first | assumption | exact xu_self | (refine (xu_ne (by omega)).trans ?_; first | assumption | exact xu_self | (refine (xu_ne (by omega)).trans ?_; first | assumption | exact xu_self | (refine (xu_ne (by omega)).trans ?_; first | assumption | exact xu_self | (refine (xu_ne (by omega)).trans ?_; first | assumption | exact xu_self))))) rfl ⟨(Nat.le_of_ble_eq_true rfl), (Nat.le_of_ble_eq_true rfl)⟩ rfl rfl (Nat.le_of_ble_eq_true rfl) ⟨(by simp only [xrm]; omega), (by simp only [xrm]; omega)⟩ xd_PD_pairs_29 rfl (fun r n1 h1 q1 => ?_)
    obtain ⟨rfl, rfl, f1, d1, M0, -, -⟩ := q1
    obtain ⟨p1', -⟩ := id d1
    refine xv_astore (pc' := 34) hF xd_PD_pairs_32 (Nat.le_of_ble_eq_true rfl) rfl rfl ?_
    refine xv_iload_n (pc' := 35) (i := 3) hF xd_PD_pairs_34 rfl rfl rfl ?_
    refine xv_if_neN (pc' := 38) (tgt := 44) hF (by omega) xd_PD_pairs_35 (by decide) rfl (fun e2 => ?_) (fun e2 => ?_)
    · refine xv_aload_n (pc' := 45) (i := 0) hF xd_PD_pairs_44 rfl rfl rfl ?_
      refine xv_iload_n (pc' := 46) (i := 2) hF xd_PD_pairs_45 rfl rfl rfl ?_
      refine xv_callVr (pc' := 49) (ci := 0) hF (c_PD_relationOf K (n + 3 * (md - made)) h1 o e w md j md2 E Tg cs OS SX (va_up kn i true) d1 hj hm2) xq_PD_relationOf xk_PD_m106 xk_i_PD_relationOf xk_s_PD_relationOf (by first | assumption | exact xu_self | (refine (xu_ne (by omega)).trans ?_; first | assumption | exact xu_self | (refine (xu_ne (by omega)).trans ?_; first | assumption | exact xu_self | (refine (xu_ne (by omega)).trans ?_; first | assumption | exact xu_self | (refine (xu_ne (by omega)).trans ?_; first | assumption | exact xu_self))))) rfl ⟨(Nat.le_of_ble_eq_true rfl), (Nat.le_of_ble_eq_true rfl)⟩ rfl rfl (Nat.le_of_ble_eq_true rfl) ⟨(by simp only [xrm]; omega), (by simp only [xrm]; omega)⟩ xd_PD_pairs_46 rfl (fun r n2 h2 q2 => ?_)
      obtain ⟨rfl, e3, f2, d2, N, n1, n2⟩ := q2
      have e4 : n + 3 * (md - made) + 3 * (md2 - md) = n + 3 * (md2 - made) := by omega
      rw [e4] at e3
      subst e3
      obtain ⟨-, -, -, -, -, -, -, -, -, -, df⟩ := id d2
      obtain ⟨M, m1, m2⟩ := df i hi
      have m2 := m2 (by unfold va_up; split; rfl; rw [if_pos rfl])
      obtain ⟨mf, mg, ⟨m3, m4, m5⟩, m6⟩ := id m1
      obtain ⟨nf, ng, ⟨n3, n4, n5⟩, n6⟩ := id n1
      refine xv_astore (pc' := 51) hF xd_PD_pairs_49 (Nat.le_of_ble_eq_true rfl) rfl rfl ?_
      refine xv_iload_n (pc' := 52) (i := 3) hF xd_PD_pairs_51 rfl rfl rfl ?_
      have hc : how = 1 ∨ how = 2 ∨ how = 3 ∨ how = 4 := by omega
      rcases hc with rfl | rfl | rfl | rfl
      · refine xv_tabIn (off := 28) (tgt := 80) hF xd_PD_pairs_52 (by decide +kernel) (by decide +kernel) (by decide +kernel) (by decide) ?_
        refine xv_aload (pc' := 82) hF xd_PD_pairs_80 rfl rfl ?_
        refine xv_aload (pc' := 84) hF xd_PD_pairs_82 rfl rfl ?_
        refine xv_callVi (pc' := 87) (ci := 2) hF (c_RE_pairsSharedWith K _ h2 _ _ M N m1 n1) xq_RE_pairsSharedWith xk_PD_m130 xk_i_RE_pairsSharedWith xk_s_RE_pairsSharedWith (by first | assumption | exact xu_self | (refine (xu_ne (by omega)).trans ?_; first | assumption | exact xu_self | (refine (xu_ne (by omega)).trans ?_; first | assumption | exact xu_self | (refine (xu_ne (by omega)).trans ?_; first | assumption | exact xu_self | (refine (xu_ne (by omega)).trans ?_; first | assumption | exact xu_self))))) rfl ⟨(Nat.le_of_ble_eq_true rfl), (Nat.le_of_ble_eq_true rfl)⟩ rfl rfl (Nat.le_of_ble_eq_true rfl) ⟨(by simp only [xrm]; omega), (by simp only [xrm]; omega)⟩ xd_PD_pairs_84 rfl (fun r n3 h3 q3 => ?_)
        obtain ⟨rfl, rfl, rfl⟩ := q3
        refine hR _ _ _ _ _ _ _ (by omega) (by omega) ?_ xd_PD_pairs_87
        exact ⟨M, N, m2, n2, rfl, rfl, f1.tr f2, d2⟩
      · refine xv_tabIn (off := 36) (tgt := 88) hF xd_PD_pairs_52 (by decide +kernel) (by decide +kernel) (by decide +kernel) (by decide) ?_
        refine xv_aload (pc' := 90) hF xd_PD_pairs_88 rfl rfl ?_
        refine xv_callVi (pc' := 93) (ci := 2) hF (c_RE_pairCount K _ h2 _ M m1) xq_RE_pairCount xk_PD_m127 xk_i_RE_pairCount xk_s_RE_pairCount (by first | assumption | exact xu_self | (refine (xu_ne (by omega)).trans ?_; first | assumption | exact xu_self | (refine (xu_ne (by omega)).trans ?_; first | assumption | exact xu_self | (refine (xu_ne (by omega)).trans ?_; first | assumption | exact xu_self | (refine (xu_ne (by omega)).trans ?_; first | assumption | exact xu_self))))) rfl ⟨(Nat.le_of_ble_eq_true rfl), (Nat.le_of_ble_eq_true rfl)⟩ rfl rfl (Nat.le_of_ble_eq_true rfl) ⟨(by simp only [xrm]; omega), (by simp only [xrm]; omega)⟩ xd_PD_pairs_90 rfl (fun r n3 h3 q3 => ?_)
        obtain ⟨rfl, rfl, rfl⟩ := q3
        refine xv_aload (pc' := 95) hF xd_PD_pairs_93 rfl rfl ?_
        refine xv_aload (pc' := 97) hF xd_PD_pairs_95 rfl rfl ?_
        refine xv_callVi (pc' := 100) (ci := 2) hF (c_RE_pairsSharedWith K _ h2 _ _ M N m1 n1) xq_RE_pairsSharedWith xk_PD_m130 xk_i_RE_pairsSharedWith xk_s_RE_pairsSharedWith (by first | assumption | exact xu_self | (refine (xu_ne (by omega)).trans ?_; first | assumption | exact xu_self | (refine (xu_ne (by omega)).trans ?_; first | assumption | exact xu_self | (refine (xu_ne (by omega)).trans ?_; first | assumption | exact xu_self | (refine (xu_ne (by omega)).trans ?_; first | assumption | exact xu_self))))) rfl ⟨(Nat.le_of_ble_eq_true rfl), (Nat.le_of_ble_eq_true rfl)⟩ rfl rfl (Nat.le_of_ble_eq_true rfl) ⟨(by simp only [xrm]; omega), (by simp only [xrm]; omega)⟩ xd_PD_pairs_97 rfl (fun r n3 h3 q3 => ?_)
        obtain ⟨rfl, rfl, rfl⟩ := q3
        have hsp := bc_split (fun z => decide (M (z / 32) (z % 32) < 1000000)) (fun z => decide (N (z / 32) (z % 32) < 1000000)) 1024
        have hsp : md_cn (fun i j => decide (M i j < 1000000) && decide (N i j < 1000000)) 1024 + md_cn (fun i j => decide (M i j < 1000000) && !decide (N i j < 1000000)) 1024 = md_cn (fun i j => decide (M i j < 1000000)) 1024 := hsp
        first | refine xv_isubN (pc' := 101) hF (by omega) xd_PD_pairs_100 rfl ?_ | refine xv_isub (pc' := 101) hF xd_PD_pairs_100 rfl ?_
        refine hR _ _ _ _ _ _ _ (by omega) (by omega) ?_ xd_PD_pairs_101
        refine ⟨M, N, m2, n2, ?_, rfl, f1.tr f2, d2⟩
        show nI _ = nI (md_cn (fun i j => decide (M i j < 1000000) && !decide (N i j < 1000000)) 1024)
        congr 1
        omega
      · refine xv_tabIn (off := 50) (tgt := 102) hF xd_PD_pairs_52 (by decide +kernel) (by decide +kernel) (by decide +kernel) (by decide) ?_
        refine xv_aload (pc' := 104) hF xd_PD_pairs_102 rfl rfl ?_
        refine xv_aload (pc' := 106) hF xd_PD_pairs_104 rfl rfl ?_
        refine xv_callVi (pc' := 109) (ci := 2) hF (c_RE_pairsTurnedIn K _ h2 _ _ M N m1 n1) xq_RE_pairsTurnedIn xk_PD_m134 xk_i_RE_pairsTurnedIn xk_s_RE_pairsTurnedIn (by first | assumption | exact xu_self | (refine (xu_ne (by omega)).trans ?_; first | assumption | exact xu_self | (refine (xu_ne (by omega)).trans ?_; first | assumption | exact xu_self | (refine (xu_ne (by omega)).trans ?_; first | assumption | exact xu_self | (refine (xu_ne (by omega)).trans ?_; first | assumption | exact xu_self))))) rfl ⟨(Nat.le_of_ble_eq_true rfl), (Nat.le_of_ble_eq_true rfl)⟩ rfl rfl (Nat.le_of_ble_eq_true rfl) ⟨(by simp only [xrm]; omega), (by simp only [xrm]; omega)⟩ xd_PD_pairs_106 rfl (fun r n3 h3 q3 => ?_)
        obtain ⟨rfl, rfl, rfl⟩ := q3
        refine hR _ _ _ _ _ _ _ (by omega) (by omega) ?_ xd_PD_pairs_109
        exact ⟨M, N, m2, n2, rfl, rfl, f1.tr f2, d2⟩
      · refine xv_tabOut (tgt := 110) hF xd_PD_pairs_52 (by decide +kernel) (by decide) ?_
        refine xv_aload (pc' := 112) hF xd_PD_pairs_110 rfl rfl ?_
        refine xv_aload (pc' := 114) hF xd_PD_pairs_112 rfl rfl ?_
        refine xv_callVi (pc' := 117) (ci := 2) hF (c_RE_pairsLedOnBy K _ h2 _ _ M N m1 n1) xq_RE_pairsLedOnBy xk_PD_m137 xk_i_RE_pairsLedOnBy xk_s_RE_pairsLedOnBy (by first | assumption | exact xu_self | (refine (xu_ne (by omega)).trans ?_; first | assumption | exact xu_self | (refine (xu_ne (by omega)).trans ?_; first | assumption | exact xu_self | (refine (xu_ne (by omega)).trans ?_; first | assumption | exact xu_self | (refine (xu_ne (by omega)).trans ?_; first | assumption | exact xu_self))))) rfl ⟨(Nat.le_of_ble_eq_true rfl), (Nat.le_of_ble_eq_true rfl)⟩ rfl rfl (Nat.le_of_ble_eq_true rfl) ⟨(by simp only [xrm]; omega), (by simp only [xrm]; omega)⟩ xd_PD_pairs_114 rfl (fun r n3 h3 q3 => ?_)
        obtain ⟨rfl, rfl, rfl⟩ := q3
        refine hR _ _ _ _ _ _ _ (by omega) (by omega) ?_ xd_PD_pairs_117
        exact ⟨M, N, m2, n2, rfl, rfl, f1.tr f2, d2⟩
    · omega
  · omega
set_option maxHeartbeats 4000000 in
set_option maxRecDepth 100000 in
theorem c_PD_pairs0 (K : xK) (n : Nat) (h : xH) (o e w made i md j : Nat) (E : Nat → Nat → Nat → Bool) (Tg : Nat → Nat → Bool) (cs : Nat → Nat) (OS : Nat → List Nat) (SX : Nat → Nat) (kn : Nat → Bool) (hr : dk_R K h n o E Tg e cs w OS SX kn made) (hi : i < 4) (hmd : md = if kn i then made else bx_bm (OS i) made (OS i).length) (hj : j < 4) : XM K xy_PD_pairs xw_PD_pairs (xrm 7 149 (3 * (md - made)) (1058 * (md - made))) [.ref o, .int (nI i), .int (nI j), .int (nI 0)] n h (x_pi fun r n' h' => ∃ M, pd_mn (bx_ak E Tg (OS i) (OS i).length 0) M ∧ r = nI (dk_pr 0 M M) ∧ n' = n + 3 * (md - made) ∧ dk_fr o h h' ∧ dk_R K h' n' o E Tg e cs w OS SX (va_up kn i true) md) (3 * (md - made)) (1058 * (md - made)) := by
  obtain ⟨p1, -⟩ := id hr
  refine xm_i (by decide +kernel) (Nat.le_of_ble_eq_true rfl) (fun G hF hR => ?_)
  refine xv_iload_n (pc' := 1) (i := 1) hF xd_PD_pairs_0 rfl rfl rfl ?_
  refine xv_callSv (pc' := 4) hF (c_PD_needSlot K n h i hi) xq_PD_needSlot xk_PD_m93 xk_t_PD_needSlot ⟨(Nat.le_of_ble_eq_true rfl), (Nat.le_of_ble_eq_true rfl)⟩ rfl rfl (Nat.le_of_ble_eq_true rfl) ⟨(Nat.le_of_ble_eq_true rfl), (Nat.le_of_ble_eq_true rfl)⟩ xd_PD_pairs_1 rfl (fun n1 h1 q1 => ?_)
  obtain ⟨rfl, rfl⟩ := q1
  refine xv_iload_n (pc' := 5) (i := 2) hF xd_PD_pairs_4 rfl rfl rfl ?_
  refine xv_callSv (pc' := 8) hF (c_PD_needSlot K n h j hj) xq_PD_needSlot xk_PD_m93 xk_t_PD_needSlot ⟨(Nat.le_of_ble_eq_true rfl), (Nat.le_of_ble_eq_true rfl)⟩ rfl rfl (Nat.le_of_ble_eq_true rfl) ⟨(Nat.le_of_ble_eq_true rfl), (Nat.le_of_ble_eq_true rfl)⟩ xd_PD_pairs_5 rfl (fun n1 h1 q1 => ?_)
  obtain ⟨rfl, rfl⟩ := q1
  refine xv_iload_n (pc' := 9) (i := 3) hF xd_PD_pairs_8 rfl rfl rfl ?_
  refine xv_if_ltN (pc' := 12) (tgt := 17) hF (by omega) xd_PD_pairs_9 (by decide) rfl ?_
  refine xv_iload_n (pc' := 13) (i := 3) hF xd_PD_pairs_12 rfl rfl rfl ?_
  refine xv_iconstN (pc' := 14) 4 hF xd_PD_pairs_13 (by decide +kernel) rfl ?_
  refine xv_icmp_leN (pc' := 17) (tgt := 27) hF (by omega) (by omega) xd_PD_pairs_14 (by decide) rfl (fun e1 => ?_) (fun e1 => ?_)
  · refine xv_aload_n (pc' := 28) (i := 0) hF xd_PD_pairs_27 rfl rfl rfl ?_
    refine xv_iload_n (pc' := 29) (i := 1) hF xd_PD_pairs_28 rfl rfl rfl ?_
    refine xv_callVr (pc' := 32) (ci := 0) hF (c_PD_relationOf K n h o e w made i md E Tg cs OS SX kn hr hi hmd) xq_PD_relationOf xk_PD_m106 xk_i_PD_relationOf xk_s_PD_relationOf (by first | assumption | exact xu_self | (refine (xu_ne (by omega)).trans ?_; first | assumption | exact xu_self | (refine (xu_ne (by omega)).trans ?_; first | assumption | exact xu_self | (refine (xu_ne (by omega)).trans ?_; first | assumption | exact xu_self | (refine (xu_ne (by omega)).trans ?_; first | assumption | exact xu_self))))) rfl ⟨(Nat.le_of_ble_eq_true rfl), (Nat.le_of_ble_eq_true rfl)⟩ rfl rfl (Nat.le_of_ble_eq_true rfl) ⟨(by simp only [xrm]; omega), (by simp only [xrm]; omega)⟩ xd_PD_pairs_29 rfl (fun r n1 h1 q1 => ?_)
    obtain ⟨rfl, rfl, f1, d1, M, m1, m2⟩ := q1
    obtain ⟨mf, mg, ⟨m3, m4, m5⟩, m6⟩ := id m1
    refine xv_astore (pc' := 34) hF xd_PD_pairs_32 (Nat.le_of_ble_eq_true rfl) rfl rfl ?_
    refine xv_iload_n (pc' := 35) (i := 3) hF xd_PD_pairs_34 rfl rfl rfl ?_
    refine xv_if_neN (pc' := 38) (tgt := 44) hF (by omega) xd_PD_pairs_35 (by decide) rfl (fun e2 => ?_) (fun e2 => ?_)
    · omega
    · refine xv_aload (pc' := 40) hF xd_PD_pairs_38 rfl rfl ?_
      refine xv_callVi (pc' := 43) (ci := 2) hF (c_RE_pairCount K _ h1 _ M m1) xq_RE_pairCount xk_PD_m127 xk_i_RE_pairCount xk_s_RE_pairCount (by first | assumption | exact xu_self | (refine (xu_ne (by omega)).trans ?_; first | assumption | exact xu_self | (refine (xu_ne (by omega)).trans ?_; first | assumption | exact xu_self | (refine (xu_ne (by omega)).trans ?_; first | assumption | exact xu_self | (refine (xu_ne (by omega)).trans ?_; first | assumption | exact xu_self))))) rfl ⟨(Nat.le_of_ble_eq_true rfl), (Nat.le_of_ble_eq_true rfl)⟩ rfl rfl (Nat.le_of_ble_eq_true rfl) ⟨(by simp only [xrm]; omega), (by simp only [xrm]; omega)⟩ xd_PD_pairs_40 rfl (fun r n3 h3 q3 => ?_)
      obtain ⟨rfl, rfl, rfl⟩ := q3
      refine hR _ _ _ _ _ _ _ (by omega) (by omega) ?_ xd_PD_pairs_43
      exact ⟨M, m2, rfl, rfl, f1, d1⟩
  · omega
