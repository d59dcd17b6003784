/-! Reader: a character taken, or not -/
def rd_po (K : xK) (o x : Nat) (h : xH) (n sx : Nat) (F : Option rs_T) : Int32 → Nat → xH → Prop := fun r n' h' => n = n' ∧ rd_fr o x h h' ∧ ((∃ q', F = some q' ∧ r = xb true ∧ rd_R K h' o x q' sx) ∨ (F = none ∧ r = xb false ∧ ∃ q', rd_R K h' o x q' sx))
theorem rd_po.nar {K : xK} {o x n sx n' : Nat} {h h' : xH} {F : Option rs_T} {r : Int32} (p : rd_po K o x h n sx F r n' h') : narrow .boolean (.int r) = .int r := by
  rcases p.2.2 with ⟨_, -, rfl, -⟩ | ⟨-, rfl, -⟩ <;> exact xb_nw _
theorem xv_look {G : xG} {K : xK} {cc : ByteArray} {own : String} {rm0 : Room} {mL k kS pc n : Nat} {L : List (Nat × Value)} {st : List Value} {h : xH} {dflt : Int} {ps : Array (Int × Int)} {len : Nat} {x : Int32} {off : Int} {tgt : Nat} (hF : XF G K cc own rm0 mL) (hd : decode cc pc = .ok (.lookupswitch dflt ps, len)) (hps : (ps.toList.zip (ps.toList.drop 1)).all (fun (a, next) => a.1 < next.1) = true) (ho : Op.lookupswitch.offset ps.toList dflt x.toInt = off) (ht : (pc : Int) + off = (tgt : Int)) (kk : XV G k kS tgt L st n h) : XV G k kS pc L (.int x :: st) n h := by
  obtain ⟨p, e, R, s, m, args, below, meth, c, ⟨l, D, cx, b⟩, H0, maxL, Q⟩ := G
  obtain ⟨⟨hx, hb, hml, hown, hts⟩, hK, rfl, hbs, rfl, rfl, hN⟩ := hF
  intro H locs ls hok hS hl
  exact lv_lookup hx hb hd hps ho ht (kk H locs ls hok hS hl)
set_option maxHeartbeats 4000000 in
set_option maxRecDepth 100000 in
theorem c_RD_isDigit (K : xK) (n : Nat) (h : xH) (c : Nat) (hc : c < 256) : XM K xy_RD_isDigit xw_RD_isDigit (xrm 0 0 0 0) [.int (nI c)] n h (x_pi fun r n' h' => r = xb (decide (48 ≤ c ∧ c ≤ 57)) ∧ n = n' ∧ h = h') 0 0 := by
  refine xm_z (by decide +kernel) (Nat.le_of_ble_eq_true rfl) (fun G hF hR => ?_)
  refine xv_iload_n (pc' := 1) (i := 0) hF xd_RD_isDigit_0 rfl rfl rfl ?_
  refine xv_bipushN (pc' := 3) 48 hF xd_RD_isDigit_1 (by decide +kernel) rfl ?_
  refine xv_icmp_ltN (pc' := 6) (tgt := 16) hF (by omega) (by omega) xd_RD_isDigit_3 (by decide) rfl (fun e => ?_) (fun e => ?_)
  · refine xv_iconstN (pc' := 17) 0 hF xd_RD_isDigit_16 (by decide +kernel) rfl ?_
    refine hR _ _ _ _ _ _ _ (by omega) (by omega) ?_ (by first | rfl | exact xb_nw _ | decide +kernel) xd_RD_isDigit_17
    exact ⟨by rw [decide_eq_false (by omega)]; decide +kernel, rfl, rfl⟩
  · refine xv_iload_n (pc' := 7) (i := 0) hF xd_RD_isDigit_6 rfl rfl rfl ?_
    refine xv_bipushN (pc' := 9) 57 hF xd_RD_isDigit_7 (by decide +kernel) rfl ?_
    refine xv_icmp_gtN (pc' := 12) (tgt := 16) hF (by omega) (by omega) xd_RD_isDigit_9 (by decide) rfl (fun e2 => ?_) (fun e2 => ?_)
    · refine xv_iconstN (pc' := 17) 0 hF xd_RD_isDigit_16 (by decide +kernel) rfl ?_
      refine hR _ _ _ _ _ _ _ (by omega) (by omega) ?_ (by first | rfl | exact xb_nw _ | decide +kernel) xd_RD_isDigit_17
      exact ⟨by rw [decide_eq_false (by omega)]; decide +kernel, rfl, rfl⟩
    · refine xv_iconstN (pc' := 13) 1 hF xd_RD_isDigit_12 (by decide +kernel) rfl ?_
      refine xv_goto (tgt := 17) hF xd_RD_isDigit_13 (by decide) ?_
      refine hR _ _ _ _ _ _ _ (by omega) (by omega) ?_ (by first | rfl | exact xb_nw _ | decide +kernel) xd_RD_isDigit_17
      exact ⟨by rw [decide_eq_true (by omega)]; decide +kernel, rfl, rfl⟩
theorem nI_sh1 : ∀ l, l < 8 → nI 1 <<< (nI l &&& 31) = nI (2 ^ l) := by decide +kernel
set_option maxHeartbeats 4000000 in
set_option maxRecDepth 100000 in
theorem c_RD_takeStep (K : xK) (n : Nat) (h : xH) (o x c k : Nat) (q : rs_T) (sx : Nat) (hr : rd_R K h o x q sx) (hl : rp_ln q < 203) (hc : c < 256) (hk : k < 16) : XM K xy_RD_takeStep xw_RD_takeStep (xrm 3 64 0 0) [.ref (o + 4), .int (nI c), .int (nI k)] n h (x_pi (rd_po K o x h n sx (rp_st c k q))) 0 0 := by
  obtain ⟨p1, -⟩ := id hr
  refine xm_z (by decide +kernel) (Nat.le_of_ble_eq_true rfl) (fun G hF hR => ?_)
  refine xv_iload_n (pc' := 1) (i := 1) hF xd_RD_takeStep_0 rfl rfl rfl ?_
  refine xv_bipushN (pc' := 3) 46 hF xd_RD_takeStep_1 (by decide +kernel) rfl ?_
  refine xv_icmp_neN (pc' := 6) (tgt := 20) hF (by omega) (by omega) xd_RD_takeStep_3 (by decide) rfl (fun e => ?_) (fun e => ?_)
  · have no : ¬ (97 ≤ c ∧ c < 105) → XV G 0 0 35 [(0, .ref (o + 4))] [] n h := by
      intro hn
      refine xv_iconstN (pc' := 36) 0 hF xd_RD_takeStep_35 (by decide +kernel) rfl ?_
      refine hR _ _ _ _ _ _ _ (by omega) (by omega) ?_ (by first | rfl | exact xb_nw _ | decide +kernel) xd_RD_takeStep_36
      exact ⟨rfl, rd_fr.rf, Or.inr ⟨by unfold rp_st; rw [if_neg e, if_neg hn], by decide +kernel, q, hr⟩⟩
    by_cases c97 : 97 ≤ c
    · refine xv_iload_n (pc' := 21) (i := 1) hF xd_RD_takeStep_20 rfl rfl rfl ?_
      refine xv_bipushN (pc' := 23) 97 hF xd_RD_takeStep_21 (by decide +kernel) rfl ?_
      first | refine xv_isubN (pc' := 24) hF (by omega) xd_RD_takeStep_23 rfl ?_ | refine xv_isub (pc' := 24) hF xd_RD_takeStep_23 rfl ?_
      refine xv_istore_n (pc' := 25) (i := 3) hF xd_RD_takeStep_24 rfl (Nat.le_of_ble_eq_true rfl) rfl rfl ?_
      refine xv_iload_n (pc' := 26) (i := 3) hF xd_RD_takeStep_25 rfl rfl rfl ?_
      refine xv_if_ltN (pc' := 29) (tgt := 35) hF (by omega) xd_RD_takeStep_26 (by decide) rfl ?_
      refine xv_iload_n (pc' := 30) (i := 3) hF xd_RD_takeStep_29 rfl rfl rfl ?_
      refine xv_bipushN (pc' := 32) 8 hF xd_RD_takeStep_30 (by decide +kernel) rfl ?_
      refine xv_icmp_ltN (pc' := 35) (tgt := 37) hF (by omega) (by omega) xd_RD_takeStep_32 (by decide) rfl (fun e2 => ?_) (fun e2 => ?_)
      · refine xv_aload_n (pc' := 38) (i := 0) hF xd_RD_takeStep_37 rfl rfl rfl ?_
        refine xv_iload_n (pc' := 39) (i := 2) hF xd_RD_takeStep_38 rfl rfl rfl ?_
        refine xv_iconstN (pc' := 40) 1 hF xd_RD_takeStep_39 (by decide +kernel) rfl ?_
        refine xv_iload_n (pc' := 41) (i := 3) hF xd_RD_takeStep_40 rfl rfl rfl ?_
        refine xv_ishl (pc' := 42) hF xd_RD_takeStep_41 rfl ?_
        refine xv_topi (nI_sh1 _ e2) ?_
        have pw : 2 ^ (c - 97) < 100000 := Nat.lt_of_lt_of_le (Nat.pow_lt_pow_right (by decide) e2) (by decide)
        refine xv_callVv (pc' := 45) (ci := 4) hF (c_RD_addStep K n h o x k (2 ^ (c - 97)) q sx hr hl hk pw) xq_RD_addStep xk_RD_m98 xk_i_RD_addStep xk_s_RD_addStep (by first | assumption | exact xu_self | (refine (xu_ne (by omega)).trans ?_; first | assumption | exact xu_self | (refine (xu_ne (by omega)).trans ?_; first | assumption | exact xu_self | (refine (xu_ne (by omega)).trans ?_; first | assumption | exact xu_self | (refine (xu_ne (by omega)).trans ?_; first | assumption | exact xu_self))))) rfl ⟨(Nat.le_of_ble_eq_true rfl), (Nat.le_of_ble_eq_true rfl)⟩ rfl rfl (Nat.le_of_ble_eq_true rfl) ⟨(Nat.le_of_ble_eq_true rfl), (Nat.le_of_ble_eq_true rfl)⟩ xd_RD_takeStep_42 rfl (fun n1 h1 q1 => ?_)
        obtain ⟨rfl, f1, r1⟩ := q1
        clear p1
        obtain ⟨p1, -⟩ := id r1
        refine xv_aload_n (pc' := 46) (i := 0) hF xd_RD_takeStep_45 rfl rfl rfl ?_
        refine xv_iconstN (pc' := 47) 0 hF xd_RD_takeStep_46 (by decide +kernel) rfl ?_
        refine xv_callVi (pc' := 50) (ci := 4) hF (c_RD_goOnTo K n h1 o x 0 _ sx r1 (by decide)) xq_RD_goOnTo xk_RD_m69 xk_i_RD_goOnTo xk_s_RD_goOnTo (by first | assumption | exact xu_self | (refine (xu_ne (by omega)).trans ?_; first | assumption | exact xu_self | (refine (xu_ne (by omega)).trans ?_; first | assumption | exact xu_self | (refine (xu_ne (by omega)).trans ?_; first | assumption | exact xu_self | (refine (xu_ne (by omega)).trans ?_; first | assumption | exact xu_self))))) rfl ⟨(Nat.le_of_ble_eq_true rfl), (Nat.le_of_ble_eq_true rfl)⟩ rfl rfl (Nat.le_of_ble_eq_true rfl) ⟨(Nat.le_of_ble_eq_true rfl), (Nat.le_of_ble_eq_true rfl)⟩ xd_RD_takeStep_47 rfl (fun r n2 h2 q2 => ?_)
        obtain ⟨rfl, rfl, f2, r2⟩ := q2
        refine hR _ _ _ _ _ _ _ (by omega) (by omega) ?_ (by first | rfl | exact xb_nw _ | decide +kernel) xd_RD_takeStep_50
        exact ⟨rfl, f1.tr f2, Or.inl ⟨_, by unfold rp_st; rw [if_neg e, if_pos ⟨c97, by omega⟩] <;> rfl, rfl, r2⟩⟩
      · exact xv_loc _ (by repeat (first | exact trivial | refine ⟨rfl, ?_⟩)) (no (by omega))
    · refine xv_iload_n (pc' := 21) (i := 1) hF xd_RD_takeStep_20 rfl rfl rfl ?_
      refine xv_bipushN (pc' := 23) 97 hF xd_RD_takeStep_21 (by decide +kernel) rfl ?_
      refine xv_isub (pc' := 24) hF xd_RD_takeStep_23 rfl ?_
      refine xv_istore_n (pc' := 25) (i := 3) hF xd_RD_takeStep_24 rfl (Nat.le_of_ble_eq_true rfl) rfl rfl ?_
      refine xv_iload_n (pc' := 26) (i := 3) hF xd_RD_takeStep_25 rfl rfl rfl ?_
      refine xv_if_lt (pc' := 29) (tgt := 35) hF xd_RD_takeStep_26 (by decide) rfl (fun e2 => ?_) (fun e2 => ?_)
      · exact xv_loc _ (by repeat (first | exact trivial | refine ⟨rfl, ?_⟩)) (no (by omega))
      · exact absurd (pk_sneg (by omega) (by omega)) e2
  · subst e
    refine xv_aload_n (pc' := 7) (i := 0) hF xd_RD_takeStep_6 rfl rfl rfl ?_
    refine xv_iload_n (pc' := 8) (i := 2) hF xd_RD_takeStep_7 rfl rfl rfl ?_
    refine xv_sipushN (pc' := 11) 255 hF xd_RD_takeStep_8 (by decide +kernel) rfl ?_
    refine xv_callVv (pc' := 14) (ci := 4) hF (c_RD_addStep K n h o x k 255 q sx hr hl hk (by decide)) xq_RD_addStep xk_RD_m98 xk_i_RD_addStep xk_s_RD_addStep (by first | assumption | exact xu_self | (refine (xu_ne (by omega)).trans ?_; first | assumption | exact xu_self | (refine (xu_ne (by omega)).trans ?_; first | assumption | exact xu_self | (refine (xu_ne (by omega)).trans ?_; first | assumption | exact xu_self | (refine (xu_ne (by omega)).trans ?_; first | assumption | exact xu_self))))) rfl ⟨(Nat.le_of_ble_eq_true rfl), (Nat.le_of_ble_eq_true rfl)⟩ rfl rfl (Nat.le_of_ble_eq_true rfl) ⟨(Nat.le_of_ble_eq_true rfl), (Nat.le_of_ble_eq_true rfl)⟩ xd_RD_takeStep_11 rfl (fun n1 h1 q1 => ?_)
    obtain ⟨rfl, f1, r1⟩ := q1
    clear p1
    obtain ⟨p1, -⟩ := id r1
    refine xv_aload_n (pc' := 15) (i := 0) hF xd_RD_takeStep_14 rfl rfl rfl ?_
    refine xv_iconstN (pc' := 16) 0 hF xd_RD_takeStep_15 (by decide +kernel) rfl ?_
    refine xv_callVi (pc' := 19) (ci := 4) hF (c_RD_goOnTo K n h1 o x 0 _ sx r1 (by decide)) xq_RD_goOnTo xk_RD_m69 xk_i_RD_goOnTo xk_s_RD_goOnTo (by first | assumption | exact xu_self | (refine (xu_ne (by omega)).trans ?_; first | assumption | exact xu_self | (refine (xu_ne (by omega)).trans ?_; first | assumption | exact xu_self | (refine (xu_ne (by omega)).trans ?_; first | assumption | exact xu_self | (refine (xu_ne (by omega)).trans ?_; first | assumption | exact xu_self))))) rfl ⟨(Nat.le_of_ble_eq_true rfl), (Nat.le_of_ble_eq_true rfl)⟩ rfl rfl (Nat.le_of_ble_eq_true rfl) ⟨(Nat.le_of_ble_eq_true rfl), (Nat.le_of_ble_eq_true rfl)⟩ xd_RD_takeStep_16 rfl (fun r n2 h2 q2 => ?_)
    obtain ⟨rfl, rfl, f2, r2⟩ := q2
    refine hR _ _ _ _ _ _ _ (by omega) (by omega) ?_ (by first | rfl | exact xb_nw _ | decide +kernel) xd_RD_takeStep_19
    exact ⟨rfl, f1.tr f2, Or.inl ⟨_, by unfold rp_st; rw [if_pos rfl] <;> rfl, rfl, r2⟩⟩
set_option maxHeartbeats 4000000 in
set_option maxRecDepth 100000 in
theorem c_RD_takeTag (K : xK) (n : Nat) (h : xH) (o x c k : Nat) (q : rs_T) (sx : Nat) (hr : rd_R K h o x q sx) (hl : rp_ln q < 203) (hc : c < 256) (hk : k < 16) : XM K xy_RD_takeTag xw_RD_takeTag (xrm 3 64 0 0) [.ref (o + 4), .int (nI c), .int (nI k)] n h (x_pi (rd_po K o x h n sx (rp_tg c k q))) 0 0 := by
  obtain ⟨p1, -⟩ := id hr
  refine xm_z (by decide +kernel) (Nat.le_of_ble_eq_true rfl) (fun G hF hR => ?_)
  have no : ¬ (48 ≤ c ∧ c < 52) → XV G 0 0 14 [(0, .ref (o + 4))] [] n h := by
    intro hn
    refine xv_iconstN (pc' := 15) 0 hF xd_RD_takeTag_14 (by decide +kernel) rfl ?_
    refine hR _ _ _ _ _ _ _ (by omega) (by omega) ?_ (by first | rfl | exact xb_nw _ | decide +kernel) xd_RD_takeTag_15
    exact ⟨rfl, rd_fr.rf, Or.inr ⟨by unfold rp_tg; rw [if_neg hn], by decide +kernel, q, hr⟩⟩
  by_cases c48 : 48 ≤ c
  · refine xv_iload_n (pc' := 1) (i := 1) hF xd_RD_takeTag_0 rfl rfl rfl ?_
    refine xv_bipushN (pc' := 3) 48 hF xd_RD_takeTag_1 (by decide +kernel) rfl ?_
    first | refine xv_isubN (pc' := 4) hF (by omega) xd_RD_takeTag_3 rfl ?_ | refine xv_isub (pc' := 4) hF xd_RD_takeTag_3 rfl ?_
    refine xv_istore_n (pc' := 5) (i := 3) hF xd_RD_takeTag_4 rfl (Nat.le_of_ble_eq_true rfl) rfl rfl ?_
    refine xv_iload_n (pc' := 6) (i := 3) hF xd_RD_takeTag_5 rfl rfl rfl ?_
    refine xv_if_ltN (pc' := 9) (tgt := 14) hF (by omega) xd_RD_takeTag_6 (by decide) rfl ?_
    refine xv_iload_n (pc' := 10) (i := 3) hF xd_RD_takeTag_9 rfl rfl rfl ?_
    refine xv_iconstN (pc' := 11) 4 hF xd_RD_takeTag_10 (by decide +kernel) rfl ?_
    refine xv_icmp_ltN (pc' := 14) (tgt := 16) hF (by omega) (by omega) xd_RD_takeTag_11 (by decide) rfl (fun e2 => ?_) (fun e2 => ?_)
    · refine xv_aload_n (pc' := 17) (i := 0) hF xd_RD_takeTag_16 rfl rfl rfl ?_
      refine xv_iload_n (pc' := 18) (i := 2) hF xd_RD_takeTag_17 rfl rfl rfl ?_
      refine xv_iload_n (pc' := 19) (i := 3) hF xd_RD_takeTag_18 rfl rfl rfl ?_
      refine xv_callVv (pc' := 22) (ci := 4) hF (c_RD_addStep K n h o x k (c - 48) q sx hr hl hk (by omega)) xq_RD_addStep xk_RD_m98 xk_i_RD_addStep xk_s_RD_addStep (by first | assumption | exact xu_self | (refine (xu_ne (by omega)).trans ?_; first | assumption | exact xu_self | (refine (xu_ne (by omega)).trans ?_; first | assumption | exact xu_self | (refine (xu_ne (by omega)).trans ?_; first | assumption | exact xu_self | (refine (xu_ne (by omega)).trans ?_; first | assumption | exact xu_self))))) rfl ⟨(Nat.le_of_ble_eq_true rfl), (Nat.le_of_ble_eq_true rfl)⟩ rfl rfl (Nat.le_of_ble_eq_true rfl) ⟨(Nat.le_of_ble_eq_true rfl), (Nat.le_of_ble_eq_true rfl)⟩ xd_RD_takeTag_19 rfl (fun n1 h1 q1 => ?_)
      obtain ⟨rfl, f1, r1⟩ := q1
      clear p1
      obtain ⟨p1, -⟩ := id r1
      refine xv_aload_n (pc' := 23) (i := 0) hF xd_RD_takeTag_22 rfl rfl rfl ?_
      refine xv_iconstN (pc' := 24) 4 hF xd_RD_takeTag_23 (by decide +kernel) rfl ?_
      refine xv_callVi (pc' := 27) (ci := 4) hF (c_RD_goOnTo K n h1 o x 4 _ sx r1 (by decide)) xq_RD_goOnTo xk_RD_m69 xk_i_RD_goOnTo xk_s_RD_goOnTo (by first | assumption | exact xu_self | (refine (xu_ne (by omega)).trans ?_; first | assumption | exact xu_self | (refine (xu_ne (by omega)).trans ?_; first | assumption | exact xu_self | (refine (xu_ne (by omega)).trans ?_; first | assumption | exact xu_self | (refine (xu_ne (by omega)).trans ?_; first | assumption | exact xu_self))))) rfl ⟨(Nat.le_of_ble_eq_true rfl), (Nat.le_of_ble_eq_true rfl)⟩ rfl rfl (Nat.le_of_ble_eq_true rfl) ⟨(Nat.le_of_ble_eq_true rfl), (Nat.le_of_ble_eq_true rfl)⟩ xd_RD_takeTag_24 rfl (fun r n2 h2 q2 => ?_)
      obtain ⟨rfl, rfl, f2, r2⟩ := q2
      refine hR _ _ _ _ _ _ _ (by omega) (by omega) ?_ (by first | rfl | exact xb_nw _ | decide +kernel) xd_RD_takeTag_27
      exact ⟨rfl, f1.tr f2, Or.inl ⟨_, by unfold rp_tg; rw [if_pos ⟨c48, by omega⟩] <;> rfl, rfl, r2⟩⟩
    · exact xv_loc _ (by repeat (first | exact trivial | refine ⟨rfl, ?_⟩)) (no (by omega))
  · refine xv_iload_n (pc' := 1) (i := 1) hF xd_RD_takeTag_0 rfl rfl rfl ?_
    refine xv_bipushN (pc' := 3) 48 hF xd_RD_takeTag_1 (by decide +kernel) rfl ?_
    refine xv_isub (pc' := 4) hF xd_RD_takeTag_3 rfl ?_
    refine xv_istore_n (pc' := 5) (i := 3) hF xd_RD_takeTag_4 rfl (Nat.le_of_ble_eq_true rfl) rfl rfl ?_
    refine xv_iload_n (pc' := 6) (i := 3) hF xd_RD_takeTag_5 rfl rfl rfl ?_
    refine xv_if_lt (pc' := 9) (tgt := 14) hF xd_RD_takeTag_6 (by decide) rfl (fun e2 => ?_) (fun e2 => ?_)
    · exact xv_loc _ (by repeat (first | exact trivial | refine ⟨rfl, ?_⟩)) (no (by omega))
    · exact absurd (pk_sneg (by omega) (by omega)) e2
set_option maxHeartbeats 4000000 in
set_option maxRecDepth 100000 in
theorem c_RD_takeLeast (K : xK) (n : Nat) (h : xH) (o x c : Nat) (q : rs_T) (sx : Nat) (hr : rd_R K h o x q sx) (hc : c < 256) : XM K xy_RD_takeLeast xw_RD_takeLeast (xrm 1 21 0 0) [.ref (o + 4), .int (nI c)] n h (x_pi (rd_po K o x h n sx (if 48 ≤ c ∧ c ≤ 57 then some (rp_go 6 (rp_lm (c - 48) (c - 48) q)) else none))) 0 0 := by
  obtain ⟨st, op, ir, rs, le, mo, en, os⟩ := q
  obtain ⟨p1, ⟨f, p2, p3⟩, p4, p5, b1, b2, b3, b4, b5, b6⟩ := id hr
  dsimp only at p1 p3 p4 b1 b2 b3 b4 b5 b6
  refine xm_z (by decide +kernel) (Nat.le_of_ble_eq_true rfl) (fun G hF hR => ?_)
  refine xv_iload_n (pc' := 1) (i := 1) hF xd_RD_takeLeast_0 rfl rfl rfl ?_
  refine xv_callSi (pc' := 4) hF (c_RD_isDigit K n h c hc) xq_RD_isDigit xk_RD_m101 xk_t_RD_isDigit ⟨(Nat.le_of_ble_eq_true rfl), (Nat.le_of_ble_eq_true rfl)⟩ rfl rfl (Nat.le_of_ble_eq_true rfl) ⟨(Nat.le_of_ble_eq_true rfl), (Nat.le_of_ble_eq_true rfl)⟩ xd_RD_takeLeast_1 rfl (fun r n1 h1 q1 => ?_)
  obtain ⟨rfl, rfl, rfl⟩ := q1
  refine xv_if_neB (pc' := 7) (tgt := 9) hF xd_RD_takeLeast_4 (by decide) rfl (fun e => ?_) (fun e => ?_)
  · have e := of_decide_eq_true e
    refine xv_aload_n (pc' := 10) (i := 0) hF xd_RD_takeLeast_9 rfl rfl rfl ?_
    refine xv_iload_n (pc' := 11) (i := 1) hF xd_RD_takeLeast_10 rfl rfl rfl ?_
    refine xv_bipushN (pc' := 13) 48 hF xd_RD_takeLeast_11 (by decide +kernel) rfl ?_
    first | refine xv_isubN (pc' := 14) hF (by omega) xd_RD_takeLeast_13 rfl ?_ | refine xv_isub (pc' := 14) hF xd_RD_takeLeast_13 rfl ?_
    refine xv_put (pc' := 17) (ci := 4) (ty := xt_RD 6) hF (by first | assumption | exact xu_self | (refine (xu_ne (by omega)).trans ?_; first | assumption | exact xu_self | (refine (xu_ne (by omega)).trans ?_; first | assumption | exact xu_self | (refine (xu_ne (by omega)).trans ?_; first | assumption | exact xu_self | (refine (xu_ne (by omega)).trans ?_; first | assumption | exact xu_self))))) rfl xu_RD xt_RD xo_RD xn_RD 6 (by decide) xk_RD_f36 rfl (by decide +kernel) (by first | rfl | exact xb_nw _ | decide +kernel) (by first | rfl | exact xb_ft _ | decide +kernel) (by exact Nat.le_of_ble_eq_true rfl) (by dsimp only [List.set] <;> rfl) xd_RD_takeLeast_14 rfl ?_
    refine xv_aload_n (pc' := 18) (i := 0) hF xd_RD_takeLeast_17 rfl rfl rfl ?_
    refine xv_aload_n (pc' := 19) (i := 0) hF xd_RD_takeLeast_18 rfl rfl rfl ?_
    refine xv_get (pc' := 22) (ci := 4) hF (by first | assumption | exact xu_self | (refine (xu_ne (by omega)).trans ?_; first | assumption | exact xu_self | (refine (xu_ne (by omega)).trans ?_; first | assumption | exact xu_self | (refine (xu_ne (by omega)).trans ?_; first | assumption | exact xu_self | (refine (xu_ne (by omega)).trans ?_; first | assumption | exact xu_self))))) rfl xu_RD 6 (by decide) xk_RD_f36 (by rfl) xd_RD_takeLeast_19 rfl ?_
    refine xv_put (pc' := 25) (ci := 4) (ty := xt_RD 7) hF (by first | assumption | exact xu_self | (refine (xu_ne (by omega)).trans ?_; first | assumption | exact xu_self | (refine (xu_ne (by omega)).trans ?_; first | assumption | exact xu_self | (refine (xu_ne (by omega)).trans ?_; first | assumption | exact xu_self | (refine (xu_ne (by omega)).trans ?_; first | assumption | exact xu_self))))) rfl xu_RD xt_RD xo_RD xn_RD 7 (by decide) xk_RD_f39 rfl (by decide +kernel) (by first | rfl | exact xb_nw _ | decide +kernel) (by first | rfl | exact xb_ft _ | decide +kernel) (by exact Nat.le_of_ble_eq_true rfl) (by dsimp only [List.set] <;> rfl) xd_RD_takeLeast_22 rfl ?_
    rw [xu_xu]
    obtain ⟨r1, f1⟩ := rd_own (ir' := ir) (st' := st) (op' := op) (rs' := rs) (le' := c - 48) (mo' := c - 48) hr b1 b2 b3 (by omega) (by omega)
    generalize xu h (o + 4) (.inr (4, [.ref (o + 5), .ref x, .int (nI st), .int (nI op), .int (xb ir), .int (nI rs), .int (nI (c - 48)), .int (nI (c - 48))])) = h1 at r1 f1 ⊢
    clear p1 p2
    obtain ⟨p1, -⟩ := id r1
    refine xv_aload_n (pc' := 26) (i := 0) hF xd_RD_takeLeast_25 rfl rfl rfl ?_
    refine xv_bipushN (pc' := 28) 6 hF xd_RD_takeLeast_26 (by decide +kernel) rfl ?_
    refine xv_callVi (pc' := 31) (ci := 4) hF (c_RD_goOnTo K n h1 o x 6 _ sx r1 (by decide)) xq_RD_goOnTo xk_RD_m69 xk_i_RD_goOnTo xk_s_RD_goOnTo (by first | assumption | exact xu_self | (refine (xu_ne (by omega)).trans ?_; first | assumption | exact xu_self | (refine (xu_ne (by omega)).trans ?_; first | assumption | exact xu_self | (refine (xu_ne (by omega)).trans ?_; first | assumption | exact xu_self | (refine (xu_ne (by omega)).trans ?_; first | assumption | exact xu_self))))) rfl ⟨(Nat.le_of_ble_eq_true rfl), (Nat.le_of_ble_eq_true rfl)⟩ rfl rfl (Nat.le_of_ble_eq_true rfl) ⟨(Nat.le_of_ble_eq_true rfl), (Nat.le_of_ble_eq_true rfl)⟩ xd_RD_takeLeast_28 rfl (fun r n2 h2 q2 => ?_)
    obtain ⟨rfl, rfl, f2, r2⟩ := q2
    refine hR _ _ _ _ _ _ _ (by omega) (by omega) ?_ (by first | rfl | exact xb_nw _ | decide +kernel) xd_RD_takeLeast_31
    exact ⟨rfl, f1.tr f2, Or.inl ⟨_, by rw [if_pos e] <;> rfl, rfl, r2⟩⟩
  · have e := of_decide_eq_false e
    refine xv_iconstN (pc' := 8) 0 hF xd_RD_takeLeast_7 (by decide +kernel) rfl ?_
    refine hR _ _ _ _ _ _ _ (by omega) (by omega) ?_ (by first | rfl | exact xb_nw _ | decide +kernel) xd_RD_takeLeast_8
    exact ⟨rfl, rd_fr.rf, Or.inr ⟨by rw [if_neg e], by decide +kernel, _, hr⟩⟩
set_option maxHeartbeats 4000000 in
set_option maxRecDepth 100000 in
theorem c_RD_takeMost (K : xK) (n : Nat) (h : xH) (o x c : Nat) (q : rs_T) (sx : Nat) (hr : rd_R K h o x q sx) (hc : c < 256) : XM K xy_RD_takeMost xw_RD_takeMost (xrm 1 21 0 0) [.ref (o + 4), .int (nI c)] n h (x_pi (rd_po K o x h n sx (if 48 ≤ c ∧ c ≤ 57 ∧ q.2.2.2.2.1 ≤ c - 48 ∧ 0 < c - 48 then some (rp_go 8 (rp_lm q.2.2.2.2.1 (c - 48) q)) else none))) 0 0 := by
  obtain ⟨st, op, ir, rs, le, mo, en, os⟩ := q
  obtain ⟨p1, ⟨f, p2, p3⟩, p4, p5, b1, b2, b3, b4, b5, b6⟩ := id hr
  dsimp only at p1 p3 p4 b1 b2 b3 b4 b5 b6
  dsimp only
  refine xm_z (by decide +kernel) (Nat.le_of_ble_eq_true rfl) (fun G hF hR => ?_)
  refine xv_iload_n (pc' := 1) (i := 1) hF xd_RD_takeMost_0 rfl rfl rfl ?_
  refine xv_callSi (pc' := 4) hF (c_RD_isDigit K n h c hc) xq_RD_isDigit xk_RD_m101 xk_t_RD_isDigit ⟨(Nat.le_of_ble_eq_true rfl), (Nat.le_of_ble_eq_true rfl)⟩ rfl rfl (Nat.le_of_ble_eq_true rfl) ⟨(Nat.le_of_ble_eq_true rfl), (Nat.le_of_ble_eq_true rfl)⟩ xd_RD_takeMost_1 rfl (fun r n1 h1 q1 => ?_)
  obtain ⟨rfl, rfl, rfl⟩ := q1
  refine xv_if_neB (pc' := 7) (tgt := 9) hF xd_RD_takeMost_4 (by decide) rfl (fun e => ?_) (fun e => ?_)
  · have e := of_decide_eq_true e
    refine xv_aload_n (pc' := 10) (i := 0) hF xd_RD_takeMost_9 rfl rfl rfl ?_
    refine xv_iload_n (pc' := 11) (i := 1) hF xd_RD_takeMost_10 rfl rfl rfl ?_
    refine xv_bipushN (pc' := 13) 48 hF xd_RD_takeMost_11 (by decide +kernel) rfl ?_
    first | refine xv_isubN (pc' := 14) hF (by omega) xd_RD_takeMost_13 rfl ?_ | refine xv_isub (pc' := 14) hF xd_RD_takeMost_13 rfl ?_
    refine xv_put (pc' := 17) (ci := 4) (ty := xt_RD 7) hF (by first | assumption | exact xu_self | (refine (xu_ne (by omega)).trans ?_; first | assumption | exact xu_self | (refine (xu_ne (by omega)).trans ?_; first | assumption | exact xu_self | (refine (xu_ne (by omega)).trans ?_; first | assumption | exact xu_self | (refine (xu_ne (by omega)).trans ?_; first | assumption | exact xu_self))))) rfl xu_RD xt_RD xo_RD xn_RD 7 (by decide) xk_RD_f39 rfl (by decide +kernel) (by first | rfl | exact xb_nw _ | decide +kernel) (by first | rfl | exact xb_ft _ | decide +kernel) (by exact Nat.le_of_ble_eq_true rfl) (by dsimp only [List.set] <;> rfl) xd_RD_takeMost_14 rfl ?_
    obtain ⟨r1, f1⟩ := rd_own (ir' := ir) (st' := st) (op' := op) (rs' := rs) (le' := le) (mo' := c - 48) hr b1 b2 b3 b4 (by omega)
    generalize xu h (o + 4) (.inr (4, [.ref (o + 5), .ref x, .int (nI st), .int (nI op), .int (xb ir), .int (nI rs), .int (nI le), .int (nI (c - 48))])) = h1 at r1 f1 ⊢
    clear p1 p2
    obtain ⟨p1, -⟩ := id r1
    dsimp only at p1
    have no : ¬ (le ≤ c - 48 ∧ 0 < c - 48) → XV G (0 + 0) (0 + 0) 48 [(0, .ref (o + 4))] [] n h1 := by
      intro hn
      refine xv_iconstN (pc' := 49) 0 hF xd_RD_takeMost_48 (by decide +kernel) rfl ?_
      refine hR _ _ _ _ _ _ _ (by omega) (by omega) ?_ (by first | rfl | exact xb_nw _ | decide +kernel) xd_RD_takeMost_49
      exact ⟨rfl, f1, Or.inr ⟨by rw [if_neg (fun z => hn z.2.2)], by decide +kernel, _, r1⟩⟩
    refine xv_aload_n (pc' := 18) (i := 0) hF xd_RD_takeMost_17 rfl rfl rfl ?_
    refine xv_get (pc' := 21) (ci := 4) hF (by first | assumption | exact xu_self | (refine (xu_ne (by omega)).trans ?_; first | assumption | exact xu_self | (refine (xu_ne (by omega)).trans ?_; first | assumption | exact xu_self | (refine (xu_ne (by omega)).trans ?_; first | assumption | exact xu_self | (refine (xu_ne (by omega)).trans ?_; first | assumption | exact xu_self))))) rfl xu_RD 7 (by decide) xk_RD_f39 (by rfl) xd_RD_takeMost_18 rfl ?_
    refine xv_aload_n (pc' := 22) (i := 0) hF xd_RD_takeMost_21 rfl rfl rfl ?_
    refine xv_get (pc' := 25) (ci := 4) hF (by first | assumption | exact xu_self | (refine (xu_ne (by omega)).trans ?_; first | assumption | exact xu_self | (refine (xu_ne (by omega)).trans ?_; first | assumption | exact xu_self | (refine (xu_ne (by omega)).trans ?_; first | assumption | exact xu_self | (refine (xu_ne (by omega)).trans ?_; first | assumption | exact xu_self))))) rfl xu_RD 6 (by decide) xk_RD_f36 (by rfl) xd_RD_takeMost_22 rfl ?_
    refine xv_icmp_ltN (pc' := 28) (tgt := 48) hF (by omega) (by omega) xd_RD_takeMost_25 (by decide) rfl (fun e2 => ?_) (fun e2 => ?_)
    · exact xv_loc _ (by repeat (first | exact trivial | refine ⟨rfl, ?_⟩)) (no (by omega))
    · refine xv_aload_n (pc' := 29) (i := 0) hF xd_RD_takeMost_28 rfl rfl rfl ?_
      refine xv_get (pc' := 32) (ci := 4) hF (by first | assumption | exact xu_self | (refine (xu_ne (by omega)).trans ?_; first | assumption | exact xu_self | (refine (xu_ne (by omega)).trans ?_; first | assumption | exact xu_self | (refine (xu_ne (by omega)).trans ?_; first | assumption | exact xu_self | (refine (xu_ne (by omega)).trans ?_; first | assumption | exact xu_self))))) rfl xu_RD 7 (by decide) xk_RD_f39 (by rfl) xd_RD_takeMost_29 rfl ?_
      refine xv_if_leN (pc' := 35) (tgt := 48) hF (by omega) xd_RD_takeMost_32 (by decide) rfl (fun e3 => ?_) (fun e3 => ?_)
      · exact xv_loc _ (by repeat (first | exact trivial | refine ⟨rfl, ?_⟩)) (no (by omega))
      · refine xv_aload_n (pc' := 36) (i := 0) hF xd_RD_takeMost_35 rfl rfl rfl ?_
        refine xv_bipushN (pc' := 38) 8 hF xd_RD_takeMost_36 (by decide +kernel) rfl ?_
        refine xv_callVi (pc' := 41) (ci := 4) hF (c_RD_goOnTo K n h1 o x 8 _ sx r1 (by decide)) xq_RD_goOnTo xk_RD_m69 xk_i_RD_goOnTo xk_s_RD_goOnTo (by first | assumption | exact xu_self | (refine (xu_ne (by omega)).trans ?_; first | assumption | exact xu_self | (refine (xu_ne (by omega)).trans ?_; first | assumption | exact xu_self | (refine (xu_ne (by omega)).trans ?_; first | assumption | exact xu_self | (refine (xu_ne (by omega)).trans ?_; first | assumption | exact xu_self))))) rfl ⟨(Nat.le_of_ble_eq_true rfl), (Nat.le_of_ble_eq_true rfl)⟩ rfl rfl (Nat.le_of_ble_eq_true rfl) ⟨(Nat.le_of_ble_eq_true rfl), (Nat.le_of_ble_eq_true rfl)⟩ xd_RD_takeMost_38 rfl (fun r n2 h2 q2 => ?_)
        obtain ⟨rfl, rfl, f2, r2⟩ := q2
        refine xv_if_eqB (pc' := 44) (tgt := 48) hF xd_RD_takeMost_41 (by decide) rfl (fun e4 => ?_) (fun e4 => ?_)
        · cases e4
        · refine xv_iconstN (pc' := 45) 1 hF xd_RD_takeMost_44 (by decide +kernel) rfl ?_
          refine xv_goto (tgt := 49) hF xd_RD_takeMost_45 (by decide) ?_
          refine hR _ _ _ _ _ _ _ (by omega) (by omega) ?_ (by first | rfl | exact xb_nw _ | decide +kernel) xd_RD_takeMost_49
          exact ⟨rfl, f1.tr f2, Or.inl ⟨_, by rw [if_pos ⟨e.1, e.2, e2, e3⟩] <;> rfl, by decide +kernel, r2⟩⟩
  · have e := of_decide_eq_false e
    refine xv_iconstN (pc' := 8) 0 hF xd_RD_takeMost_7 (by decide +kernel) rfl ?_
    refine hR _ _ _ _ _ _ _ (by omega) (by omega) ?_ (by first | rfl | exact xb_nw _ | decide +kernel) xd_RD_takeMost_8
    exact ⟨rfl, rd_fr.rf, Or.inr ⟨by rw [if_neg (fun z => e ⟨z.1, z.2.1⟩)], by decide +kernel, _, hr⟩⟩
set_option maxHeartbeats 4000000 in
set_option maxRecDepth 100000 in
theorem c_RD_takeBraceEnd (K : xK) (n : Nat) (h : xH) (o x c : Nat) (q : rs_T) (sx : Nat) (hr : rd_R K h o x q sx) (hl : q.2.2.2.2.2.2.2.length < 203) (hc : c < 256) : XM K xy_RD_takeBraceEnd xw_RD_takeBraceEnd (xrm 1 22 0 0) [.ref (o + 4), .int (nI c)] n h (x_pi (rd_po K o x h n sx (rp_be c q))) 0 0 := by
  obtain ⟨st, op, ir, rs, le, mo, en, os⟩ := q
  obtain ⟨p1, ⟨f, p2, p3⟩, p4, p5, b1, b2, b3, b4, b5, b6⟩ := id hr
  dsimp only at p1 p3 p4 b1 b2 b3 b4 b5 b6 hl
  refine xm_z (by decide +kernel) (Nat.le_of_ble_eq_true rfl) (fun G hF hR => ?_)
  have no : ¬ (c = 125 ∧ mo ≠ 0) → XV G 0 0 13 [(0, .ref (o + 4))] [] n h := by
    intro hn
    refine xv_iconstN (pc' := 14) 0 hF xd_RD_takeBraceEnd_13 (by decide +kernel) rfl ?_
    refine hR _ _ _ _ _ _ _ (by omega) (by omega) ?_ (by first | rfl | exact xb_nw _ | decide +kernel) xd_RD_takeBraceEnd_14
    exact ⟨rfl, rd_fr.rf, Or.inr ⟨by show (if c = 125 ∧ mo ≠ 0 then _ else _) = _; rw [if_neg hn], by decide +kernel, _, hr⟩⟩
  refine xv_iload_n (pc' := 1) (i := 1) hF xd_RD_takeBraceEnd_0 rfl rfl rfl ?_
  refine xv_bipushN (pc' := 3) 125 hF xd_RD_takeBraceEnd_1 (by decide +kernel) rfl ?_
  refine xv_icmp_neN (pc' := 6) (tgt := 13) hF (by omega) (by omega) xd_RD_takeBraceEnd_3 (by decide) rfl (fun e => ?_) (fun e => ?_)
  · exact xv_loc _ (by repeat (first | exact trivial | refine ⟨rfl, ?_⟩)) (no (fun z => e z.1))
  · refine xv_aload_n (pc' := 7) (i := 0) hF xd_RD_takeBraceEnd_6 rfl rfl rfl ?_
    refine xv_get (pc' := 10) (ci := 4) hF (by first | assumption | exact xu_self | (refine (xu_ne (by omega)).trans ?_; first | assumption | exact xu_self | (refine (xu_ne (by omega)).trans ?_; first | assumption | exact xu_self | (refine (xu_ne (by omega)).trans ?_; first | assumption | exact xu_self | (refine (xu_ne (by omega)).trans ?_; first | assumption | exact xu_self))))) rfl xu_RD 7 (by decide) xk_RD_f39 (by rfl) xd_RD_takeBraceEnd_7 rfl ?_
    refine xv_if_neN (pc' := 13) (tgt := 15) hF (by omega) xd_RD_takeBraceEnd_10 (by decide) rfl (fun e2 => ?_) (fun e2 => ?_)
    · obtain ⟨z0, zf, ⟨z1, z2⟩, z3⟩ := id p4
      refine xv_aload_n (pc' := 16) (i := 0) hF xd_RD_takeBraceEnd_15 rfl rfl rfl ?_
      refine xv_get (pc' := 19) (ci := 4) hF (by first | assumption | exact xu_self | (refine (xu_ne (by omega)).trans ?_; first | assumption | exact xu_self | (refine (xu_ne (by omega)).trans ?_; first | assumption | exact xu_self | (refine (xu_ne (by omega)).trans ?_; first | assumption | exact xu_self | (refine (xu_ne (by omega)).trans ?_; first | assumption | exact xu_self))))) rfl xu_RD 1 (by decide) xk_RD_f18 (by rfl) xd_RD_takeBraceEnd_16 rfl ?_
      refine xv_bipushN (pc' := 21) 11 hF xd_RD_takeBraceEnd_19 (by decide +kernel) rfl ?_
      refine xv_aload_n (pc' := 22) (i := 0) hF xd_RD_takeBraceEnd_21 rfl rfl rfl ?_
      refine xv_get (pc' := 25) (ci := 4) hF (by first | assumption | exact xu_self | (refine (xu_ne (by omega)).trans ?_; first | assumption | exact xu_self | (refine (xu_ne (by omega)).trans ?_; first | assumption | exact xu_self | (refine (xu_ne (by omega)).trans ?_; first | assumption | exact xu_self | (refine (xu_ne (by omega)).trans ?_; first | assumption | exact xu_self))))) rfl xu_RD 6 (by decide) xk_RD_f36 (by rfl) xd_RD_takeBraceEnd_22 rfl ?_
      refine xv_bipushN (pc' := 27) 10 hF xd_RD_takeBraceEnd_25 (by decide +kernel) rfl ?_
      first | refine xv_imulN (pc' := 28) hF xd_RD_takeBraceEnd_27 rfl ?_ | refine xv_imul (pc' := 28) hF xd_RD_takeBraceEnd_27 rfl ?_
      refine xv_aload_n (pc' := 29) (i := 0) hF xd_RD_takeBraceEnd_28 rfl rfl rfl ?_
      refine xv_get (pc' := 32) (ci := 4) hF (by first | assumption | exact xu_self | (refine (xu_ne (by omega)).trans ?_; first | assumption | exact xu_self | (refine (xu_ne (by omega)).trans ?_; first | assumption | exact xu_self | (refine (xu_ne (by omega)).trans ?_; first | assumption | exact xu_self | (refine (xu_ne (by omega)).trans ?_; first | assumption | exact xu_self))))) rfl xu_RD 7 (by decide) xk_RD_f39 (by rfl) xd_RD_takeBraceEnd_29 rfl ?_
      first | refine xv_iaddN (pc' := 33) hF xd_RD_takeBraceEnd_32 rfl ?_ | refine xv_iadd (pc' := 33) hF xd_RD_takeBraceEnd_32 rfl ?_
      refine xv_callVv (pc' := 36) (ci := 3) hF (c_EX_append K n h x 11 (le * 10 + mo) os sx p4 (by decide) (by omega) hl) xq_EX_append xk_RD_m91 xk_i_EX_append xk_s_EX_append (by first | assumption | exact xu_self | (refine (xu_ne (by omega)).trans ?_; first | assumption | exact xu_self | (refine (xu_ne (by omega)).trans ?_; first | assumption | exact xu_self | (refine (xu_ne (by omega)).trans ?_; first | assumption | exact xu_self | (refine (xu_ne (by omega)).trans ?_; first | assumption | exact xu_self))))) rfl ⟨(Nat.le_of_ble_eq_true rfl), (Nat.le_of_ble_eq_true rfl)⟩ rfl rfl (Nat.le_of_ble_eq_true rfl) ⟨(Nat.le_of_ble_eq_true rfl), (Nat.le_of_ble_eq_true rfl)⟩ xd_RD_takeBraceEnd_33 rfl (fun n1 h1 q1 => ?_)
      obtain ⟨rfl, f1, r1⟩ := q1
      obtain ⟨hr1, hfr1⟩ := rd_ex hr f1 r1
      clear p1 p2 z1 z2 z3
      obtain ⟨p1, -⟩ := id hr1
      dsimp only at p1
      have hrm : rs * mo ≤ 81 * 9 := Nat.mul_le_mul b3 b5
      refine xv_aload_n (pc' := 37) (i := 0) hF xd_RD_takeBraceEnd_36 rfl rfl rfl ?_
      refine xv_aload_n (pc' := 38) (i := 0) hF xd_RD_takeBraceEnd_37 rfl rfl rfl ?_
      refine xv_get (pc' := 41) (ci := 4) hF (by first | assumption | exact xu_self | (refine (xu_ne (by omega)).trans ?_; first | assumption | exact xu_self | (refine (xu_ne (by omega)).trans ?_; first | assumption | exact xu_self | (refine (xu_ne (by omega)).trans ?_; first | assumption | exact xu_self | (refine (xu_ne (by omega)).trans ?_; first | assumption | exact xu_self))))) rfl xu_RD 5 (by decide) xk_RD_f33 (by rfl) xd_RD_takeBraceEnd_38 rfl ?_
      refine xv_aload_n (pc' := 42) (i := 0) hF xd_RD_takeBraceEnd_41 rfl rfl rfl ?_
      refine xv_get (pc' := 45) (ci := 4) hF (by first | assumption | exact xu_self | (refine (xu_ne (by omega)).trans ?_; first | assumption | exact xu_self | (refine (xu_ne (by omega)).trans ?_; first | assumption | exact xu_self | (refine (xu_ne (by omega)).trans ?_; first | assumption | exact xu_self | (refine (xu_ne (by omega)).trans ?_; first | assumption | exact xu_self))))) rfl xu_RD 7 (by decide) xk_RD_f39 (by rfl) xd_RD_takeBraceEnd_42 rfl ?_
      first | refine xv_imulN (pc' := 46) hF xd_RD_takeBraceEnd_45 rfl ?_ | refine xv_imul (pc' := 46) hF xd_RD_takeBraceEnd_45 rfl ?_
      refine xv_bipushN (pc' := 48) 81 hF xd_RD_takeBraceEnd_46 (by decide +kernel) rfl ?_
      refine xv_mmin (pc' := 51) hF xk_RD_m104 xk_t_JM_min xk_n_JM xk_c_JM_min (Nat.le_of_ble_eq_true rfl) (Nat.le_of_ble_eq_true rfl) (Nat.le_of_ble_eq_true rfl) (Nat.le_of_ble_eq_true rfl) xd_RD_takeBraceEnd_48 rfl ?_
      refine xv_topi (nI_mn (by omega) (by omega)) ?_
      refine xv_put (pc' := 54) (ci := 4) (ty := xt_RD 5) hF (by first | assumption | exact xu_self | (refine (xu_ne (by omega)).trans ?_; first | assumption | exact xu_self | (refine (xu_ne (by omega)).trans ?_; first | assumption | exact xu_self | (refine (xu_ne (by omega)).trans ?_; first | assumption | exact xu_self | (refine (xu_ne (by omega)).trans ?_; first | assumption | exact xu_self))))) rfl xu_RD xt_RD xo_RD xn_RD 5 (by decide) xk_RD_f33 rfl (by decide +kernel) (by first | rfl | exact xb_nw _ | decide +kernel) (by first | rfl | exact xb_ft _ | decide +kernel) (by exact Nat.le_of_ble_eq_true rfl) (by dsimp only [List.set] <;> rfl) xd_RD_takeBraceEnd_51 rfl ?_
      obtain ⟨hr2, hfr2⟩ := rd_own (ir' := ir) (st' := st) (op' := op) (rs' := min (rs * mo) 81) (le' := le) (mo' := mo) hr1 b1 b2 (by omega) b4 b5
      generalize xu h1 (o + 4) (.inr (4, [.ref (o + 5), .ref x, .int (nI st), .int (nI op), .int (xb ir), .int (nI (min (rs * mo) 81)), .int (nI le), .int (nI mo)])) = h2 at hr2 hfr2 ⊢
      clear p1
      obtain ⟨p1, -⟩ := id hr2
      refine xv_aload_n (pc' := 55) (i := 0) hF xd_RD_takeBraceEnd_54 rfl rfl rfl ?_
      refine xv_iconstN (pc' := 56) 0 hF xd_RD_takeBraceEnd_55 (by decide +kernel) rfl ?_
      refine xv_callVi (pc' := 59) (ci := 4) hF (c_RD_goOnTo K n h2 o x 0 _ sx hr2 (by decide)) xq_RD_goOnTo xk_RD_m69 xk_i_RD_goOnTo xk_s_RD_goOnTo (by first | assumption | exact xu_self | (refine (xu_ne (by omega)).trans ?_; first | assumption | exact xu_self | (refine (xu_ne (by omega)).trans ?_; first | assumption | exact xu_self | (refine (xu_ne (by omega)).trans ?_; first | assumption | exact xu_self | (refine (xu_ne (by omega)).trans ?_; first | assumption | exact xu_self))))) rfl ⟨(Nat.le_of_ble_eq_true rfl), (Nat.le_of_ble_eq_true rfl)⟩ rfl rfl (Nat.le_of_ble_eq_true rfl) ⟨(Nat.le_of_ble_eq_true rfl), (Nat.le_of_ble_eq_true rfl)⟩ xd_RD_takeBraceEnd_56 rfl (fun r n3 h3 q3 => ?_)
      obtain ⟨rfl, rfl, f3, r3⟩ := q3
      refine hR _ _ _ _ _ _ _ (by omega) (by omega) ?_ (by first | rfl | exact xb_nw _ | decide +kernel) xd_RD_takeBraceEnd_59
      exact ⟨rfl, (hfr1.tr hfr2).tr f3, Or.inl ⟨_, by show (if c = 125 ∧ mo ≠ 0 then _ else _) = _; rw [if_pos ⟨e, by omega⟩]; rfl, rfl, r3⟩⟩
    · exact xv_loc _ (by repeat (first | exact trivial | refine ⟨rfl, ?_⟩)) (no (fun z => z.2 e2))
set_option maxHeartbeats 4000000 in
set_option maxRecDepth 100000 in
theorem c_RD_changeRepeat (K : xK) (n : Nat) (h : xH) (o x k : Nat) (q : rs_T) (sx : Nat) (hr : rd_R K h o x q sx) (hl : q.2.2.2.2.2.2.2.length < 203) (hk : k < 16) : XM K xy_RD_changeRepeat xw_RD_changeRepeat (xrm 1 22 0 0) [.ref (o + 4), .int (nI k)] n h (x_pi (rd_po K o x h n sx (if q.2.2.1 then some (rp_ap (k + 16 * 0) q) else none))) 0 0 := by
  obtain ⟨st, op, ir, rs, le, mo, en, os⟩ := q
  obtain ⟨p1, ⟨f, p2, p3⟩, p4, p5, b1, b2, b3, b4, b5, b6⟩ := id hr
  dsimp only at p1 p3 p4 b1 b2 b3 b4 b5 b6 hl
  dsimp only
  refine xm_z (by decide +kernel) (Nat.le_of_ble_eq_true rfl) (fun G hF hR => ?_)
  refine xv_aload_n (pc' := 1) (i := 0) hF xd_RD_changeRepeat_0 rfl rfl rfl ?_
  refine xv_get (pc' := 4) (ci := 4) hF (by first | assumption | exact xu_self | (refine (xu_ne (by omega)).trans ?_; first | assumption | exact xu_self | (refine (xu_ne (by omega)).trans ?_; first | assumption | exact xu_self | (refine (xu_ne (by omega)).trans ?_; first | assumption | exact xu_self | (refine (xu_ne (by omega)).trans ?_; first | assumption | exact xu_self))))) rfl xu_RD 4 (by decide) xk_RD_f29 (by rfl) xd_RD_changeRepeat_1 rfl ?_
  refine xv_if_eqB (pc' := 7) (tgt := 16) hF xd_RD_changeRepeat_4 (by decide) rfl (fun e => ?_) (fun e => ?_)
  · subst e
    refine xv_aload_n (pc' := 17) (i := 0) hF xd_RD_changeRepeat_16 rfl rfl rfl ?_
    refine xv_get (pc' := 20) (ci := 4) hF (by first | assumption | exact xu_self | (refine (xu_ne (by omega)).trans ?_; first | assumption | exact xu_self | (refine (xu_ne (by omega)).trans ?_; first | assumption | exact xu_self | (refine (xu_ne (by omega)).trans ?_; first | assumption | exact xu_self | (refine (xu_ne (by omega)).trans ?_; first | assumption | exact xu_self))))) rfl xu_RD 4 (by decide) xk_RD_f29 (by rfl) xd_RD_changeRepeat_17 rfl ?_
    refine hR _ _ _ _ _ _ _ (by omega) (by omega) ?_ (by first | rfl | exact xb_nw _ | decide +kernel) xd_RD_changeRepeat_20
    exact ⟨rfl, rd_fr.rf, Or.inr ⟨rfl, rfl, _, hr⟩⟩
  · subst e
    obtain ⟨z0, zf, ⟨z1, z2⟩, z3⟩ := id p4
    refine xv_aload_n (pc' := 8) (i := 0) hF xd_RD_changeRepeat_7 rfl rfl rfl ?_
    refine xv_get (pc' := 11) (ci := 4) hF (by first | assumption | exact xu_self | (refine (xu_ne (by omega)).trans ?_; first | assumption | exact xu_self | (refine (xu_ne (by omega)).trans ?_; first | assumption | exact xu_self | (refine (xu_ne (by omega)).trans ?_; first | assumption | exact xu_self | (refine (xu_ne (by omega)).trans ?_; first | assumption | exact xu_self))))) rfl xu_RD 1 (by decide) xk_RD_f18 (by rfl) xd_RD_changeRepeat_8 rfl ?_
    refine xv_iload_n (pc' := 12) (i := 1) hF xd_RD_changeRepeat_11 rfl rfl rfl ?_
    refine xv_iconstN (pc' := 13) 0 hF xd_RD_changeRepeat_12 (by decide +kernel) rfl ?_
    refine xv_callVv (pc' := 16) (ci := 3) hF (c_EX_append K n h x k 0 os sx p4 hk (by decide) hl) xq_EX_append xk_RD_m91 xk_i_EX_append xk_s_EX_append (by first | assumption | exact xu_self | (refine (xu_ne (by omega)).trans ?_; first | assumption | exact xu_self | (refine (xu_ne (by omega)).trans ?_; first | assumption | exact xu_self | (refine (xu_ne (by omega)).trans ?_; first | assumption | exact xu_self | (refine (xu_ne (by omega)).trans ?_; first | assumption | exact xu_self))))) rfl ⟨(Nat.le_of_ble_eq_true rfl), (Nat.le_of_ble_eq_true rfl)⟩ rfl rfl (Nat.le_of_ble_eq_true rfl) ⟨(Nat.le_of_ble_eq_true rfl), (Nat.le_of_ble_eq_true rfl)⟩ xd_RD_changeRepeat_13 rfl (fun n1 h1 q1 => ?_)
    obtain ⟨rfl, f1, r1⟩ := q1
    obtain ⟨hr1, hfr1⟩ := rd_ex hr f1 r1
    clear p1 p2 z1 z2 z3
    obtain ⟨p1, -⟩ := id hr1
    dsimp only at p1
    refine xv_aload_n (pc' := 17) (i := 0) hF xd_RD_changeRepeat_16 rfl rfl rfl ?_
    refine xv_get (pc' := 20) (ci := 4) hF (by first | assumption | exact xu_self | (refine (xu_ne (by omega)).trans ?_; first | assumption | exact xu_self | (refine (xu_ne (by omega)).trans ?_; first | assumption | exact xu_self | (refine (xu_ne (by omega)).trans ?_; first | assumption | exact xu_self | (refine (xu_ne (by omega)).trans ?_; first | assumption | exact xu_self))))) rfl xu_RD 4 (by decide) xk_RD_f29 (by rfl) xd_RD_changeRepeat_17 rfl ?_
    refine hR _ _ _ _ _ _ _ (by omega) (by omega) ?_ (by first | rfl | exact xb_nw _ | decide +kernel) xd_RD_changeRepeat_20
    exact ⟨rfl, hfr1, Or.inl ⟨_, rfl, rfl, hr1⟩⟩
