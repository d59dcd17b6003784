/-! the reference: a text read anew -/
theorem ti_0 (E : Nat → Nat → Nat → Bool) (Tg : Nat → Nat → Bool) (mk : Bool) (S : Nat → Nat → Nat → Nat) (so : Nat → Nat) (ba : Nat → Bool) (rs le mo : Nat) (en : Nat → Nat) : ti_R E Tg mk (mo_pl mk S 1 md_1) (va_up (va_up so 0 0) 1 0) (va_up ba 0 false) 0 0 (rp_er (rp_0 rs le mo en)) := by
  refine ⟨rfl, by decide, rfl, fun i hi => ?_, fun h => (by cases h), Nat.le_refl _, fun hm i hi => ?_, fun _ h => (by cases h)⟩
  · have : i = 0 := by omega
    subst this
    rfl
  · have : i = 0 := by omega
    subst this hm
    exact ⟨mn_1, fun h => (by cases h), fun _ => rfl⟩
theorem rd_good {ln : Nat} {tx : Nat → Nat} {q0 q : rs_T} (h : rp_run tx q0 ln = some q) (h1 : q.1 = 0) (h2 : q.2.1 = 0) : ∀ x, ¬ rd_bad ln tx q0 x := by
  have key : ∀ d k, k + d = ln → k < ln → ∃ q', rp_run tx q0 (k + 1) = some q' := by
    intro d
    induction d with
    | zero => intro k h3 h4; omega
    | succ d ih =>
      intro k h3 h4
      by_cases c : k + 1 = ln
      · exact ⟨q, by rw [c]; exact h⟩
      · obtain ⟨q', hq'⟩ := ih (k + 1) (by omega) (by omega)
        simp only [rp_run] at hq' ⊢
        rcases e : (rp_run tx q0 k).bind (rp_step (tx k)) with _ | q2
        · rw [e] at hq'; cases hq'
        · exact ⟨q2, rfl⟩
  rintro x (⟨k, qk, l1, l2, l3, -⟩ | ⟨qk, l1, l2, -⟩)
  · obtain ⟨q', hq'⟩ := key (ln - k) k (by omega) l1
    simp only [rp_run] at hq'
    rw [l2] at hq'
    have hq' : rp_step (tx k) qk = some q' := hq'
    rw [l3] at hq'
    cases hq'
  · rw [h] at l1
    cases l1
    omega
set_option maxHeartbeats 4000000 in
set_option maxRecDepth 100000 in
theorem c_MO_begin2 (K : xK) (n : Nat) (h : xH) (p th ma sz ln at_ f op : Nat) (mk : Bool) (tx : Nat → Nat) (E : Nat → Nat → Nat → Bool) (Tg : Nat → Nat → Bool) (S : Nat → Nat → Nat → Nat) (so : Nat → Nat) (ba : Nat → Bool) (mk2 : Bool) (ho : h p = some (.inr (6, [.int (nI th), .ref (p + 1), .ref (p + 2), .int (nI ma), .ref (p + 3), .int (nI sz), .ref (p + 4), .ref (p + 5), .ref (p + 6), .ref (p + 7), .int (nI ln), .int (nI at_), .int (xm1 f), .int (xb mk), .ref (p + 8), .ref (p + 9), .ref (p + 10), .int (nI op), .ref (p + 11), .ref (p + 12)]))) (r : mo_S K (xu h p (.inr (6, [.int (nI th), .ref (p + 1), .ref (p + 2), .int (nI ma), .ref (p + 3), .int (nI sz), .ref (p + 4), .ref (p + 5), .ref (p + 6), .ref (p + 7), .int (nI ln), .int (nI 0), .int (xm1 0), .int (xb mk2), .ref (p + 8), .ref (p + 9), .ref (p + 10), .int (nI 0), .ref (p + 11), .ref (p + 12)]))) p th ma sz ln 0 0 0 mk2 tx E Tg S so ba) : XM K xy_MO_begin xw_MO_begin (xrm 2 43 0 0) [.ref p, .int (xb mk2)] n h (x_pv fun n' h' => n = n' ∧ mo_fr p h h' ∧ mo_S K h' p th ma sz ln 0 0 0 mk2 tx E Tg (mo_pl mk2 S 1 md_1) (va_up (va_up so 0 0) 1 0) (va_up ba 0 false)) 0 0 := by
  refine xm_v (by decide +kernel) (Nat.le_of_ble_eq_true rfl) (fun G hF hR => ?_)
  refine xv_aload_n (pc' := 1) (i := 0) hF xd_MO_begin_0 rfl rfl rfl ?_
  refine xv_iconstN (pc' := 2) 0 hF xd_MO_begin_1 (by decide +kernel) rfl ?_
  refine xv_put (pc' := 5) (ci := 6) (ty := xt_MO 11) hF (by first | assumption | exact xu_self | (refine (xu_ne (by omega)).trans ?_; first | assumption | exact xu_self | (refine (xu_ne (by omega)).trans ?_; first | assumption | exact xu_self | (refine (xu_ne (by omega)).trans ?_; first | assumption | exact xu_self | (refine (xu_ne (by omega)).trans ?_; first | assumption | exact xu_self))))) rfl xu_MO xt_MO xo_MO xn_MO 11 (by decide) xk_MO_f72 rfl (by decide +kernel) (by first | rfl | exact xb_nw _ | decide +kernel) (by first | rfl | exact xb_ft _ | decide +kernel) (by exact Nat.le_of_ble_eq_true rfl) (by dsimp only [List.set] <;> rfl) xd_MO_begin_2 rfl ?_
  refine xv_aload_n (pc' := 6) (i := 0) hF xd_MO_begin_5 rfl rfl rfl ?_
  refine xv_iconstN (pc' := 7) 0 hF xd_MO_begin_6 (by decide +kernel) rfl ?_
  refine xv_put (pc' := 10) (ci := 6) (ty := xt_MO 17) hF (by first | assumption | exact xu_self | (refine (xu_ne (by omega)).trans ?_; first | assumption | exact xu_self | (refine (xu_ne (by omega)).trans ?_; first | assumption | exact xu_self | (refine (xu_ne (by omega)).trans ?_; first | assumption | exact xu_self | (refine (xu_ne (by omega)).trans ?_; first | assumption | exact xu_self))))) rfl xu_MO xt_MO xo_MO xn_MO 17 (by decide) xk_MO_f114 rfl (by decide +kernel) (by first | rfl | exact xb_nw _ | decide +kernel) (by first | rfl | exact xb_ft _ | decide +kernel) (by exact Nat.le_of_ble_eq_true rfl) (by dsimp only [List.set] <;> rfl) xd_MO_begin_7 rfl ?_
  refine xv_aload_n (pc' := 11) (i := 0) hF xd_MO_begin_10 rfl rfl rfl ?_
  refine xv_iconst (pc' := 12) (v := -1) hF xd_MO_begin_11 (by decide +kernel) rfl ?_
  refine xv_topi (v' := xm1 0) rfl ?_
  refine xv_put (pc' := 15) (ci := 6) (ty := xt_MO 12) hF (by first | assumption | exact xu_self | (refine (xu_ne (by omega)).trans ?_; first | assumption | exact xu_self | (refine (xu_ne (by omega)).trans ?_; first | assumption | exact xu_self | (refine (xu_ne (by omega)).trans ?_; first | assumption | exact xu_self | (refine (xu_ne (by omega)).trans ?_; first | assumption | exact xu_self))))) rfl xu_MO xt_MO xo_MO xn_MO 12 (by decide) xk_MO_f78 rfl (by decide +kernel) (by first | rfl | exact xb_nw _ | decide +kernel) (by first | rfl | exact xb_ft _ | decide +kernel) (by exact Nat.le_of_ble_eq_true rfl) (by dsimp only [List.set] <;> rfl) xd_MO_begin_12 rfl ?_
  refine xv_aload_n (pc' := 16) (i := 0) hF xd_MO_begin_15 rfl rfl rfl ?_
  refine xv_iload_n (pc' := 17) (i := 1) hF xd_MO_begin_16 rfl rfl rfl ?_
  refine xv_put (pc' := 20) (ci := 6) (ty := xt_MO 13) hF (by first | assumption | exact xu_self | (refine (xu_ne (by omega)).trans ?_; first | assumption | exact xu_self | (refine (xu_ne (by omega)).trans ?_; first | assumption | exact xu_self | (refine (xu_ne (by omega)).trans ?_; first | assumption | exact xu_self | (refine (xu_ne (by omega)).trans ?_; first | assumption | exact xu_self))))) rfl xu_MO xt_MO xo_MO xn_MO 13 (by decide) xk_MO_f92 rfl (by decide +kernel) (by first | rfl | exact xb_nw _ | decide +kernel) (by first | rfl | exact xb_ft _ | decide +kernel) (by exact Nat.le_of_ble_eq_true rfl) (by dsimp only [List.set] <;> rfl) xd_MO_begin_17 rfl ?_
  refine xv_aload_n (pc' := 21) (i := 0) hF xd_MO_begin_20 rfl rfl rfl ?_
  rw [xu_xu, xu_xu, xu_xu]
  refine xv_callVv (pc' := 24) (ci := 6) hF (c_MO_bracket K n _ p th ma sz ln 0 0 0 mk2 tx E Tg S so ba r) xq_MO_bracket xk_MO_m117 xk_i_MO_bracket xk_s_MO_bracket (by first | assumption | exact xu_self | (refine (xu_ne (by omega)).trans ?_; first | assumption | exact xu_self | (refine (xu_ne (by omega)).trans ?_; first | assumption | exact xu_self | (refine (xu_ne (by omega)).trans ?_; first | assumption | exact xu_self | (refine (xu_ne (by omega)).trans ?_; first | assumption | exact xu_self))))) rfl ⟨(Nat.le_of_ble_eq_true rfl), (Nat.le_of_ble_eq_true rfl)⟩ rfl rfl (Nat.le_of_ble_eq_true rfl) ⟨(Nat.le_of_ble_eq_true rfl), (Nat.le_of_ble_eq_true rfl)⟩ xd_MO_begin_21 rfl (fun n1 h1 q1 => ?_)
  obtain ⟨rfl, f1, r2⟩ := q1
  refine hR _ _ _ _ _ _ (by omega) (by omega) ?_ xd_MO_begin_24
  exact ⟨rfl, (mo_fr.rf.x (by omega)).tr f1, r2⟩
theorem mo_S.text {K : xK} {h : xH} {p th ma sz ln at_ f op : Nat} {mk : Bool} {tx : Nat → Nat} {E : Nat → Nat → Nat → Bool} {Tg : Nat → Nat → Bool} {S : Nat → Nat → Nat → Nat} {so : Nat → Nat} {ba : Nat → Bool} {h' : xH} {ln' at' f' op' sz' : Nat} {mk' : Bool} {tx' : Nat → Nat} {tf' : Nat → Int32} (r : mo_S K h p th ma sz ln at_ f op mk tx E Tg (S) (so) (ba)) (hf : ∀ k, k ≤ 10 → k ≠ 0 → k ≠ 3 → k ≠ 4 → k ≠ 5 → k ≠ 6 → k ≠ 7 → h' (p + k) = h (p + k)) (ho' : h' p = some (.inr (6, [.int (nI th), .ref (p + 1), .ref (p + 2), .int (nI ma), .ref (p + 3), .int (nI sz'), .ref (p + 4), .ref (p + 5), .ref (p + 6), .ref (p + 7), .int (nI ln'), .int (nI at'), .int (xm1 f'), .int (xb mk'), .ref (p + 8), .ref (p + 9), .ref (p + 10), .int (nI op'), .ref (p + 11), .ref (p + 12)]))) (ht : h' (p + 7) = some (.inl (K.2.2.1 0, 101, .inl tf'))) (ht2 : ∀ i, i < ln' → tf' i = nI (tx' i)) (h1 : op' ≤ 10) (h2 : f' ≤ 101) (h3 : at' ≤ ln') (h4 : ln' ≤ 100) (h5 : ∀ i, i < ln' → tx' i < 256) : mo_S K h' p th ma sz' ln' at' f' op' mk' tx' E Tg (S) (so) (ba) := by
  obtain ⟨ho, ⟨g, hs, hg⟩, ⟨sf, hso, hso2⟩, ⟨bf, hba, hba2⟩, ⟨tf, htx, htx2⟩, ⟨ef, hed, hed2⟩, ⟨gf, htg, htg2⟩, b1, b2, b3, b4, b5⟩ := r
  have go : ∀ k, k ≤ 10 → k ≠ 0 → k ≠ 3 → k ≠ 4 → k ≠ 5 → k ≠ 6 → k ≠ 7 → h' (p + k) = h (p + k) := hf
  exact ⟨ho', ⟨g, (go 8 (by omega) (by omega) (by omega) (by omega) (by omega) (by omega) (by omega)).trans hs, hg⟩, ⟨sf, (go 9 (by omega) (by omega) (by omega) (by omega) (by omega) (by omega) (by omega)).trans hso, hso2⟩, ⟨bf, (go 10 (by omega) (by omega) (by omega) (by omega) (by omega) (by omega) (by omega)).trans hba, hba2⟩, ⟨tf', ht, ht2⟩, ⟨ef, (go 1 (by omega) (by omega) (by omega) (by omega) (by omega) (by omega) (by omega)).trans hed, hed2⟩, ⟨gf, (go 2 (by omega) (by omega) (by omega) (by omega) (by omega) (by omega) (by omega)).trans htg, htg2⟩, h1, h2, h3, h4, h5⟩
/-- a slot's text and its orders -/
def sl_T (tx : Nat → Nat) (N : Nat) (os : List Nat) : Prop := ∃ rs le mo en q, rp_run tx (rp_0 rs le mo en) N = some q ∧ q.1 = 0 ∧ q.2.1 = 0 ∧ ∀ E Tg, oA E Tg os 0 = oA E Tg (rp_ew q).2.2.2.2.2.2.2 0
set_option maxHeartbeats 4000000 in
set_option maxRecDepth 100000 in
theorem c_MO_lengths (K : xK) (n : Nat) (h : xH) (p th ma w : Nat) (E : Nat → Nat → Nat → Bool) (Tg : Nat → Nat → Bool) (cs : Nat → Nat) (TX : Nat → Nat → Nat) (SZ SX : Nat → Nat) (s ar : Nat) (os : List Nat) (r : mo_W K h p th ma w E Tg cs TX SZ SX) (hs4 : s < 4) (har : ar = p + 11 ∨ ar = p + 12) (hsl : sl_T (TX s) (SZ s) os) : XM K xy_MO_lengths xw_MO_lengths (xrm 7 139 0 0) [.ref p, .int (nI s), .ref ar] n h (x_pv fun n' h' => n = n' ∧ (∀ q, (q < p ∨ p + 11 ≤ q) → q ≠ ar → h' q = h q) ∧ mo_W K h' p th (ma) w (E) (Tg) (cs) (TX) (SZ) (SX) ∧ (∃ S so ba ln at_ f op tx, mo_S K h' p th ma w ln at_ f op true tx E Tg S so ba) ∧ ∃ af M, h' ar = some (.inl (K.2.2.1 0, 1024, .inl af)) ∧ (∀ z, z < 1024 → af z = nI (M (z / 32) (z % 32))) ∧ pd_mn (oA E Tg os 0) M) 0 0 := by
  obtain ⟨⟨ln, at_, f, op, mk, tx, S, so, ba, r1⟩, r2⟩ := id r
  obtain ⟨⟨cf, x1, x2⟩, x3, ⟨xf, x4, x5⟩, x6, ⟨zf, x7, x8⟩, ⟨yf, x9, xa⟩, ⟨fa, xb'⟩, fb, xc⟩ := id r2
  obtain ⟨rs, le, mo, en, q, s1, s2, s3, s4⟩ := hsl
  have hN := x6 s hs4
  have ho := r1.1
  obtain ⟨tf, htx, -⟩ := r1.2.2.2.2.1
  refine xm_v (by decide +kernel) (Nat.le_of_ble_eq_true rfl) (fun G hF hR => ?_)
  refine xv_iconstN (pc' := 1) 0 hF xd_MO_lengths_0 (by decide +kernel) rfl ?_
  refine xv_istore_n (pc' := 2) (i := 3) hF xd_MO_lengths_1 rfl (Nat.le_of_ble_eq_true rfl) rfl rfl ?_
  have loop : ∀ d k tf1, SZ s - k = d → k ≤ SZ s → (∀ i, i < k → tf1 i = nI (TX s i)) → XV G 0 0 2 [(3, .int (nI k)), (0, .ref p), (1, .int (nI s)), (2, .ref ar)] [] n (xu h (p + 7) (.inl (K.2.2.1 0, 101, .inl tf1))) := by
    intro d
    induction d using Nat.strongRecOn with
    | ind d ih =>
      intro k tf1 hd hk hv
      refine xv_iload_n (pc' := 3) (i := 3) hF xd_MO_lengths_2 rfl rfl rfl ?_
      refine xv_aload_n (pc' := 4) (i := 0) hF xd_MO_lengths_3 rfl rfl rfl ?_
      refine xv_get (pc' := 7) (ci := 6) hF (by first | assumption | exact xu_self | (refine (xu_ne (by omega)).trans ?_; first | assumption | exact xu_self | (refine (xu_ne (by omega)).trans ?_; first | assumption | exact xu_self | (refine (xu_ne (by omega)).trans ?_; first | assumption | exact xu_self | (refine (xu_ne (by omega)).trans ?_; first | assumption | exact xu_self))))) rfl xu_MO 7 (by decide) xk_MO_f23 (by rfl) xd_MO_lengths_4 rfl ?_
      refine xv_iload_n (pc' := 8) (i := 1) hF xd_MO_lengths_7 rfl rfl rfl ?_
      first | refine xv_ialdN (pc' := 9) hF (by first | assumption | exact xu_self | (refine (xu_ne (by omega)).trans ?_; first | assumption | exact xu_self | (refine (xu_ne (by omega)).trans ?_; first | assumption | exact xu_self | (refine (xu_ne (by omega)).trans ?_; first | assumption | exact xu_self | (refine (xu_ne (by omega)).trans ?_; first | assumption | exact xu_self))))) (by omega) (by decide) xd_MO_lengths_8 rfl ?_ | refine xv_iald (pc' := 9) hF (by first | assumption | exact xu_self | (refine (xu_ne (by omega)).trans ?_; first | assumption | exact xu_self | (refine (xu_ne (by omega)).trans ?_; first | assumption | exact xu_self | (refine (xu_ne (by omega)).trans ?_; first | assumption | exact xu_self | (refine (xu_ne (by omega)).trans ?_; first | assumption | exact xu_self))))) (by omega) xd_MO_lengths_8 rfl ?_
      refine xv_topi (x8 s hs4) ?_
      refine xv_icmp_geN (pc' := 12) (tgt := 35) hF (by omega) (by omega) xd_MO_lengths_9 (by decide) rfl (fun e1 => ?_) (fun e1 => ?_)
      · have e0 : k = SZ s := by omega
        subst e0
        refine xv_aload_n (pc' := 36) (i := 0) hF xd_MO_lengths_35 rfl rfl rfl ?_
        refine xv_aload_n (pc' := 37) (i := 0) hF xd_MO_lengths_36 rfl rfl rfl ?_
        refine xv_get (pc' := 40) (ci := 6) hF (by first | assumption | exact xu_self | (refine (xu_ne (by omega)).trans ?_; first | assumption | exact xu_self | (refine (xu_ne (by omega)).trans ?_; first | assumption | exact xu_self | (refine (xu_ne (by omega)).trans ?_; first | assumption | exact xu_self | (refine (xu_ne (by omega)).trans ?_; first | assumption | exact xu_self))))) rfl xu_MO 7 (by decide) xk_MO_f23 (by rfl) xd_MO_lengths_37 rfl ?_
        refine xv_iload_n (pc' := 41) (i := 1) hF xd_MO_lengths_40 rfl rfl rfl ?_
        first | refine xv_ialdN (pc' := 42) hF (by first | assumption | exact xu_self | (refine (xu_ne (by omega)).trans ?_; first | assumption | exact xu_self | (refine (xu_ne (by omega)).trans ?_; first | assumption | exact xu_self | (refine (xu_ne (by omega)).trans ?_; first | assumption | exact xu_self | (refine (xu_ne (by omega)).trans ?_; first | assumption | exact xu_self))))) (by omega) (by decide) xd_MO_lengths_41 rfl ?_ | refine xv_iald (pc' := 42) hF (by first | assumption | exact xu_self | (refine (xu_ne (by omega)).trans ?_; first | assumption | exact xu_self | (refine (xu_ne (by omega)).trans ?_; first | assumption | exact xu_self | (refine (xu_ne (by omega)).trans ?_; first | assumption | exact xu_self | (refine (xu_ne (by omega)).trans ?_; first | assumption | exact xu_self))))) (by omega) xd_MO_lengths_41 rfl ?_
        refine xv_topi (x8 s hs4) ?_
        refine xv_put (pc' := 45) (ci := 6) (ty := xt_MO 10) hF (by first | assumption | exact xu_self | (refine (xu_ne (by omega)).trans ?_; first | assumption | exact xu_self | (refine (xu_ne (by omega)).trans ?_; first | assumption | exact xu_self | (refine (xu_ne (by omega)).trans ?_; first | assumption | exact xu_self | (refine (xu_ne (by omega)).trans ?_; first | assumption | exact xu_self))))) rfl xu_MO xt_MO xo_MO xn_MO 10 (by decide) xk_MO_f75 rfl (by decide +kernel) (by first | rfl | exact xb_nw _ | decide +kernel) (by first | rfl | exact xb_ft _ | decide +kernel) (by exact Nat.le_of_ble_eq_true rfl) (by dsimp only [List.set] <;> rfl) xd_MO_lengths_42 rfl ?_
        refine xv_aload_n (pc' := 46) (i := 0) hF xd_MO_lengths_45 rfl rfl rfl ?_
        refine xv_iconstN (pc' := 47) 1 hF xd_MO_lengths_46 (by decide +kernel) rfl ?_
        refine xv_topi (v' := xb true) (by decide +kernel) ?_
        obtain ⟨h2, eh2⟩ : ∃ h2, h2 = xu (xu h (p + 7) (.inl (K.2.2.1 0, 101, .inl tf1))) p (.inr (6, [.int (nI th), .ref (p + 1), .ref (p + 2), .int (nI ma), .ref (p + 3), .int (nI w), .ref (p + 4), .ref (p + 5), .ref (p + 6), .ref (p + 7), .int (nI (SZ s)), .int (nI at_), .int (xm1 f), .int (xb mk), .ref (p + 8), .ref (p + 9), .ref (p + 10), .int (nI op), .ref (p + 11), .ref (p + 12)])) := ⟨_, rfl⟩
        rw [← eh2]
        have g2 : ∀ q, q ≠ p → q ≠ p + 7 → h2 q = h q := fun q a b => by rw [eh2, xu_ne a, xu_ne b]
        have ho2 : h2 p = some (.inr (6, [.int (nI th), .ref (p + 1), .ref (p + 2), .int (nI ma), .ref (p + 3), .int (nI w), .ref (p + 4), .ref (p + 5), .ref (p + 6), .ref (p + 7), .int (nI (SZ s)), .int (nI at_), .int (xm1 f), .int (xb mk), .ref (p + 8), .ref (p + 9), .ref (p + 10), .int (nI op), .ref (p + 11), .ref (p + 12)])) := by rw [eh2]; exact xu_self
        have ht2 : h2 (p + 7) = some (.inl (K.2.2.1 0, 101, .inl tf1)) := by rw [eh2, xu_ne (by omega)]; exact xu_self
        clear eh2 ih
        have r3 : mo_S K (xu h2 p (.inr (6, [.int (nI th), .ref (p + 1), .ref (p + 2), .int (nI ma), .ref (p + 3), .int (nI w), .ref (p + 4), .ref (p + 5), .ref (p + 6), .ref (p + 7), .int (nI (SZ s)), .int (nI 0), .int (xm1 0), .int (xb true), .ref (p + 8), .ref (p + 9), .ref (p + 10), .int (nI 0), .ref (p + 11), .ref (p + 12)]))) p th ma w (SZ s) 0 0 0 true (TX s) E Tg S so ba := by
          refine r1.text (fun k _ _ _ _ _ _ _ => ?_) xu_self (by rw [xu_ne (by omega)]; exact ht2) hv (by omega) (by omega) (by omega) hN (fun i hi => (x5 s i hs4 hi).2)
          rw [xu_ne (by omega)]; exact g2 _ (by omega) (by omega)
        refine xv_callVv (pc' := 50) (ci := 6) hF (c_MO_begin2 K n h2 p th ma w (SZ s) at_ f op mk (TX s) E Tg S so ba true ho2 r3) xq_MO_begin xk_MO_m159 xk_i_MO_begin xk_s_MO_begin (by first | assumption | exact xu_self | (refine (xu_ne (by omega)).trans ?_; first | assumption | exact xu_self | (refine (xu_ne (by omega)).trans ?_; first | assumption | exact xu_self | (refine (xu_ne (by omega)).trans ?_; first | assumption | exact xu_self | (refine (xu_ne (by omega)).trans ?_; first | assumption | exact xu_self))))) rfl ⟨(Nat.le_of_ble_eq_true rfl), (Nat.le_of_ble_eq_true rfl)⟩ rfl rfl (Nat.le_of_ble_eq_true rfl) ⟨(Nat.le_of_ble_eq_true rfl), (Nat.le_of_ble_eq_true rfl)⟩ xd_MO_lengths_47 rfl (fun n3 h3 q3 => ?_)
        obtain ⟨rfl, f3, r4⟩ := q3
        clear ho
        have ho := r4.1
        refine xv_aload_n (pc' := 51) (i := 0) hF xd_MO_lengths_50 rfl rfl rfl ?_
        refine xv_callVv (pc' := 54) (ci := 6) hF (c_MO_read K n h3 p th ma w (SZ s) 0 f 0 true (TX s) E Tg _ _ _ (rp_0 rs le mo en) (rp_0 rs le mo en) r4 rfl rfl (ti_0 E Tg true S so ba rs le mo en) (fun h => (by cases h)) (fun _ => rd_good s1 s2 s3)) xq_MO_read xk_MO_m163 xk_i_MO_read xk_s_MO_read (by first | assumption | exact xu_self | (refine (xu_ne (by omega)).trans ?_; first | assumption | exact xu_self | (refine (xu_ne (by omega)).trans ?_; first | assumption | exact xu_self | (refine (xu_ne (by omega)).trans ?_; first | assumption | exact xu_self | (refine (xu_ne (by omega)).trans ?_; first | assumption | exact xu_self))))) rfl ⟨(Nat.le_of_ble_eq_true rfl), (Nat.le_of_ble_eq_true rfl)⟩ rfl rfl (Nat.le_of_ble_eq_true rfl) ⟨(Nat.le_of_ble_eq_true rfl), (Nat.le_of_ble_eq_true rfl)⟩ xd_MO_lengths_51 rfl (fun n5 h5 q5 => ?_)
        obtain ⟨rfl, f5, a', f', op', S', so', ba', hfin, r5⟩ := q5
        obtain ⟨q2, k1, k2, k3, -, -, k6⟩ : ∃ q, rp_run (TX s) (rp_0 rs le mo en) (SZ s) = some q ∧ q.1 = 0 ∧ q.2.1 = 0 ∧ (rp_ew q).2.2.2.2.2.2.1 0 = min (so' 0) 81 ∧ so' 0 ≤ 100000 ∧ (true = true → pd_mn (oA E Tg (rp_ew q).2.2.2.2.2.2.2 0) (S' 0)) := by
          rcases hfin with ⟨-, hb⟩ | ⟨-, hb⟩
          · exact absurd hb (rd_good s1 s2 s3 _)
          · exact hb
        rw [s1] at k1
        cases k1
        have k6 := k6 rfl
        rw [← s4] at k6
        have g5 : ∀ q, q ≠ p → q ≠ p + 7 → q ≠ p + 8 → q ≠ p + 9 → q ≠ p + 10 → h5 q = h q := fun q c1 c2 c3 c4 c5 => (f5 q c1 c3 c4 c5).trans ((f3 q c1 c3 c4 c5).trans (g2 q c1 c2))
        have r6 : mw_X K h5 p cs w TX SZ SX := r2.keep (fun q c1 _ _ c4 c5 c6 c7 => g5 q c1 c4 c5 c6 c7)
        clear ho
        obtain ⟨ho, ⟨g, hsq, hg⟩, -⟩ := id r5
        obtain ⟨af0, haf0⟩ : ∃ af0, h5 ar = some (.inl (K.2.2.1 0, 1024, .inl af0)) := by
          rcases har with rfl | rfl
          · exact ⟨fa, (g5 _ (by omega) (by omega) (by omega) (by omega) (by omega)).trans xb'⟩
          · exact ⟨fb, (g5 _ (by omega) (by omega) (by omega) (by omega) (by omega)).trans xc⟩
        have har2 : ar ≠ p ∧ ar ≠ p + 8 ∧ p + 11 ≤ ar ∧ ar ≤ p + 12 := by omega
        refine xv_iconstN (pc' := 55) 0 hF xd_MO_lengths_54 (by decide +kernel) rfl ?_
        refine xv_istore_n (pc' := 56) (i := 3) hF xd_MO_lengths_55 rfl (Nat.le_of_ble_eq_true rfl) rfl rfl ?_
        have loop2 : ∀ d2 k2 af, 1024 - k2 = d2 → k2 ≤ 1024 → (∀ z, z < k2 → af z = nI (S' 0 (z / 32) (z % 32))) → XV G (0 + 0 + 0) (0 + 0 + 0) 56 [(3, .int (nI k2)), (0, .ref p), (1, .int (nI s)), (2, .ref ar)] [] n (xu h5 ar (.inl (K.2.2.1 0, 1024, .inl af))) := by
          intro d2
          induction d2 using Nat.strongRecOn with
          | ind d2 ih2 =>
            intro k2 af hd2 hk2 hv2
            refine xv_iload_n (pc' := 57) (i := 3) hF xd_MO_lengths_56 rfl rfl rfl ?_
            refine xv_sipushN (pc' := 60) 1024 hF xd_MO_lengths_57 (by decide +kernel) rfl ?_
            refine xv_icmp_geN (pc' := 63) (tgt := 78) hF (by omega) (by omega) xd_MO_lengths_60 (by decide) rfl (fun e2 => ?_) (fun e2 => ?_)
            · have : k2 = 1024 := by omega
              subst this
              refine hR _ _ _ _ _ _ (by omega) (by omega) ?_ xd_MO_lengths_78
              have r7 : mo_S K (xu h5 ar (.inl (K.2.2.1 0, 1024, .inl af))) p th ma w (SZ s) a' f' op' true (TX s) E Tg S' so' ba' := by
                obtain ⟨ho, ⟨g, hs, hg⟩, ⟨sf, hso, hso2⟩, ⟨bf, hba, hba2⟩, ⟨tf, htx, htx2⟩, ⟨ef, hed, hed2⟩, ⟨gf, htg, htg2⟩, b1, b2, b3, b4, b5⟩ := r5
                exact ⟨by rw [xu_ne (by omega)]; exact ho, ⟨g, by rw [xu_ne (by omega)]; exact hs, hg⟩, ⟨sf, by rw [xu_ne (by omega)]; exact hso, hso2⟩, ⟨bf, by rw [xu_ne (by omega)]; exact hba, hba2⟩, ⟨tf, by rw [xu_ne (by omega)]; exact htx, htx2⟩, ⟨ef, by rw [xu_ne (by omega)]; exact hed, hed2⟩, ⟨gf, by rw [xu_ne (by omega)]; exact htg, htg2⟩, b1, b2, b3, b4, b5⟩
              refine ⟨rfl, fun q c1 c2 => (xu_ne c2).trans (g5 q (by omega) (by omega) (by omega) (by omega) (by omega)), ⟨⟨_, _, _, _, _, _, _, _, _, r7⟩, ?_⟩, ⟨_, _, _, _, _, _, _, _, r7⟩, af, S' 0, xu_self, hv2, k6⟩
              obtain ⟨⟨cf, x1, x2⟩, x3, ⟨xf, x4, x5⟩, x6, ⟨zf, x7, x8⟩, ⟨yf, x9, xa⟩, ⟨fa, xb'⟩, fb, xc⟩ := r6
              refine ⟨⟨cf, by rw [xu_ne (by omega)]; exact x1, x2⟩, x3, ⟨xf, by rw [xu_ne (by omega)]; exact x4, x5⟩, x6, ⟨zf, by rw [xu_ne (by omega)]; exact x7, x8⟩, ⟨yf, by rw [xu_ne (by omega)]; exact x9, xa⟩, ?_⟩
              rcases har with rfl | rfl
              · exact ⟨⟨_, xu_self⟩, fb, by rw [xu_ne (by omega)]; exact xc⟩
              · exact ⟨⟨fa, by rw [xu_ne (by omega)]; exact xb'⟩, _, xu_self⟩
            · have hz := hg 0 k2 (by omega) e2
              rw [show 1024 * 0 + k2 = k2 by omega] at hz
              refine xv_aload_n (pc' := 64) (i := 2) hF xd_MO_lengths_63 rfl rfl rfl ?_
              refine xv_iload_n (pc' := 65) (i := 3) hF xd_MO_lengths_64 rfl rfl rfl ?_
              refine xv_aload_n (pc' := 66) (i := 0) hF xd_MO_lengths_65 rfl rfl rfl ?_
              refine xv_get (pc' := 69) (ci := 6) hF (by first | assumption | exact xu_self | (refine (xu_ne (by omega)).trans ?_; first | assumption | exact xu_self | (refine (xu_ne (by omega)).trans ?_; first | assumption | exact xu_self | (refine (xu_ne (by omega)).trans ?_; first | assumption | exact xu_self | (refine (xu_ne (by omega)).trans ?_; first | assumption | exact xu_self))))) rfl xu_MO 14 (by decide) xk_MO_f33 (by rfl) xd_MO_lengths_66 rfl ?_
              refine xv_iload_n (pc' := 70) (i := 3) hF xd_MO_lengths_69 rfl rfl rfl ?_
              first | refine xv_ialdN (pc' := 71) hF (by first | assumption | exact xu_self | (refine (xu_ne (by omega)).trans ?_; first | assumption | exact xu_self | (refine (xu_ne (by omega)).trans ?_; first | assumption | exact xu_self | (refine (xu_ne (by omega)).trans ?_; first | assumption | exact xu_self | (refine (xu_ne (by omega)).trans ?_; first | assumption | exact xu_self))))) (by omega) (by decide) xd_MO_lengths_70 rfl ?_ | refine xv_iald (pc' := 71) hF (by first | assumption | exact xu_self | (refine (xu_ne (by omega)).trans ?_; first | assumption | exact xu_self | (refine (xu_ne (by omega)).trans ?_; first | assumption | exact xu_self | (refine (xu_ne (by omega)).trans ?_; first | assumption | exact xu_self | (refine (xu_ne (by omega)).trans ?_; first | assumption | exact xu_self))))) (by omega) xd_MO_lengths_70 rfl ?_
              refine xv_topi hz.1 ?_
              refine xv_iastN (pc' := 72) hF (by first | assumption | exact xu_self | (refine (xu_ne (by omega)).trans ?_; first | assumption | exact xu_self | (refine (xu_ne (by omega)).trans ?_; first | assumption | exact xu_self | (refine (xu_ne (by omega)).trans ?_; first | assumption | exact xu_self | (refine (xu_ne (by omega)).trans ?_; first | assumption | exact xu_self))))) (by omega) (by decide) xd_MO_lengths_71 rfl ?_
              first | refine xv_iincN (pc' := 75) hF xd_MO_lengths_72 rfl rfl (Nat.le_of_ble_eq_true rfl) rfl rfl ?_ | refine xv_iinc (pc' := 75) hF xd_MO_lengths_72 rfl rfl (Nat.le_of_ble_eq_true rfl) rfl rfl ?_
              refine xv_goto (tgt := 56) hF xd_MO_lengths_75 (by decide) ?_
              rw [xu_xu]
              refine xv_loc _ (by repeat (first | exact trivial | refine ⟨rfl, ?_⟩)) (ih2 _ (by omega) (k2 + 1) _ rfl (by omega) (fun z hz2 => ?_))
              by_cases c : z = k2
              · subst c; rw [pk_us]
              · rw [pk_un c]; exact hv2 z (by omega)
        have l0 := loop2 1024 0 af0 (by omega) (by omega) (fun z hz => absurd hz (Nat.not_lt_zero _))
        rw [xu_same haf0] at l0
        exact xv_loc _ (by repeat (first | exact trivial | refine ⟨rfl, ?_⟩)) l0
      · refine xv_aload_n (pc' := 13) (i := 0) hF xd_MO_lengths_12 rfl rfl rfl ?_
        refine xv_get (pc' := 16) (ci := 6) hF (by first | assumption | exact xu_self | (refine (xu_ne (by omega)).trans ?_; first | assumption | exact xu_self | (refine (xu_ne (by omega)).trans ?_; first | assumption | exact xu_self | (refine (xu_ne (by omega)).trans ?_; first | assumption | exact xu_self | (refine (xu_ne (by omega)).trans ?_; first | assumption | exact xu_self))))) rfl xu_MO 9 (by decide) xk_MO_f29 (by rfl) xd_MO_lengths_13 rfl ?_
        refine xv_iload_n (pc' := 17) (i := 3) hF xd_MO_lengths_16 rfl rfl rfl ?_
        refine xv_aload_n (pc' := 18) (i := 0) hF xd_MO_lengths_17 rfl rfl rfl ?_
        refine xv_get (pc' := 21) (ci := 6) hF (by first | assumption | exact xu_self | (refine (xu_ne (by omega)).trans ?_; first | assumption | exact xu_self | (refine (xu_ne (by omega)).trans ?_; first | assumption | exact xu_self | (refine (xu_ne (by omega)).trans ?_; first | assumption | exact xu_self | (refine (xu_ne (by omega)).trans ?_; first | assumption | exact xu_self))))) rfl xu_MO 6 (by decide) xk_MO_f20 (by rfl) xd_MO_lengths_18 rfl ?_
        refine xv_bipushN (pc' := 23) 100 hF xd_MO_lengths_21 (by decide +kernel) rfl ?_
        refine xv_iload_n (pc' := 24) (i := 1) hF xd_MO_lengths_23 rfl rfl rfl ?_
        first | refine xv_imulN (pc' := 25) hF xd_MO_lengths_24 rfl ?_ | refine xv_imul (pc' := 25) hF xd_MO_lengths_24 rfl ?_
        refine xv_iload_n (pc' := 26) (i := 3) hF xd_MO_lengths_25 rfl rfl rfl ?_
        first | refine xv_iaddN (pc' := 27) hF xd_MO_lengths_26 rfl ?_ | refine xv_iadd (pc' := 27) hF xd_MO_lengths_26 rfl ?_
        first | refine xv_ialdN (pc' := 28) hF (by first | assumption | exact xu_self | (refine (xu_ne (by omega)).trans ?_; first | assumption | exact xu_self | (refine (xu_ne (by omega)).trans ?_; first | assumption | exact xu_self | (refine (xu_ne (by omega)).trans ?_; first | assumption | exact xu_self | (refine (xu_ne (by omega)).trans ?_; first | assumption | exact xu_self))))) (by omega) (by decide) xd_MO_lengths_27 rfl ?_ | refine xv_iald (pc' := 28) hF (by first | assumption | exact xu_self | (refine (xu_ne (by omega)).trans ?_; first | assumption | exact xu_self | (refine (xu_ne (by omega)).trans ?_; first | assumption | exact xu_self | (refine (xu_ne (by omega)).trans ?_; first | assumption | exact xu_self | (refine (xu_ne (by omega)).trans ?_; first | assumption | exact xu_self))))) (by omega) xd_MO_lengths_27 rfl ?_
        refine xv_topi (x5 s k hs4 e1).1 ?_
        refine xv_iastN (pc' := 29) hF (by first | assumption | exact xu_self | (refine (xu_ne (by omega)).trans ?_; first | assumption | exact xu_self | (refine (xu_ne (by omega)).trans ?_; first | assumption | exact xu_self | (refine (xu_ne (by omega)).trans ?_; first | assumption | exact xu_self | (refine (xu_ne (by omega)).trans ?_; first | assumption | exact xu_self))))) (by omega) (by decide) xd_MO_lengths_28 rfl ?_
        first | refine xv_iincN (pc' := 32) hF xd_MO_lengths_29 rfl rfl (Nat.le_of_ble_eq_true rfl) rfl rfl ?_ | refine xv_iinc (pc' := 32) hF xd_MO_lengths_29 rfl rfl (Nat.le_of_ble_eq_true rfl) rfl rfl ?_
        refine xv_goto (tgt := 2) hF xd_MO_lengths_32 (by decide) ?_
        rw [xu_xu]
        refine xv_loc _ (by repeat (first | exact trivial | refine ⟨rfl, ?_⟩)) (ih _ (by omega) (k + 1) _ rfl (by omega) (fun z hz2 => ?_))
        by_cases c : z = k
        · subst c; rw [pk_us]
        · rw [pk_un c]; exact hv z (by omega)
  have l0 := loop (SZ s) 0 tf (by omega) (by omega) (fun z hz => absurd hz (Nat.not_lt_zero _))
  rw [xu_same htx] at l0
  exact xv_loc _ (by repeat (first | exact trivial | refine ⟨rfl, ?_⟩)) l0
