/-! the law's loop -/
theorem xs_neg : ∀ N, N < 4 → nI N - nI 4 < 0 := by decide +kernel
set_option maxHeartbeats 4000000 in
set_option maxRecDepth 100000 in
theorem law_loop {G : xG} {K : xK} {o b N : Nat} {xs : Nat → Int32} (hF : XF G K xc_LW_law xr_LW (xrm 11 398 262836 8307598) 7) (hJ : XJ G K) (hX : XS G b N xs) (hN : N ≤ 2048) (fin : ∀ k kS n h i, k ≤ 262836 → kS ≤ 8307598 → XV G k kS 962 [(4, .int (nI i)), (0, .ref b), (1, .ref o), (2, .ref (o + 37)), (3, .ref (o + 50))] [.int 1] n h) : ∀ d i t k kS n h mk, N + 4 - i = d → i = 4 * t → i ≤ N + 3 → LI K o n h mk → k ≤ 51 + 3 * mk + t → kS ≤ 58759 + 1058 * mk + 6 * t → XV G k kS 23 [(4, .int (nI i)), (0, .ref b), (1, .ref o), (2, .ref (o + 37)), (3, .ref (o + 50))] [] n h := by
  intro d
  induction d using Nat.strongRecOn with
  | ind d ih =>
    intro i t k kS n h mk hd hit hi3 hI hk hkS
    have hmk : mk ≤ 24 := by
      obtain ⟨_, _, _, _, _, _, _, _, _, _, _, _, _, _, _, hmk, _⟩ := hI
      exact hmk
    have out : XV G k kS 961 [(4, .int (nI i)), (0, .ref b), (1, .ref o), (2, .ref (o + 37)), (3, .ref (o + 50))] [] n h := by
      refine xv_iconst (pc' := 962) (v := 1) hF xd_LW_law_961 (by decide +kernel) rfl ?_
      exact fin k kS n h i (by omega) (by omega)
    by_cases h4 : 4 ≤ N
    · refine xv_iload (pc' := 25) hF xd_LW_law_23 rfl rfl ?_
      refine xv_aload_n (pc' := 26) (i := 0) hF xd_LW_law_25 rfl rfl rfl ?_
      refine xl_slen (pc' := 27) hF hX xd_LW_law_26 rfl ?_
      refine xv_iconstN (pc' := 28) 4 hF xd_LW_law_27 (by decide +kernel) rfl ?_
      first | refine xv_isubN (pc' := 29) hF (by omega) xd_LW_law_28 rfl ?_ | refine xv_isub (pc' := 29) hF xd_LW_law_28 rfl ?_
      refine xv_icmp_gtN (pc' := 32) (tgt := 961) hF (by omega) (by omega) xd_LW_law_29 (by decide) rfl (fun e1 => ?_) (fun e1 => ?_)
      · exact xv_loc _ (by repeat (first | exact trivial | refine ⟨rfl, ?_⟩)) out
      · have hi4 : i + 4 ≤ N := by omega
        have nx : LN G K o b i t := by
          intro k' kS' n' h' mk' hI' hk' hkS'
          refine xv_iinc (pc' := 958) (v := nI (i + 4)) hF xd_LW_law_955 rfl (by rw [← nI_add]; rfl) (Nat.le_of_ble_eq_true rfl) rfl rfl ?_
          refine xv_goto (tgt := 23) hF xd_LW_law_958 (by decide) ?_
          exact xv_loc _ (by repeat (first | exact trivial | refine ⟨rfl, ?_⟩)) (ih _ (by omega) (i + 4) (t + 1) k' kS' n' h' mk' rfl (by omega) (by omega) hI' (by omega) (by omega))
        obtain ⟨v0, hv0⟩ : ∃ v0, xs i = v0 := ⟨_, rfl⟩
        refine xv_aload_n (pc' := 33) (i := 0) hF xd_LW_law_32 rfl rfl rfl ?_
        refine xv_iload (pc' := 35) hF xd_LW_law_33 rfl rfl ?_
        refine xl_ld (pc' := 36) hF hX (by first | exact hv1 | exact hv2 | exact hv3 | exact hv0) (by omega) (by omega) xd_LW_law_35 rfl ?_
        refine xv_bipushN (pc' := 38) 15 hF xd_LW_law_36 (by decide +kernel) rfl ?_
        first | refine xv_iandN (pc' := 39) hF xd_LW_law_38 rfl ?_ | refine xv_iand (pc' := 39) hF xd_LW_law_38 rfl ?_
        obtain ⟨j, hj, ej⟩ := and15 v0
        refine xv_topi ej ?_
        have hc : j = 0 ∨ j = 1 ∨ j = 2 ∨ j = 3 ∨ j = 4 ∨ j = 5 ∨ j = 6 ∨ j = 7 ∨ j = 8 ∨ j = 9 ∨ j = 10 ∨ j = 11 ∨ j = 12 ∨ j = 13 ∨ j = 14 ∨ j = 15 := by omega
        rcases hc with rfl | rfl | rfl | rfl | rfl | rfl | rfl | rfl | rfl | rfl | rfl | rfl | rfl | rfl | rfl | rfl
        · refine xv_tabIn (off := 61) (tgt := 100) hF xd_LW_law_39 (by decide +kernel) (by decide +kernel) (by decide +kernel) (by decide) ?_
          exact xv_loc _ (by repeat (first | exact trivial | refine ⟨rfl, ?_⟩)) (lc_edge hF hJ hX hN hi4 (by omega) rfl rfl rfl hI hk hkS nx)
        · refine xv_tabIn (off := 148) (tgt := 187) hF xd_LW_law_39 (by decide +kernel) (by decide +kernel) (by decide +kernel) (by decide) ?_
          exact xv_loc _ (by repeat (first | exact trivial | refine ⟨rfl, ?_⟩)) (lc_cut hF hJ hX hN hi4 (by omega) rfl rfl rfl hI hk hkS nx)
        · refine xv_tabIn (off := 235) (tgt := 274) hF xd_LW_law_39 (by decide +kernel) (by decide +kernel) (by decide +kernel) (by decide) ?_
          exact xv_loc _ (by repeat (first | exact trivial | refine ⟨rfl, ?_⟩)) (lc_tag hF hJ hX hN hi4 (by omega) rfl rfl rfl hI hk hkS nx)
        · refine xv_tabIn (off := 311) (tgt := 350) hF xd_LW_law_39 (by decide +kernel) (by decide +kernel) (by decide +kernel) (by decide) ?_
          exact xv_loc _ (by repeat (first | exact trivial | refine ⟨rfl, ?_⟩)) (lc_feed hF hJ hX hN hi4 (by omega) rfl rfl rfl hI hk hkS nx)
        · refine xv_tabIn (off := 411) (tgt := 450) hF xd_LW_law_39 (by decide +kernel) (by decide +kernel) (by decide +kernel) (by decide) ?_
          exact xv_loc _ (by repeat (first | exact trivial | refine ⟨rfl, ?_⟩)) (lc_load hF hJ hX hN hi4 (by omega) rfl hI hk hkS nx)
        · refine xv_tabIn (off := 467) (tgt := 506) hF xd_LW_law_39 (by decide +kernel) (by decide +kernel) (by decide +kernel) (by decide) ?_
          exact xv_loc _ (by repeat (first | exact trivial | refine ⟨rfl, ?_⟩)) (lc_reach hF hJ hX hN hi4 (by omega) rfl rfl rfl hI hk hkS nx)
        · refine xv_tabIn (off := 563) (tgt := 602) hF xd_LW_law_39 (by decide +kernel) (by decide +kernel) (by decide +kernel) (by decide) ?_
          exact xv_loc _ (by repeat (first | exact trivial | refine ⟨rfl, ?_⟩)) (lc_distance hF hJ hX hN hi4 (by omega) rfl rfl rfl hI hk hkS nx)
        · refine xv_tabIn (off := 643) (tgt := 682) hF xd_LW_law_39 (by decide +kernel) (by decide +kernel) (by decide +kernel) (by decide) ?_
          exact xv_loc _ (by repeat (first | exact trivial | refine ⟨rfl, ?_⟩)) (lc_span hF hJ hX hN hi4 (by omega) rfl hI hk hkS nx)
        · refine xv_tabIn (off := 699) (tgt := 738) hF xd_LW_law_39 (by decide +kernel) (by decide +kernel) (by decide +kernel) (by decide) ?_
          exact xv_loc _ (by repeat (first | exact trivial | refine ⟨rfl, ?_⟩)) (lc_pairs hF hJ hX hN hi4 (by omega) rfl rfl rfl hI hk hkS nx)
        · refine xv_tabIn (off := 779) (tgt := 818) hF xd_LW_law_39 (by decide +kernel) (by decide +kernel) (by decide +kernel) (by decide) ?_
          exact xv_loc _ (by repeat (first | exact trivial | refine ⟨rfl, ?_⟩)) (lc_circle hF hJ hX hN hi4 (by omega) rfl hI hk hkS nx)
        · refine xv_tabIn (off := 835) (tgt := 874) hF xd_LW_law_39 (by decide +kernel) (by decide +kernel) (by decide +kernel) (by decide) ?_
          exact xv_loc _ (by repeat (first | exact trivial | refine ⟨rfl, ?_⟩)) (lc_best hF hJ hX hN hi4 (by omega) rfl hI hk hkS nx)
        · refine xv_tabIn (off := 891) (tgt := 930) hF xd_LW_law_39 (by decide +kernel) (by decide +kernel) (by decide +kernel) (by decide) ?_
          exact xv_loc _ (by repeat (first | exact trivial | refine ⟨rfl, ?_⟩)) (lc_count hF hJ hX hN hi4 (by omega) rfl hI hk hkS nx)
        · refine xv_tabOut (tgt := 955) hF xd_LW_law_39 (by decide +kernel) (by decide) ?_
          exact xv_loc _ (by repeat (first | exact trivial | refine ⟨rfl, ?_⟩)) (nx k kS n h mk hI (by omega) (by omega))
        · refine xv_tabOut (tgt := 955) hF xd_LW_law_39 (by decide +kernel) (by decide) ?_
          exact xv_loc _ (by repeat (first | exact trivial | refine ⟨rfl, ?_⟩)) (nx k kS n h mk hI (by omega) (by omega))
        · refine xv_tabOut (tgt := 955) hF xd_LW_law_39 (by decide +kernel) (by decide) ?_
          exact xv_loc _ (by repeat (first | exact trivial | refine ⟨rfl, ?_⟩)) (nx k kS n h mk hI (by omega) (by omega))
        · refine xv_tabOut (tgt := 955) hF xd_LW_law_39 (by decide +kernel) (by decide) ?_
          exact xv_loc _ (by repeat (first | exact trivial | refine ⟨rfl, ?_⟩)) (nx k kS n h mk hI (by omega) (by omega))
    · refine xv_iload (pc' := 25) hF xd_LW_law_23 rfl rfl ?_
      refine xv_aload_n (pc' := 26) (i := 0) hF xd_LW_law_25 rfl rfl rfl ?_
      refine xl_slen (pc' := 27) hF hX xd_LW_law_26 rfl ?_
      refine xv_iconstN (pc' := 28) 4 hF xd_LW_law_27 (by decide +kernel) rfl ?_
      first | refine xv_isubN (pc' := 29) hF (by omega) xd_LW_law_28 rfl ?_ | refine xv_isub (pc' := 29) hF xd_LW_law_28 rfl ?_
      refine xv_icmp_gt (pc' := 32) (tgt := 961) hF xd_LW_law_29 (by decide) rfl (fun e1 => ?_) (fun e1 => ?_)
      · exact xv_loc _ (by repeat (first | exact trivial | refine ⟨rfl, ?_⟩)) out
      · have h5 := xs_neg N (by omega)
        have h6 := nI_pos' (n := i) (by omega)
        exact absurd (Int32.lt_of_lt_of_le h5 h6) e1
