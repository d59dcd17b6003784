/-! the law: count -/
set_option maxHeartbeats 4000000 in
set_option maxRecDepth 100000 in
theorem lc_count {G : xG} {K : xK} {o b i t N n k kS mk : Nat} {h : xH} {xs : Nat → Int32} {v1 : Int32} (hF : XF G K xc_LW_law xr_LW (xrm 11 398 262836 8307598) 7) (hJ : XJ G K) (hX : XS G b N xs) (hN : N ≤ 2048) (hi : i + 4 ≤ N) (ht : t < 512) (hv1 : xs (i + 1) = v1) (hI : LI K o n h mk) (hk : k ≤ 51 + 3 * mk + t) (hkS : kS ≤ 58759 + 1058 * mk + 6 * t) (nx : LN G K o b i t) : XV G k kS 930 [(4, .int (nI i)), (0, .ref b), (1, .ref o), (2, .ref (o + 37)), (3, .ref (o + 50))] [] n h := by
  obtain ⟨E, Tg, cs, w, OS, SX, kn, th, TX, SZ, f, d, r, sl, he, hmk, hq⟩ := hI
  have ha := d.1
  obtain ⟨⟨_, _, _, _, _, _, _, _, _, ho'⟩, -⟩ := id r
  have ho := ho'.1
  refine xv_aload_n (pc' := 931) (i := 1) hF xd_LW_law_930 rfl rfl rfl ?_
  refine xv_aload_n (pc' := 932) (i := 0) hF xd_LW_law_931 rfl rfl rfl ?_
  refine xv_iload (pc' := 934) hF xd_LW_law_932 rfl rfl ?_
  refine xv_iconstN (pc' := 935) 1 hF xd_LW_law_934 (by decide +kernel) rfl ?_
  first | refine xv_iaddN (pc' := 936) hF xd_LW_law_935 rfl ?_ | refine xv_iadd (pc' := 936) hF xd_LW_law_935 rfl ?_
  refine xl_ld (pc' := 937) hF hX (by first | exact hv1 | exact hv2 | exact hv3 | exact hv0) (by omega) (by omega) xd_LW_law_936 rfl ?_
  cases hx : x_in v1 18 with
  | false =>
    refine xv_callVi (pc' := 940) (ci := 0) hF (c_PD_countO K n h o v1 hx) xq_PD_count xk_LW_m102 xk_i_PD_count xk_s_PD_count (by first | assumption | exact xu_self | (refine (xu_ne (by omega)).trans ?_; first | assumption | exact xu_self | (refine (xu_ne (by omega)).trans ?_; first | assumption | exact xu_self | (refine (xu_ne (by omega)).trans ?_; first | assumption | exact xu_self | (refine (xu_ne (by omega)).trans ?_; first | assumption | exact xu_self))))) rfl ⟨(Nat.le_of_ble_eq_true rfl), (Nat.le_of_ble_eq_true rfl)⟩ rfl rfl (Nat.le_of_ble_eq_true rfl) ⟨(by simp only [xrm]; omega), (by simp only [xrm]; omega)⟩ xd_LW_law_937 rfl (fun r1 n1 h1 q1 => ?_)
    obtain ⟨rfl, rfl, rfl⟩ := q1
    refine xv_aload_n (pc' := 941) (i := 2) hF xd_LW_law_940 rfl rfl rfl ?_
    refine xv_aload_n (pc' := 942) (i := 0) hF xd_LW_law_941 rfl rfl rfl ?_
    refine xv_iload (pc' := 944) hF xd_LW_law_942 rfl rfl ?_
    refine xv_iconstN (pc' := 945) 1 hF xd_LW_law_944 (by decide +kernel) rfl ?_
    first | refine xv_iaddN (pc' := 946) hF xd_LW_law_945 rfl ?_ | refine xv_iadd (pc' := 946) hF xd_LW_law_945 rfl ?_
    refine xl_ld (pc' := 947) hF hX (by first | exact hv1 | exact hv2 | exact hv3 | exact hv0) (by omega) (by omega) xd_LW_law_946 rfl ?_
    refine xv_callVi (pc' := 950) (ci := 6) hF (c_MO_countO K _ h (o + 37) th (ec E) w E Tg cs TX SZ SX v1 r hx) xq_MO_count xk_LW_m105 xk_i_MO_count xk_s_MO_count (by first | assumption | exact xu_self | (refine (xu_ne (by omega)).trans ?_; first | assumption | exact xu_self | (refine (xu_ne (by omega)).trans ?_; first | assumption | exact xu_self | (refine (xu_ne (by omega)).trans ?_; first | assumption | exact xu_self | (refine (xu_ne (by omega)).trans ?_; first | assumption | exact xu_self))))) rfl ⟨(Nat.le_of_ble_eq_true rfl), (Nat.le_of_ble_eq_true rfl)⟩ rfl rfl (Nat.le_of_ble_eq_true rfl) ⟨(by simp only [xrm]; omega), (by simp only [xrm]; omega)⟩ xd_LW_law_947 rfl (fun r2 n2 h2 q2 => ?_)
    obtain ⟨rfl, f2, rfl, w2⟩ := q2
    refine xv_icmp_eq (pc' := 953) (tgt := 955) hF xd_LW_law_950 (by decide) rfl (fun e1 => ?_) (fun e1 => ?_)
    · exact xv_loc _ (by repeat (first | exact trivial | refine ⟨rfl, ?_⟩)) (nx _ _ _ _ mk ⟨E, Tg, cs, w, OS, SX, kn, _, TX, SZ, f, f2.dk d (Nat.le_refl _), w2, sl, he, hmk, (f2 _ (by omega)).trans hq⟩ (by omega) (by omega))
    · exact absurd rfl e1
  | true =>
    obtain ⟨s, hs, rfl⟩ := x_in_of (by decide) hx
    refine xv_callVi (pc' := 940) (ci := 0) hF (c_PD_count K n h o (ec E) w mk s E Tg cs OS SX kn d hs) xq_PD_count xk_LW_m102 xk_i_PD_count xk_s_PD_count (by first | assumption | exact xu_self | (refine (xu_ne (by omega)).trans ?_; first | assumption | exact xu_self | (refine (xu_ne (by omega)).trans ?_; first | assumption | exact xu_self | (refine (xu_ne (by omega)).trans ?_; first | assumption | exact xu_self | (refine (xu_ne (by omega)).trans ?_; first | assumption | exact xu_self))))) rfl ⟨(Nat.le_of_ble_eq_true rfl), (Nat.le_of_ble_eq_true rfl)⟩ rfl rfl (Nat.le_of_ble_eq_true rfl) ⟨(by simp only [xrm]; omega), (by simp only [xrm]; omega)⟩ xd_LW_law_937 rfl (fun r1 n1 h1 q1 => ?_)
    obtain ⟨rfl, rfl, rfl⟩ := q1
    refine xv_aload_n (pc' := 941) (i := 2) hF xd_LW_law_940 rfl rfl rfl ?_
    refine xv_aload_n (pc' := 942) (i := 0) hF xd_LW_law_941 rfl rfl rfl ?_
    refine xv_iload (pc' := 944) hF xd_LW_law_942 rfl rfl ?_
    refine xv_iconstN (pc' := 945) 1 hF xd_LW_law_944 (by decide +kernel) rfl ?_
    first | refine xv_iaddN (pc' := 946) hF xd_LW_law_945 rfl ?_ | refine xv_iadd (pc' := 946) hF xd_LW_law_945 rfl ?_
    refine xl_ld (pc' := 947) hF hX (by first | exact hv1 | exact hv2 | exact hv3 | exact hv0) (by omega) (by omega) xd_LW_law_946 rfl ?_
    refine xv_callVi (pc' := 950) (ci := 6) hF (c_MO_count K _ h (o + 37) th (ec E) w E Tg cs TX SZ SX s r hs) xq_MO_count xk_LW_m105 xk_i_MO_count xk_s_MO_count (by first | assumption | exact xu_self | (refine (xu_ne (by omega)).trans ?_; first | assumption | exact xu_self | (refine (xu_ne (by omega)).trans ?_; first | assumption | exact xu_self | (refine (xu_ne (by omega)).trans ?_; first | assumption | exact xu_self | (refine (xu_ne (by omega)).trans ?_; first | assumption | exact xu_self))))) rfl ⟨(Nat.le_of_ble_eq_true rfl), (Nat.le_of_ble_eq_true rfl)⟩ rfl rfl (Nat.le_of_ble_eq_true rfl) ⟨(by simp only [xrm]; omega), (by simp only [xrm]; omega)⟩ xd_LW_law_947 rfl (fun r2 n2 h2 q2 => ?_)
    obtain ⟨rfl, f2, rfl, w2⟩ := q2
    refine xv_icmp_eq (pc' := 953) (tgt := 955) hF xd_LW_law_950 (by decide) rfl (fun e1 => ?_) (fun e1 => ?_)
    · exact xv_loc _ (by repeat (first | exact trivial | refine ⟨rfl, ?_⟩)) (nx _ _ _ _ mk ⟨E, Tg, cs, w, OS, SX, kn, _, TX, SZ, f, f2.dk d (Nat.le_refl _), w2, sl, he, hmk, (f2 _ (by omega)).trans hq⟩ (by omega) (by omega))
    · exact absurd rfl e1
