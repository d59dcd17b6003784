/-! the law, case by case -/
def LN (G : xG) (K : xK) (o b i t : Nat) : Prop := ∀ k kS n h mk, LI K o n h mk → k ≤ 51 + 3 * mk + (t + 1) → kS ≤ 58759 + 1058 * mk + 6 * (t + 1) → XV G k kS 955 [(4, .int (nI i)), (0, .ref b), (1, .ref o), (2, .ref (o + 37)), (3, .ref (o + 50))] [] n h
set_option maxHeartbeats 4000000 in
set_option maxRecDepth 100000 in
theorem lc_span {G : xG} {K : xK} {o b i t N n k kS mk : Nat} {h : xH} {xs : Nat → Int32} {v1 : Int32} (hF : XF G K xc_LW_law xr_LW (xrm 11 398 262836 8307598) 7) (hJ : XJ G K) (hX : XS G b N xs) (hN : N ≤ 2048) (hi : i + 4 ≤ N) (ht : t < 512) (hv1 : xs (i + 1) = v1) (hI : LI K o n h mk) (hk : k ≤ 51 + 3 * mk + t) (hkS : kS ≤ 58759 + 1058 * mk + 6 * t) (nx : LN G K o b i t) : XV G k kS 682 [(4, .int (nI i)), (0, .ref b), (1, .ref o), (2, .ref (o + 37)), (3, .ref (o + 50))] [] n h := by
  obtain ⟨E, Tg, cs, w, OS, SX, kn, th, TX, SZ, f, d, r, sl, he, hmk, hq⟩ := hI
  have ha := d.1
  refine xv_aload_n (pc' := 683) (i := 1) hF xd_LW_law_682 rfl rfl rfl ?_
  refine xv_aload_n (pc' := 684) (i := 0) hF xd_LW_law_683 rfl rfl rfl ?_
  refine xv_iload (pc' := 686) hF xd_LW_law_684 rfl rfl ?_
  refine xv_iconstN (pc' := 687) 1 hF xd_LW_law_686 (by decide +kernel) rfl ?_
  first | refine xv_iaddN (pc' := 688) hF xd_LW_law_687 rfl ?_ | refine xv_iadd (pc' := 688) hF xd_LW_law_687 rfl ?_
  refine xl_ld (pc' := 689) hF hX (by first | exact hv1 | exact hv2 | exact hv3 | exact hv0) (by omega) (by omega) xd_LW_law_688 rfl ?_
  refine xv_aload_n (pc' := 690) (i := 3) hF xd_LW_law_689 rfl rfl rfl ?_
  cases hx : x_in v1 4 with
  | false =>
    refine xl_callSi (pc' := 693) (nn := 3) hF hJ (c_LW_spanT K n h o (o + 50) v1 _ ha (c_PD_spanT K n h o v1 hx)) xk_c_LW_span xk_n_LW ⟨(by decide +kernel), (by decide +kernel)⟩ (by decide +kernel) xk_LW_m90 xk_t_LW_span ⟨(Nat.le_of_ble_eq_true rfl), (Nat.le_of_ble_eq_true rfl)⟩ rfl rfl (Nat.le_of_ble_eq_true rfl) ⟨(by show k + 1 ≤ 262836; omega), (by show kS + 6 ≤ 8307598; omega)⟩ xd_LW_law_690 rfl (fun r1 n1 h1 q1 => ?_)
    obtain ⟨rfl, hn1, rfl⟩ := q1
    have d := d.out (fun _ _ => rfl) hn1
    obtain ⟨⟨_, _, _, _, _, _, _, _, _, ho'⟩, -⟩ := id r
    have ho := ho'.1
    refine xv_istore (pc' := 695) hF xd_LW_law_693 (Nat.le_of_ble_eq_true rfl) rfl rfl ?_
    refine xv_aload_n (pc' := 696) (i := 2) hF xd_LW_law_695 rfl rfl rfl ?_
    refine xv_aload_n (pc' := 697) (i := 0) hF xd_LW_law_696 rfl rfl rfl ?_
    refine xv_iload (pc' := 699) hF xd_LW_law_697 rfl rfl ?_
    refine xv_iconstN (pc' := 700) 1 hF xd_LW_law_699 (by decide +kernel) rfl ?_
    first | refine xv_iaddN (pc' := 701) hF xd_LW_law_700 rfl ?_ | refine xv_iadd (pc' := 701) hF xd_LW_law_700 rfl ?_
    refine xl_ld (pc' := 702) hF hX (by first | exact hv1 | exact hv2 | exact hv3 | exact hv0) (by omega) (by omega) xd_LW_law_701 rfl ?_
    refine xv_callVi (pc' := 705) (ci := 6) hF (c_MO_spanO K n1 h (o + 37) th (ec E) w E Tg cs TX SZ SX v1 r hx) xq_MO_span xk_LW_m92 xk_i_MO_span xk_s_MO_span (by first | assumption | exact xu_self | (refine (xu_ne (by omega)).trans ?_; first | assumption | exact xu_self | (refine (xu_ne (by omega)).trans ?_; first | assumption | exact xu_self | (refine (xu_ne (by omega)).trans ?_; first | assumption | exact xu_self | (refine (xu_ne (by omega)).trans ?_; first | assumption | exact xu_self))))) rfl ⟨(Nat.le_of_ble_eq_true rfl), (Nat.le_of_ble_eq_true rfl)⟩ rfl rfl (Nat.le_of_ble_eq_true rfl) ⟨(by simp only [xrm]; omega), (by simp only [xrm]; omega)⟩ xd_LW_law_702 rfl (fun r2 n2 h2 q2 => ?_)
    obtain ⟨rfl, f2, w2⟩ := q2
    obtain ⟨⟨_, _, _, _, _, _, _, _, _, ho9'⟩, -⟩ := id w2
    have ho9 := ho9'.1
    refine xv_istore (pc' := 707) hF xd_LW_law_705 (Nat.le_of_ble_eq_true rfl) rfl rfl ?_
    refine xv_aload_n (pc' := 708) (i := 2) hF xd_LW_law_707 rfl rfl rfl ?_
    refine xv_callVi (pc' := 711) (ci := 6) hF (c_MO_thrown K n1 h2 (o + 37) 1 _ _ _ _ _ _ _ ho9) xq_MO_thrown xk_LW_m62 xk_i_MO_thrown xk_s_MO_thrown (by first | assumption | exact xu_self | (refine (xu_ne (by omega)).trans ?_; first | assumption | exact xu_self | (refine (xu_ne (by omega)).trans ?_; first | assumption | exact xu_self | (refine (xu_ne (by omega)).trans ?_; first | assumption | exact xu_self | (refine (xu_ne (by omega)).trans ?_; first | assumption | exact xu_self))))) rfl ⟨(Nat.le_of_ble_eq_true rfl), (Nat.le_of_ble_eq_true rfl)⟩ rfl rfl (Nat.le_of_ble_eq_true rfl) ⟨(by simp only [xrm]; omega), (by simp only [xrm]; omega)⟩ xd_LW_law_708 rfl (fun r9 n9 h9 q9 => ?_)
    obtain ⟨rfl, rfl, rfl⟩ := q9
    refine xv_iload (pc' := 713) hF xd_LW_law_711 rfl rfl ?_
    refine xv_icmp_eqN (pc' := 716) (tgt := 718) hF (by omega) (by omega) xd_LW_law_713 (by decide) rfl (fun e8 => ?_) (fun e8 => ?_)
    · skip
      refine xv_iload (pc' := 720) hF xd_LW_law_718 rfl rfl ?_
      refine xv_if_neN (pc' := 723) (tgt := 735) hF (by omega) xd_LW_law_720 (by decide) rfl (fun e7 => ?_) (fun e7 => ?_)
      · refine xv_goto (tgt := 955) hF xd_LW_law_735 (by decide) ?_
        refine xv_loc _ (by repeat (first | exact trivial | refine ⟨rfl, ?_⟩)) (nx _ _ _ _ mk ⟨E, Tg, cs, w, OS, SX, kn, _, TX, SZ, f, f2.dk d (Nat.le_refl _), w2, sl, he, hmk, (f2 _ (by omega)).trans hq⟩ (by omega) (by omega))
      · exact absurd e7 (by decide)
    · exact absurd rfl e8
  | true =>
    obtain ⟨s, hs, rfl⟩ := x_in_of (by decide) hx
    have hgd := (d.2.2.2.2.2.2.2.2.2.1 s hs).2
    have l1 := li_md_ge OS kn s mk
    have l2 := li_md_le (kn := kn) hgd hmk
    refine xl_callSi (pc' := 693) (nn := 3) hF hJ (c_LW_span K n h o (o + 50) 7 149 _ _ (nI s) _ ha (c_PD_span K n h o (ec E) w mk s (li_md OS kn s mk) E Tg cs OS SX kn d hs rfl) (fun v n' h' q => by obtain ⟨M, -, -, -, z4, -⟩ := q; exact ⟨f, (z4 _ (by omega) (by omega)).trans hq⟩)) xk_c_LW_span xk_n_LW ⟨(by decide +kernel), (by decide +kernel)⟩ (by decide +kernel) xk_LW_m90 xk_t_LW_span ⟨(Nat.le_of_ble_eq_true rfl), (Nat.le_of_ble_eq_true rfl)⟩ rfl rfl (Nat.le_of_ble_eq_true rfl) ⟨(by show k + 3 * (li_md OS kn s mk - mk) ≤ 262836; omega), (by show kS + 1058 * (li_md OS kn s mk - mk) ≤ 8307598; omega)⟩ xd_LW_law_690 rfl (fun r1 n1 h1 q1 => ?_)
    obtain ⟨rfl, v, h1', f1, ⟨M, z1, rfl, rfl, z4, z5⟩, rfl, hf1⟩ := q1
    have hq2 : (xu h1' (o + 50) (.inl (K.2.2.1 2, 1, .inr (.inl f1)))) (o + 50) = some (.inl (K.2.2.1 2, 1, .inr (.inl f1))) := xu_self
    have r2 := xu_mo (c := (.inl (K.2.2.1 2, 1, .inr (.inl f1)))) (z4.mo r)
    have d2 := xu_dk (c := (.inl (K.2.2.1 2, 1, .inr (.inl f1)))) z5
    generalize xu h1' (o + 50) (.inl (K.2.2.1 2, 1, .inr (.inl f1))) = h2 at hq2 r2 d2 ⊢
    obtain ⟨⟨_, _, _, _, _, _, _, _, _, ho'⟩, -⟩ := id r2
    have ho := ho'.1
    refine xv_istore (pc' := 695) hF xd_LW_law_693 (Nat.le_of_ble_eq_true rfl) rfl rfl ?_
    refine xv_aload_n (pc' := 696) (i := 2) hF xd_LW_law_695 rfl rfl rfl ?_
    refine xv_aload_n (pc' := 697) (i := 0) hF xd_LW_law_696 rfl rfl rfl ?_
    refine xv_iload (pc' := 699) hF xd_LW_law_697 rfl rfl ?_
    refine xv_iconstN (pc' := 700) 1 hF xd_LW_law_699 (by decide +kernel) rfl ?_
    first | refine xv_iaddN (pc' := 701) hF xd_LW_law_700 rfl ?_ | refine xv_iadd (pc' := 701) hF xd_LW_law_700 rfl ?_
    refine xl_ld (pc' := 702) hF hX (by first | exact hv1 | exact hv2 | exact hv3 | exact hv0) (by omega) (by omega) xd_LW_law_701 rfl ?_
    refine xv_callVi (pc' := 705) (ci := 6) hF (c_MO_span K _ h2 (o + 37) th (ec E) w E Tg cs TX SZ SX s (OS s) r2 hs (sl s hs)) xq_MO_span xk_LW_m92 xk_i_MO_span xk_s_MO_span (by first | assumption | exact xu_self | (refine (xu_ne (by omega)).trans ?_; first | assumption | exact xu_self | (refine (xu_ne (by omega)).trans ?_; first | assumption | exact xu_self | (refine (xu_ne (by omega)).trans ?_; first | assumption | exact xu_self | (refine (xu_ne (by omega)).trans ?_; first | assumption | exact xu_self))))) rfl ⟨(Nat.le_of_ble_eq_true rfl), (Nat.le_of_ble_eq_true rfl)⟩ rfl rfl (Nat.le_of_ble_eq_true rfl) ⟨(by simp only [xrm]; omega), (by simp only [xrm]; omega)⟩ xd_LW_law_702 rfl (fun r3 n3 h3 q3 => ?_)
    obtain ⟨rfl, f3, w3, M', m1, rfl⟩ := q3
    have m1 : pd_mn (bx_ak E Tg (OS s) (OS s).length 0) M' := m1
    have hq3 : h3 (o + 50) = some (.inl (K.2.2.1 2, 1, .inr (.inl f1))) := (f3 _ (by omega)).trans hq2
    obtain ⟨⟨_, _, _, _, _, _, _, _, _, ho9'⟩, -⟩ := id w3
    have ho9 := ho9'.1
    refine xv_istore (pc' := 707) hF xd_LW_law_705 (Nat.le_of_ble_eq_true rfl) rfl rfl ?_
    refine xv_aload_n (pc' := 708) (i := 2) hF xd_LW_law_707 rfl rfl rfl ?_
    refine xv_callVi (pc' := 711) (ci := 6) hF (c_MO_thrown K _ h3 (o + 37) 0 _ _ _ _ _ _ _ ho9) xq_MO_thrown xk_LW_m62 xk_i_MO_thrown xk_s_MO_thrown (by first | assumption | exact xu_self | (refine (xu_ne (by omega)).trans ?_; first | assumption | exact xu_self | (refine (xu_ne (by omega)).trans ?_; first | assumption | exact xu_self | (refine (xu_ne (by omega)).trans ?_; first | assumption | exact xu_self | (refine (xu_ne (by omega)).trans ?_; first | assumption | exact xu_self))))) rfl ⟨(Nat.le_of_ble_eq_true rfl), (Nat.le_of_ble_eq_true rfl)⟩ rfl rfl (Nat.le_of_ble_eq_true rfl) ⟨(by simp only [xrm]; omega), (by simp only [xrm]; omega)⟩ xd_LW_law_708 rfl (fun r9 n9 h9 q9 => ?_)
    obtain ⟨rfl, rfl, rfl⟩ := q9
    refine xv_iload (pc' := 713) hF xd_LW_law_711 rfl rfl ?_
    refine xv_icmp_eqN (pc' := 716) (tgt := 718) hF (by omega) (by omega) xd_LW_law_713 (by decide) rfl (fun e8 => ?_) (fun e8 => ?_)
    · skip
      refine xv_iload (pc' := 720) hF xd_LW_law_718 rfl rfl ?_
      refine xv_if_neN (pc' := 723) (tgt := 735) hF (by omega) xd_LW_law_720 (by decide) rfl (fun e7 => ?_) (fun e7 => ?_)
      · exact absurd e7 (by decide)
      · refine xv_aload_n (pc' := 724) (i := 3) hF xd_LW_law_723 rfl rfl rfl ?_
        refine xv_iconstN (pc' := 725) 0 hF xd_LW_law_724 (by decide +kernel) rfl ?_
        refine xv_laldN (pc' := 726) hF (by first | assumption | exact xu_self | (refine (xu_ne (by omega)).trans ?_; first | assumption | exact xu_self | (refine (xu_ne (by omega)).trans ?_; first | assumption | exact xu_self | (refine (xu_ne (by omega)).trans ?_; first | assumption | exact xu_self | (refine (xu_ne (by omega)).trans ?_; first | assumption | exact xu_self))))) (by omega) (by decide) xd_LW_law_725 rfl ?_
        refine xv_iload (pc' := 728) hF xd_LW_law_726 rfl rfl ?_
        refine xv_i2l (pc' := 729) hF xd_LW_law_728 rfl rfl ?_
        refine xv_lcmp (pc' := 730) hF xd_LW_law_729 rfl ?_
        refine xv_if_eq (pc' := 733) (tgt := 735) hF xd_LW_law_730 (by decide) rfl (fun e6 => ?_) (fun e6 => ?_)
        · refine xv_goto (tgt := 955) hF xd_LW_law_735 (by decide) ?_
          exact xv_loc _ (by repeat (first | exact trivial | refine ⟨rfl, ?_⟩)) (nx _ _ _ _ (li_md OS kn s mk) ⟨E, Tg, cs, w, OS, SX, _, _, TX, SZ, f1, f3.dk d2 (Nat.le_refl _), w3, sl, he, l2, hq3⟩ (by omega) (by omega))
        · exact absurd ((lg_cmp_eq _ _).mpr (by rw [hf1, md_sp_c (fun i j hi hj => pd_mn_uniq z1 m1 hi hj) 1024 (Nat.le_refl _)])) e6
    · exact absurd rfl e8
set_option maxHeartbeats 4000000 in
set_option maxRecDepth 100000 in
theorem lc_circle {G : xG} {K : xK} {o b i t N n k kS mk : Nat} {h : xH} {xs : Nat → Int32} {v1 : Int32} (hF : XF G K xc_LW_law xr_LW (xrm 11 398 262836 8307598) 7) (hJ : XJ G K) (hX : XS G b N xs) (hN : N ≤ 2048) (hi : i + 4 ≤ N) (ht : t < 512) (hv1 : xs (i + 1) = v1) (hI : LI K o n h mk) (hk : k ≤ 51 + 3 * mk + t) (hkS : kS ≤ 58759 + 1058 * mk + 6 * t) (nx : LN G K o b i t) : XV G k kS 818 [(4, .int (nI i)), (0, .ref b), (1, .ref o), (2, .ref (o + 37)), (3, .ref (o + 50))] [] n h := by
  obtain ⟨E, Tg, cs, w, OS, SX, kn, th, TX, SZ, f, d, r, sl, he, hmk, hq⟩ := hI
  have ha := d.1
  refine xv_aload_n (pc' := 819) (i := 1) hF xd_LW_law_818 rfl rfl rfl ?_
  refine xv_aload_n (pc' := 820) (i := 0) hF xd_LW_law_819 rfl rfl rfl ?_
  refine xv_iload (pc' := 822) hF xd_LW_law_820 rfl rfl ?_
  refine xv_iconstN (pc' := 823) 1 hF xd_LW_law_822 (by decide +kernel) rfl ?_
  first | refine xv_iaddN (pc' := 824) hF xd_LW_law_823 rfl ?_ | refine xv_iadd (pc' := 824) hF xd_LW_law_823 rfl ?_
  refine xl_ld (pc' := 825) hF hX (by first | exact hv1 | exact hv2 | exact hv3 | exact hv0) (by omega) (by omega) xd_LW_law_824 rfl ?_
  refine xv_aload_n (pc' := 826) (i := 3) hF xd_LW_law_825 rfl rfl rfl ?_
  cases hx : x_in v1 4 with
  | false =>
    refine xl_callSi (pc' := 829) (nn := 3) hF hJ (c_LW_circleT K n h o (o + 50) v1 _ ha (c_PD_circleT K n h o v1 hx)) xk_c_LW_circle xk_n_LW ⟨(by decide +kernel), (by decide +kernel)⟩ (by decide +kernel) xk_LW_m96 xk_t_LW_circle ⟨(Nat.le_of_ble_eq_true rfl), (Nat.le_of_ble_eq_true rfl)⟩ rfl rfl (Nat.le_of_ble_eq_true rfl) ⟨(by show k + 1 ≤ 262836; omega), (by show kS + 6 ≤ 8307598; omega)⟩ xd_LW_law_826 rfl (fun r1 n1 h1 q1 => ?_)
    obtain ⟨rfl, hn1, rfl⟩ := q1
    have d := d.out (fun _ _ => rfl) hn1
    obtain ⟨⟨_, _, _, _, _, _, _, _, _, ho'⟩, -⟩ := id r
    have ho := ho'.1
    refine xv_istore (pc' := 831) hF xd_LW_law_829 (Nat.le_of_ble_eq_true rfl) rfl rfl ?_
    refine xv_aload_n (pc' := 832) (i := 2) hF xd_LW_law_831 rfl rfl rfl ?_
    refine xv_aload_n (pc' := 833) (i := 0) hF xd_LW_law_832 rfl rfl rfl ?_
    refine xv_iload (pc' := 835) hF xd_LW_law_833 rfl rfl ?_
    refine xv_iconstN (pc' := 836) 1 hF xd_LW_law_835 (by decide +kernel) rfl ?_
    first | refine xv_iaddN (pc' := 837) hF xd_LW_law_836 rfl ?_ | refine xv_iadd (pc' := 837) hF xd_LW_law_836 rfl ?_
    refine xl_ld (pc' := 838) hF hX (by first | exact hv1 | exact hv2 | exact hv3 | exact hv0) (by omega) (by omega) xd_LW_law_837 rfl ?_
    refine xv_callVi (pc' := 841) (ci := 6) hF (c_MO_circleO K n1 h (o + 37) th (ec E) w E Tg cs TX SZ SX v1 r hx) xq_MO_circle xk_LW_m98 xk_i_MO_circle xk_s_MO_circle (by first | assumption | exact xu_self | (refine (xu_ne (by omega)).trans ?_; first | assumption | exact xu_self | (refine (xu_ne (by omega)).trans ?_; first | assumption | exact xu_self | (refine (xu_ne (by omega)).trans ?_; first | assumption | exact xu_self | (refine (xu_ne (by omega)).trans ?_; first | assumption | exact xu_self))))) rfl ⟨(Nat.le_of_ble_eq_true rfl), (Nat.le_of_ble_eq_true rfl)⟩ rfl rfl (Nat.le_of_ble_eq_true rfl) ⟨(by simp only [xrm]; omega), (by simp only [xrm]; omega)⟩ xd_LW_law_838 rfl (fun r2 n2 h2 q2 => ?_)
    obtain ⟨rfl, f2, w2⟩ := q2
    obtain ⟨⟨_, _, _, _, _, _, _, _, _, ho9'⟩, -⟩ := id w2
    have ho9 := ho9'.1
    refine xv_istore (pc' := 843) hF xd_LW_law_841 (Nat.le_of_ble_eq_true rfl) rfl rfl ?_
    refine xv_aload_n (pc' := 844) (i := 2) hF xd_LW_law_843 rfl rfl rfl ?_
    refine xv_callVi (pc' := 847) (ci := 6) hF (c_MO_thrown K n1 h2 (o + 37) 1 _ _ _ _ _ _ _ ho9) xq_MO_thrown xk_LW_m62 xk_i_MO_thrown xk_s_MO_thrown (by first | assumption | exact xu_self | (refine (xu_ne (by omega)).trans ?_; first | assumption | exact xu_self | (refine (xu_ne (by omega)).trans ?_; first | assumption | exact xu_self | (refine (xu_ne (by omega)).trans ?_; first | assumption | exact xu_self | (refine (xu_ne (by omega)).trans ?_; first | assumption | exact xu_self))))) rfl ⟨(Nat.le_of_ble_eq_true rfl), (Nat.le_of_ble_eq_true rfl)⟩ rfl rfl (Nat.le_of_ble_eq_true rfl) ⟨(by simp only [xrm]; omega), (by simp only [xrm]; omega)⟩ xd_LW_law_844 rfl (fun r9 n9 h9 q9 => ?_)
    obtain ⟨rfl, rfl, rfl⟩ := q9
    refine xv_iload (pc' := 849) hF xd_LW_law_847 rfl rfl ?_
    refine xv_icmp_eqN (pc' := 852) (tgt := 854) hF (by omega) (by omega) xd_LW_law_849 (by decide) rfl (fun e8 => ?_) (fun e8 => ?_)
    · skip
      refine xv_iload (pc' := 856) hF xd_LW_law_854 rfl rfl ?_
      refine xv_if_neN (pc' := 859) (tgt := 871) hF (by omega) xd_LW_law_856 (by decide) rfl (fun e7 => ?_) (fun e7 => ?_)
      · refine xv_goto (tgt := 955) hF xd_LW_law_871 (by decide) ?_
        refine xv_loc _ (by repeat (first | exact trivial | refine ⟨rfl, ?_⟩)) (nx _ _ _ _ mk ⟨E, Tg, cs, w, OS, SX, kn, _, TX, SZ, f, f2.dk d (Nat.le_refl _), w2, sl, he, hmk, (f2 _ (by omega)).trans hq⟩ (by omega) (by omega))
      · exact absurd e7 (by decide)
    · exact absurd rfl e8
  | true =>
    obtain ⟨s, hs, rfl⟩ := x_in_of (by decide) hx
    have hgd := (d.2.2.2.2.2.2.2.2.2.1 s hs).2
    have l1 := li_md_ge OS kn s mk
    have l2 := li_md_le (kn := kn) hgd hmk
    refine xl_callSi (pc' := 829) (nn := 3) hF hJ (c_LW_circle K n h o (o + 50) 7 149 _ _ (nI s) _ ha (c_PD_circle K n h o (ec E) w mk s (li_md OS kn s mk) E Tg cs OS SX kn d hs rfl) (fun v n' h' q => by obtain ⟨M, -, -, -, z4, -⟩ := q; exact ⟨f, (z4 _ (by omega) (by omega)).trans hq⟩)) xk_c_LW_circle xk_n_LW ⟨(by decide +kernel), (by decide +kernel)⟩ (by decide +kernel) xk_LW_m96 xk_t_LW_circle ⟨(Nat.le_of_ble_eq_true rfl), (Nat.le_of_ble_eq_true rfl)⟩ rfl rfl (Nat.le_of_ble_eq_true rfl) ⟨(by show k + 3 * (li_md OS kn s mk - mk) ≤ 262836; omega), (by show kS + 1058 * (li_md OS kn s mk - mk) ≤ 8307598; omega)⟩ xd_LW_law_826 rfl (fun r1 n1 h1 q1 => ?_)
    obtain ⟨rfl, v, h1', f1, ⟨M, z1, z2, rfl, z4, z5⟩, rfl, hf1⟩ := q1
    have hq2 : (xu h1' (o + 50) (.inl (K.2.2.1 2, 1, .inr (.inl f1)))) (o + 50) = some (.inl (K.2.2.1 2, 1, .inr (.inl f1))) := xu_self
    have r2 := xu_mo (c := (.inl (K.2.2.1 2, 1, .inr (.inl f1)))) (z4.mo r)
    have d2 := xu_dk (c := (.inl (K.2.2.1 2, 1, .inr (.inl f1)))) z5
    generalize xu h1' (o + 50) (.inl (K.2.2.1 2, 1, .inr (.inl f1))) = h2 at hq2 r2 d2 ⊢
    obtain ⟨⟨_, _, _, _, _, _, _, _, _, ho'⟩, -⟩ := id r2
    have ho := ho'.1
    refine xv_istore (pc' := 831) hF xd_LW_law_829 (Nat.le_of_ble_eq_true rfl) rfl rfl ?_
    refine xv_aload_n (pc' := 832) (i := 2) hF xd_LW_law_831 rfl rfl rfl ?_
    refine xv_aload_n (pc' := 833) (i := 0) hF xd_LW_law_832 rfl rfl rfl ?_
    refine xv_iload (pc' := 835) hF xd_LW_law_833 rfl rfl ?_
    refine xv_iconstN (pc' := 836) 1 hF xd_LW_law_835 (by decide +kernel) rfl ?_
    first | refine xv_iaddN (pc' := 837) hF xd_LW_law_836 rfl ?_ | refine xv_iadd (pc' := 837) hF xd_LW_law_836 rfl ?_
    refine xl_ld (pc' := 838) hF hX (by first | exact hv1 | exact hv2 | exact hv3 | exact hv0) (by omega) (by omega) xd_LW_law_837 rfl ?_
    refine xv_callVi (pc' := 841) (ci := 6) hF (c_MO_circle K _ h2 (o + 37) th (ec E) w E Tg cs TX SZ SX s (OS s) r2 hs (sl s hs)) xq_MO_circle xk_LW_m98 xk_i_MO_circle xk_s_MO_circle (by first | assumption | exact xu_self | (refine (xu_ne (by omega)).trans ?_; first | assumption | exact xu_self | (refine (xu_ne (by omega)).trans ?_; first | assumption | exact xu_self | (refine (xu_ne (by omega)).trans ?_; first | assumption | exact xu_self | (refine (xu_ne (by omega)).trans ?_; first | assumption | exact xu_self))))) rfl ⟨(Nat.le_of_ble_eq_true rfl), (Nat.le_of_ble_eq_true rfl)⟩ rfl rfl (Nat.le_of_ble_eq_true rfl) ⟨(by simp only [xrm]; omega), (by simp only [xrm]; omega)⟩ xd_LW_law_838 rfl (fun r3 n3 h3 q3 => ?_)
    obtain ⟨rfl, f3, w3, M', m1, m2⟩ := q3
    have m1 : pd_mn (bx_ak E Tg (OS s) (OS s).length 0) M' := m1
    have hq3 : h3 (o + 50) = some (.inl (K.2.2.1 2, 1, .inr (.inl f1))) := (f3 _ (by omega)).trans hq2
    obtain ⟨⟨_, _, _, _, _, _, _, _, _, ho9'⟩, -⟩ := id w3
    have ho9 := ho9'.1
    refine xv_istore (pc' := 843) hF xd_LW_law_841 (Nat.le_of_ble_eq_true rfl) rfl rfl ?_
    refine xv_aload_n (pc' := 844) (i := 2) hF xd_LW_law_843 rfl rfl rfl ?_
    refine xv_callVi (pc' := 847) (ci := 6) hF (c_MO_thrown K _ h3 (o + 37) 0 _ _ _ _ _ _ _ ho9) xq_MO_thrown xk_LW_m62 xk_i_MO_thrown xk_s_MO_thrown (by first | assumption | exact xu_self | (refine (xu_ne (by omega)).trans ?_; first | assumption | exact xu_self | (refine (xu_ne (by omega)).trans ?_; first | assumption | exact xu_self | (refine (xu_ne (by omega)).trans ?_; first | assumption | exact xu_self | (refine (xu_ne (by omega)).trans ?_; first | assumption | exact xu_self))))) rfl ⟨(Nat.le_of_ble_eq_true rfl), (Nat.le_of_ble_eq_true rfl)⟩ rfl rfl (Nat.le_of_ble_eq_true rfl) ⟨(by simp only [xrm]; omega), (by simp only [xrm]; omega)⟩ xd_LW_law_844 rfl (fun r9 n9 h9 q9 => ?_)
    obtain ⟨rfl, rfl, rfl⟩ := q9
    refine xv_iload (pc' := 849) hF xd_LW_law_847 rfl rfl ?_
    refine xv_icmp_eqN (pc' := 852) (tgt := 854) hF (by omega) (by omega) xd_LW_law_849 (by decide) rfl (fun e8 => ?_) (fun e8 => ?_)
    · skip
      refine xv_iload (pc' := 856) hF xd_LW_law_854 rfl rfl ?_
      refine xv_if_neN (pc' := 859) (tgt := 871) hF (by omega) xd_LW_law_856 (by decide) rfl (fun e7 => ?_) (fun e7 => ?_)
      · exact absurd e7 (by decide)
      · refine xv_aload_n (pc' := 860) (i := 3) hF xd_LW_law_859 rfl rfl rfl ?_
        refine xv_iconstN (pc' := 861) 0 hF xd_LW_law_860 (by decide +kernel) rfl ?_
        refine xv_laldN (pc' := 862) hF (by first | assumption | exact xu_self | (refine (xu_ne (by omega)).trans ?_; first | assumption | exact xu_self | (refine (xu_ne (by omega)).trans ?_; first | assumption | exact xu_self | (refine (xu_ne (by omega)).trans ?_; first | assumption | exact xu_self | (refine (xu_ne (by omega)).trans ?_; first | assumption | exact xu_self))))) (by omega) (by decide) xd_LW_law_861 rfl ?_
        refine xv_iload (pc' := 864) hF xd_LW_law_862 rfl rfl ?_
        refine xv_i2l (pc' := 865) hF xd_LW_law_864 rfl rfl ?_
        refine xv_lcmp (pc' := 866) hF xd_LW_law_865 rfl ?_
        refine xv_if_eq (pc' := 869) (tgt := 871) hF xd_LW_law_866 (by decide) rfl (fun e6 => ?_) (fun e6 => ?_)
        · refine xv_goto (tgt := 955) hF xd_LW_law_871 (by decide) ?_
          exact xv_loc _ (by repeat (first | exact trivial | refine ⟨rfl, ?_⟩)) (nx _ _ _ _ (li_md OS kn s mk) ⟨E, Tg, cs, w, OS, SX, _, _, TX, SZ, f1, f3.dk d2 (Nat.le_refl _), w3, sl, he, l2, hq3⟩ (by omega) (by omega))
        · exact absurd ((lg_cmp_eq _ _).mpr (by rw [hf1, md_fst_u (fun i hi => by rw [pd_mn_uniq z1 m1 hi hi]) z2 m2])) e6
    · exact absurd rfl e8
set_option maxHeartbeats 4000000 in
set_option maxRecDepth 100000 in
theorem lc_best {G : xG} {K : xK} {o b i t N n k kS mk : Nat} {h : xH} {xs : Nat → Int32} {v1 : Int32} (hF : XF G K xc_LW_law xr_LW (xrm 11 398 262836 8307598) 7) (hJ : XJ G K) (hX : XS G b N xs) (hN : N ≤ 2048) (hi : i + 4 ≤ N) (ht : t < 512) (hv1 : xs (i + 1) = v1) (hI : LI K o n h mk) (hk : k ≤ 51 + 3 * mk + t) (hkS : kS ≤ 58759 + 1058 * mk + 6 * t) (nx : LN G K o b i t) : XV G k kS 874 [(4, .int (nI i)), (0, .ref b), (1, .ref o), (2, .ref (o + 37)), (3, .ref (o + 50))] [] n h := by
  obtain ⟨E, Tg, cs, w, OS, SX, kn, th, TX, SZ, f, d, r, sl, he, hmk, hq⟩ := hI
  have ha := d.1
  refine xv_aload_n (pc' := 875) (i := 1) hF xd_LW_law_874 rfl rfl rfl ?_
  refine xv_aload_n (pc' := 876) (i := 0) hF xd_LW_law_875 rfl rfl rfl ?_
  refine xv_iload (pc' := 878) hF xd_LW_law_876 rfl rfl ?_
  refine xv_iconstN (pc' := 879) 1 hF xd_LW_law_878 (by decide +kernel) rfl ?_
  first | refine xv_iaddN (pc' := 880) hF xd_LW_law_879 rfl ?_ | refine xv_iadd (pc' := 880) hF xd_LW_law_879 rfl ?_
  refine xl_ld (pc' := 881) hF hX (by first | exact hv1 | exact hv2 | exact hv3 | exact hv0) (by omega) (by omega) xd_LW_law_880 rfl ?_
  refine xv_aload_n (pc' := 882) (i := 3) hF xd_LW_law_881 rfl rfl rfl ?_
  cases hx : x_in v1 4 with
  | false =>
    refine xl_callSi (pc' := 885) (nn := 3) hF hJ (c_LW_bestT K n h o (o + 50) v1 _ ha (c_PD_bestT K n h o v1 hx)) xk_c_LW_best xk_n_LW ⟨(by decide +kernel), (by decide +kernel)⟩ (by decide +kernel) xk_LW_m99 xk_t_LW_best ⟨(Nat.le_of_ble_eq_true rfl), (Nat.le_of_ble_eq_true rfl)⟩ rfl rfl (Nat.le_of_ble_eq_true rfl) ⟨(by show k + 1 ≤ 262836; omega), (by show kS + 6 ≤ 8307598; omega)⟩ xd_LW_law_882 rfl (fun r1 n1 h1 q1 => ?_)
    obtain ⟨rfl, hn1, rfl⟩ := q1
    have d := d.out (fun _ _ => rfl) hn1
    obtain ⟨⟨_, _, _, _, _, _, _, _, _, ho'⟩, -⟩ := id r
    have ho := ho'.1
    refine xv_istore (pc' := 887) hF xd_LW_law_885 (Nat.le_of_ble_eq_true rfl) rfl rfl ?_
    refine xv_aload_n (pc' := 888) (i := 2) hF xd_LW_law_887 rfl rfl rfl ?_
    refine xv_aload_n (pc' := 889) (i := 0) hF xd_LW_law_888 rfl rfl rfl ?_
    refine xv_iload (pc' := 891) hF xd_LW_law_889 rfl rfl ?_
    refine xv_iconstN (pc' := 892) 1 hF xd_LW_law_891 (by decide +kernel) rfl ?_
    first | refine xv_iaddN (pc' := 893) hF xd_LW_law_892 rfl ?_ | refine xv_iadd (pc' := 893) hF xd_LW_law_892 rfl ?_
    refine xl_ld (pc' := 894) hF hX (by first | exact hv1 | exact hv2 | exact hv3 | exact hv0) (by omega) (by omega) xd_LW_law_893 rfl ?_
    refine xv_callVi (pc' := 897) (ci := 6) hF (c_MO_bestO K n1 h (o + 37) th (ec E) w E Tg cs TX SZ SX v1 r hx) xq_MO_best xk_LW_m101 xk_i_MO_best xk_s_MO_best (by first | assumption | exact xu_self | (refine (xu_ne (by omega)).trans ?_; first | assumption | exact xu_self | (refine (xu_ne (by omega)).trans ?_; first | assumption | exact xu_self | (refine (xu_ne (by omega)).trans ?_; first | assumption | exact xu_self | (refine (xu_ne (by omega)).trans ?_; first | assumption | exact xu_self))))) rfl ⟨(Nat.le_of_ble_eq_true rfl), (Nat.le_of_ble_eq_true rfl)⟩ rfl rfl (Nat.le_of_ble_eq_true rfl) ⟨(by simp only [xrm]; omega), (by simp only [xrm]; omega)⟩ xd_LW_law_894 rfl (fun r2 n2 h2 q2 => ?_)
    obtain ⟨rfl, f2, w2⟩ := q2
    obtain ⟨⟨_, _, _, _, _, _, _, _, _, ho9'⟩, -⟩ := id w2
    have ho9 := ho9'.1
    refine xv_istore (pc' := 899) hF xd_LW_law_897 (Nat.le_of_ble_eq_true rfl) rfl rfl ?_
    refine xv_aload_n (pc' := 900) (i := 2) hF xd_LW_law_899 rfl rfl rfl ?_
    refine xv_callVi (pc' := 903) (ci := 6) hF (c_MO_thrown K n1 h2 (o + 37) 1 _ _ _ _ _ _ _ ho9) xq_MO_thrown xk_LW_m62 xk_i_MO_thrown xk_s_MO_thrown (by first | assumption | exact xu_self | (refine (xu_ne (by omega)).trans ?_; first | assumption | exact xu_self | (refine (xu_ne (by omega)).trans ?_; first | assumption | exact xu_self | (refine (xu_ne (by omega)).trans ?_; first | assumption | exact xu_self | (refine (xu_ne (by omega)).trans ?_; first | assumption | exact xu_self))))) rfl ⟨(Nat.le_of_ble_eq_true rfl), (Nat.le_of_ble_eq_true rfl)⟩ rfl rfl (Nat.le_of_ble_eq_true rfl) ⟨(by simp only [xrm]; omega), (by simp only [xrm]; omega)⟩ xd_LW_law_900 rfl (fun r9 n9 h9 q9 => ?_)
    obtain ⟨rfl, rfl, rfl⟩ := q9
    refine xv_iload (pc' := 905) hF xd_LW_law_903 rfl rfl ?_
    refine xv_icmp_eqN (pc' := 908) (tgt := 910) hF (by omega) (by omega) xd_LW_law_905 (by decide) rfl (fun e8 => ?_) (fun e8 => ?_)
    · skip
      refine xv_iload (pc' := 912) hF xd_LW_law_910 rfl rfl ?_
      refine xv_if_neN (pc' := 915) (tgt := 927) hF (by omega) xd_LW_law_912 (by decide) rfl (fun e7 => ?_) (fun e7 => ?_)
      · refine xv_goto (tgt := 955) hF xd_LW_law_927 (by decide) ?_
        refine xv_loc _ (by repeat (first | exact trivial | refine ⟨rfl, ?_⟩)) (nx _ _ _ _ mk ⟨E, Tg, cs, w, OS, SX, kn, _, TX, SZ, f, f2.dk d (Nat.le_refl _), w2, sl, he, hmk, (f2 _ (by omega)).trans hq⟩ (by omega) (by omega))
      · exact absurd e7 (by decide)
    · exact absurd rfl e8
  | true =>
    obtain ⟨s, hs, rfl⟩ := x_in_of (by decide) hx
    have hgd := (d.2.2.2.2.2.2.2.2.2.1 s hs).2
    have l1 := li_md_ge OS kn s mk
    have l2 := li_md_le (kn := kn) hgd hmk
    refine xl_callSi (pc' := 885) (nn := 3) hF hJ (c_LW_best K n h o (o + 50) 7 149 _ _ (nI s) _ ha (c_PD_best K n h o (ec E) w mk s (li_md OS kn s mk) E Tg cs OS SX kn d hs rfl) (fun v n' h' q => by obtain ⟨M, -, -, -, z4, -⟩ := q; exact ⟨f, (z4 _ (by omega) (by omega)).trans hq⟩)) xk_c_LW_best xk_n_LW ⟨(by decide +kernel), (by decide +kernel)⟩ (by decide +kernel) xk_LW_m99 xk_t_LW_best ⟨(Nat.le_of_ble_eq_true rfl), (Nat.le_of_ble_eq_true rfl)⟩ rfl rfl (Nat.le_of_ble_eq_true rfl) ⟨(by show k + 3 * (li_md OS kn s mk - mk) ≤ 262836; omega), (by show kS + 1058 * (li_md OS kn s mk - mk) ≤ 8307598; omega)⟩ xd_LW_law_882 rfl (fun r1 n1 h1 q1 => ?_)
    obtain ⟨rfl, v, h1', f1, ⟨M, z1, rfl, rfl, z4, z5⟩, rfl, hf1⟩ := q1
    have hq2 : (xu h1' (o + 50) (.inl (K.2.2.1 2, 1, .inr (.inl f1)))) (o + 50) = some (.inl (K.2.2.1 2, 1, .inr (.inl f1))) := xu_self
    have r2 := xu_mo (c := (.inl (K.2.2.1 2, 1, .inr (.inl f1)))) (z4.mo r)
    have d2 := xu_dk (c := (.inl (K.2.2.1 2, 1, .inr (.inl f1)))) z5
    generalize xu h1' (o + 50) (.inl (K.2.2.1 2, 1, .inr (.inl f1))) = h2 at hq2 r2 d2 ⊢
    obtain ⟨⟨_, _, _, _, _, _, _, _, _, ho'⟩, -⟩ := id r2
    have ho := ho'.1
    refine xv_istore (pc' := 887) hF xd_LW_law_885 (Nat.le_of_ble_eq_true rfl) rfl rfl ?_
    refine xv_aload_n (pc' := 888) (i := 2) hF xd_LW_law_887 rfl rfl rfl ?_
    refine xv_aload_n (pc' := 889) (i := 0) hF xd_LW_law_888 rfl rfl rfl ?_
    refine xv_iload (pc' := 891) hF xd_LW_law_889 rfl rfl ?_
    refine xv_iconstN (pc' := 892) 1 hF xd_LW_law_891 (by decide +kernel) rfl ?_
    first | refine xv_iaddN (pc' := 893) hF xd_LW_law_892 rfl ?_ | refine xv_iadd (pc' := 893) hF xd_LW_law_892 rfl ?_
    refine xl_ld (pc' := 894) hF hX (by first | exact hv1 | exact hv2 | exact hv3 | exact hv0) (by omega) (by omega) xd_LW_law_893 rfl ?_
    refine xv_callVi (pc' := 897) (ci := 6) hF (c_MO_best K _ h2 (o + 37) th (ec E) w E Tg cs TX SZ SX s (OS s) r2 hs (sl s hs)) xq_MO_best xk_LW_m101 xk_i_MO_best xk_s_MO_best (by first | assumption | exact xu_self | (refine (xu_ne (by omega)).trans ?_; first | assumption | exact xu_self | (refine (xu_ne (by omega)).trans ?_; first | assumption | exact xu_self | (refine (xu_ne (by omega)).trans ?_; first | assumption | exact xu_self | (refine (xu_ne (by omega)).trans ?_; first | assumption | exact xu_self))))) rfl ⟨(Nat.le_of_ble_eq_true rfl), (Nat.le_of_ble_eq_true rfl)⟩ rfl rfl (Nat.le_of_ble_eq_true rfl) ⟨(by simp only [xrm]; omega), (by simp only [xrm]; omega)⟩ xd_LW_law_894 rfl (fun r3 n3 h3 q3 => ?_)
    obtain ⟨rfl, f3, w3, M', m1, rfl⟩ := q3
    have m1 : pd_mn (bx_ak E Tg (OS s) (OS s).length 0) M' := m1
    have hq3 : h3 (o + 50) = some (.inl (K.2.2.1 2, 1, .inr (.inl f1))) := (f3 _ (by omega)).trans hq2
    obtain ⟨⟨_, _, _, _, _, _, _, _, _, ho9'⟩, -⟩ := id w3
    have ho9 := ho9'.1
    refine xv_istore (pc' := 899) hF xd_LW_law_897 (Nat.le_of_ble_eq_true rfl) rfl rfl ?_
    refine xv_aload_n (pc' := 900) (i := 2) hF xd_LW_law_899 rfl rfl rfl ?_
    refine xv_callVi (pc' := 903) (ci := 6) hF (c_MO_thrown K _ h3 (o + 37) 0 _ _ _ _ _ _ _ ho9) xq_MO_thrown xk_LW_m62 xk_i_MO_thrown xk_s_MO_thrown (by first | assumption | exact xu_self | (refine (xu_ne (by omega)).trans ?_; first | assumption | exact xu_self | (refine (xu_ne (by omega)).trans ?_; first | assumption | exact xu_self | (refine (xu_ne (by omega)).trans ?_; first | assumption | exact xu_self | (refine (xu_ne (by omega)).trans ?_; first | assumption | exact xu_self))))) rfl ⟨(Nat.le_of_ble_eq_true rfl), (Nat.le_of_ble_eq_true rfl)⟩ rfl rfl (Nat.le_of_ble_eq_true rfl) ⟨(by simp only [xrm]; omega), (by simp only [xrm]; omega)⟩ xd_LW_law_900 rfl (fun r9 n9 h9 q9 => ?_)
    obtain ⟨rfl, rfl, rfl⟩ := q9
    refine xv_iload (pc' := 905) hF xd_LW_law_903 rfl rfl ?_
    refine xv_icmp_eqN (pc' := 908) (tgt := 910) hF (by omega) (by omega) xd_LW_law_905 (by decide) rfl (fun e8 => ?_) (fun e8 => ?_)
    · skip
      refine xv_iload (pc' := 912) hF xd_LW_law_910 rfl rfl ?_
      refine xv_if_neN (pc' := 915) (tgt := 927) hF (by omega) xd_LW_law_912 (by decide) rfl (fun e7 => ?_) (fun e7 => ?_)
      · exact absurd e7 (by decide)
      · refine xv_aload_n (pc' := 916) (i := 3) hF xd_LW_law_915 rfl rfl rfl ?_
        refine xv_iconstN (pc' := 917) 0 hF xd_LW_law_916 (by decide +kernel) rfl ?_
        refine xv_laldN (pc' := 918) hF (by first | assumption | exact xu_self | (refine (xu_ne (by omega)).trans ?_; first | assumption | exact xu_self | (refine (xu_ne (by omega)).trans ?_; first | assumption | exact xu_self | (refine (xu_ne (by omega)).trans ?_; first | assumption | exact xu_self | (refine (xu_ne (by omega)).trans ?_; first | assumption | exact xu_self))))) (by omega) (by decide) xd_LW_law_917 rfl ?_
        refine xv_iload (pc' := 920) hF xd_LW_law_918 rfl rfl ?_
        refine xv_i2l (pc' := 921) hF xd_LW_law_920 rfl rfl ?_
        refine xv_lcmp (pc' := 922) hF xd_LW_law_921 rfl ?_
        refine xv_if_eq (pc' := 925) (tgt := 927) hF xd_LW_law_922 (by decide) rfl (fun e6 => ?_) (fun e6 => ?_)
        · refine xv_goto (tgt := 955) hF xd_LW_law_927 (by decide) ?_
          exact xv_loc _ (by repeat (first | exact trivial | refine ⟨rfl, ?_⟩)) (nx _ _ _ _ (li_md OS kn s mk) ⟨E, Tg, cs, w, OS, SX, _, _, TX, SZ, f1, f3.dk d2 (Nat.le_refl _), w3, sl, he, l2, hq3⟩ (by omega) (by omega))
        · exact absurd ((lg_cmp_eq _ _).mpr (by rw [hf1, md_be_c (fun i j hi hj => pd_mn_uniq z1 m1 hi hj) 32 (Nat.le_refl _)])) e6
    · exact absurd rfl e8
