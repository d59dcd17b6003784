/-! the law: edge, cut, tag, feed, count -/
theorem xb_in {a b : Bool} (h : xb a = xb b) : a = b := by
  cases a <;> cases b <;> first | rfl | exact absurd h (by decide +kernel)
theorem fd_in {x : Int32} (h : ¬ (x < nI 1 ∨ nI 8 < x)) : ∃ m, 1 ≤ m ∧ m ≤ 8 ∧ x = nI m := by
  have h1 : ¬ x < nI 1 := fun c => h (Or.inl c)
  have h2 : ¬ nI 8 < x := fun c => h (Or.inr c)
  have h3 : x_in x 9 = true := by
    unfold x_in
    rw [decide_eq_true (p := 0 ≤ x) (Int32.le_trans (by decide +kernel) (Int32.not_lt.mp h1)), decide_eq_true (p := x < nI 9) (Int32.lt_of_le_of_lt (Int32.not_lt.mp h2) (by decide +kernel))]
    rfl
  obtain ⟨m, hm, rfl⟩ := x_in_of (by decide) h3
  refine ⟨m, ?_, by omega, rfl⟩
  cases m with
  | zero => exact absurd (by decide +kernel) h1
  | succ m => omega
set_option maxHeartbeats 4000000 in
set_option maxRecDepth 100000 in
theorem lc_edge {G : xG} {K : xK} {o b i t N n k kS mk : Nat} {h : xH} {xs : Nat → Int32} {v1 v2 v3 : Int32} (hF : XF G K xc_LW_law xr_LW (xrm 11 398 262836 8307598) 7) (hJ : XJ G K) (hX : XS G b N xs) (hN : N ≤ 2048) (hi : i + 4 ≤ N) (ht : t < 512) (hv1 : xs (i + 1) = v1) (hv2 : xs (i + 2) = v2) (hv3 : xs (i + 3) = v3) (hI : LI K o n h mk) (hk : k ≤ 51 + 3 * mk + t) (hkS : kS ≤ 58759 + 1058 * mk + 6 * t) (nx : LN G K o b i t) : XV G k kS 100 [(4, .int (nI i)), (0, .ref b), (1, .ref o), (2, .ref (o + 37)), (3, .ref (o + 50))] [] n h := by
  obtain ⟨E, Tg, cs, w, OS, SX, kn, th, TX, SZ, f, d, r, sl, he, hmk, hq⟩ := hI
  have ha := d.1
  refine xv_aload_n (pc' := 101) (i := 1) hF xd_LW_law_100 rfl rfl rfl ?_
  refine xv_aload_n (pc' := 102) (i := 0) hF xd_LW_law_101 rfl rfl rfl ?_
  refine xv_iload (pc' := 104) hF xd_LW_law_102 rfl rfl ?_
  refine xv_iconstN (pc' := 105) 1 hF xd_LW_law_104 (by decide +kernel) rfl ?_
  first | refine xv_iaddN (pc' := 106) hF xd_LW_law_105 rfl ?_ | refine xv_iadd (pc' := 106) hF xd_LW_law_105 rfl ?_
  refine xl_ld (pc' := 107) hF hX (by first | exact hv1 | exact hv2 | exact hv3 | exact hv0) (by omega) (by omega) xd_LW_law_106 rfl ?_
  refine xv_aload_n (pc' := 108) (i := 0) hF xd_LW_law_107 rfl rfl rfl ?_
  refine xv_iload (pc' := 110) hF xd_LW_law_108 rfl rfl ?_
  refine xv_iconstN (pc' := 111) 2 hF xd_LW_law_110 (by decide +kernel) rfl ?_
  first | refine xv_iaddN (pc' := 112) hF xd_LW_law_111 rfl ?_ | refine xv_iadd (pc' := 112) hF xd_LW_law_111 rfl ?_
  refine xl_ld (pc' := 113) hF hX (by first | exact hv1 | exact hv2 | exact hv3 | exact hv0) (by omega) (by omega) xd_LW_law_112 rfl ?_
  refine xv_aload_n (pc' := 114) (i := 0) hF xd_LW_law_113 rfl rfl rfl ?_
  refine xv_iload (pc' := 116) hF xd_LW_law_114 rfl rfl ?_
  refine xv_iconstN (pc' := 117) 3 hF xd_LW_law_116 (by decide +kernel) rfl ?_
  first | refine xv_iaddN (pc' := 118) hF xd_LW_law_117 rfl ?_ | refine xv_iadd (pc' := 118) hF xd_LW_law_117 rfl ?_
  refine xl_ld (pc' := 119) hF hX (by first | exact hv1 | exact hv2 | exact hv3 | exact hv0) (by omega) (by omega) xd_LW_law_118 rfl ?_
  refine xv_aload_n (pc' := 120) (i := 3) hF xd_LW_law_119 rfl rfl rfl ?_
  cases hx : ((x_in v1 32 && x_in v2 8) && x_in v3 32) with
  | false =>
    refine xl_callSi (pc' := 123) (nn := 5) hF hJ (c_LW_edgeT K n h o (o + 50) v1 v2 v3 _ ha (c_PD_edgeT K n h o v1 v2 v3 hx)) xk_c_LW_edge xk_n_LW ⟨(by decide +kernel), (by decide +kernel)⟩ (by decide +kernel) xk_LW_m56 xk_t_LW_edge ⟨(Nat.le_of_ble_eq_true rfl), (Nat.le_of_ble_eq_true rfl)⟩ rfl rfl (Nat.le_of_ble_eq_true rfl) ⟨(by show k + 1 ≤ 262836; omega), (by show kS + 6 ≤ 8307598; omega)⟩ xd_LW_law_120 rfl (fun r1 n1 h1 q1 => ?_)
    obtain ⟨rfl, hn1, rfl⟩ := q1
    have d := d.out (fun _ _ => rfl) hn1
    obtain ⟨⟨_, _, _, _, _, _, _, _, _, ho'⟩, -⟩ := id r
    have ho := ho'.1
    refine xv_istore (pc' := 125) hF xd_LW_law_123 (Nat.le_of_ble_eq_true rfl) rfl rfl ?_
    refine xv_aload_n (pc' := 126) (i := 2) hF xd_LW_law_125 rfl rfl rfl ?_
    refine xv_aload_n (pc' := 127) (i := 0) hF xd_LW_law_126 rfl rfl rfl ?_
    refine xv_iload (pc' := 129) hF xd_LW_law_127 rfl rfl ?_
    refine xv_iconstN (pc' := 130) 1 hF xd_LW_law_129 (by decide +kernel) rfl ?_
    first | refine xv_iaddN (pc' := 131) hF xd_LW_law_130 rfl ?_ | refine xv_iadd (pc' := 131) hF xd_LW_law_130 rfl ?_
    refine xl_ld (pc' := 132) hF hX (by first | exact hv1 | exact hv2 | exact hv3 | exact hv0) (by omega) (by omega) xd_LW_law_131 rfl ?_
    refine xv_aload_n (pc' := 133) (i := 0) hF xd_LW_law_132 rfl rfl rfl ?_
    refine xv_iload (pc' := 135) hF xd_LW_law_133 rfl rfl ?_
    refine xv_iconstN (pc' := 136) 2 hF xd_LW_law_135 (by decide +kernel) rfl ?_
    first | refine xv_iaddN (pc' := 137) hF xd_LW_law_136 rfl ?_ | refine xv_iadd (pc' := 137) hF xd_LW_law_136 rfl ?_
    refine xl_ld (pc' := 138) hF hX (by first | exact hv1 | exact hv2 | exact hv3 | exact hv0) (by omega) (by omega) xd_LW_law_137 rfl ?_
    refine xv_aload_n (pc' := 139) (i := 0) hF xd_LW_law_138 rfl rfl rfl ?_
    refine xv_iload (pc' := 141) hF xd_LW_law_139 rfl rfl ?_
    refine xv_iconstN (pc' := 142) 3 hF xd_LW_law_141 (by decide +kernel) rfl ?_
    first | refine xv_iaddN (pc' := 143) hF xd_LW_law_142 rfl ?_ | refine xv_iadd (pc' := 143) hF xd_LW_law_142 rfl ?_
    refine xl_ld (pc' := 144) hF hX (by first | exact hv1 | exact hv2 | exact hv3 | exact hv0) (by omega) (by omega) xd_LW_law_143 rfl ?_
    refine xv_callVi (pc' := 147) (ci := 6) hF (c_MO_edgeO K n1 h (o + 37) th (ec E) w E Tg cs TX SZ SX v1 v2 v3 r (by rw [← Bool.and_assoc]; exact hx)) xq_MO_edge xk_LW_m61 xk_i_MO_edge xk_s_MO_edge (by first | assumption | exact xu_self | (refine (xu_ne (by omega)).trans ?_; first | assumption | exact xu_self | (refine (xu_ne (by omega)).trans ?_; first | assumption | exact xu_self | (refine (xu_ne (by omega)).trans ?_; first | assumption | exact xu_self | (refine (xu_ne (by omega)).trans ?_; first | assumption | exact xu_self))))) rfl ⟨(Nat.le_of_ble_eq_true rfl), (Nat.le_of_ble_eq_true rfl)⟩ rfl rfl (Nat.le_of_ble_eq_true rfl) ⟨(by simp only [xrm]; omega), (by simp only [xrm]; omega)⟩ xd_LW_law_144 rfl (fun r2 n2 h2 q2 => ?_)
    obtain ⟨rfl, f2, -, w2⟩ := q2
    obtain ⟨⟨_, _, _, _, _, _, _, _, _, ho9'⟩, -⟩ := id w2
    have ho9 := ho9'.1
    refine xv_istore (pc' := 149) hF xd_LW_law_147 (Nat.le_of_ble_eq_true rfl) rfl rfl ?_
    refine xv_aload_n (pc' := 150) (i := 2) hF xd_LW_law_149 rfl rfl rfl ?_
    refine xv_callVi (pc' := 153) (ci := 6) hF (c_MO_thrown K n1 h2 (o + 37) 1 _ _ _ _ _ _ _ ho9) xq_MO_thrown xk_LW_m62 xk_i_MO_thrown xk_s_MO_thrown (by first | assumption | exact xu_self | (refine (xu_ne (by omega)).trans ?_; first | assumption | exact xu_self | (refine (xu_ne (by omega)).trans ?_; first | assumption | exact xu_self | (refine (xu_ne (by omega)).trans ?_; first | assumption | exact xu_self | (refine (xu_ne (by omega)).trans ?_; first | assumption | exact xu_self))))) rfl ⟨(Nat.le_of_ble_eq_true rfl), (Nat.le_of_ble_eq_true rfl)⟩ rfl rfl (Nat.le_of_ble_eq_true rfl) ⟨(by simp only [xrm]; omega), (by simp only [xrm]; omega)⟩ xd_LW_law_150 rfl (fun r9 n9 h9 q9 => ?_)
    obtain ⟨rfl, rfl, rfl⟩ := q9
    refine xv_iload (pc' := 155) hF xd_LW_law_153 rfl rfl ?_
    refine xv_icmp_eqN (pc' := 158) (tgt := 160) hF (by omega) (by omega) xd_LW_law_155 (by decide) rfl (fun e8 => ?_) (fun e8 => ?_)
    · skip
      refine xv_iload (pc' := 162) hF xd_LW_law_160 rfl rfl ?_
      refine xv_if_neN (pc' := 165) (tgt := 184) hF (by omega) xd_LW_law_162 (by decide) rfl (fun e7 => ?_) (fun e7 => ?_)
      · refine xv_goto (tgt := 955) hF xd_LW_law_184 (by decide) ?_
        refine xv_loc _ (by repeat (first | exact trivial | refine ⟨rfl, ?_⟩)) (nx _ _ _ _ mk ⟨E, Tg, cs, w, OS, SX, kn, _, TX, SZ, f, f2.dk d (Nat.le_refl _), w2, sl, he, hmk, (f2 _ (by omega)).trans hq⟩ (by omega) (by omega))
      · exact absurd e7 (by decide)
    · exact absurd rfl e8
  | true =>
    rw [Bool.and_eq_true, Bool.and_eq_true] at hx
    obtain ⟨a, hA, rfl⟩ := x_in_of (by decide) hx.1.1
    obtain ⟨l, hL, rfl⟩ := x_in_of (by decide) hx.1.2
    obtain ⟨c, hC, rfl⟩ := x_in_of (by decide) hx.2
    refine xl_callSi (pc' := 123) (nn := 5) hF hJ (c_LW_edge K n h o (o + 50) 2 44 0 0 (nI a) (nI l) (nI c) _ ha (c_PD_edge K n h o (ec E) w mk a l c E Tg cs OS SX kn d hA hL hC he) (fun v n' h' q => by obtain ⟨-, z4, zz⟩ := q; rcases zz with zz | zz <;> first | exact ⟨false, f, zz.2.1, (z4 _ (by omega) (by omega)).trans hq⟩ | exact ⟨true, f, zz.2.1, (z4 _ (by omega) (by omega)).trans hq⟩ | exact ⟨true, f, zz.2.2.1, (z4 _ (by omega) (by omega)).trans hq⟩)) xk_c_LW_edge xk_n_LW ⟨(by decide +kernel), (by decide +kernel)⟩ (by decide +kernel) xk_LW_m56 xk_t_LW_edge ⟨(Nat.le_of_ble_eq_true rfl), (Nat.le_of_ble_eq_true rfl)⟩ rfl rfl (Nat.le_of_ble_eq_true rfl) ⟨(by show k + 0 ≤ 262836; omega), (by show kS + 0 ≤ 8307598; omega)⟩ xd_LW_law_120 rfl (fun r1 n1 h1 q1 => ?_)
    obtain ⟨rfl, bb, h1', f1, ⟨rfl, z4, zz⟩, rfl, hf1⟩ := q1
    rcases zz with ⟨c1, eb, rfl⟩ | ⟨c1, c2, eb, z5⟩
    · have eb := xb_in eb
      subst eb
      have hq2 : (xu h (o + 50) (.inl (K.2.2.1 2, 1, .inr (.inl f1)))) (o + 50) = some (.inl (K.2.2.1 2, 1, .inr (.inl f1))) := xu_self
      have r2 := xu_mo (c := (.inl (K.2.2.1 2, 1, .inr (.inl f1)))) (z4.mo r)
      have d2 := xu_dk (c := (.inl (K.2.2.1 2, 1, .inr (.inl f1)))) d
      generalize xu h (o + 50) (.inl (K.2.2.1 2, 1, .inr (.inl f1))) = h2 at hq2 r2 d2 ⊢
      obtain ⟨⟨_, _, _, _, _, _, _, _, _, ho'⟩, -⟩ := id r2
      have ho := ho'.1
      refine xv_istore (pc' := 125) hF xd_LW_law_123 (Nat.le_of_ble_eq_true rfl) rfl rfl ?_
      refine xv_aload_n (pc' := 126) (i := 2) hF xd_LW_law_125 rfl rfl rfl ?_
      refine xv_aload_n (pc' := 127) (i := 0) hF xd_LW_law_126 rfl rfl rfl ?_
      refine xv_iload (pc' := 129) hF xd_LW_law_127 rfl rfl ?_
      refine xv_iconstN (pc' := 130) 1 hF xd_LW_law_129 (by decide +kernel) rfl ?_
      first | refine xv_iaddN (pc' := 131) hF xd_LW_law_130 rfl ?_ | refine xv_iadd (pc' := 131) hF xd_LW_law_130 rfl ?_
      refine xl_ld (pc' := 132) hF hX (by first | exact hv1 | exact hv2 | exact hv3 | exact hv0) (by omega) (by omega) xd_LW_law_131 rfl ?_
      refine xv_aload_n (pc' := 133) (i := 0) hF xd_LW_law_132 rfl rfl rfl ?_
      refine xv_iload (pc' := 135) hF xd_LW_law_133 rfl rfl ?_
      refine xv_iconstN (pc' := 136) 2 hF xd_LW_law_135 (by decide +kernel) rfl ?_
      first | refine xv_iaddN (pc' := 137) hF xd_LW_law_136 rfl ?_ | refine xv_iadd (pc' := 137) hF xd_LW_law_136 rfl ?_
      refine xl_ld (pc' := 138) hF hX (by first | exact hv1 | exact hv2 | exact hv3 | exact hv0) (by omega) (by omega) xd_LW_law_137 rfl ?_
      refine xv_aload_n (pc' := 139) (i := 0) hF xd_LW_law_138 rfl rfl rfl ?_
      refine xv_iload (pc' := 141) hF xd_LW_law_139 rfl rfl ?_
      refine xv_iconstN (pc' := 142) 3 hF xd_LW_law_141 (by decide +kernel) rfl ?_
      first | refine xv_iaddN (pc' := 143) hF xd_LW_law_142 rfl ?_ | refine xv_iadd (pc' := 143) hF xd_LW_law_142 rfl ?_
      refine xl_ld (pc' := 144) hF hX (by first | exact hv1 | exact hv2 | exact hv3 | exact hv0) (by omega) (by omega) xd_LW_law_143 rfl ?_
      refine xv_callVi (pc' := 147) (ci := 6) hF (c_MO_edge K _ h2 (o + 37) th (ec E) w E Tg cs TX SZ SX a l c r2 hA hL hC he) xq_MO_edge xk_LW_m61 xk_i_MO_edge xk_s_MO_edge (by first | assumption | exact xu_self | (refine (xu_ne (by omega)).trans ?_; first | assumption | exact xu_self | (refine (xu_ne (by omega)).trans ?_; first | assumption | exact xu_self | (refine (xu_ne (by omega)).trans ?_; first | assumption | exact xu_self | (refine (xu_ne (by omega)).trans ?_; first | assumption | exact xu_self))))) rfl ⟨(Nat.le_of_ble_eq_true rfl), (Nat.le_of_ble_eq_true rfl)⟩ rfl rfl (Nat.le_of_ble_eq_true rfl) ⟨(by simp only [xrm]; omega), (by simp only [xrm]; omega)⟩ xd_LW_law_144 rfl (fun r3 n3 h3 q3 => ?_)
      obtain ⟨rfl, f3, q4⟩ := q3
      have hq3 : h3 (o + 50) = some (.inl (K.2.2.1 2, 1, .inr (.inl f1))) := (f3 _ (by omega)).trans hq2
      rcases q4 with ⟨-, rfl, w3⟩ | ⟨c3, c4, -, -⟩
      · skip
        obtain ⟨⟨_, _, _, _, _, _, _, _, _, ho9'⟩, -⟩ := id w3
        have ho9 := ho9'.1
        refine xv_istore (pc' := 149) hF xd_LW_law_147 (Nat.le_of_ble_eq_true rfl) rfl rfl ?_
        refine xv_aload_n (pc' := 150) (i := 2) hF xd_LW_law_149 rfl rfl rfl ?_
        refine xv_callVi (pc' := 153) (ci := 6) hF (c_MO_thrown K _ h3 (o + 37) 0 _ _ _ _ _ _ _ ho9) xq_MO_thrown xk_LW_m62 xk_i_MO_thrown xk_s_MO_thrown (by first | assumption | exact xu_self | (refine (xu_ne (by omega)).trans ?_; first | assumption | exact xu_self | (refine (xu_ne (by omega)).trans ?_; first | assumption | exact xu_self | (refine (xu_ne (by omega)).trans ?_; first | assumption | exact xu_self | (refine (xu_ne (by omega)).trans ?_; first | assumption | exact xu_self))))) rfl ⟨(Nat.le_of_ble_eq_true rfl), (Nat.le_of_ble_eq_true rfl)⟩ rfl rfl (Nat.le_of_ble_eq_true rfl) ⟨(by simp only [xrm]; omega), (by simp only [xrm]; omega)⟩ xd_LW_law_150 rfl (fun r9 n9 h9 q9 => ?_)
        obtain ⟨rfl, rfl, rfl⟩ := q9
        refine xv_iload (pc' := 155) hF xd_LW_law_153 rfl rfl ?_
        refine xv_icmp_eqN (pc' := 158) (tgt := 160) hF (by omega) (by omega) xd_LW_law_155 (by decide) rfl (fun e8 => ?_) (fun e8 => ?_)
        · skip
          refine xv_iload (pc' := 162) hF xd_LW_law_160 rfl rfl ?_
          refine xv_if_neN (pc' := 165) (tgt := 184) hF (by omega) xd_LW_law_162 (by decide) rfl (fun e7 => ?_) (fun e7 => ?_)
          · exact absurd e7 (by decide)
          · refine xv_aload_n (pc' := 166) (i := 3) hF xd_LW_law_165 rfl rfl rfl ?_
            refine xv_iconstN (pc' := 167) 0 hF xd_LW_law_166 (by decide +kernel) rfl ?_
            refine xv_laldN (pc' := 168) hF (by first | assumption | exact xu_self | (refine (xu_ne (by omega)).trans ?_; first | assumption | exact xu_self | (refine (xu_ne (by omega)).trans ?_; first | assumption | exact xu_self | (refine (xu_ne (by omega)).trans ?_; first | assumption | exact xu_self | (refine (xu_ne (by omega)).trans ?_; first | assumption | exact xu_self))))) (by omega) (by decide) xd_LW_law_167 rfl ?_
            refine xv_iload (pc' := 170) hF xd_LW_law_168 rfl rfl ?_
            refine xv_if_eqB (pc' := 173) (tgt := 177) hF xd_LW_law_170 (by decide) rfl (fun e5 => ?_) (fun e5 => ?_)
            · refine xv_lconst (pc' := 178) (v := 0) hF xd_LW_law_177 (by decide +kernel) rfl ?_
              refine xv_lcmp (pc' := 179) hF xd_LW_law_178 rfl ?_
              refine xv_if_eq (pc' := 182) (tgt := 184) hF xd_LW_law_179 (by decide) rfl (fun e6 => ?_) (fun e6 => ?_)
              · refine xv_goto (tgt := 955) hF xd_LW_law_184 (by decide) ?_
                exact xv_loc _ (by repeat (first | exact trivial | refine ⟨rfl, ?_⟩)) (nx _ _ _ _ mk ⟨E, Tg, cs, w, OS, SX, _, _, TX, SZ, f1, f3.dk d2 (Nat.le_refl _), w3, sl, he, hmk, hq3⟩ (by omega) (by omega))
              · exact absurd ((lg_cmp_eq _ _).mpr (by rw [hf1]; rfl)) e6
            · exact absurd e5 (by decide)
        · exact absurd rfl e8
      · rcases c1 with c1 | c1
        · rw [c1] at c3; cases c3
        · omega
    · have eb := xb_in eb
      subst eb
      have hq2 : (xu h1' (o + 50) (.inl (K.2.2.1 2, 1, .inr (.inl f1)))) (o + 50) = some (.inl (K.2.2.1 2, 1, .inr (.inl f1))) := xu_self
      have r2 := xu_mo (c := (.inl (K.2.2.1 2, 1, .inr (.inl f1)))) (z4.mo r)
      have d2 := xu_dk (c := (.inl (K.2.2.1 2, 1, .inr (.inl f1)))) z5
      generalize xu h1' (o + 50) (.inl (K.2.2.1 2, 1, .inr (.inl f1))) = h2 at hq2 r2 d2 ⊢
      obtain ⟨⟨_, _, _, _, _, _, _, _, _, ho'⟩, -⟩ := id r2
      have ho := ho'.1
      refine xv_istore (pc' := 125) hF xd_LW_law_123 (Nat.le_of_ble_eq_true rfl) rfl rfl ?_
      refine xv_aload_n (pc' := 126) (i := 2) hF xd_LW_law_125 rfl rfl rfl ?_
      refine xv_aload_n (pc' := 127) (i := 0) hF xd_LW_law_126 rfl rfl rfl ?_
      refine xv_iload (pc' := 129) hF xd_LW_law_127 rfl rfl ?_
      refine xv_iconstN (pc' := 130) 1 hF xd_LW_law_129 (by decide +kernel) rfl ?_
      first | refine xv_iaddN (pc' := 131) hF xd_LW_law_130 rfl ?_ | refine xv_iadd (pc' := 131) hF xd_LW_law_130 rfl ?_
      refine xl_ld (pc' := 132) hF hX (by first | exact hv1 | exact hv2 | exact hv3 | exact hv0) (by omega) (by omega) xd_LW_law_131 rfl ?_
      refine xv_aload_n (pc' := 133) (i := 0) hF xd_LW_law_132 rfl rfl rfl ?_
      refine xv_iload (pc' := 135) hF xd_LW_law_133 rfl rfl ?_
      refine xv_iconstN (pc' := 136) 2 hF xd_LW_law_135 (by decide +kernel) rfl ?_
      first | refine xv_iaddN (pc' := 137) hF xd_LW_law_136 rfl ?_ | refine xv_iadd (pc' := 137) hF xd_LW_law_136 rfl ?_
      refine xl_ld (pc' := 138) hF hX (by first | exact hv1 | exact hv2 | exact hv3 | exact hv0) (by omega) (by omega) xd_LW_law_137 rfl ?_
      refine xv_aload_n (pc' := 139) (i := 0) hF xd_LW_law_138 rfl rfl rfl ?_
      refine xv_iload (pc' := 141) hF xd_LW_law_139 rfl rfl ?_
      refine xv_iconstN (pc' := 142) 3 hF xd_LW_law_141 (by decide +kernel) rfl ?_
      first | refine xv_iaddN (pc' := 143) hF xd_LW_law_142 rfl ?_ | refine xv_iadd (pc' := 143) hF xd_LW_law_142 rfl ?_
      refine xl_ld (pc' := 144) hF hX (by first | exact hv1 | exact hv2 | exact hv3 | exact hv0) (by omega) (by omega) xd_LW_law_143 rfl ?_
      refine xv_callVi (pc' := 147) (ci := 6) hF (c_MO_edge K _ h2 (o + 37) th (ec E) w E Tg cs TX SZ SX a l c r2 hA hL hC he) xq_MO_edge xk_LW_m61 xk_i_MO_edge xk_s_MO_edge (by first | assumption | exact xu_self | (refine (xu_ne (by omega)).trans ?_; first | assumption | exact xu_self | (refine (xu_ne (by omega)).trans ?_; first | assumption | exact xu_self | (refine (xu_ne (by omega)).trans ?_; first | assumption | exact xu_self | (refine (xu_ne (by omega)).trans ?_; first | assumption | exact xu_self))))) rfl ⟨(Nat.le_of_ble_eq_true rfl), (Nat.le_of_ble_eq_true rfl)⟩ rfl rfl (Nat.le_of_ble_eq_true rfl) ⟨(by simp only [xrm]; omega), (by simp only [xrm]; omega)⟩ xd_LW_law_144 rfl (fun r3 n3 h3 q3 => ?_)
      obtain ⟨rfl, f3, q4⟩ := q3
      have hq3 : h3 (o + 50) = some (.inl (K.2.2.1 2, 1, .inr (.inl f1))) := (f3 _ (by omega)).trans hq2
      rcases q4 with ⟨c3, -, -⟩ | ⟨-, -, rfl, w3⟩
      · rcases c3 with c3 | c3
        · rw [c1] at c3; cases c3
        · omega
      · have e9 := ec_add hL hA hC c1
        rw [← e9] at w3 d2
        obtain ⟨⟨_, _, _, _, _, _, _, _, _, ho9'⟩, -⟩ := id w3
        have ho9 := ho9'.1
        refine xv_istore (pc' := 149) hF xd_LW_law_147 (Nat.le_of_ble_eq_true rfl) rfl rfl ?_
        refine xv_aload_n (pc' := 150) (i := 2) hF xd_LW_law_149 rfl rfl rfl ?_
        refine xv_callVi (pc' := 153) (ci := 6) hF (c_MO_thrown K _ h3 (o + 37) 0 _ _ _ _ _ _ _ ho9) xq_MO_thrown xk_LW_m62 xk_i_MO_thrown xk_s_MO_thrown (by first | assumption | exact xu_self | (refine (xu_ne (by omega)).trans ?_; first | assumption | exact xu_self | (refine (xu_ne (by omega)).trans ?_; first | assumption | exact xu_self | (refine (xu_ne (by omega)).trans ?_; first | assumption | exact xu_self | (refine (xu_ne (by omega)).trans ?_; first | assumption | exact xu_self))))) rfl ⟨(Nat.le_of_ble_eq_true rfl), (Nat.le_of_ble_eq_true rfl)⟩ rfl rfl (Nat.le_of_ble_eq_true rfl) ⟨(by simp only [xrm]; omega), (by simp only [xrm]; omega)⟩ xd_LW_law_150 rfl (fun r9 n9 h9 q9 => ?_)
        obtain ⟨rfl, rfl, rfl⟩ := q9
        refine xv_iload (pc' := 155) hF xd_LW_law_153 rfl rfl ?_
        refine xv_icmp_eqN (pc' := 158) (tgt := 160) hF (by omega) (by omega) xd_LW_law_155 (by decide) rfl (fun e8 => ?_) (fun e8 => ?_)
        · skip
          refine xv_iload (pc' := 162) hF xd_LW_law_160 rfl rfl ?_
          refine xv_if_neN (pc' := 165) (tgt := 184) hF (by omega) xd_LW_law_162 (by decide) rfl (fun e7 => ?_) (fun e7 => ?_)
          · exact absurd e7 (by decide)
          · refine xv_aload_n (pc' := 166) (i := 3) hF xd_LW_law_165 rfl rfl rfl ?_
            refine xv_iconstN (pc' := 167) 0 hF xd_LW_law_166 (by decide +kernel) rfl ?_
            refine xv_laldN (pc' := 168) hF (by first | assumption | exact xu_self | (refine (xu_ne (by omega)).trans ?_; first | assumption | exact xu_self | (refine (xu_ne (by omega)).trans ?_; first | assumption | exact xu_self | (refine (xu_ne (by omega)).trans ?_; first | assumption | exact xu_self | (refine (xu_ne (by omega)).trans ?_; first | assumption | exact xu_self))))) (by omega) (by decide) xd_LW_law_167 rfl ?_
            refine xv_iload (pc' := 170) hF xd_LW_law_168 rfl rfl ?_
            refine xv_if_eqB (pc' := 173) (tgt := 177) hF xd_LW_law_170 (by decide) rfl (fun e5 => ?_) (fun e5 => ?_)
            · exact absurd e5 (by decide)
            · refine xv_lconst (pc' := 174) (v := 1) hF xd_LW_law_173 (by decide +kernel) rfl ?_
              refine xv_goto (tgt := 178) hF xd_LW_law_174 (by decide) ?_
              refine xv_lcmp (pc' := 179) hF xd_LW_law_178 rfl ?_
              refine xv_if_eq (pc' := 182) (tgt := 184) hF xd_LW_law_179 (by decide) rfl (fun e6 => ?_) (fun e6 => ?_)
              · refine xv_goto (tgt := 955) hF xd_LW_law_184 (by decide) ?_
                exact xv_loc _ (by repeat (first | exact trivial | refine ⟨rfl, ?_⟩)) (nx _ _ _ _ mk ⟨ed_set E l a c true, Tg, cs, w, OS, SX, _, _, TX, SZ, f1, f3.dk d2 (Nat.le_refl _), w3, sl, by omega, hmk, hq3⟩ (by omega) (by omega))
              · exact absurd ((lg_cmp_eq _ _).mpr (by rw [hf1]; rfl)) e6
        · exact absurd rfl e8
