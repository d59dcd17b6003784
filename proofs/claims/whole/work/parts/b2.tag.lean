/-! the law: tag -/
set_option maxHeartbeats 4000000 in
set_option maxRecDepth 100000 in
theorem lc_tag {G : xG} {K : xK} {o b i t N n k kS mk : Nat} {h : xH} {xs : Nat → Int32} {v1 v2 v3 : Int32} (hF : XF G K xc_LW_law xr_LW (xrm 11 398 262836 8307598) 7) (hJ : XJ G K) (hX : XS G b N xs) (hN : N ≤ 2048) (hi : i + 4 ≤ N) (ht : t < 512) (hv1 : xs (i + 1) = v1) (hv2 : xs (i + 2) = v2) (hv3 : xs (i + 3) = v3) (hI : LI K o n h mk) (hk : k ≤ 51 + 3 * mk + t) (hkS : kS ≤ 58759 + 1058 * mk + 6 * t) (nx : LN G K o b i t) : XV G k kS 274 [(4, .int (nI i)), (0, .ref b), (1, .ref o), (2, .ref (o + 37)), (3, .ref (o + 50))] [] n h := by
  obtain ⟨E, Tg, cs, w, OS, SX, kn, th, TX, SZ, f, d, r, sl, he, hmk, hq⟩ := hI
  have ha := d.1
  by_cases hz : v3 = 0
  · refine xv_aload_n (pc' := 275) (i := 1) hF xd_LW_law_274 rfl rfl rfl ?_
    refine xv_aload_n (pc' := 276) (i := 0) hF xd_LW_law_275 rfl rfl rfl ?_
    refine xv_iload (pc' := 278) hF xd_LW_law_276 rfl rfl ?_
    refine xv_iconstN (pc' := 279) 1 hF xd_LW_law_278 (by decide +kernel) rfl ?_
    first | refine xv_iaddN (pc' := 280) hF xd_LW_law_279 rfl ?_ | refine xv_iadd (pc' := 280) hF xd_LW_law_279 rfl ?_
    refine xl_ld (pc' := 281) hF hX (by first | exact hv1 | exact hv2 | exact hv3 | exact hv0) (by omega) (by omega) xd_LW_law_280 rfl ?_
    refine xv_aload_n (pc' := 282) (i := 0) hF xd_LW_law_281 rfl rfl rfl ?_
    refine xv_iload (pc' := 284) hF xd_LW_law_282 rfl rfl ?_
    refine xv_iconstN (pc' := 285) 2 hF xd_LW_law_284 (by decide +kernel) rfl ?_
    first | refine xv_iaddN (pc' := 286) hF xd_LW_law_285 rfl ?_ | refine xv_iadd (pc' := 286) hF xd_LW_law_285 rfl ?_
    refine xl_ld (pc' := 287) hF hX (by first | exact hv1 | exact hv2 | exact hv3 | exact hv0) (by omega) (by omega) xd_LW_law_286 rfl ?_
    refine xv_aload_n (pc' := 288) (i := 0) hF xd_LW_law_287 rfl rfl rfl ?_
    refine xv_iload (pc' := 290) hF xd_LW_law_288 rfl rfl ?_
    refine xv_iconstN (pc' := 291) 3 hF xd_LW_law_290 (by decide +kernel) rfl ?_
    first | refine xv_iaddN (pc' := 292) hF xd_LW_law_291 rfl ?_ | refine xv_iadd (pc' := 292) hF xd_LW_law_291 rfl ?_
    refine xl_ld (pc' := 293) hF hX (by first | exact hv1 | exact hv2 | exact hv3 | exact hv0) (by omega) (by omega) xd_LW_law_292 rfl ?_
    refine xv_if_eqT (tgt := 300) hF hz xd_LW_law_293 (by decide) ?_
    refine xv_iconstN (pc' := 301) 0 hF xd_LW_law_300 (by decide +kernel) rfl ?_
    refine xv_topi (v' := xb false) (by decide +kernel) ?_
    cases hx : (x_in v1 32 && x_in v2 4) with
    | false =>
      refine xl_callSi (pc' := 304) (nn := 4) hF hJ (c_LW_tagT K n h o v1 v2 (xb false) _ ha (c_PD_tagT K n h o v1 v2 (xb false) hx)) xk_c_LW_tag xk_n_LW ⟨(by decide +kernel), (by decide +kernel)⟩ (by decide +kernel) xk_LW_m69 xk_t_LW_tag ⟨(Nat.le_of_ble_eq_true rfl), (Nat.le_of_ble_eq_true rfl)⟩ rfl rfl (Nat.le_of_ble_eq_true rfl) ⟨(by show k + 1 ≤ 262836; omega), (by show kS + 6 ≤ 8307598; omega)⟩ xd_LW_law_301 rfl (fun r1 n1 h1 q1 => ?_)
      obtain ⟨rfl, hn1, rfl⟩ := q1
      have d := d.out (fun _ _ => rfl) hn1
      obtain ⟨⟨_, _, _, _, _, _, _, _, _, ho'⟩, -⟩ := id r
      have ho := ho'.1
      refine xv_istore (pc' := 306) hF xd_LW_law_304 (Nat.le_of_ble_eq_true rfl) rfl rfl ?_
      refine xv_aload_n (pc' := 307) (i := 2) hF xd_LW_law_306 rfl rfl rfl ?_
      refine xv_aload_n (pc' := 308) (i := 0) hF xd_LW_law_307 rfl rfl rfl ?_
      refine xv_iload (pc' := 310) hF xd_LW_law_308 rfl rfl ?_
      refine xv_iconstN (pc' := 311) 1 hF xd_LW_law_310 (by decide +kernel) rfl ?_
      first | refine xv_iaddN (pc' := 312) hF xd_LW_law_311 rfl ?_ | refine xv_iadd (pc' := 312) hF xd_LW_law_311 rfl ?_
      refine xl_ld (pc' := 313) hF hX (by first | exact hv1 | exact hv2 | exact hv3 | exact hv0) (by omega) (by omega) xd_LW_law_312 rfl ?_
      refine xv_aload_n (pc' := 314) (i := 0) hF xd_LW_law_313 rfl rfl rfl ?_
      refine xv_iload (pc' := 316) hF xd_LW_law_314 rfl rfl ?_
      refine xv_iconstN (pc' := 317) 2 hF xd_LW_law_316 (by decide +kernel) rfl ?_
      first | refine xv_iaddN (pc' := 318) hF xd_LW_law_317 rfl ?_ | refine xv_iadd (pc' := 318) hF xd_LW_law_317 rfl ?_
      refine xl_ld (pc' := 319) hF hX (by first | exact hv1 | exact hv2 | exact hv3 | exact hv0) (by omega) (by omega) xd_LW_law_318 rfl ?_
      refine xv_aload_n (pc' := 320) (i := 0) hF xd_LW_law_319 rfl rfl rfl ?_
      refine xv_iload (pc' := 322) hF xd_LW_law_320 rfl rfl ?_
      refine xv_iconstN (pc' := 323) 3 hF xd_LW_law_322 (by decide +kernel) rfl ?_
      first | refine xv_iaddN (pc' := 324) hF xd_LW_law_323 rfl ?_ | refine xv_iadd (pc' := 324) hF xd_LW_law_323 rfl ?_
      refine xl_ld (pc' := 325) hF hX (by first | exact hv1 | exact hv2 | exact hv3 | exact hv0) (by omega) (by omega) xd_LW_law_324 rfl ?_
      refine xv_if_eqT (tgt := 332) hF hz xd_LW_law_325 (by decide) ?_
      refine xv_iconstN (pc' := 333) 0 hF xd_LW_law_332 (by decide +kernel) rfl ?_
      refine xv_topi (v' := xb false) (by decide +kernel) ?_
      refine xv_callVv (pc' := 336) (ci := 6) hF (c_MO_tagO K n1 h (o + 37) th (ec E) w E Tg cs TX SZ SX v1 v2 false r hx) xq_MO_tag xk_LW_m72 xk_i_MO_tag xk_s_MO_tag (by first | assumption | exact xu_self | (refine (xu_ne (by omega)).trans ?_; first | assumption | exact xu_self | (refine (xu_ne (by omega)).trans ?_; first | assumption | exact xu_self | (refine (xu_ne (by omega)).trans ?_; first | assumption | exact xu_self | (refine (xu_ne (by omega)).trans ?_; first | assumption | exact xu_self))))) rfl ⟨(Nat.le_of_ble_eq_true rfl), (Nat.le_of_ble_eq_true rfl)⟩ rfl rfl (Nat.le_of_ble_eq_true rfl) ⟨(by simp only [xrm]; omega), (by simp only [xrm]; omega)⟩ xd_LW_law_333 rfl (fun n2 h2 q2 => ?_)
      obtain ⟨rfl, f2, w2⟩ := q2
      obtain ⟨⟨_, _, _, _, _, _, _, _, _, ho9'⟩, -⟩ := id w2
      have ho9 := ho9'.1
      refine xv_aload_n (pc' := 337) (i := 2) hF xd_LW_law_336 rfl rfl rfl ?_
      refine xv_callVi (pc' := 340) (ci := 6) hF (c_MO_thrown K n1 h2 (o + 37) 1 _ _ _ _ _ _ _ ho9) xq_MO_thrown xk_LW_m62 xk_i_MO_thrown xk_s_MO_thrown (by first | assumption | exact xu_self | (refine (xu_ne (by omega)).trans ?_; first | assumption | exact xu_self | (refine (xu_ne (by omega)).trans ?_; first | assumption | exact xu_self | (refine (xu_ne (by omega)).trans ?_; first | assumption | exact xu_self | (refine (xu_ne (by omega)).trans ?_; first | assumption | exact xu_self))))) rfl ⟨(Nat.le_of_ble_eq_true rfl), (Nat.le_of_ble_eq_true rfl)⟩ rfl rfl (Nat.le_of_ble_eq_true rfl) ⟨(by simp only [xrm]; omega), (by simp only [xrm]; omega)⟩ xd_LW_law_337 rfl (fun r9 n9 h9 q9 => ?_)
      obtain ⟨rfl, rfl, rfl⟩ := q9
      refine xv_iload (pc' := 342) hF xd_LW_law_340 rfl rfl ?_
      refine xv_icmp_eqN (pc' := 345) (tgt := 347) hF (by omega) (by omega) xd_LW_law_342 (by decide) rfl (fun e8 => ?_) (fun e8 => ?_)
      · skip
        refine xv_goto (tgt := 955) hF xd_LW_law_347 (by decide) ?_
        refine xv_loc _ (by repeat (first | exact trivial | refine ⟨rfl, ?_⟩)) (nx _ _ _ _ mk ⟨E, Tg, cs, w, OS, SX, kn, _, TX, SZ, f, f2.dk d (Nat.le_refl _), w2, sl, he, hmk, (f2 _ (by omega)).trans hq⟩ (by omega) (by omega))
      · exact absurd rfl e8
    | true =>
      rw [Bool.and_eq_true] at hx
      obtain ⟨a, hA, rfl⟩ := x_in_of (by decide) hx.1
      obtain ⟨l, hL, rfl⟩ := x_in_of (by decide) hx.2
      refine xl_callSi (pc' := 304) (nn := 4) hF hJ (c_LW_tag K n h o 1 23 0 0 (nI a) (nI l) (xb false) _ ha (c_PD_tag K n h o (ec E) w mk a l false E Tg cs OS SX kn d hA hL)) xk_c_LW_tag xk_n_LW ⟨(by decide +kernel), (by decide +kernel)⟩ (by decide +kernel) xk_LW_m69 xk_t_LW_tag ⟨(Nat.le_of_ble_eq_true rfl), (Nat.le_of_ble_eq_true rfl)⟩ rfl rfl (Nat.le_of_ble_eq_true rfl) ⟨(by show k + 0 ≤ 262836; omega), (by show kS + 0 ≤ 8307598; omega)⟩ xd_LW_law_301 rfl (fun r1 n1 h1 q1 => ?_)
      obtain ⟨rfl, rfl, z4, d2⟩ := q1
      have r2 := z4.mo r
      obtain ⟨⟨_, _, _, _, _, _, _, _, _, ho'⟩, -⟩ := id r2
      have ho := ho'.1
      refine xv_istore (pc' := 306) hF xd_LW_law_304 (Nat.le_of_ble_eq_true rfl) rfl rfl ?_
      refine xv_aload_n (pc' := 307) (i := 2) hF xd_LW_law_306 rfl rfl rfl ?_
      refine xv_aload_n (pc' := 308) (i := 0) hF xd_LW_law_307 rfl rfl rfl ?_
      refine xv_iload (pc' := 310) hF xd_LW_law_308 rfl rfl ?_
      refine xv_iconstN (pc' := 311) 1 hF xd_LW_law_310 (by decide +kernel) rfl ?_
      first | refine xv_iaddN (pc' := 312) hF xd_LW_law_311 rfl ?_ | refine xv_iadd (pc' := 312) hF xd_LW_law_311 rfl ?_
      refine xl_ld (pc' := 313) hF hX (by first | exact hv1 | exact hv2 | exact hv3 | exact hv0) (by omega) (by omega) xd_LW_law_312 rfl ?_
      refine xv_aload_n (pc' := 314) (i := 0) hF xd_LW_law_313 rfl rfl rfl ?_
      refine xv_iload (pc' := 316) hF xd_LW_law_314 rfl rfl ?_
      refine xv_iconstN (pc' := 317) 2 hF xd_LW_law_316 (by decide +kernel) rfl ?_
      first | refine xv_iaddN (pc' := 318) hF xd_LW_law_317 rfl ?_ | refine xv_iadd (pc' := 318) hF xd_LW_law_317 rfl ?_
      refine xl_ld (pc' := 319) hF hX (by first | exact hv1 | exact hv2 | exact hv3 | exact hv0) (by omega) (by omega) xd_LW_law_318 rfl ?_
      refine xv_aload_n (pc' := 320) (i := 0) hF xd_LW_law_319 rfl rfl rfl ?_
      refine xv_iload (pc' := 322) hF xd_LW_law_320 rfl rfl ?_
      refine xv_iconstN (pc' := 323) 3 hF xd_LW_law_322 (by decide +kernel) rfl ?_
      first | refine xv_iaddN (pc' := 324) hF xd_LW_law_323 rfl ?_ | refine xv_iadd (pc' := 324) hF xd_LW_law_323 rfl ?_
      refine xl_ld (pc' := 325) hF hX (by first | exact hv1 | exact hv2 | exact hv3 | exact hv0) (by omega) (by omega) xd_LW_law_324 rfl ?_
      refine xv_if_eqT (tgt := 332) hF hz xd_LW_law_325 (by decide) ?_
      refine xv_iconstN (pc' := 333) 0 hF xd_LW_law_332 (by decide +kernel) rfl ?_
      refine xv_topi (v' := xb false) (by decide +kernel) ?_
      refine xv_callVv (pc' := 336) (ci := 6) hF (c_MO_tag K _ h1 (o + 37) th (ec E) w E Tg cs TX SZ SX a l false r2 hA hL) xq_MO_tag xk_LW_m72 xk_i_MO_tag xk_s_MO_tag (by first | assumption | exact xu_self | (refine (xu_ne (by omega)).trans ?_; first | assumption | exact xu_self | (refine (xu_ne (by omega)).trans ?_; first | assumption | exact xu_self | (refine (xu_ne (by omega)).trans ?_; first | assumption | exact xu_self | (refine (xu_ne (by omega)).trans ?_; first | assumption | exact xu_self))))) rfl ⟨(Nat.le_of_ble_eq_true rfl), (Nat.le_of_ble_eq_true rfl)⟩ rfl rfl (Nat.le_of_ble_eq_true rfl) ⟨(by simp only [xrm]; omega), (by simp only [xrm]; omega)⟩ xd_LW_law_333 rfl (fun n3 h3 q3 => ?_)
      obtain ⟨rfl, f3, w3⟩ := q3
      obtain ⟨⟨_, _, _, _, _, _, _, _, _, ho9'⟩, -⟩ := id w3
      have ho9 := ho9'.1
      refine xv_aload_n (pc' := 337) (i := 2) hF xd_LW_law_336 rfl rfl rfl ?_
      refine xv_callVi (pc' := 340) (ci := 6) hF (c_MO_thrown K _ h3 (o + 37) 0 _ _ _ _ _ _ _ ho9) xq_MO_thrown xk_LW_m62 xk_i_MO_thrown xk_s_MO_thrown (by first | assumption | exact xu_self | (refine (xu_ne (by omega)).trans ?_; first | assumption | exact xu_self | (refine (xu_ne (by omega)).trans ?_; first | assumption | exact xu_self | (refine (xu_ne (by omega)).trans ?_; first | assumption | exact xu_self | (refine (xu_ne (by omega)).trans ?_; first | assumption | exact xu_self))))) rfl ⟨(Nat.le_of_ble_eq_true rfl), (Nat.le_of_ble_eq_true rfl)⟩ rfl rfl (Nat.le_of_ble_eq_true rfl) ⟨(by simp only [xrm]; omega), (by simp only [xrm]; omega)⟩ xd_LW_law_337 rfl (fun r9 n9 h9 q9 => ?_)
      obtain ⟨rfl, rfl, rfl⟩ := q9
      refine xv_iload (pc' := 342) hF xd_LW_law_340 rfl rfl ?_
      refine xv_icmp_eqN (pc' := 345) (tgt := 347) hF (by omega) (by omega) xd_LW_law_342 (by decide) rfl (fun e8 => ?_) (fun e8 => ?_)
      · skip
        refine xv_goto (tgt := 955) hF xd_LW_law_347 (by decide) ?_
        exact xv_loc _ (by repeat (first | exact trivial | refine ⟨rfl, ?_⟩)) (nx _ _ _ _ mk ⟨E, tg_set Tg l a false, cs, w, OS, SX, _, _, TX, SZ, f, f3.dk d2 (Nat.le_refl _), w3, sl, he, hmk, (f3 _ (by omega)).trans ((z4 _ (by omega) (by omega)).trans hq)⟩ (by omega) (by omega))
      · exact absurd rfl e8
  · refine xv_aload_n (pc' := 275) (i := 1) hF xd_LW_law_274 rfl rfl rfl ?_
    refine xv_aload_n (pc' := 276) (i := 0) hF xd_LW_law_275 rfl rfl rfl ?_
    refine xv_iload (pc' := 278) hF xd_LW_law_276 rfl rfl ?_
    refine xv_iconstN (pc' := 279) 1 hF xd_LW_law_278 (by decide +kernel) rfl ?_
    first | refine xv_iaddN (pc' := 280) hF xd_LW_law_279 rfl ?_ | refine xv_iadd (pc' := 280) hF xd_LW_law_279 rfl ?_
    refine xl_ld (pc' := 281) hF hX (by first | exact hv1 | exact hv2 | exact hv3 | exact hv0) (by omega) (by omega) xd_LW_law_280 rfl ?_
    refine xv_aload_n (pc' := 282) (i := 0) hF xd_LW_law_281 rfl rfl rfl ?_
    refine xv_iload (pc' := 284) hF xd_LW_law_282 rfl rfl ?_
    refine xv_iconstN (pc' := 285) 2 hF xd_LW_law_284 (by decide +kernel) rfl ?_
    first | refine xv_iaddN (pc' := 286) hF xd_LW_law_285 rfl ?_ | refine xv_iadd (pc' := 286) hF xd_LW_law_285 rfl ?_
    refine xl_ld (pc' := 287) hF hX (by first | exact hv1 | exact hv2 | exact hv3 | exact hv0) (by omega) (by omega) xd_LW_law_286 rfl ?_
    refine xv_aload_n (pc' := 288) (i := 0) hF xd_LW_law_287 rfl rfl rfl ?_
    refine xv_iload (pc' := 290) hF xd_LW_law_288 rfl rfl ?_
    refine xv_iconstN (pc' := 291) 3 hF xd_LW_law_290 (by decide +kernel) rfl ?_
    first | refine xv_iaddN (pc' := 292) hF xd_LW_law_291 rfl ?_ | refine xv_iadd (pc' := 292) hF xd_LW_law_291 rfl ?_
    refine xl_ld (pc' := 293) hF hX (by first | exact hv1 | exact hv2 | exact hv3 | exact hv0) (by omega) (by omega) xd_LW_law_292 rfl ?_
    refine xv_if_eqF (pc' := 296) (tgt := 300) hF hz xd_LW_law_293 (by decide) rfl ?_
    refine xv_iconstN (pc' := 297) 1 hF xd_LW_law_296 (by decide +kernel) rfl ?_
    refine xv_goto (tgt := 301) hF xd_LW_law_297 (by decide) ?_
    refine xv_topi (v' := xb true) (by decide +kernel) ?_
    cases hx : (x_in v1 32 && x_in v2 4) with
    | false =>
      refine xl_callSi (pc' := 304) (nn := 4) hF hJ (c_LW_tagT K n h o v1 v2 (xb true) _ ha (c_PD_tagT K n h o v1 v2 (xb true) hx)) xk_c_LW_tag xk_n_LW ⟨(by decide +kernel), (by decide +kernel)⟩ (by decide +kernel) xk_LW_m69 xk_t_LW_tag ⟨(Nat.le_of_ble_eq_true rfl), (Nat.le_of_ble_eq_true rfl)⟩ rfl rfl (Nat.le_of_ble_eq_true rfl) ⟨(by show k + 1 ≤ 262836; omega), (by show kS + 6 ≤ 8307598; omega)⟩ xd_LW_law_301 rfl (fun r1 n1 h1 q1 => ?_)
      obtain ⟨rfl, hn1, rfl⟩ := q1
      have d := d.out (fun _ _ => rfl) hn1
      obtain ⟨⟨_, _, _, _, _, _, _, _, _, ho'⟩, -⟩ := id r
      have ho := ho'.1
      refine xv_istore (pc' := 306) hF xd_LW_law_304 (Nat.le_of_ble_eq_true rfl) rfl rfl ?_
      refine xv_aload_n (pc' := 307) (i := 2) hF xd_LW_law_306 rfl rfl rfl ?_
      refine xv_aload_n (pc' := 308) (i := 0) hF xd_LW_law_307 rfl rfl rfl ?_
      refine xv_iload (pc' := 310) hF xd_LW_law_308 rfl rfl ?_
      refine xv_iconstN (pc' := 311) 1 hF xd_LW_law_310 (by decide +kernel) rfl ?_
      first | refine xv_iaddN (pc' := 312) hF xd_LW_law_311 rfl ?_ | refine xv_iadd (pc' := 312) hF xd_LW_law_311 rfl ?_
      refine xl_ld (pc' := 313) hF hX (by first | exact hv1 | exact hv2 | exact hv3 | exact hv0) (by omega) (by omega) xd_LW_law_312 rfl ?_
      refine xv_aload_n (pc' := 314) (i := 0) hF xd_LW_law_313 rfl rfl rfl ?_
      refine xv_iload (pc' := 316) hF xd_LW_law_314 rfl rfl ?_
      refine xv_iconstN (pc' := 317) 2 hF xd_LW_law_316 (by decide +kernel) rfl ?_
      first | refine xv_iaddN (pc' := 318) hF xd_LW_law_317 rfl ?_ | refine xv_iadd (pc' := 318) hF xd_LW_law_317 rfl ?_
      refine xl_ld (pc' := 319) hF hX (by first | exact hv1 | exact hv2 | exact hv3 | exact hv0) (by omega) (by omega) xd_LW_law_318 rfl ?_
      refine xv_aload_n (pc' := 320) (i := 0) hF xd_LW_law_319 rfl rfl rfl ?_
      refine xv_iload (pc' := 322) hF xd_LW_law_320 rfl rfl ?_
      refine xv_iconstN (pc' := 323) 3 hF xd_LW_law_322 (by decide +kernel) rfl ?_
      first | refine xv_iaddN (pc' := 324) hF xd_LW_law_323 rfl ?_ | refine xv_iadd (pc' := 324) hF xd_LW_law_323 rfl ?_
      refine xl_ld (pc' := 325) hF hX (by first | exact hv1 | exact hv2 | exact hv3 | exact hv0) (by omega) (by omega) xd_LW_law_324 rfl ?_
      refine xv_if_eqF (pc' := 328) (tgt := 332) hF hz xd_LW_law_325 (by decide) rfl ?_
      refine xv_iconstN (pc' := 329) 1 hF xd_LW_law_328 (by decide +kernel) rfl ?_
      refine xv_goto (tgt := 333) hF xd_LW_law_329 (by decide) ?_
      refine xv_topi (v' := xb true) (by decide +kernel) ?_
      refine xv_callVv (pc' := 336) (ci := 6) hF (c_MO_tagO K n1 h (o + 37) th (ec E) w E Tg cs TX SZ SX v1 v2 true r hx) xq_MO_tag xk_LW_m72 xk_i_MO_tag xk_s_MO_tag (by first | assumption | exact xu_self | (refine (xu_ne (by omega)).trans ?_; first | assumption | exact xu_self | (refine (xu_ne (by omega)).trans ?_; first | assumption | exact xu_self | (refine (xu_ne (by omega)).trans ?_; first | assumption | exact xu_self | (refine (xu_ne (by omega)).trans ?_; first | assumption | exact xu_self))))) rfl ⟨(Nat.le_of_ble_eq_true rfl), (Nat.le_of_ble_eq_true rfl)⟩ rfl rfl (Nat.le_of_ble_eq_true rfl) ⟨(by simp only [xrm]; omega), (by simp only [xrm]; omega)⟩ xd_LW_law_333 rfl (fun n2 h2 q2 => ?_)
      obtain ⟨rfl, f2, w2⟩ := q2
      obtain ⟨⟨_, _, _, _, _, _, _, _, _, ho9'⟩, -⟩ := id w2
      have ho9 := ho9'.1
      refine xv_aload_n (pc' := 337) (i := 2) hF xd_LW_law_336 rfl rfl rfl ?_
      refine xv_callVi (pc' := 340) (ci := 6) hF (c_MO_thrown K n1 h2 (o + 37) 1 _ _ _ _ _ _ _ ho9) xq_MO_thrown xk_LW_m62 xk_i_MO_thrown xk_s_MO_thrown (by first | assumption | exact xu_self | (refine (xu_ne (by omega)).trans ?_; first | assumption | exact xu_self | (refine (xu_ne (by omega)).trans ?_; first | assumption | exact xu_self | (refine (xu_ne (by omega)).trans ?_; first | assumption | exact xu_self | (refine (xu_ne (by omega)).trans ?_; first | assumption | exact xu_self))))) rfl ⟨(Nat.le_of_ble_eq_true rfl), (Nat.le_of_ble_eq_true rfl)⟩ rfl rfl (Nat.le_of_ble_eq_true rfl) ⟨(by simp only [xrm]; omega), (by simp only [xrm]; omega)⟩ xd_LW_law_337 rfl (fun r9 n9 h9 q9 => ?_)
      obtain ⟨rfl, rfl, rfl⟩ := q9
      refine xv_iload (pc' := 342) hF xd_LW_law_340 rfl rfl ?_
      refine xv_icmp_eqN (pc' := 345) (tgt := 347) hF (by omega) (by omega) xd_LW_law_342 (by decide) rfl (fun e8 => ?_) (fun e8 => ?_)
      · skip
        refine xv_goto (tgt := 955) hF xd_LW_law_347 (by decide) ?_
        refine xv_loc _ (by repeat (first | exact trivial | refine ⟨rfl, ?_⟩)) (nx _ _ _ _ mk ⟨E, Tg, cs, w, OS, SX, kn, _, TX, SZ, f, f2.dk d (Nat.le_refl _), w2, sl, he, hmk, (f2 _ (by omega)).trans hq⟩ (by omega) (by omega))
      · exact absurd rfl e8
    | true =>
      rw [Bool.and_eq_true] at hx
      obtain ⟨a, hA, rfl⟩ := x_in_of (by decide) hx.1
      obtain ⟨l, hL, rfl⟩ := x_in_of (by decide) hx.2
      refine xl_callSi (pc' := 304) (nn := 4) hF hJ (c_LW_tag K n h o 1 23 0 0 (nI a) (nI l) (xb true) _ ha (c_PD_tag K n h o (ec E) w mk a l true E Tg cs OS SX kn d hA hL)) xk_c_LW_tag xk_n_LW ⟨(by decide +kernel), (by decide +kernel)⟩ (by decide +kernel) xk_LW_m69 xk_t_LW_tag ⟨(Nat.le_of_ble_eq_true rfl), (Nat.le_of_ble_eq_true rfl)⟩ rfl rfl (Nat.le_of_ble_eq_true rfl) ⟨(by show k + 0 ≤ 262836; omega), (by show kS + 0 ≤ 8307598; omega)⟩ xd_LW_law_301 rfl (fun r1 n1 h1 q1 => ?_)
      obtain ⟨rfl, rfl, z4, d2⟩ := q1
      have r2 := z4.mo r
      obtain ⟨⟨_, _, _, _, _, _, _, _, _, ho'⟩, -⟩ := id r2
      have ho := ho'.1
      refine xv_istore (pc' := 306) hF xd_LW_law_304 (Nat.le_of_ble_eq_true rfl) rfl rfl ?_
      refine xv_aload_n (pc' := 307) (i := 2) hF xd_LW_law_306 rfl rfl rfl ?_
      refine xv_aload_n (pc' := 308) (i := 0) hF xd_LW_law_307 rfl rfl rfl ?_
      refine xv_iload (pc' := 310) hF xd_LW_law_308 rfl rfl ?_
      refine xv_iconstN (pc' := 311) 1 hF xd_LW_law_310 (by decide +kernel) rfl ?_
      first | refine xv_iaddN (pc' := 312) hF xd_LW_law_311 rfl ?_ | refine xv_iadd (pc' := 312) hF xd_LW_law_311 rfl ?_
      refine xl_ld (pc' := 313) hF hX (by first | exact hv1 | exact hv2 | exact hv3 | exact hv0) (by omega) (by omega) xd_LW_law_312 rfl ?_
      refine xv_aload_n (pc' := 314) (i := 0) hF xd_LW_law_313 rfl rfl rfl ?_
      refine xv_iload (pc' := 316) hF xd_LW_law_314 rfl rfl ?_
      refine xv_iconstN (pc' := 317) 2 hF xd_LW_law_316 (by decide +kernel) rfl ?_
      first | refine xv_iaddN (pc' := 318) hF xd_LW_law_317 rfl ?_ | refine xv_iadd (pc' := 318) hF xd_LW_law_317 rfl ?_
      refine xl_ld (pc' := 319) hF hX (by first | exact hv1 | exact hv2 | exact hv3 | exact hv0) (by omega) (by omega) xd_LW_law_318 rfl ?_
      refine xv_aload_n (pc' := 320) (i := 0) hF xd_LW_law_319 rfl rfl rfl ?_
      refine xv_iload (pc' := 322) hF xd_LW_law_320 rfl rfl ?_
      refine xv_iconstN (pc' := 323) 3 hF xd_LW_law_322 (by decide +kernel) rfl ?_
      first | refine xv_iaddN (pc' := 324) hF xd_LW_law_323 rfl ?_ | refine xv_iadd (pc' := 324) hF xd_LW_law_323 rfl ?_
      refine xl_ld (pc' := 325) hF hX (by first | exact hv1 | exact hv2 | exact hv3 | exact hv0) (by omega) (by omega) xd_LW_law_324 rfl ?_
      refine xv_if_eqF (pc' := 328) (tgt := 332) hF hz xd_LW_law_325 (by decide) rfl ?_
      refine xv_iconstN (pc' := 329) 1 hF xd_LW_law_328 (by decide +kernel) rfl ?_
      refine xv_goto (tgt := 333) hF xd_LW_law_329 (by decide) ?_
      refine xv_topi (v' := xb true) (by decide +kernel) ?_
      refine xv_callVv (pc' := 336) (ci := 6) hF (c_MO_tag K _ h1 (o + 37) th (ec E) w E Tg cs TX SZ SX a l true r2 hA hL) xq_MO_tag xk_LW_m72 xk_i_MO_tag xk_s_MO_tag (by first | assumption | exact xu_self | (refine (xu_ne (by omega)).trans ?_; first | assumption | exact xu_self | (refine (xu_ne (by omega)).trans ?_; first | assumption | exact xu_self | (refine (xu_ne (by omega)).trans ?_; first | assumption | exact xu_self | (refine (xu_ne (by omega)).trans ?_; first | assumption | exact xu_self))))) rfl ⟨(Nat.le_of_ble_eq_true rfl), (Nat.le_of_ble_eq_true rfl)⟩ rfl rfl (Nat.le_of_ble_eq_true rfl) ⟨(by simp only [xrm]; omega), (by simp only [xrm]; omega)⟩ xd_LW_law_333 rfl (fun n3 h3 q3 => ?_)
      obtain ⟨rfl, f3, w3⟩ := q3
      obtain ⟨⟨_, _, _, _, _, _, _, _, _, ho9'⟩, -⟩ := id w3
      have ho9 := ho9'.1
      refine xv_aload_n (pc' := 337) (i := 2) hF xd_LW_law_336 rfl rfl rfl ?_
      refine xv_callVi (pc' := 340) (ci := 6) hF (c_MO_thrown K _ h3 (o + 37) 0 _ _ _ _ _ _ _ ho9) xq_MO_thrown xk_LW_m62 xk_i_MO_thrown xk_s_MO_thrown (by first | assumption | exact xu_self | (refine (xu_ne (by omega)).trans ?_; first | assumption | exact xu_self | (refine (xu_ne (by omega)).trans ?_; first | assumption | exact xu_self | (refine (xu_ne (by omega)).trans ?_; first | assumption | exact xu_self | (refine (xu_ne (by omega)).trans ?_; first | assumption | exact xu_self))))) rfl ⟨(Nat.le_of_ble_eq_true rfl), (Nat.le_of_ble_eq_true rfl)⟩ rfl rfl (Nat.le_of_ble_eq_true rfl) ⟨(by simp only [xrm]; omega), (by simp only [xrm]; omega)⟩ xd_LW_law_337 rfl (fun r9 n9 h9 q9 => ?_)
      obtain ⟨rfl, rfl, rfl⟩ := q9
      refine xv_iload (pc' := 342) hF xd_LW_law_340 rfl rfl ?_
      refine xv_icmp_eqN (pc' := 345) (tgt := 347) hF (by omega) (by omega) xd_LW_law_342 (by decide) rfl (fun e8 => ?_) (fun e8 => ?_)
      · skip
        refine xv_goto (tgt := 955) hF xd_LW_law_347 (by decide) ?_
        exact xv_loc _ (by repeat (first | exact trivial | refine ⟨rfl, ?_⟩)) (nx _ _ _ _ mk ⟨E, tg_set Tg l a true, cs, w, OS, SX, _, _, TX, SZ, f, f3.dk d2 (Nat.le_refl _), w3, sl, he, hmk, (f3 _ (by omega)).trans ((z4 _ (by omega) (by omega)).trans hq)⟩ (by omega) (by omega))
      · exact absurd rfl e8
