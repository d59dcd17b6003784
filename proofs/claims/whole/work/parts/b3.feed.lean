/-! the law: feed -/
set_option maxHeartbeats 4000000 in
set_option maxRecDepth 100000 in
theorem lc_feed {G : xG} {K : xK} {o b i t N n k kS mk : Nat} {h : xH} {xs : Nat → Int32} {v1 v2 v3 : Int32} (hF : XF G K xc_LW_law xr_LW (xrm 11 398 262836 8307598) 7) (hJ : XJ G K) (hX : XS G b N xs) (hN : N ≤ 2048) (hi : i + 4 ≤ N) (ht : t < 512) (hv1 : xs (i + 1) = v1) (hv2 : xs (i + 2) = v2) (hv3 : xs (i + 3) = v3) (hI : LI K o n h mk) (hk : k ≤ 51 + 3 * mk + t) (hkS : kS ≤ 58759 + 1058 * mk + 6 * t) (nx : LN G K o b i t) : XV G k kS 350 [(4, .int (nI i)), (0, .ref b), (1, .ref o), (2, .ref (o + 37)), (3, .ref (o + 50))] [] n h := by
  obtain ⟨E, Tg, cs, w, OS, SX, kn, th, TX, SZ, f, d, r, sl, he, hmk, hq⟩ := hI
  have ha := d.1
  obtain ⟨X, hXe⟩ : ∃ X : Int64, X = (v1.toInt64 <<< ((nI 32).toInt64 &&& 63)) ||| (v2.toInt64 &&& 4294967295) := ⟨_, rfl⟩
  refine xv_aload_n (pc' := 351) (i := 1) hF xd_LW_law_350 rfl rfl rfl ?_
  refine xv_aload_n (pc' := 352) (i := 0) hF xd_LW_law_351 rfl rfl rfl ?_
  refine xv_iload (pc' := 354) hF xd_LW_law_352 rfl rfl ?_
  refine xv_iconstN (pc' := 355) 1 hF xd_LW_law_354 (by decide +kernel) rfl ?_
  first | refine xv_iaddN (pc' := 356) hF xd_LW_law_355 rfl ?_ | refine xv_iadd (pc' := 356) hF xd_LW_law_355 rfl ?_
  refine xl_ld (pc' := 357) hF hX (by first | exact hv1 | exact hv2 | exact hv3 | exact hv0) (by omega) (by omega) xd_LW_law_356 rfl ?_
  refine xv_i2l (pc' := 358) hF xd_LW_law_357 rfl rfl ?_
  refine xv_bipushN (pc' := 360) 32 hF xd_LW_law_358 (by decide +kernel) rfl ?_
  refine xv_lshl (pc' := 361) hF xd_LW_law_360 rfl rfl ?_
  refine xv_aload_n (pc' := 362) (i := 0) hF xd_LW_law_361 rfl rfl rfl ?_
  refine xv_iload (pc' := 364) hF xd_LW_law_362 rfl rfl ?_
  refine xv_iconstN (pc' := 365) 2 hF xd_LW_law_364 (by decide +kernel) rfl ?_
  first | refine xv_iaddN (pc' := 366) hF xd_LW_law_365 rfl ?_ | refine xv_iadd (pc' := 366) hF xd_LW_law_365 rfl ?_
  refine xl_ld (pc' := 367) hF hX (by first | exact hv1 | exact hv2 | exact hv3 | exact hv0) (by omega) (by omega) xd_LW_law_366 rfl ?_
  refine xv_i2l (pc' := 368) hF xd_LW_law_367 rfl rfl ?_
  refine xv_ldc2 (pc' := 371) hF xk_LW_k73 xd_LW_law_368 rfl ?_
  refine xv_land (pc' := 372) hF xd_LW_law_371 rfl ?_
  refine xv_lor (pc' := 373) hF xd_LW_law_372 rfl ?_
  refine xv_top (v' := .long X) (by rw [hXe]) ?_
  refine xv_aload_n (pc' := 374) (i := 0) hF xd_LW_law_373 rfl rfl rfl ?_
  refine xv_iload (pc' := 376) hF xd_LW_law_374 rfl rfl ?_
  refine xv_iconstN (pc' := 377) 3 hF xd_LW_law_376 (by decide +kernel) rfl ?_
  first | refine xv_iaddN (pc' := 378) hF xd_LW_law_377 rfl ?_ | refine xv_iadd (pc' := 378) hF xd_LW_law_377 rfl ?_
  refine xl_ld (pc' := 379) hF hX (by first | exact hv1 | exact hv2 | exact hv3 | exact hv0) (by omega) (by omega) xd_LW_law_378 rfl ?_
  refine xv_aload_n (pc' := 380) (i := 3) hF xd_LW_law_379 rfl rfl rfl ?_
  by_cases hx : v3 < nI 1 ∨ nI 8 < v3
  · skip
    refine xl_callSi (pc' := 383) (nn := 4) hF hJ (c_LW_feedT K n h o (o + 50) X v3 _ ha (c_PD_feedT K n h o X v3 hx)) xk_c_LW_feed xk_n_LW ⟨(by decide +kernel), (by decide +kernel)⟩ (by decide +kernel) xk_LW_m75 xk_t_LW_feed ⟨(Nat.le_of_ble_eq_true rfl), (Nat.le_of_ble_eq_true rfl)⟩ rfl rfl (Nat.le_of_ble_eq_true rfl) ⟨(by show k + 1 ≤ 262836; omega), (by show kS + 6 ≤ 8307598; omega)⟩ xd_LW_law_380 rfl (fun r1 n1 h1 q1 => ?_)
    obtain ⟨rfl, hn1, rfl⟩ := q1
    have d := d.out (fun _ _ => rfl) hn1
    obtain ⟨⟨_, _, _, _, _, _, _, _, _, ho'⟩, -⟩ := id r
    have ho := ho'.1
    refine xv_istore (pc' := 385) hF xd_LW_law_383 (Nat.le_of_ble_eq_true rfl) rfl rfl ?_
    refine xv_aload_n (pc' := 386) (i := 2) hF xd_LW_law_385 rfl rfl rfl ?_
    refine xv_aload_n (pc' := 387) (i := 0) hF xd_LW_law_386 rfl rfl rfl ?_
    refine xv_iload (pc' := 389) hF xd_LW_law_387 rfl rfl ?_
    refine xv_iconstN (pc' := 390) 1 hF xd_LW_law_389 (by decide +kernel) rfl ?_
    first | refine xv_iaddN (pc' := 391) hF xd_LW_law_390 rfl ?_ | refine xv_iadd (pc' := 391) hF xd_LW_law_390 rfl ?_
    refine xl_ld (pc' := 392) hF hX (by first | exact hv1 | exact hv2 | exact hv3 | exact hv0) (by omega) (by omega) xd_LW_law_391 rfl ?_
    refine xv_i2l (pc' := 393) hF xd_LW_law_392 rfl rfl ?_
    refine xv_bipushN (pc' := 395) 32 hF xd_LW_law_393 (by decide +kernel) rfl ?_
    refine xv_lshl (pc' := 396) hF xd_LW_law_395 rfl rfl ?_
    refine xv_aload_n (pc' := 397) (i := 0) hF xd_LW_law_396 rfl rfl rfl ?_
    refine xv_iload (pc' := 399) hF xd_LW_law_397 rfl rfl ?_
    refine xv_iconstN (pc' := 400) 2 hF xd_LW_law_399 (by decide +kernel) rfl ?_
    first | refine xv_iaddN (pc' := 401) hF xd_LW_law_400 rfl ?_ | refine xv_iadd (pc' := 401) hF xd_LW_law_400 rfl ?_
    refine xl_ld (pc' := 402) hF hX (by first | exact hv1 | exact hv2 | exact hv3 | exact hv0) (by omega) (by omega) xd_LW_law_401 rfl ?_
    refine xv_i2l (pc' := 403) hF xd_LW_law_402 rfl rfl ?_
    refine xv_ldc2 (pc' := 406) hF xk_LW_k73 xd_LW_law_403 rfl ?_
    refine xv_land (pc' := 407) hF xd_LW_law_406 rfl ?_
    refine xv_lor (pc' := 408) hF xd_LW_law_407 rfl ?_
    refine xv_top (v' := .long X) (by rw [hXe]) ?_
    refine xv_aload_n (pc' := 409) (i := 0) hF xd_LW_law_408 rfl rfl rfl ?_
    refine xv_iload (pc' := 411) hF xd_LW_law_409 rfl rfl ?_
    refine xv_iconstN (pc' := 412) 3 hF xd_LW_law_411 (by decide +kernel) rfl ?_
    first | refine xv_iaddN (pc' := 413) hF xd_LW_law_412 rfl ?_ | refine xv_iadd (pc' := 413) hF xd_LW_law_412 rfl ?_
    refine xl_ld (pc' := 414) hF hX (by first | exact hv1 | exact hv2 | exact hv3 | exact hv0) (by omega) (by omega) xd_LW_law_413 rfl ?_
    refine xv_callVi (pc' := 417) (ci := 6) hF (c_MO_feedO K n1 h (o + 37) th (ec E) w E Tg cs TX SZ SX X v3 r hx) xq_MO_feed xk_LW_m78 xk_i_MO_feed xk_s_MO_feed (by first | assumption | exact xu_self | (refine (xu_ne (by omega)).trans ?_; first | assumption | exact xu_self | (refine (xu_ne (by omega)).trans ?_; first | assumption | exact xu_self | (refine (xu_ne (by omega)).trans ?_; first | assumption | exact xu_self | (refine (xu_ne (by omega)).trans ?_; first | assumption | exact xu_self))))) rfl ⟨(Nat.le_of_ble_eq_true rfl), (Nat.le_of_ble_eq_true rfl)⟩ rfl rfl (Nat.le_of_ble_eq_true rfl) ⟨(by simp only [xrm]; omega), (by simp only [xrm]; omega)⟩ xd_LW_law_414 rfl (fun r2 n2 h2 q2 => ?_)
    obtain ⟨rfl, f2, w2⟩ := q2
    obtain ⟨⟨_, _, _, _, _, _, _, _, _, ho9'⟩, -⟩ := id w2
    have ho9 := ho9'.1
    refine xv_istore (pc' := 419) hF xd_LW_law_417 (Nat.le_of_ble_eq_true rfl) rfl rfl ?_
    refine xv_aload_n (pc' := 420) (i := 2) hF xd_LW_law_419 rfl rfl rfl ?_
    refine xv_callVi (pc' := 423) (ci := 6) hF (c_MO_thrown K n1 h2 (o + 37) 1 _ _ _ _ _ _ _ ho9) xq_MO_thrown xk_LW_m62 xk_i_MO_thrown xk_s_MO_thrown (by first | assumption | exact xu_self | (refine (xu_ne (by omega)).trans ?_; first | assumption | exact xu_self | (refine (xu_ne (by omega)).trans ?_; first | assumption | exact xu_self | (refine (xu_ne (by omega)).trans ?_; first | assumption | exact xu_self | (refine (xu_ne (by omega)).trans ?_; first | assumption | exact xu_self))))) rfl ⟨(Nat.le_of_ble_eq_true rfl), (Nat.le_of_ble_eq_true rfl)⟩ rfl rfl (Nat.le_of_ble_eq_true rfl) ⟨(by simp only [xrm]; omega), (by simp only [xrm]; omega)⟩ xd_LW_law_420 rfl (fun r9 n9 h9 q9 => ?_)
    obtain ⟨rfl, rfl, rfl⟩ := q9
    refine xv_iload (pc' := 425) hF xd_LW_law_423 rfl rfl ?_
    refine xv_icmp_eqN (pc' := 428) (tgt := 430) hF (by omega) (by omega) xd_LW_law_425 (by decide) rfl (fun e8 => ?_) (fun e8 => ?_)
    · skip
      refine xv_iload (pc' := 432) hF xd_LW_law_430 rfl rfl ?_
      refine xv_if_neN (pc' := 435) (tgt := 447) hF (by omega) xd_LW_law_432 (by decide) rfl (fun e7 => ?_) (fun e7 => ?_)
      · refine xv_goto (tgt := 955) hF xd_LW_law_447 (by decide) ?_
        refine xv_loc _ (by repeat (first | exact trivial | refine ⟨rfl, ?_⟩)) (nx _ _ _ _ mk ⟨E, Tg, cs, w, OS, SX, kn, _, TX, SZ, f, f2.dk d (Nat.le_refl _), w2, sl, he, hmk, (f2 _ (by omega)).trans hq⟩ (by omega) (by omega))
      · exact absurd e7 (by decide)
    · exact absurd rfl e8
  · obtain ⟨mm, hm1, hm8, rfl⟩ := fd_in hx
    refine xl_callSi (pc' := 383) (nn := 4) hF hJ (c_LW_feed K n h o (o + 50) 0 0 0 0 X (nI mm) _ ha (c_PD_feed K n h o (ec E) w mk mm X E Tg cs OS SX kn d hm1 hm8) (fun v n' h' q => by obtain ⟨-, zz⟩ := q; rcases zz with ⟨-, -, rfl⟩ | ⟨-, -, z4, -⟩; exact ⟨f, hq⟩; exact ⟨f, (z4 _ (by omega) (by omega)).trans hq⟩)) xk_c_LW_feed xk_n_LW ⟨(by decide +kernel), (by decide +kernel)⟩ (by decide +kernel) xk_LW_m75 xk_t_LW_feed ⟨(Nat.le_of_ble_eq_true rfl), (Nat.le_of_ble_eq_true rfl)⟩ rfl rfl (Nat.le_of_ble_eq_true rfl) ⟨(by show k + 0 ≤ 262836; omega), (by show kS + 0 ≤ 8307598; omega)⟩ xd_LW_law_380 rfl (fun r1 n1 h1 q1 => ?_)
    obtain ⟨rfl, v, h1', f1, ⟨rfl, zz⟩, rfl, hf1⟩ := q1
    rcases zz with ⟨c1, rfl, rfl⟩ | ⟨c1, rfl, z4, z5⟩
    · skip
      have hq2 : (xu h (o + 50) (.inl (K.2.2.1 2, 1, .inr (.inl f1)))) (o + 50) = some (.inl (K.2.2.1 2, 1, .inr (.inl f1))) := xu_self
      have r2 := xu_mo (c := (.inl (K.2.2.1 2, 1, .inr (.inl f1)))) r
      have d2 := xu_dk (c := (.inl (K.2.2.1 2, 1, .inr (.inl f1)))) d
      generalize xu h (o + 50) (.inl (K.2.2.1 2, 1, .inr (.inl f1))) = h2 at hq2 r2 d2 ⊢
      obtain ⟨⟨_, _, _, _, _, _, _, _, _, ho'⟩, -⟩ := id r2
      have ho := ho'.1
      refine xv_istore (pc' := 385) hF xd_LW_law_383 (Nat.le_of_ble_eq_true rfl) rfl rfl ?_
      refine xv_aload_n (pc' := 386) (i := 2) hF xd_LW_law_385 rfl rfl rfl ?_
      refine xv_aload_n (pc' := 387) (i := 0) hF xd_LW_law_386 rfl rfl rfl ?_
      refine xv_iload (pc' := 389) hF xd_LW_law_387 rfl rfl ?_
      refine xv_iconstN (pc' := 390) 1 hF xd_LW_law_389 (by decide +kernel) rfl ?_
      first | refine xv_iaddN (pc' := 391) hF xd_LW_law_390 rfl ?_ | refine xv_iadd (pc' := 391) hF xd_LW_law_390 rfl ?_
      refine xl_ld (pc' := 392) hF hX (by first | exact hv1 | exact hv2 | exact hv3 | exact hv0) (by omega) (by omega) xd_LW_law_391 rfl ?_
      refine xv_i2l (pc' := 393) hF xd_LW_law_392 rfl rfl ?_
      refine xv_bipushN (pc' := 395) 32 hF xd_LW_law_393 (by decide +kernel) rfl ?_
      refine xv_lshl (pc' := 396) hF xd_LW_law_395 rfl rfl ?_
      refine xv_aload_n (pc' := 397) (i := 0) hF xd_LW_law_396 rfl rfl rfl ?_
      refine xv_iload (pc' := 399) hF xd_LW_law_397 rfl rfl ?_
      refine xv_iconstN (pc' := 400) 2 hF xd_LW_law_399 (by decide +kernel) rfl ?_
      first | refine xv_iaddN (pc' := 401) hF xd_LW_law_400 rfl ?_ | refine xv_iadd (pc' := 401) hF xd_LW_law_400 rfl ?_
      refine xl_ld (pc' := 402) hF hX (by first | exact hv1 | exact hv2 | exact hv3 | exact hv0) (by omega) (by omega) xd_LW_law_401 rfl ?_
      refine xv_i2l (pc' := 403) hF xd_LW_law_402 rfl rfl ?_
      refine xv_ldc2 (pc' := 406) hF xk_LW_k73 xd_LW_law_403 rfl ?_
      refine xv_land (pc' := 407) hF xd_LW_law_406 rfl ?_
      refine xv_lor (pc' := 408) hF xd_LW_law_407 rfl ?_
      refine xv_top (v' := .long X) (by rw [hXe]) ?_
      refine xv_aload_n (pc' := 409) (i := 0) hF xd_LW_law_408 rfl rfl rfl ?_
      refine xv_iload (pc' := 411) hF xd_LW_law_409 rfl rfl ?_
      refine xv_iconstN (pc' := 412) 3 hF xd_LW_law_411 (by decide +kernel) rfl ?_
      first | refine xv_iaddN (pc' := 413) hF xd_LW_law_412 rfl ?_ | refine xv_iadd (pc' := 413) hF xd_LW_law_412 rfl ?_
      refine xl_ld (pc' := 414) hF hX (by first | exact hv1 | exact hv2 | exact hv3 | exact hv0) (by omega) (by omega) xd_LW_law_413 rfl ?_
      refine xv_callVi (pc' := 417) (ci := 6) hF (c_MO_feed K _ h2 (o + 37) th (ec E) w E Tg cs TX SZ SX X mm r2 hm1 hm8) xq_MO_feed xk_LW_m78 xk_i_MO_feed xk_s_MO_feed (by first | assumption | exact xu_self | (refine (xu_ne (by omega)).trans ?_; first | assumption | exact xu_self | (refine (xu_ne (by omega)).trans ?_; first | assumption | exact xu_self | (refine (xu_ne (by omega)).trans ?_; first | assumption | exact xu_self | (refine (xu_ne (by omega)).trans ?_; first | assumption | exact xu_self))))) rfl ⟨(Nat.le_of_ble_eq_true rfl), (Nat.le_of_ble_eq_true rfl)⟩ rfl rfl (Nat.le_of_ble_eq_true rfl) ⟨(by simp only [xrm]; omega), (by simp only [xrm]; omega)⟩ xd_LW_law_414 rfl (fun r3 n3 h3 q3 => ?_)
      obtain ⟨rfl, f3, q4⟩ := q3
      have hq3 : h3 (o + 50) = some (.inl (K.2.2.1 2, 1, .inr (.inl f1))) := (f3 _ (by omega)).trans hq2
      rcases q4 with ⟨-, rfl, w3⟩ | ⟨c3, -, -⟩
      · skip
        obtain ⟨⟨_, _, _, _, _, _, _, _, _, ho9'⟩, -⟩ := id w3
        have ho9 := ho9'.1
        refine xv_istore (pc' := 419) hF xd_LW_law_417 (Nat.le_of_ble_eq_true rfl) rfl rfl ?_
        refine xv_aload_n (pc' := 420) (i := 2) hF xd_LW_law_419 rfl rfl rfl ?_
        refine xv_callVi (pc' := 423) (ci := 6) hF (c_MO_thrown K _ h3 (o + 37) 0 _ _ _ _ _ _ _ ho9) xq_MO_thrown xk_LW_m62 xk_i_MO_thrown xk_s_MO_thrown (by first | assumption | exact xu_self | (refine (xu_ne (by omega)).trans ?_; first | assumption | exact xu_self | (refine (xu_ne (by omega)).trans ?_; first | assumption | exact xu_self | (refine (xu_ne (by omega)).trans ?_; first | assumption | exact xu_self | (refine (xu_ne (by omega)).trans ?_; first | assumption | exact xu_self))))) rfl ⟨(Nat.le_of_ble_eq_true rfl), (Nat.le_of_ble_eq_true rfl)⟩ rfl rfl (Nat.le_of_ble_eq_true rfl) ⟨(by simp only [xrm]; omega), (by simp only [xrm]; omega)⟩ xd_LW_law_420 rfl (fun r9 n9 h9 q9 => ?_)
        obtain ⟨rfl, rfl, rfl⟩ := q9
        refine xv_iload (pc' := 425) hF xd_LW_law_423 rfl rfl ?_
        refine xv_icmp_eqN (pc' := 428) (tgt := 430) hF (by omega) (by omega) xd_LW_law_425 (by decide) rfl (fun e8 => ?_) (fun e8 => ?_)
        · skip
          refine xv_iload (pc' := 432) hF xd_LW_law_430 rfl rfl ?_
          refine xv_if_neN (pc' := 435) (tgt := 447) hF (by omega) xd_LW_law_432 (by decide) rfl (fun e7 => ?_) (fun e7 => ?_)
          · exact absurd e7 (by decide)
          · refine xv_aload_n (pc' := 436) (i := 3) hF xd_LW_law_435 rfl rfl rfl ?_
            refine xv_iconstN (pc' := 437) 0 hF xd_LW_law_436 (by decide +kernel) rfl ?_
            refine xv_laldN (pc' := 438) hF (by first | assumption | exact xu_self | (refine (xu_ne (by omega)).trans ?_; first | assumption | exact xu_self | (refine (xu_ne (by omega)).trans ?_; first | assumption | exact xu_self | (refine (xu_ne (by omega)).trans ?_; first | assumption | exact xu_self | (refine (xu_ne (by omega)).trans ?_; first | assumption | exact xu_self))))) (by omega) (by decide) xd_LW_law_437 rfl ?_
            refine xv_iload (pc' := 440) hF xd_LW_law_438 rfl rfl ?_
            refine xv_i2l (pc' := 441) hF xd_LW_law_440 rfl rfl ?_
            refine xv_lcmp (pc' := 442) hF xd_LW_law_441 rfl ?_
            refine xv_if_eq (pc' := 445) (tgt := 447) hF xd_LW_law_442 (by decide) rfl (fun e6 => ?_) (fun e6 => ?_)
            · refine xv_goto (tgt := 955) hF xd_LW_law_447 (by decide) ?_
              exact xv_loc _ (by repeat (first | exact trivial | refine ⟨rfl, ?_⟩)) (nx _ _ _ _ mk ⟨E, Tg, cs, w, OS, SX, _, _, TX, SZ, f1, f3.dk d2 (Nat.le_refl _), w3, sl, he, hmk, hq3⟩ (by omega) (by omega))
            · exact absurd ((lg_cmp_eq _ _).mpr hf1) e6
        · exact absurd rfl e8
      · omega
    · skip
      have hq2 : (xu h1' (o + 50) (.inl (K.2.2.1 2, 1, .inr (.inl f1)))) (o + 50) = some (.inl (K.2.2.1 2, 1, .inr (.inl f1))) := xu_self
      have r2 := xu_mo (c := (.inl (K.2.2.1 2, 1, .inr (.inl f1)))) (z4.mo r)
      have d2 := xu_dk (c := (.inl (K.2.2.1 2, 1, .inr (.inl f1)))) z5
      generalize xu h1' (o + 50) (.inl (K.2.2.1 2, 1, .inr (.inl f1))) = h2 at hq2 r2 d2 ⊢
      obtain ⟨⟨_, _, _, _, _, _, _, _, _, ho'⟩, -⟩ := id r2
      have ho := ho'.1
      refine xv_istore (pc' := 385) hF xd_LW_law_383 (Nat.le_of_ble_eq_true rfl) rfl rfl ?_
      refine xv_aload_n (pc' := 386) (i := 2) hF xd_LW_law_385 rfl rfl rfl ?_
      refine xv_aload_n (pc' := 387) (i := 0) hF xd_LW_law_386 rfl rfl rfl ?_
      refine xv_iload (pc' := 389) hF xd_LW_law_387 rfl rfl ?_
      refine xv_iconstN (pc' := 390) 1 hF xd_LW_law_389 (by decide +kernel) rfl ?_
      first | refine xv_iaddN (pc' := 391) hF xd_LW_law_390 rfl ?_ | refine xv_iadd (pc' := 391) hF xd_LW_law_390 rfl ?_
      refine xl_ld (pc' := 392) hF hX (by first | exact hv1 | exact hv2 | exact hv3 | exact hv0) (by omega) (by omega) xd_LW_law_391 rfl ?_
      refine xv_i2l (pc' := 393) hF xd_LW_law_392 rfl rfl ?_
      refine xv_bipushN (pc' := 395) 32 hF xd_LW_law_393 (by decide +kernel) rfl ?_
      refine xv_lshl (pc' := 396) hF xd_LW_law_395 rfl rfl ?_
      refine xv_aload_n (pc' := 397) (i := 0) hF xd_LW_law_396 rfl rfl rfl ?_
      refine xv_iload (pc' := 399) hF xd_LW_law_397 rfl rfl ?_
      refine xv_iconstN (pc' := 400) 2 hF xd_LW_law_399 (by decide +kernel) rfl ?_
      first | refine xv_iaddN (pc' := 401) hF xd_LW_law_400 rfl ?_ | refine xv_iadd (pc' := 401) hF xd_LW_law_400 rfl ?_
      refine xl_ld (pc' := 402) hF hX (by first | exact hv1 | exact hv2 | exact hv3 | exact hv0) (by omega) (by omega) xd_LW_law_401 rfl ?_
      refine xv_i2l (pc' := 403) hF xd_LW_law_402 rfl rfl ?_
      refine xv_ldc2 (pc' := 406) hF xk_LW_k73 xd_LW_law_403 rfl ?_
      refine xv_land (pc' := 407) hF xd_LW_law_406 rfl ?_
      refine xv_lor (pc' := 408) hF xd_LW_law_407 rfl ?_
      refine xv_top (v' := .long X) (by rw [hXe]) ?_
      refine xv_aload_n (pc' := 409) (i := 0) hF xd_LW_law_408 rfl rfl rfl ?_
      refine xv_iload (pc' := 411) hF xd_LW_law_409 rfl rfl ?_
      refine xv_iconstN (pc' := 412) 3 hF xd_LW_law_411 (by decide +kernel) rfl ?_
      first | refine xv_iaddN (pc' := 413) hF xd_LW_law_412 rfl ?_ | refine xv_iadd (pc' := 413) hF xd_LW_law_412 rfl ?_
      refine xl_ld (pc' := 414) hF hX (by first | exact hv1 | exact hv2 | exact hv3 | exact hv0) (by omega) (by omega) xd_LW_law_413 rfl ?_
      refine xv_callVi (pc' := 417) (ci := 6) hF (c_MO_feed K _ h2 (o + 37) th (ec E) w E Tg cs TX SZ SX X mm r2 hm1 hm8) xq_MO_feed xk_LW_m78 xk_i_MO_feed xk_s_MO_feed (by first | assumption | exact xu_self | (refine (xu_ne (by omega)).trans ?_; first | assumption | exact xu_self | (refine (xu_ne (by omega)).trans ?_; first | assumption | exact xu_self | (refine (xu_ne (by omega)).trans ?_; first | assumption | exact xu_self | (refine (xu_ne (by omega)).trans ?_; first | assumption | exact xu_self))))) rfl ⟨(Nat.le_of_ble_eq_true rfl), (Nat.le_of_ble_eq_true rfl)⟩ rfl rfl (Nat.le_of_ble_eq_true rfl) ⟨(by simp only [xrm]; omega), (by simp only [xrm]; omega)⟩ xd_LW_law_414 rfl (fun r3 n3 h3 q3 => ?_)
      obtain ⟨rfl, f3, q4⟩ := q3
      have hq3 : h3 (o + 50) = some (.inl (K.2.2.1 2, 1, .inr (.inl f1))) := (f3 _ (by omega)).trans hq2
      rcases q4 with ⟨c3, -, -⟩ | ⟨-, rfl, w3⟩
      · omega
      · skip
        obtain ⟨⟨_, _, _, _, _, _, _, _, _, ho9'⟩, -⟩ := id w3
        have ho9 := ho9'.1
        refine xv_istore (pc' := 419) hF xd_LW_law_417 (Nat.le_of_ble_eq_true rfl) rfl rfl ?_
        refine xv_aload_n (pc' := 420) (i := 2) hF xd_LW_law_419 rfl rfl rfl ?_
        refine xv_callVi (pc' := 423) (ci := 6) hF (c_MO_thrown K _ h3 (o + 37) 0 _ _ _ _ _ _ _ ho9) xq_MO_thrown xk_LW_m62 xk_i_MO_thrown xk_s_MO_thrown (by first | assumption | exact xu_self | (refine (xu_ne (by omega)).trans ?_; first | assumption | exact xu_self | (refine (xu_ne (by omega)).trans ?_; first | assumption | exact xu_self | (refine (xu_ne (by omega)).trans ?_; first | assumption | exact xu_self | (refine (xu_ne (by omega)).trans ?_; first | assumption | exact xu_self))))) rfl ⟨(Nat.le_of_ble_eq_true rfl), (Nat.le_of_ble_eq_true rfl)⟩ rfl rfl (Nat.le_of_ble_eq_true rfl) ⟨(by simp only [xrm]; omega), (by simp only [xrm]; omega)⟩ xd_LW_law_420 rfl (fun r9 n9 h9 q9 => ?_)
        obtain ⟨rfl, rfl, rfl⟩ := q9
        refine xv_iload (pc' := 425) hF xd_LW_law_423 rfl rfl ?_
        refine xv_icmp_eqN (pc' := 428) (tgt := 430) hF (by omega) (by omega) xd_LW_law_425 (by decide) rfl (fun e8 => ?_) (fun e8 => ?_)
        · skip
          refine xv_iload (pc' := 432) hF xd_LW_law_430 rfl rfl ?_
          refine xv_if_neN (pc' := 435) (tgt := 447) hF (by omega) xd_LW_law_432 (by decide) rfl (fun e7 => ?_) (fun e7 => ?_)
          · exact absurd e7 (by decide)
          · refine xv_aload_n (pc' := 436) (i := 3) hF xd_LW_law_435 rfl rfl rfl ?_
            refine xv_iconstN (pc' := 437) 0 hF xd_LW_law_436 (by decide +kernel) rfl ?_
            refine xv_laldN (pc' := 438) hF (by first | assumption | exact xu_self | (refine (xu_ne (by omega)).trans ?_; first | assumption | exact xu_self | (refine (xu_ne (by omega)).trans ?_; first | assumption | exact xu_self | (refine (xu_ne (by omega)).trans ?_; first | assumption | exact xu_self | (refine (xu_ne (by omega)).trans ?_; first | assumption | exact xu_self))))) (by omega) (by decide) xd_LW_law_437 rfl ?_
            refine xv_iload (pc' := 440) hF xd_LW_law_438 rfl rfl ?_
            refine xv_i2l (pc' := 441) hF xd_LW_law_440 rfl rfl ?_
            refine xv_lcmp (pc' := 442) hF xd_LW_law_441 rfl ?_
            refine xv_if_eq (pc' := 445) (tgt := 447) hF xd_LW_law_442 (by decide) rfl (fun e6 => ?_) (fun e6 => ?_)
            · refine xv_goto (tgt := 955) hF xd_LW_law_447 (by decide) ?_
              exact xv_loc _ (by repeat (first | exact trivial | refine ⟨rfl, ?_⟩)) (nx _ _ _ _ mk ⟨E, Tg, _, w + mm, OS, SX, _, _, TX, SZ, f1, f3.dk d2 (Nat.le_refl _), w3, sl, he, hmk, hq3⟩ (by omega) (by omega))
            · exact absurd ((lg_cmp_eq _ _).mpr hf1) e6
        · exact absurd rfl e8
