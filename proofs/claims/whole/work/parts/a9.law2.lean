/-! the law: load, distance, reach, pairs -/
theorem xv_if_eqT {G : xG} {K : xK} {cc : ByteArray} {own : String} {rm0 : Room} {mL k kS pc n : Nat} {L : List (Nat × Value)} {st : List Value} {h : xH} {x : Int32} {off : Int} {tgt : Nat} (hF : XF G K cc own rm0 mL) (hx : x = 0) (hd : decode cc pc = .ok (.ifCond .eq off, 3)) (ht : (pc : Int) + off = (tgt : Int)) (kt : XV G k kS tgt L st n h) : XV G k kS pc L (.int x :: st) n h := xv_if_eq hF hd ht rfl (fun _ => kt) (fun c => absurd hx c)
theorem xv_if_eqF {G : xG} {K : xK} {cc : ByteArray} {own : String} {rm0 : Room} {mL k kS pc pc' n : Nat} {L : List (Nat × Value)} {st : List Value} {h : xH} {x : Int32} {off : Int} {tgt : Nat} (hF : XF G K cc own rm0 mL) (hx : ¬ x = 0) (hd : decode cc pc = .ok (.ifCond .eq off, 3)) (ht : (pc : Int) + off = (tgt : Int)) (hp : pc + 3 = pc') (kf : XV G k kS pc' L st n h) : XV G k kS pc L (.int x :: st) n h := xv_if_eq hF hd ht hp (fun c => absurd c hx) (fun _ => kf)
set_option maxHeartbeats 4000000 in
set_option maxRecDepth 100000 in
theorem lc_load {G : xG} {K : xK} {o b i t N n k kS mk : Nat} {h : xH} {xs : Nat → Int32} {v1 : Int32} (hF : XF G K xc_LW_law xr_LW (xrm 11 398 262836 8307598) 7) (hJ : XJ G K) (hX : XS G b N xs) (hN : N ≤ 2048) (hi : i + 4 ≤ N) (ht : t < 512) (hv1 : xs (i + 1) = v1) (hI : LI K o n h mk) (hk : k ≤ 51 + 3 * mk + t) (hkS : kS ≤ 58759 + 1058 * mk + 6 * t) (nx : LN G K o b i t) : XV G k kS 450 [(4, .int (nI i)), (0, .ref b), (1, .ref o), (2, .ref (o + 37)), (3, .ref (o + 50))] [] n h := by
  obtain ⟨E, Tg, cs, w, OS, SX, kn, th, TX, SZ, f, d, r, sl, he, hmk, hq⟩ := hI
  have ha := d.1
  refine xv_aload_n (pc' := 451) (i := 1) hF xd_LW_law_450 rfl rfl rfl ?_
  refine xv_aload_n (pc' := 452) (i := 0) hF xd_LW_law_451 rfl rfl rfl ?_
  refine xv_iload (pc' := 454) hF xd_LW_law_452 rfl rfl ?_
  refine xv_iconstN (pc' := 455) 1 hF xd_LW_law_454 (by decide +kernel) rfl ?_
  first | refine xv_iaddN (pc' := 456) hF xd_LW_law_455 rfl ?_ | refine xv_iadd (pc' := 456) hF xd_LW_law_455 rfl ?_
  refine xl_ld (pc' := 457) hF hX (by first | exact hv1 | exact hv2 | exact hv3 | exact hv0) (by omega) (by omega) xd_LW_law_456 rfl ?_
  refine xv_aload_n (pc' := 458) (i := 3) hF xd_LW_law_457 rfl rfl rfl ?_
  cases hx : x_in v1 4 with
  | false =>
    refine xl_callSi (pc' := 461) (nn := 3) hF hJ (c_LW_loadT K n h o (o + 50) v1 _ ha (c_PD_loadT K n h o v1 hx)) xk_c_LW_load xk_n_LW ⟨(by decide +kernel), (by decide +kernel)⟩ (by decide +kernel) xk_LW_m79 xk_t_LW_load ⟨(Nat.le_of_ble_eq_true rfl), (Nat.le_of_ble_eq_true rfl)⟩ rfl rfl (Nat.le_of_ble_eq_true rfl) ⟨(by show k + 1 ≤ 262836; omega), (by show kS + 6 ≤ 8307598; omega)⟩ xd_LW_law_458 rfl (fun r1 n1 h1 q1 => ?_)
    obtain ⟨rfl, hn1, rfl⟩ := q1
    have d := d.out (fun _ _ => rfl) hn1
    obtain ⟨⟨_, _, _, _, _, _, _, _, _, ho'⟩, -⟩ := id r
    have ho := ho'.1
    refine xv_istore (pc' := 463) hF xd_LW_law_461 (Nat.le_of_ble_eq_true rfl) rfl rfl ?_
    refine xv_aload_n (pc' := 464) (i := 2) hF xd_LW_law_463 rfl rfl rfl ?_
    refine xv_aload_n (pc' := 465) (i := 0) hF xd_LW_law_464 rfl rfl rfl ?_
    refine xv_iload (pc' := 467) hF xd_LW_law_465 rfl rfl ?_
    refine xv_iconstN (pc' := 468) 1 hF xd_LW_law_467 (by decide +kernel) rfl ?_
    first | refine xv_iaddN (pc' := 469) hF xd_LW_law_468 rfl ?_ | refine xv_iadd (pc' := 469) hF xd_LW_law_468 rfl ?_
    refine xl_ld (pc' := 470) hF hX (by first | exact hv1 | exact hv2 | exact hv3 | exact hv0) (by omega) (by omega) xd_LW_law_469 rfl ?_
    refine xv_callVi (pc' := 473) (ci := 6) hF (c_MO_loadO K n1 h (o + 37) th (ec E) w E Tg cs TX SZ SX v1 r hx) xq_MO_load xk_LW_m82 xk_i_MO_load xk_s_MO_load (by first | assumption | exact xu_self | (refine (xu_ne (by omega)).trans ?_; first | assumption | exact xu_self | (refine (xu_ne (by omega)).trans ?_; first | assumption | exact xu_self | (refine (xu_ne (by omega)).trans ?_; first | assumption | exact xu_self | (refine (xu_ne (by omega)).trans ?_; first | assumption | exact xu_self))))) rfl ⟨(Nat.le_of_ble_eq_true rfl), (Nat.le_of_ble_eq_true rfl)⟩ rfl rfl (Nat.le_of_ble_eq_true rfl) ⟨(by simp only [xrm]; omega), (by simp only [xrm]; omega)⟩ xd_LW_law_470 rfl (fun r2 n2 h2 q2 => ?_)
    obtain ⟨rfl, f2, w2⟩ := q2

    obtain ⟨⟨_, _, _, _, _, _, _, _, _, ho9'⟩, -⟩ := id w2
    have ho9 := ho9'.1
    refine xv_istore (pc' := 475) hF xd_LW_law_473 (Nat.le_of_ble_eq_true rfl) rfl rfl ?_
    refine xv_aload_n (pc' := 476) (i := 2) hF xd_LW_law_475 rfl rfl rfl ?_
    refine xv_callVi (pc' := 479) (ci := 6) hF (c_MO_thrown K n1 h2 (o + 37) 1 _ _ _ _ _ _ _ ho9) xq_MO_thrown xk_LW_m62 xk_i_MO_thrown xk_s_MO_thrown (by first | assumption | exact xu_self | (refine (xu_ne (by omega)).trans ?_; first | assumption | exact xu_self | (refine (xu_ne (by omega)).trans ?_; first | assumption | exact xu_self | (refine (xu_ne (by omega)).trans ?_; first | assumption | exact xu_self | (refine (xu_ne (by omega)).trans ?_; first | assumption | exact xu_self))))) rfl ⟨(Nat.le_of_ble_eq_true rfl), (Nat.le_of_ble_eq_true rfl)⟩ rfl rfl (Nat.le_of_ble_eq_true rfl) ⟨(by simp only [xrm]; omega), (by simp only [xrm]; omega)⟩ xd_LW_law_476 rfl (fun r9 n9 h9 q9 => ?_)
    obtain ⟨rfl, rfl, rfl⟩ := q9
    refine xv_iload (pc' := 481) hF xd_LW_law_479 rfl rfl ?_
    refine xv_icmp_eqN (pc' := 484) (tgt := 486) hF (by omega) (by omega) xd_LW_law_481 (by decide) rfl (fun e8 => ?_) (fun e8 => ?_)
    · skip
      refine xv_iload (pc' := 488) hF xd_LW_law_486 rfl rfl ?_
      refine xv_if_neN (pc' := 491) (tgt := 503) hF (by omega) xd_LW_law_488 (by decide) rfl (fun e7 => ?_) (fun e7 => ?_)
      · refine xv_goto (tgt := 955) hF xd_LW_law_503 (by decide) ?_
        refine xv_loc _ (by repeat (first | exact trivial | refine ⟨rfl, ?_⟩)) (nx _ _ _ _ mk ⟨E, Tg, cs, w, OS, SX, kn, _, TX, SZ, f, f2.dk d (Nat.le_refl _), w2, sl, he, hmk, (f2 _ (by omega)).trans hq⟩ (by omega) (by omega))
      · exact absurd e7 (by decide)
    · exact absurd rfl e8
  | true =>
    obtain ⟨s, hs, rfl⟩ := x_in_of (by decide) hx
    refine xl_callSi (pc' := 461) (nn := 3) hF hJ (c_LW_load K n h o (o + 50) 6 133 _ _ (nI s) _ ha (c_PD_load K n h o (ec E) w mk s E Tg cs OS SX kn d hs) (fun v n' h' q => by obtain ⟨-, z4, -⟩ := q; exact ⟨f, (z4 _ (by omega) (by omega)).trans hq⟩)) xk_c_LW_load xk_n_LW ⟨(by decide +kernel), (by decide +kernel)⟩ (by decide +kernel) xk_LW_m79 xk_t_LW_load ⟨(Nat.le_of_ble_eq_true rfl), (Nat.le_of_ble_eq_true rfl)⟩ rfl rfl (Nat.le_of_ble_eq_true rfl) ⟨(by show k + 0 ≤ 262836; omega), (by show kS + 0 ≤ 8307598; omega)⟩ xd_LW_law_458 rfl (fun r1 n1 h1 q1 => ?_)
    obtain ⟨rfl, v, h1', f1, ⟨rfl, z4, rs, le, mo, en, os', sx', -, -, z1, z5⟩, rfl, hf1⟩ := q1
    have hq2 : (xu h1' (o + 50) (.inl (K.2.2.1 2, 1, .inr (.inl f1)))) (o + 50) = some (.inl (K.2.2.1 2, 1, .inr (.inl f1))) := xu_self
    have r2 := xu_mo (c := (.inl (K.2.2.1 2, 1, .inr (.inl f1)))) (z4.mo r)
    have d2 := xu_dk (c := (.inl (K.2.2.1 2, 1, .inr (.inl f1)))) z5
    generalize xu h1' (o + 50) (.inl (K.2.2.1 2, 1, .inr (.inl f1))) = h2 at hq2 r2 d2 ⊢
    obtain ⟨⟨_, _, _, _, _, _, _, _, _, ho'⟩, -⟩ := id r2
    have ho := ho'.1
    refine xv_istore (pc' := 463) hF xd_LW_law_461 (Nat.le_of_ble_eq_true rfl) rfl rfl ?_
    refine xv_aload_n (pc' := 464) (i := 2) hF xd_LW_law_463 rfl rfl rfl ?_
    refine xv_aload_n (pc' := 465) (i := 0) hF xd_LW_law_464 rfl rfl rfl ?_
    refine xv_iload (pc' := 467) hF xd_LW_law_465 rfl rfl ?_
    refine xv_iconstN (pc' := 468) 1 hF xd_LW_law_467 (by decide +kernel) rfl ?_
    first | refine xv_iaddN (pc' := 469) hF xd_LW_law_468 rfl ?_ | refine xv_iadd (pc' := 469) hF xd_LW_law_468 rfl ?_
    refine xl_ld (pc' := 470) hF hX (by first | exact hv1 | exact hv2 | exact hv3 | exact hv0) (by omega) (by omega) xd_LW_law_469 rfl ?_
    refine xv_callVi (pc' := 473) (ci := 6) hF (c_MO_load K _ h2 (o + 37) th (ec E) w E Tg cs TX SZ SX s rs le mo en r2 hs) xq_MO_load xk_LW_m82 xk_i_MO_load xk_s_MO_load (by first | assumption | exact xu_self | (refine (xu_ne (by omega)).trans ?_; first | assumption | exact xu_self | (refine (xu_ne (by omega)).trans ?_; first | assumption | exact xu_self | (refine (xu_ne (by omega)).trans ?_; first | assumption | exact xu_self | (refine (xu_ne (by omega)).trans ?_; first | assumption | exact xu_self))))) rfl ⟨(Nat.le_of_ble_eq_true rfl), (Nat.le_of_ble_eq_true rfl)⟩ rfl rfl (Nat.le_of_ble_eq_true rfl) ⟨(by simp only [xrm]; omega), (by simp only [xrm]; omega)⟩ xd_LW_law_470 rfl (fun r3 n3 h3 q3 => ?_)
    obtain ⟨rfl, f3, tx', N', sx2, l9, w3⟩ := q3
    obtain ⟨ee, rfl, sl9⟩ := ld_lm z1 l9
    have sl2 : ∀ s', s' < 4 → sl_T (va_up TX s tx' s') (va_up SZ s N' s') (va_up OS s os' s') := by
      intro s' hs'
      by_cases c : s' = s
      · subst c; rw [va_s, va_s, va_s]; exact sl9
      · rw [va_n c, va_n c, va_n c]; exact sl s' hs'
    have hq3 : h3 (o + 50) = some (.inl (K.2.2.1 2, 1, .inr (.inl f1))) := (f3 _ (by omega)).trans hq2
    obtain ⟨⟨_, _, _, _, _, _, _, _, _, ho9'⟩, -⟩ := id w3
    have ho9 := ho9'.1
    refine xv_istore (pc' := 475) hF xd_LW_law_473 (Nat.le_of_ble_eq_true rfl) rfl rfl ?_
    refine xv_aload_n (pc' := 476) (i := 2) hF xd_LW_law_475 rfl rfl rfl ?_
    refine xv_callVi (pc' := 479) (ci := 6) hF (c_MO_thrown K _ h3 (o + 37) 0 _ _ _ _ _ _ _ ho9) xq_MO_thrown xk_LW_m62 xk_i_MO_thrown xk_s_MO_thrown (by first | assumption | exact xu_self | (refine (xu_ne (by omega)).trans ?_; first | assumption | exact xu_self | (refine (xu_ne (by omega)).trans ?_; first | assumption | exact xu_self | (refine (xu_ne (by omega)).trans ?_; first | assumption | exact xu_self | (refine (xu_ne (by omega)).trans ?_; first | assumption | exact xu_self))))) rfl ⟨(Nat.le_of_ble_eq_true rfl), (Nat.le_of_ble_eq_true rfl)⟩ rfl rfl (Nat.le_of_ble_eq_true rfl) ⟨(by simp only [xrm]; omega), (by simp only [xrm]; omega)⟩ xd_LW_law_476 rfl (fun r9 n9 h9 q9 => ?_)
    obtain ⟨rfl, rfl, rfl⟩ := q9
    refine xv_iload (pc' := 481) hF xd_LW_law_479 rfl rfl ?_
    refine xv_icmp_eqN (pc' := 484) (tgt := 486) hF (by omega) (by omega) xd_LW_law_481 (by decide) rfl (fun e8 => ?_) (fun e8 => ?_)
    · skip
      refine xv_iload (pc' := 488) hF xd_LW_law_486 rfl rfl ?_
      refine xv_if_neN (pc' := 491) (tgt := 503) hF (by omega) xd_LW_law_488 (by decide) rfl (fun e7 => ?_) (fun e7 => ?_)
      · exact absurd e7 (by decide)
      · refine xv_aload_n (pc' := 492) (i := 3) hF xd_LW_law_491 rfl rfl rfl ?_
        refine xv_iconstN (pc' := 493) 0 hF xd_LW_law_492 (by decide +kernel) rfl ?_
        refine xv_laldN (pc' := 494) hF (by first | assumption | exact xu_self | (refine (xu_ne (by omega)).trans ?_; first | assumption | exact xu_self | (refine (xu_ne (by omega)).trans ?_; first | assumption | exact xu_self | (refine (xu_ne (by omega)).trans ?_; first | assumption | exact xu_self | (refine (xu_ne (by omega)).trans ?_; first | assumption | exact xu_self))))) (by omega) (by decide) xd_LW_law_493 rfl ?_
        refine xv_iload (pc' := 496) hF xd_LW_law_494 rfl rfl ?_
        refine xv_i2l (pc' := 497) hF xd_LW_law_496 rfl rfl ?_
        refine xv_lcmp (pc' := 498) hF xd_LW_law_497 rfl ?_
        refine xv_if_eq (pc' := 501) (tgt := 503) hF xd_LW_law_498 (by decide) rfl (fun e6 => ?_) (fun e6 => ?_)
        · refine xv_goto (tgt := 955) hF xd_LW_law_503 (by decide) ?_
          exact xv_loc _ (by repeat (first | exact trivial | refine ⟨rfl, ?_⟩)) (nx _ _ _ _ mk ⟨E, Tg, cs, 0, va_up OS s os', va_up SX s sx', _, _, va_up TX s tx', va_up SZ s N', f1, f3.dk d2 (Nat.le_refl _), w3, sl2, he, hmk, hq3⟩ (by omega) (by omega))
        · exact absurd ((lg_cmp_eq _ _).mpr (by rw [hf1, ee])) e6
    · exact absurd rfl e8
set_option maxHeartbeats 4000000 in
set_option maxRecDepth 100000 in
theorem lc_distance {G : xG} {K : xK} {o b i t N n k kS mk : Nat} {h : xH} {xs : Nat → Int32} {v1 v2 v3 : Int32} (hF : XF G K xc_LW_law xr_LW (xrm 11 398 262836 8307598) 7) (hJ : XJ G K) (hX : XS G b N xs) (hN : N ≤ 2048) (hi : i + 4 ≤ N) (ht : t < 512) (hv1 : xs (i + 1) = v1) (hv2 : xs (i + 2) = v2) (hv3 : xs (i + 3) = v3) (hI : LI K o n h mk) (hk : k ≤ 51 + 3 * mk + t) (hkS : kS ≤ 58759 + 1058 * mk + 6 * t) (nx : LN G K o b i t) : XV G k kS 602 [(4, .int (nI i)), (0, .ref b), (1, .ref o), (2, .ref (o + 37)), (3, .ref (o + 50))] [] n h := by
  obtain ⟨E, Tg, cs, w, OS, SX, kn, th, TX, SZ, f, d, r, sl, he, hmk, hq⟩ := hI
  have ha := d.1
  refine xv_aload_n (pc' := 603) (i := 1) hF xd_LW_law_602 rfl rfl rfl ?_
  refine xv_aload_n (pc' := 604) (i := 0) hF xd_LW_law_603 rfl rfl rfl ?_
  refine xv_iload (pc' := 606) hF xd_LW_law_604 rfl rfl ?_
  refine xv_iconstN (pc' := 607) 1 hF xd_LW_law_606 (by decide +kernel) rfl ?_
  first | refine xv_iaddN (pc' := 608) hF xd_LW_law_607 rfl ?_ | refine xv_iadd (pc' := 608) hF xd_LW_law_607 rfl ?_
  refine xl_ld (pc' := 609) hF hX (by first | exact hv1 | exact hv2 | exact hv3 | exact hv0) (by omega) (by omega) xd_LW_law_608 rfl ?_
  refine xv_aload_n (pc' := 610) (i := 0) hF xd_LW_law_609 rfl rfl rfl ?_
  refine xv_iload (pc' := 612) hF xd_LW_law_610 rfl rfl ?_
  refine xv_iconstN (pc' := 613) 2 hF xd_LW_law_612 (by decide +kernel) rfl ?_
  first | refine xv_iaddN (pc' := 614) hF xd_LW_law_613 rfl ?_ | refine xv_iadd (pc' := 614) hF xd_LW_law_613 rfl ?_
  refine xl_ld (pc' := 615) hF hX (by first | exact hv1 | exact hv2 | exact hv3 | exact hv0) (by omega) (by omega) xd_LW_law_614 rfl ?_
  refine xv_aload_n (pc' := 616) (i := 0) hF xd_LW_law_615 rfl rfl rfl ?_
  refine xv_iload (pc' := 618) hF xd_LW_law_616 rfl rfl ?_
  refine xv_iconstN (pc' := 619) 3 hF xd_LW_law_618 (by decide +kernel) rfl ?_
  first | refine xv_iaddN (pc' := 620) hF xd_LW_law_619 rfl ?_ | refine xv_iadd (pc' := 620) hF xd_LW_law_619 rfl ?_
  refine xl_ld (pc' := 621) hF hX (by first | exact hv1 | exact hv2 | exact hv3 | exact hv0) (by omega) (by omega) xd_LW_law_620 rfl ?_
  refine xv_aload_n (pc' := 622) (i := 3) hF xd_LW_law_621 rfl rfl rfl ?_
  cases hx : x_in v1 4 with
  | false =>
    refine xl_callSi (pc' := 625) (nn := 5) hF hJ (c_LW_distanceT1 K n h o (o + 50) v1 v2 v3 _ ha (c_PD_distanceT1 K n h o v1 v2 v3 hx)) xk_c_LW_distance xk_n_LW ⟨(by decide +kernel), (by decide +kernel)⟩ (by decide +kernel) xk_LW_m87 xk_t_LW_distance ⟨(Nat.le_of_ble_eq_true rfl), (Nat.le_of_ble_eq_true rfl)⟩ rfl rfl (Nat.le_of_ble_eq_true rfl) ⟨(by show k + 1 ≤ 262836; omega), (by show kS + 6 ≤ 8307598; omega)⟩ xd_LW_law_622 rfl (fun r1 n1 h1 q1 => ?_)
    obtain ⟨rfl, hn1, rfl⟩ := q1
    have d := d.out (fun _ _ => rfl) hn1
    obtain ⟨⟨_, _, _, _, _, _, _, _, _, ho'⟩, -⟩ := id r
    have ho := ho'.1
    refine xv_istore (pc' := 627) hF xd_LW_law_625 (Nat.le_of_ble_eq_true rfl) rfl rfl ?_
    refine xv_aload_n (pc' := 628) (i := 2) hF xd_LW_law_627 rfl rfl rfl ?_
    refine xv_aload_n (pc' := 629) (i := 0) hF xd_LW_law_628 rfl rfl rfl ?_
    refine xv_iload (pc' := 631) hF xd_LW_law_629 rfl rfl ?_
    refine xv_iconstN (pc' := 632) 1 hF xd_LW_law_631 (by decide +kernel) rfl ?_
    first | refine xv_iaddN (pc' := 633) hF xd_LW_law_632 rfl ?_ | refine xv_iadd (pc' := 633) hF xd_LW_law_632 rfl ?_
    refine xl_ld (pc' := 634) hF hX (by first | exact hv1 | exact hv2 | exact hv3 | exact hv0) (by omega) (by omega) xd_LW_law_633 rfl ?_
    refine xv_aload_n (pc' := 635) (i := 0) hF xd_LW_law_634 rfl rfl rfl ?_
    refine xv_iload (pc' := 637) hF xd_LW_law_635 rfl rfl ?_
    refine xv_iconstN (pc' := 638) 2 hF xd_LW_law_637 (by decide +kernel) rfl ?_
    first | refine xv_iaddN (pc' := 639) hF xd_LW_law_638 rfl ?_ | refine xv_iadd (pc' := 639) hF xd_LW_law_638 rfl ?_
    refine xl_ld (pc' := 640) hF hX (by first | exact hv1 | exact hv2 | exact hv3 | exact hv0) (by omega) (by omega) xd_LW_law_639 rfl ?_
    refine xv_aload_n (pc' := 641) (i := 0) hF xd_LW_law_640 rfl rfl rfl ?_
    refine xv_iload (pc' := 643) hF xd_LW_law_641 rfl rfl ?_
    refine xv_iconstN (pc' := 644) 3 hF xd_LW_law_643 (by decide +kernel) rfl ?_
    first | refine xv_iaddN (pc' := 645) hF xd_LW_law_644 rfl ?_ | refine xv_iadd (pc' := 645) hF xd_LW_law_644 rfl ?_
    refine xl_ld (pc' := 646) hF hX (by first | exact hv1 | exact hv2 | exact hv3 | exact hv0) (by omega) (by omega) xd_LW_law_645 rfl ?_
    refine xv_callVi (pc' := 649) (ci := 6) hF (c_MO_distanceO K n1 h (o + 37) th (ec E) w E Tg cs TX SZ SX v1 v2 v3 r (by rw [hx, Bool.false_and])) xq_MO_distance xk_LW_m89 xk_i_MO_distance xk_s_MO_distance (by first | assumption | exact xu_self | (refine (xu_ne (by omega)).trans ?_; first | assumption | exact xu_self | (refine (xu_ne (by omega)).trans ?_; first | assumption | exact xu_self | (refine (xu_ne (by omega)).trans ?_; first | assumption | exact xu_self | (refine (xu_ne (by omega)).trans ?_; first | assumption | exact xu_self))))) rfl ⟨(Nat.le_of_ble_eq_true rfl), (Nat.le_of_ble_eq_true rfl)⟩ rfl rfl (Nat.le_of_ble_eq_true rfl) ⟨(by simp only [xrm]; omega), (by simp only [xrm]; omega)⟩ xd_LW_law_646 rfl (fun r2 n2 h2 q2 => ?_)
    obtain ⟨rfl, f2, w2⟩ := q2
    rw [hx, if_neg (by decide)] at w2
    obtain ⟨⟨_, _, _, _, _, _, _, _, _, ho9'⟩, -⟩ := id w2
    have ho9 := ho9'.1
    refine xv_istore (pc' := 651) hF xd_LW_law_649 (Nat.le_of_ble_eq_true rfl) rfl rfl ?_
    refine xv_aload_n (pc' := 652) (i := 2) hF xd_LW_law_651 rfl rfl rfl ?_
    refine xv_callVi (pc' := 655) (ci := 6) hF (c_MO_thrown K n1 h2 (o + 37) 1 _ _ _ _ _ _ _ ho9) xq_MO_thrown xk_LW_m62 xk_i_MO_thrown xk_s_MO_thrown (by first | assumption | exact xu_self | (refine (xu_ne (by omega)).trans ?_; first | assumption | exact xu_self | (refine (xu_ne (by omega)).trans ?_; first | assumption | exact xu_self | (refine (xu_ne (by omega)).trans ?_; first | assumption | exact xu_self | (refine (xu_ne (by omega)).trans ?_; first | assumption | exact xu_self))))) rfl ⟨(Nat.le_of_ble_eq_true rfl), (Nat.le_of_ble_eq_true rfl)⟩ rfl rfl (Nat.le_of_ble_eq_true rfl) ⟨(by simp only [xrm]; omega), (by simp only [xrm]; omega)⟩ xd_LW_law_652 rfl (fun r9 n9 h9 q9 => ?_)
    obtain ⟨rfl, rfl, rfl⟩ := q9
    refine xv_iload (pc' := 657) hF xd_LW_law_655 rfl rfl ?_
    refine xv_icmp_eqN (pc' := 660) (tgt := 662) hF (by omega) (by omega) xd_LW_law_657 (by decide) rfl (fun e8 => ?_) (fun e8 => ?_)
    · skip
      refine xv_iload (pc' := 664) hF xd_LW_law_662 rfl rfl ?_
      refine xv_if_neN (pc' := 667) (tgt := 679) hF (by omega) xd_LW_law_664 (by decide) rfl (fun e7 => ?_) (fun e7 => ?_)
      · refine xv_goto (tgt := 955) hF xd_LW_law_679 (by decide) ?_
        refine xv_loc _ (by repeat (first | exact trivial | refine ⟨rfl, ?_⟩)) (nx _ _ _ _ mk ⟨E, Tg, cs, w, OS, SX, kn, _, TX, SZ, f, f2.dk d (Nat.le_refl _), w2, sl, he, hmk, (f2 _ (by omega)).trans hq⟩ (by omega) (by omega))
      · exact absurd e7 (by decide)
    · exact absurd rfl e8
  | true =>
    obtain ⟨s, hs, rfl⟩ := x_in_of (by decide) hx
    cases hy : (x_in v2 32 && x_in v3 32) with
    | false =>
      refine xl_callSi (pc' := 625) (nn := 5) hF hJ (c_LW_distanceT2 K n h o (o + 50) (nI s) v2 v3 _ ha (c_PD_distanceT2 K n h o s v2 v3 hs hy)) xk_c_LW_distance xk_n_LW ⟨(by decide +kernel), (by decide +kernel)⟩ (by decide +kernel) xk_LW_m87 xk_t_LW_distance ⟨(Nat.le_of_ble_eq_true rfl), (Nat.le_of_ble_eq_true rfl)⟩ rfl rfl (Nat.le_of_ble_eq_true rfl) ⟨(by show k + 1 ≤ 262836; omega), (by show kS + 6 ≤ 8307598; omega)⟩ xd_LW_law_622 rfl (fun r1 n1 h1 q1 => ?_)
      obtain ⟨rfl, hn1, rfl⟩ := q1
      have d := d.out (fun _ _ => rfl) hn1
      obtain ⟨⟨_, _, _, _, _, _, _, _, _, ho'⟩, -⟩ := id r
      have ho := ho'.1
      refine xv_istore (pc' := 627) hF xd_LW_law_625 (Nat.le_of_ble_eq_true rfl) rfl rfl ?_
      refine xv_aload_n (pc' := 628) (i := 2) hF xd_LW_law_627 rfl rfl rfl ?_
      refine xv_aload_n (pc' := 629) (i := 0) hF xd_LW_law_628 rfl rfl rfl ?_
      refine xv_iload (pc' := 631) hF xd_LW_law_629 rfl rfl ?_
      refine xv_iconstN (pc' := 632) 1 hF xd_LW_law_631 (by decide +kernel) rfl ?_
      first | refine xv_iaddN (pc' := 633) hF xd_LW_law_632 rfl ?_ | refine xv_iadd (pc' := 633) hF xd_LW_law_632 rfl ?_
      refine xl_ld (pc' := 634) hF hX (by first | exact hv1 | exact hv2 | exact hv3 | exact hv0) (by omega) (by omega) xd_LW_law_633 rfl ?_
      refine xv_aload_n (pc' := 635) (i := 0) hF xd_LW_law_634 rfl rfl rfl ?_
      refine xv_iload (pc' := 637) hF xd_LW_law_635 rfl rfl ?_
      refine xv_iconstN (pc' := 638) 2 hF xd_LW_law_637 (by decide +kernel) rfl ?_
      first | refine xv_iaddN (pc' := 639) hF xd_LW_law_638 rfl ?_ | refine xv_iadd (pc' := 639) hF xd_LW_law_638 rfl ?_
      refine xl_ld (pc' := 640) hF hX (by first | exact hv1 | exact hv2 | exact hv3 | exact hv0) (by omega) (by omega) xd_LW_law_639 rfl ?_
      refine xv_aload_n (pc' := 641) (i := 0) hF xd_LW_law_640 rfl rfl rfl ?_
      refine xv_iload (pc' := 643) hF xd_LW_law_641 rfl rfl ?_
      refine xv_iconstN (pc' := 644) 3 hF xd_LW_law_643 (by decide +kernel) rfl ?_
      first | refine xv_iaddN (pc' := 645) hF xd_LW_law_644 rfl ?_ | refine xv_iadd (pc' := 645) hF xd_LW_law_644 rfl ?_
      refine xl_ld (pc' := 646) hF hX (by first | exact hv1 | exact hv2 | exact hv3 | exact hv0) (by omega) (by omega) xd_LW_law_645 rfl ?_
      refine xv_callVi (pc' := 649) (ci := 6) hF (c_MO_distanceO K n1 h (o + 37) th (ec E) w E Tg cs TX SZ SX (nI s) v2 v3 r (by rw [hy, Bool.and_false])) xq_MO_distance xk_LW_m89 xk_i_MO_distance xk_s_MO_distance (by first | assumption | exact xu_self | (refine (xu_ne (by omega)).trans ?_; first | assumption | exact xu_self | (refine (xu_ne (by omega)).trans ?_; first | assumption | exact xu_self | (refine (xu_ne (by omega)).trans ?_; first | assumption | exact xu_self | (refine (xu_ne (by omega)).trans ?_; first | assumption | exact xu_self))))) rfl ⟨(Nat.le_of_ble_eq_true rfl), (Nat.le_of_ble_eq_true rfl)⟩ rfl rfl (Nat.le_of_ble_eq_true rfl) ⟨(by simp only [xrm]; omega), (by simp only [xrm]; omega)⟩ xd_LW_law_646 rfl (fun r2 n2 h2 q2 => ?_)
      obtain ⟨rfl, f2, w2⟩ := q2
      rw [hx, if_pos rfl] at w2
      obtain ⟨⟨_, _, _, _, _, _, _, _, _, ho9'⟩, -⟩ := id w2
      have ho9 := ho9'.1
      refine xv_istore (pc' := 651) hF xd_LW_law_649 (Nat.le_of_ble_eq_true rfl) rfl rfl ?_
      refine xv_aload_n (pc' := 652) (i := 2) hF xd_LW_law_651 rfl rfl rfl ?_
      refine xv_callVi (pc' := 655) (ci := 6) hF (c_MO_thrown K n1 h2 (o + 37) 2 _ _ _ _ _ _ _ ho9) xq_MO_thrown xk_LW_m62 xk_i_MO_thrown xk_s_MO_thrown (by first | assumption | exact xu_self | (refine (xu_ne (by omega)).trans ?_; first | assumption | exact xu_self | (refine (xu_ne (by omega)).trans ?_; first | assumption | exact xu_self | (refine (xu_ne (by omega)).trans ?_; first | assumption | exact xu_self | (refine (xu_ne (by omega)).trans ?_; first | assumption | exact xu_self))))) rfl ⟨(Nat.le_of_ble_eq_true rfl), (Nat.le_of_ble_eq_true rfl)⟩ rfl rfl (Nat.le_of_ble_eq_true rfl) ⟨(by simp only [xrm]; omega), (by simp only [xrm]; omega)⟩ xd_LW_law_652 rfl (fun r9 n9 h9 q9 => ?_)
      obtain ⟨rfl, rfl, rfl⟩ := q9
      refine xv_iload (pc' := 657) hF xd_LW_law_655 rfl rfl ?_
      refine xv_icmp_eqN (pc' := 660) (tgt := 662) hF (by omega) (by omega) xd_LW_law_657 (by decide) rfl (fun e8 => ?_) (fun e8 => ?_)
      · skip
        refine xv_iload (pc' := 664) hF xd_LW_law_662 rfl rfl ?_
        refine xv_if_neN (pc' := 667) (tgt := 679) hF (by omega) xd_LW_law_664 (by decide) rfl (fun e7 => ?_) (fun e7 => ?_)
        · refine xv_goto (tgt := 955) hF xd_LW_law_679 (by decide) ?_
          refine xv_loc _ (by repeat (first | exact trivial | refine ⟨rfl, ?_⟩)) (nx _ _ _ _ mk ⟨E, Tg, cs, w, OS, SX, kn, _, TX, SZ, f, f2.dk d (Nat.le_refl _), w2, sl, he, hmk, (f2 _ (by omega)).trans hq⟩ (by omega) (by omega))
        · exact absurd e7 (by decide)
      · exact absurd rfl e8
    | true =>
      rw [Bool.and_eq_true] at hy
      obtain ⟨a, hA, rfl⟩ := x_in_of (by decide) hy.1
      obtain ⟨c, hC, rfl⟩ := x_in_of (by decide) hy.2
      have hgd := (d.2.2.2.2.2.2.2.2.2.1 s hs).2
      have l1 := li_md_ge OS kn s mk
      have l2 := li_md_le (kn := kn) hgd hmk
      refine xl_callSi (pc' := 625) (nn := 5) hF hJ (c_LW_distance K n h o (o + 50) 7 149 _ _ (nI s) (nI a) (nI c) _ ha (c_PD_distance K n h o (ec E) w mk s (li_md OS kn s mk) E Tg cs OS SX kn a c d hs rfl hA hC) (fun v n' h' q => by obtain ⟨M, -, -, -, z4, -⟩ := q; exact ⟨f, (z4 _ (by omega) (by omega)).trans hq⟩)) xk_c_LW_distance xk_n_LW ⟨(by decide +kernel), (by decide +kernel)⟩ (by decide +kernel) xk_LW_m87 xk_t_LW_distance ⟨(Nat.le_of_ble_eq_true rfl), (Nat.le_of_ble_eq_true rfl)⟩ rfl rfl (Nat.le_of_ble_eq_true rfl) ⟨(by show k + 3 * (li_md OS kn s mk - mk) ≤ 262836; omega), (by show kS + 1058 * (li_md OS kn s mk - mk) ≤ 8307598; omega)⟩ xd_LW_law_622 rfl (fun r1 n1 h1 q1 => ?_)
      obtain ⟨rfl, v, h1', f1, ⟨M, z1, rfl, rfl, z4, z5⟩, rfl, hf1⟩ := q1
      have hq2 : (xu h1' (o + 50) (.inl (K.2.2.1 2, 1, .inr (.inl f1)))) (o + 50) = some (.inl (K.2.2.1 2, 1, .inr (.inl f1))) := xu_self
      have r2 := xu_mo (c := (.inl (K.2.2.1 2, 1, .inr (.inl f1)))) (z4.mo r)
      have d2 := xu_dk (c := (.inl (K.2.2.1 2, 1, .inr (.inl f1)))) z5
      generalize xu h1' (o + 50) (.inl (K.2.2.1 2, 1, .inr (.inl f1))) = h2 at hq2 r2 d2 ⊢
      obtain ⟨⟨_, _, _, _, _, _, _, _, _, ho'⟩, -⟩ := id r2
      have ho := ho'.1
      refine xv_istore (pc' := 627) hF xd_LW_law_625 (Nat.le_of_ble_eq_true rfl) rfl rfl ?_
      refine xv_aload_n (pc' := 628) (i := 2) hF xd_LW_law_627 rfl rfl rfl ?_
      refine xv_aload_n (pc' := 629) (i := 0) hF xd_LW_law_628 rfl rfl rfl ?_
      refine xv_iload (pc' := 631) hF xd_LW_law_629 rfl rfl ?_
      refine xv_iconstN (pc' := 632) 1 hF xd_LW_law_631 (by decide +kernel) rfl ?_
      first | refine xv_iaddN (pc' := 633) hF xd_LW_law_632 rfl ?_ | refine xv_iadd (pc' := 633) hF xd_LW_law_632 rfl ?_
      refine xl_ld (pc' := 634) hF hX (by first | exact hv1 | exact hv2 | exact hv3 | exact hv0) (by omega) (by omega) xd_LW_law_633 rfl ?_
      refine xv_aload_n (pc' := 635) (i := 0) hF xd_LW_law_634 rfl rfl rfl ?_
      refine xv_iload (pc' := 637) hF xd_LW_law_635 rfl rfl ?_
      refine xv_iconstN (pc' := 638) 2 hF xd_LW_law_637 (by decide +kernel) rfl ?_
      first | refine xv_iaddN (pc' := 639) hF xd_LW_law_638 rfl ?_ | refine xv_iadd (pc' := 639) hF xd_LW_law_638 rfl ?_
      refine xl_ld (pc' := 640) hF hX (by first | exact hv1 | exact hv2 | exact hv3 | exact hv0) (by omega) (by omega) xd_LW_law_639 rfl ?_
      refine xv_aload_n (pc' := 641) (i := 0) hF xd_LW_law_640 rfl rfl rfl ?_
      refine xv_iload (pc' := 643) hF xd_LW_law_641 rfl rfl ?_
      refine xv_iconstN (pc' := 644) 3 hF xd_LW_law_643 (by decide +kernel) rfl ?_
      first | refine xv_iaddN (pc' := 645) hF xd_LW_law_644 rfl ?_ | refine xv_iadd (pc' := 645) hF xd_LW_law_644 rfl ?_
      refine xl_ld (pc' := 646) hF hX (by first | exact hv1 | exact hv2 | exact hv3 | exact hv0) (by omega) (by omega) xd_LW_law_645 rfl ?_
      refine xv_callVi (pc' := 649) (ci := 6) hF (c_MO_distance K _ h2 (o + 37) th (ec E) w E Tg cs TX SZ SX s (OS s) a c r2 hs (sl s hs) hA hC) xq_MO_distance xk_LW_m89 xk_i_MO_distance xk_s_MO_distance (by first | assumption | exact xu_self | (refine (xu_ne (by omega)).trans ?_; first | assumption | exact xu_self | (refine (xu_ne (by omega)).trans ?_; first | assumption | exact xu_self | (refine (xu_ne (by omega)).trans ?_; first | assumption | exact xu_self | (refine (xu_ne (by omega)).trans ?_; first | assumption | exact xu_self))))) rfl ⟨(Nat.le_of_ble_eq_true rfl), (Nat.le_of_ble_eq_true rfl)⟩ rfl rfl (Nat.le_of_ble_eq_true rfl) ⟨(by simp only [xrm]; omega), (by simp only [xrm]; omega)⟩ xd_LW_law_646 rfl (fun r3 n3 h3 q3 => ?_)
      obtain ⟨rfl, f3, w3, M', m1, rfl⟩ := q3
      have m1 : pd_mn (bx_ak E Tg (OS s) (OS s).length 0) M' := m1
      have hq3 : h3 (o + 50) = some (.inl (K.2.2.1 2, 1, .inr (.inl f1))) := (f3 _ (by omega)).trans hq2
      obtain ⟨⟨_, _, _, _, _, _, _, _, _, ho9'⟩, -⟩ := id w3
      have ho9 := ho9'.1
      refine xv_istore (pc' := 651) hF xd_LW_law_649 (Nat.le_of_ble_eq_true rfl) rfl rfl ?_
      refine xv_aload_n (pc' := 652) (i := 2) hF xd_LW_law_651 rfl rfl rfl ?_
      refine xv_callVi (pc' := 655) (ci := 6) hF (c_MO_thrown K _ h3 (o + 37) 0 _ _ _ _ _ _ _ ho9) xq_MO_thrown xk_LW_m62 xk_i_MO_thrown xk_s_MO_thrown (by first | assumption | exact xu_self | (refine (xu_ne (by omega)).trans ?_; first | assumption | exact xu_self | (refine (xu_ne (by omega)).trans ?_; first | assumption | exact xu_self | (refine (xu_ne (by omega)).trans ?_; first | assumption | exact xu_self | (refine (xu_ne (by omega)).trans ?_; first | assumption | exact xu_self))))) rfl ⟨(Nat.le_of_ble_eq_true rfl), (Nat.le_of_ble_eq_true rfl)⟩ rfl rfl (Nat.le_of_ble_eq_true rfl) ⟨(by simp only [xrm]; omega), (by simp only [xrm]; omega)⟩ xd_LW_law_652 rfl (fun r9 n9 h9 q9 => ?_)
      obtain ⟨rfl, rfl, rfl⟩ := q9
      refine xv_iload (pc' := 657) hF xd_LW_law_655 rfl rfl ?_
      refine xv_icmp_eqN (pc' := 660) (tgt := 662) hF (by omega) (by omega) xd_LW_law_657 (by decide) rfl (fun e8 => ?_) (fun e8 => ?_)
      · skip
        refine xv_iload (pc' := 664) hF xd_LW_law_662 rfl rfl ?_
        refine xv_if_neN (pc' := 667) (tgt := 679) hF (by omega) xd_LW_law_664 (by decide) rfl (fun e7 => ?_) (fun e7 => ?_)
        · exact absurd e7 (by decide)
        · refine xv_aload_n (pc' := 668) (i := 3) hF xd_LW_law_667 rfl rfl rfl ?_
          refine xv_iconstN (pc' := 669) 0 hF xd_LW_law_668 (by decide +kernel) rfl ?_
          refine xv_laldN (pc' := 670) hF (by first | assumption | exact xu_self | (refine (xu_ne (by omega)).trans ?_; first | assumption | exact xu_self | (refine (xu_ne (by omega)).trans ?_; first | assumption | exact xu_self | (refine (xu_ne (by omega)).trans ?_; first | assumption | exact xu_self | (refine (xu_ne (by omega)).trans ?_; first | assumption | exact xu_self))))) (by omega) (by decide) xd_LW_law_669 rfl ?_
          refine xv_iload (pc' := 672) hF xd_LW_law_670 rfl rfl ?_
          refine xv_i2l (pc' := 673) hF xd_LW_law_672 rfl rfl ?_
          refine xv_lcmp (pc' := 674) hF xd_LW_law_673 rfl ?_
          refine xv_if_eq (pc' := 677) (tgt := 679) hF xd_LW_law_674 (by decide) rfl (fun e6 => ?_) (fun e6 => ?_)
          · refine xv_goto (tgt := 955) hF xd_LW_law_679 (by decide) ?_
            exact xv_loc _ (by repeat (first | exact trivial | refine ⟨rfl, ?_⟩)) (nx _ _ _ _ (li_md OS kn s mk) ⟨E, Tg, cs, w, OS, SX, _, _, TX, SZ, f1, f3.dk d2 (Nat.le_refl _), w3, sl, he, l2, hq3⟩ (by omega) (by omega))
          · exact absurd ((lg_cmp_eq _ _).mpr (by rw [hf1, pd_mn_uniq z1 m1 hA hC])) e6
      · exact absurd rfl e8
set_option maxHeartbeats 4000000 in
set_option maxRecDepth 100000 in
theorem lc_reach {G : xG} {K : xK} {o b i t N n k kS mk : Nat} {h : xH} {xs : Nat → Int32} {v1 v2 v3 : Int32} (hF : XF G K xc_LW_law xr_LW (xrm 11 398 262836 8307598) 7) (hJ : XJ G K) (hX : XS G b N xs) (hN : N ≤ 2048) (hi : i + 4 ≤ N) (ht : t < 512) (hv1 : xs (i + 1) = v1) (hv2 : xs (i + 2) = v2) (hv3 : xs (i + 3) = v3) (hI : LI K o n h mk) (hk : k ≤ 51 + 3 * mk + t) (hkS : kS ≤ 58759 + 1058 * mk + 6 * t) (nx : LN G K o b i t) : XV G k kS 506 [(4, .int (nI i)), (0, .ref b), (1, .ref o), (2, .ref (o + 37)), (3, .ref (o + 50))] [] n h := by
  obtain ⟨E, Tg, cs, w, OS, SX, kn, th, TX, SZ, f, d, r, sl, he, hmk, hq⟩ := hI
  have ha := d.1
  by_cases hz : v3 = 0
  · refine xv_aload_n (pc' := 507) (i := 1) hF xd_LW_law_506 rfl rfl rfl ?_
    refine xv_aload_n (pc' := 508) (i := 0) hF xd_LW_law_507 rfl rfl rfl ?_
    refine xv_iload (pc' := 510) hF xd_LW_law_508 rfl rfl ?_
    refine xv_iconstN (pc' := 511) 1 hF xd_LW_law_510 (by decide +kernel) rfl ?_
    first | refine xv_iaddN (pc' := 512) hF xd_LW_law_511 rfl ?_ | refine xv_iadd (pc' := 512) hF xd_LW_law_511 rfl ?_
    refine xl_ld (pc' := 513) hF hX (by first | exact hv1 | exact hv2 | exact hv3 | exact hv0) (by omega) (by omega) xd_LW_law_512 rfl ?_
    refine xv_aload_n (pc' := 514) (i := 0) hF xd_LW_law_513 rfl rfl rfl ?_
    refine xv_iload (pc' := 516) hF xd_LW_law_514 rfl rfl ?_
    refine xv_iconstN (pc' := 517) 2 hF xd_LW_law_516 (by decide +kernel) rfl ?_
    first | refine xv_iaddN (pc' := 518) hF xd_LW_law_517 rfl ?_ | refine xv_iadd (pc' := 518) hF xd_LW_law_517 rfl ?_
    refine xl_ld (pc' := 519) hF hX (by first | exact hv1 | exact hv2 | exact hv3 | exact hv0) (by omega) (by omega) xd_LW_law_518 rfl ?_
    refine xv_aload_n (pc' := 520) (i := 0) hF xd_LW_law_519 rfl rfl rfl ?_
    refine xv_iload (pc' := 522) hF xd_LW_law_520 rfl rfl ?_
    refine xv_iconstN (pc' := 523) 3 hF xd_LW_law_522 (by decide +kernel) rfl ?_
    first | refine xv_iaddN (pc' := 524) hF xd_LW_law_523 rfl ?_ | refine xv_iadd (pc' := 524) hF xd_LW_law_523 rfl ?_
    refine xl_ld (pc' := 525) hF hX (by first | exact hv1 | exact hv2 | exact hv3 | exact hv0) (by omega) (by omega) xd_LW_law_524 rfl ?_
    refine xv_if_eqT (tgt := 532) hF hz xd_LW_law_525 (by decide) ?_
    refine xv_iconstN (pc' := 533) 0 hF xd_LW_law_532 (by decide +kernel) rfl ?_
    refine xv_topi (v' := xb false) (by decide +kernel) ?_
    refine xv_aload_n (pc' := 534) (i := 3) hF xd_LW_law_533 rfl rfl rfl ?_
    cases hx : x_in v1 4 with
    | false =>
      refine xl_callSi (pc' := 537) (nn := 5) hF hJ (c_LW_reachT1 K n h o (o + 50) v1 v2 (xb false) _ ha (c_PD_reachT1 K n h o v1 v2 (xb false) hx)) xk_c_LW_reach xk_n_LW ⟨(by decide +kernel), (by decide +kernel)⟩ (by decide +kernel) xk_LW_m83 xk_t_LW_reach ⟨(Nat.le_of_ble_eq_true rfl), (Nat.le_of_ble_eq_true rfl)⟩ rfl rfl (Nat.le_of_ble_eq_true rfl) ⟨(by show k + 1 ≤ 262836; omega), (by show kS + 6 ≤ 8307598; omega)⟩ xd_LW_law_534 rfl (fun r1 n1 h1 q1 => ?_)
      obtain ⟨rfl, hn1, rfl⟩ := q1
      have d := d.out (fun _ _ => rfl) hn1
      obtain ⟨⟨_, _, _, _, _, _, _, _, _, ho'⟩, -⟩ := id r
      have ho := ho'.1
      refine xv_istore (pc' := 539) hF xd_LW_law_537 (Nat.le_of_ble_eq_true rfl) rfl rfl ?_
      refine xv_aload_n (pc' := 540) (i := 2) hF xd_LW_law_539 rfl rfl rfl ?_
      refine xv_aload_n (pc' := 541) (i := 0) hF xd_LW_law_540 rfl rfl rfl ?_
      refine xv_iload (pc' := 543) hF xd_LW_law_541 rfl rfl ?_
      refine xv_iconstN (pc' := 544) 1 hF xd_LW_law_543 (by decide +kernel) rfl ?_
      first | refine xv_iaddN (pc' := 545) hF xd_LW_law_544 rfl ?_ | refine xv_iadd (pc' := 545) hF xd_LW_law_544 rfl ?_
      refine xl_ld (pc' := 546) hF hX (by first | exact hv1 | exact hv2 | exact hv3 | exact hv0) (by omega) (by omega) xd_LW_law_545 rfl ?_
      refine xv_aload_n (pc' := 547) (i := 0) hF xd_LW_law_546 rfl rfl rfl ?_
      refine xv_iload (pc' := 549) hF xd_LW_law_547 rfl rfl ?_
      refine xv_iconstN (pc' := 550) 2 hF xd_LW_law_549 (by decide +kernel) rfl ?_
      first | refine xv_iaddN (pc' := 551) hF xd_LW_law_550 rfl ?_ | refine xv_iadd (pc' := 551) hF xd_LW_law_550 rfl ?_
      refine xl_ld (pc' := 552) hF hX (by first | exact hv1 | exact hv2 | exact hv3 | exact hv0) (by omega) (by omega) xd_LW_law_551 rfl ?_
      refine xv_aload_n (pc' := 553) (i := 0) hF xd_LW_law_552 rfl rfl rfl ?_
      refine xv_iload (pc' := 555) hF xd_LW_law_553 rfl rfl ?_
      refine xv_iconstN (pc' := 556) 3 hF xd_LW_law_555 (by decide +kernel) rfl ?_
      first | refine xv_iaddN (pc' := 557) hF xd_LW_law_556 rfl ?_ | refine xv_iadd (pc' := 557) hF xd_LW_law_556 rfl ?_
      refine xl_ld (pc' := 558) hF hX (by first | exact hv1 | exact hv2 | exact hv3 | exact hv0) (by omega) (by omega) xd_LW_law_557 rfl ?_
      refine xv_if_eqT (tgt := 565) hF hz xd_LW_law_558 (by decide) ?_
      refine xv_iconstN (pc' := 566) 0 hF xd_LW_law_565 (by decide +kernel) rfl ?_
      refine xv_topi (v' := xb false) (by decide +kernel) ?_
      refine xv_callVi (pc' := 569) (ci := 6) hF (c_MO_reachO K n1 h (o + 37) th (ec E) w E Tg cs TX SZ SX v1 v2 false r (by rw [hx, Bool.false_and])) xq_MO_reach xk_LW_m86 xk_i_MO_reach xk_s_MO_reach (by first | assumption | exact xu_self | (refine (xu_ne (by omega)).trans ?_; first | assumption | exact xu_self | (refine (xu_ne (by omega)).trans ?_; first | assumption | exact xu_self | (refine (xu_ne (by omega)).trans ?_; first | assumption | exact xu_self | (refine (xu_ne (by omega)).trans ?_; first | assumption | exact xu_self))))) rfl ⟨(Nat.le_of_ble_eq_true rfl), (Nat.le_of_ble_eq_true rfl)⟩ rfl rfl (Nat.le_of_ble_eq_true rfl) ⟨(by simp only [xrm]; omega), (by simp only [xrm]; omega)⟩ xd_LW_law_566 rfl (fun r2 n2 h2 q2 => ?_)
      obtain ⟨rfl, f2, w2⟩ := q2
      rw [hx, if_neg (by decide)] at w2
      obtain ⟨⟨_, _, _, _, _, _, _, _, _, ho9'⟩, -⟩ := id w2
      have ho9 := ho9'.1
      refine xv_istore (pc' := 571) hF xd_LW_law_569 (Nat.le_of_ble_eq_true rfl) rfl rfl ?_
      refine xv_aload_n (pc' := 572) (i := 2) hF xd_LW_law_571 rfl rfl rfl ?_
      refine xv_callVi (pc' := 575) (ci := 6) hF (c_MO_thrown K n1 h2 (o + 37) 1 _ _ _ _ _ _ _ ho9) xq_MO_thrown xk_LW_m62 xk_i_MO_thrown xk_s_MO_thrown (by first | assumption | exact xu_self | (refine (xu_ne (by omega)).trans ?_; first | assumption | exact xu_self | (refine (xu_ne (by omega)).trans ?_; first | assumption | exact xu_self | (refine (xu_ne (by omega)).trans ?_; first | assumption | exact xu_self | (refine (xu_ne (by omega)).trans ?_; first | assumption | exact xu_self))))) rfl ⟨(Nat.le_of_ble_eq_true rfl), (Nat.le_of_ble_eq_true rfl)⟩ rfl rfl (Nat.le_of_ble_eq_true rfl) ⟨(by simp only [xrm]; omega), (by simp only [xrm]; omega)⟩ xd_LW_law_572 rfl (fun r9 n9 h9 q9 => ?_)
      obtain ⟨rfl, rfl, rfl⟩ := q9
      refine xv_iload (pc' := 577) hF xd_LW_law_575 rfl rfl ?_
      refine xv_icmp_eqN (pc' := 580) (tgt := 582) hF (by omega) (by omega) xd_LW_law_577 (by decide) rfl (fun e8 => ?_) (fun e8 => ?_)
      · skip
        refine xv_iload (pc' := 584) hF xd_LW_law_582 rfl rfl ?_
        refine xv_if_neN (pc' := 587) (tgt := 599) hF (by omega) xd_LW_law_584 (by decide) rfl (fun e7 => ?_) (fun e7 => ?_)
        · refine xv_goto (tgt := 955) hF xd_LW_law_599 (by decide) ?_
          refine xv_loc _ (by repeat (first | exact trivial | refine ⟨rfl, ?_⟩)) (nx _ _ _ _ mk ⟨E, Tg, cs, w, OS, SX, kn, _, TX, SZ, f, f2.dk d (Nat.le_refl _), w2, sl, he, hmk, (f2 _ (by omega)).trans hq⟩ (by omega) (by omega))
        · exact absurd e7 (by decide)
      · exact absurd rfl e8
    | true =>
      obtain ⟨s, hs, rfl⟩ := x_in_of (by decide) hx
      cases hy : x_in v2 32 with
      | false =>
        refine xl_callSi (pc' := 537) (nn := 5) hF hJ (c_LW_reachT2 K n h o (o + 50) (nI s) v2 (xb false) _ ha (c_PD_reachT2 K n h o s v2 (xb false) hs hy)) xk_c_LW_reach xk_n_LW ⟨(by decide +kernel), (by decide +kernel)⟩ (by decide +kernel) xk_LW_m83 xk_t_LW_reach ⟨(Nat.le_of_ble_eq_true rfl), (Nat.le_of_ble_eq_true rfl)⟩ rfl rfl (Nat.le_of_ble_eq_true rfl) ⟨(by show k + 1 ≤ 262836; omega), (by show kS + 6 ≤ 8307598; omega)⟩ xd_LW_law_534 rfl (fun r1 n1 h1 q1 => ?_)
        obtain ⟨rfl, hn1, rfl⟩ := q1
        have d := d.out (fun _ _ => rfl) hn1
        obtain ⟨⟨_, _, _, _, _, _, _, _, _, ho'⟩, -⟩ := id r
        have ho := ho'.1
        refine xv_istore (pc' := 539) hF xd_LW_law_537 (Nat.le_of_ble_eq_true rfl) rfl rfl ?_
        refine xv_aload_n (pc' := 540) (i := 2) hF xd_LW_law_539 rfl rfl rfl ?_
        refine xv_aload_n (pc' := 541) (i := 0) hF xd_LW_law_540 rfl rfl rfl ?_
        refine xv_iload (pc' := 543) hF xd_LW_law_541 rfl rfl ?_
        refine xv_iconstN (pc' := 544) 1 hF xd_LW_law_543 (by decide +kernel) rfl ?_
        first | refine xv_iaddN (pc' := 545) hF xd_LW_law_544 rfl ?_ | refine xv_iadd (pc' := 545) hF xd_LW_law_544 rfl ?_
        refine xl_ld (pc' := 546) hF hX (by first | exact hv1 | exact hv2 | exact hv3 | exact hv0) (by omega) (by omega) xd_LW_law_545 rfl ?_
        refine xv_aload_n (pc' := 547) (i := 0) hF xd_LW_law_546 rfl rfl rfl ?_
        refine xv_iload (pc' := 549) hF xd_LW_law_547 rfl rfl ?_
        refine xv_iconstN (pc' := 550) 2 hF xd_LW_law_549 (by decide +kernel) rfl ?_
        first | refine xv_iaddN (pc' := 551) hF xd_LW_law_550 rfl ?_ | refine xv_iadd (pc' := 551) hF xd_LW_law_550 rfl ?_
        refine xl_ld (pc' := 552) hF hX (by first | exact hv1 | exact hv2 | exact hv3 | exact hv0) (by omega) (by omega) xd_LW_law_551 rfl ?_
        refine xv_aload_n (pc' := 553) (i := 0) hF xd_LW_law_552 rfl rfl rfl ?_
        refine xv_iload (pc' := 555) hF xd_LW_law_553 rfl rfl ?_
        refine xv_iconstN (pc' := 556) 3 hF xd_LW_law_555 (by decide +kernel) rfl ?_
        first | refine xv_iaddN (pc' := 557) hF xd_LW_law_556 rfl ?_ | refine xv_iadd (pc' := 557) hF xd_LW_law_556 rfl ?_
        refine xl_ld (pc' := 558) hF hX (by first | exact hv1 | exact hv2 | exact hv3 | exact hv0) (by omega) (by omega) xd_LW_law_557 rfl ?_
        refine xv_if_eqT (tgt := 565) hF hz xd_LW_law_558 (by decide) ?_
        refine xv_iconstN (pc' := 566) 0 hF xd_LW_law_565 (by decide +kernel) rfl ?_
        refine xv_topi (v' := xb false) (by decide +kernel) ?_
        refine xv_callVi (pc' := 569) (ci := 6) hF (c_MO_reachO K n1 h (o + 37) th (ec E) w E Tg cs TX SZ SX (nI s) v2 false r (by rw [hy, Bool.and_false])) xq_MO_reach xk_LW_m86 xk_i_MO_reach xk_s_MO_reach (by first | assumption | exact xu_self | (refine (xu_ne (by omega)).trans ?_; first | assumption | exact xu_self | (refine (xu_ne (by omega)).trans ?_; first | assumption | exact xu_self | (refine (xu_ne (by omega)).trans ?_; first | assumption | exact xu_self | (refine (xu_ne (by omega)).trans ?_; first | assumption | exact xu_self))))) rfl ⟨(Nat.le_of_ble_eq_true rfl), (Nat.le_of_ble_eq_true rfl)⟩ rfl rfl (Nat.le_of_ble_eq_true rfl) ⟨(by simp only [xrm]; omega), (by simp only [xrm]; omega)⟩ xd_LW_law_566 rfl (fun r2 n2 h2 q2 => ?_)
        obtain ⟨rfl, f2, w2⟩ := q2
        rw [hx, if_pos rfl] at w2
        obtain ⟨⟨_, _, _, _, _, _, _, _, _, ho9'⟩, -⟩ := id w2
        have ho9 := ho9'.1
        refine xv_istore (pc' := 571) hF xd_LW_law_569 (Nat.le_of_ble_eq_true rfl) rfl rfl ?_
        refine xv_aload_n (pc' := 572) (i := 2) hF xd_LW_law_571 rfl rfl rfl ?_
        refine xv_callVi (pc' := 575) (ci := 6) hF (c_MO_thrown K n1 h2 (o + 37) 2 _ _ _ _ _ _ _ ho9) xq_MO_thrown xk_LW_m62 xk_i_MO_thrown xk_s_MO_thrown (by first | assumption | exact xu_self | (refine (xu_ne (by omega)).trans ?_; first | assumption | exact xu_self | (refine (xu_ne (by omega)).trans ?_; first | assumption | exact xu_self | (refine (xu_ne (by omega)).trans ?_; first | assumption | exact xu_self | (refine (xu_ne (by omega)).trans ?_; first | assumption | exact xu_self))))) rfl ⟨(Nat.le_of_ble_eq_true rfl), (Nat.le_of_ble_eq_true rfl)⟩ rfl rfl (Nat.le_of_ble_eq_true rfl) ⟨(by simp only [xrm]; omega), (by simp only [xrm]; omega)⟩ xd_LW_law_572 rfl (fun r9 n9 h9 q9 => ?_)
        obtain ⟨rfl, rfl, rfl⟩ := q9
        refine xv_iload (pc' := 577) hF xd_LW_law_575 rfl rfl ?_
        refine xv_icmp_eqN (pc' := 580) (tgt := 582) hF (by omega) (by omega) xd_LW_law_577 (by decide) rfl (fun e8 => ?_) (fun e8 => ?_)
        · skip
          refine xv_iload (pc' := 584) hF xd_LW_law_582 rfl rfl ?_
          refine xv_if_neN (pc' := 587) (tgt := 599) hF (by omega) xd_LW_law_584 (by decide) rfl (fun e7 => ?_) (fun e7 => ?_)
          · refine xv_goto (tgt := 955) hF xd_LW_law_599 (by decide) ?_
            refine xv_loc _ (by repeat (first | exact trivial | refine ⟨rfl, ?_⟩)) (nx _ _ _ _ mk ⟨E, Tg, cs, w, OS, SX, kn, _, TX, SZ, f, f2.dk d (Nat.le_refl _), w2, sl, he, hmk, (f2 _ (by omega)).trans hq⟩ (by omega) (by omega))
          · exact absurd e7 (by decide)
        · exact absurd rfl e8
      | true =>
        obtain ⟨a, hA, rfl⟩ := x_in_of (by decide) hy
        have hgd := (d.2.2.2.2.2.2.2.2.2.1 s hs).2
        have l1 := li_md_ge OS kn s mk
        have l2 := li_md_le (kn := kn) hgd hmk
        refine xl_callSi (pc' := 537) (nn := 5) hF hJ (c_LW_reach K n h o (o + 50) 7 149 _ _ (nI s) (nI a) (xb false) _ ha (c_PD_reach K n h o (ec E) w mk s (li_md OS kn s mk) E Tg cs OS SX kn a false d hs rfl hA) (fun v n' h' q => by obtain ⟨M, -, -, -, z4, -⟩ := q; exact ⟨f, (z4 _ (by omega) (by omega)).trans hq⟩)) xk_c_LW_reach xk_n_LW ⟨(by decide +kernel), (by decide +kernel)⟩ (by decide +kernel) xk_LW_m83 xk_t_LW_reach ⟨(Nat.le_of_ble_eq_true rfl), (Nat.le_of_ble_eq_true rfl)⟩ rfl rfl (Nat.le_of_ble_eq_true rfl) ⟨(by show k + 3 * (li_md OS kn s mk - mk) ≤ 262836; omega), (by show kS + 1058 * (li_md OS kn s mk - mk) ≤ 8307598; omega)⟩ xd_LW_law_534 rfl (fun r1 n1 h1 q1 => ?_)
        obtain ⟨rfl, v, h1', f1, ⟨M, z1, z2, rfl, z4, z5⟩, rfl, hf1⟩ := q1
        have hq2 : (xu h1' (o + 50) (.inl (K.2.2.1 2, 1, .inr (.inl f1)))) (o + 50) = some (.inl (K.2.2.1 2, 1, .inr (.inl f1))) := xu_self
        have r2 := xu_mo (c := (.inl (K.2.2.1 2, 1, .inr (.inl f1)))) (z4.mo r)
        have d2 := xu_dk (c := (.inl (K.2.2.1 2, 1, .inr (.inl f1)))) z5
        generalize xu h1' (o + 50) (.inl (K.2.2.1 2, 1, .inr (.inl f1))) = h2 at hq2 r2 d2 ⊢
        obtain ⟨⟨_, _, _, _, _, _, _, _, _, ho'⟩, -⟩ := id r2
        have ho := ho'.1
        refine xv_istore (pc' := 539) hF xd_LW_law_537 (Nat.le_of_ble_eq_true rfl) rfl rfl ?_
        refine xv_aload_n (pc' := 540) (i := 2) hF xd_LW_law_539 rfl rfl rfl ?_
        refine xv_aload_n (pc' := 541) (i := 0) hF xd_LW_law_540 rfl rfl rfl ?_
        refine xv_iload (pc' := 543) hF xd_LW_law_541 rfl rfl ?_
        refine xv_iconstN (pc' := 544) 1 hF xd_LW_law_543 (by decide +kernel) rfl ?_
        first | refine xv_iaddN (pc' := 545) hF xd_LW_law_544 rfl ?_ | refine xv_iadd (pc' := 545) hF xd_LW_law_544 rfl ?_
        refine xl_ld (pc' := 546) hF hX (by first | exact hv1 | exact hv2 | exact hv3 | exact hv0) (by omega) (by omega) xd_LW_law_545 rfl ?_
        refine xv_aload_n (pc' := 547) (i := 0) hF xd_LW_law_546 rfl rfl rfl ?_
        refine xv_iload (pc' := 549) hF xd_LW_law_547 rfl rfl ?_
        refine xv_iconstN (pc' := 550) 2 hF xd_LW_law_549 (by decide +kernel) rfl ?_
        first | refine xv_iaddN (pc' := 551) hF xd_LW_law_550 rfl ?_ | refine xv_iadd (pc' := 551) hF xd_LW_law_550 rfl ?_
        refine xl_ld (pc' := 552) hF hX (by first | exact hv1 | exact hv2 | exact hv3 | exact hv0) (by omega) (by omega) xd_LW_law_551 rfl ?_
        refine xv_aload_n (pc' := 553) (i := 0) hF xd_LW_law_552 rfl rfl rfl ?_
        refine xv_iload (pc' := 555) hF xd_LW_law_553 rfl rfl ?_
        refine xv_iconstN (pc' := 556) 3 hF xd_LW_law_555 (by decide +kernel) rfl ?_
        first | refine xv_iaddN (pc' := 557) hF xd_LW_law_556 rfl ?_ | refine xv_iadd (pc' := 557) hF xd_LW_law_556 rfl ?_
        refine xl_ld (pc' := 558) hF hX (by first | exact hv1 | exact hv2 | exact hv3 | exact hv0) (by omega) (by omega) xd_LW_law_557 rfl ?_
        refine xv_if_eqT (tgt := 565) hF hz xd_LW_law_558 (by decide) ?_
        refine xv_iconstN (pc' := 566) 0 hF xd_LW_law_565 (by decide +kernel) rfl ?_
        refine xv_topi (v' := xb false) (by decide +kernel) ?_
        refine xv_callVi (pc' := 569) (ci := 6) hF (c_MO_reach K _ h2 (o + 37) th (ec E) w E Tg cs TX SZ SX s (OS s) a false r2 hs (sl s hs) hA) xq_MO_reach xk_LW_m86 xk_i_MO_reach xk_s_MO_reach (by first | assumption | exact xu_self | (refine (xu_ne (by omega)).trans ?_; first | assumption | exact xu_self | (refine (xu_ne (by omega)).trans ?_; first | assumption | exact xu_self | (refine (xu_ne (by omega)).trans ?_; first | assumption | exact xu_self | (refine (xu_ne (by omega)).trans ?_; first | assumption | exact xu_self))))) rfl ⟨(Nat.le_of_ble_eq_true rfl), (Nat.le_of_ble_eq_true rfl)⟩ rfl rfl (Nat.le_of_ble_eq_true rfl) ⟨(by simp only [xrm]; omega), (by simp only [xrm]; omega)⟩ xd_LW_law_566 rfl (fun r3 n3 h3 q3 => ?_)
        obtain ⟨rfl, f3, w3, M', m1, m2⟩ := q3
        have m1 : pd_mn (bx_ak E Tg (OS s) (OS s).length 0) M' := m1
        have hq3 : h3 (o + 50) = some (.inl (K.2.2.1 2, 1, .inr (.inl f1))) := (f3 _ (by omega)).trans hq2
        obtain ⟨⟨_, _, _, _, _, _, _, _, _, ho9'⟩, -⟩ := id w3
        have ho9 := ho9'.1
        refine xv_istore (pc' := 571) hF xd_LW_law_569 (Nat.le_of_ble_eq_true rfl) rfl rfl ?_
        refine xv_aload_n (pc' := 572) (i := 2) hF xd_LW_law_571 rfl rfl rfl ?_
        refine xv_callVi (pc' := 575) (ci := 6) hF (c_MO_thrown K _ h3 (o + 37) 0 _ _ _ _ _ _ _ ho9) xq_MO_thrown xk_LW_m62 xk_i_MO_thrown xk_s_MO_thrown (by first | assumption | exact xu_self | (refine (xu_ne (by omega)).trans ?_; first | assumption | exact xu_self | (refine (xu_ne (by omega)).trans ?_; first | assumption | exact xu_self | (refine (xu_ne (by omega)).trans ?_; first | assumption | exact xu_self | (refine (xu_ne (by omega)).trans ?_; first | assumption | exact xu_self))))) rfl ⟨(Nat.le_of_ble_eq_true rfl), (Nat.le_of_ble_eq_true rfl)⟩ rfl rfl (Nat.le_of_ble_eq_true rfl) ⟨(by simp only [xrm]; omega), (by simp only [xrm]; omega)⟩ xd_LW_law_572 rfl (fun r9 n9 h9 q9 => ?_)
        obtain ⟨rfl, rfl, rfl⟩ := q9
        refine xv_iload (pc' := 577) hF xd_LW_law_575 rfl rfl ?_
        refine xv_icmp_eqN (pc' := 580) (tgt := 582) hF (by omega) (by omega) xd_LW_law_577 (by decide) rfl (fun e8 => ?_) (fun e8 => ?_)
        · skip
          refine xv_iload (pc' := 584) hF xd_LW_law_582 rfl rfl ?_
          refine xv_if_neN (pc' := 587) (tgt := 599) hF (by omega) xd_LW_law_584 (by decide) rfl (fun e7 => ?_) (fun e7 => ?_)
          · exact absurd e7 (by decide)
          · refine xv_aload_n (pc' := 588) (i := 3) hF xd_LW_law_587 rfl rfl rfl ?_
            refine xv_iconstN (pc' := 589) 0 hF xd_LW_law_588 (by decide +kernel) rfl ?_
            refine xv_laldN (pc' := 590) hF (by first | assumption | exact xu_self | (refine (xu_ne (by omega)).trans ?_; first | assumption | exact xu_self | (refine (xu_ne (by omega)).trans ?_; first | assumption | exact xu_self | (refine (xu_ne (by omega)).trans ?_; first | assumption | exact xu_self | (refine (xu_ne (by omega)).trans ?_; first | assumption | exact xu_self))))) (by omega) (by decide) xd_LW_law_589 rfl ?_
            refine xv_iload (pc' := 592) hF xd_LW_law_590 rfl rfl ?_
            refine xv_i2l (pc' := 593) hF xd_LW_law_592 rfl rfl ?_
            refine xv_lcmp (pc' := 594) hF xd_LW_law_593 rfl ?_
            refine xv_if_eq (pc' := 597) (tgt := 599) hF xd_LW_law_594 (by decide) rfl (fun e6 => ?_) (fun e6 => ?_)
            · refine xv_goto (tgt := 955) hF xd_LW_law_599 (by decide) ?_
              exact xv_loc _ (by repeat (first | exact trivial | refine ⟨rfl, ?_⟩)) (nx _ _ _ _ (li_md OS kn s mk) ⟨E, Tg, cs, w, OS, SX, _, _, TX, SZ, f1, f3.dk d2 (Nat.le_refl _), w3, sl, he, l2, hq3⟩ (by omega) (by omega))
            · exact absurd ((lg_cmp_eq _ _).mpr (by rw [hf1, reach_u hA (fun i j hi hj => pd_mn_uniq z1 m1 hi hj) z2 m2])) e6
        · exact absurd rfl e8
  · refine xv_aload_n (pc' := 507) (i := 1) hF xd_LW_law_506 rfl rfl rfl ?_
    refine xv_aload_n (pc' := 508) (i := 0) hF xd_LW_law_507 rfl rfl rfl ?_
    refine xv_iload (pc' := 510) hF xd_LW_law_508 rfl rfl ?_
    refine xv_iconstN (pc' := 511) 1 hF xd_LW_law_510 (by decide +kernel) rfl ?_
    first | refine xv_iaddN (pc' := 512) hF xd_LW_law_511 rfl ?_ | refine xv_iadd (pc' := 512) hF xd_LW_law_511 rfl ?_
    refine xl_ld (pc' := 513) hF hX (by first | exact hv1 | exact hv2 | exact hv3 | exact hv0) (by omega) (by omega) xd_LW_law_512 rfl ?_
    refine xv_aload_n (pc' := 514) (i := 0) hF xd_LW_law_513 rfl rfl rfl ?_
    refine xv_iload (pc' := 516) hF xd_LW_law_514 rfl rfl ?_
    refine xv_iconstN (pc' := 517) 2 hF xd_LW_law_516 (by decide +kernel) rfl ?_
    first | refine xv_iaddN (pc' := 518) hF xd_LW_law_517 rfl ?_ | refine xv_iadd (pc' := 518) hF xd_LW_law_517 rfl ?_
    refine xl_ld (pc' := 519) hF hX (by first | exact hv1 | exact hv2 | exact hv3 | exact hv0) (by omega) (by omega) xd_LW_law_518 rfl ?_
    refine xv_aload_n (pc' := 520) (i := 0) hF xd_LW_law_519 rfl rfl rfl ?_
    refine xv_iload (pc' := 522) hF xd_LW_law_520 rfl rfl ?_
    refine xv_iconstN (pc' := 523) 3 hF xd_LW_law_522 (by decide +kernel) rfl ?_
    first | refine xv_iaddN (pc' := 524) hF xd_LW_law_523 rfl ?_ | refine xv_iadd (pc' := 524) hF xd_LW_law_523 rfl ?_
    refine xl_ld (pc' := 525) hF hX (by first | exact hv1 | exact hv2 | exact hv3 | exact hv0) (by omega) (by omega) xd_LW_law_524 rfl ?_
    refine xv_if_eqF (pc' := 528) (tgt := 532) hF hz xd_LW_law_525 (by decide) rfl ?_
    refine xv_iconstN (pc' := 529) 1 hF xd_LW_law_528 (by decide +kernel) rfl ?_
    refine xv_goto (tgt := 533) hF xd_LW_law_529 (by decide) ?_
    refine xv_topi (v' := xb true) (by decide +kernel) ?_
    refine xv_aload_n (pc' := 534) (i := 3) hF xd_LW_law_533 rfl rfl rfl ?_
    cases hx : x_in v1 4 with
    | false =>
      refine xl_callSi (pc' := 537) (nn := 5) hF hJ (c_LW_reachT1 K n h o (o + 50) v1 v2 (xb true) _ ha (c_PD_reachT1 K n h o v1 v2 (xb true) hx)) xk_c_LW_reach xk_n_LW ⟨(by decide +kernel), (by decide +kernel)⟩ (by decide +kernel) xk_LW_m83 xk_t_LW_reach ⟨(Nat.le_of_ble_eq_true rfl), (Nat.le_of_ble_eq_true rfl)⟩ rfl rfl (Nat.le_of_ble_eq_true rfl) ⟨(by show k + 1 ≤ 262836; omega), (by show kS + 6 ≤ 8307598; omega)⟩ xd_LW_law_534 rfl (fun r1 n1 h1 q1 => ?_)
      obtain ⟨rfl, hn1, rfl⟩ := q1
      have d := d.out (fun _ _ => rfl) hn1
      obtain ⟨⟨_, _, _, _, _, _, _, _, _, ho'⟩, -⟩ := id r
      have ho := ho'.1
      refine xv_istore (pc' := 539) hF xd_LW_law_537 (Nat.le_of_ble_eq_true rfl) rfl rfl ?_
      refine xv_aload_n (pc' := 540) (i := 2) hF xd_LW_law_539 rfl rfl rfl ?_
      refine xv_aload_n (pc' := 541) (i := 0) hF xd_LW_law_540 rfl rfl rfl ?_
      refine xv_iload (pc' := 543) hF xd_LW_law_541 rfl rfl ?_
      refine xv_iconstN (pc' := 544) 1 hF xd_LW_law_543 (by decide +kernel) rfl ?_
      first | refine xv_iaddN (pc' := 545) hF xd_LW_law_544 rfl ?_ | refine xv_iadd (pc' := 545) hF xd_LW_law_544 rfl ?_
      refine xl_ld (pc' := 546) hF hX (by first | exact hv1 | exact hv2 | exact hv3 | exact hv0) (by omega) (by omega) xd_LW_law_545 rfl ?_
      refine xv_aload_n (pc' := 547) (i := 0) hF xd_LW_law_546 rfl rfl rfl ?_
      refine xv_iload (pc' := 549) hF xd_LW_law_547 rfl rfl ?_
      refine xv_iconstN (pc' := 550) 2 hF xd_LW_law_549 (by decide +kernel) rfl ?_
      first | refine xv_iaddN (pc' := 551) hF xd_LW_law_550 rfl ?_ | refine xv_iadd (pc' := 551) hF xd_LW_law_550 rfl ?_
      refine xl_ld (pc' := 552) hF hX (by first | exact hv1 | exact hv2 | exact hv3 | exact hv0) (by omega) (by omega) xd_LW_law_551 rfl ?_
      refine xv_aload_n (pc' := 553) (i := 0) hF xd_LW_law_552 rfl rfl rfl ?_
      refine xv_iload (pc' := 555) hF xd_LW_law_553 rfl rfl ?_
      refine xv_iconstN (pc' := 556) 3 hF xd_LW_law_555 (by decide +kernel) rfl ?_
      first | refine xv_iaddN (pc' := 557) hF xd_LW_law_556 rfl ?_ | refine xv_iadd (pc' := 557) hF xd_LW_law_556 rfl ?_
      refine xl_ld (pc' := 558) hF hX (by first | exact hv1 | exact hv2 | exact hv3 | exact hv0) (by omega) (by omega) xd_LW_law_557 rfl ?_
      refine xv_if_eqF (pc' := 561) (tgt := 565) hF hz xd_LW_law_558 (by decide) rfl ?_
      refine xv_iconstN (pc' := 562) 1 hF xd_LW_law_561 (by decide +kernel) rfl ?_
      refine xv_goto (tgt := 566) hF xd_LW_law_562 (by decide) ?_
      refine xv_topi (v' := xb true) (by decide +kernel) ?_
      refine xv_callVi (pc' := 569) (ci := 6) hF (c_MO_reachO K n1 h (o + 37) th (ec E) w E Tg cs TX SZ SX v1 v2 true r (by rw [hx, Bool.false_and])) xq_MO_reach xk_LW_m86 xk_i_MO_reach xk_s_MO_reach (by first | assumption | exact xu_self | (refine (xu_ne (by omega)).trans ?_; first | assumption | exact xu_self | (refine (xu_ne (by omega)).trans ?_; first | assumption | exact xu_self | (refine (xu_ne (by omega)).trans ?_; first | assumption | exact xu_self | (refine (xu_ne (by omega)).trans ?_; first | assumption | exact xu_self))))) rfl ⟨(Nat.le_of_ble_eq_true rfl), (Nat.le_of_ble_eq_true rfl)⟩ rfl rfl (Nat.le_of_ble_eq_true rfl) ⟨(by simp only [xrm]; omega), (by simp only [xrm]; omega)⟩ xd_LW_law_566 rfl (fun r2 n2 h2 q2 => ?_)
      obtain ⟨rfl, f2, w2⟩ := q2
      rw [hx, if_neg (by decide)] at w2
      obtain ⟨⟨_, _, _, _, _, _, _, _, _, ho9'⟩, -⟩ := id w2
      have ho9 := ho9'.1
      refine xv_istore (pc' := 571) hF xd_LW_law_569 (Nat.le_of_ble_eq_true rfl) rfl rfl ?_
      refine xv_aload_n (pc' := 572) (i := 2) hF xd_LW_law_571 rfl rfl rfl ?_
      refine xv_callVi (pc' := 575) (ci := 6) hF (c_MO_thrown K n1 h2 (o + 37) 1 _ _ _ _ _ _ _ ho9) xq_MO_thrown xk_LW_m62 xk_i_MO_thrown xk_s_MO_thrown (by first | assumption | exact xu_self | (refine (xu_ne (by omega)).trans ?_; first | assumption | exact xu_self | (refine (xu_ne (by omega)).trans ?_; first | assumption | exact xu_self | (refine (xu_ne (by omega)).trans ?_; first | assumption | exact xu_self | (refine (xu_ne (by omega)).trans ?_; first | assumption | exact xu_self))))) rfl ⟨(Nat.le_of_ble_eq_true rfl), (Nat.le_of_ble_eq_true rfl)⟩ rfl rfl (Nat.le_of_ble_eq_true rfl) ⟨(by simp only [xrm]; omega), (by simp only [xrm]; omega)⟩ xd_LW_law_572 rfl (fun r9 n9 h9 q9 => ?_)
      obtain ⟨rfl, rfl, rfl⟩ := q9
      refine xv_iload (pc' := 577) hF xd_LW_law_575 rfl rfl ?_
      refine xv_icmp_eqN (pc' := 580) (tgt := 582) hF (by omega) (by omega) xd_LW_law_577 (by decide) rfl (fun e8 => ?_) (fun e8 => ?_)
      · skip
        refine xv_iload (pc' := 584) hF xd_LW_law_582 rfl rfl ?_
        refine xv_if_neN (pc' := 587) (tgt := 599) hF (by omega) xd_LW_law_584 (by decide) rfl (fun e7 => ?_) (fun e7 => ?_)
        · refine xv_goto (tgt := 955) hF xd_LW_law_599 (by decide) ?_
          refine xv_loc _ (by repeat (first | exact trivial | refine ⟨rfl, ?_⟩)) (nx _ _ _ _ mk ⟨E, Tg, cs, w, OS, SX, kn, _, TX, SZ, f, f2.dk d (Nat.le_refl _), w2, sl, he, hmk, (f2 _ (by omega)).trans hq⟩ (by omega) (by omega))
        · exact absurd e7 (by decide)
      · exact absurd rfl e8
    | true =>
      obtain ⟨s, hs, rfl⟩ := x_in_of (by decide) hx
      cases hy : x_in v2 32 with
      | false =>
        refine xl_callSi (pc' := 537) (nn := 5) hF hJ (c_LW_reachT2 K n h o (o + 50) (nI s) v2 (xb true) _ ha (c_PD_reachT2 K n h o s v2 (xb true) hs hy)) xk_c_LW_reach xk_n_LW ⟨(by decide +kernel), (by decide +kernel)⟩ (by decide +kernel) xk_LW_m83 xk_t_LW_reach ⟨(Nat.le_of_ble_eq_true rfl), (Nat.le_of_ble_eq_true rfl)⟩ rfl rfl (Nat.le_of_ble_eq_true rfl) ⟨(by show k + 1 ≤ 262836; omega), (by show kS + 6 ≤ 8307598; omega)⟩ xd_LW_law_534 rfl (fun r1 n1 h1 q1 => ?_)
        obtain ⟨rfl, hn1, rfl⟩ := q1
        have d := d.out (fun _ _ => rfl) hn1
        obtain ⟨⟨_, _, _, _, _, _, _, _, _, ho'⟩, -⟩ := id r
        have ho := ho'.1
        refine xv_istore (pc' := 539) hF xd_LW_law_537 (Nat.le_of_ble_eq_true rfl) rfl rfl ?_
        refine xv_aload_n (pc' := 540) (i := 2) hF xd_LW_law_539 rfl rfl rfl ?_
        refine xv_aload_n (pc' := 541) (i := 0) hF xd_LW_law_540 rfl rfl rfl ?_
        refine xv_iload (pc' := 543) hF xd_LW_law_541 rfl rfl ?_
        refine xv_iconstN (pc' := 544) 1 hF xd_LW_law_543 (by decide +kernel) rfl ?_
        first | refine xv_iaddN (pc' := 545) hF xd_LW_law_544 rfl ?_ | refine xv_iadd (pc' := 545) hF xd_LW_law_544 rfl ?_
        refine xl_ld (pc' := 546) hF hX (by first | exact hv1 | exact hv2 | exact hv3 | exact hv0) (by omega) (by omega) xd_LW_law_545 rfl ?_
        refine xv_aload_n (pc' := 547) (i := 0) hF xd_LW_law_546 rfl rfl rfl ?_
        refine xv_iload (pc' := 549) hF xd_LW_law_547 rfl rfl ?_
        refine xv_iconstN (pc' := 550) 2 hF xd_LW_law_549 (by decide +kernel) rfl ?_
        first | refine xv_iaddN (pc' := 551) hF xd_LW_law_550 rfl ?_ | refine xv_iadd (pc' := 551) hF xd_LW_law_550 rfl ?_
        refine xl_ld (pc' := 552) hF hX (by first | exact hv1 | exact hv2 | exact hv3 | exact hv0) (by omega) (by omega) xd_LW_law_551 rfl ?_
        refine xv_aload_n (pc' := 553) (i := 0) hF xd_LW_law_552 rfl rfl rfl ?_
        refine xv_iload (pc' := 555) hF xd_LW_law_553 rfl rfl ?_
        refine xv_iconstN (pc' := 556) 3 hF xd_LW_law_555 (by decide +kernel) rfl ?_
        first | refine xv_iaddN (pc' := 557) hF xd_LW_law_556 rfl ?_ | refine xv_iadd (pc' := 557) hF xd_LW_law_556 rfl ?_
        refine xl_ld (pc' := 558) hF hX (by first | exact hv1 | exact hv2 | exact hv3 | exact hv0) (by omega) (by omega) xd_LW_law_557 rfl ?_
        refine xv_if_eqF (pc' := 561) (tgt := 565) hF hz xd_LW_law_558 (by decide) rfl ?_
        refine xv_iconstN (pc' := 562) 1 hF xd_LW_law_561 (by decide +kernel) rfl ?_
        refine xv_goto (tgt := 566) hF xd_LW_law_562 (by decide) ?_
        refine xv_topi (v' := xb true) (by decide +kernel) ?_
        refine xv_callVi (pc' := 569) (ci := 6) hF (c_MO_reachO K n1 h (o + 37) th (ec E) w E Tg cs TX SZ SX (nI s) v2 true r (by rw [hy, Bool.and_false])) xq_MO_reach xk_LW_m86 xk_i_MO_reach xk_s_MO_reach (by first | assumption | exact xu_self | (refine (xu_ne (by omega)).trans ?_; first | assumption | exact xu_self | (refine (xu_ne (by omega)).trans ?_; first | assumption | exact xu_self | (refine (xu_ne (by omega)).trans ?_; first | assumption | exact xu_self | (refine (xu_ne (by omega)).trans ?_; first | assumption | exact xu_self))))) rfl ⟨(Nat.le_of_ble_eq_true rfl), (Nat.le_of_ble_eq_true rfl)⟩ rfl rfl (Nat.le_of_ble_eq_true rfl) ⟨(by simp only [xrm]; omega), (by simp only [xrm]; omega)⟩ xd_LW_law_566 rfl (fun r2 n2 h2 q2 => ?_)
        obtain ⟨rfl, f2, w2⟩ := q2
        rw [hx, if_pos rfl] at w2
        obtain ⟨⟨_, _, _, _, _, _, _, _, _, ho9'⟩, -⟩ := id w2
        have ho9 := ho9'.1
        refine xv_istore (pc' := 571) hF xd_LW_law_569 (Nat.le_of_ble_eq_true rfl) rfl rfl ?_
        refine xv_aload_n (pc' := 572) (i := 2) hF xd_LW_law_571 rfl rfl rfl ?_
        refine xv_callVi (pc' := 575) (ci := 6) hF (c_MO_thrown K n1 h2 (o + 37) 2 _ _ _ _ _ _ _ ho9) xq_MO_thrown xk_LW_m62 xk_i_MO_thrown xk_s_MO_thrown (by first | assumption | exact xu_self | (refine (xu_ne (by omega)).trans ?_; first | assumption | exact xu_self | (refine (xu_ne (by omega)).trans ?_; first | assumption | exact xu_self | (refine (xu_ne (by omega)).trans ?_; first | assumption | exact xu_self | (refine (xu_ne (by omega)).trans ?_; first | assumption | exact xu_self))))) rfl ⟨(Nat.le_of_ble_eq_true rfl), (Nat.le_of_ble_eq_true rfl)⟩ rfl rfl (Nat.le_of_ble_eq_true rfl) ⟨(by simp only [xrm]; omega), (by simp only [xrm]; omega)⟩ xd_LW_law_572 rfl (fun r9 n9 h9 q9 => ?_)
        obtain ⟨rfl, rfl, rfl⟩ := q9
        refine xv_iload (pc' := 577) hF xd_LW_law_575 rfl rfl ?_
        refine xv_icmp_eqN (pc' := 580) (tgt := 582) hF (by omega) (by omega) xd_LW_law_577 (by decide) rfl (fun e8 => ?_) (fun e8 => ?_)
        · skip
          refine xv_iload (pc' := 584) hF xd_LW_law_582 rfl rfl ?_
          refine xv_if_neN (pc' := 587) (tgt := 599) hF (by omega) xd_LW_law_584 (by decide) rfl (fun e7 => ?_) (fun e7 => ?_)
          · refine xv_goto (tgt := 955) hF xd_LW_law_599 (by decide) ?_
            refine xv_loc _ (by repeat (first | exact trivial | refine ⟨rfl, ?_⟩)) (nx _ _ _ _ mk ⟨E, Tg, cs, w, OS, SX, kn, _, TX, SZ, f, f2.dk d (Nat.le_refl _), w2, sl, he, hmk, (f2 _ (by omega)).trans hq⟩ (by omega) (by omega))
          · exact absurd e7 (by decide)
        · exact absurd rfl e8
      | true =>
        obtain ⟨a, hA, rfl⟩ := x_in_of (by decide) hy
        have hgd := (d.2.2.2.2.2.2.2.2.2.1 s hs).2
        have l1 := li_md_ge OS kn s mk
        have l2 := li_md_le (kn := kn) hgd hmk
        refine xl_callSi (pc' := 537) (nn := 5) hF hJ (c_LW_reach K n h o (o + 50) 7 149 _ _ (nI s) (nI a) (xb true) _ ha (c_PD_reach K n h o (ec E) w mk s (li_md OS kn s mk) E Tg cs OS SX kn a true d hs rfl hA) (fun v n' h' q => by obtain ⟨M, -, -, -, z4, -⟩ := q; exact ⟨f, (z4 _ (by omega) (by omega)).trans hq⟩)) xk_c_LW_reach xk_n_LW ⟨(by decide +kernel), (by decide +kernel)⟩ (by decide +kernel) xk_LW_m83 xk_t_LW_reach ⟨(Nat.le_of_ble_eq_true rfl), (Nat.le_of_ble_eq_true rfl)⟩ rfl rfl (Nat.le_of_ble_eq_true rfl) ⟨(by show k + 3 * (li_md OS kn s mk - mk) ≤ 262836; omega), (by show kS + 1058 * (li_md OS kn s mk - mk) ≤ 8307598; omega)⟩ xd_LW_law_534 rfl (fun r1 n1 h1 q1 => ?_)
        obtain ⟨rfl, v, h1', f1, ⟨M, z1, z2, rfl, z4, z5⟩, rfl, hf1⟩ := q1
        have hq2 : (xu h1' (o + 50) (.inl (K.2.2.1 2, 1, .inr (.inl f1)))) (o + 50) = some (.inl (K.2.2.1 2, 1, .inr (.inl f1))) := xu_self
        have r2 := xu_mo (c := (.inl (K.2.2.1 2, 1, .inr (.inl f1)))) (z4.mo r)
        have d2 := xu_dk (c := (.inl (K.2.2.1 2, 1, .inr (.inl f1)))) z5
        generalize xu h1' (o + 50) (.inl (K.2.2.1 2, 1, .inr (.inl f1))) = h2 at hq2 r2 d2 ⊢
        obtain ⟨⟨_, _, _, _, _, _, _, _, _, ho'⟩, -⟩ := id r2
        have ho := ho'.1
        refine xv_istore (pc' := 539) hF xd_LW_law_537 (Nat.le_of_ble_eq_true rfl) rfl rfl ?_
        refine xv_aload_n (pc' := 540) (i := 2) hF xd_LW_law_539 rfl rfl rfl ?_
        refine xv_aload_n (pc' := 541) (i := 0) hF xd_LW_law_540 rfl rfl rfl ?_
        refine xv_iload (pc' := 543) hF xd_LW_law_541 rfl rfl ?_
        refine xv_iconstN (pc' := 544) 1 hF xd_LW_law_543 (by decide +kernel) rfl ?_
        first | refine xv_iaddN (pc' := 545) hF xd_LW_law_544 rfl ?_ | refine xv_iadd (pc' := 545) hF xd_LW_law_544 rfl ?_
        refine xl_ld (pc' := 546) hF hX (by first | exact hv1 | exact hv2 | exact hv3 | exact hv0) (by omega) (by omega) xd_LW_law_545 rfl ?_
        refine xv_aload_n (pc' := 547) (i := 0) hF xd_LW_law_546 rfl rfl rfl ?_
        refine xv_iload (pc' := 549) hF xd_LW_law_547 rfl rfl ?_
        refine xv_iconstN (pc' := 550) 2 hF xd_LW_law_549 (by decide +kernel) rfl ?_
        first | refine xv_iaddN (pc' := 551) hF xd_LW_law_550 rfl ?_ | refine xv_iadd (pc' := 551) hF xd_LW_law_550 rfl ?_
        refine xl_ld (pc' := 552) hF hX (by first | exact hv1 | exact hv2 | exact hv3 | exact hv0) (by omega) (by omega) xd_LW_law_551 rfl ?_
        refine xv_aload_n (pc' := 553) (i := 0) hF xd_LW_law_552 rfl rfl rfl ?_
        refine xv_iload (pc' := 555) hF xd_LW_law_553 rfl rfl ?_
        refine xv_iconstN (pc' := 556) 3 hF xd_LW_law_555 (by decide +kernel) rfl ?_
        first | refine xv_iaddN (pc' := 557) hF xd_LW_law_556 rfl ?_ | refine xv_iadd (pc' := 557) hF xd_LW_law_556 rfl ?_
        refine xl_ld (pc' := 558) hF hX (by first | exact hv1 | exact hv2 | exact hv3 | exact hv0) (by omega) (by omega) xd_LW_law_557 rfl ?_
        refine xv_if_eqF (pc' := 561) (tgt := 565) hF hz xd_LW_law_558 (by decide) rfl ?_
        refine xv_iconstN (pc' := 562) 1 hF xd_LW_law_561 (by decide +kernel) rfl ?_
        refine xv_goto (tgt := 566) hF xd_LW_law_562 (by decide) ?_
        refine xv_topi (v' := xb true) (by decide +kernel) ?_
        refine xv_callVi (pc' := 569) (ci := 6) hF (c_MO_reach K _ h2 (o + 37) th (ec E) w E Tg cs TX SZ SX s (OS s) a true r2 hs (sl s hs) hA) xq_MO_reach xk_LW_m86 xk_i_MO_reach xk_s_MO_reach (by first | assumption | exact xu_self | (refine (xu_ne (by omega)).trans ?_; first | assumption | exact xu_self | (refine (xu_ne (by omega)).trans ?_; first | assumption | exact xu_self | (refine (xu_ne (by omega)).trans ?_; first | assumption | exact xu_self | (refine (xu_ne (by omega)).trans ?_; first | assumption | exact xu_self))))) rfl ⟨(Nat.le_of_ble_eq_true rfl), (Nat.le_of_ble_eq_true rfl)⟩ rfl rfl (Nat.le_of_ble_eq_true rfl) ⟨(by simp only [xrm]; omega), (by simp only [xrm]; omega)⟩ xd_LW_law_566 rfl (fun r3 n3 h3 q3 => ?_)
        obtain ⟨rfl, f3, w3, M', m1, m2⟩ := q3
        have m1 : pd_mn (bx_ak E Tg (OS s) (OS s).length 0) M' := m1
        have hq3 : h3 (o + 50) = some (.inl (K.2.2.1 2, 1, .inr (.inl f1))) := (f3 _ (by omega)).trans hq2
        obtain ⟨⟨_, _, _, _, _, _, _, _, _, ho9'⟩, -⟩ := id w3
        have ho9 := ho9'.1
        refine xv_istore (pc' := 571) hF xd_LW_law_569 (Nat.le_of_ble_eq_true rfl) rfl rfl ?_
        refine xv_aload_n (pc' := 572) (i := 2) hF xd_LW_law_571 rfl rfl rfl ?_
        refine xv_callVi (pc' := 575) (ci := 6) hF (c_MO_thrown K _ h3 (o + 37) 0 _ _ _ _ _ _ _ ho9) xq_MO_thrown xk_LW_m62 xk_i_MO_thrown xk_s_MO_thrown (by first | assumption | exact xu_self | (refine (xu_ne (by omega)).trans ?_; first | assumption | exact xu_self | (refine (xu_ne (by omega)).trans ?_; first | assumption | exact xu_self | (refine (xu_ne (by omega)).trans ?_; first | assumption | exact xu_self | (refine (xu_ne (by omega)).trans ?_; first | assumption | exact xu_self))))) rfl ⟨(Nat.le_of_ble_eq_true rfl), (Nat.le_of_ble_eq_true rfl)⟩ rfl rfl (Nat.le_of_ble_eq_true rfl) ⟨(by simp only [xrm]; omega), (by simp only [xrm]; omega)⟩ xd_LW_law_572 rfl (fun r9 n9 h9 q9 => ?_)
        obtain ⟨rfl, rfl, rfl⟩ := q9
        refine xv_iload (pc' := 577) hF xd_LW_law_575 rfl rfl ?_
        refine xv_icmp_eqN (pc' := 580) (tgt := 582) hF (by omega) (by omega) xd_LW_law_577 (by decide) rfl (fun e8 => ?_) (fun e8 => ?_)
        · skip
          refine xv_iload (pc' := 584) hF xd_LW_law_582 rfl rfl ?_
          refine xv_if_neN (pc' := 587) (tgt := 599) hF (by omega) xd_LW_law_584 (by decide) rfl (fun e7 => ?_) (fun e7 => ?_)
          · exact absurd e7 (by decide)
          · refine xv_aload_n (pc' := 588) (i := 3) hF xd_LW_law_587 rfl rfl rfl ?_
            refine xv_iconstN (pc' := 589) 0 hF xd_LW_law_588 (by decide +kernel) rfl ?_
            refine xv_laldN (pc' := 590) hF (by first | assumption | exact xu_self | (refine (xu_ne (by omega)).trans ?_; first | assumption | exact xu_self | (refine (xu_ne (by omega)).trans ?_; first | assumption | exact xu_self | (refine (xu_ne (by omega)).trans ?_; first | assumption | exact xu_self | (refine (xu_ne (by omega)).trans ?_; first | assumption | exact xu_self))))) (by omega) (by decide) xd_LW_law_589 rfl ?_
            refine xv_iload (pc' := 592) hF xd_LW_law_590 rfl rfl ?_
            refine xv_i2l (pc' := 593) hF xd_LW_law_592 rfl rfl ?_
            refine xv_lcmp (pc' := 594) hF xd_LW_law_593 rfl ?_
            refine xv_if_eq (pc' := 597) (tgt := 599) hF xd_LW_law_594 (by decide) rfl (fun e6 => ?_) (fun e6 => ?_)
            · refine xv_goto (tgt := 955) hF xd_LW_law_599 (by decide) ?_
              exact xv_loc _ (by repeat (first | exact trivial | refine ⟨rfl, ?_⟩)) (nx _ _ _ _ (li_md OS kn s mk) ⟨E, Tg, cs, w, OS, SX, _, _, TX, SZ, f1, f3.dk d2 (Nat.le_refl _), w3, sl, he, l2, hq3⟩ (by omega) (by omega))
            · exact absurd ((lg_cmp_eq _ _).mpr (by rw [hf1, reach_u hA (fun i j hi hj => pd_mn_uniq z1 m1 hi hj) z2 m2])) e6
        · exact absurd rfl e8
theorem dk_pr0 (M N N' : Nat → Nat → Nat) : dk_pr 0 M N = dk_pr 0 M N' := by
  unfold dk_pr
  refine congrArg (fun P => md_cn P 1024) ?_
  funext i j
  simp
set_option maxHeartbeats 4000000 in
set_option maxRecDepth 100000 in
theorem lc_pairs {G : xG} {K : xK} {o b i t N n k kS mk : Nat} {h : xH} {xs : Nat → Int32} {v1 v2 v3 : Int32} (hF : XF G K xc_LW_law xr_LW (xrm 11 398 262836 8307598) 7) (hJ : XJ G K) (hX : XS G b N xs) (hN : N ≤ 2048) (hi : i + 4 ≤ N) (ht : t < 512) (hv1 : xs (i + 1) = v1) (hv2 : xs (i + 2) = v2) (hv3 : xs (i + 3) = v3) (hI : LI K o n h mk) (hk : k ≤ 51 + 3 * mk + t) (hkS : kS ≤ 58759 + 1058 * mk + 6 * t) (nx : LN G K o b i t) : XV G k kS 738 [(4, .int (nI i)), (0, .ref b), (1, .ref o), (2, .ref (o + 37)), (3, .ref (o + 50))] [] n h := by
  obtain ⟨E, Tg, cs, w, OS, SX, kn, th, TX, SZ, f, d, r, sl, he, hmk, hq⟩ := hI
  have ha := d.1
  refine xv_aload_n (pc' := 739) (i := 1) hF xd_LW_law_738 rfl rfl rfl ?_
  refine xv_aload_n (pc' := 740) (i := 0) hF xd_LW_law_739 rfl rfl rfl ?_
  refine xv_iload (pc' := 742) hF xd_LW_law_740 rfl rfl ?_
  refine xv_iconstN (pc' := 743) 1 hF xd_LW_law_742 (by decide +kernel) rfl ?_
  first | refine xv_iaddN (pc' := 744) hF xd_LW_law_743 rfl ?_ | refine xv_iadd (pc' := 744) hF xd_LW_law_743 rfl ?_
  refine xl_ld (pc' := 745) hF hX (by first | exact hv1 | exact hv2 | exact hv3 | exact hv0) (by omega) (by omega) xd_LW_law_744 rfl ?_
  refine xv_aload_n (pc' := 746) (i := 0) hF xd_LW_law_745 rfl rfl rfl ?_
  refine xv_iload (pc' := 748) hF xd_LW_law_746 rfl rfl ?_
  refine xv_iconstN (pc' := 749) 2 hF xd_LW_law_748 (by decide +kernel) rfl ?_
  first | refine xv_iaddN (pc' := 750) hF xd_LW_law_749 rfl ?_ | refine xv_iadd (pc' := 750) hF xd_LW_law_749 rfl ?_
  refine xl_ld (pc' := 751) hF hX (by first | exact hv1 | exact hv2 | exact hv3 | exact hv0) (by omega) (by omega) xd_LW_law_750 rfl ?_
  refine xv_aload_n (pc' := 752) (i := 0) hF xd_LW_law_751 rfl rfl rfl ?_
  refine xv_iload (pc' := 754) hF xd_LW_law_752 rfl rfl ?_
  refine xv_iconstN (pc' := 755) 3 hF xd_LW_law_754 (by decide +kernel) rfl ?_
  first | refine xv_iaddN (pc' := 756) hF xd_LW_law_755 rfl ?_ | refine xv_iadd (pc' := 756) hF xd_LW_law_755 rfl ?_
  refine xl_ld (pc' := 757) hF hX (by first | exact hv1 | exact hv2 | exact hv3 | exact hv0) (by omega) (by omega) xd_LW_law_756 rfl ?_
  refine xv_aload_n (pc' := 758) (i := 3) hF xd_LW_law_757 rfl rfl rfl ?_
  cases hx : (x_in v1 4 && x_in v2 4) with
  | false =>
    refine xl_callSi (pc' := 761) (nn := 5) hF hJ (c_LW_pairsT1 K n h o (o + 50) v1 v2 v3 _ ha (c_PD_pairsT1 K n h o v1 v2 v3 hx)) xk_c_LW_pairs xk_n_LW ⟨(by decide +kernel), (by decide +kernel)⟩ (by decide +kernel) xk_LW_m93 xk_t_LW_pairs ⟨(Nat.le_of_ble_eq_true rfl), (Nat.le_of_ble_eq_true rfl)⟩ rfl rfl (Nat.le_of_ble_eq_true rfl) ⟨(by show k + 1 ≤ 262836; omega), (by show kS + 6 ≤ 8307598; omega)⟩ xd_LW_law_758 rfl (fun r1 n1 h1 q1 => ?_)
    obtain ⟨rfl, hn1, rfl⟩ := q1
    have d := d.out (fun _ _ => rfl) hn1
    obtain ⟨⟨_, _, _, _, _, _, _, _, _, ho'⟩, -⟩ := id r
    have ho := ho'.1
    refine xv_istore (pc' := 763) hF xd_LW_law_761 (Nat.le_of_ble_eq_true rfl) rfl rfl ?_
    refine xv_aload_n (pc' := 764) (i := 2) hF xd_LW_law_763 rfl rfl rfl ?_
    refine xv_aload_n (pc' := 765) (i := 0) hF xd_LW_law_764 rfl rfl rfl ?_
    refine xv_iload (pc' := 767) hF xd_LW_law_765 rfl rfl ?_
    refine xv_iconstN (pc' := 768) 1 hF xd_LW_law_767 (by decide +kernel) rfl ?_
    first | refine xv_iaddN (pc' := 769) hF xd_LW_law_768 rfl ?_ | refine xv_iadd (pc' := 769) hF xd_LW_law_768 rfl ?_
    refine xl_ld (pc' := 770) hF hX (by first | exact hv1 | exact hv2 | exact hv3 | exact hv0) (by omega) (by omega) xd_LW_law_769 rfl ?_
    refine xv_aload_n (pc' := 771) (i := 0) hF xd_LW_law_770 rfl rfl rfl ?_
    refine xv_iload (pc' := 773) hF xd_LW_law_771 rfl rfl ?_
    refine xv_iconstN (pc' := 774) 2 hF xd_LW_law_773 (by decide +kernel) rfl ?_
    first | refine xv_iaddN (pc' := 775) hF xd_LW_law_774 rfl ?_ | refine xv_iadd (pc' := 775) hF xd_LW_law_774 rfl ?_
    refine xl_ld (pc' := 776) hF hX (by first | exact hv1 | exact hv2 | exact hv3 | exact hv0) (by omega) (by omega) xd_LW_law_775 rfl ?_
    refine xv_aload_n (pc' := 777) (i := 0) hF xd_LW_law_776 rfl rfl rfl ?_
    refine xv_iload (pc' := 779) hF xd_LW_law_777 rfl rfl ?_
    refine xv_iconstN (pc' := 780) 3 hF xd_LW_law_779 (by decide +kernel) rfl ?_
    first | refine xv_iaddN (pc' := 781) hF xd_LW_law_780 rfl ?_ | refine xv_iadd (pc' := 781) hF xd_LW_law_780 rfl ?_
    refine xl_ld (pc' := 782) hF hX (by first | exact hv1 | exact hv2 | exact hv3 | exact hv0) (by omega) (by omega) xd_LW_law_781 rfl ?_
    refine xv_callVi (pc' := 785) (ci := 6) hF (c_MO_pairsO K n1 h (o + 37) th (ec E) w E Tg cs TX SZ SX v1 v2 v3 r (by rw [hx, Bool.false_and])) xq_MO_pairs xk_LW_m95 xk_i_MO_pairs xk_s_MO_pairs (by first | assumption | exact xu_self | (refine (xu_ne (by omega)).trans ?_; first | assumption | exact xu_self | (refine (xu_ne (by omega)).trans ?_; first | assumption | exact xu_self | (refine (xu_ne (by omega)).trans ?_; first | assumption | exact xu_self | (refine (xu_ne (by omega)).trans ?_; first | assumption | exact xu_self))))) rfl ⟨(Nat.le_of_ble_eq_true rfl), (Nat.le_of_ble_eq_true rfl)⟩ rfl rfl (Nat.le_of_ble_eq_true rfl) ⟨(by simp only [xrm]; omega), (by simp only [xrm]; omega)⟩ xd_LW_law_782 rfl (fun r2 n2 h2 q2 => ?_)
    obtain ⟨rfl, f2, w2⟩ := q2
    rw [hx, if_neg (by decide)] at w2
    obtain ⟨⟨_, _, _, _, _, _, _, _, _, ho9'⟩, -⟩ := id w2
    have ho9 := ho9'.1
    refine xv_istore (pc' := 787) hF xd_LW_law_785 (Nat.le_of_ble_eq_true rfl) rfl rfl ?_
    refine xv_aload_n (pc' := 788) (i := 2) hF xd_LW_law_787 rfl rfl rfl ?_
    refine xv_callVi (pc' := 791) (ci := 6) hF (c_MO_thrown K n1 h2 (o + 37) 1 _ _ _ _ _ _ _ ho9) xq_MO_thrown xk_LW_m62 xk_i_MO_thrown xk_s_MO_thrown (by first | assumption | exact xu_self | (refine (xu_ne (by omega)).trans ?_; first | assumption | exact xu_self | (refine (xu_ne (by omega)).trans ?_; first | assumption | exact xu_self | (refine (xu_ne (by omega)).trans ?_; first | assumption | exact xu_self | (refine (xu_ne (by omega)).trans ?_; first | assumption | exact xu_self))))) rfl ⟨(Nat.le_of_ble_eq_true rfl), (Nat.le_of_ble_eq_true rfl)⟩ rfl rfl (Nat.le_of_ble_eq_true rfl) ⟨(by simp only [xrm]; omega), (by simp only [xrm]; omega)⟩ xd_LW_law_788 rfl (fun r9 n9 h9 q9 => ?_)
    obtain ⟨rfl, rfl, rfl⟩ := q9
    refine xv_iload (pc' := 793) hF xd_LW_law_791 rfl rfl ?_
    refine xv_icmp_eqN (pc' := 796) (tgt := 798) hF (by omega) (by omega) xd_LW_law_793 (by decide) rfl (fun e8 => ?_) (fun e8 => ?_)
    · skip
      refine xv_iload (pc' := 800) hF xd_LW_law_798 rfl rfl ?_
      refine xv_if_neN (pc' := 803) (tgt := 815) hF (by omega) xd_LW_law_800 (by decide) rfl (fun e7 => ?_) (fun e7 => ?_)
      · refine xv_goto (tgt := 955) hF xd_LW_law_815 (by decide) ?_
        refine xv_loc _ (by repeat (first | exact trivial | refine ⟨rfl, ?_⟩)) (nx _ _ _ _ mk ⟨E, Tg, cs, w, OS, SX, kn, _, TX, SZ, f, f2.dk d (Nat.le_refl _), w2, sl, he, hmk, (f2 _ (by omega)).trans hq⟩ (by omega) (by omega))
      · exact absurd e7 (by decide)
    · exact absurd rfl e8
  | true =>
    have hx' := hx
    rw [Bool.and_eq_true] at hx'
    obtain ⟨s, hs, rfl⟩ := x_in_of (by decide) hx'.1
    obtain ⟨t2, ht2, rfl⟩ := x_in_of (by decide) hx'.2
    cases hy : x_in v3 5 with
    | false =>
      refine xl_callSi (pc' := 761) (nn := 5) hF hJ (c_LW_pairsT2 K n h o (o + 50) (nI s) (nI t2) v3 _ ha (c_PD_pairsT2 K n h o s t2 v3 hs ht2 hy)) xk_c_LW_pairs xk_n_LW ⟨(by decide +kernel), (by decide +kernel)⟩ (by decide +kernel) xk_LW_m93 xk_t_LW_pairs ⟨(Nat.le_of_ble_eq_true rfl), (Nat.le_of_ble_eq_true rfl)⟩ rfl rfl (Nat.le_of_ble_eq_true rfl) ⟨(by show k + 1 ≤ 262836; omega), (by show kS + 6 ≤ 8307598; omega)⟩ xd_LW_law_758 rfl (fun r1 n1 h1 q1 => ?_)
      obtain ⟨rfl, hn1, rfl⟩ := q1
      have d := d.out (fun _ _ => rfl) hn1
      obtain ⟨⟨_, _, _, _, _, _, _, _, _, ho'⟩, -⟩ := id r
      have ho := ho'.1
      refine xv_istore (pc' := 763) hF xd_LW_law_761 (Nat.le_of_ble_eq_true rfl) rfl rfl ?_
      refine xv_aload_n (pc' := 764) (i := 2) hF xd_LW_law_763 rfl rfl rfl ?_
      refine xv_aload_n (pc' := 765) (i := 0) hF xd_LW_law_764 rfl rfl rfl ?_
      refine xv_iload (pc' := 767) hF xd_LW_law_765 rfl rfl ?_
      refine xv_iconstN (pc' := 768) 1 hF xd_LW_law_767 (by decide +kernel) rfl ?_
      first | refine xv_iaddN (pc' := 769) hF xd_LW_law_768 rfl ?_ | refine xv_iadd (pc' := 769) hF xd_LW_law_768 rfl ?_
      refine xl_ld (pc' := 770) hF hX (by first | exact hv1 | exact hv2 | exact hv3 | exact hv0) (by omega) (by omega) xd_LW_law_769 rfl ?_
      refine xv_aload_n (pc' := 771) (i := 0) hF xd_LW_law_770 rfl rfl rfl ?_
      refine xv_iload (pc' := 773) hF xd_LW_law_771 rfl rfl ?_
      refine xv_iconstN (pc' := 774) 2 hF xd_LW_law_773 (by decide +kernel) rfl ?_
      first | refine xv_iaddN (pc' := 775) hF xd_LW_law_774 rfl ?_ | refine xv_iadd (pc' := 775) hF xd_LW_law_774 rfl ?_
      refine xl_ld (pc' := 776) hF hX (by first | exact hv1 | exact hv2 | exact hv3 | exact hv0) (by omega) (by omega) xd_LW_law_775 rfl ?_
      refine xv_aload_n (pc' := 777) (i := 0) hF xd_LW_law_776 rfl rfl rfl ?_
      refine xv_iload (pc' := 779) hF xd_LW_law_777 rfl rfl ?_
      refine xv_iconstN (pc' := 780) 3 hF xd_LW_law_779 (by decide +kernel) rfl ?_
      first | refine xv_iaddN (pc' := 781) hF xd_LW_law_780 rfl ?_ | refine xv_iadd (pc' := 781) hF xd_LW_law_780 rfl ?_
      refine xl_ld (pc' := 782) hF hX (by first | exact hv1 | exact hv2 | exact hv3 | exact hv0) (by omega) (by omega) xd_LW_law_781 rfl ?_
      refine xv_callVi (pc' := 785) (ci := 6) hF (c_MO_pairsO K n1 h (o + 37) th (ec E) w E Tg cs TX SZ SX (nI s) (nI t2) v3 r (by rw [hy, Bool.and_false])) xq_MO_pairs xk_LW_m95 xk_i_MO_pairs xk_s_MO_pairs (by first | assumption | exact xu_self | (refine (xu_ne (by omega)).trans ?_; first | assumption | exact xu_self | (refine (xu_ne (by omega)).trans ?_; first | assumption | exact xu_self | (refine (xu_ne (by omega)).trans ?_; first | assumption | exact xu_self | (refine (xu_ne (by omega)).trans ?_; first | assumption | exact xu_self))))) rfl ⟨(Nat.le_of_ble_eq_true rfl), (Nat.le_of_ble_eq_true rfl)⟩ rfl rfl (Nat.le_of_ble_eq_true rfl) ⟨(by simp only [xrm]; omega), (by simp only [xrm]; omega)⟩ xd_LW_law_782 rfl (fun r2 n2 h2 q2 => ?_)
      obtain ⟨rfl, f2, w2⟩ := q2
      rw [hx, if_pos rfl] at w2
      obtain ⟨⟨_, _, _, _, _, _, _, _, _, ho9'⟩, -⟩ := id w2
      have ho9 := ho9'.1
      refine xv_istore (pc' := 787) hF xd_LW_law_785 (Nat.le_of_ble_eq_true rfl) rfl rfl ?_
      refine xv_aload_n (pc' := 788) (i := 2) hF xd_LW_law_787 rfl rfl rfl ?_
      refine xv_callVi (pc' := 791) (ci := 6) hF (c_MO_thrown K n1 h2 (o + 37) 2 _ _ _ _ _ _ _ ho9) xq_MO_thrown xk_LW_m62 xk_i_MO_thrown xk_s_MO_thrown (by first | assumption | exact xu_self | (refine (xu_ne (by omega)).trans ?_; first | assumption | exact xu_self | (refine (xu_ne (by omega)).trans ?_; first | assumption | exact xu_self | (refine (xu_ne (by omega)).trans ?_; first | assumption | exact xu_self | (refine (xu_ne (by omega)).trans ?_; first | assumption | exact xu_self))))) rfl ⟨(Nat.le_of_ble_eq_true rfl), (Nat.le_of_ble_eq_true rfl)⟩ rfl rfl (Nat.le_of_ble_eq_true rfl) ⟨(by simp only [xrm]; omega), (by simp only [xrm]; omega)⟩ xd_LW_law_788 rfl (fun r9 n9 h9 q9 => ?_)
      obtain ⟨rfl, rfl, rfl⟩ := q9
      refine xv_iload (pc' := 793) hF xd_LW_law_791 rfl rfl ?_
      refine xv_icmp_eqN (pc' := 796) (tgt := 798) hF (by omega) (by omega) xd_LW_law_793 (by decide) rfl (fun e8 => ?_) (fun e8 => ?_)
      · skip
        refine xv_iload (pc' := 800) hF xd_LW_law_798 rfl rfl ?_
        refine xv_if_neN (pc' := 803) (tgt := 815) hF (by omega) xd_LW_law_800 (by decide) rfl (fun e7 => ?_) (fun e7 => ?_)
        · refine xv_goto (tgt := 955) hF xd_LW_law_815 (by decide) ?_
          refine xv_loc _ (by repeat (first | exact trivial | refine ⟨rfl, ?_⟩)) (nx _ _ _ _ mk ⟨E, Tg, cs, w, OS, SX, kn, _, TX, SZ, f, f2.dk d (Nat.le_refl _), w2, sl, he, hmk, (f2 _ (by omega)).trans hq⟩ (by omega) (by omega))
        · exact absurd e7 (by decide)
      · exact absurd rfl e8
    | true =>
      obtain ⟨how, hhow, rfl⟩ := x_in_of (by decide) hy
      by_cases h0 : how = 0
      · subst h0
        have hgd := (d.2.2.2.2.2.2.2.2.2.1 s hs).2
        have hgd2 := (d.2.2.2.2.2.2.2.2.2.1 t2 ht2).2
        have l1 := li_md_ge OS kn s mk
        have l2 := li_md_le (kn := kn) hgd hmk
        have l3 := li_md_ge OS (va_up kn s true) t2 (li_md OS kn s mk)
        have l4 := li_md_le (kn := va_up kn s true) hgd2 l2
        refine xl_callSi (pc' := 761) (nn := 5) hF hJ (c_LW_pairs K n h o (o + 50) 7 149 _ _ (nI s) (nI t2) (nI 0) _ ha (c_PD_pairs0 K n h o (ec E) w mk s (li_md OS kn s mk) t2 E Tg cs OS SX kn d hs rfl ht2) (fun v n' h' q => by obtain ⟨M, -, -, -, z4, -⟩ := q; exact ⟨f, (z4 _ (by omega) (by omega)).trans hq⟩)) xk_c_LW_pairs xk_n_LW ⟨(by decide +kernel), (by decide +kernel)⟩ (by decide +kernel) xk_LW_m93 xk_t_LW_pairs ⟨(Nat.le_of_ble_eq_true rfl), (Nat.le_of_ble_eq_true rfl)⟩ rfl rfl (Nat.le_of_ble_eq_true rfl) ⟨(by show k + 3 * (li_md OS kn s mk - mk) ≤ 262836; omega), (by show kS + 1058 * (li_md OS kn s mk - mk) ≤ 8307598; omega)⟩ xd_LW_law_758 rfl (fun r1 n1 h1 q1 => ?_)
        obtain ⟨rfl, v, h1', f1, ⟨M, z1, rfl, rfl, z4, z5⟩, rfl, hf1⟩ := q1
        have hq2 : (xu h1' (o + 50) (.inl (K.2.2.1 2, 1, .inr (.inl f1)))) (o + 50) = some (.inl (K.2.2.1 2, 1, .inr (.inl f1))) := xu_self
        have r2 := xu_mo (c := (.inl (K.2.2.1 2, 1, .inr (.inl f1)))) (z4.mo r)
        have d2 := xu_dk (c := (.inl (K.2.2.1 2, 1, .inr (.inl f1)))) z5
        generalize xu h1' (o + 50) (.inl (K.2.2.1 2, 1, .inr (.inl f1))) = h2 at hq2 r2 d2 ⊢
        obtain ⟨⟨_, _, _, _, _, _, _, _, _, ho'⟩, -⟩ := id r2
        have ho := ho'.1
        refine xv_istore (pc' := 763) hF xd_LW_law_761 (Nat.le_of_ble_eq_true rfl) rfl rfl ?_
        refine xv_aload_n (pc' := 764) (i := 2) hF xd_LW_law_763 rfl rfl rfl ?_
        refine xv_aload_n (pc' := 765) (i := 0) hF xd_LW_law_764 rfl rfl rfl ?_
        refine xv_iload (pc' := 767) hF xd_LW_law_765 rfl rfl ?_
        refine xv_iconstN (pc' := 768) 1 hF xd_LW_law_767 (by decide +kernel) rfl ?_
        first | refine xv_iaddN (pc' := 769) hF xd_LW_law_768 rfl ?_ | refine xv_iadd (pc' := 769) hF xd_LW_law_768 rfl ?_
        refine xl_ld (pc' := 770) hF hX (by first | exact hv1 | exact hv2 | exact hv3 | exact hv0) (by omega) (by omega) xd_LW_law_769 rfl ?_
        refine xv_aload_n (pc' := 771) (i := 0) hF xd_LW_law_770 rfl rfl rfl ?_
        refine xv_iload (pc' := 773) hF xd_LW_law_771 rfl rfl ?_
        refine xv_iconstN (pc' := 774) 2 hF xd_LW_law_773 (by decide +kernel) rfl ?_
        first | refine xv_iaddN (pc' := 775) hF xd_LW_law_774 rfl ?_ | refine xv_iadd (pc' := 775) hF xd_LW_law_774 rfl ?_
        refine xl_ld (pc' := 776) hF hX (by first | exact hv1 | exact hv2 | exact hv3 | exact hv0) (by omega) (by omega) xd_LW_law_775 rfl ?_
        refine xv_aload_n (pc' := 777) (i := 0) hF xd_LW_law_776 rfl rfl rfl ?_
        refine xv_iload (pc' := 779) hF xd_LW_law_777 rfl rfl ?_
        refine xv_iconstN (pc' := 780) 3 hF xd_LW_law_779 (by decide +kernel) rfl ?_
        first | refine xv_iaddN (pc' := 781) hF xd_LW_law_780 rfl ?_ | refine xv_iadd (pc' := 781) hF xd_LW_law_780 rfl ?_
        refine xl_ld (pc' := 782) hF hX (by first | exact hv1 | exact hv2 | exact hv3 | exact hv0) (by omega) (by omega) xd_LW_law_781 rfl ?_
        refine xv_callVi (pc' := 785) (ci := 6) hF (c_MO_pairs K _ h2 (o + 37) th (ec E) w E Tg cs TX SZ SX s t2 0 (OS s) (OS t2) r2 hs ht2 hhow (sl s hs) (sl t2 ht2) hgd hgd2) xq_MO_pairs xk_LW_m95 xk_i_MO_pairs xk_s_MO_pairs (by first | assumption | exact xu_self | (refine (xu_ne (by omega)).trans ?_; first | assumption | exact xu_self | (refine (xu_ne (by omega)).trans ?_; first | assumption | exact xu_self | (refine (xu_ne (by omega)).trans ?_; first | assumption | exact xu_self | (refine (xu_ne (by omega)).trans ?_; first | assumption | exact xu_self))))) rfl ⟨(Nat.le_of_ble_eq_true rfl), (Nat.le_of_ble_eq_true rfl)⟩ rfl rfl (Nat.le_of_ble_eq_true rfl) ⟨(by simp only [xrm]; omega), (by simp only [xrm]; omega)⟩ xd_LW_law_782 rfl (fun r3 n3 h3 q3 => ?_)
        obtain ⟨rfl, f3, w3, M', N2, m1, m2, rfl⟩ := q3
        have m1 : pd_mn (bx_ak E Tg (OS s) (OS s).length 0) M' := m1
        have m2 : pd_mn (bx_ak E Tg (OS t2) (OS t2).length 0) N2 := m2
        have hq3 : h3 (o + 50) = some (.inl (K.2.2.1 2, 1, .inr (.inl f1))) := (f3 _ (by omega)).trans hq2
        obtain ⟨⟨_, _, _, _, _, _, _, _, _, ho9'⟩, -⟩ := id w3
        have ho9 := ho9'.1
        refine xv_istore (pc' := 787) hF xd_LW_law_785 (Nat.le_of_ble_eq_true rfl) rfl rfl ?_
        refine xv_aload_n (pc' := 788) (i := 2) hF xd_LW_law_787 rfl rfl rfl ?_
        refine xv_callVi (pc' := 791) (ci := 6) hF (c_MO_thrown K _ h3 (o + 37) 0 _ _ _ _ _ _ _ ho9) xq_MO_thrown xk_LW_m62 xk_i_MO_thrown xk_s_MO_thrown (by first | assumption | exact xu_self | (refine (xu_ne (by omega)).trans ?_; first | assumption | exact xu_self | (refine (xu_ne (by omega)).trans ?_; first | assumption | exact xu_self | (refine (xu_ne (by omega)).trans ?_; first | assumption | exact xu_self | (refine (xu_ne (by omega)).trans ?_; first | assumption | exact xu_self))))) rfl ⟨(Nat.le_of_ble_eq_true rfl), (Nat.le_of_ble_eq_true rfl)⟩ rfl rfl (Nat.le_of_ble_eq_true rfl) ⟨(by simp only [xrm]; omega), (by simp only [xrm]; omega)⟩ xd_LW_law_788 rfl (fun r9 n9 h9 q9 => ?_)
        obtain ⟨rfl, rfl, rfl⟩ := q9
        refine xv_iload (pc' := 793) hF xd_LW_law_791 rfl rfl ?_
        refine xv_icmp_eqN (pc' := 796) (tgt := 798) hF (by omega) (by omega) xd_LW_law_793 (by decide) rfl (fun e8 => ?_) (fun e8 => ?_)
        · skip
          refine xv_iload (pc' := 800) hF xd_LW_law_798 rfl rfl ?_
          refine xv_if_neN (pc' := 803) (tgt := 815) hF (by omega) xd_LW_law_800 (by decide) rfl (fun e7 => ?_) (fun e7 => ?_)
          · exact absurd e7 (by decide)
          · refine xv_aload_n (pc' := 804) (i := 3) hF xd_LW_law_803 rfl rfl rfl ?_
            refine xv_iconstN (pc' := 805) 0 hF xd_LW_law_804 (by decide +kernel) rfl ?_
            refine xv_laldN (pc' := 806) hF (by first | assumption | exact xu_self | (refine (xu_ne (by omega)).trans ?_; first | assumption | exact xu_self | (refine (xu_ne (by omega)).trans ?_; first | assumption | exact xu_self | (refine (xu_ne (by omega)).trans ?_; first | assumption | exact xu_self | (refine (xu_ne (by omega)).trans ?_; first | assumption | exact xu_self))))) (by omega) (by decide) xd_LW_law_805 rfl ?_
            refine xv_iload (pc' := 808) hF xd_LW_law_806 rfl rfl ?_
            refine xv_i2l (pc' := 809) hF xd_LW_law_808 rfl rfl ?_
            refine xv_lcmp (pc' := 810) hF xd_LW_law_809 rfl ?_
            refine xv_if_eq (pc' := 813) (tgt := 815) hF xd_LW_law_810 (by decide) rfl (fun e6 => ?_) (fun e6 => ?_)
            · refine xv_goto (tgt := 955) hF xd_LW_law_815 (by decide) ?_
              exact xv_loc _ (by repeat (first | exact trivial | refine ⟨rfl, ?_⟩)) (nx _ _ _ _ (li_md OS kn s mk) ⟨E, Tg, cs, w, OS, SX, _, _, TX, SZ, f1, f3.dk d2 (Nat.le_refl _), w3, sl, he, l2, hq3⟩ (by omega) (by omega))
            · exact absurd ((lg_cmp_eq _ _).mpr (by rw [hf1, dk_pr0 M M N2, dk_pr_c 0 (fun i j hi hj => pd_mn_uniq z1 m1 hi hj) (fun i j hi hj => rfl)])) e6
        · exact absurd rfl e8
      · have hgd := (d.2.2.2.2.2.2.2.2.2.1 s hs).2
        have hgd2 := (d.2.2.2.2.2.2.2.2.2.1 t2 ht2).2
        have l1 := li_md_ge OS kn s mk
        have l2 := li_md_le (kn := kn) hgd hmk
        have l3 := li_md_ge OS (va_up kn s true) t2 (li_md OS kn s mk)
        have l4 := li_md_le (kn := va_up kn s true) hgd2 l2
        refine xl_callSi (pc' := 761) (nn := 5) hF hJ (c_LW_pairs K n h o (o + 50) 7 149 _ _ (nI s) (nI t2) (nI how) _ ha (c_PD_pairs K n h o (ec E) w mk s (li_md OS kn s mk) t2 (li_md OS (va_up kn s true) t2 (li_md OS kn s mk)) how E Tg cs OS SX kn d hs rfl ht2 hhow h0 rfl l1 l3) (fun v n' h' q => by obtain ⟨M, N9, -, -, -, -, z4, -⟩ := q; exact ⟨f, (z4 _ (by omega) (by omega)).trans hq⟩)) xk_c_LW_pairs xk_n_LW ⟨(by decide +kernel), (by decide +kernel)⟩ (by decide +kernel) xk_LW_m93 xk_t_LW_pairs ⟨(Nat.le_of_ble_eq_true rfl), (Nat.le_of_ble_eq_true rfl)⟩ rfl rfl (Nat.le_of_ble_eq_true rfl) ⟨(by show k + 3 * (li_md OS (va_up kn s true) t2 (li_md OS kn s mk) - mk) ≤ 262836; omega), (by show kS + 1058 * (li_md OS (va_up kn s true) t2 (li_md OS kn s mk) - mk) ≤ 8307598; omega)⟩ xd_LW_law_758 rfl (fun r1 n1 h1 q1 => ?_)
        obtain ⟨rfl, v, h1', f1, ⟨M, N1, z1, z6, rfl, rfl, z4, z5⟩, rfl, hf1⟩ := q1
        have hq2 : (xu h1' (o + 50) (.inl (K.2.2.1 2, 1, .inr (.inl f1)))) (o + 50) = some (.inl (K.2.2.1 2, 1, .inr (.inl f1))) := xu_self
        have r2 := xu_mo (c := (.inl (K.2.2.1 2, 1, .inr (.inl f1)))) (z4.mo r)
        have d2 := xu_dk (c := (.inl (K.2.2.1 2, 1, .inr (.inl f1)))) z5
        generalize xu h1' (o + 50) (.inl (K.2.2.1 2, 1, .inr (.inl f1))) = h2 at hq2 r2 d2 ⊢
        obtain ⟨⟨_, _, _, _, _, _, _, _, _, ho'⟩, -⟩ := id r2
        have ho := ho'.1
        refine xv_istore (pc' := 763) hF xd_LW_law_761 (Nat.le_of_ble_eq_true rfl) rfl rfl ?_
        refine xv_aload_n (pc' := 764) (i := 2) hF xd_LW_law_763 rfl rfl rfl ?_
        refine xv_aload_n (pc' := 765) (i := 0) hF xd_LW_law_764 rfl rfl rfl ?_
        refine xv_iload (pc' := 767) hF xd_LW_law_765 rfl rfl ?_
        refine xv_iconstN (pc' := 768) 1 hF xd_LW_law_767 (by decide +kernel) rfl ?_
        first | refine xv_iaddN (pc' := 769) hF xd_LW_law_768 rfl ?_ | refine xv_iadd (pc' := 769) hF xd_LW_law_768 rfl ?_
        refine xl_ld (pc' := 770) hF hX (by first | exact hv1 | exact hv2 | exact hv3 | exact hv0) (by omega) (by omega) xd_LW_law_769 rfl ?_
        refine xv_aload_n (pc' := 771) (i := 0) hF xd_LW_law_770 rfl rfl rfl ?_
        refine xv_iload (pc' := 773) hF xd_LW_law_771 rfl rfl ?_
        refine xv_iconstN (pc' := 774) 2 hF xd_LW_law_773 (by decide +kernel) rfl ?_
        first | refine xv_iaddN (pc' := 775) hF xd_LW_law_774 rfl ?_ | refine xv_iadd (pc' := 775) hF xd_LW_law_774 rfl ?_
        refine xl_ld (pc' := 776) hF hX (by first | exact hv1 | exact hv2 | exact hv3 | exact hv0) (by omega) (by omega) xd_LW_law_775 rfl ?_
        refine xv_aload_n (pc' := 777) (i := 0) hF xd_LW_law_776 rfl rfl rfl ?_
        refine xv_iload (pc' := 779) hF xd_LW_law_777 rfl rfl ?_
        refine xv_iconstN (pc' := 780) 3 hF xd_LW_law_779 (by decide +kernel) rfl ?_
        first | refine xv_iaddN (pc' := 781) hF xd_LW_law_780 rfl ?_ | refine xv_iadd (pc' := 781) hF xd_LW_law_780 rfl ?_
        refine xl_ld (pc' := 782) hF hX (by first | exact hv1 | exact hv2 | exact hv3 | exact hv0) (by omega) (by omega) xd_LW_law_781 rfl ?_
        refine xv_callVi (pc' := 785) (ci := 6) hF (c_MO_pairs K _ h2 (o + 37) th (ec E) w E Tg cs TX SZ SX s t2 how (OS s) (OS t2) r2 hs ht2 hhow (sl s hs) (sl t2 ht2) hgd hgd2) xq_MO_pairs xk_LW_m95 xk_i_MO_pairs xk_s_MO_pairs (by first | assumption | exact xu_self | (refine (xu_ne (by omega)).trans ?_; first | assumption | exact xu_self | (refine (xu_ne (by omega)).trans ?_; first | assumption | exact xu_self | (refine (xu_ne (by omega)).trans ?_; first | assumption | exact xu_self | (refine (xu_ne (by omega)).trans ?_; first | assumption | exact xu_self))))) rfl ⟨(Nat.le_of_ble_eq_true rfl), (Nat.le_of_ble_eq_true rfl)⟩ rfl rfl (Nat.le_of_ble_eq_true rfl) ⟨(by simp only [xrm]; omega), (by simp only [xrm]; omega)⟩ xd_LW_law_782 rfl (fun r3 n3 h3 q3 => ?_)
        obtain ⟨rfl, f3, w3, M', N2, m1, m2, rfl⟩ := q3
        have m1 : pd_mn (bx_ak E Tg (OS s) (OS s).length 0) M' := m1
        have m2 : pd_mn (bx_ak E Tg (OS t2) (OS t2).length 0) N2 := m2
        have hq3 : h3 (o + 50) = some (.inl (K.2.2.1 2, 1, .inr (.inl f1))) := (f3 _ (by omega)).trans hq2
        obtain ⟨⟨_, _, _, _, _, _, _, _, _, ho9'⟩, -⟩ := id w3
        have ho9 := ho9'.1
        refine xv_istore (pc' := 787) hF xd_LW_law_785 (Nat.le_of_ble_eq_true rfl) rfl rfl ?_
        refine xv_aload_n (pc' := 788) (i := 2) hF xd_LW_law_787 rfl rfl rfl ?_
        refine xv_callVi (pc' := 791) (ci := 6) hF (c_MO_thrown K _ h3 (o + 37) 0 _ _ _ _ _ _ _ ho9) xq_MO_thrown xk_LW_m62 xk_i_MO_thrown xk_s_MO_thrown (by first | assumption | exact xu_self | (refine (xu_ne (by omega)).trans ?_; first | assumption | exact xu_self | (refine (xu_ne (by omega)).trans ?_; first | assumption | exact xu_self | (refine (xu_ne (by omega)).trans ?_; first | assumption | exact xu_self | (refine (xu_ne (by omega)).trans ?_; first | assumption | exact xu_self))))) rfl ⟨(Nat.le_of_ble_eq_true rfl), (Nat.le_of_ble_eq_true rfl)⟩ rfl rfl (Nat.le_of_ble_eq_true rfl) ⟨(by simp only [xrm]; omega), (by simp only [xrm]; omega)⟩ xd_LW_law_788 rfl (fun r9 n9 h9 q9 => ?_)
        obtain ⟨rfl, rfl, rfl⟩ := q9
        refine xv_iload (pc' := 793) hF xd_LW_law_791 rfl rfl ?_
        refine xv_icmp_eqN (pc' := 796) (tgt := 798) hF (by omega) (by omega) xd_LW_law_793 (by decide) rfl (fun e8 => ?_) (fun e8 => ?_)
        · skip
          refine xv_iload (pc' := 800) hF xd_LW_law_798 rfl rfl ?_
          refine xv_if_neN (pc' := 803) (tgt := 815) hF (by omega) xd_LW_law_800 (by decide) rfl (fun e7 => ?_) (fun e7 => ?_)
          · exact absurd e7 (by decide)
          · refine xv_aload_n (pc' := 804) (i := 3) hF xd_LW_law_803 rfl rfl rfl ?_
            refine xv_iconstN (pc' := 805) 0 hF xd_LW_law_804 (by decide +kernel) rfl ?_
            refine xv_laldN (pc' := 806) hF (by first | assumption | exact xu_self | (refine (xu_ne (by omega)).trans ?_; first | assumption | exact xu_self | (refine (xu_ne (by omega)).trans ?_; first | assumption | exact xu_self | (refine (xu_ne (by omega)).trans ?_; first | assumption | exact xu_self | (refine (xu_ne (by omega)).trans ?_; first | assumption | exact xu_self))))) (by omega) (by decide) xd_LW_law_805 rfl ?_
            refine xv_iload (pc' := 808) hF xd_LW_law_806 rfl rfl ?_
            refine xv_i2l (pc' := 809) hF xd_LW_law_808 rfl rfl ?_
            refine xv_lcmp (pc' := 810) hF xd_LW_law_809 rfl ?_
            refine xv_if_eq (pc' := 813) (tgt := 815) hF xd_LW_law_810 (by decide) rfl (fun e6 => ?_) (fun e6 => ?_)
            · refine xv_goto (tgt := 955) hF xd_LW_law_815 (by decide) ?_
              exact xv_loc _ (by repeat (first | exact trivial | refine ⟨rfl, ?_⟩)) (nx _ _ _ _ (li_md OS (va_up kn s true) t2 (li_md OS kn s mk)) ⟨E, Tg, cs, w, OS, SX, _, _, TX, SZ, f1, f3.dk d2 (Nat.le_refl _), w3, sl, he, l4, hq3⟩ (by omega) (by omega))
            · exact absurd ((lg_cmp_eq _ _).mpr (by rw [hf1, dk_pr_c how (fun i j hi hj => pd_mn_uniq z1 m1 hi hj) (fun i j hi hj => pd_mn_uniq z6 m2 hi hj)])) e6
        · exact absurd rfl e8
