/-! the reference: load -/
theorem sl_empty (tx : Nat → Nat) : sl_T tx 0 [1] := by
  refine ⟨0, 0, 0, fun _ => 0, rp_0 0 0 0 (fun _ => 0), rfl, rfl, rfl, fun E Tg => ?_⟩
  show pd_id = pd_or pd_no pd_id
  rw [pd_no_or]
def lm_end (cs : Nat → Nat) (w : Nat) (q0 : rs_T) (r : Int32) (tx : Nat → Nat) (N sx : Nat) : Prop :=
  (∃ f, f ≠ 0 ∧ rd_bad w cs q0 f ∧ r = nI f ∧ N = 0 ∧ sx = 0) ∨ (∃ q, rp_run cs q0 w = some q ∧ q.1 = 0 ∧ q.2.1 = 0 ∧ 80 < (rp_ew q).2.2.2.2.2.2.1 0 ∧ r = -2 ∧ N = 0 ∧ sx = 0) ∨
  ∃ q, rp_run cs q0 w = some q ∧ q.1 = 0 ∧ q.2.1 = 0 ∧ (rp_ew q).2.2.2.2.2.2.1 0 ≤ 80 ∧ r = nI 0 ∧ N = w ∧ tx = cs ∧ sx = (rp_ew q).2.2.2.2.2.2.1 0
set_option maxHeartbeats 4000000 in
set_option maxRecDepth 100000 in
theorem c_MO_load (K : xK) (n : Nat) (h : xH) (p th ma w : Nat) (E : Nat → Nat → Nat → Bool) (Tg : Nat → Nat → Bool) (cs : Nat → Nat) (TX : Nat → Nat → Nat) (SZ SX : Nat → Nat) (s rs le mo : Nat) (en : Nat → Nat) (r : mo_W K h p th ma w E Tg cs TX SZ SX) (hs4 : s < 4) : XM K xy_MO_load xw_MO_load (xrm 7 138 0 0) [.ref p, .int (nI s)] n h (x_pi fun r n' h' => n = n' ∧ mw_fr p h h' ∧ ∃ tx' N' sx', lm_end cs w (rp_0 rs le mo en) r tx' N' sx' ∧ mo_W K h' p 0 (ma) 0 (E) (Tg) (cs) (va_up TX s tx') (va_up SZ s N') (va_up SX s sx')) 0 0 := by
  obtain ⟨⟨ln, at_, f, op, mk, tx, S, so, ba, r1⟩, r2⟩ := id r
  have ho := r1.1
  refine xm_i (by decide +kernel) (Nat.le_of_ble_eq_true rfl) (fun G hF hR => ?_)
  refine xv_aload_n (pc' := 1) (i := 0) hF xd_MO_load_0 rfl rfl rfl ?_
  refine xv_iload_n (pc' := 2) (i := 1) hF xd_MO_load_1 rfl rfl rfl ?_
  refine xv_iconstN (pc' := 3) 4 hF xd_MO_load_2 (by decide +kernel) rfl ?_
  refine xv_callSi (pc' := 6) hF (c_MO_in K n h _ 4) xq_MO_in xk_MO_m52 xk_t_MO_in ⟨(Nat.le_of_ble_eq_true rfl), (Nat.le_of_ble_eq_true rfl)⟩ rfl rfl (Nat.le_of_ble_eq_true rfl) ⟨(Nat.le_of_ble_eq_true rfl), (Nat.le_of_ble_eq_true rfl)⟩ xd_MO_load_3 rfl (fun q0 n1 h1 q1 => ?_)
  obtain ⟨rfl, rfl, rfl⟩ := q1
  rw [x_in_nI hs4 (by decide)]
  refine xv_if_neB (pc' := 9) (tgt := 13) hF xd_MO_load_6 (by decide) rfl (fun e1 => ?_) (fun e1 => ?_)
  · refine xv_iconstN (pc' := 14) 0 hF xd_MO_load_13 (by decide +kernel) rfl ?_
    refine xv_topi (v' := xb false) (by decide +kernel) ?_
    refine xv_iconstN (pc' := 15) 0 hF xd_MO_load_14 (by decide +kernel) rfl ?_
    refine xv_topi (v' := xb false) (by decide +kernel) ?_
    refine xv_callVi (pc' := 18) (ci := 6) hF (c_MO_fails K n h p th ma w ln at_ f op mk false false ho) xq_MO_fails xk_MO_m56 xk_i_MO_fails xk_s_MO_fails (by first | assumption | exact xu_self | (refine (xu_ne (by omega)).trans ?_; first | assumption | exact xu_self | (refine (xu_ne (by omega)).trans ?_; first | assumption | exact xu_self | (refine (xu_ne (by omega)).trans ?_; first | assumption | exact xu_self | (refine (xu_ne (by omega)).trans ?_; first | assumption | exact xu_self))))) rfl ⟨(Nat.le_of_ble_eq_true rfl), (Nat.le_of_ble_eq_true rfl)⟩ rfl rfl (Nat.le_of_ble_eq_true rfl) ⟨(Nat.le_of_ble_eq_true rfl), (Nat.le_of_ble_eq_true rfl)⟩ xd_MO_load_15 rfl (fun q0 n1 h1 q1 => ?_)
    obtain ⟨rfl, rfl, rfl⟩ := q1
    have r3 := r1.mm (th' := 0) (ma' := ma) (sz' := w)
    have f3 : mw_fr p h (xu h p (.inr (6, [.int (nI 0), .ref (p + 1), .ref (p + 2), .int (nI ma), .ref (p + 3), .int (nI w), .ref (p + 4), .ref (p + 5), .ref (p + 6), .ref (p + 7), .int (nI ln), .int (nI at_), .int (xm1 f), .int (xb mk), .ref (p + 8), .ref (p + 9), .ref (p + 10), .int (nI op), .ref (p + 11), .ref (p + 12)]))) := mw_fr.rf.x (by omega)
    have r4 : mw_X K (xu h p (.inr (6, [.int (nI 0), .ref (p + 1), .ref (p + 2), .int (nI ma), .ref (p + 3), .int (nI w), .ref (p + 4), .ref (p + 5), .ref (p + 6), .ref (p + 7), .int (nI ln), .int (nI at_), .int (xm1 f), .int (xb mk), .ref (p + 8), .ref (p + 9), .ref (p + 10), .int (nI op), .ref (p + 11), .ref (p + 12)]))) p cs w TX SZ SX := r2.keep (fun q a1 _ _ _ _ _ _ => xu_ne a1)
    simp only [Bool.false_eq_true, if_false, Bool.or_false]
    generalize xu h p (.inr (6, [.int (nI 0), .ref (p + 1), .ref (p + 2), .int (nI ma), .ref (p + 3), .int (nI w), .ref (p + 4), .ref (p + 5), .ref (p + 6), .ref (p + 7), .int (nI ln), .int (nI at_), .int (xm1 f), .int (xb mk), .ref (p + 8), .ref (p + 9), .ref (p + 10), .int (nI op), .ref (p + 11), .ref (p + 12)])) = h3 at r3 f3 r4 ⊢
    clear ho
    have ho := r3.1
    obtain ⟨⟨cf, x1, x2⟩, x3, ⟨xf, x4, x5⟩, x6, ⟨zf, x7, x8⟩, ⟨yf, x9, xa⟩, ⟨fa, xb'⟩, fb, xc⟩ := id r4
    obtain ⟨tf, htx, -⟩ := r3.2.2.2.2.1
    refine xv_if_eqB (pc' := 21) (tgt := 23) hF xd_MO_load_18 (by decide) rfl (fun e2 => ?_) (fun e2 => ?_)
    · refine xv_iconstN (pc' := 24) 0 hF xd_MO_load_23 (by decide +kernel) rfl ?_
      refine xv_istore_n (pc' := 25) (i := 2) hF xd_MO_load_24 rfl (Nat.le_of_ble_eq_true rfl) rfl rfl ?_
      have aft : ∀ tf1, (∀ i, i < w → tf1 i = nI (cs i)) → XV G (0 + 0 + 0) (0 + 0 + 0) 51 [(2, .int (nI w)), (0, .ref p), (1, .int (nI s))] [] n (xu h3 (p + 7) (.inl (K.2.2.1 0, 101, .inl tf1))) := by
        intro tf1 hv
        refine xv_aload_n (pc' := 52) (i := 0) hF xd_MO_load_51 rfl rfl rfl ?_
        refine xv_aload_n (pc' := 53) (i := 0) hF xd_MO_load_52 rfl rfl rfl ?_
        refine xv_get (pc' := 56) (ci := 6) hF (by first | assumption | exact xu_self | (refine (xu_ne (by omega)).trans ?_; first | assumption | exact xu_self | (refine (xu_ne (by omega)).trans ?_; first | assumption | exact xu_self | (refine (xu_ne (by omega)).trans ?_; first | assumption | exact xu_self | (refine (xu_ne (by omega)).trans ?_; first | assumption | exact xu_self))))) rfl xu_MO 5 (by decide) xk_MO_f67 (by rfl) xd_MO_load_53 rfl ?_
        refine xv_put (pc' := 59) (ci := 6) (ty := xt_MO 10) hF (by first | assumption | exact xu_self | (refine (xu_ne (by omega)).trans ?_; first | assumption | exact xu_self | (refine (xu_ne (by omega)).trans ?_; first | assumption | exact xu_self | (refine (xu_ne (by omega)).trans ?_; first | assumption | exact xu_self | (refine (xu_ne (by omega)).trans ?_; first | assumption | exact xu_self))))) rfl xu_MO xt_MO xo_MO xn_MO 10 (by decide) xk_MO_f75 rfl (by decide +kernel) (by first | rfl | exact xb_nw _ | decide +kernel) (by first | rfl | exact xb_ft _ | decide +kernel) (by exact Nat.le_of_ble_eq_true rfl) (by dsimp only [List.set] <;> rfl) xd_MO_load_56 rfl ?_
        refine xv_aload_n (pc' := 60) (i := 0) hF xd_MO_load_59 rfl rfl rfl ?_
        refine xv_iconstN (pc' := 61) 0 hF xd_MO_load_60 (by decide +kernel) rfl ?_
        refine xv_put (pc' := 64) (ci := 6) (ty := xt_MO 5) hF (by first | assumption | exact xu_self | (refine (xu_ne (by omega)).trans ?_; first | assumption | exact xu_self | (refine (xu_ne (by omega)).trans ?_; first | assumption | exact xu_self | (refine (xu_ne (by omega)).trans ?_; first | assumption | exact xu_self | (refine (xu_ne (by omega)).trans ?_; first | assumption | exact xu_self))))) rfl xu_MO xt_MO xo_MO xn_MO 5 (by decide) xk_MO_f67 rfl (by decide +kernel) (by first | rfl | exact xb_nw _ | decide +kernel) (by first | rfl | exact xb_ft _ | decide +kernel) (by exact Nat.le_of_ble_eq_true rfl) (by dsimp only [List.set] <;> rfl) xd_MO_load_61 rfl ?_
        refine xv_aload_n (pc' := 65) (i := 0) hF xd_MO_load_64 rfl rfl rfl ?_
        refine xv_get (pc' := 68) (ci := 6) hF (by first | assumption | exact xu_self | (refine (xu_ne (by omega)).trans ?_; first | assumption | exact xu_self | (refine (xu_ne (by omega)).trans ?_; first | assumption | exact xu_self | (refine (xu_ne (by omega)).trans ?_; first | assumption | exact xu_self | (refine (xu_ne (by omega)).trans ?_; first | assumption | exact xu_self))))) rfl xu_MO 7 (by decide) xk_MO_f23 (by rfl) xd_MO_load_65 rfl ?_
        refine xv_iload_n (pc' := 69) (i := 1) hF xd_MO_load_68 rfl rfl rfl ?_
        refine xv_iconstN (pc' := 70) 0 hF xd_MO_load_69 (by decide +kernel) rfl ?_
        refine xv_iastN (pc' := 71) hF (by first | assumption | exact xu_self | (refine (xu_ne (by omega)).trans ?_; first | assumption | exact xu_self | (refine (xu_ne (by omega)).trans ?_; first | assumption | exact xu_self | (refine (xu_ne (by omega)).trans ?_; first | assumption | exact xu_self | (refine (xu_ne (by omega)).trans ?_; first | assumption | exact xu_self))))) (by omega) (by decide) xd_MO_load_70 rfl ?_
        refine xv_aload_n (pc' := 72) (i := 0) hF xd_MO_load_71 rfl rfl rfl ?_
        refine xv_get (pc' := 75) (ci := 6) hF (by first | assumption | exact xu_self | (refine (xu_ne (by omega)).trans ?_; first | assumption | exact xu_self | (refine (xu_ne (by omega)).trans ?_; first | assumption | exact xu_self | (refine (xu_ne (by omega)).trans ?_; first | assumption | exact xu_self | (refine (xu_ne (by omega)).trans ?_; first | assumption | exact xu_self))))) rfl xu_MO 8 (by decide) xk_MO_f26 (by rfl) xd_MO_load_72 rfl ?_
        refine xv_iload_n (pc' := 76) (i := 1) hF xd_MO_load_75 rfl rfl rfl ?_
        refine xv_iconstN (pc' := 77) 0 hF xd_MO_load_76 (by decide +kernel) rfl ?_
        refine xv_iastN (pc' := 78) hF (by first | assumption | exact xu_self | (refine (xu_ne (by omega)).trans ?_; first | assumption | exact xu_self | (refine (xu_ne (by omega)).trans ?_; first | assumption | exact xu_self | (refine (xu_ne (by omega)).trans ?_; first | assumption | exact xu_self | (refine (xu_ne (by omega)).trans ?_; first | assumption | exact xu_self))))) (by omega) (by decide) xd_MO_load_77 rfl ?_
        refine xv_aload_n (pc' := 79) (i := 0) hF xd_MO_load_78 rfl rfl rfl ?_
        rw [xu_xu]
        obtain ⟨h4, eh4⟩ : ∃ h4, h4 = xu (xu (xu (xu h3 (p + 7) (.inl (K.2.2.1 0, 101, .inl tf1))) p (.inr (6, [.int (nI 0), .ref (p + 1), .ref (p + 2), .int (nI ma), .ref (p + 3), .int (nI 0), .ref (p + 4), .ref (p + 5), .ref (p + 6), .ref (p + 7), .int (nI w), .int (nI at_), .int (xm1 f), .int (xb mk), .ref (p + 8), .ref (p + 9), .ref (p + 10), .int (nI op), .ref (p + 11), .ref (p + 12)]))) (p + 5) (.inl (K.2.2.1 0, 4, .inl (upd zf s (nI 0))))) (p + 6) (.inl (K.2.2.1 0, 4, .inl (upd yf s (nI 0)))) := ⟨_, rfl⟩
        rw [← eh4]
        have g4 : ∀ q, q ≠ p → q ≠ p + 5 → q ≠ p + 6 → q ≠ p + 7 → h4 q = h3 q := fun q a b c d => by rw [eh4, xu_ne c, xu_ne b, xu_ne a, xu_ne d]
        have ho4 : h4 p = some (.inr (6, [.int (nI 0), .ref (p + 1), .ref (p + 2), .int (nI ma), .ref (p + 3), .int (nI 0), .ref (p + 4), .ref (p + 5), .ref (p + 6), .ref (p + 7), .int (nI w), .int (nI at_), .int (xm1 f), .int (xb mk), .ref (p + 8), .ref (p + 9), .ref (p + 10), .int (nI op), .ref (p + 11), .ref (p + 12)])) := by rw [eh4, xu_ne (by omega), xu_ne (by omega)]; exact xu_self
        have ht4 : h4 (p + 7) = some (.inl (K.2.2.1 0, 101, .inl tf1)) := by rw [eh4, xu_ne (by omega), xu_ne (by omega), xu_ne (by omega)]; exact xu_self
        have hz4 : h4 (p + 5) = some (.inl (K.2.2.1 0, 4, .inl (upd zf s (nI 0)))) := by rw [eh4, xu_ne (by omega)]; exact xu_self
        have hy4 : h4 (p + 6) = some (.inl (K.2.2.1 0, 4, .inl (upd yf s (nI 0)))) := by rw [eh4]; exact xu_self
        clear eh4
        have rX : mw_X K h4 p cs 0 TX (va_up SZ s 0) (va_up SX s 0) := by
          refine ⟨⟨cf, (g4 _ (by omega) (by omega) (by omega) (by omega)).trans x1, fun i hi => absurd hi (Nat.not_lt_zero _)⟩, Nat.zero_le _, ⟨xf, (g4 _ (by omega) (by omega) (by omega) (by omega)).trans x4, fun t i ht hi => ?_⟩, fun t ht => ?_, ⟨_, hz4, fun t ht => ?_⟩, ⟨_, hy4, fun t ht => ?_⟩, ⟨fa, (g4 _ (by omega) (by omega) (by omega) (by omega)).trans xb'⟩, fb, (g4 _ (by omega) (by omega) (by omega) (by omega)).trans xc⟩
          · by_cases c : t = s
            · subst c; rw [va_s] at hi; exact absurd hi (Nat.not_lt_zero _)
            · rw [va_n c] at hi; exact x5 t i ht hi
          · by_cases c : t = s
            · subst c; rw [va_s]; omega
            · rw [va_n c]; exact x6 t ht
          · by_cases c : t = s
            · subst c; rw [va_s, pk_us]
            · rw [va_n c, pk_un c]; exact x8 t ht
          · by_cases c : t = s
            · subst c; rw [va_s, pk_us]
            · rw [va_n c, pk_un c]; exact xa t ht
        have f4 : mw_fr p h h4 := f3.tr (fun q c => g4 q (by omega) (by omega) (by omega) (by omega))
        have r5 : mo_S K (xu h4 p (.inr (6, [.int (nI 0), .ref (p + 1), .ref (p + 2), .int (nI ma), .ref (p + 3), .int (nI 0), .ref (p + 4), .ref (p + 5), .ref (p + 6), .ref (p + 7), .int (nI w), .int (nI 0), .int (xm1 0), .int (xb false), .ref (p + 8), .ref (p + 9), .ref (p + 10), .int (nI 0), .ref (p + 11), .ref (p + 12)]))) p 0 ma 0 w 0 0 0 false cs E Tg S so ba := by
          refine r3.text (fun k _ _ _ _ _ _ _ => ?_) xu_self (by rw [xu_ne (by omega)]; exact ht4) hv (by omega) (by omega) (by omega) x3 (fun i hi => (x2 i hi).2)
          rw [xu_ne (by omega)]; exact g4 _ (by omega) (by omega) (by omega) (by omega)
        clear ho
        have ho := ho4
        refine xv_iconstN (pc' := 80) 0 hF xd_MO_load_79 (by decide +kernel) rfl ?_
        refine xv_topi (v' := xb false) (by decide +kernel) ?_
        refine xv_callVv (pc' := 83) (ci := 6) hF (c_MO_begin2 K n h4 p 0 ma 0 w at_ f op mk cs E Tg S so ba false ho4 r5) xq_MO_begin xk_MO_m159 xk_i_MO_begin xk_s_MO_begin (by first | assumption | exact xu_self | (refine (xu_ne (by omega)).trans ?_; first | assumption | exact xu_self | (refine (xu_ne (by omega)).trans ?_; first | assumption | exact xu_self | (refine (xu_ne (by omega)).trans ?_; first | assumption | exact xu_self | (refine (xu_ne (by omega)).trans ?_; first | assumption | exact xu_self))))) rfl ⟨(Nat.le_of_ble_eq_true rfl), (Nat.le_of_ble_eq_true rfl)⟩ rfl rfl (Nat.le_of_ble_eq_true rfl) ⟨(Nat.le_of_ble_eq_true rfl), (Nat.le_of_ble_eq_true rfl)⟩ xd_MO_load_80 rfl (fun n6 h6 q6 => ?_)
        obtain ⟨rfl, f6, r6⟩ := q6
        clear ho
        have ho := r6.1
        refine xv_aload_n (pc' := 84) (i := 0) hF xd_MO_load_83 rfl rfl rfl ?_
        refine xv_callVv (pc' := 87) (ci := 6) hF (c_MO_read K n h6 p 0 ma 0 w 0 f 0 false cs E Tg _ _ _ (rp_0 rs le mo en) (rp_0 rs le mo en) r6 rfl rfl (ti_0 E Tg false S so ba rs le mo en) (fun h => (by cases h)) (fun h => (by cases h))) xq_MO_read xk_MO_m163 xk_i_MO_read xk_s_MO_read (by first | assumption | exact xu_self | (refine (xu_ne (by omega)).trans ?_; first | assumption | exact xu_self | (refine (xu_ne (by omega)).trans ?_; first | assumption | exact xu_self | (refine (xu_ne (by omega)).trans ?_; first | assumption | exact xu_self | (refine (xu_ne (by omega)).trans ?_; first | assumption | exact xu_self))))) rfl ⟨(Nat.le_of_ble_eq_true rfl), (Nat.le_of_ble_eq_true rfl)⟩ rfl rfl (Nat.le_of_ble_eq_true rfl) ⟨(Nat.le_of_ble_eq_true rfl), (Nat.le_of_ble_eq_true rfl)⟩ xd_MO_load_84 rfl (fun n7 h7 q7 => ?_)
        obtain ⟨rfl, f7, a', f', op', S', so', ba', hfin, r7⟩ := q7
        have f67 := f6.tr f7
        have rX7 : mw_X K h7 p cs 0 TX (va_up SZ s 0) (va_up SX s 0) := rX.keep (fun q c1 _ _ _ c5 c6 c7 => f67 q c1 c5 c6 c7)
        have f7' : mw_fr p h h7 := f4.tr f67.mw
        clear ho
        obtain ⟨ho, -, ⟨sf, hso, hso2⟩, -, ⟨tf7, ht7, ht72⟩, -, -, b1, b2, -⟩ := id r7
        refine xv_aload_n (pc' := 88) (i := 0) hF xd_MO_load_87 rfl rfl rfl ?_
        refine xv_callVi (pc' := 91) (ci := 6) hF (c_MO_goes K n h7 p 0 ma 0 w a' f' op' false ho (by omega)) xq_MO_goes xk_MO_m81 xk_i_MO_goes xk_s_MO_goes (by first | assumption | exact xu_self | (refine (xu_ne (by omega)).trans ?_; first | assumption | exact xu_self | (refine (xu_ne (by omega)).trans ?_; first | assumption | exact xu_self | (refine (xu_ne (by omega)).trans ?_; first | assumption | exact xu_self | (refine (xu_ne (by omega)).trans ?_; first | assumption | exact xu_self))))) rfl ⟨(Nat.le_of_ble_eq_true rfl), (Nat.le_of_ble_eq_true rfl)⟩ rfl rfl (Nat.le_of_ble_eq_true rfl) ⟨(Nat.le_of_ble_eq_true rfl), (Nat.le_of_ble_eq_true rfl)⟩ xd_MO_load_88 rfl (fun q8 n8 h8 q9 => ?_)
        obtain ⟨rfl, rfl, rfl⟩ := q9
        rcases hfin with ⟨y1, y2⟩ | ⟨rfl, q, y1, y2, y3, y4, y5, -⟩
        · rw [decide_eq_false y1]
          refine xv_if_neB (pc' := 94) (tgt := 101) hF xd_MO_load_91 (by decide) rfl (fun e3 => ?_) (fun e3 => ?_)
          · cases e3
          · refine xv_iconstN (pc' := 95) 1 hF xd_MO_load_94 (by decide +kernel) rfl ?_
            refine xv_aload_n (pc' := 96) (i := 0) hF xd_MO_load_95 rfl rfl rfl ?_
            refine xv_get (pc' := 99) (ci := 6) hF (by first | assumption | exact xu_self | (refine (xu_ne (by omega)).trans ?_; first | assumption | exact xu_self | (refine (xu_ne (by omega)).trans ?_; first | assumption | exact xu_self | (refine (xu_ne (by omega)).trans ?_; first | assumption | exact xu_self | (refine (xu_ne (by omega)).trans ?_; first | assumption | exact xu_self))))) rfl xu_MO 12 (by decide) xk_MO_f78 (by rfl) xd_MO_load_96 rfl ?_
            refine xv_topi (v' := nI (f' - 1)) (by rw [show f' = f' - 1 + 1 by omega, xm1_s]; rfl) ?_
            first | refine xv_iaddN (pc' := 100) hF xd_MO_load_99 rfl ?_ | refine xv_iadd (pc' := 100) hF xd_MO_load_99 rfl ?_
            refine hR _ _ _ _ _ _ _ (by omega) (by omega) ?_ xd_MO_load_100
            refine ⟨rfl, f7', TX s, 0, 0, Or.inl ⟨f', y1, y2, by rw [show 1 + (f' - 1) = f' by omega], rfl, rfl⟩, ⟨_, _, _, _, _, _, _, _, _, r7⟩, ?_⟩
            rw [va_up_same]
            exact rX7
        · rw [decide_eq_true rfl]
          refine xv_if_neB (pc' := 94) (tgt := 101) hF xd_MO_load_91 (by decide) rfl (fun e3 => ?_) (fun e3 => ?_)
          · refine xv_aload_n (pc' := 102) (i := 0) hF xd_MO_load_101 rfl rfl rfl ?_
            refine xv_get (pc' := 105) (ci := 6) hF (by first | assumption | exact xu_self | (refine (xu_ne (by omega)).trans ?_; first | assumption | exact xu_self | (refine (xu_ne (by omega)).trans ?_; first | assumption | exact xu_self | (refine (xu_ne (by omega)).trans ?_; first | assumption | exact xu_self | (refine (xu_ne (by omega)).trans ?_; first | assumption | exact xu_self))))) rfl xu_MO 15 (by decide) xk_MO_f36 (by rfl) xd_MO_load_102 rfl ?_
            refine xv_iconstN (pc' := 106) 0 hF xd_MO_load_105 (by decide +kernel) rfl ?_
            first | refine xv_ialdN (pc' := 107) hF (by first | assumption | exact xu_self | (refine (xu_ne (by omega)).trans ?_; first | assumption | exact xu_self | (refine (xu_ne (by omega)).trans ?_; first | assumption | exact xu_self | (refine (xu_ne (by omega)).trans ?_; first | assumption | exact xu_self | (refine (xu_ne (by omega)).trans ?_; first | assumption | exact xu_self))))) (by omega) (by decide) xd_MO_load_106 rfl ?_ | refine xv_iald (pc' := 107) hF (by first | assumption | exact xu_self | (refine (xu_ne (by omega)).trans ?_; first | assumption | exact xu_self | (refine (xu_ne (by omega)).trans ?_; first | assumption | exact xu_self | (refine (xu_ne (by omega)).trans ?_; first | assumption | exact xu_self | (refine (xu_ne (by omega)).trans ?_; first | assumption | exact xu_self))))) (by omega) xd_MO_load_106 rfl ?_
            refine xv_topi (v' := nI (so' 0)) (hso2 0 (by decide)) ?_
            refine xv_bipushN (pc' := 109) 80 hF xd_MO_load_107 (by decide +kernel) rfl ?_
            refine xv_icmp_leN (pc' := 112) (tgt := 115) hF (by omega) (by omega) xd_MO_load_109 (by decide) rfl (fun e4 => ?_) (fun e4 => ?_)
            · refine xv_iconstN (pc' := 116) 0 hF xd_MO_load_115 (by decide +kernel) rfl ?_
              refine xv_istore_n (pc' := 117) (i := 2) hF xd_MO_load_116 rfl (Nat.le_of_ble_eq_true rfl) rfl rfl ?_
              obtain ⟨⟨cf7, z1, z2⟩, z3, ⟨xf7, z4, z5⟩, z6, ⟨zf7, z7, z8⟩, ⟨yf7, z9, za⟩, ⟨fa7, zb⟩, fb7, zc⟩ := id rX7
              have loop2 : ∀ d k xf1, w - k = d → k ≤ w → (∀ t i, t < 4 → t ≠ s → i < SZ t → xf1 (100 * t + i) = nI (TX t i) ∧ TX t i < 256) → (∀ i, i < k → xf1 (100 * s + i) = nI (cs i)) → XV G (0 + 0 + 0 + 0 + 0 + 0) (0 + 0 + 0 + 0 + 0 + 0) 117 [(2, .int (nI k)), (0, .ref p), (1, .int (nI s))] [] n (xu h7 (p + 4) (.inl (K.2.2.1 0, 400, .inl xf1))) := by
                intro d
                induction d using Nat.strongRecOn with
                | ind d ih =>
                  intro k xf1 hd hk hv1 hv2
                  refine xv_iload_n (pc' := 118) (i := 2) hF xd_MO_load_117 rfl rfl rfl ?_
                  refine xv_aload_n (pc' := 119) (i := 0) hF xd_MO_load_118 rfl rfl rfl ?_
                  refine xv_get (pc' := 122) (ci := 6) hF (by first | assumption | exact xu_self | (refine (xu_ne (by omega)).trans ?_; first | assumption | exact xu_self | (refine (xu_ne (by omega)).trans ?_; first | assumption | exact xu_self | (refine (xu_ne (by omega)).trans ?_; first | assumption | exact xu_self | (refine (xu_ne (by omega)).trans ?_; first | assumption | exact xu_self))))) rfl xu_MO 10 (by decide) xk_MO_f75 (by rfl) xd_MO_load_119 rfl ?_
                  refine xv_icmp_geN (pc' := 125) (tgt := 148) hF (by omega) (by omega) xd_MO_load_122 (by decide) rfl (fun e5 => ?_) (fun e5 => ?_)
                  · have e0 : k = w := by omega
                    subst e0
                    refine xv_aload_n (pc' := 149) (i := 0) hF xd_MO_load_148 rfl rfl rfl ?_
                    refine xv_get (pc' := 152) (ci := 6) hF (by first | assumption | exact xu_self | (refine (xu_ne (by omega)).trans ?_; first | assumption | exact xu_self | (refine (xu_ne (by omega)).trans ?_; first | assumption | exact xu_self | (refine (xu_ne (by omega)).trans ?_; first | assumption | exact xu_self | (refine (xu_ne (by omega)).trans ?_; first | assumption | exact xu_self))))) rfl xu_MO 7 (by decide) xk_MO_f23 (by rfl) xd_MO_load_149 rfl ?_
                    refine xv_iload_n (pc' := 153) (i := 1) hF xd_MO_load_152 rfl rfl rfl ?_
                    refine xv_aload_n (pc' := 154) (i := 0) hF xd_MO_load_153 rfl rfl rfl ?_
                    refine xv_get (pc' := 157) (ci := 6) hF (by first | assumption | exact xu_self | (refine (xu_ne (by omega)).trans ?_; first | assumption | exact xu_self | (refine (xu_ne (by omega)).trans ?_; first | assumption | exact xu_self | (refine (xu_ne (by omega)).trans ?_; first | assumption | exact xu_self | (refine (xu_ne (by omega)).trans ?_; first | assumption | exact xu_self))))) rfl xu_MO 10 (by decide) xk_MO_f75 (by rfl) xd_MO_load_154 rfl ?_
                    refine xv_iastN (pc' := 158) hF (by first | assumption | exact xu_self | (refine (xu_ne (by omega)).trans ?_; first | assumption | exact xu_self | (refine (xu_ne (by omega)).trans ?_; first | assumption | exact xu_self | (refine (xu_ne (by omega)).trans ?_; first | assumption | exact xu_self | (refine (xu_ne (by omega)).trans ?_; first | assumption | exact xu_self))))) (by omega) (by decide) xd_MO_load_157 rfl ?_
                    refine xv_aload_n (pc' := 159) (i := 0) hF xd_MO_load_158 rfl rfl rfl ?_
                    refine xv_get (pc' := 162) (ci := 6) hF (by first | assumption | exact xu_self | (refine (xu_ne (by omega)).trans ?_; first | assumption | exact xu_self | (refine (xu_ne (by omega)).trans ?_; first | assumption | exact xu_self | (refine (xu_ne (by omega)).trans ?_; first | assumption | exact xu_self | (refine (xu_ne (by omega)).trans ?_; first | assumption | exact xu_self))))) rfl xu_MO 8 (by decide) xk_MO_f26 (by rfl) xd_MO_load_159 rfl ?_
                    refine xv_iload_n (pc' := 163) (i := 1) hF xd_MO_load_162 rfl rfl rfl ?_
                    refine xv_aload_n (pc' := 164) (i := 0) hF xd_MO_load_163 rfl rfl rfl ?_
                    refine xv_get (pc' := 167) (ci := 6) hF (by first | assumption | exact xu_self | (refine (xu_ne (by omega)).trans ?_; first | assumption | exact xu_self | (refine (xu_ne (by omega)).trans ?_; first | assumption | exact xu_self | (refine (xu_ne (by omega)).trans ?_; first | assumption | exact xu_self | (refine (xu_ne (by omega)).trans ?_; first | assumption | exact xu_self))))) rfl xu_MO 15 (by decide) xk_MO_f36 (by rfl) xd_MO_load_164 rfl ?_
                    refine xv_iconstN (pc' := 168) 0 hF xd_MO_load_167 (by decide +kernel) rfl ?_
                    first | refine xv_ialdN (pc' := 169) hF (by first | assumption | exact xu_self | (refine (xu_ne (by omega)).trans ?_; first | assumption | exact xu_self | (refine (xu_ne (by omega)).trans ?_; first | assumption | exact xu_self | (refine (xu_ne (by omega)).trans ?_; first | assumption | exact xu_self | (refine (xu_ne (by omega)).trans ?_; first | assumption | exact xu_self))))) (by omega) (by decide) xd_MO_load_168 rfl ?_ | refine xv_iald (pc' := 169) hF (by first | assumption | exact xu_self | (refine (xu_ne (by omega)).trans ?_; first | assumption | exact xu_self | (refine (xu_ne (by omega)).trans ?_; first | assumption | exact xu_self | (refine (xu_ne (by omega)).trans ?_; first | assumption | exact xu_self | (refine (xu_ne (by omega)).trans ?_; first | assumption | exact xu_self))))) (by omega) xd_MO_load_168 rfl ?_
                    refine xv_topi (v' := nI (so' 0)) (hso2 0 (by decide)) ?_
                    refine xv_iastN (pc' := 170) hF (by first | assumption | exact xu_self | (refine (xu_ne (by omega)).trans ?_; first | assumption | exact xu_self | (refine (xu_ne (by omega)).trans ?_; first | assumption | exact xu_self | (refine (xu_ne (by omega)).trans ?_; first | assumption | exact xu_self | (refine (xu_ne (by omega)).trans ?_; first | assumption | exact xu_self))))) (by omega) (by decide) xd_MO_load_169 rfl ?_
                    refine xv_iconstN (pc' := 171) 0 hF xd_MO_load_170 (by decide +kernel) rfl ?_
                    refine hR _ _ _ _ _ _ _ (by omega) (by omega) ?_ xd_MO_load_171
                    have r9 : mo_S K (xu (xu (xu h7 (p + 4) (.inl (K.2.2.1 0, 400, .inl xf1))) (p + 5) (.inl (K.2.2.1 0, 4, .inl (upd zf7 s (nI k))))) (p + 6) (.inl (K.2.2.1 0, 4, .inl (upd yf7 s (nI (so' 0)))))) p 0 ma 0 k a' 0 op' false cs E Tg S' so' ba' := by
                      obtain ⟨ho, ⟨g, hs, hg⟩, ⟨sf, hso, hso2⟩, ⟨bf, hba, hba2⟩, ⟨tf, htx, htx2⟩, ⟨ef, hed, hed2⟩, ⟨gf, htg, htg2⟩, b1, b2, b3, b4, b5⟩ := r7
                      exact ⟨by rw [xu_ne (by omega), xu_ne (by omega), xu_ne (by omega)]; exact ho, ⟨g, by rw [xu_ne (by omega), xu_ne (by omega), xu_ne (by omega)]; exact hs, hg⟩, ⟨sf, by rw [xu_ne (by omega), xu_ne (by omega), xu_ne (by omega)]; exact hso, hso2⟩, ⟨bf, by rw [xu_ne (by omega), xu_ne (by omega), xu_ne (by omega)]; exact hba, hba2⟩, ⟨tf, by rw [xu_ne (by omega), xu_ne (by omega), xu_ne (by omega)]; exact htx, htx2⟩, ⟨ef, by rw [xu_ne (by omega), xu_ne (by omega), xu_ne (by omega)]; exact hed, hed2⟩, ⟨gf, by rw [xu_ne (by omega), xu_ne (by omega), xu_ne (by omega)]; exact htg, htg2⟩, b1, b2, b3, b4, b5⟩
                    refine ⟨rfl, ((f7'.x (by omega)).x (by omega)).x (by omega), cs, k, so' 0, Or.inr (Or.inr ⟨q, y1, y2, y3, by omega, rfl, rfl, rfl, by omega⟩), ⟨_, _, _, _, _, _, _, _, _, r9⟩, ⟨cf7, by rw [xu_ne (by omega), xu_ne (by omega), xu_ne (by omega)]; exact z1, fun i hi => absurd hi (Nat.not_lt_zero _)⟩, Nat.zero_le _, ⟨xf1, by rw [xu_ne (by omega), xu_ne (by omega)]; exact xu_self, fun t i ht hi => ?_⟩, fun t ht => ?_, ⟨_, by rw [xu_ne (by omega)]; exact xu_self, fun t ht => ?_⟩, ⟨_, xu_self, fun t ht => ?_⟩, ⟨fa7, by rw [xu_ne (by omega), xu_ne (by omega), xu_ne (by omega)]; exact zb⟩, fb7, by rw [xu_ne (by omega), xu_ne (by omega), xu_ne (by omega)]; exact zc⟩
                    · by_cases c : t = s
                      · subst c; rw [va_s] at hi ⊢; exact ⟨hv2 i hi, (x2 i hi).2⟩
                      · rw [va_n c] at hi ⊢; exact hv1 t i ht c hi
                    · by_cases c : t = s
                      · subst c; rw [va_s]; exact x3
                      · rw [va_n c]; exact x6 t ht
                    · by_cases c : t = s
                      · subst c; rw [va_s, pk_us]
                      · rw [va_n c, pk_un c, z8 t ht, va_n c]
                    · by_cases c : t = s
                      · subst c; rw [va_s, pk_us]
                      · rw [va_n c, pk_un c, za t ht, va_n c]
                  · refine xv_aload_n (pc' := 126) (i := 0) hF xd_MO_load_125 rfl rfl rfl ?_
                    refine xv_get (pc' := 129) (ci := 6) hF (by first | assumption | exact xu_self | (refine (xu_ne (by omega)).trans ?_; first | assumption | exact xu_self | (refine (xu_ne (by omega)).trans ?_; first | assumption | exact xu_self | (refine (xu_ne (by omega)).trans ?_; first | assumption | exact xu_self | (refine (xu_ne (by omega)).trans ?_; first | assumption | exact xu_self))))) rfl xu_MO 6 (by decide) xk_MO_f20 (by rfl) xd_MO_load_126 rfl ?_
                    refine xv_bipushN (pc' := 131) 100 hF xd_MO_load_129 (by decide +kernel) rfl ?_
                    refine xv_iload_n (pc' := 132) (i := 1) hF xd_MO_load_131 rfl rfl rfl ?_
                    first | refine xv_imulN (pc' := 133) hF xd_MO_load_132 rfl ?_ | refine xv_imul (pc' := 133) hF xd_MO_load_132 rfl ?_
                    refine xv_iload_n (pc' := 134) (i := 2) hF xd_MO_load_133 rfl rfl rfl ?_
                    first | refine xv_iaddN (pc' := 135) hF xd_MO_load_134 rfl ?_ | refine xv_iadd (pc' := 135) hF xd_MO_load_134 rfl ?_
                    refine xv_aload_n (pc' := 136) (i := 0) hF xd_MO_load_135 rfl rfl rfl ?_
                    refine xv_get (pc' := 139) (ci := 6) hF (by first | assumption | exact xu_self | (refine (xu_ne (by omega)).trans ?_; first | assumption | exact xu_self | (refine (xu_ne (by omega)).trans ?_; first | assumption | exact xu_self | (refine (xu_ne (by omega)).trans ?_; first | assumption | exact xu_self | (refine (xu_ne (by omega)).trans ?_; first | assumption | exact xu_self))))) rfl xu_MO 9 (by decide) xk_MO_f29 (by rfl) xd_MO_load_136 rfl ?_
                    refine xv_iload_n (pc' := 140) (i := 2) hF xd_MO_load_139 rfl rfl rfl ?_
                    first | refine xv_ialdN (pc' := 141) hF (by first | assumption | exact xu_self | (refine (xu_ne (by omega)).trans ?_; first | assumption | exact xu_self | (refine (xu_ne (by omega)).trans ?_; first | assumption | exact xu_self | (refine (xu_ne (by omega)).trans ?_; first | assumption | exact xu_self | (refine (xu_ne (by omega)).trans ?_; first | assumption | exact xu_self))))) (by omega) (by decide) xd_MO_load_140 rfl ?_ | refine xv_iald (pc' := 141) hF (by first | assumption | exact xu_self | (refine (xu_ne (by omega)).trans ?_; first | assumption | exact xu_self | (refine (xu_ne (by omega)).trans ?_; first | assumption | exact xu_self | (refine (xu_ne (by omega)).trans ?_; first | assumption | exact xu_self | (refine (xu_ne (by omega)).trans ?_; first | assumption | exact xu_self))))) (by omega) xd_MO_load_140 rfl ?_
                    refine xv_topi (ht72 k e5) ?_
                    refine xv_iastN (pc' := 142) hF (by first | assumption | exact xu_self | (refine (xu_ne (by omega)).trans ?_; first | assumption | exact xu_self | (refine (xu_ne (by omega)).trans ?_; first | assumption | exact xu_self | (refine (xu_ne (by omega)).trans ?_; first | assumption | exact xu_self | (refine (xu_ne (by omega)).trans ?_; first | assumption | exact xu_self))))) (by omega) (by decide) xd_MO_load_141 rfl ?_
                    first | refine xv_iincN (pc' := 145) hF xd_MO_load_142 rfl rfl (Nat.le_of_ble_eq_true rfl) rfl rfl ?_ | refine xv_iinc (pc' := 145) hF xd_MO_load_142 rfl rfl (Nat.le_of_ble_eq_true rfl) rfl rfl ?_
                    refine xv_goto (tgt := 117) hF xd_MO_load_145 (by decide) ?_
                    rw [xu_xu]
                    refine xv_loc _ (by repeat (first | exact trivial | refine ⟨rfl, ?_⟩)) (ih _ (by omega) (k + 1) _ rfl (by omega) (fun t i ht hne hi => ?_) (fun i hi => ?_))
                    · have := x6 t ht
                      rw [pk_un (by omega)]; exact hv1 t i ht hne hi
                    · by_cases c : i = k
                      · subst c; rw [pk_us]
                      · rw [pk_un (by omega)]; exact hv2 i (by omega)
              have l0 := loop2 w 0 xf7 (by omega) (by omega) (fun t i ht hne hi => z5 t i ht (by rw [va_n hne]; exact hi)) (fun i hi => absurd hi (Nat.not_lt_zero _))
              rw [xu_same z4] at l0
              exact xv_loc _ (by repeat (first | exact trivial | refine ⟨rfl, ?_⟩)) l0
            · refine xv_bipush (pc' := 114) (v := -2) hF xd_MO_load_112 (by decide +kernel) rfl ?_
              refine hR _ _ _ _ _ _ _ (by omega) (by omega) ?_ xd_MO_load_114
              refine ⟨rfl, f7', TX s, 0, 0, Or.inr (Or.inl ⟨q, y1, y2, y3, by omega, rfl, rfl, rfl⟩), ⟨_, _, _, _, _, _, _, _, _, r7⟩, ?_⟩
              rw [va_up_same]
              exact rX7
          · cases e3
      have loop : ∀ d k tf1, w - k = d → k ≤ w → (∀ i, i < k → tf1 i = nI (cs i)) → XV G (0 + 0 + 0) (0 + 0 + 0) 25 [(2, .int (nI k)), (0, .ref p), (1, .int (nI s))] [] n (xu h3 (p + 7) (.inl (K.2.2.1 0, 101, .inl tf1))) := by
        intro d
        induction d using Nat.strongRecOn with
        | ind d ih =>
          intro k tf1 hd hk hv
          refine xv_iload_n (pc' := 26) (i := 2) hF xd_MO_load_25 rfl rfl rfl ?_
          refine xv_aload_n (pc' := 27) (i := 0) hF xd_MO_load_26 rfl rfl rfl ?_
          refine xv_get (pc' := 30) (ci := 6) hF (by first | assumption | exact xu_self | (refine (xu_ne (by omega)).trans ?_; first | assumption | exact xu_self | (refine (xu_ne (by omega)).trans ?_; first | assumption | exact xu_self | (refine (xu_ne (by omega)).trans ?_; first | assumption | exact xu_self | (refine (xu_ne (by omega)).trans ?_; first | assumption | exact xu_self))))) rfl xu_MO 5 (by decide) xk_MO_f67 (by rfl) xd_MO_load_27 rfl ?_
          refine xv_icmp_geN (pc' := 33) (tgt := 51) hF (by omega) (by omega) xd_MO_load_30 (by decide) rfl (fun e5 => ?_) (fun e5 => ?_)
          · have e0 : k = w := by omega
            subst e0
            exact xv_loc _ (by repeat (first | exact trivial | refine ⟨rfl, ?_⟩)) (aft tf1 hv)
          · refine xv_aload_n (pc' := 34) (i := 0) hF xd_MO_load_33 rfl rfl rfl ?_
            refine xv_get (pc' := 37) (ci := 6) hF (by first | assumption | exact xu_self | (refine (xu_ne (by omega)).trans ?_; first | assumption | exact xu_self | (refine (xu_ne (by omega)).trans ?_; first | assumption | exact xu_self | (refine (xu_ne (by omega)).trans ?_; first | assumption | exact xu_self | (refine (xu_ne (by omega)).trans ?_; first | assumption | exact xu_self))))) rfl xu_MO 9 (by decide) xk_MO_f29 (by rfl) xd_MO_load_34 rfl ?_
            refine xv_iload_n (pc' := 38) (i := 2) hF xd_MO_load_37 rfl rfl rfl ?_
            refine xv_aload_n (pc' := 39) (i := 0) hF xd_MO_load_38 rfl rfl rfl ?_
            refine xv_get (pc' := 42) (ci := 6) hF (by first | assumption | exact xu_self | (refine (xu_ne (by omega)).trans ?_; first | assumption | exact xu_self | (refine (xu_ne (by omega)).trans ?_; first | assumption | exact xu_self | (refine (xu_ne (by omega)).trans ?_; first | assumption | exact xu_self | (refine (xu_ne (by omega)).trans ?_; first | assumption | exact xu_self))))) rfl xu_MO 4 (by decide) xk_MO_f16 (by rfl) xd_MO_load_39 rfl ?_
            refine xv_iload_n (pc' := 43) (i := 2) hF xd_MO_load_42 rfl rfl rfl ?_
            first | refine xv_ialdN (pc' := 44) hF (by first | assumption | exact xu_self | (refine (xu_ne (by omega)).trans ?_; first | assumption | exact xu_self | (refine (xu_ne (by omega)).trans ?_; first | assumption | exact xu_self | (refine (xu_ne (by omega)).trans ?_; first | assumption | exact xu_self | (refine (xu_ne (by omega)).trans ?_; first | assumption | exact xu_self))))) (by omega) (by decide) xd_MO_load_43 rfl ?_ | refine xv_iald (pc' := 44) hF (by first | assumption | exact xu_self | (refine (xu_ne (by omega)).trans ?_; first | assumption | exact xu_self | (refine (xu_ne (by omega)).trans ?_; first | assumption | exact xu_self | (refine (xu_ne (by omega)).trans ?_; first | assumption | exact xu_self | (refine (xu_ne (by omega)).trans ?_; first | assumption | exact xu_self))))) (by omega) xd_MO_load_43 rfl ?_
            refine xv_topi (x2 k e5).1 ?_
            refine xv_iastN (pc' := 45) hF (by first | assumption | exact xu_self | (refine (xu_ne (by omega)).trans ?_; first | assumption | exact xu_self | (refine (xu_ne (by omega)).trans ?_; first | assumption | exact xu_self | (refine (xu_ne (by omega)).trans ?_; first | assumption | exact xu_self | (refine (xu_ne (by omega)).trans ?_; first | assumption | exact xu_self))))) (by omega) (by decide) xd_MO_load_44 rfl ?_
            first | refine xv_iincN (pc' := 48) hF xd_MO_load_45 rfl rfl (Nat.le_of_ble_eq_true rfl) rfl rfl ?_ | refine xv_iinc (pc' := 48) hF xd_MO_load_45 rfl rfl (Nat.le_of_ble_eq_true rfl) rfl rfl ?_
            refine xv_goto (tgt := 25) hF xd_MO_load_48 (by decide) ?_
            rw [xu_xu]
            refine xv_loc _ (by repeat (first | exact trivial | refine ⟨rfl, ?_⟩)) (ih _ (by omega) (k + 1) _ rfl (by omega) (fun z hz2 => ?_))
            by_cases c : z = k
            · subst c; rw [pk_us]
            · rw [pk_un c]; exact hv z (by omega)
      have l0 := loop w 0 tf (by omega) (by omega) (fun z hz => absurd hz (Nat.not_lt_zero _))
      rw [xu_same htx] at l0
      exact xv_loc _ (by repeat (first | exact trivial | refine ⟨rfl, ?_⟩)) l0
    · cases e2
  · cases e1
