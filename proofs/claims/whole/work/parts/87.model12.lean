/-! the reference: feed -/
set_option maxHeartbeats 4000000 in
set_option maxRecDepth 100000 in
theorem c_MO_feedO (K : xK) (n : Nat) (h : xH) (p th ma w : Nat) (E : Nat → Nat → Nat → Bool) (Tg : Nat → Nat → Bool) (cs : Nat → Nat) (TX : Nat → Nat → Nat) (SZ SX : Nat → Nat) (X : Int64) (x : Int32) (r : mo_W K h p th ma w E Tg cs TX SZ SX) (hno : x < nI 1 ∨ nI 8 < x) : XM K xy_MO_feed xw_MO_feed (xrm 1 22 0 0) [.ref p, .long X, .int x] n h (x_pi fun r n' h' => n = n' ∧ mw_fr p h h' ∧ mo_W K h' p 1 (ma) w (E) (Tg) (cs) (TX) (SZ) (SX)) 0 0 := by
  obtain ⟨⟨ln, at_, f, op, mk, tx, S, so, ba, r1⟩, r2⟩ := id r
  have ho := r1.1
  refine xm_i (by decide +kernel) (Nat.le_of_ble_eq_true rfl) (fun G hF hR => ?_)
  have end1 : XV G 0 0 12 [(0, .ref p), (1, .long X), (3, .int x)] [.ref p] n h := by
    refine xv_iconstN (pc' := 13) 1 hF xd_MO_feed_12 (by decide +kernel) rfl ?_
    refine xv_goto (tgt := 17) hF xd_MO_feed_13 (by decide) ?_
    refine xv_topi (v' := xb true) (by decide +kernel) ?_
    refine xv_iconstN (pc' := 18) 0 hF xd_MO_feed_17 (by decide +kernel) rfl ?_
    refine xv_topi (v' := xb false) (by decide +kernel) ?_
    refine xv_callVi (pc' := 21) (ci := 6) hF (c_MO_fails K n h p th ma w ln at_ f op mk true false ho) xq_MO_fails xk_MO_m56 xk_i_MO_fails xk_s_MO_fails (by first | assumption | exact xu_self | (refine (xu_ne (by omega)).trans ?_; first | assumption | exact xu_self | (refine (xu_ne (by omega)).trans ?_; first | assumption | exact xu_self | (refine (xu_ne (by omega)).trans ?_; first | assumption | exact xu_self | (refine (xu_ne (by omega)).trans ?_; first | assumption | exact xu_self))))) rfl ⟨(Nat.le_of_ble_eq_true rfl), (Nat.le_of_ble_eq_true rfl)⟩ rfl rfl (Nat.le_of_ble_eq_true rfl) ⟨(Nat.le_of_ble_eq_true rfl), (Nat.le_of_ble_eq_true rfl)⟩ xd_MO_feed_18 rfl (fun q0 n1 h1 q1 => ?_)
    obtain ⟨rfl, rfl, rfl⟩ := q1
    have r3 := r1.mm (th' := 1) (ma' := ma) (sz' := w)
    refine xv_if_eqB (pc' := 24) (tgt := 26) hF xd_MO_feed_21 (by decide) rfl (fun e2 => ?_) (fun e2 => ?_)
    · cases e2
    · refine xv_iconstN (pc' := 25) 0 hF xd_MO_feed_24 (by decide +kernel) rfl ?_
      refine hR _ _ _ _ _ _ _ (by omega) (by omega) ?_ xd_MO_feed_25
      exact ⟨rfl, mw_fr.rf.x (by omega), ⟨_, _, _, _, _, _, _, _, _, r3⟩, r2.keep (fun q a1 _ _ _ _ _ _ => xu_ne a1)⟩
  refine xv_aload_n (pc' := 1) (i := 0) hF xd_MO_feed_0 rfl rfl rfl ?_
  refine xv_iload_n (pc' := 2) (i := 3) hF xd_MO_feed_1 rfl rfl rfl ?_
  refine xv_iconstN (pc' := 3) 1 hF xd_MO_feed_2 (by decide +kernel) rfl ?_
  refine xv_icmp_lt (pc' := 6) (tgt := 12) hF xd_MO_feed_3 (by decide) rfl (fun e1 => ?_) (fun e1 => ?_)
  · exact xv_loc _ (by repeat (first | exact trivial | refine ⟨rfl, ?_⟩)) end1
  · refine xv_iload_n (pc' := 7) (i := 3) hF xd_MO_feed_6 rfl rfl rfl ?_
    refine xv_bipushN (pc' := 9) 8 hF xd_MO_feed_7 (by decide +kernel) rfl ?_
    refine xv_icmp_le (pc' := 12) (tgt := 16) hF xd_MO_feed_9 (by decide) rfl (fun e2 => ?_) (fun e2 => ?_)
    · rcases hno with h1 | h1
      · exact absurd h1 e1
      · exact absurd h1 (Int32.not_lt.mpr e2)
    · exact xv_loc _ (by repeat (first | exact trivial | refine ⟨rfl, ?_⟩)) end1
set_option maxHeartbeats 4000000 in
set_option maxRecDepth 100000 in
theorem c_MO_feed (K : xK) (n : Nat) (h : xH) (p th ma w : Nat) (E : Nat → Nat → Nat → Bool) (Tg : Nat → Nat → Bool) (cs : Nat → Nat) (TX : Nat → Nat → Nat) (SZ SX : Nat → Nat) (X : Int64) (m : Nat) (r : mo_W K h p th ma w E Tg cs TX SZ SX) (hm : 1 ≤ m) (hm8 : m ≤ 8) : XM K xy_MO_feed xw_MO_feed (xrm 1 22 0 0) [.ref p, .long X, .int (nI m)] n h (x_pi fun r n' h' => n = n' ∧ mw_fr p h h' ∧ ((100 < w + m ∧ r = -1 ∧ mo_W K h' p 0 (ma) w (E) (Tg) (cs) (TX) (SZ) (SX)) ∨ (w + m ≤ 100 ∧ r = nI (w + m) ∧ mo_W K h' p 0 (ma) (w + m) (E) (Tg) (fd_cs cs w X m) (TX) (SZ) (SX)))) 0 0 := by
  obtain ⟨⟨ln, at_, f, op, mk, tx, S, so, ba, r1⟩, r2⟩ := id r
  have hw := r2.2.1
  have ho := r1.1
  refine xm_i (by decide +kernel) (Nat.le_of_ble_eq_true rfl) (fun G hF hR => ?_)
  refine xv_aload_n (pc' := 1) (i := 0) hF xd_MO_feed_0 rfl rfl rfl ?_
  refine xv_iload_n (pc' := 2) (i := 3) hF xd_MO_feed_1 rfl rfl rfl ?_
  refine xv_iconstN (pc' := 3) 1 hF xd_MO_feed_2 (by decide +kernel) rfl ?_
  refine xv_icmp_ltN (pc' := 6) (tgt := 12) hF (by omega) (by omega) xd_MO_feed_3 (by decide) rfl (fun e1 => ?_) (fun e1 => ?_)
  · omega
  · refine xv_iload_n (pc' := 7) (i := 3) hF xd_MO_feed_6 rfl rfl rfl ?_
    refine xv_bipushN (pc' := 9) 8 hF xd_MO_feed_7 (by decide +kernel) rfl ?_
    refine xv_icmp_leN (pc' := 12) (tgt := 16) hF (by omega) (by omega) xd_MO_feed_9 (by decide) rfl (fun e2 => ?_) (fun e2 => ?_)
    · refine xv_iconstN (pc' := 17) 0 hF xd_MO_feed_16 (by decide +kernel) rfl ?_
      refine xv_topi (v' := xb false) (by decide +kernel) ?_
      refine xv_iconstN (pc' := 18) 0 hF xd_MO_feed_17 (by decide +kernel) rfl ?_
      refine xv_topi (v' := xb false) (by decide +kernel) ?_
      refine xv_callVi (pc' := 21) (ci := 6) hF (c_MO_fails K n h p th ma w ln at_ f op mk false false ho) xq_MO_fails xk_MO_m56 xk_i_MO_fails xk_s_MO_fails (by first | assumption | exact xu_self | (refine (xu_ne (by omega)).trans ?_; first | assumption | exact xu_self | (refine (xu_ne (by omega)).trans ?_; first | assumption | exact xu_self | (refine (xu_ne (by omega)).trans ?_; first | assumption | exact xu_self | (refine (xu_ne (by omega)).trans ?_; first | assumption | exact xu_self))))) rfl ⟨(Nat.le_of_ble_eq_true rfl), (Nat.le_of_ble_eq_true rfl)⟩ rfl rfl (Nat.le_of_ble_eq_true rfl) ⟨(Nat.le_of_ble_eq_true rfl), (Nat.le_of_ble_eq_true rfl)⟩ xd_MO_feed_18 rfl (fun q0 n1 h1 q1 => ?_)
      obtain ⟨rfl, rfl, rfl⟩ := q1
      have r3 := r1.mm (th' := 0) (ma' := ma) (sz' := w)
      have f3 : mw_fr p h (xu h p (.inr (6, [.int (nI 0), .ref (p + 1), .ref (p + 2), .int (nI ma), .ref (p + 3), .int (nI w), .ref (p + 4), .ref (p + 5), .ref (p + 6), .ref (p + 7), .int (nI ln), .int (nI at_), .int (xm1 f), .int (xb mk), .ref (p + 8), .ref (p + 9), .ref (p + 10), .int (nI op), .ref (p + 11), .ref (p + 12)]))) := mw_fr.rf.x (by omega)
      have r4 : mw_X K (xu h p (.inr (6, [.int (nI 0), .ref (p + 1), .ref (p + 2), .int (nI ma), .ref (p + 3), .int (nI w), .ref (p + 4), .ref (p + 5), .ref (p + 6), .ref (p + 7), .int (nI ln), .int (nI at_), .int (xm1 f), .int (xb mk), .ref (p + 8), .ref (p + 9), .ref (p + 10), .int (nI op), .ref (p + 11), .ref (p + 12)]))) p cs w TX SZ SX := r2.keep (fun q a1 _ _ _ _ _ _ => xu_ne a1)
      simp only [Bool.false_eq_true, if_false, Bool.or_false]
      generalize xu h p (.inr (6, [.int (nI 0), .ref (p + 1), .ref (p + 2), .int (nI ma), .ref (p + 3), .int (nI w), .ref (p + 4), .ref (p + 5), .ref (p + 6), .ref (p + 7), .int (nI ln), .int (nI at_), .int (xm1 f), .int (xb mk), .ref (p + 8), .ref (p + 9), .ref (p + 10), .int (nI op), .ref (p + 11), .ref (p + 12)])) = h3 at r3 f3 r4 ⊢
      clear ho
      have ho := r3.1
      obtain ⟨⟨cf, hc1, hc2⟩, hrest⟩ := id r4
      refine xv_if_eqB (pc' := 24) (tgt := 26) hF xd_MO_feed_21 (by decide) rfl (fun e3 => ?_) (fun e3 => ?_)
      · refine xv_aload_n (pc' := 27) (i := 0) hF xd_MO_feed_26 rfl rfl rfl ?_
        refine xv_get (pc' := 30) (ci := 6) hF (by first | assumption | exact xu_self | (refine (xu_ne (by omega)).trans ?_; first | assumption | exact xu_self | (refine (xu_ne (by omega)).trans ?_; first | assumption | exact xu_self | (refine (xu_ne (by omega)).trans ?_; first | assumption | exact xu_self | (refine (xu_ne (by omega)).trans ?_; first | assumption | exact xu_self))))) rfl xu_MO 5 (by decide) xk_MO_f67 (by rfl) xd_MO_feed_27 rfl ?_
        refine xv_iload_n (pc' := 31) (i := 3) hF xd_MO_feed_30 rfl rfl rfl ?_
        first | refine xv_iaddN (pc' := 32) hF xd_MO_feed_31 rfl ?_ | refine xv_iadd (pc' := 32) hF xd_MO_feed_31 rfl ?_
        refine xv_bipushN (pc' := 34) 100 hF xd_MO_feed_32 (by decide +kernel) rfl ?_
        refine xv_icmp_leN (pc' := 37) (tgt := 39) hF (by omega) (by omega) xd_MO_feed_34 (by decide) rfl (fun e4 => ?_) (fun e4 => ?_)
        · refine xv_iload_n (pc' := 40) (i := 3) hF xd_MO_feed_39 rfl rfl rfl ?_
          refine xv_iconstN (pc' := 41) 1 hF xd_MO_feed_40 (by decide +kernel) rfl ?_
          first | refine xv_isubN (pc' := 42) hF (by omega) xd_MO_feed_41 rfl ?_ | refine xv_isub (pc' := 42) hF xd_MO_feed_41 rfl ?_
          refine xv_istore (pc' := 44) hF xd_MO_feed_42 (Nat.le_of_ble_eq_true rfl) rfl rfl ?_
          have loop : ∀ k h4 f1, k ≤ m → (∀ q, q ≠ p → q ≠ p + 3 → h4 q = h3 q) → mo_S K h4 p 0 ma (w + (m - k)) ln at_ f op mk tx E Tg S so ba → h4 (p + 3) = some (.inl (K.2.2.1 0, 100, .inl f1)) → (∀ i, i < w + (m - k) → f1 i = nI (fd_cs cs w X m i)) → XV G (0 + 0) (0 + 0) 44 [(4, .int (xm1 k)), (0, .ref p), (1, .long X), (3, .int (nI m))] [] n h4 := by
            intro k
            induction k with
            | zero =>
              intro h4 f1 _ hf hs hc hv
              clear ho
              have ho := hs.1
              refine xv_iload (pc' := 46) hF xd_MO_feed_44 rfl rfl ?_
              refine xv_if_lt (pc' := 49) (tgt := 86) hF xd_MO_feed_46 (by decide) rfl (fun e5 => ?_) (fun e5 => ?_)
              · refine xv_aload_n (pc' := 87) (i := 0) hF xd_MO_feed_86 rfl rfl rfl ?_
                refine xv_get (pc' := 90) (ci := 6) hF (by first | assumption | exact xu_self | (refine (xu_ne (by omega)).trans ?_; first | assumption | exact xu_self | (refine (xu_ne (by omega)).trans ?_; first | assumption | exact xu_self | (refine (xu_ne (by omega)).trans ?_; first | assumption | exact xu_self | (refine (xu_ne (by omega)).trans ?_; first | assumption | exact xu_self))))) rfl xu_MO 5 (by decide) xk_MO_f67 (by rfl) xd_MO_feed_87 rfl ?_
                refine hR _ _ _ _ _ _ _ (by omega) (by omega) ?_ xd_MO_feed_90
                refine ⟨rfl, f3.tr (fun q c => hf q (by omega) (by omega)), Or.inr ⟨e4, rfl, ⟨_, _, _, _, _, _, _, _, _, hs⟩, ⟨f1, hc, fun i hi => ⟨hv i (by omega), ?_⟩⟩, e4, ?_⟩⟩
                · unfold fd_cs
                  split
                  · exact (hc2 i (by assumption)).2
                  · exact fd_lt _ _
                · obtain ⟨-, ⟨xf, s4, s5⟩, s6, ⟨zf, s7, s8⟩, ⟨yf, s9, sa⟩, ⟨a, sb⟩, b, sc⟩ := hrest
                  exact ⟨⟨xf, (hf _ (by omega) (by omega)).trans s4, s5⟩, s6, ⟨zf, (hf _ (by omega) (by omega)).trans s7, s8⟩, ⟨yf, (hf _ (by omega) (by omega)).trans s9, sa⟩, ⟨a, (hf _ (by omega) (by omega)).trans sb⟩, b, (hf _ (by omega) (by omega)).trans sc⟩
              · exact absurd (by decide +kernel : xm1 0 < 0) e5
            | succ s ih =>
              intro h4 f1 hk hf hs hc hv
              clear ho
              have ho := hs.1
              rw [xm1_s]
              refine xv_iload (pc' := 46) hF xd_MO_feed_44 rfl rfl ?_
              refine xv_if_ltN (pc' := 49) (tgt := 86) hF (by omega) xd_MO_feed_46 (by decide) rfl ?_
              refine xv_aload_n (pc' := 50) (i := 0) hF xd_MO_feed_49 rfl rfl rfl ?_
              refine xv_get (pc' := 53) (ci := 6) hF (by first | assumption | exact xu_self | (refine (xu_ne (by omega)).trans ?_; first | assumption | exact xu_self | (refine (xu_ne (by omega)).trans ?_; first | assumption | exact xu_self | (refine (xu_ne (by omega)).trans ?_; first | assumption | exact xu_self | (refine (xu_ne (by omega)).trans ?_; first | assumption | exact xu_self))))) rfl xu_MO 4 (by decide) xk_MO_f16 (by rfl) xd_MO_feed_50 rfl ?_
              refine xv_aload_n (pc' := 54) (i := 0) hF xd_MO_feed_53 rfl rfl rfl ?_
              refine xv_get (pc' := 57) (ci := 6) hF (by first | assumption | exact xu_self | (refine (xu_ne (by omega)).trans ?_; first | assumption | exact xu_self | (refine (xu_ne (by omega)).trans ?_; first | assumption | exact xu_self | (refine (xu_ne (by omega)).trans ?_; first | assumption | exact xu_self | (refine (xu_ne (by omega)).trans ?_; first | assumption | exact xu_self))))) rfl xu_MO 5 (by decide) xk_MO_f67 (by rfl) xd_MO_feed_54 rfl ?_
              refine xv_lload_n (pc' := 58) (i := 1) hF xd_MO_feed_57 rfl rfl rfl ?_
              refine xv_bipushN (pc' := 60) 8 hF xd_MO_feed_58 (by decide +kernel) rfl ?_
              refine xv_iload (pc' := 62) hF xd_MO_feed_60 rfl rfl ?_
              first | refine xv_imulN (pc' := 63) hF xd_MO_feed_62 rfl ?_ | refine xv_imul (pc' := 63) hF xd_MO_feed_62 rfl ?_
              refine xv_lshr (pc' := 64) hF xd_MO_feed_63 rfl rfl ?_
              refine xv_ldc2 (pc' := 67) hF xk_MO_k70 xd_MO_feed_64 rfl ?_
              refine xv_land (pc' := 68) hF xd_MO_feed_67 rfl ?_
              refine xv_l2i (pc' := 69) hF xd_MO_feed_68 rfl rfl ?_
              refine xv_topi (fd_m X (k := s) (by omega)) ?_
              refine xv_iastN (pc' := 70) hF (by first | assumption | exact xu_self | (refine (xu_ne (by omega)).trans ?_; first | assumption | exact xu_self | (refine (xu_ne (by omega)).trans ?_; first | assumption | exact xu_self | (refine (xu_ne (by omega)).trans ?_; first | assumption | exact xu_self | (refine (xu_ne (by omega)).trans ?_; first | assumption | exact xu_self))))) (by omega) (by decide) xd_MO_feed_69 rfl ?_
              refine xv_aload_n (pc' := 71) (i := 0) hF xd_MO_feed_70 rfl rfl rfl ?_
              refine xv_dup (pc' := 72) hF xd_MO_feed_71 rfl rfl ?_
              refine xv_get (pc' := 75) (ci := 6) hF (by first | assumption | exact xu_self | (refine (xu_ne (by omega)).trans ?_; first | assumption | exact xu_self | (refine (xu_ne (by omega)).trans ?_; first | assumption | exact xu_self | (refine (xu_ne (by omega)).trans ?_; first | assumption | exact xu_self | (refine (xu_ne (by omega)).trans ?_; first | assumption | exact xu_self))))) rfl xu_MO 5 (by decide) xk_MO_f67 (by rfl) xd_MO_feed_72 rfl ?_
              refine xv_iconstN (pc' := 76) 1 hF xd_MO_feed_75 (by decide +kernel) rfl ?_
              first | refine xv_iaddN (pc' := 77) hF xd_MO_feed_76 rfl ?_ | refine xv_iadd (pc' := 77) hF xd_MO_feed_76 rfl ?_
              refine xv_put (pc' := 80) (ci := 6) (ty := xt_MO 5) hF (by first | assumption | exact xu_self | (refine (xu_ne (by omega)).trans ?_; first | assumption | exact xu_self | (refine (xu_ne (by omega)).trans ?_; first | assumption | exact xu_self | (refine (xu_ne (by omega)).trans ?_; first | assumption | exact xu_self | (refine (xu_ne (by omega)).trans ?_; first | assumption | exact xu_self))))) rfl xu_MO xt_MO xo_MO xn_MO 5 (by decide) xk_MO_f67 rfl (by decide +kernel) (by first | rfl | exact xb_nw _ | decide +kernel) (by first | rfl | exact xb_ft _ | decide +kernel) (by exact Nat.le_of_ble_eq_true rfl) (by dsimp only [List.set] <;> rfl) xd_MO_feed_77 rfl ?_
              refine xv_iinc (pc' := 83) hF xd_MO_feed_80 rfl rfl (Nat.le_of_ble_eq_true rfl) rfl rfl ?_
              rw [xm1_dec]
              refine xv_goto (tgt := 44) hF xd_MO_feed_83 (by decide) ?_
              have hs2 : mo_S K (xu (xu h4 (p + 3) (.inl (K.2.2.1 0, 100, .inl (upd f1 (w + (m - (s + 1))) (nI (fd_b X s)))))) p (.inr (6, [.int (nI 0), .ref (p + 1), .ref (p + 2), .int (nI ma), .ref (p + 3), .int (nI (w + (m - (s + 1)) + 1)), .ref (p + 4), .ref (p + 5), .ref (p + 6), .ref (p + 7), .int (nI ln), .int (nI at_), .int (xm1 f), .int (xb mk), .ref (p + 8), .ref (p + 9), .ref (p + 10), .int (nI op), .ref (p + 11), .ref (p + 12)]))) p 0 ma (w + (m - s)) ln at_ f op mk tx E Tg S so ba := by
                rw [show w + (m - s) = w + (m - (s + 1)) + 1 by omega]
                obtain ⟨ho, ⟨g, hs, hg⟩, ⟨sf, hso, hso2⟩, ⟨bf, hba, hba2⟩, ⟨tf, htx, htx2⟩, ⟨ef, hed, hed2⟩, ⟨gf, htg, htg2⟩, b1, b2, b3, b4, b5⟩ := hs
                exact ⟨xu_self, ⟨g, by rw [xu_ne (by omega), xu_ne (by omega)]; exact hs, hg⟩, ⟨sf, by rw [xu_ne (by omega), xu_ne (by omega)]; exact hso, hso2⟩, ⟨bf, by rw [xu_ne (by omega), xu_ne (by omega)]; exact hba, hba2⟩, ⟨tf, by rw [xu_ne (by omega), xu_ne (by omega)]; exact htx, htx2⟩, ⟨ef, by rw [xu_ne (by omega), xu_ne (by omega)]; exact hed, hed2⟩, ⟨gf, by rw [xu_ne (by omega), xu_ne (by omega)]; exact htg, htg2⟩, b1, b2, b3, b4, b5⟩
              refine xv_loc _ (by repeat (first | exact trivial | refine ⟨rfl, ?_⟩)) (ih _ (upd f1 (w + (m - (s + 1))) (nI (fd_b X s))) (by omega) (fun q a b => ?_) hs2 ?_ ?_)
              · rw [xu_ne a, xu_ne b]; exact hf q a b
              · rw [xu_ne (by omega)]; exact xu_self
              · intro i hi
                by_cases c : i = w + (m - (s + 1))
                · subst c
                  rw [pk_us]
                  unfold fd_cs
                  rw [if_neg (by omega)]
                  congr 2
                  omega
                · rw [pk_un c]; exact hv i (by omega)
          rw [show nI (m - 1) = xm1 m by rw [show m = m - 1 + 1 by omega, xm1_s]; rfl]
          refine xv_loc _ (by repeat (first | exact trivial | refine ⟨rfl, ?_⟩)) (loop m h3 cf (Nat.le_refl _) (fun _ _ _ => rfl) (by rw [Nat.sub_self]; exact r3) hc1 (fun i hi => ?_))
          unfold fd_cs
          rw [if_pos (by omega)]
          exact (hc2 i (by omega)).1
        · refine xv_iconst (pc' := 38) (v := -1) hF xd_MO_feed_37 (by decide +kernel) rfl ?_
          refine hR _ _ _ _ _ _ _ (by omega) (by omega) ?_ xd_MO_feed_38
          exact ⟨rfl, f3, Or.inl ⟨e4, rfl, ⟨_, _, _, _, _, _, _, _, _, r3⟩, r4⟩⟩
      · cases e3
    · omega
