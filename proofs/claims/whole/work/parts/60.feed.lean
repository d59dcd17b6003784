/-! PathDesk.feed in range -/
def fd_cs (cs : Nat → Nat) (w : Nat) (X : Int64) (m : Nat) : Nat → Nat := fun i => if i < w then cs i else fd_b X (m - 1 - (i - w))
theorem xm1_s (s : Nat) : xm1 (s + 1) = nI s := by unfold xm1; rw [if_neg (by omega)]; rfl
theorem xm1_dec (s : Nat) : nI s + Int32.ofInt (-1) = xm1 s := by
  cases s with
  | zero => decide +kernel
  | succ s => rw [show Int32.ofInt (-1) = -1 from by decide +kernel, ← Int32.sub_eq_add_neg, nI_pred, xm1_s]
theorem dk_R.fed {K : xK} {h h' : xH} {n o e w w' made : Nat} {E : Nat → Nat → Nat → Bool} {Tg : Nat → Nat → Bool} {cs cs' : Nat → Nat} {OS : Nat → List Nat} {SX : Nat → Nat} {kn : Nat → Bool} {f' : Nat → Int32} (p : dk_R K h n o E Tg e cs w OS SX kn made) (hf : ∀ q, q ≠ o → q ≠ o + 13 → h' q = h q) (ho : h' o = some (.inr (0, [.ref (o + 1), .ref (o + 4), .ref (o + 8), .ref (o + 13), .int (nI w'), .ref (o + 14), .ref (o + 15), .ref (o + 16)]))) (hc : h' (o + 13) = some (.inl (K.2.2.1 0, 100, .inl f'))) (hc2 : ∀ i, i < w' → f' i = nI (cs' i) ∧ cs' i < 256) (hw : w' ≤ 100) : dk_R K h' n o E Tg e cs' w' OS SX kn made := by
  have re : ∀ {a : Nat} {M : Nat → Nat → Nat}, (o + 1 ≤ a ∧ a + 2 < o + 13) ∨ o + 14 ≤ a → re_R K h a M → re_R K h' a M := by
    rintro a M ha ⟨f, g, ⟨a1, a2, a3⟩, a4⟩
    exact ⟨f, g, ⟨by rw [hf _ (by omega) (by omega)]; exact a1, by rw [hf _ (by omega) (by omega)]; exact a2, by rw [hf _ (by omega) (by omega)]; exact a3⟩, a4⟩
  have ex : ∀ {a : Nat} {os : List Nat} {sx : Nat}, (a = o + 6 ∨ ∃ i, i < 4 ∧ a = o + 17 + 5 * i) → ex_R K h a os sx → ex_R K h' a os sx := by
    rintro a os sx ha ⟨a4, g, ⟨a5, a6⟩, a7⟩
    have : (o + 4 ≤ a ∧ a + 1 < o + 13) ∨ o + 14 ≤ a := by rcases ha with ha | ⟨i, hi, ha⟩ <;> omega
    exact ⟨a4, g, ⟨by rw [hf _ (by omega) (by omega)]; exact a5, by rw [hf _ (by omega) (by omega)]; exact a6⟩, a7⟩
  obtain ⟨p1, p2, ⟨x, q, sx, p3, hx⟩, ⟨ht, ad, sp, Mv, p4⟩, -, -, ⟨g1, p8, p9⟩, ⟨g2, pa, pb⟩, ⟨kf, pc, pd⟩, pe, pf⟩ := p
  refine ⟨ho, ?_, ⟨x, q, sx, ?_, hx⟩, ⟨ht, ad, sp, Mv, ?_⟩, ⟨f', hc, hc2⟩, hw, ⟨g1, by rw [hf _ (by omega) (by omega)]; exact p8, p9⟩, ⟨g2, by rw [hf _ (by omega) (by omega)]; exact pa, pb⟩, ⟨kf, by rw [hf _ (by omega) (by omega)]; exact pc, pd⟩, fun j hj => ⟨ex (Or.inr ⟨j, hj, rfl⟩) (pe j hj).1, (pe j hj).2⟩, fun j hj => ?_⟩
  · obtain ⟨T, g, ⟨a1, a2, a3⟩, a4⟩ := p2
    exact ⟨T, g, ⟨by rw [hf _ (by omega) (by omega)]; exact a1, by rw [hf _ (by omega) (by omega)]; exact a2, by rw [hf _ (by omega) (by omega)]; exact a3⟩, a4⟩
  · obtain ⟨a1, ⟨f, a2, a3⟩, a4, a8⟩ := p3
    exact ⟨by rw [hf _ (by omega) (by omega)]; exact a1, ⟨f, by rw [hf _ (by omega) (by omega)]; exact a2, a3⟩, ex hx a4, a8⟩
  · obtain ⟨⟨pl, b1, b2, b3⟩, i1, i2, i3, i4, ⟨Ms, i5⟩, i6, i7⟩ := p4
    have bek : ∀ {a : Nat} {M : Nat → Nat → Nat}, be_ok o n a → re_R K h a M → re_R K h' a M := by
      intro a M ha
      unfold be_ok at ha
      exact re (by omega)
    exact ⟨⟨pl, by rw [hf _ (by omega) (by omega)]; exact b1, by rw [hf _ (by omega) (by omega)]; exact b2, b3⟩, i1, i2, fun j hj => ⟨(i3 j hj).1, bek (i3 j hj).1 (i3 j hj).2⟩, i4, ⟨Ms, bek i4 i5⟩, i6, i7⟩
  · obtain ⟨M, m1, m2⟩ := pf j hj
    exact ⟨M, re (by omega) m1, m2⟩
set_option maxHeartbeats 4000000 in
set_option maxRecDepth 100000 in
theorem c_PD_feed (K : xK) (n : Nat) (h : xH) (o e w made m : Nat) (X : Int64) (E : Nat → Nat → Nat → Bool) (Tg : Nat → Nat → Bool) (cs : Nat → Nat) (OS : Nat → List Nat) (SX : Nat → Nat) (kn : Nat → Bool) (hr : dk_R K h n o E Tg e cs w OS SX kn made) (hm : 1 ≤ m) (hm8 : m ≤ 8) : XM K xy_PD_feed xw_PD_feed (xrm 0 0 0 0) [.ref o, .long X, .int (nI m)] n h (x_pi fun r n' h' => n = n' ∧ ((100 < w + m ∧ r = -1 ∧ h = h') ∨ (w + m ≤ 100 ∧ r = nI (w + m) ∧ dk_fr o h h' ∧ dk_R K h' n o E Tg e (fd_cs cs w X m) (w + m) OS SX kn made))) 0 0 := by
  obtain ⟨p1, p2, -, -, ⟨f, p5, p6⟩, p7, -⟩ := id hr
  refine xm_i (by decide +kernel) (Nat.le_of_ble_eq_true rfl) (fun G hF hR => ?_)
  refine xv_iload_n (pc' := 1) (i := 3) hF xd_PD_feed_0 rfl rfl rfl ?_
  refine xv_iconstN (pc' := 2) 1 hF xd_PD_feed_1 (by decide +kernel) rfl ?_
  refine xv_icmp_ltN (pc' := 5) (tgt := 11) hF (by omega) (by omega) xd_PD_feed_2 (by decide) rfl (fun e1 => ?_) (fun e1 => ?_)
  · omega
  · refine xv_iload_n (pc' := 6) (i := 3) hF xd_PD_feed_5 rfl rfl rfl ?_
    refine xv_bipushN (pc' := 8) 8 hF xd_PD_feed_6 (by decide +kernel) rfl ?_
    refine xv_icmp_leN (pc' := 11) (tgt := 21) hF (by omega) (by omega) xd_PD_feed_8 (by decide) rfl (fun e2 => ?_) (fun e2 => ?_)
    · refine xv_aload_n (pc' := 22) (i := 0) hF xd_PD_feed_21 rfl rfl rfl ?_
      refine xv_get (pc' := 25) (ci := 0) hF (by first | assumption | exact xu_self | (refine (xu_ne (by omega)).trans ?_; first | assumption | exact xu_self | (refine (xu_ne (by omega)).trans ?_; first | assumption | exact xu_self | (refine (xu_ne (by omega)).trans ?_; first | assumption | exact xu_self | (refine (xu_ne (by omega)).trans ?_; first | assumption | exact xu_self))))) rfl xu_PD 4 (by decide) xk_PD_f34 (by rfl) xd_PD_feed_22 rfl ?_
      refine xv_iload_n (pc' := 26) (i := 3) hF xd_PD_feed_25 rfl rfl rfl ?_
      first | refine xv_iaddN (pc' := 27) hF xd_PD_feed_26 rfl ?_ | refine xv_iadd (pc' := 27) hF xd_PD_feed_26 rfl ?_
      refine xv_bipushN (pc' := 29) 100 hF xd_PD_feed_27 (by decide +kernel) rfl ?_
      refine xv_icmp_leN (pc' := 32) (tgt := 34) hF (by omega) (by omega) xd_PD_feed_29 (by decide) rfl (fun e3 => ?_) (fun e3 => ?_)
      · refine xv_iload_n (pc' := 35) (i := 3) hF xd_PD_feed_34 rfl rfl rfl ?_
        refine xv_iconstN (pc' := 36) 1 hF xd_PD_feed_35 (by decide +kernel) rfl ?_
        first | refine xv_isubN (pc' := 37) hF (by omega) xd_PD_feed_36 rfl ?_ | refine xv_isub (pc' := 37) hF xd_PD_feed_36 rfl ?_
        refine xv_istore (pc' := 39) hF xd_PD_feed_37 (Nat.le_of_ble_eq_true rfl) rfl rfl ?_
        have loop : ∀ k h1 f1, k ≤ m → (∀ q, q ≠ o → q ≠ o + 13 → h1 q = h q) → h1 o = some (.inr (0, [.ref (o + 1), .ref (o + 4), .ref (o + 8), .ref (o + 13), .int (nI (w + (m - k))), .ref (o + 14), .ref (o + 15), .ref (o + 16)])) → h1 (o + 13) = some (.inl (K.2.2.1 0, 100, .inl f1)) → (∀ i, i < w + (m - k) → f1 i = nI (fd_cs cs w X m i)) → XV G 0 0 39 [(4, .int (xm1 k)), (0, .ref o), (1, .long X), (3, .int (nI m))] [] n h1 := by
          intro k
          induction k with
          | zero =>
            intro h1 f1 _ hf ho hc hv
            refine xv_iload (pc' := 41) hF xd_PD_feed_39 rfl rfl ?_
            refine xv_if_lt (pc' := 44) (tgt := 81) hF xd_PD_feed_41 (by decide) rfl (fun e4 => ?_) (fun e4 => ?_)
            · refine xv_aload_n (pc' := 82) (i := 0) hF xd_PD_feed_81 rfl rfl rfl ?_
              refine xv_get (pc' := 85) (ci := 0) hF (by first | assumption | exact xu_self | (refine (xu_ne (by omega)).trans ?_; first | assumption | exact xu_self | (refine (xu_ne (by omega)).trans ?_; first | assumption | exact xu_self | (refine (xu_ne (by omega)).trans ?_; first | assumption | exact xu_self | (refine (xu_ne (by omega)).trans ?_; first | assumption | exact xu_self))))) rfl xu_PD 4 (by decide) xk_PD_f34 (by rfl) xd_PD_feed_82 rfl ?_
              refine hR _ _ _ _ _ _ _ (by omega) (by omega) ?_ xd_PD_feed_85
              refine ⟨rfl, Or.inr ⟨e3, rfl, fun q a b => hf q (by omega) (by omega), hr.fed hf ho hc (fun i hi => ⟨hv i (by omega), ?_⟩) e3⟩⟩
              unfold fd_cs
              split
              · exact (p6 i (by assumption)).2
              · exact fd_lt _ _
            · exact absurd (by decide +kernel : xm1 0 < 0) e4
          | succ s ih =>
            intro h1 f1 hk hf ho hc hv
            rw [xm1_s]
            refine xv_iload (pc' := 41) hF xd_PD_feed_39 rfl rfl ?_
            refine xv_if_ltN (pc' := 44) (tgt := 81) hF (by omega) xd_PD_feed_41 (by decide) rfl ?_
            refine xv_aload_n (pc' := 45) (i := 0) hF xd_PD_feed_44 rfl rfl rfl ?_
            refine xv_get (pc' := 48) (ci := 0) hF (by first | assumption | exact xu_self | (refine (xu_ne (by omega)).trans ?_; first | assumption | exact xu_self | (refine (xu_ne (by omega)).trans ?_; first | assumption | exact xu_self | (refine (xu_ne (by omega)).trans ?_; first | assumption | exact xu_self | (refine (xu_ne (by omega)).trans ?_; first | assumption | exact xu_self))))) rfl xu_PD 3 (by decide) xk_PD_f30 (by rfl) xd_PD_feed_45 rfl ?_
            refine xv_aload_n (pc' := 49) (i := 0) hF xd_PD_feed_48 rfl rfl rfl ?_
            refine xv_get (pc' := 52) (ci := 0) hF (by first | assumption | exact xu_self | (refine (xu_ne (by omega)).trans ?_; first | assumption | exact xu_self | (refine (xu_ne (by omega)).trans ?_; first | assumption | exact xu_self | (refine (xu_ne (by omega)).trans ?_; first | assumption | exact xu_self | (refine (xu_ne (by omega)).trans ?_; first | assumption | exact xu_self))))) rfl xu_PD 4 (by decide) xk_PD_f34 (by rfl) xd_PD_feed_49 rfl ?_
            refine xv_lload_n (pc' := 53) (i := 1) hF xd_PD_feed_52 rfl rfl rfl ?_
            refine xv_bipushN (pc' := 55) 8 hF xd_PD_feed_53 (by decide +kernel) rfl ?_
            refine xv_iload (pc' := 57) hF xd_PD_feed_55 rfl rfl ?_
            first | refine xv_imulN (pc' := 58) hF xd_PD_feed_57 rfl ?_ | refine xv_imul (pc' := 58) hF xd_PD_feed_57 rfl ?_
            refine xv_lushr (pc' := 59) hF xd_PD_feed_58 rfl rfl ?_
            refine xv_l2i (pc' := 60) hF xd_PD_feed_59 rfl rfl ?_
            refine xv_sipushN (pc' := 63) 255 hF xd_PD_feed_60 (by decide +kernel) rfl ?_
            first | refine xv_iandN (pc' := 64) hF xd_PD_feed_63 rfl ?_ | refine xv_iand (pc' := 64) hF xd_PD_feed_63 rfl ?_
            refine xv_topi (fd_c X (k := s) (by omega)) ?_
            refine xv_iastN (pc' := 65) hF (by first | assumption | exact xu_self | (refine (xu_ne (by omega)).trans ?_; first | assumption | exact xu_self | (refine (xu_ne (by omega)).trans ?_; first | assumption | exact xu_self | (refine (xu_ne (by omega)).trans ?_; first | assumption | exact xu_self | (refine (xu_ne (by omega)).trans ?_; first | assumption | exact xu_self))))) (by omega) (by decide) xd_PD_feed_64 rfl ?_
            refine xv_aload_n (pc' := 66) (i := 0) hF xd_PD_feed_65 rfl rfl rfl ?_
            refine xv_dup (pc' := 67) hF xd_PD_feed_66 rfl rfl ?_
            refine xv_get (pc' := 70) (ci := 0) hF (by first | assumption | exact xu_self | (refine (xu_ne (by omega)).trans ?_; first | assumption | exact xu_self | (refine (xu_ne (by omega)).trans ?_; first | assumption | exact xu_self | (refine (xu_ne (by omega)).trans ?_; first | assumption | exact xu_self | (refine (xu_ne (by omega)).trans ?_; first | assumption | exact xu_self))))) rfl xu_PD 4 (by decide) xk_PD_f34 (by rfl) xd_PD_feed_67 rfl ?_
            refine xv_iconstN (pc' := 71) 1 hF xd_PD_feed_70 (by decide +kernel) rfl ?_
            first | refine xv_iaddN (pc' := 72) hF xd_PD_feed_71 rfl ?_ | refine xv_iadd (pc' := 72) hF xd_PD_feed_71 rfl ?_
            refine xv_put (pc' := 75) (ci := 0) (ty := xt_PD 4) hF (by first | assumption | exact xu_self | (refine (xu_ne (by omega)).trans ?_; first | assumption | exact xu_self | (refine (xu_ne (by omega)).trans ?_; first | assumption | exact xu_self | (refine (xu_ne (by omega)).trans ?_; first | assumption | exact xu_self | (refine (xu_ne (by omega)).trans ?_; first | assumption | exact xu_self))))) rfl xu_PD xt_PD xo_PD xn_PD 4 (by decide) xk_PD_f34 rfl (by decide +kernel) (by first | rfl | exact xb_nw _ | decide +kernel) (by first | rfl | exact xb_ft _ | decide +kernel) (by exact Nat.le_of_ble_eq_true rfl) (by dsimp only [List.set] <;> rfl) xd_PD_feed_72 rfl ?_
            refine xv_iinc (pc' := 78) hF xd_PD_feed_75 rfl rfl (Nat.le_of_ble_eq_true rfl) rfl rfl ?_
            rw [xm1_dec]
            refine xv_goto (tgt := 39) hF xd_PD_feed_78 (by decide) ?_
            refine xv_loc _ (by repeat (first | exact trivial | refine ⟨rfl, ?_⟩)) (ih _ (upd f1 (w + (m - (s + 1))) (nI (fd_b X s))) (by omega) (fun q a b => ?_) ?_ ?_ ?_)
            · rw [xu_ne a, xu_ne b]; exact hf q a b
            · rw [xu_self, show w + (m - s) = w + (m - (s + 1)) + 1 by omega]
            · rw [xu_ne (by omega)]; exact xu_self
            · intro i hi
              by_cases c : i = w + (m - (s + 1))
              · subst c
                rw [pk_us]
                unfold fd_cs
                rw [if_neg (by omega)]
                congr 2
                omega
              · rw [pk_un c]; exact hv i (by omega)
        rw [show nI (m - 1) = xm1 m by rw [show m = m - 1 + 1 by omega, xm1_s]; rfl]
        refine xv_loc _ (by repeat (first | exact trivial | refine ⟨rfl, ?_⟩)) (loop m h f (Nat.le_refl _) (fun _ _ _ => rfl) (by rw [Nat.sub_self]; exact p1) p5 (fun i hi => ?_))
        unfold fd_cs
        rw [if_pos (by omega)]
        exact (p6 i (by omega)).1
      · refine xv_iconst (pc' := 33) (v := -1) hF xd_PD_feed_32 (by decide +kernel) rfl ?_
        refine hR _ _ _ _ _ _ _ (by omega) (by omega) ?_ xd_PD_feed_33
        exact ⟨rfl, Or.inl ⟨e3, rfl, rfl⟩⟩
    · omega
