/-! chains and closures in the reference's squares -/
theorem sq_set {g : Nat → Int32} {T : Nat → Nat → Nat → Nat} {t i j v : Nat} (h : sq_is g T) (ht : t < 40) (hi : i < 32) (hj : j < 32) (hv : v ≤ 1000000) : sq_is (upd g (1024 * t + 32 * i + j) (nI v)) (va_up T t (md_set (T t) i j v)) := by
  intro s z hs hz
  by_cases c : s = t
  · subst c
    rw [va_s]
    by_cases c2 : z / 32 = i ∧ z % 32 = j
    · rw [show 1024 * s + z = 1024 * s + 32 * i + j by omega, pk_us, c2.1, c2.2, md_set_s]
      exact ⟨rfl, hv⟩
    · rw [pk_un (by omega), md_set_n c2]
      exact h s z hs hz
  · rw [va_n c, pk_un (by omega)]
    exact h s z hs hz
set_option maxHeartbeats 4000000 in
set_option maxRecDepth 100000 in
theorem c_MO_spread (K : xK) (n : Nat) (h : xH) (p th ma sz ln at_ f op : Nat) (mk : Bool) (w i t v : Nat) (g : Nat → Int32) (S : Nat → Nat → Nat → Nat) (ho : h p = some (.inr (6, [.int (nI th), .ref (p + 1), .ref (p + 2), .int (nI ma), .ref (p + 3), .int (nI sz), .ref (p + 4), .ref (p + 5), .ref (p + 6), .ref (p + 7), .int (nI ln), .int (nI at_), .int (xm1 f), .int (xb mk), .ref (p + 8), .ref (p + 9), .ref (p + 10), .int (nI op), .ref (p + 11), .ref (p + 12)]))) (hs : h (p + 8) = some (.inl (K.2.2.1 0, 40960, .inl g))) (hg : sq_is g S) (hw : w < 1000000) (hi : i < 32) (hv : v < 32) (ht : t < 39) : XM K xy_MO_spread xw_MO_spread (xrm 0 0 0 0) [.ref p, .int (nI w), .int (nI (32 * i)), .int (nI (1024 * t + 32 * v))] n h (x_pv fun n' h' => n = n' ∧ ∃ g', h' = xu h (p + 8) (.inl (K.2.2.1 0, 40960, .inl g')) ∧ sq_is g' (va_up S 39 (md_go (S 39) (S t) i w v 32))) 0 0 := by
  refine xm_v (by decide +kernel) (Nat.le_of_ble_eq_true rfl) (fun G hF hR => ?_)
  refine xv_iconstN (pc' := 1) 0 hF xd_MO_spread_0 (by decide +kernel) rfl ?_
  refine xv_istore (pc' := 3) hF xd_MO_spread_1 (Nat.le_of_ble_eq_true rfl) rfl rfl ?_
  have loop : ∀ d z g1, 32 - z = d → z ≤ 32 → sq_is g1 (va_up S 39 (md_go (S 39) (S t) i w v z)) → XV G 0 0 3 [(4, .int (nI z)), (0, .ref p), (1, .int (nI w)), (2, .int (nI (32 * i))), (3, .int (nI (1024 * t + 32 * v)))] [] n (xu h (p + 8) (.inl (K.2.2.1 0, 40960, .inl g1))) := by
    intro d
    induction d using Nat.strongRecOn with
    | ind d ih =>
      intro z g1 hd hz hg1
      refine xv_iload (pc' := 5) hF xd_MO_spread_3 rfl rfl ?_
      refine xv_bipushN (pc' := 7) 32 hF xd_MO_spread_5 (by decide +kernel) rfl ?_
      refine xv_icmp_geN (pc' := 10) (tgt := 79) hF (by omega) (by omega) xd_MO_spread_7 (by decide) rfl (fun e1 => ?_) (fun e1 => ?_)
      · refine hR _ _ _ _ _ _ (by omega) (by omega) ?_ xd_MO_spread_79
        have : z = 32 := by omega
        subst this
        exact ⟨rfl, g1, rfl, hg1⟩
      · have hD := hg1.at (t := t) (i := v) (j := z) (by omega) hv e1
        rw [va_n (by omega)] at hD
        have hM := hg1.at (t := 39) (i := i) (j := z) (by omega) hi e1
        have eM : va_up S 39 (md_go (S 39) (S t) i w v z) 39 i z = S 39 i z := by
          rw [va_s]; unfold md_go; rw [if_neg (by omega)]
        rw [eM] at hM
        have nx : ∀ x, md_go (S 39) (S t) i w v (z + 1) i z = x → ∀ a b, (md_set (md_go (S 39) (S t) i w v z) i z x) a b = md_go (S 39) (S t) i w v (z + 1) a b := by
          intro x hx a b
          by_cases c : a = i ∧ b = z
          · rw [c.1, c.2, md_set_s, hx]
          · rw [md_set_n c]
            unfold md_go
            by_cases c2 : a = i ∧ b < z ∧ S t v b < 1000000
            · rw [if_pos c2, if_pos (by omega)]
            · rw [if_neg c2, if_neg (by omega)]
        have keep : md_go (S 39) (S t) i w v (z + 1) i z = S 39 i z → XV G 0 0 73 [(4, .int (nI z)), (0, .ref p), (1, .int (nI w)), (2, .int (nI (32 * i))), (3, .int (nI (1024 * t + 32 * v)))] [] n (xu h (p + 8) (.inl (K.2.2.1 0, 40960, .inl g1))) := by
          intro hx
          first | refine xv_iincN (pc' := 76) hF xd_MO_spread_73 rfl rfl (Nat.le_of_ble_eq_true rfl) rfl rfl ?_ | refine xv_iinc (pc' := 76) hF xd_MO_spread_73 rfl rfl (Nat.le_of_ble_eq_true rfl) rfl rfl ?_
          refine xv_goto (tgt := 3) hF xd_MO_spread_76 (by decide) ?_
          refine xv_loc _ (by repeat (first | exact trivial | refine ⟨rfl, ?_⟩)) (ih _ (by omega) (z + 1) _ rfl (by omega) (hg1.congr fun s a b hs ha hb => ?_))
          by_cases c : s = 39
          · subst c
            rw [va_s, va_s, ← nx _ hx]
            by_cases c2 : a = i ∧ b = z
            · rw [c2.1, c2.2, md_set_s]
              rw [va_s] at eM
              exact eM.symm
            · rw [md_set_n c2]
          · rw [va_n c, va_n c]
        refine xv_aload_n (pc' := 11) (i := 0) hF xd_MO_spread_10 rfl rfl rfl ?_
        refine xv_get (pc' := 14) (ci := 6) hF (by first | assumption | exact xu_self | (refine (xu_ne (by omega)).trans ?_; first | assumption | exact xu_self | (refine (xu_ne (by omega)).trans ?_; first | assumption | exact xu_self | (refine (xu_ne (by omega)).trans ?_; first | assumption | exact xu_self | (refine (xu_ne (by omega)).trans ?_; first | assumption | exact xu_self))))) rfl xu_MO 14 (by decide) xk_MO_f33 (by rfl) xd_MO_spread_11 rfl ?_
        refine xv_iload_n (pc' := 15) (i := 3) hF xd_MO_spread_14 rfl rfl rfl ?_
        refine xv_iload (pc' := 17) hF xd_MO_spread_15 rfl rfl ?_
        first | refine xv_iaddN (pc' := 18) hF xd_MO_spread_17 rfl ?_ | refine xv_iadd (pc' := 18) hF xd_MO_spread_17 rfl ?_
        first | refine xv_ialdN (pc' := 19) hF (by first | assumption | exact xu_self | (refine (xu_ne (by omega)).trans ?_; first | assumption | exact xu_self | (refine (xu_ne (by omega)).trans ?_; first | assumption | exact xu_self | (refine (xu_ne (by omega)).trans ?_; first | assumption | exact xu_self | (refine (xu_ne (by omega)).trans ?_; first | assumption | exact xu_self))))) (by omega) (by decide) xd_MO_spread_18 rfl ?_ | refine xv_iald (pc' := 19) hF (by first | assumption | exact xu_self | (refine (xu_ne (by omega)).trans ?_; first | assumption | exact xu_self | (refine (xu_ne (by omega)).trans ?_; first | assumption | exact xu_self | (refine (xu_ne (by omega)).trans ?_; first | assumption | exact xu_self | (refine (xu_ne (by omega)).trans ?_; first | assumption | exact xu_self))))) (by omega) xd_MO_spread_18 rfl ?_
        refine xv_topi (v' := nI (S t v z)) (by rw [Nat.add_assoc]; exact hD.1) ?_
        refine xv_ldc (pc' := 21) hF xk_MO_k96 xd_MO_spread_19 rfl ?_
        refine xv_topi (v' := nI 1000000) (by decide +kernel) ?_
        refine xv_icmp_geN (pc' := 24) (tgt := 38) hF (by omega) (by omega) xd_MO_spread_21 (by decide) rfl (fun e2 => ?_) (fun e2 => ?_)
        · refine xv_ldc (pc' := 40) hF xk_MO_k96 xd_MO_spread_38 rfl ?_
          refine xv_topi (v' := nI 1000000) (by decide +kernel) ?_
          refine xv_istore (pc' := 42) hF xd_MO_spread_40 (Nat.le_of_ble_eq_true rfl) rfl rfl ?_
          refine xv_iload (pc' := 44) hF xd_MO_spread_42 rfl rfl ?_
          refine xv_aload_n (pc' := 45) (i := 0) hF xd_MO_spread_44 rfl rfl rfl ?_
          refine xv_get (pc' := 48) (ci := 6) hF (by first | assumption | exact xu_self | (refine (xu_ne (by omega)).trans ?_; first | assumption | exact xu_self | (refine (xu_ne (by omega)).trans ?_; first | assumption | exact xu_self | (refine (xu_ne (by omega)).trans ?_; first | assumption | exact xu_self | (refine (xu_ne (by omega)).trans ?_; first | assumption | exact xu_self))))) rfl xu_MO 14 (by decide) xk_MO_f33 (by rfl) xd_MO_spread_45 rfl ?_
          refine xv_ldc (pc' := 50) hF xk_MO_k109 xd_MO_spread_48 rfl ?_
          refine xv_topi (v' := nI 39936) (by decide +kernel) ?_
          refine xv_iload_n (pc' := 51) (i := 2) hF xd_MO_spread_50 rfl rfl rfl ?_
          first | refine xv_iaddN (pc' := 52) hF xd_MO_spread_51 rfl ?_ | refine xv_iadd (pc' := 52) hF xd_MO_spread_51 rfl ?_
          refine xv_iload (pc' := 54) hF xd_MO_spread_52 rfl rfl ?_
          first | refine xv_iaddN (pc' := 55) hF xd_MO_spread_54 rfl ?_ | refine xv_iadd (pc' := 55) hF xd_MO_spread_54 rfl ?_
          first | refine xv_ialdN (pc' := 56) hF (by first | assumption | exact xu_self | (refine (xu_ne (by omega)).trans ?_; first | assumption | exact xu_self | (refine (xu_ne (by omega)).trans ?_; first | assumption | exact xu_self | (refine (xu_ne (by omega)).trans ?_; first | assumption | exact xu_self | (refine (xu_ne (by omega)).trans ?_; first | assumption | exact xu_self))))) (by omega) (by decide) xd_MO_spread_55 rfl ?_ | refine xv_iald (pc' := 56) hF (by first | assumption | exact xu_self | (refine (xu_ne (by omega)).trans ?_; first | assumption | exact xu_self | (refine (xu_ne (by omega)).trans ?_; first | assumption | exact xu_self | (refine (xu_ne (by omega)).trans ?_; first | assumption | exact xu_self | (refine (xu_ne (by omega)).trans ?_; first | assumption | exact xu_self))))) (by omega) xd_MO_spread_55 rfl ?_
          refine xv_topi (v' := nI (S 39 i z)) (by rw [show 39936 + 32 * i + z = 1024 * 39 + (32 * i + z) by omega]; exact hM.1) ?_
          refine xv_icmp_geN (pc' := 59) (tgt := 73) hF (by omega) (by omega) xd_MO_spread_56 (by decide) rfl (fun e3 => ?_) (fun e3 => ?_)
          · exact xv_loc _ (by repeat (first | exact trivial | refine ⟨rfl, ?_⟩)) (keep (by unfold md_go; rw [if_neg (by omega)]))
          · omega
        · refine xv_iload_n (pc' := 25) (i := 1) hF xd_MO_spread_24 rfl rfl rfl ?_
          refine xv_aload_n (pc' := 26) (i := 0) hF xd_MO_spread_25 rfl rfl rfl ?_
          refine xv_get (pc' := 29) (ci := 6) hF (by first | assumption | exact xu_self | (refine (xu_ne (by omega)).trans ?_; first | assumption | exact xu_self | (refine (xu_ne (by omega)).trans ?_; first | assumption | exact xu_self | (refine (xu_ne (by omega)).trans ?_; first | assumption | exact xu_self | (refine (xu_ne (by omega)).trans ?_; first | assumption | exact xu_self))))) rfl xu_MO 14 (by decide) xk_MO_f33 (by rfl) xd_MO_spread_26 rfl ?_
          refine xv_iload_n (pc' := 30) (i := 3) hF xd_MO_spread_29 rfl rfl rfl ?_
          refine xv_iload (pc' := 32) hF xd_MO_spread_30 rfl rfl ?_
          first | refine xv_iaddN (pc' := 33) hF xd_MO_spread_32 rfl ?_ | refine xv_iadd (pc' := 33) hF xd_MO_spread_32 rfl ?_
          first | refine xv_ialdN (pc' := 34) hF (by first | assumption | exact xu_self | (refine (xu_ne (by omega)).trans ?_; first | assumption | exact xu_self | (refine (xu_ne (by omega)).trans ?_; first | assumption | exact xu_self | (refine (xu_ne (by omega)).trans ?_; first | assumption | exact xu_self | (refine (xu_ne (by omega)).trans ?_; first | assumption | exact xu_self))))) (by omega) (by decide) xd_MO_spread_33 rfl ?_ | refine xv_iald (pc' := 34) hF (by first | assumption | exact xu_self | (refine (xu_ne (by omega)).trans ?_; first | assumption | exact xu_self | (refine (xu_ne (by omega)).trans ?_; first | assumption | exact xu_self | (refine (xu_ne (by omega)).trans ?_; first | assumption | exact xu_self | (refine (xu_ne (by omega)).trans ?_; first | assumption | exact xu_self))))) (by omega) xd_MO_spread_33 rfl ?_
          refine xv_topi (v' := nI (S t v z)) (by rw [Nat.add_assoc]; exact hD.1) ?_
          first | refine xv_iaddN (pc' := 35) hF xd_MO_spread_34 rfl ?_ | refine xv_iadd (pc' := 35) hF xd_MO_spread_34 rfl ?_
          refine xv_goto (tgt := 40) hF xd_MO_spread_35 (by decide) ?_
          refine xv_istore (pc' := 42) hF xd_MO_spread_40 (Nat.le_of_ble_eq_true rfl) rfl rfl ?_
          refine xv_iload (pc' := 44) hF xd_MO_spread_42 rfl rfl ?_
          refine xv_aload_n (pc' := 45) (i := 0) hF xd_MO_spread_44 rfl rfl rfl ?_
          refine xv_get (pc' := 48) (ci := 6) hF (by first | assumption | exact xu_self | (refine (xu_ne (by omega)).trans ?_; first | assumption | exact xu_self | (refine (xu_ne (by omega)).trans ?_; first | assumption | exact xu_self | (refine (xu_ne (by omega)).trans ?_; first | assumption | exact xu_self | (refine (xu_ne (by omega)).trans ?_; first | assumption | exact xu_self))))) rfl xu_MO 14 (by decide) xk_MO_f33 (by rfl) xd_MO_spread_45 rfl ?_
          refine xv_ldc (pc' := 50) hF xk_MO_k109 xd_MO_spread_48 rfl ?_
          refine xv_topi (v' := nI 39936) (by decide +kernel) ?_
          refine xv_iload_n (pc' := 51) (i := 2) hF xd_MO_spread_50 rfl rfl rfl ?_
          first | refine xv_iaddN (pc' := 52) hF xd_MO_spread_51 rfl ?_ | refine xv_iadd (pc' := 52) hF xd_MO_spread_51 rfl ?_
          refine xv_iload (pc' := 54) hF xd_MO_spread_52 rfl rfl ?_
          first | refine xv_iaddN (pc' := 55) hF xd_MO_spread_54 rfl ?_ | refine xv_iadd (pc' := 55) hF xd_MO_spread_54 rfl ?_
          first | refine xv_ialdN (pc' := 56) hF (by first | assumption | exact xu_self | (refine (xu_ne (by omega)).trans ?_; first | assumption | exact xu_self | (refine (xu_ne (by omega)).trans ?_; first | assumption | exact xu_self | (refine (xu_ne (by omega)).trans ?_; first | assumption | exact xu_self | (refine (xu_ne (by omega)).trans ?_; first | assumption | exact xu_self))))) (by omega) (by decide) xd_MO_spread_55 rfl ?_ | refine xv_iald (pc' := 56) hF (by first | assumption | exact xu_self | (refine (xu_ne (by omega)).trans ?_; first | assumption | exact xu_self | (refine (xu_ne (by omega)).trans ?_; first | assumption | exact xu_self | (refine (xu_ne (by omega)).trans ?_; first | assumption | exact xu_self | (refine (xu_ne (by omega)).trans ?_; first | assumption | exact xu_self))))) (by omega) xd_MO_spread_55 rfl ?_
          refine xv_topi (v' := nI (S 39 i z)) (by rw [show 39936 + 32 * i + z = 1024 * 39 + (32 * i + z) by omega]; exact hM.1) ?_
          refine xv_icmp_geN (pc' := 59) (tgt := 73) hF (by omega) (by omega) xd_MO_spread_56 (by decide) rfl (fun e3 => ?_) (fun e3 => ?_)
          · exact xv_loc _ (by repeat (first | exact trivial | refine ⟨rfl, ?_⟩)) (keep (by unfold md_go; rw [if_pos ⟨rfl, by omega, e2⟩]; omega))
          · refine xv_aload_n (pc' := 60) (i := 0) hF xd_MO_spread_59 rfl rfl rfl ?_
            refine xv_get (pc' := 63) (ci := 6) hF (by first | assumption | exact xu_self | (refine (xu_ne (by omega)).trans ?_; first | assumption | exact xu_self | (refine (xu_ne (by omega)).trans ?_; first | assumption | exact xu_self | (refine (xu_ne (by omega)).trans ?_; first | assumption | exact xu_self | (refine (xu_ne (by omega)).trans ?_; first | assumption | exact xu_self))))) rfl xu_MO 14 (by decide) xk_MO_f33 (by rfl) xd_MO_spread_60 rfl ?_
            refine xv_ldc (pc' := 65) hF xk_MO_k109 xd_MO_spread_63 rfl ?_
            refine xv_topi (v' := nI 39936) (by decide +kernel) ?_
            refine xv_iload_n (pc' := 66) (i := 2) hF xd_MO_spread_65 rfl rfl rfl ?_
            first | refine xv_iaddN (pc' := 67) hF xd_MO_spread_66 rfl ?_ | refine xv_iadd (pc' := 67) hF xd_MO_spread_66 rfl ?_
            refine xv_iload (pc' := 69) hF xd_MO_spread_67 rfl rfl ?_
            first | refine xv_iaddN (pc' := 70) hF xd_MO_spread_69 rfl ?_ | refine xv_iadd (pc' := 70) hF xd_MO_spread_69 rfl ?_
            refine xv_iload (pc' := 72) hF xd_MO_spread_70 rfl rfl ?_
            refine xv_iastN (pc' := 73) hF (by first | assumption | exact xu_self | (refine (xu_ne (by omega)).trans ?_; first | assumption | exact xu_self | (refine (xu_ne (by omega)).trans ?_; first | assumption | exact xu_self | (refine (xu_ne (by omega)).trans ?_; first | assumption | exact xu_self | (refine (xu_ne (by omega)).trans ?_; first | assumption | exact xu_self))))) (by omega) (by decide) xd_MO_spread_72 rfl ?_
            first | refine xv_iincN (pc' := 76) hF xd_MO_spread_73 rfl rfl (Nat.le_of_ble_eq_true rfl) rfl rfl ?_ | refine xv_iinc (pc' := 76) hF xd_MO_spread_73 rfl rfl (Nat.le_of_ble_eq_true rfl) rfl rfl ?_
            refine xv_goto (tgt := 3) hF xd_MO_spread_76 (by decide) ?_
            rw [xu_xu]
            refine xv_loc _ (by repeat (first | exact trivial | refine ⟨rfl, ?_⟩)) (ih _ (by omega) (z + 1) _ rfl (by omega) ?_)
            have := sq_set hg1 (t := 39) (i := i) (j := z) (v := w + S t v z) (by omega) hi e1 (by omega)
            rw [show 1024 * 39 = 39936 from rfl] at this
            refine this.congr fun s a b hs ha hb => ?_
            by_cases c : s = 39
            · subst c
              rw [va_s, va_s, va_s]
              exact (nx _ (by unfold md_go; rw [if_pos ⟨rfl, by omega, e2⟩]; omega) a b).symm
            · rw [va_n c, va_n c, va_n c]
  have l0 := loop 32 0 g (by omega) (by omega) (hg.congr fun s a b hs ha hb => by
    by_cases c : s = 39
    · subst c; rw [va_s]; unfold md_go; rw [if_neg (by omega)]
    · rw [va_n c])
  rw [xu_same hs] at l0
  exact xv_loc _ (by repeat (first | exact trivial | refine ⟨rfl, ?_⟩)) l0
set_option maxHeartbeats 4000000 in
set_option maxRecDepth 100000 in
theorem c_MO_behind (K : xK) (n : Nat) (h : xH) (p th ma sz ln at_ f op : Nat) (mk : Bool) (to t : Nat) (g : Nat → Int32) (S : Nat → Nat → Nat → Nat) (ho : h p = some (.inr (6, [.int (nI th), .ref (p + 1), .ref (p + 2), .int (nI ma), .ref (p + 3), .int (nI sz), .ref (p + 4), .ref (p + 5), .ref (p + 6), .ref (p + 7), .int (nI ln), .int (nI at_), .int (xm1 f), .int (xb mk), .ref (p + 8), .ref (p + 9), .ref (p + 10), .int (nI op), .ref (p + 11), .ref (p + 12)]))) (hs : h (p + 8) = some (.inl (K.2.2.1 0, 40960, .inl g))) (hg : sq_is g S) (hto : to < 39) (ht : t < 39) : XM K xy_MO_behind xw_MO_behind (xrm 1 25 0 0) [.ref p, .int (nI to), .int (nI t)] n h (x_pv fun n' h' => n = n' ∧ ∃ g', h' = xu h (p + 8) (.inl (K.2.2.1 0, 40960, .inl g')) ∧ sq_is g' (if mk then va_up (va_up S 39 (fun x y => md_ch (S to) (S t) x 32 y)) to (fun x y => md_ch (S to) (S t) x 32 y) else S)) 0 0 := by
  refine xm_v (by decide +kernel) (Nat.le_of_ble_eq_true rfl) (fun G hF hR => ?_)
  refine xv_aload_n (pc' := 1) (i := 0) hF xd_MO_behind_0 rfl rfl rfl ?_
  refine xv_get (pc' := 4) (ci := 6) hF (by first | assumption | exact xu_self | (refine (xu_ne (by omega)).trans ?_; first | assumption | exact xu_self | (refine (xu_ne (by omega)).trans ?_; first | assumption | exact xu_self | (refine (xu_ne (by omega)).trans ?_; first | assumption | exact xu_self | (refine (xu_ne (by omega)).trans ?_; first | assumption | exact xu_self))))) rfl xu_MO 13 (by decide) xk_MO_f92 (by rfl) xd_MO_behind_1 rfl ?_
  cases mk with
  | false =>
    refine xv_if_neB (pc' := 7) (tgt := 8) hF xd_MO_behind_4 (by decide) rfl (fun e => ?_) (fun e => ?_)
    · cases e
    · refine hR _ _ _ _ _ _ (by omega) (by omega) ?_ xd_MO_behind_7
      exact ⟨rfl, g, (xu_same hs).symm, hg⟩
  | true =>
    refine xv_if_neB (pc' := 7) (tgt := 8) hF xd_MO_behind_4 (by decide) rfl (fun e => ?_) (fun e => ?_)
    · refine xv_aload_n (pc' := 9) (i := 0) hF xd_MO_behind_8 rfl rfl rfl ?_
      refine xv_bipushN (pc' := 11) 39 hF xd_MO_behind_9 (by decide +kernel) rfl ?_
      refine xv_iconstN (pc' := 12) 0 hF xd_MO_behind_11 (by decide +kernel) rfl ?_
      refine xv_topi (v' := xb false) (by decide +kernel) ?_
      refine xv_callVv (pc' := 15) (ci := 6) hF (c_MO_plain K n h p th ma sz ln at_ f op true 39 false g S ho hs hg (by decide)) xq_MO_plain xk_MO_m97 xk_i_MO_plain xk_s_MO_plain (by first | assumption | exact xu_self | (refine (xu_ne (by omega)).trans ?_; first | assumption | exact xu_self | (refine (xu_ne (by omega)).trans ?_; first | assumption | exact xu_self | (refine (xu_ne (by omega)).trans ?_; first | assumption | exact xu_self | (refine (xu_ne (by omega)).trans ?_; first | assumption | exact xu_self))))) rfl ⟨(Nat.le_of_ble_eq_true rfl), (Nat.le_of_ble_eq_true rfl)⟩ rfl rfl (Nat.le_of_ble_eq_true rfl) ⟨(Nat.le_of_ble_eq_true rfl), (Nat.le_of_ble_eq_true rfl)⟩ xd_MO_behind_12 rfl (fun n1 h1 q1 => ?_)
      obtain ⟨rfl, g1, rfl, hg1⟩ := q1
      have hg1 : sq_is g1 (va_up S 39 md_no) := hg1
      refine xv_iconstN (pc' := 16) 0 hF xd_MO_behind_15 (by decide +kernel) rfl ?_
      refine xv_istore_n (pc' := 17) (i := 3) hF xd_MO_behind_16 rfl (Nat.le_of_ble_eq_true rfl) rfl rfl ?_
      have loop : ∀ d k g2, 1024 - k = d → k ≤ 1024 → sq_is g2 (va_up S 39 (md_ct (S to) (S t) (k / 32) (k % 32))) → XV G (0 + 0) (0 + 0) 17 [(3, .int (nI k)), (0, .ref p), (1, .int (nI to)), (2, .int (nI t))] [] n (xu h (p + 8) (.inl (K.2.2.1 0, 40960, .inl g2))) := by
        intro d
        induction d using Nat.strongRecOn with
        | ind d ih =>
          intro k g2 hd hk hg2
          have ho2 : (xu h (p + 8) (.inl (K.2.2.1 0, 40960, .inl g2))) p = some (.inr (6, [.int (nI th), .ref (p + 1), .ref (p + 2), .int (nI ma), .ref (p + 3), .int (nI sz), .ref (p + 4), .ref (p + 5), .ref (p + 6), .ref (p + 7), .int (nI ln), .int (nI at_), .int (xm1 f), .int (xb true), .ref (p + 8), .ref (p + 9), .ref (p + 10), .int (nI op), .ref (p + 11), .ref (p + 12)])) := by rw [xu_ne (by omega)]; exact ho
          refine xv_iload_n (pc' := 18) (i := 3) hF xd_MO_behind_17 rfl rfl rfl ?_
          refine xv_sipushN (pc' := 21) 1024 hF xd_MO_behind_18 (by decide +kernel) rfl ?_
          refine xv_icmp_geN (pc' := 24) (tgt := 77) hF (by omega) (by omega) xd_MO_behind_21 (by decide) rfl (fun e1 => ?_) (fun e1 => ?_)
          · have : k = 1024 := by omega
            subst this
            have hg3 : sq_is g2 (va_up S 39 (fun x y => md_ch (S to) (S t) x 32 y)) := by
              refine hg2.congr fun s a b hs ha hb => ?_
              by_cases c : s = 39
              · subst c; rw [va_s, va_s, md_ct_lt (by omega)]
              · rw [va_n c, va_n c]
            refine xv_aload_n (pc' := 78) (i := 0) hF xd_MO_behind_77 rfl rfl rfl ?_
            refine xv_bipushN (pc' := 80) 39 hF xd_MO_behind_78 (by decide +kernel) rfl ?_
            refine xv_iload_n (pc' := 81) (i := 1) hF xd_MO_behind_80 rfl rfl rfl ?_
            refine xv_callVv (pc' := 84) (ci := 6) hF (c_MO_copy K n _ p th ma sz ln at_ f op true 39 to g2 _ ho2 xu_self hg3 (by decide) (by omega)) xq_MO_copy xk_MO_m105 xk_i_MO_copy xk_s_MO_copy (by first | assumption | exact xu_self | (refine (xu_ne (by omega)).trans ?_; first | assumption | exact xu_self | (refine (xu_ne (by omega)).trans ?_; first | assumption | exact xu_self | (refine (xu_ne (by omega)).trans ?_; first | assumption | exact xu_self | (refine (xu_ne (by omega)).trans ?_; first | assumption | exact xu_self))))) rfl ⟨(Nat.le_of_ble_eq_true rfl), (Nat.le_of_ble_eq_true rfl)⟩ rfl rfl (Nat.le_of_ble_eq_true rfl) ⟨(Nat.le_of_ble_eq_true rfl), (Nat.le_of_ble_eq_true rfl)⟩ xd_MO_behind_81 rfl (fun n3 h3 q3 => ?_)
            obtain ⟨rfl, g3, rfl, hg4⟩ := q3
            refine hR _ _ _ _ _ _ (by omega) (by omega) ?_ xd_MO_behind_84
            rw [xu_xu]
            refine ⟨rfl, g3, rfl, ?_⟩
            simp only [if_true] at hg4 ⊢
            rw [va_s] at hg4
            exact hg4
          · have hC := hg2 to k (by omega) e1
            rw [va_n (by omega)] at hC
            have nxt : ∀ a b, a < 32 → b < 32 → md_ct (S to) (S t) ((k + 1) / 32) ((k + 1) % 32) a b = md_ct (S to) (S t) (k / 32) (k % 32 + 1) a b := by
              intro a b ha hb
              by_cases c : k % 32 = 31
              · have e4 : (k + 1) / 32 = k / 32 + 1 := by omega
                have e5 : (k + 1) % 32 = 0 := by omega
                rw [e4, e5, c]
                rcases Nat.lt_trichotomy a (k / 32) with c1 | c1 | c1
                · rw [md_ct_lt (by omega), md_ct_lt c1]
                · subst c1
                  rw [md_ct_lt (by omega), md_ct_eq]
                · rw [md_ct_0 (by omega), md_ct_gt c1]
              · have e4 : (k + 1) / 32 = k / 32 := by omega
                have e5 : (k + 1) % 32 = k % 32 + 1 := by omega
                rw [e4, e5]
            have cs : ∀ a b, md_ct (S to) (S t) (k / 32) (k % 32 + 1) a b = if a = k / 32 ∧ S to (k / 32) (k % 32) < 1000000 ∧ S t (k % 32) b < 1000000 then min (md_ct (S to) (S t) (k / 32) (k % 32) a b) (S to (k / 32) (k % 32) + S t (k % 32) b) else md_ct (S to) (S t) (k / 32) (k % 32) a b := by
              intro a b
              rcases Nat.lt_trichotomy a (k / 32) with c1 | c1 | c1
              · rw [md_ct_lt c1, md_ct_lt c1, if_neg (by omega)]
              · subst c1
                rw [md_ct_eq, md_ct_eq]
                show (if _ then _ else _) = _
                by_cases c2 : S to (k / 32) (k % 32) < 1000000 ∧ S t (k % 32) b < 1000000
                · rw [if_pos c2, if_pos ⟨rfl, c2⟩]
                · rw [if_neg c2, if_neg (fun h => c2 h.2)]
              · rw [md_ct_gt c1, md_ct_gt c1, if_neg (by omega)]
            have fin : ∀ g3, sq_is g3 (va_up S 39 (md_ct (S to) (S t) (k / 32) (k % 32 + 1))) → XV G (0 + 0) (0 + 0) 71 [(3, .int (nI k)), (0, .ref p), (1, .int (nI to)), (2, .int (nI t))] [] n (xu h (p + 8) (.inl (K.2.2.1 0, 40960, .inl g3))) := by
              intro g3 hg3
              first | refine xv_iincN (pc' := 74) hF xd_MO_behind_71 rfl rfl (Nat.le_of_ble_eq_true rfl) rfl rfl ?_ | refine xv_iinc (pc' := 74) hF xd_MO_behind_71 rfl rfl (Nat.le_of_ble_eq_true rfl) rfl rfl ?_
              refine xv_goto (tgt := 17) hF xd_MO_behind_74 (by decide) ?_
              refine xv_loc _ (by repeat (first | exact trivial | refine ⟨rfl, ?_⟩)) (ih _ (by omega) (k + 1) g3 rfl (by omega) (hg3.congr fun s a b hs ha hb => ?_))
              by_cases c : s = 39
              · subst c; rw [va_s, va_s, nxt a b ha hb]
              · rw [va_n c, va_n c]
            refine xv_aload_n (pc' := 25) (i := 0) hF xd_MO_behind_24 rfl rfl rfl ?_
            refine xv_get (pc' := 28) (ci := 6) hF (by first | assumption | exact xu_self | (refine (xu_ne (by omega)).trans ?_; first | assumption | exact xu_self | (refine (xu_ne (by omega)).trans ?_; first | assumption | exact xu_self | (refine (xu_ne (by omega)).trans ?_; first | assumption | exact xu_self | (refine (xu_ne (by omega)).trans ?_; first | assumption | exact xu_self))))) rfl xu_MO 14 (by decide) xk_MO_f33 (by rfl) xd_MO_behind_25 rfl ?_
            refine xv_sipushN (pc' := 31) 1024 hF xd_MO_behind_28 (by decide +kernel) rfl ?_
            refine xv_iload_n (pc' := 32) (i := 1) hF xd_MO_behind_31 rfl rfl rfl ?_
            first | refine xv_imulN (pc' := 33) hF xd_MO_behind_32 rfl ?_ | refine xv_imul (pc' := 33) hF xd_MO_behind_32 rfl ?_
            refine xv_iload_n (pc' := 34) (i := 3) hF xd_MO_behind_33 rfl rfl rfl ?_
            first | refine xv_iaddN (pc' := 35) hF xd_MO_behind_34 rfl ?_ | refine xv_iadd (pc' := 35) hF xd_MO_behind_34 rfl ?_
            first | refine xv_ialdN (pc' := 36) hF (by first | assumption | exact xu_self | (refine (xu_ne (by omega)).trans ?_; first | assumption | exact xu_self | (refine (xu_ne (by omega)).trans ?_; first | assumption | exact xu_self | (refine (xu_ne (by omega)).trans ?_; first | assumption | exact xu_self | (refine (xu_ne (by omega)).trans ?_; first | assumption | exact xu_self))))) (by omega) (by decide) xd_MO_behind_35 rfl ?_ | refine xv_iald (pc' := 36) hF (by first | assumption | exact xu_self | (refine (xu_ne (by omega)).trans ?_; first | assumption | exact xu_self | (refine (xu_ne (by omega)).trans ?_; first | assumption | exact xu_self | (refine (xu_ne (by omega)).trans ?_; first | assumption | exact xu_self | (refine (xu_ne (by omega)).trans ?_; first | assumption | exact xu_self))))) (by omega) xd_MO_behind_35 rfl ?_
            refine xv_topi hC.1 ?_
            refine xv_istore (pc' := 38) hF xd_MO_behind_36 (Nat.le_of_ble_eq_true rfl) rfl rfl ?_
            refine xv_iload (pc' := 40) hF xd_MO_behind_38 rfl rfl ?_
            refine xv_ldc (pc' := 42) hF xk_MO_k96 xd_MO_behind_40 rfl ?_
            refine xv_topi (v' := nI 1000000) (by decide +kernel) ?_
            refine xv_icmp_geN (pc' := 45) (tgt := 71) hF (by omega) (by omega) xd_MO_behind_42 (by decide) rfl (fun e2 => ?_) (fun e2 => ?_)
            · refine xv_loc _ (by repeat (first | exact trivial | refine ⟨rfl, ?_⟩)) (fin g2 (hg2.congr fun s a b hs ha hb => ?_))
              by_cases c : s = 39
              · subst c; rw [va_s, va_s, cs, if_neg (by omega)]
              · rw [va_n c, va_n c]
            · refine xv_aload_n (pc' := 46) (i := 0) hF xd_MO_behind_45 rfl rfl rfl ?_
              refine xv_iload (pc' := 48) hF xd_MO_behind_46 rfl rfl ?_
              refine xv_bipushN (pc' := 50) 32 hF xd_MO_behind_48 (by decide +kernel) rfl ?_
              refine xv_iload_n (pc' := 51) (i := 3) hF xd_MO_behind_50 rfl rfl rfl ?_
              refine xv_bipushN (pc' := 53) 32 hF xd_MO_behind_51 (by decide +kernel) rfl ?_
              refine xv_idivN (pc' := 54) hF (by omega) (by decide) (by decide) xd_MO_behind_53 rfl ?_
              first | refine xv_imulN (pc' := 55) hF xd_MO_behind_54 rfl ?_ | refine xv_imul (pc' := 55) hF xd_MO_behind_54 rfl ?_
              refine xv_sipushN (pc' := 58) 1024 hF xd_MO_behind_55 (by decide +kernel) rfl ?_
              refine xv_iload_n (pc' := 59) (i := 2) hF xd_MO_behind_58 rfl rfl rfl ?_
              first | refine xv_imulN (pc' := 60) hF xd_MO_behind_59 rfl ?_ | refine xv_imul (pc' := 60) hF xd_MO_behind_59 rfl ?_
              refine xv_bipushN (pc' := 62) 32 hF xd_MO_behind_60 (by decide +kernel) rfl ?_
              refine xv_iload_n (pc' := 63) (i := 3) hF xd_MO_behind_62 rfl rfl rfl ?_
              refine xv_bipushN (pc' := 65) 32 hF xd_MO_behind_63 (by decide +kernel) rfl ?_
              refine xv_iremN (pc' := 66) hF (by omega) (by decide) (by decide) xd_MO_behind_65 rfl ?_
              first | refine xv_imulN (pc' := 67) hF xd_MO_behind_66 rfl ?_ | refine xv_imul (pc' := 67) hF xd_MO_behind_66 rfl ?_
              first | refine xv_iaddN (pc' := 68) hF xd_MO_behind_67 rfl ?_ | refine xv_iadd (pc' := 68) hF xd_MO_behind_67 rfl ?_
              refine xv_callVv (pc' := 71) (ci := 6) hF (c_MO_spread K n _ p th ma sz ln at_ f op true (S to (k / 32) (k % 32)) (k / 32) t (k % 32) g2 _ ho2 xu_self hg2 e2 (by omega) (by omega) ht) xq_MO_spread xk_MO_m101 xk_i_MO_spread xk_s_MO_spread (by first | assumption | exact xu_self | (refine (xu_ne (by omega)).trans ?_; first | assumption | exact xu_self | (refine (xu_ne (by omega)).trans ?_; first | assumption | exact xu_self | (refine (xu_ne (by omega)).trans ?_; first | assumption | exact xu_self | (refine (xu_ne (by omega)).trans ?_; first | assumption | exact xu_self))))) rfl ⟨(Nat.le_of_ble_eq_true rfl), (Nat.le_of_ble_eq_true rfl)⟩ rfl rfl (Nat.le_of_ble_eq_true rfl) ⟨(Nat.le_of_ble_eq_true rfl), (Nat.le_of_ble_eq_true rfl)⟩ xd_MO_behind_68 rfl (fun n3 h3 q3 => ?_)
              obtain ⟨rfl, g3, rfl, hg3⟩ := q3
              rw [xu_xu]
              refine xv_loc _ (by repeat (first | exact trivial | refine ⟨rfl, ?_⟩)) (fin g3 (hg3.congr fun s a b hs ha hb => ?_))
              by_cases c : s = 39
              · subst c
                rw [va_s, va_s, va_s, va_n (by omega), cs]
                unfold md_go
                by_cases c2 : S t (k % 32) b < 1000000
                · by_cases c3 : a = k / 32
                  · rw [if_pos ⟨c3, e2, c2⟩, if_pos ⟨c3, hb, c2⟩]
                  · rw [if_neg (by omega), if_neg (by omega)]
                · rw [if_neg (by omega), if_neg (by omega)]
              · rw [va_n c, va_n c, va_n c]
      refine xv_loc _ (by repeat (first | exact trivial | refine ⟨rfl, ?_⟩)) (loop 1024 0 g1 (by omega) (by omega) (hg1.congr fun s a b hs ha hb => ?_))
      by_cases c : s = 39
      · subst c; rw [va_s, va_s, show (0 : Nat) / 32 = 0 from rfl, show (0 : Nat) % 32 = 0 from rfl, md_ct_0 (by omega)]; rfl
      · rw [va_n c, va_n c]
    · cases e
