/-! at will -/
theorem md_fw_col {M : Nat → Nat → Nat} {k x : Nat} : md_fw M (k + 1) x k = md_fw M k x k := by
  show (if _ then _ else _) = _
  split
  · exact Nat.min_eq_left (Nat.le_add_right _ _)
  · rfl
def md_fz (M : Nat → Nat → Nat) (v k : Nat) : Nat → Nat → Nat := fun x y => if 32 * x + y < k then md_fw M (v + 1) x y else md_fw M v x y
set_option maxHeartbeats 4000000 in
set_option maxRecDepth 100000 in
theorem c_MO_again (K : xK) (n : Nat) (h : xH) (p th ma sz ln at_ f op : Nat) (mk : Bool) (fr : Nat) (g : Nat → Int32) (S : Nat → Nat → Nat → Nat) (ho : h p = some (.inr (6, [.int (nI th), .ref (p + 1), .ref (p + 2), .int (nI ma), .ref (p + 3), .int (nI sz), .ref (p + 4), .ref (p + 5), .ref (p + 6), .ref (p + 7), .int (nI ln), .int (nI at_), .int (xm1 f), .int (xb mk), .ref (p + 8), .ref (p + 9), .ref (p + 10), .int (nI op), .ref (p + 11), .ref (p + 12)]))) (hs : h (p + 8) = some (.inl (K.2.2.1 0, 40960, .inl g))) (hg : sq_is g S) (hfr : fr < 36) : XM K xy_MO_again xw_MO_again (xrm 1 25 0 0) [.ref p, .int (nI fr)] n h (x_pv fun n' h' => n = n' ∧ ∃ g', h' = xu h (p + 8) (.inl (K.2.2.1 0, 40960, .inl g')) ∧ sq_is g' (if mk then va_up S 36 (md_fw (fun i j => min (md_1 i j) (S fr i j)) 32) else S)) 0 0 := by
  refine xm_v (by decide +kernel) (Nat.le_of_ble_eq_true rfl) (fun G hF hR => ?_)
  refine xv_aload_n (pc' := 1) (i := 0) hF xd_MO_again_0 rfl rfl rfl ?_
  refine xv_bipushN (pc' := 3) 36 hF xd_MO_again_1 (by decide +kernel) rfl ?_
  refine xv_iconstN (pc' := 4) 1 hF xd_MO_again_3 (by decide +kernel) rfl ?_
  refine xv_topi (v' := xb true) (by decide +kernel) ?_
  refine xv_callVv (pc' := 7) (ci := 6) hF (c_MO_plain K n h p th ma sz ln at_ f op mk 36 true g S ho hs hg (by decide)) xq_MO_plain xk_MO_m97 xk_i_MO_plain xk_s_MO_plain (by first | assumption | exact xu_self | (refine (xu_ne (by omega)).trans ?_; first | assumption | exact xu_self | (refine (xu_ne (by omega)).trans ?_; first | assumption | exact xu_self | (refine (xu_ne (by omega)).trans ?_; first | assumption | exact xu_self | (refine (xu_ne (by omega)).trans ?_; first | assumption | exact xu_self))))) rfl ⟨(Nat.le_of_ble_eq_true rfl), (Nat.le_of_ble_eq_true rfl)⟩ rfl rfl (Nat.le_of_ble_eq_true rfl) ⟨(Nat.le_of_ble_eq_true rfl), (Nat.le_of_ble_eq_true rfl)⟩ xd_MO_again_4 rfl (fun n1 h1 q1 => ?_)
  obtain ⟨rfl, g1, rfl, hg1⟩ := q1
  have ho1 : (xu h (p + 8) (.inl (K.2.2.1 0, 40960, .inl g1))) p = some (.inr (6, [.int (nI th), .ref (p + 1), .ref (p + 2), .int (nI ma), .ref (p + 3), .int (nI sz), .ref (p + 4), .ref (p + 5), .ref (p + 6), .ref (p + 7), .int (nI ln), .int (nI at_), .int (xm1 f), .int (xb mk), .ref (p + 8), .ref (p + 9), .ref (p + 10), .int (nI op), .ref (p + 11), .ref (p + 12)])) := by rw [xu_ne (by omega)]; exact ho
  refine xv_aload_n (pc' := 8) (i := 0) hF xd_MO_again_7 rfl rfl rfl ?_
  refine xv_bipushN (pc' := 10) 36 hF xd_MO_again_8 (by decide +kernel) rfl ?_
  refine xv_iload_n (pc' := 11) (i := 1) hF xd_MO_again_10 rfl rfl rfl ?_
  refine xv_callVv (pc' := 14) (ci := 6) hF (c_MO_either K n _ p th ma sz ln at_ f op mk 36 fr g1 _ ho1 xu_self hg1 (by omega) (by decide) (by omega)) xq_MO_either xk_MO_m110 xk_i_MO_either xk_s_MO_either (by first | assumption | exact xu_self | (refine (xu_ne (by omega)).trans ?_; first | assumption | exact xu_self | (refine (xu_ne (by omega)).trans ?_; first | assumption | exact xu_self | (refine (xu_ne (by omega)).trans ?_; first | assumption | exact xu_self | (refine (xu_ne (by omega)).trans ?_; first | assumption | exact xu_self))))) rfl ⟨(Nat.le_of_ble_eq_true rfl), (Nat.le_of_ble_eq_true rfl)⟩ rfl rfl (Nat.le_of_ble_eq_true rfl) ⟨(Nat.le_of_ble_eq_true rfl), (Nat.le_of_ble_eq_true rfl)⟩ xd_MO_again_11 rfl (fun n2 h2 q2 => ?_)
  obtain ⟨rfl, g2, rfl, hg2⟩ := q2
  rw [xu_xu]
  refine xv_iconstN (pc' := 15) 0 hF xd_MO_again_14 (by decide +kernel) rfl ?_
  refine xv_istore_n (pc' := 16) (i := 2) hF xd_MO_again_15 rfl (Nat.le_of_ble_eq_true rfl) rfl rfl ?_
  cases mk with
  | false =>
    refine xv_aload_n (pc' := 17) (i := 0) hF xd_MO_again_16 rfl rfl rfl ?_
    refine xv_get (pc' := 20) (ci := 6) hF (by first | assumption | exact xu_self | (refine (xu_ne (by omega)).trans ?_; first | assumption | exact xu_self | (refine (xu_ne (by omega)).trans ?_; first | assumption | exact xu_self | (refine (xu_ne (by omega)).trans ?_; first | assumption | exact xu_self | (refine (xu_ne (by omega)).trans ?_; first | assumption | exact xu_self))))) rfl xu_MO 13 (by decide) xk_MO_f92 (by rfl) xd_MO_again_17 rfl ?_
    refine xv_if_eqB (pc' := 23) (tgt := 133) hF xd_MO_again_20 (by decide) rfl (fun e => ?_) (fun e => ?_)
    · refine hR _ _ _ _ _ _ (by omega) (by omega) ?_ xd_MO_again_133
      refine ⟨rfl, g2, rfl, ?_⟩
      simp only [Bool.false_eq_true, if_false] at hg2 ⊢
      exact hg2
    · cases e
  | true =>
    have hg3 : sq_is g2 (va_up S 36 (md_fz (fun i j => min (md_1 i j) (S fr i j)) 0 0)) := by
      refine hg2.congr fun s a b hs ha hb => ?_
      simp only [if_true]
      by_cases c : s = 36
      · subst c
        rw [va_s, va_s, va_s, va_n (by omega)]
        unfold md_fz
        rw [if_neg (by omega)]
        rfl
      · rw [va_n c, va_n c, va_n c]
    clear hg1 hg2
    have loop : ∀ d v g3, 32 - v = d → v ≤ 32 → sq_is g3 (va_up S 36 (md_fz (fun i j => min (md_1 i j) (S fr i j)) v 0)) → XV G (0 + 0 + 0) (0 + 0 + 0) 16 [(2, .int (nI v)), (0, .ref p), (1, .int (nI fr))] [] n (xu h (p + 8) (.inl (K.2.2.1 0, 40960, .inl g3))) := by
      intro d
      induction d using Nat.strongRecOn with
      | ind d ih =>
        intro v g3 hd hv hg3
        refine xv_aload_n (pc' := 17) (i := 0) hF xd_MO_again_16 rfl rfl rfl ?_
        refine xv_get (pc' := 20) (ci := 6) hF (by first | assumption | exact xu_self | (refine (xu_ne (by omega)).trans ?_; first | assumption | exact xu_self | (refine (xu_ne (by omega)).trans ?_; first | assumption | exact xu_self | (refine (xu_ne (by omega)).trans ?_; first | assumption | exact xu_self | (refine (xu_ne (by omega)).trans ?_; first | assumption | exact xu_self))))) rfl xu_MO 13 (by decide) xk_MO_f92 (by rfl) xd_MO_again_17 rfl ?_
        refine xv_if_eqB (pc' := 23) (tgt := 133) hF xd_MO_again_20 (by decide) rfl (fun e => ?_) (fun e => ?_)
        · cases e
        · refine xv_iload_n (pc' := 24) (i := 2) hF xd_MO_again_23 rfl rfl rfl ?_
          refine xv_bipushN (pc' := 26) 32 hF xd_MO_again_24 (by decide +kernel) rfl ?_
          refine xv_icmp_geN (pc' := 29) (tgt := 133) hF (by omega) (by omega) xd_MO_again_26 (by decide) rfl (fun e1 => ?_) (fun e1 => ?_)
          · have : v = 32 := by omega
            subst this
            refine hR _ _ _ _ _ _ (by omega) (by omega) ?_ xd_MO_again_133
            refine ⟨rfl, g3, rfl, hg3.congr fun s a b hs ha hb => ?_⟩
            simp only [if_true]
            by_cases c : s = 36
            · subst c
              rw [va_s, va_s]
              unfold md_fz
              rw [if_neg (by omega)]
            · rw [va_n c, va_n c]
          · refine xv_iconstN (pc' := 30) 0 hF xd_MO_again_29 (by decide +kernel) rfl ?_
            refine xv_istore_n (pc' := 31) (i := 3) hF xd_MO_again_30 rfl (Nat.le_of_ble_eq_true rfl) rfl rfl ?_
            have loop2 : ∀ d2 k g4, 1024 - k = d2 → k ≤ 1024 → sq_is g4 (va_up S 36 (md_fz (fun i j => min (md_1 i j) (S fr i j)) v k)) → XV G (0 + 0 + 0) (0 + 0 + 0) 31 [(3, .int (nI k)), (2, .int (nI v)), (0, .ref p), (1, .int (nI fr))] [] n (xu h (p + 8) (.inl (K.2.2.1 0, 40960, .inl g4))) := by
              intro d2
              induction d2 using Nat.strongRecOn with
              | ind d2 ih2 =>
                intro k g4 hd2 hk hg4
                refine xv_iload_n (pc' := 32) (i := 3) hF xd_MO_again_31 rfl rfl rfl ?_
                refine xv_sipushN (pc' := 35) 1024 hF xd_MO_again_32 (by decide +kernel) rfl ?_
                refine xv_icmp_geN (pc' := 38) (tgt := 127) hF (by omega) (by omega) xd_MO_again_35 (by decide) rfl (fun e2 => ?_) (fun e2 => ?_)
                · first | refine xv_iincN (pc' := 130) hF xd_MO_again_127 rfl rfl (Nat.le_of_ble_eq_true rfl) rfl rfl ?_ | refine xv_iinc (pc' := 130) hF xd_MO_again_127 rfl rfl (Nat.le_of_ble_eq_true rfl) rfl rfl ?_
                  refine xv_goto (tgt := 16) hF xd_MO_again_130 (by decide) ?_
                  refine xv_loc _ (by repeat (first | exact trivial | refine ⟨rfl, ?_⟩)) (ih _ (by omega) (v + 1) g4 rfl (by omega) (hg4.congr fun s a b hs ha hb => ?_))
                  by_cases c : s = 36
                  · subst c
                    rw [va_s, va_s]
                    unfold md_fz
                    rw [if_neg (by omega), if_pos (by omega)]
                  · rw [va_n c, va_n c]
                · have h1 := hg4.at (t := 36) (i := k / 32) (j := v) (by decide) (by omega) e1
                  have h2 := hg4.at (t := 36) (i := v) (j := k % 32) (by decide) e1 (by omega)
                  have h3 := hg4.at (t := 36) (i := k / 32) (j := k % 32) (by decide) (by omega) (by omega)
                  rw [va_s] at h1 h2 h3
                  have q1 : md_fz (fun i j => min (md_1 i j) (S fr i j)) v k (k / 32) v = md_fw (fun i j => min (md_1 i j) (S fr i j)) v (k / 32) v := by
                    unfold md_fz; split
                    · exact md_fw_col
                    · rfl
                  have q2 : md_fz (fun i j => min (md_1 i j) (S fr i j)) v k v (k % 32) = md_fw (fun i j => min (md_1 i j) (S fr i j)) v v (k % 32) := by
                    unfold md_fz; split
                    · exact md_fw_row
                    · rfl
                  have q3 : md_fz (fun i j => min (md_1 i j) (S fr i j)) v k (k / 32) (k % 32) = md_fw (fun i j => min (md_1 i j) (S fr i j)) v (k / 32) (k % 32) := by
                    unfold md_fz; rw [if_neg (by omega)]
                  rw [q1] at h1
                  rw [q2] at h2
                  rw [q3] at h3
                  have nw : md_fw (fun i j => min (md_1 i j) (S fr i j)) (v + 1) (k / 32) (k % 32) = if md_fw (fun i j => min (md_1 i j) (S fr i j)) v (k / 32) v < 1000000 ∧ md_fw (fun i j => min (md_1 i j) (S fr i j)) v v (k % 32) < 1000000 then min (md_fw (fun i j => min (md_1 i j) (S fr i j)) v (k / 32) (k % 32)) (md_fw (fun i j => min (md_1 i j) (S fr i j)) v (k / 32) v + md_fw (fun i j => min (md_1 i j) (S fr i j)) v v (k % 32)) else md_fw (fun i j => min (md_1 i j) (S fr i j)) v (k / 32) (k % 32) := rfl
                  have st : ∀ y, md_fw (fun i j => min (md_1 i j) (S fr i j)) (v + 1) (k / 32) (k % 32) = y → ∀ a b, a < 32 → b < 32 → md_fz (fun i j => min (md_1 i j) (S fr i j)) v (k + 1) a b = md_set (md_fz (fun i j => min (md_1 i j) (S fr i j)) v k) (k / 32) (k % 32) y a b := by
                    intro y hy a b ha hb
                    by_cases c : a = k / 32 ∧ b = k % 32
                    · obtain ⟨rfl, rfl⟩ := c
                      rw [md_set_s]
                      unfold md_fz
                      rw [if_pos (by omega), hy]
                    · rw [md_set_n c]
                      unfold md_fz
                      by_cases c2 : 32 * a + b < k
                      · rw [if_pos c2, if_pos (by omega)]
                      · rw [if_neg c2, if_neg (by omega)]
                  have keep : md_fw (fun i j => min (md_1 i j) (S fr i j)) (v + 1) (k / 32) (k % 32) = md_fw (fun i j => min (md_1 i j) (S fr i j)) v (k / 32) (k % 32) → XV G (0 + 0 + 0) (0 + 0 + 0) 121 [(3, .int (nI k)), (2, .int (nI v)), (0, .ref p), (1, .int (nI fr))] [] n (xu h (p + 8) (.inl (K.2.2.1 0, 40960, .inl g4))) := by
                    intro hy
                    first | refine xv_iincN (pc' := 124) hF xd_MO_again_121 rfl rfl (Nat.le_of_ble_eq_true rfl) rfl rfl ?_ | refine xv_iinc (pc' := 124) hF xd_MO_again_121 rfl rfl (Nat.le_of_ble_eq_true rfl) rfl rfl ?_
                    refine xv_goto (tgt := 31) hF xd_MO_again_124 (by decide) ?_
                    refine xv_loc _ (by repeat (first | exact trivial | refine ⟨rfl, ?_⟩)) (ih2 _ (by omega) (k + 1) g4 rfl (by omega) (hg4.congr fun s a b hs ha hb => ?_))
                    by_cases c : s = 36
                    · subst c
                      rw [va_s, va_s, st _ (hy.trans q3.symm) a b ha hb, md_set_id]
                    · rw [va_n c, va_n c]
                  refine xv_aload_n (pc' := 39) (i := 0) hF xd_MO_again_38 rfl rfl rfl ?_
                  refine xv_get (pc' := 42) (ci := 6) hF (by first | assumption | exact xu_self | (refine (xu_ne (by omega)).trans ?_; first | assumption | exact xu_self | (refine (xu_ne (by omega)).trans ?_; first | assumption | exact xu_self | (refine (xu_ne (by omega)).trans ?_; first | assumption | exact xu_self | (refine (xu_ne (by omega)).trans ?_; first | assumption | exact xu_self))))) rfl xu_MO 14 (by decide) xk_MO_f33 (by rfl) xd_MO_again_39 rfl ?_
                  refine xv_ldc (pc' := 44) hF xk_MO_k113 xd_MO_again_42 rfl ?_
                  refine xv_topi (v' := nI 36864) (by decide +kernel) ?_
                  refine xv_iload_n (pc' := 45) (i := 3) hF xd_MO_again_44 rfl rfl rfl ?_
                  refine xv_bipushN (pc' := 47) 32 hF xd_MO_again_45 (by decide +kernel) rfl ?_
                  refine xv_idivN (pc' := 48) hF (by omega) (by decide) (by decide) xd_MO_again_47 rfl ?_
                  refine xv_bipushN (pc' := 50) 32 hF xd_MO_again_48 (by decide +kernel) rfl ?_
                  first | refine xv_imulN (pc' := 51) hF xd_MO_again_50 rfl ?_ | refine xv_imul (pc' := 51) hF xd_MO_again_50 rfl ?_
                  first | refine xv_iaddN (pc' := 52) hF xd_MO_again_51 rfl ?_ | refine xv_iadd (pc' := 52) hF xd_MO_again_51 rfl ?_
                  refine xv_iload_n (pc' := 53) (i := 2) hF xd_MO_again_52 rfl rfl rfl ?_
                  first | refine xv_iaddN (pc' := 54) hF xd_MO_again_53 rfl ?_ | refine xv_iadd (pc' := 54) hF xd_MO_again_53 rfl ?_
                  first | refine xv_ialdN (pc' := 55) hF (by first | assumption | exact xu_self | (refine (xu_ne (by omega)).trans ?_; first | assumption | exact xu_self | (refine (xu_ne (by omega)).trans ?_; first | assumption | exact xu_self | (refine (xu_ne (by omega)).trans ?_; first | assumption | exact xu_self | (refine (xu_ne (by omega)).trans ?_; first | assumption | exact xu_self))))) (by omega) (by decide) xd_MO_again_54 rfl ?_ | refine xv_iald (pc' := 55) hF (by first | assumption | exact xu_self | (refine (xu_ne (by omega)).trans ?_; first | assumption | exact xu_self | (refine (xu_ne (by omega)).trans ?_; first | assumption | exact xu_self | (refine (xu_ne (by omega)).trans ?_; first | assumption | exact xu_self | (refine (xu_ne (by omega)).trans ?_; first | assumption | exact xu_self))))) (by omega) xd_MO_again_54 rfl ?_
                  refine xv_topi (v' := nI (md_fw (fun i j => min (md_1 i j) (S fr i j)) v (k / 32) v)) (by rw [show 36864 + k / 32 * 32 + v = 1024 * 36 + (32 * (k / 32) + v) by omega]; exact h1.1) ?_
                  refine xv_istore (pc' := 57) hF xd_MO_again_55 (Nat.le_of_ble_eq_true rfl) rfl rfl ?_
                  refine xv_aload_n (pc' := 58) (i := 0) hF xd_MO_again_57 rfl rfl rfl ?_
                  refine xv_get (pc' := 61) (ci := 6) hF (by first | assumption | exact xu_self | (refine (xu_ne (by omega)).trans ?_; first | assumption | exact xu_self | (refine (xu_ne (by omega)).trans ?_; first | assumption | exact xu_self | (refine (xu_ne (by omega)).trans ?_; first | assumption | exact xu_self | (refine (xu_ne (by omega)).trans ?_; first | assumption | exact xu_self))))) rfl xu_MO 14 (by decide) xk_MO_f33 (by rfl) xd_MO_again_58 rfl ?_
                  refine xv_ldc (pc' := 63) hF xk_MO_k113 xd_MO_again_61 rfl ?_
                  refine xv_topi (v' := nI 36864) (by decide +kernel) ?_
                  refine xv_bipushN (pc' := 65) 32 hF xd_MO_again_63 (by decide +kernel) rfl ?_
                  refine xv_iload_n (pc' := 66) (i := 2) hF xd_MO_again_65 rfl rfl rfl ?_
                  first | refine xv_imulN (pc' := 67) hF xd_MO_again_66 rfl ?_ | refine xv_imul (pc' := 67) hF xd_MO_again_66 rfl ?_
                  first | refine xv_iaddN (pc' := 68) hF xd_MO_again_67 rfl ?_ | refine xv_iadd (pc' := 68) hF xd_MO_again_67 rfl ?_
                  refine xv_iload_n (pc' := 69) (i := 3) hF xd_MO_again_68 rfl rfl rfl ?_
                  refine xv_bipushN (pc' := 71) 32 hF xd_MO_again_69 (by decide +kernel) rfl ?_
                  refine xv_iremN (pc' := 72) hF (by omega) (by decide) (by decide) xd_MO_again_71 rfl ?_
                  first | refine xv_iaddN (pc' := 73) hF xd_MO_again_72 rfl ?_ | refine xv_iadd (pc' := 73) hF xd_MO_again_72 rfl ?_
                  first | refine xv_ialdN (pc' := 74) hF (by first | assumption | exact xu_self | (refine (xu_ne (by omega)).trans ?_; first | assumption | exact xu_self | (refine (xu_ne (by omega)).trans ?_; first | assumption | exact xu_self | (refine (xu_ne (by omega)).trans ?_; first | assumption | exact xu_self | (refine (xu_ne (by omega)).trans ?_; first | assumption | exact xu_self))))) (by omega) (by decide) xd_MO_again_73 rfl ?_ | refine xv_iald (pc' := 74) hF (by first | assumption | exact xu_self | (refine (xu_ne (by omega)).trans ?_; first | assumption | exact xu_self | (refine (xu_ne (by omega)).trans ?_; first | assumption | exact xu_self | (refine (xu_ne (by omega)).trans ?_; first | assumption | exact xu_self | (refine (xu_ne (by omega)).trans ?_; first | assumption | exact xu_self))))) (by omega) xd_MO_again_73 rfl ?_
                  refine xv_topi (v' := nI (md_fw (fun i j => min (md_1 i j) (S fr i j)) v v (k % 32))) (by rw [show 36864 + 32 * v + k % 32 = 1024 * 36 + (32 * v + k % 32) by omega]; exact h2.1) ?_
                  refine xv_istore (pc' := 76) hF xd_MO_again_74 (Nat.le_of_ble_eq_true rfl) rfl rfl ?_
                  refine xv_iload (pc' := 78) hF xd_MO_again_76 rfl rfl ?_
                  refine xv_ldc (pc' := 80) hF xk_MO_k96 xd_MO_again_78 rfl ?_
                  refine xv_topi (v' := nI 1000000) (by decide +kernel) ?_
                  refine xv_icmp_geN (pc' := 83) (tgt := 121) hF (by omega) (by omega) xd_MO_again_80 (by decide) rfl (fun e3 => ?_) (fun e3 => ?_)
                  · exact xv_loc _ (by repeat (first | exact trivial | refine ⟨rfl, ?_⟩)) (keep (by rw [nw, if_neg (by omega)]))
                  · refine xv_iload (pc' := 85) hF xd_MO_again_83 rfl rfl ?_
                    refine xv_ldc (pc' := 87) hF xk_MO_k96 xd_MO_again_85 rfl ?_
                    refine xv_topi (v' := nI 1000000) (by decide +kernel) ?_
                    refine xv_icmp_geN (pc' := 90) (tgt := 121) hF (by omega) (by omega) xd_MO_again_87 (by decide) rfl (fun e4 => ?_) (fun e4 => ?_)
                    · exact xv_loc _ (by repeat (first | exact trivial | refine ⟨rfl, ?_⟩)) (keep (by rw [nw, if_neg (by omega)]))
                    · refine xv_iload (pc' := 92) hF xd_MO_again_90 rfl rfl ?_
                      refine xv_iload (pc' := 94) hF xd_MO_again_92 rfl rfl ?_
                      first | refine xv_iaddN (pc' := 95) hF xd_MO_again_94 rfl ?_ | refine xv_iadd (pc' := 95) hF xd_MO_again_94 rfl ?_
                      refine xv_aload_n (pc' := 96) (i := 0) hF xd_MO_again_95 rfl rfl rfl ?_
                      refine xv_get (pc' := 99) (ci := 6) hF (by first | assumption | exact xu_self | (refine (xu_ne (by omega)).trans ?_; first | assumption | exact xu_self | (refine (xu_ne (by omega)).trans ?_; first | assumption | exact xu_self | (refine (xu_ne (by omega)).trans ?_; first | assumption | exact xu_self | (refine (xu_ne (by omega)).trans ?_; first | assumption | exact xu_self))))) rfl xu_MO 14 (by decide) xk_MO_f33 (by rfl) xd_MO_again_96 rfl ?_
                      refine xv_ldc (pc' := 101) hF xk_MO_k113 xd_MO_again_99 rfl ?_
                      refine xv_topi (v' := nI 36864) (by decide +kernel) ?_
                      refine xv_iload_n (pc' := 102) (i := 3) hF xd_MO_again_101 rfl rfl rfl ?_
                      first | refine xv_iaddN (pc' := 103) hF xd_MO_again_102 rfl ?_ | refine xv_iadd (pc' := 103) hF xd_MO_again_102 rfl ?_
                      first | refine xv_ialdN (pc' := 104) hF (by first | assumption | exact xu_self | (refine (xu_ne (by omega)).trans ?_; first | assumption | exact xu_self | (refine (xu_ne (by omega)).trans ?_; first | assumption | exact xu_self | (refine (xu_ne (by omega)).trans ?_; first | assumption | exact xu_self | (refine (xu_ne (by omega)).trans ?_; first | assumption | exact xu_self))))) (by omega) (by decide) xd_MO_again_103 rfl ?_ | refine xv_iald (pc' := 104) hF (by first | assumption | exact xu_self | (refine (xu_ne (by omega)).trans ?_; first | assumption | exact xu_self | (refine (xu_ne (by omega)).trans ?_; first | assumption | exact xu_self | (refine (xu_ne (by omega)).trans ?_; first | assumption | exact xu_self | (refine (xu_ne (by omega)).trans ?_; first | assumption | exact xu_self))))) (by omega) xd_MO_again_103 rfl ?_
                      refine xv_topi (v' := nI (md_fw (fun i j => min (md_1 i j) (S fr i j)) v (k / 32) (k % 32))) (by rw [show 36864 + k = 1024 * 36 + (32 * (k / 32) + k % 32) by omega]; exact h3.1) ?_
                      refine xv_icmp_geN (pc' := 107) (tgt := 121) hF (by omega) (by omega) xd_MO_again_104 (by decide) rfl (fun e5 => ?_) (fun e5 => ?_)
                      · exact xv_loc _ (by repeat (first | exact trivial | refine ⟨rfl, ?_⟩)) (keep (by rw [nw, if_pos ⟨e3, e4⟩]; omega))
                      · refine xv_aload_n (pc' := 108) (i := 0) hF xd_MO_again_107 rfl rfl rfl ?_
                        refine xv_get (pc' := 111) (ci := 6) hF (by first | assumption | exact xu_self | (refine (xu_ne (by omega)).trans ?_; first | assumption | exact xu_self | (refine (xu_ne (by omega)).trans ?_; first | assumption | exact xu_self | (refine (xu_ne (by omega)).trans ?_; first | assumption | exact xu_self | (refine (xu_ne (by omega)).trans ?_; first | assumption | exact xu_self))))) rfl xu_MO 14 (by decide) xk_MO_f33 (by rfl) xd_MO_again_108 rfl ?_
                        refine xv_ldc (pc' := 113) hF xk_MO_k113 xd_MO_again_111 rfl ?_
                        refine xv_topi (v' := nI 36864) (by decide +kernel) ?_
                        refine xv_iload_n (pc' := 114) (i := 3) hF xd_MO_again_113 rfl rfl rfl ?_
                        first | refine xv_iaddN (pc' := 115) hF xd_MO_again_114 rfl ?_ | refine xv_iadd (pc' := 115) hF xd_MO_again_114 rfl ?_
                        refine xv_iload (pc' := 117) hF xd_MO_again_115 rfl rfl ?_
                        refine xv_iload (pc' := 119) hF xd_MO_again_117 rfl rfl ?_
                        first | refine xv_iaddN (pc' := 120) hF xd_MO_again_119 rfl ?_ | refine xv_iadd (pc' := 120) hF xd_MO_again_119 rfl ?_
                        refine xv_iastN (pc' := 121) hF (by first | assumption | exact xu_self | (refine (xu_ne (by omega)).trans ?_; first | assumption | exact xu_self | (refine (xu_ne (by omega)).trans ?_; first | assumption | exact xu_self | (refine (xu_ne (by omega)).trans ?_; first | assumption | exact xu_self | (refine (xu_ne (by omega)).trans ?_; first | assumption | exact xu_self))))) (by omega) (by decide) xd_MO_again_120 rfl ?_
                        first | refine xv_iincN (pc' := 124) hF xd_MO_again_121 rfl rfl (Nat.le_of_ble_eq_true rfl) rfl rfl ?_ | refine xv_iinc (pc' := 124) hF xd_MO_again_121 rfl rfl (Nat.le_of_ble_eq_true rfl) rfl rfl ?_
                        refine xv_goto (tgt := 31) hF xd_MO_again_124 (by decide) ?_
                        rw [xu_xu]
                        refine xv_loc _ (by repeat (first | exact trivial | refine ⟨rfl, ?_⟩)) (ih2 _ (by omega) (k + 1) _ rfl (by omega) ?_)
                        have := sq_set hg4 (t := 36) (i := k / 32) (j := k % 32) (v := md_fw (fun i j => min (md_1 i j) (S fr i j)) v (k / 32) v + md_fw (fun i j => min (md_1 i j) (S fr i j)) v v (k % 32)) (by decide) (by omega) (by omega) (by omega)
                        rw [show 1024 * 36 + 32 * (k / 32) + k % 32 = 36864 + k by omega] at this
                        have hy : md_fw (fun i j => min (md_1 i j) (S fr i j)) (v + 1) (k / 32) (k % 32) = md_fw (fun i j => min (md_1 i j) (S fr i j)) v (k / 32) v + md_fw (fun i j => min (md_1 i j) (S fr i j)) v v (k % 32) := by
                          rw [nw, if_pos ⟨e3, e4⟩]; omega
                        refine this.congr fun s a b hs ha hb => ?_
                        by_cases c : s = 36
                        · subst c
                          rw [va_s, va_s, va_s, st _ hy a b ha hb]
                        · rw [va_n c, va_n c, va_n c]
            exact xv_loc _ (by repeat (first | exact trivial | refine ⟨rfl, ?_⟩)) (loop2 1024 0 g3 (by omega) (by omega) hg3)
    exact xv_loc _ (by repeat (first | exact trivial | refine ⟨rfl, ?_⟩)) (loop 32 0 g2 (by omega) (by omega) hg3)
