/-! Integer.bitCount -/
set_option maxHeartbeats 4000000 in
set_option maxRecDepth 100000 in
theorem c_JI_bitCount (K : xK) (n : Nat) (h : xH) (x : Int32) : XM K xy_JI_bitCount xw_JI_bitCount (xrm 0 0 0 0) [.int x] n h (x_pi fun r n' h' => r = nI (bc_n (bt x) 32) ∧ n = n' ∧ h = h') 0 0 := by
  obtain ⟨X, hX, rfl⟩ := nx_of x
  obtain ⟨y, ey⟩ : ∃ y, y = X - (X / 2 &&& 0x55555555) := ⟨_, rfl⟩
  obtain ⟨z, ez⟩ : ∃ z, z = (y &&& 0x33333333) + (y / 4 &&& 0x33333333) := ⟨_, rfl⟩
  obtain ⟨w, ew⟩ : ∃ w, w = (z + z / 16) &&& 0x0f0f0f0f := ⟨_, rfl⟩
  obtain ⟨v, ev⟩ : ∃ v, v = w + w / 256 := ⟨_, rfl⟩
  obtain ⟨u, eu⟩ : ∃ u, u = v + v / 65536 := ⟨_, rfl⟩
  obtain ⟨r1, r2, r3, r4⟩ := bc_nat hX ey ez ew ev eu
  have hy : y ≤ X := by omega
  refine xm_i (by decide +kernel) (Nat.le_of_ble_eq_true rfl) (fun G hF hR => ?_)
  refine xv_iload_n (pc' := 1) (i := 0) hF xd_JI_bitCount_0 rfl rfl rfl ?_
  refine xv_iload_n (pc' := 2) (i := 0) hF xd_JI_bitCount_1 rfl rfl rfl ?_
  refine xv_iconstN (pc' := 3) 1 hF xd_JI_bitCount_2 (by decide +kernel) rfl ?_
  first | refine xv_iushrN (pc' := 4) hF (by omega) (by decide) xd_JI_bitCount_3 rfl ?_ | refine xv_iushr (pc' := 4) hF xd_JI_bitCount_3 rfl rfl ?_
  refine xv_ldcw (pc' := 7) hF xk_JI_k265 xd_JI_bitCount_4 rfl ?_
  refine xv_topi (v' := nI 1431655765) (by decide +kernel) ?_
  first | refine xv_iandN (pc' := 8) hF xd_JI_bitCount_7 rfl ?_ | refine xv_iand (pc' := 8) hF xd_JI_bitCount_7 rfl ?_
  refine xv_isubN (pc' := 9) hF r2 xd_JI_bitCount_8 rfl ?_
  refine xv_topi (v' := nI y) (by rw [ey]) ?_
  refine xv_istore_n (pc' := 10) (i := 0) hF xd_JI_bitCount_9 rfl (Nat.le_of_ble_eq_true rfl) rfl rfl ?_
  refine xv_iload_n (pc' := 11) (i := 0) hF xd_JI_bitCount_10 rfl rfl rfl ?_
  refine xv_ldcw (pc' := 14) hF xk_JI_k266 xd_JI_bitCount_11 rfl ?_
  refine xv_topi (v' := nI 858993459) (by decide +kernel) ?_
  first | refine xv_iandN (pc' := 15) hF xd_JI_bitCount_14 rfl ?_ | refine xv_iand (pc' := 15) hF xd_JI_bitCount_14 rfl ?_
  refine xv_iload_n (pc' := 16) (i := 0) hF xd_JI_bitCount_15 rfl rfl rfl ?_
  refine xv_iconstN (pc' := 17) 2 hF xd_JI_bitCount_16 (by decide +kernel) rfl ?_
  first | refine xv_iushrN (pc' := 18) hF (by omega) (by decide) xd_JI_bitCount_17 rfl ?_ | refine xv_iushr (pc' := 18) hF xd_JI_bitCount_17 rfl rfl ?_
  refine xv_ldcw (pc' := 21) hF xk_JI_k266 xd_JI_bitCount_18 rfl ?_
  refine xv_topi (v' := nI 858993459) (by decide +kernel) ?_
  first | refine xv_iandN (pc' := 22) hF xd_JI_bitCount_21 rfl ?_ | refine xv_iand (pc' := 22) hF xd_JI_bitCount_21 rfl ?_
  first | refine xv_iaddN (pc' := 23) hF xd_JI_bitCount_22 rfl ?_ | refine xv_iadd (pc' := 23) hF xd_JI_bitCount_22 rfl ?_
  refine xv_topi (v' := nI z) (by rw [ez]) ?_
  refine xv_istore_n (pc' := 24) (i := 0) hF xd_JI_bitCount_23 rfl (Nat.le_of_ble_eq_true rfl) rfl rfl ?_
  refine xv_iload_n (pc' := 25) (i := 0) hF xd_JI_bitCount_24 rfl rfl rfl ?_
  refine xv_iload_n (pc' := 26) (i := 0) hF xd_JI_bitCount_25 rfl rfl rfl ?_
  refine xv_iconstN (pc' := 27) 4 hF xd_JI_bitCount_26 (by decide +kernel) rfl ?_
  first | refine xv_iushrN (pc' := 28) hF (by omega) (by decide) xd_JI_bitCount_27 rfl ?_ | refine xv_iushr (pc' := 28) hF xd_JI_bitCount_27 rfl rfl ?_
  first | refine xv_iaddN (pc' := 29) hF xd_JI_bitCount_28 rfl ?_ | refine xv_iadd (pc' := 29) hF xd_JI_bitCount_28 rfl ?_
  refine xv_ldcw (pc' := 32) hF xk_JI_k267 xd_JI_bitCount_29 rfl ?_
  refine xv_topi (v' := nI 252645135) (by decide +kernel) ?_
  first | refine xv_iandN (pc' := 33) hF xd_JI_bitCount_32 rfl ?_ | refine xv_iand (pc' := 33) hF xd_JI_bitCount_32 rfl ?_
  refine xv_topi (v' := nI w) (by rw [ew]) ?_
  refine xv_istore_n (pc' := 34) (i := 0) hF xd_JI_bitCount_33 rfl (Nat.le_of_ble_eq_true rfl) rfl rfl ?_
  refine xv_iload_n (pc' := 35) (i := 0) hF xd_JI_bitCount_34 rfl rfl rfl ?_
  refine xv_iload_n (pc' := 36) (i := 0) hF xd_JI_bitCount_35 rfl rfl rfl ?_
  refine xv_bipushN (pc' := 38) 8 hF xd_JI_bitCount_36 (by decide +kernel) rfl ?_
  first | refine xv_iushrN (pc' := 39) hF (by omega) (by decide) xd_JI_bitCount_38 rfl ?_ | refine xv_iushr (pc' := 39) hF xd_JI_bitCount_38 rfl rfl ?_
  first | refine xv_iaddN (pc' := 40) hF xd_JI_bitCount_39 rfl ?_ | refine xv_iadd (pc' := 40) hF xd_JI_bitCount_39 rfl ?_
  refine xv_topi (v' := nI v) (by rw [ev]) ?_
  refine xv_istore_n (pc' := 41) (i := 0) hF xd_JI_bitCount_40 rfl (Nat.le_of_ble_eq_true rfl) rfl rfl ?_
  refine xv_iload_n (pc' := 42) (i := 0) hF xd_JI_bitCount_41 rfl rfl rfl ?_
  refine xv_iload_n (pc' := 43) (i := 0) hF xd_JI_bitCount_42 rfl rfl rfl ?_
  refine xv_bipushN (pc' := 45) 16 hF xd_JI_bitCount_43 (by decide +kernel) rfl ?_
  first | refine xv_iushrN (pc' := 46) hF (by omega) (by decide) xd_JI_bitCount_45 rfl ?_ | refine xv_iushr (pc' := 46) hF xd_JI_bitCount_45 rfl rfl ?_
  first | refine xv_iaddN (pc' := 47) hF xd_JI_bitCount_46 rfl ?_ | refine xv_iadd (pc' := 47) hF xd_JI_bitCount_46 rfl ?_
  refine xv_topi (v' := nI u) (by rw [eu]) ?_
  refine xv_istore_n (pc' := 48) (i := 0) hF xd_JI_bitCount_47 rfl (Nat.le_of_ble_eq_true rfl) rfl rfl ?_
  refine xv_iload_n (pc' := 49) (i := 0) hF xd_JI_bitCount_48 rfl rfl rfl ?_
  refine xv_bipushN (pc' := 51) 63 hF xd_JI_bitCount_49 (by decide +kernel) rfl ?_
  first | refine xv_iandN (pc' := 52) hF xd_JI_bitCount_51 rfl ?_ | refine xv_iand (pc' := 52) hF xd_JI_bitCount_51 rfl ?_
  refine hR _ _ _ _ _ _ _ (by omega) (by omega) ?_ xd_JI_bitCount_52
  refine ⟨?_, rfl, rfl⟩
  rw [show (63 : Nat) = 2 ^ 6 - 1 from rfl, Nat.and_two_pow_sub_one_eq_mod]
  have : u % 2 ^ 6 = u % 64 := rfl
  rw [this, r1]
  congr 1
  exact bc_congr fun i hi => (bt_nI hX).symm
/-! Relation.repeatAtWill -/
def md_fw (M : Nat → Nat → Nat) : Nat → Nat → Nat → Nat
  | 0 => M
  | k + 1 => fun x y => if md_fw M k x k < 1000000 ∧ md_fw M k k y < 1000000 then min (md_fw M k x y) (md_fw M k x k + md_fw M k k y) else md_fw M k x y
def md_ft (M : Nat → Nat → Nat) (k i : Nat) : Nat → Nat → Nat := fun x y => if x < i then md_fw M (k + 1) x y else md_fw M k x y
theorem md_fw_row {M : Nat → Nat → Nat} {k y : Nat} : md_fw M (k + 1) k y = md_fw M k k y := by
  show (if _ then _ else _) = _
  split
  · exact Nat.min_eq_left (Nat.le_add_left _ _)
  · rfl
set_option maxHeartbeats 4000000 in
set_option maxRecDepth 100000 in
theorem c_RE_repeatAtWill (K : xK) (n : Nat) (h : xH) (a : Nat) (M : Nat → Nat → Nat) (hr : re_R K h a M) (hb : ∀ k x y, k < 32 → x < 32 → y < 32 → md_fw M k x k < 1000000 → md_fw M k k y < 1000000 → md_fw M k x k + md_fw M k k y < 1000000) : XM K xy_RE_repeatAtWill xw_RE_repeatAtWill (xrm 2 51 0 0) [.ref a] n h (x_pv fun n' h' => n = n' ∧ re_fr h h' a ∧ re_R K h' a (md_fw M 32)) 0 0 := by
  refine xm_v (by decide +kernel) (Nat.le_of_ble_eq_true rfl) (fun G hF hR => ?_)
  refine xv_iconstN (pc' := 1) 0 hF xd_RE_repeatAtWill_0 (by decide +kernel) rfl ?_
  refine xv_istore_n (pc' := 2) (i := 1) hF xd_RE_repeatAtWill_1 rfl (Nat.le_of_ble_eq_true rfl) rfl rfl ?_
  have loop : ∀ d k h1, 32 - k = d → k ≤ 32 → re_fr h h1 a → re_R K h1 a (md_fw M k) → XV G 0 0 2 [(1, .int (nI k)), (0, .ref a)] [] n h1 := by
    intro d
    induction d using Nat.strongRecOn with
    | ind d ih =>
      intro k h1 hd hk hfr hr1
      refine xv_iload_n (pc' := 3) (i := 1) hF xd_RE_repeatAtWill_2 rfl rfl rfl ?_
      refine xv_bipushN (pc' := 5) 32 hF xd_RE_repeatAtWill_3 (by decide +kernel) rfl ?_
      refine xv_icmp_geN (pc' := 8) (tgt := 59) hF (by omega) (by omega) xd_RE_repeatAtWill_5 (by decide) rfl (fun e => ?_) (fun e => ?_)
      · refine hR _ _ _ _ _ _ (by omega) (by omega) ?_ xd_RE_repeatAtWill_59
        have : k = 32 := by omega
        subst this
        exact ⟨rfl, hfr, hr1⟩
      · refine xv_iconstN (pc' := 9) 0 hF xd_RE_repeatAtWill_8 (by decide +kernel) rfl ?_
        refine xv_istore_n (pc' := 10) (i := 2) hF xd_RE_repeatAtWill_9 rfl (Nat.le_of_ble_eq_true rfl) rfl rfl ?_
        have loop2 : ∀ d2 i h2, 32 - i = d2 → i ≤ 32 → re_fr h h2 a → re_R K h2 a (md_ft M k i) → XV G 0 0 10 [(2, .int (nI i)), (1, .int (nI k)), (0, .ref a)] [] n h2 := by
          intro d2
          induction d2 using Nat.strongRecOn with
          | ind d2 ih2 =>
            intro i h2 hd2 hi hfr2 hr2
            refine xv_iload_n (pc' := 11) (i := 2) hF xd_RE_repeatAtWill_10 rfl rfl rfl ?_
            refine xv_bipushN (pc' := 13) 32 hF xd_RE_repeatAtWill_11 (by decide +kernel) rfl ?_
            refine xv_icmp_geN (pc' := 16) (tgt := 53) hF (by omega) (by omega) xd_RE_repeatAtWill_13 (by decide) rfl (fun e3 => ?_) (fun e3 => ?_)
            · first | refine xv_iincN (pc' := 56) hF xd_RE_repeatAtWill_53 rfl rfl (Nat.le_of_ble_eq_true rfl) rfl rfl ?_ | refine xv_iinc (pc' := 56) hF xd_RE_repeatAtWill_53 rfl rfl (Nat.le_of_ble_eq_true rfl) rfl rfl ?_
              refine xv_goto (tgt := 2) hF xd_RE_repeatAtWill_56 (by decide) ?_
              refine xv_loc _ (by repeat (first | exact trivial | refine ⟨rfl, ?_⟩)) (ih _ (by omega) (k + 1) _ rfl (by omega) hfr2 (hr2.congr ?_))
              intro y z hy hz
              unfold md_ft
              rw [if_pos (by omega)]
            · obtain ⟨f1, g1, ⟨k1, k2, k3⟩, k4⟩ := id hr2
              refine xv_aload_n (pc' := 17) (i := 0) hF xd_RE_repeatAtWill_16 rfl rfl rfl ?_
              refine xv_get (pc' := 20) (ci := 2) hF (by first | assumption | exact xu_self | (refine (xu_ne (by omega)).trans ?_; first | assumption | exact xu_self | (refine (xu_ne (by omega)).trans ?_; first | assumption | exact xu_self | (refine (xu_ne (by omega)).trans ?_; first | assumption | exact xu_self | (refine (xu_ne (by omega)).trans ?_; first | assumption | exact xu_self))))) rfl xu_RE 0 (by decide) xk_RE_f9 (by rfl) xd_RE_repeatAtWill_17 rfl ?_
              refine xv_iload_n (pc' := 21) (i := 2) hF xd_RE_repeatAtWill_20 rfl rfl rfl ?_
              first | refine xv_ialdN (pc' := 22) hF (by first | assumption | exact xu_self | (refine (xu_ne (by omega)).trans ?_; first | assumption | exact xu_self | (refine (xu_ne (by omega)).trans ?_; first | assumption | exact xu_self | (refine (xu_ne (by omega)).trans ?_; first | assumption | exact xu_self | (refine (xu_ne (by omega)).trans ?_; first | assumption | exact xu_self))))) (by omega) (by decide) xd_RE_repeatAtWill_21 rfl ?_ | refine xv_iald (pc' := 22) hF (by first | assumption | exact xu_self | (refine (xu_ne (by omega)).trans ?_; first | assumption | exact xu_self | (refine (xu_ne (by omega)).trans ?_; first | assumption | exact xu_self | (refine (xu_ne (by omega)).trans ?_; first | assumption | exact xu_self | (refine (xu_ne (by omega)).trans ?_; first | assumption | exact xu_self))))) (by omega) xd_RE_repeatAtWill_21 rfl ?_
              refine xv_iload_n (pc' := 23) (i := 1) hF xd_RE_repeatAtWill_22 rfl rfl rfl ?_
              refine xv_callSNi (pc' := 26) hF (c_PD_isIn K n h2 (f1 i) k e) xq_PD_isIn xk_RE_m24 xk_t_PD_isIn ⟨(Nat.le_of_ble_eq_true rfl), (Nat.le_of_ble_eq_true rfl)⟩ rfl rfl (Nat.le_of_ble_eq_true rfl) ⟨(Nat.le_of_ble_eq_true rfl), (Nat.le_of_ble_eq_true rfl)⟩ xd_RE_repeatAtWill_23 rfl (fun r n3 h3 p3 => ?_)
              obtain ⟨rfl, rfl, rfl⟩ := p3
              have q1 := (k4 i k e3 e).1
              have q0 : md_ft M k i i k = md_fw M k i k := by unfold md_ft; rw [if_neg (Nat.lt_irrefl _)]
              rw [q0] at q1
              refine xv_if_eqB (pc' := 29) (tgt := 47) hF xd_RE_repeatAtWill_26 (by decide) rfl (fun e5 => ?_) (fun e5 => ?_)
              · rw [q1] at e5
                have e5 := of_decide_eq_false e5
                first | refine xv_iincN (pc' := 50) hF xd_RE_repeatAtWill_47 rfl rfl (Nat.le_of_ble_eq_true rfl) rfl rfl ?_ | refine xv_iinc (pc' := 50) hF xd_RE_repeatAtWill_47 rfl rfl (Nat.le_of_ble_eq_true rfl) rfl rfl ?_
                refine xv_goto (tgt := 10) hF xd_RE_repeatAtWill_50 (by decide) ?_
                refine xv_loc _ (by repeat (first | exact trivial | refine ⟨rfl, ?_⟩)) (ih2 _ (by omega) (i + 1) _ rfl (by omega) hfr2 (hr2.congr ?_))
                intro y z hy hz
                unfold md_ft
                by_cases c0 : y < i
                · rw [if_pos (by omega), if_pos c0]
                · by_cases c1 : y = i
                  · subst c1
                    rw [if_pos (by omega), if_neg c0]
                    show (if _ then _ else _) = _
                    rw [if_neg (fun h => e5 h.1)]
                  · rw [if_neg (by omega), if_neg c0]
              · rw [q1] at e5
                have e5 := of_decide_eq_true e5
                have k5 := (k4 i k e3 e).2 (by rw [q0]; exact e5)
                rw [q0] at k5
                refine xv_aload_n (pc' := 30) (i := 0) hF xd_RE_repeatAtWill_29 rfl rfl rfl ?_
                refine xv_iload_n (pc' := 31) (i := 2) hF xd_RE_repeatAtWill_30 rfl rfl rfl ?_
                refine xv_aload_n (pc' := 32) (i := 0) hF xd_RE_repeatAtWill_31 rfl rfl rfl ?_
                refine xv_get (pc' := 35) (ci := 2) hF (by first | assumption | exact xu_self | (refine (xu_ne (by omega)).trans ?_; first | assumption | exact xu_self | (refine (xu_ne (by omega)).trans ?_; first | assumption | exact xu_self | (refine (xu_ne (by omega)).trans ?_; first | assumption | exact xu_self | (refine (xu_ne (by omega)).trans ?_; first | assumption | exact xu_self))))) rfl xu_RE 1 (by decide) xk_RE_f15 (by rfl) xd_RE_repeatAtWill_32 rfl ?_
                refine xv_iload_n (pc' := 36) (i := 2) hF xd_RE_repeatAtWill_35 rfl rfl rfl ?_
                refine xv_bipushN (pc' := 38) 32 hF xd_RE_repeatAtWill_36 (by decide +kernel) rfl ?_
                first | refine xv_imulN (pc' := 39) hF xd_RE_repeatAtWill_38 rfl ?_ | refine xv_imul (pc' := 39) hF xd_RE_repeatAtWill_38 rfl ?_
                refine xv_iload_n (pc' := 40) (i := 1) hF xd_RE_repeatAtWill_39 rfl rfl rfl ?_
                first | refine xv_iaddN (pc' := 41) hF xd_RE_repeatAtWill_40 rfl ?_ | refine xv_iadd (pc' := 41) hF xd_RE_repeatAtWill_40 rfl ?_
                first | refine xv_ialdN (pc' := 42) hF (by first | assumption | exact xu_self | (refine (xu_ne (by omega)).trans ?_; first | assumption | exact xu_self | (refine (xu_ne (by omega)).trans ?_; first | assumption | exact xu_self | (refine (xu_ne (by omega)).trans ?_; first | assumption | exact xu_self | (refine (xu_ne (by omega)).trans ?_; first | assumption | exact xu_self))))) (by omega) (by decide) xd_RE_repeatAtWill_41 rfl ?_ | refine xv_iald (pc' := 42) hF (by first | assumption | exact xu_self | (refine (xu_ne (by omega)).trans ?_; first | assumption | exact xu_self | (refine (xu_ne (by omega)).trans ?_; first | assumption | exact xu_self | (refine (xu_ne (by omega)).trans ?_; first | assumption | exact xu_self | (refine (xu_ne (by omega)).trans ?_; first | assumption | exact xu_self))))) (by omega) xd_RE_repeatAtWill_41 rfl ?_
                refine xv_topi k5 ?_
                refine xv_aload_n (pc' := 43) (i := 0) hF xd_RE_repeatAtWill_42 rfl rfl rfl ?_
                refine xv_iload_n (pc' := 44) (i := 1) hF xd_RE_repeatAtWill_43 rfl rfl rfl ?_
                have hrow : ∀ y, md_ft M k i k y = md_fw M k k y := by
                  intro y
                  unfold md_ft
                  split
                  · exact md_fw_row
                  · rfl
                refine xv_callVv (pc' := 47) (ci := 2) hF (c_RE_addGoingOn K n h2 a i (md_fw M k i k) a k _ _ hr2 hr2 (Or.inl ⟨rfl, rfl⟩) e3 e e5 (fun j hj hz => by rw [hrow] at hz ⊢; exact hb k i j e e3 hj e5 hz)) xq_RE_addGoingOn xk_RE_m38 xk_i_RE_addGoingOn xk_s_RE_addGoingOn (by first | assumption | exact xu_self | (refine (xu_ne (by omega)).trans ?_; first | assumption | exact xu_self | (refine (xu_ne (by omega)).trans ?_; first | assumption | exact xu_self | (refine (xu_ne (by omega)).trans ?_; first | assumption | exact xu_self | (refine (xu_ne (by omega)).trans ?_; first | assumption | exact xu_self))))) rfl ⟨(Nat.le_of_ble_eq_true rfl), (Nat.le_of_ble_eq_true rfl)⟩ rfl rfl (Nat.le_of_ble_eq_true rfl) ⟨(Nat.le_of_ble_eq_true rfl), (Nat.le_of_ble_eq_true rfl)⟩ xd_RE_repeatAtWill_44 rfl (fun n4 h4 p4 => ?_)
                obtain ⟨rfl, hfr4, hr4⟩ := p4
                first | refine xv_iincN (pc' := 50) hF xd_RE_repeatAtWill_47 rfl rfl (Nat.le_of_ble_eq_true rfl) rfl rfl ?_ | refine xv_iinc (pc' := 50) hF xd_RE_repeatAtWill_47 rfl rfl (Nat.le_of_ble_eq_true rfl) rfl rfl ?_
                refine xv_goto (tgt := 10) hF xd_RE_repeatAtWill_50 (by decide) ?_
                refine xv_loc _ (by repeat (first | exact trivial | refine ⟨rfl, ?_⟩)) (ih2 _ (by omega) (i + 1) _ rfl (by omega) (hfr2.tr hfr4) (hr4.congr ?_))
                intro y z hy hz
                unfold md_go
                rw [hrow]
                unfold md_ft
                by_cases c0 : y < i
                · rw [if_pos (by omega), if_pos c0, if_neg (by omega)]
                · by_cases c1 : y = i
                  · subst c1
                    rw [if_pos (by omega), if_neg c0]
                    show (if _ then _ else _) = _
                    by_cases c2 : md_fw M k k z < 1000000
                    · rw [if_pos ⟨e5, c2⟩, if_pos ⟨rfl, hz, c2⟩]
                    · rw [if_neg (fun h => c2 h.2), if_neg (fun h => c2 h.2.2)]
                  · rw [if_neg (by omega), if_neg c0, if_neg (fun h => c1 h.1)]
        refine xv_loc _ (by repeat (first | exact trivial | refine ⟨rfl, ?_⟩)) (loop2 32 0 h1 (by omega) (by omega) hfr (hr1.congr ?_))
        intro y z hy hz
        unfold md_ft
        rw [if_neg (by omega)]
  exact xv_loc _ (by repeat (first | exact trivial | refine ⟨rfl, ?_⟩)) (loop 32 0 h (by omega) (by omega) re_fr.rf hr)
/-! Relation.lengthOf -/
def md_len (m : Nat) : Int32 := if m < 1000000 then nI m else -1
set_option maxHeartbeats 4000000 in
set_option maxRecDepth 100000 in
theorem c_RE_lengthOf (K : xK) (n : Nat) (h : xH) (a i j : Nat) (M : Nat → Nat → Nat) (hr : re_R K h a M) (hi : i < 32) (hj : j < 32) : XM K xy_RE_lengthOf xw_RE_lengthOf (xrm 1 21 0 0) [.ref a, .int (nI i), .int (nI j)] n h (x_pi fun r n' h' => r = md_len (M i j) ∧ n = n' ∧ h = h') 0 0 := by
  obtain ⟨f, g, ⟨ha, hf, hg⟩, hM⟩ := hr
  obtain ⟨m1, m2⟩ := hM i j hi hj
  refine xm_i (by decide +kernel) (Nat.le_of_ble_eq_true rfl) (fun G hF hR => ?_)
  refine xv_aload_n (pc' := 1) (i := 0) hF xd_RE_lengthOf_0 rfl rfl rfl ?_
  refine xv_get (pc' := 4) (ci := 2) hF (by first | assumption | exact xu_self | (refine (xu_ne (by omega)).trans ?_; first | assumption | exact xu_self | (refine (xu_ne (by omega)).trans ?_; first | assumption | exact xu_self | (refine (xu_ne (by omega)).trans ?_; first | assumption | exact xu_self | (refine (xu_ne (by omega)).trans ?_; first | assumption | exact xu_self))))) rfl xu_RE 0 (by decide) xk_RE_f9 (by rfl) xd_RE_lengthOf_1 rfl ?_
  refine xv_iload_n (pc' := 5) (i := 1) hF xd_RE_lengthOf_4 rfl rfl rfl ?_
  first | refine xv_ialdN (pc' := 6) hF (by first | assumption | exact xu_self | (refine (xu_ne (by omega)).trans ?_; first | assumption | exact xu_self | (refine (xu_ne (by omega)).trans ?_; first | assumption | exact xu_self | (refine (xu_ne (by omega)).trans ?_; first | assumption | exact xu_self | (refine (xu_ne (by omega)).trans ?_; first | assumption | exact xu_self))))) (by omega) (by decide) xd_RE_lengthOf_5 rfl ?_ | refine xv_iald (pc' := 6) hF (by first | assumption | exact xu_self | (refine (xu_ne (by omega)).trans ?_; first | assumption | exact xu_self | (refine (xu_ne (by omega)).trans ?_; first | assumption | exact xu_self | (refine (xu_ne (by omega)).trans ?_; first | assumption | exact xu_self | (refine (xu_ne (by omega)).trans ?_; first | assumption | exact xu_self))))) (by omega) xd_RE_lengthOf_5 rfl ?_
  refine xv_iload_n (pc' := 7) (i := 2) hF xd_RE_lengthOf_6 rfl rfl rfl ?_
  refine xv_callSNi (pc' := 10) hF (c_PD_isIn K n h (f i) j hj) xq_PD_isIn xk_RE_m24 xk_t_PD_isIn ⟨(Nat.le_of_ble_eq_true rfl), (Nat.le_of_ble_eq_true rfl)⟩ rfl rfl (Nat.le_of_ble_eq_true rfl) ⟨(Nat.le_of_ble_eq_true rfl), (Nat.le_of_ble_eq_true rfl)⟩ xd_RE_lengthOf_7 rfl (fun r n3 h3 p3 => ?_)
  obtain ⟨rfl, rfl, rfl⟩ := p3
  refine xv_if_eqB (pc' := 13) (tgt := 27) hF xd_RE_lengthOf_10 (by decide) rfl (fun e5 => ?_) (fun e5 => ?_)
  · rw [m1] at e5
    have e5 := of_decide_eq_false e5
    refine xv_iconst (pc' := 28) (v := -1) hF xd_RE_lengthOf_27 (by decide +kernel) rfl ?_
    refine hR _ _ _ _ _ _ _ (by omega) (by omega) ?_ xd_RE_lengthOf_28
    exact ⟨by unfold md_len; rw [if_neg e5], rfl, rfl⟩
  · rw [m1] at e5
    have e5 := of_decide_eq_true e5
    refine xv_aload_n (pc' := 14) (i := 0) hF xd_RE_lengthOf_13 rfl rfl rfl ?_
    refine xv_get (pc' := 17) (ci := 2) hF (by first | assumption | exact xu_self | (refine (xu_ne (by omega)).trans ?_; first | assumption | exact xu_self | (refine (xu_ne (by omega)).trans ?_; first | assumption | exact xu_self | (refine (xu_ne (by omega)).trans ?_; first | assumption | exact xu_self | (refine (xu_ne (by omega)).trans ?_; first | assumption | exact xu_self))))) rfl xu_RE 1 (by decide) xk_RE_f15 (by rfl) xd_RE_lengthOf_14 rfl ?_
    refine xv_iload_n (pc' := 18) (i := 1) hF xd_RE_lengthOf_17 rfl rfl rfl ?_
    refine xv_bipushN (pc' := 20) 32 hF xd_RE_lengthOf_18 (by decide +kernel) rfl ?_
    first | refine xv_imulN (pc' := 21) hF xd_RE_lengthOf_20 rfl ?_ | refine xv_imul (pc' := 21) hF xd_RE_lengthOf_20 rfl ?_
    refine xv_iload_n (pc' := 22) (i := 2) hF xd_RE_lengthOf_21 rfl rfl rfl ?_
    first | refine xv_iaddN (pc' := 23) hF xd_RE_lengthOf_22 rfl ?_ | refine xv_iadd (pc' := 23) hF xd_RE_lengthOf_22 rfl ?_
    first | refine xv_ialdN (pc' := 24) hF (by first | assumption | exact xu_self | (refine (xu_ne (by omega)).trans ?_; first | assumption | exact xu_self | (refine (xu_ne (by omega)).trans ?_; first | assumption | exact xu_self | (refine (xu_ne (by omega)).trans ?_; first | assumption | exact xu_self | (refine (xu_ne (by omega)).trans ?_; first | assumption | exact xu_self))))) (by omega) (by decide) xd_RE_lengthOf_23 rfl ?_ | refine xv_iald (pc' := 24) hF (by first | assumption | exact xu_self | (refine (xu_ne (by omega)).trans ?_; first | assumption | exact xu_self | (refine (xu_ne (by omega)).trans ?_; first | assumption | exact xu_self | (refine (xu_ne (by omega)).trans ?_; first | assumption | exact xu_self | (refine (xu_ne (by omega)).trans ?_; first | assumption | exact xu_self))))) (by omega) xd_RE_lengthOf_23 rfl ?_
    refine xv_goto (tgt := 28) hF xd_RE_lengthOf_24 (by decide) ?_
    refine hR _ _ _ _ _ _ _ (by omega) (by omega) ?_ xd_RE_lengthOf_28
    exact ⟨by unfold md_len; rw [if_pos e5, m2 e5], rfl, rfl⟩
