/-! the reference: a number of copies -/
def ct_ok (ln : Nat) (tx : Nat → Nat) (a m u a' : Nat) : Prop := 48 ≤ mo_c ln tx a ∧ mo_c ln tx a ≤ 57 ∧ m = mo_c ln tx a - 48 ∧ ((mo_c ln tx (a + 1) = 44 ∧ 48 + max m 1 ≤ mo_c ln tx (a + 2) ∧ mo_c ln tx (a + 2) ≤ 57 ∧ u = mo_c ln tx (a + 2) - 48 ∧ mo_c ln tx (a + 3) = 125 ∧ a' = a + 4) ∨ (mo_c ln tx (a + 1) = 125 ∧ u = m ∧ u ≠ 0 ∧ a' = a + 2))
def ct_bad (ln : Nat) (tx : Nat → Nat) (a f : Nat) : Prop := (¬ (48 ≤ mo_c ln tx a ∧ mo_c ln tx a ≤ 57) ∧ f = a + 1) ∨ (48 ≤ mo_c ln tx a ∧ mo_c ln tx a ≤ 57 ∧ ((mo_c ln tx (a + 1) = 44 ∧ ¬ (48 + max (mo_c ln tx a - 48) 1 ≤ mo_c ln tx (a + 2) ∧ mo_c ln tx (a + 2) ≤ 57) ∧ f = a + 3) ∨ (mo_c ln tx (a + 1) = 44 ∧ 48 + max (mo_c ln tx a - 48) 1 ≤ mo_c ln tx (a + 2) ∧ mo_c ln tx (a + 2) ≤ 57 ∧ mo_c ln tx (a + 3) ≠ 125 ∧ f = a + 4) ∨ (mo_c ln tx (a + 1) ≠ 44 ∧ (mo_c ln tx a = 48 ∨ mo_c ln tx (a + 1) ≠ 125) ∧ f = a + 2)))
def mo_cp (mk : Bool) (S S' : Nat → Nat → Nat → Nat) (to m u : Nat) : Prop := (∀ t, t < 36 → t ≠ to → S' t = S t) ∧ (mk = true → ∀ A, pd_mn A (S to) → pd_nd A → pd_mn (pd_mo A m u) (S' to))
set_option maxHeartbeats 4000000 in
set_option maxRecDepth 100000 in
theorem c_MO_counted (K : xK) (n : Nat) (h : xH) (p th ma sz ln at_ f op : Nat) (mk : Bool) (tx : Nat → Nat) (E : Nat → Nat → Nat → Bool) (Tg : Nat → Nat → Bool) (S : Nat → Nat → Nat → Nat) (so : Nat → Nat) (ba : Nat → Bool) (to : Nat) (r : mo_S K h p th ma sz ln at_ 0 op mk tx E Tg (S) (so) (ba)) (hto : to < 36) (hso : so to ≤ 200000) : XM K xy_MO_counted xw_MO_counted (xrm 3 50 0 0) [.ref p, .int (nI to)] n h (x_pv fun n' h' => n = n' ∧ mo_fr p h h' ∧ ∃ m u a' f' S', m ≤ 9 ∧ u ≤ 9 ∧ ((f' = 0 ∧ ct_ok ln tx at_ m u a') ∨ (f' ≠ 0 ∧ ct_bad ln tx at_ f')) ∧ mo_cp mk S S' to m u ∧ mo_S K h' p th ma sz ln a' f' op mk tx E Tg (S') (va_up so to (min (so to * u) 1000)) (ba)) 0 0 := by
  refine xm_v (by decide +kernel) (Nat.le_of_ble_eq_true rfl) (fun G hF hR => ?_)
  have tail : ∀ m u a' f' h1, m ≤ 9 → u ≤ 9 → ((f' = 0 ∧ ct_ok ln tx at_ m u a') ∨ (f' ≠ 0 ∧ ct_bad ln tx at_ f')) → mo_fr p h h1 → mo_S K h1 p th ma sz ln a' f' op mk tx E Tg (S) (so) (ba) → XV G 0 0 69 [(2, .int (nI m)), (3, .int (nI u)), (0, .ref p), (1, .int (nI to))] [] n h1 := by
    intro m u a' f' h1 hm hu hct f1 r1
    have hmul : so to * u ≤ 200000 * 9 := Nat.mul_le_mul hso hu
    have tail2 : ∀ h2, mo_fr p h h2 → mo_S K h2 p th ma sz ln a' f' op mk tx E Tg (S) (va_up so to (min (so to * u) 1000)) (ba) → XV G 0 0 103 [(2, .int (nI m)), (3, .int (nI u)), (0, .ref p), (1, .int (nI to))] [] n h2 := by
      intro h2 f2 r2
      obtain ⟨ho, ⟨g2, hs2, hg2⟩, -⟩ := id r2
      refine xv_aload_n (pc' := 104) (i := 0) hF xd_MO_counted_103 rfl rfl rfl ?_
      refine xv_iload_n (pc' := 105) (i := 1) hF xd_MO_counted_104 rfl rfl rfl ?_
      refine xv_bipushN (pc' := 107) 38 hF xd_MO_counted_105 (by decide +kernel) rfl ?_
      refine xv_callVv (pc' := 110) (ci := 6) hF (c_MO_copy K n h2 p th ma sz ln a' f' op mk to 38 g2 S ho hs2 hg2 (by omega) (by omega)) xq_MO_copy xk_MO_m105 xk_i_MO_copy xk_s_MO_copy (by first | assumption | exact xu_self | (refine (xu_ne (by omega)).trans ?_; first | assumption | exact xu_self | (refine (xu_ne (by omega)).trans ?_; first | assumption | exact xu_self | (refine (xu_ne (by omega)).trans ?_; first | assumption | exact xu_self | (refine (xu_ne (by omega)).trans ?_; first | assumption | exact xu_self))))) rfl ⟨(Nat.le_of_ble_eq_true rfl), (Nat.le_of_ble_eq_true rfl)⟩ rfl rfl (Nat.le_of_ble_eq_true rfl) ⟨(Nat.le_of_ble_eq_true rfl), (Nat.le_of_ble_eq_true rfl)⟩ xd_MO_counted_107 rfl (fun n3 h3 q3 => ?_)
      obtain ⟨rfl, g3, rfl, hg3⟩ := q3
      have r3 := r2.sq hg3
      clear ho hs2 hg2
      obtain ⟨ho, ⟨g4, hs4, hg4⟩, -⟩ := id r3
      refine xv_aload_n (pc' := 111) (i := 0) hF xd_MO_counted_110 rfl rfl rfl ?_
      refine xv_bipushN (pc' := 113) 36 hF xd_MO_counted_111 (by decide +kernel) rfl ?_
      refine xv_iconstN (pc' := 114) 1 hF xd_MO_counted_113 (by decide +kernel) rfl ?_
      refine xv_topi (v' := xb true) (by decide +kernel) ?_
      refine xv_callVv (pc' := 117) (ci := 6) hF (c_MO_plain K n _ p th ma sz ln a' f' op mk 36 true g4 _ ho hs4 hg4 (by omega)) xq_MO_plain xk_MO_m97 xk_i_MO_plain xk_s_MO_plain (by first | assumption | exact xu_self | (refine (xu_ne (by omega)).trans ?_; first | assumption | exact xu_self | (refine (xu_ne (by omega)).trans ?_; first | assumption | exact xu_self | (refine (xu_ne (by omega)).trans ?_; first | assumption | exact xu_self | (refine (xu_ne (by omega)).trans ?_; first | assumption | exact xu_self))))) rfl ⟨(Nat.le_of_ble_eq_true rfl), (Nat.le_of_ble_eq_true rfl)⟩ rfl rfl (Nat.le_of_ble_eq_true rfl) ⟨(Nat.le_of_ble_eq_true rfl), (Nat.le_of_ble_eq_true rfl)⟩ xd_MO_counted_114 rfl (fun n5 h5 q5 => ?_)
      obtain ⟨rfl, g5, rfl, hg5⟩ := q5
      have r5 := r3.sq hg5
      clear ho hs4 hg4
      obtain ⟨ho, ⟨g6, hs6, hg6⟩, -⟩ := id r5
      refine xv_aload_n (pc' := 118) (i := 0) hF xd_MO_counted_117 rfl rfl rfl ?_
      refine xv_bipushN (pc' := 120) 38 hF xd_MO_counted_118 (by decide +kernel) rfl ?_
      refine xv_bipushN (pc' := 122) 36 hF xd_MO_counted_120 (by decide +kernel) rfl ?_
      refine xv_callVv (pc' := 125) (ci := 6) hF (c_MO_either K n _ p th ma sz ln a' f' op mk 38 36 g6 _ ho hs6 hg6 (by omega) (by omega) (by omega)) xq_MO_either xk_MO_m110 xk_i_MO_either xk_s_MO_either (by first | assumption | exact xu_self | (refine (xu_ne (by omega)).trans ?_; first | assumption | exact xu_self | (refine (xu_ne (by omega)).trans ?_; first | assumption | exact xu_self | (refine (xu_ne (by omega)).trans ?_; first | assumption | exact xu_self | (refine (xu_ne (by omega)).trans ?_; first | assumption | exact xu_self))))) rfl ⟨(Nat.le_of_ble_eq_true rfl), (Nat.le_of_ble_eq_true rfl)⟩ rfl rfl (Nat.le_of_ble_eq_true rfl) ⟨(Nat.le_of_ble_eq_true rfl), (Nat.le_of_ble_eq_true rfl)⟩ xd_MO_counted_122 rfl (fun n7 h7 q7 => ?_)
      obtain ⟨rfl, g7, rfl, hg7⟩ := q7
      have r7 := r5.sq hg7
      clear ho hs6 hg6
      obtain ⟨ho, ⟨g8, hs8, hg8⟩, -⟩ := id r7
      refine xv_aload_n (pc' := 126) (i := 0) hF xd_MO_counted_125 rfl rfl rfl ?_
      refine xv_bipushN (pc' := 128) 37 hF xd_MO_counted_126 (by decide +kernel) rfl ?_
      refine xv_iconstN (pc' := 129) 1 hF xd_MO_counted_128 (by decide +kernel) rfl ?_
      refine xv_topi (v' := xb true) (by decide +kernel) ?_
      refine xv_callVv (pc' := 132) (ci := 6) hF (c_MO_plain K n _ p th ma sz ln a' f' op mk 37 true g8 _ ho hs8 hg8 (by omega)) xq_MO_plain xk_MO_m97 xk_i_MO_plain xk_s_MO_plain (by first | assumption | exact xu_self | (refine (xu_ne (by omega)).trans ?_; first | assumption | exact xu_self | (refine (xu_ne (by omega)).trans ?_; first | assumption | exact xu_self | (refine (xu_ne (by omega)).trans ?_; first | assumption | exact xu_self | (refine (xu_ne (by omega)).trans ?_; first | assumption | exact xu_self))))) rfl ⟨(Nat.le_of_ble_eq_true rfl), (Nat.le_of_ble_eq_true rfl)⟩ rfl rfl (Nat.le_of_ble_eq_true rfl) ⟨(Nat.le_of_ble_eq_true rfl), (Nat.le_of_ble_eq_true rfl)⟩ xd_MO_counted_129 rfl (fun n9 h9 q9 => ?_)
      obtain ⟨rfl, g9, rfl, hg9⟩ := q9
      have r9 := r7.sq hg9
      have f9 : mo_fr p h (xu (xu (xu (xu h2 (p + 8) (.inl (K.2.2.1 0, 40960, .inl g3))) (p + 8) (.inl (K.2.2.1 0, 40960, .inl g5))) (p + 8) (.inl (K.2.2.1 0, 40960, .inl g7))) (p + 8) (.inl (K.2.2.1 0, 40960, .inl g9))) := (((f2.x (by omega)).x (by omega)).x (by omega)).x (by omega)
      clear ho hs8 hg8 hg3 hg5 hg7 hg9
      generalize xu (xu (xu (xu h2 (p + 8) (.inl (K.2.2.1 0, 40960, .inl g3))) (p + 8) (.inl (K.2.2.1 0, 40960, .inl g5))) (p + 8) (.inl (K.2.2.1 0, 40960, .inl g7))) (p + 8) (.inl (K.2.2.1 0, 40960, .inl g9)) = h10 at r9 f9 ⊢
      clear r7 r5 r3
      refine xv_iconstN (pc' := 133) 0 hF xd_MO_counted_132 (by decide +kernel) rfl ?_
      refine xv_istore (pc' := 135) hF xd_MO_counted_133 (Nat.le_of_ble_eq_true rfl) rfl rfl ?_
      cases mk with
      | false =>
        have fin : ∀ h11 k, mo_fr p h h11 → mo_S K h11 p th ma sz ln a' f' op false tx E Tg (S) (va_up so to (min (so to * u) 1000)) (ba) → XV G (0 + 0 + 0 + 0 + 0) (0 + 0 + 0 + 0 + 0) 172 [(4, .int (nI k)), (2, .int (nI m)), (3, .int (nI u)), (0, .ref p), (1, .int (nI to))] [] n h11 := by
          intro h11 k f11 r11
          obtain ⟨ho, ⟨g2, hs2, hg2⟩, -⟩ := id r11
          refine xv_aload_n (pc' := 173) (i := 0) hF xd_MO_counted_172 rfl rfl rfl ?_
          refine xv_bipushN (pc' := 175) 37 hF xd_MO_counted_173 (by decide +kernel) rfl ?_
          refine xv_iload_n (pc' := 176) (i := 1) hF xd_MO_counted_175 rfl rfl rfl ?_
          refine xv_callVv (pc' := 179) (ci := 6) hF (c_MO_copy K n h11 p th ma sz ln a' f' op false 37 to g2 _ ho hs2 hg2 (by omega) (by omega)) xq_MO_copy xk_MO_m105 xk_i_MO_copy xk_s_MO_copy (by first | assumption | exact xu_self | (refine (xu_ne (by omega)).trans ?_; first | assumption | exact xu_self | (refine (xu_ne (by omega)).trans ?_; first | assumption | exact xu_self | (refine (xu_ne (by omega)).trans ?_; first | assumption | exact xu_self | (refine (xu_ne (by omega)).trans ?_; first | assumption | exact xu_self))))) rfl ⟨(Nat.le_of_ble_eq_true rfl), (Nat.le_of_ble_eq_true rfl)⟩ rfl rfl (Nat.le_of_ble_eq_true rfl) ⟨(Nat.le_of_ble_eq_true rfl), (Nat.le_of_ble_eq_true rfl)⟩ xd_MO_counted_176 rfl (fun n3 h3 q3 => ?_)
          obtain ⟨rfl, g12, rfl, hg12⟩ := q3
          refine hR _ _ _ _ _ _ (by omega) (by omega) ?_ xd_MO_counted_179
          exact ⟨rfl, f11.x (by omega), m, u, a', f', S, hm, hu, hct, ⟨fun _ _ _ => rfl, fun h => (by cases h)⟩, r11.sq hg12⟩
        obtain ⟨ho, -⟩ := id r9
        refine xv_iload (pc' := 137) hF xd_MO_counted_135 rfl rfl ?_
        refine xv_iload_n (pc' := 138) (i := 3) hF xd_MO_counted_137 rfl rfl rfl ?_
        refine xv_icmp_geN (pc' := 141) (tgt := 172) hF (by omega) (by omega) xd_MO_counted_138 (by decide) rfl (fun e1 => ?_) (fun e1 => ?_)
        · exact xv_loc _ (by repeat (first | exact trivial | refine ⟨rfl, ?_⟩)) (fin h10 0 f9 r9)
        · refine xv_aload_n (pc' := 142) (i := 0) hF xd_MO_counted_141 rfl rfl rfl ?_
          refine xv_get (pc' := 145) (ci := 6) hF (by first | assumption | exact xu_self | (refine (xu_ne (by omega)).trans ?_; first | assumption | exact xu_self | (refine (xu_ne (by omega)).trans ?_; first | assumption | exact xu_self | (refine (xu_ne (by omega)).trans ?_; first | assumption | exact xu_self | (refine (xu_ne (by omega)).trans ?_; first | assumption | exact xu_self))))) rfl xu_MO 13 (by decide) xk_MO_f92 (by rfl) xd_MO_counted_142 rfl ?_
          refine xv_if_eqB (pc' := 148) (tgt := 172) hF xd_MO_counted_145 (by decide) rfl (fun e2 => ?_) (fun e2 => ?_)
          · exact xv_loc _ (by repeat (first | exact trivial | refine ⟨rfl, ?_⟩)) (fin h10 0 f9 r9)
          · cases e2
      | true =>
        obtain ⟨S0, r10, s1, s2, s3⟩ : ∃ S0, mo_S K h10 p th ma sz ln a' f' op true tx E Tg (S0) (va_up so to (min (so to * u) 1000)) (ba) ∧ (∀ t, t < 36 → S0 t = S t) ∧ S0 37 = md_1 ∧ ∀ i j, S0 38 i j = min (S to i j) (md_1 i j) := by
          refine ⟨_, r9, fun t ht => ?_, ?_, fun i j => ?_⟩
          · simp only [if_true]
            rw [va_n (by omega), va_n (by omega), va_n (by omega), va_n (by omega)]
          · simp only [if_true]
            rw [va_s]
          · simp only [if_true]
            rw [va_n (by omega), va_s, va_n (by omega), va_s, va_s]
        clear r9
        have loop : ∀ d k h11 Sk, u - k = d → k ≤ u → mo_fr p h h11 → mo_S K h11 p th ma sz ln a' f' op true tx E Tg (Sk) (va_up so to (min (so to * u) 1000)) (ba) → (∀ t, t < 36 → Sk t = S t) → (∀ i j, Sk 38 i j = min (S to i j) (md_1 i j)) → (∀ A, pd_mn A (S to) → pd_nd A → pd_mn (pd_mo A m k) (Sk 37)) → XV G (0 + 0 + 0 + 0 + 0) (0 + 0 + 0 + 0 + 0) 135 [(4, .int (nI k)), (2, .int (nI m)), (3, .int (nI u)), (0, .ref p), (1, .int (nI to))] [] n h11 := by
          intro d
          induction d using Nat.strongRecOn with
          | ind d ih =>
            intro k h11 Sk hd hk f11 r11 t1 t2 t3
            obtain ⟨ho, ⟨g2, hs2, hg2⟩, -⟩ := id r11
            refine xv_iload (pc' := 137) hF xd_MO_counted_135 rfl rfl ?_
            refine xv_iload_n (pc' := 138) (i := 3) hF xd_MO_counted_137 rfl rfl rfl ?_
            refine xv_icmp_geN (pc' := 141) (tgt := 172) hF (by omega) (by omega) xd_MO_counted_138 (by decide) rfl (fun e1 => ?_) (fun e1 => ?_)
            · have : k = u := by omega
              subst this
              refine xv_aload_n (pc' := 173) (i := 0) hF xd_MO_counted_172 rfl rfl rfl ?_
              refine xv_bipushN (pc' := 175) 37 hF xd_MO_counted_173 (by decide +kernel) rfl ?_
              refine xv_iload_n (pc' := 176) (i := 1) hF xd_MO_counted_175 rfl rfl rfl ?_
              refine xv_callVv (pc' := 179) (ci := 6) hF (c_MO_copy K n h11 p th ma sz ln a' f' op true 37 to g2 _ ho hs2 hg2 (by omega) (by omega)) xq_MO_copy xk_MO_m105 xk_i_MO_copy xk_s_MO_copy (by first | assumption | exact xu_self | (refine (xu_ne (by omega)).trans ?_; first | assumption | exact xu_self | (refine (xu_ne (by omega)).trans ?_; first | assumption | exact xu_self | (refine (xu_ne (by omega)).trans ?_; first | assumption | exact xu_self | (refine (xu_ne (by omega)).trans ?_; first | assumption | exact xu_self))))) rfl ⟨(Nat.le_of_ble_eq_true rfl), (Nat.le_of_ble_eq_true rfl)⟩ rfl rfl (Nat.le_of_ble_eq_true rfl) ⟨(Nat.le_of_ble_eq_true rfl), (Nat.le_of_ble_eq_true rfl)⟩ xd_MO_counted_176 rfl (fun n3 h3 q3 => ?_)
              obtain ⟨rfl, g12, rfl, hg12⟩ := q3
              refine hR _ _ _ _ _ _ (by omega) (by omega) ?_ xd_MO_counted_179
              refine ⟨rfl, f11.x (by omega), m, k, a', f', _, hm, hu, hct, ⟨fun t ht hne => ?_, fun _ A hA nA => ?_⟩, r11.sq hg12⟩
              · simp only [if_true]
                rw [va_n hne]; exact t1 t ht
              · simp only [if_true]
                rw [va_s]; exact t3 A hA nA
            · refine xv_aload_n (pc' := 142) (i := 0) hF xd_MO_counted_141 rfl rfl rfl ?_
              refine xv_get (pc' := 145) (ci := 6) hF (by first | assumption | exact xu_self | (refine (xu_ne (by omega)).trans ?_; first | assumption | exact xu_self | (refine (xu_ne (by omega)).trans ?_; first | assumption | exact xu_self | (refine (xu_ne (by omega)).trans ?_; first | assumption | exact xu_self | (refine (xu_ne (by omega)).trans ?_; first | assumption | exact xu_self))))) rfl xu_MO 13 (by decide) xk_MO_f92 (by rfl) xd_MO_counted_142 rfl ?_
              refine xv_if_eqB (pc' := 148) (tgt := 172) hF xd_MO_counted_145 (by decide) rfl (fun e2 => ?_) (fun e2 => ?_)
              · cases e2
              · have go : ∀ s, s < 39 → s ≠ 37 → (∀ A, pd_mn A (S to) → pd_mn (pd_gt A m k) (Sk s)) → XV G (0 + 0 + 0 + 0 + 0) (0 + 0 + 0 + 0 + 0) 163 [(4, .int (nI k)), (2, .int (nI m)), (3, .int (nI u)), (0, .ref p), (1, .int (nI to))] [.int (nI s), .int (nI 37), .ref p] n h11 := by
                  intro s hs hs37 hgt
                  refine xv_callVv (pc' := 166) (ci := 6) hF (c_MO_behind K n h11 p th ma sz ln a' f' op true 37 s g2 Sk ho hs2 hg2 (by omega) hs) xq_MO_behind xk_MO_m152 xk_i_MO_behind xk_s_MO_behind (by first | assumption | exact xu_self | (refine (xu_ne (by omega)).trans ?_; first | assumption | exact xu_self | (refine (xu_ne (by omega)).trans ?_; first | assumption | exact xu_self | (refine (xu_ne (by omega)).trans ?_; first | assumption | exact xu_self | (refine (xu_ne (by omega)).trans ?_; first | assumption | exact xu_self))))) rfl ⟨(Nat.le_of_ble_eq_true rfl), (Nat.le_of_ble_eq_true rfl)⟩ rfl rfl (Nat.le_of_ble_eq_true rfl) ⟨(Nat.le_of_ble_eq_true rfl), (Nat.le_of_ble_eq_true rfl)⟩ xd_MO_counted_163 rfl (fun n3 h3 q3 => ?_)
                  obtain ⟨rfl, g12, rfl, hg12⟩ := q3
                  first | refine xv_iincN (pc' := 169) hF xd_MO_counted_166 rfl rfl (Nat.le_of_ble_eq_true rfl) rfl rfl ?_ | refine xv_iinc (pc' := 169) hF xd_MO_counted_166 rfl rfl (Nat.le_of_ble_eq_true rfl) rfl rfl ?_
                  refine xv_goto (tgt := 135) hF xd_MO_counted_169 (by decide) ?_
                  refine xv_loc _ (by repeat (first | exact trivial | refine ⟨rfl, ?_⟩)) (ih _ (by omega) (k + 1) _ _ rfl (by omega) (f11.x (by omega)) (r11.sq hg12) (fun t ht => ?_) (fun i j => ?_) (fun A hA nA => ?_))
                  · simp only [if_true]
                    rw [va_n (by omega), va_n (by omega)]; exact t1 t ht
                  · simp only [if_true]
                    rw [va_n (by omega), va_n (by omega)]; exact t2 i j
                  · simp only [if_true]
                    rw [va_s]
                    exact mn_ch (t3 A hA nA) (hgt A hA) (pd_nd_mo nA m k)
                refine xv_aload_n (pc' := 149) (i := 0) hF xd_MO_counted_148 rfl rfl rfl ?_
                refine xv_bipushN (pc' := 151) 37 hF xd_MO_counted_149 (by decide +kernel) rfl ?_
                refine xv_iload (pc' := 153) hF xd_MO_counted_151 rfl rfl ?_
                refine xv_iload_n (pc' := 154) (i := 2) hF xd_MO_counted_153 rfl rfl rfl ?_
                refine xv_icmp_geN (pc' := 157) (tgt := 161) hF (by omega) (by omega) xd_MO_counted_154 (by decide) rfl (fun e3 => ?_) (fun e3 => ?_)
                · refine xv_bipushN (pc' := 163) 38 hF xd_MO_counted_161 (by decide +kernel) rfl ?_
                  refine xv_loc _ (by repeat (first | exact trivial | refine ⟨rfl, ?_⟩)) (go 38 (by omega) (by omega) (fun A hA => ?_))
                  unfold pd_gt
                  rw [if_pos e3]
                  exact pd_mn_or mn_1 hA (fun i j _ _ => by rw [t2, Nat.min_comm])
                · refine xv_iload_n (pc' := 158) (i := 1) hF xd_MO_counted_157 rfl rfl rfl ?_
                  refine xv_goto (tgt := 163) hF xd_MO_counted_158 (by decide) ?_
                  refine xv_loc _ (by repeat (first | exact trivial | refine ⟨rfl, ?_⟩)) (go to (by omega) (by omega) (fun A hA => ?_))
                  unfold pd_gt
                  rw [if_neg (by omega), t1 to hto]
                  exact hA
        exact xv_loc _ (by repeat (first | exact trivial | refine ⟨rfl, ?_⟩)) (loop u 0 h10 S0 (by omega) (by omega) f9 r10 s1 s3 (fun A _ _ => by rw [s2]; exact mn_1))
    obtain ⟨ho, -, ⟨sf, hsf, hsf2⟩, -⟩ := id r1
    refine xv_aload_n (pc' := 70) (i := 0) hF xd_MO_counted_69 rfl rfl rfl ?_
    refine xv_get (pc' := 73) (ci := 6) hF (by first | assumption | exact xu_self | (refine (xu_ne (by omega)).trans ?_; first | assumption | exact xu_self | (refine (xu_ne (by omega)).trans ?_; first | assumption | exact xu_self | (refine (xu_ne (by omega)).trans ?_; first | assumption | exact xu_self | (refine (xu_ne (by omega)).trans ?_; first | assumption | exact xu_self))))) rfl xu_MO 15 (by decide) xk_MO_f36 (by rfl) xd_MO_counted_70 rfl ?_
    refine xv_iload_n (pc' := 74) (i := 1) hF xd_MO_counted_73 rfl rfl rfl ?_
    refine xv_aload_n (pc' := 75) (i := 0) hF xd_MO_counted_74 rfl rfl rfl ?_
    refine xv_get (pc' := 78) (ci := 6) hF (by first | assumption | exact xu_self | (refine (xu_ne (by omega)).trans ?_; first | assumption | exact xu_self | (refine (xu_ne (by omega)).trans ?_; first | assumption | exact xu_self | (refine (xu_ne (by omega)).trans ?_; first | assumption | exact xu_self | (refine (xu_ne (by omega)).trans ?_; first | assumption | exact xu_self))))) rfl xu_MO 15 (by decide) xk_MO_f36 (by rfl) xd_MO_counted_75 rfl ?_
    refine xv_iload_n (pc' := 79) (i := 1) hF xd_MO_counted_78 rfl rfl rfl ?_
    first | refine xv_ialdN (pc' := 80) hF (by first | assumption | exact xu_self | (refine (xu_ne (by omega)).trans ?_; first | assumption | exact xu_self | (refine (xu_ne (by omega)).trans ?_; first | assumption | exact xu_self | (refine (xu_ne (by omega)).trans ?_; first | assumption | exact xu_self | (refine (xu_ne (by omega)).trans ?_; first | assumption | exact xu_self))))) (by omega) (by decide) xd_MO_counted_79 rfl ?_ | refine xv_iald (pc' := 80) hF (by first | assumption | exact xu_self | (refine (xu_ne (by omega)).trans ?_; first | assumption | exact xu_self | (refine (xu_ne (by omega)).trans ?_; first | assumption | exact xu_self | (refine (xu_ne (by omega)).trans ?_; first | assumption | exact xu_self | (refine (xu_ne (by omega)).trans ?_; first | assumption | exact xu_self))))) (by omega) xd_MO_counted_79 rfl ?_
    refine xv_topi (v' := nI (so to)) (hsf2 to (by omega)) ?_
    refine xv_iload_n (pc' := 81) (i := 3) hF xd_MO_counted_80 rfl rfl rfl ?_
    first | refine xv_imulN (pc' := 82) hF xd_MO_counted_81 rfl ?_ | refine xv_imul (pc' := 82) hF xd_MO_counted_81 rfl ?_
    refine xv_sipushN (pc' := 85) 1000 hF xd_MO_counted_82 (by decide +kernel) rfl ?_
    refine xv_icmp_leN (pc' := 88) (tgt := 94) hF (by omega) (by omega) xd_MO_counted_85 (by decide) rfl (fun e1 => ?_) (fun e1 => ?_)
    · refine xv_aload_n (pc' := 95) (i := 0) hF xd_MO_counted_94 rfl rfl rfl ?_
      refine xv_get (pc' := 98) (ci := 6) hF (by first | assumption | exact xu_self | (refine (xu_ne (by omega)).trans ?_; first | assumption | exact xu_self | (refine (xu_ne (by omega)).trans ?_; first | assumption | exact xu_self | (refine (xu_ne (by omega)).trans ?_; first | assumption | exact xu_self | (refine (xu_ne (by omega)).trans ?_; first | assumption | exact xu_self))))) rfl xu_MO 15 (by decide) xk_MO_f36 (by rfl) xd_MO_counted_95 rfl ?_
      refine xv_iload_n (pc' := 99) (i := 1) hF xd_MO_counted_98 rfl rfl rfl ?_
      first | refine xv_ialdN (pc' := 100) hF (by first | assumption | exact xu_self | (refine (xu_ne (by omega)).trans ?_; first | assumption | exact xu_self | (refine (xu_ne (by omega)).trans ?_; first | assumption | exact xu_self | (refine (xu_ne (by omega)).trans ?_; first | assumption | exact xu_self | (refine (xu_ne (by omega)).trans ?_; first | assumption | exact xu_self))))) (by omega) (by decide) xd_MO_counted_99 rfl ?_ | refine xv_iald (pc' := 100) hF (by first | assumption | exact xu_self | (refine (xu_ne (by omega)).trans ?_; first | assumption | exact xu_self | (refine (xu_ne (by omega)).trans ?_; first | assumption | exact xu_self | (refine (xu_ne (by omega)).trans ?_; first | assumption | exact xu_self | (refine (xu_ne (by omega)).trans ?_; first | assumption | exact xu_self))))) (by omega) xd_MO_counted_99 rfl ?_
      refine xv_topi (v' := nI (so to)) (hsf2 to (by omega)) ?_
      refine xv_iload_n (pc' := 101) (i := 3) hF xd_MO_counted_100 rfl rfl rfl ?_
      first | refine xv_imulN (pc' := 102) hF xd_MO_counted_101 rfl ?_ | refine xv_imul (pc' := 102) hF xd_MO_counted_101 rfl ?_
      refine xv_iastN (pc' := 103) hF (by first | assumption | exact xu_self | (refine (xu_ne (by omega)).trans ?_; first | assumption | exact xu_self | (refine (xu_ne (by omega)).trans ?_; first | assumption | exact xu_self | (refine (xu_ne (by omega)).trans ?_; first | assumption | exact xu_self | (refine (xu_ne (by omega)).trans ?_; first | assumption | exact xu_self))))) (by omega) (by decide) xd_MO_counted_102 rfl ?_
      have r2 := r1.so (so_up hsf2 to (so to * u))
      rw [show so to * u = min (so to * u) 1000 by omega] at r2 ⊢
      exact xv_loc _ (by repeat (first | exact trivial | refine ⟨rfl, ?_⟩)) (tail2 _ (f1.x (by omega)) r2)
    · refine xv_sipushN (pc' := 91) 1000 hF xd_MO_counted_88 (by decide +kernel) rfl ?_
      refine xv_goto (tgt := 102) hF xd_MO_counted_91 (by decide) ?_
      refine xv_iastN (pc' := 103) hF (by first | assumption | exact xu_self | (refine (xu_ne (by omega)).trans ?_; first | assumption | exact xu_self | (refine (xu_ne (by omega)).trans ?_; first | assumption | exact xu_self | (refine (xu_ne (by omega)).trans ?_; first | assumption | exact xu_self | (refine (xu_ne (by omega)).trans ?_; first | assumption | exact xu_self))))) (by omega) (by decide) xd_MO_counted_102 rfl ?_
      have r2 := r1.so (so_up hsf2 to 1000)
      have e4 : va_up so to 1000 = va_up so to (min (so to * u) 1000) := by rw [show min (so to * u) 1000 = 1000 by omega]
      rw [e4] at r2
      exact xv_loc _ (by repeat (first | exact trivial | refine ⟨rfl, ?_⟩)) (tail2 _ (f1.x (by omega)) r2)
  have ho := r.1
  obtain ⟨b1, b2, b3, b4, b5⟩ := id r.2.2.2.2.2.2.2
  have m256 := fun k => mo_c_lt (k := k) b5
  have end48 : ∀ m u a' f' h2, m ≤ 9 → u ≤ 9 → mo_fr p h h2 → mo_S K h2 p th ma sz ln a' f' op mk tx E Tg (S) (so) (ba) → ((f' ≠ 0 ∧ ct_bad ln tx at_ f') ∨ (f' = 0 ∧ u = 0 ∧ ct_bad ln tx at_ (a' + 1)) ∨ (f' = 0 ∧ u ≠ 0 ∧ (mo_c ln tx a' = 125 → ct_ok ln tx at_ m u (a' + 1)) ∧ (mo_c ln tx a' ≠ 125 → ct_bad ln tx at_ (a' + 1)))) → XV G 0 0 48 [(2, .int (nI m)), (3, .int (nI u)), (0, .ref p), (1, .int (nI to))] [] n h2 := by
    intro m u a' f' h2 hm hu f2 r2 hc
    clear ho b2 b3
    have ho := r2.1
    obtain ⟨-, b2, b3, -⟩ := id r2.2.2.2.2.2.2.2
    have mst : ∀ f'' h3, mo_fr p h h3 → mo_S K h3 p th ma sz ln a' f'' op mk tx E Tg (S) (so) (ba) → ((f'' ≠ 0 ∧ ct_bad ln tx at_ f'') ∨ (f'' = 0 ∧ (mo_c ln tx a' = 125 → ct_ok ln tx at_ m u (a' + 1)) ∧ (mo_c ln tx a' ≠ 125 → ct_bad ln tx at_ (a' + 1)))) → XV G 0 0 63 [(2, .int (nI m)), (3, .int (nI u)), (0, .ref p), (1, .int (nI to))] [] n h3 := by
      intro f'' h3 f3 r3 hc3
      clear ho
      have ho := r3.1
      refine xv_aload_n (pc' := 64) (i := 0) hF xd_MO_counted_63 rfl rfl rfl ?_
      refine xv_bipushN (pc' := 66) 125 hF xd_MO_counted_64 (by decide +kernel) rfl ?_
      refine xv_callVv (pc' := 69) (ci := 6) hF (c_MO_must K n h3 p th ma sz ln a' f'' op mk tx E Tg S so ba 125 r3 (by decide) (by decide)) xq_MO_must xk_MO_m143 xk_i_MO_must xk_s_MO_must (by first | assumption | exact xu_self | (refine (xu_ne (by omega)).trans ?_; first | assumption | exact xu_self | (refine (xu_ne (by omega)).trans ?_; first | assumption | exact xu_self | (refine (xu_ne (by omega)).trans ?_; first | assumption | exact xu_self | (refine (xu_ne (by omega)).trans ?_; first | assumption | exact xu_self))))) rfl ⟨(Nat.le_of_ble_eq_true rfl), (Nat.le_of_ble_eq_true rfl)⟩ rfl rfl (Nat.le_of_ble_eq_true rfl) ⟨(Nat.le_of_ble_eq_true rfl), (Nat.le_of_ble_eq_true rfl)⟩ xd_MO_counted_66 rfl (fun n4 h4 q4 => ?_)
      obtain ⟨rfl, f4, q4⟩ := q4
      rcases q4 with ⟨h5, r4⟩ | ⟨h5, h6, r4⟩ | ⟨h5, h6, r4⟩
      · rcases hc3 with ⟨-, h7⟩ | ⟨h7, -⟩
        · exact xv_loc _ (by repeat (first | exact trivial | refine ⟨rfl, ?_⟩)) (tail m u a' f'' h4 hm hu (Or.inr ⟨h5, h7⟩) (f3.tr f4) r4)
        · exact absurd h7 h5
      · rcases hc3 with ⟨h7, -⟩ | ⟨-, h7, -⟩
        · exact absurd h5 h7
        · subst h5
          exact xv_loc _ (by repeat (first | exact trivial | refine ⟨rfl, ?_⟩)) (tail m u (a' + 1) 0 h4 hm hu (Or.inl ⟨rfl, h7 h6⟩) (f3.tr f4) r4)
      · rcases hc3 with ⟨h7, -⟩ | ⟨-, -, h7⟩
        · exact absurd h5 h7
        · exact xv_loc _ (by repeat (first | exact trivial | refine ⟨rfl, ?_⟩)) (tail m u a' (a' + 1) h4 hm hu (Or.inr ⟨by omega, h7 h6⟩) (f3.tr f4) r4)
    refine xv_aload_n (pc' := 49) (i := 0) hF xd_MO_counted_48 rfl rfl rfl ?_
    refine xv_callVi (pc' := 52) (ci := 6) hF (c_MO_goes K n h2 p th ma sz ln a' f' op mk ho (by omega)) xq_MO_goes xk_MO_m81 xk_i_MO_goes xk_s_MO_goes (by first | assumption | exact xu_self | (refine (xu_ne (by omega)).trans ?_; first | assumption | exact xu_self | (refine (xu_ne (by omega)).trans ?_; first | assumption | exact xu_self | (refine (xu_ne (by omega)).trans ?_; first | assumption | exact xu_self | (refine (xu_ne (by omega)).trans ?_; first | assumption | exact xu_self))))) rfl ⟨(Nat.le_of_ble_eq_true rfl), (Nat.le_of_ble_eq_true rfl)⟩ rfl rfl (Nat.le_of_ble_eq_true rfl) ⟨(Nat.le_of_ble_eq_true rfl), (Nat.le_of_ble_eq_true rfl)⟩ xd_MO_counted_49 rfl (fun r1 n1 h1 q1 => ?_)
    obtain ⟨rfl, rfl, rfl⟩ := q1
    by_cases hf : f' = 0
    · subst hf
      rw [decide_eq_true rfl]
      refine xv_if_eqB (pc' := 55) (tgt := 63) hF xd_MO_counted_52 (by decide) rfl (fun e1 => ?_) (fun e1 => ?_)
      · cases e1
      · refine xv_iload_n (pc' := 56) (i := 3) hF xd_MO_counted_55 rfl rfl rfl ?_
        refine xv_if_neN (pc' := 59) (tgt := 63) hF (by omega) xd_MO_counted_56 (by decide) rfl (fun e2 => ?_) (fun e2 => ?_)
        · rcases hc with ⟨h7, -⟩ | ⟨-, h7, -⟩ | ⟨-, -, h7⟩
          · exact absurd rfl h7
          · omega
          · exact xv_loc _ (by repeat (first | exact trivial | refine ⟨rfl, ?_⟩)) (mst 0 h2 f2 r2 (Or.inr ⟨rfl, h7⟩))
        · rcases hc with ⟨h7, -⟩ | ⟨-, -, h7⟩ | ⟨-, h7, -⟩
          · exact absurd rfl h7
          · refine xv_aload_n (pc' := 60) (i := 0) hF xd_MO_counted_59 rfl rfl rfl ?_
            refine xv_callVv (pc' := 63) (ci := 6) hF (c_MO_fail K n h2 p th ma sz ln a' 0 op mk ho (by omega)) xq_MO_fail xk_MO_m89 xk_i_MO_fail xk_s_MO_fail (by first | assumption | exact xu_self | (refine (xu_ne (by omega)).trans ?_; first | assumption | exact xu_self | (refine (xu_ne (by omega)).trans ?_; first | assumption | exact xu_self | (refine (xu_ne (by omega)).trans ?_; first | assumption | exact xu_self | (refine (xu_ne (by omega)).trans ?_; first | assumption | exact xu_self))))) rfl ⟨(Nat.le_of_ble_eq_true rfl), (Nat.le_of_ble_eq_true rfl)⟩ rfl rfl (Nat.le_of_ble_eq_true rfl) ⟨(Nat.le_of_ble_eq_true rfl), (Nat.le_of_ble_eq_true rfl)⟩ xd_MO_counted_60 rfl (fun n1 h1 q1 => ?_)
            obtain ⟨rfl, rfl⟩ := q1
            rw [if_pos rfl]
            exact xv_loc _ (by repeat (first | exact trivial | refine ⟨rfl, ?_⟩)) (mst (a' + 1) _ (f2.x (by omega)) (r2.ob (mk' := mk) b1 (by omega) b3) (Or.inl ⟨by omega, h7⟩))
          · omega
    · rw [decide_eq_false hf]
      refine xv_if_eqB (pc' := 55) (tgt := 63) hF xd_MO_counted_52 (by decide) rfl (fun e1 => ?_) (fun e1 => ?_)
      · rcases hc with ⟨-, h7⟩ | ⟨h7, -⟩ | ⟨h7, -⟩
        · exact xv_loc _ (by repeat (first | exact trivial | refine ⟨rfl, ?_⟩)) (mst f' h2 f2 r2 (Or.inl ⟨hf, h7⟩))
        · exact absurd h7 hf
        · exact absurd h7 hf
      · cases e1
  refine xv_aload_n (pc' := 1) (i := 0) hF xd_MO_counted_0 rfl rfl rfl ?_
  refine xv_iconstN (pc' := 2) 0 hF xd_MO_counted_1 (by decide +kernel) rfl ?_
  refine xv_callVi (pc' := 5) (ci := 6) hF (c_MO_digit K n h p th ma sz ln at_ 0 op mk tx E Tg S so ba 0 r (by decide)) xq_MO_digit xk_MO_m155 xk_i_MO_digit xk_s_MO_digit (by first | assumption | exact xu_self | (refine (xu_ne (by omega)).trans ?_; first | assumption | exact xu_self | (refine (xu_ne (by omega)).trans ?_; first | assumption | exact xu_self | (refine (xu_ne (by omega)).trans ?_; first | assumption | exact xu_self | (refine (xu_ne (by omega)).trans ?_; first | assumption | exact xu_self))))) rfl ⟨(Nat.le_of_ble_eq_true rfl), (Nat.le_of_ble_eq_true rfl)⟩ rfl rfl (Nat.le_of_ble_eq_true rfl) ⟨(Nat.le_of_ble_eq_true rfl), (Nat.le_of_ble_eq_true rfl)⟩ xd_MO_counted_2 rfl (fun d0 n1 h1 q1 => ?_)
  obtain ⟨rfl, f1, q1⟩ := q1
  rcases q1 with ⟨hx, -⟩ | ⟨-, c1, c2, rfl, r1⟩ | ⟨-, c1, rfl, r1⟩
  · exact absurd rfl hx
  · clear ho
    have ho := r1.1
    obtain ⟨-, -, b6, -⟩ := id r1.2.2.2.2.2.2.2
    refine xv_istore_n (pc' := 6) (i := 2) hF xd_MO_counted_5 rfl (Nat.le_of_ble_eq_true rfl) rfl rfl ?_
    refine xv_iload_n (pc' := 7) (i := 2) hF xd_MO_counted_6 rfl rfl rfl ?_
    refine xv_istore_n (pc' := 8) (i := 3) hF xd_MO_counted_7 rfl (Nat.le_of_ble_eq_true rfl) rfl rfl ?_
    refine xv_aload_n (pc' := 9) (i := 0) hF xd_MO_counted_8 rfl rfl rfl ?_
    refine xv_callVi (pc' := 12) (ci := 6) hF (c_MO_goes K n h1 p th ma sz ln (at_ + 1) 0 op mk ho (by omega)) xq_MO_goes xk_MO_m81 xk_i_MO_goes xk_s_MO_goes (by first | assumption | exact xu_self | (refine (xu_ne (by omega)).trans ?_; first | assumption | exact xu_self | (refine (xu_ne (by omega)).trans ?_; first | assumption | exact xu_self | (refine (xu_ne (by omega)).trans ?_; first | assumption | exact xu_self | (refine (xu_ne (by omega)).trans ?_; first | assumption | exact xu_self))))) rfl ⟨(Nat.le_of_ble_eq_true rfl), (Nat.le_of_ble_eq_true rfl)⟩ rfl rfl (Nat.le_of_ble_eq_true rfl) ⟨(Nat.le_of_ble_eq_true rfl), (Nat.le_of_ble_eq_true rfl)⟩ xd_MO_counted_9 rfl (fun r2 n2 h2 q2 => ?_)
    obtain ⟨rfl, rfl, rfl⟩ := q2
    rw [decide_eq_true rfl]
    refine xv_if_eqB (pc' := 15) (tgt := 48) hF xd_MO_counted_12 (by decide) rfl (fun e1 => ?_) (fun e1 => ?_)
    · cases e1
    · refine xv_aload_n (pc' := 16) (i := 0) hF xd_MO_counted_15 rfl rfl rfl ?_
      refine xv_callVi (pc' := 19) (ci := 6) hF (c_MO_nowS K n h1 p th ma sz ln (at_ + 1) 0 op mk tx E Tg S so ba r1) xq_MO_now xk_MO_m85 xk_i_MO_now xk_s_MO_now (by first | assumption | exact xu_self | (refine (xu_ne (by omega)).trans ?_; first | assumption | exact xu_self | (refine (xu_ne (by omega)).trans ?_; first | assumption | exact xu_self | (refine (xu_ne (by omega)).trans ?_; first | assumption | exact xu_self | (refine (xu_ne (by omega)).trans ?_; first | assumption | exact xu_self))))) rfl ⟨(Nat.le_of_ble_eq_true rfl), (Nat.le_of_ble_eq_true rfl)⟩ rfl rfl (Nat.le_of_ble_eq_true rfl) ⟨(Nat.le_of_ble_eq_true rfl), (Nat.le_of_ble_eq_true rfl)⟩ xd_MO_counted_16 rfl (fun r2 n2 h2 q2 => ?_)
      obtain ⟨rfl, rfl, rfl⟩ := q2
      have m1 := m256 (at_ + 1)
      refine xv_bipushN (pc' := 21) 44 hF xd_MO_counted_19 (by decide +kernel) rfl ?_
      refine xv_icmp_neN (pc' := 24) (tgt := 48) hF (by omega) (by omega) xd_MO_counted_21 (by decide) rfl (fun e2 => ?_) (fun e2 => ?_)
      · refine xv_loc _ (by repeat (first | exact trivial | refine ⟨rfl, ?_⟩)) (end48 (mo_c ln tx at_ - 48) (mo_c ln tx at_ - 48) (at_ + 1) 0 h1 (by omega) (by omega) f1 r1 ?_)
        by_cases c3 : mo_c ln tx at_ - 48 = 0
        · exact Or.inr (Or.inl ⟨rfl, c3, Or.inr ⟨by omega, c2, Or.inr (Or.inr ⟨e2, Or.inl (by omega), rfl⟩)⟩⟩)
        · exact Or.inr (Or.inr ⟨rfl, c3, fun h => ⟨by omega, c2, rfl, Or.inr ⟨h, rfl, c3, rfl⟩⟩, fun h => Or.inr ⟨by omega, c2, Or.inr (Or.inr ⟨e2, Or.inr h, rfl⟩)⟩⟩)
      · have b7 := (mo_c_in (k := at_ + 1) (tx := tx) (ln := ln) (by omega)).1
        refine xv_aload_n (pc' := 25) (i := 0) hF xd_MO_counted_24 rfl rfl rfl ?_
        refine xv_dup (pc' := 26) hF xd_MO_counted_25 rfl rfl ?_
        refine xv_get (pc' := 29) (ci := 6) hF (by first | assumption | exact xu_self | (refine (xu_ne (by omega)).trans ?_; first | assumption | exact xu_self | (refine (xu_ne (by omega)).trans ?_; first | assumption | exact xu_self | (refine (xu_ne (by omega)).trans ?_; first | assumption | exact xu_self | (refine (xu_ne (by omega)).trans ?_; first | assumption | exact xu_self))))) rfl xu_MO 11 (by decide) xk_MO_f72 (by rfl) xd_MO_counted_26 rfl ?_
        refine xv_iconstN (pc' := 30) 1 hF xd_MO_counted_29 (by decide +kernel) rfl ?_
        first | refine xv_iaddN (pc' := 31) hF xd_MO_counted_30 rfl ?_ | refine xv_iadd (pc' := 31) hF xd_MO_counted_30 rfl ?_
        refine xv_put (pc' := 34) (ci := 6) (ty := xt_MO 11) hF (by first | assumption | exact xu_self | (refine (xu_ne (by omega)).trans ?_; first | assumption | exact xu_self | (refine (xu_ne (by omega)).trans ?_; first | assumption | exact xu_self | (refine (xu_ne (by omega)).trans ?_; first | assumption | exact xu_self | (refine (xu_ne (by omega)).trans ?_; first | assumption | exact xu_self))))) rfl xu_MO xt_MO xo_MO xn_MO 11 (by decide) xk_MO_f72 rfl (by decide +kernel) (by first | rfl | exact xb_nw _ | decide +kernel) (by first | rfl | exact xb_ft _ | decide +kernel) (by exact Nat.le_of_ble_eq_true rfl) (by dsimp only [List.set] <;> rfl) xd_MO_counted_31 rfl ?_
        refine xv_aload_n (pc' := 35) (i := 0) hF xd_MO_counted_34 rfl rfl rfl ?_
        refine xv_iload_n (pc' := 36) (i := 2) hF xd_MO_counted_35 rfl rfl rfl ?_
        have r3 := r1.ob (th' := th) (at' := at_ + 1 + 1) (f' := 0) (op' := op) (mk' := mk) b1 (by omega) (by omega)
        have f3 : mo_fr p h (xu h1 p (.inr (6, [.int (nI th), .ref (p + 1), .ref (p + 2), .int (nI ma), .ref (p + 3), .int (nI sz), .ref (p + 4), .ref (p + 5), .ref (p + 6), .ref (p + 7), .int (nI ln), .int (nI (at_ + 1 + 1)), .int (xm1 0), .int (xb mk), .ref (p + 8), .ref (p + 9), .ref (p + 10), .int (nI op), .ref (p + 11), .ref (p + 12)]))) := f1.x (by omega)
        generalize xu h1 p (.inr (6, [.int (nI th), .ref (p + 1), .ref (p + 2), .int (nI ma), .ref (p + 3), .int (nI sz), .ref (p + 4), .ref (p + 5), .ref (p + 6), .ref (p + 7), .int (nI ln), .int (nI (at_ + 1 + 1)), .int (xm1 0), .int (xb mk), .ref (p + 8), .ref (p + 9), .ref (p + 10), .int (nI op), .ref (p + 11), .ref (p + 12)])) = h3 at r3 f3 ⊢
        clear ho
        have ho := r3.1
        have dig : ∀ l, l = max (mo_c ln tx at_ - 48) 1 → XV G (0 + 0 + 0 + 0) (0 + 0 + 0 + 0) 44 [(2, .int (nI (mo_c ln tx at_ - 48))), (0, .ref p), (1, .int (nI to))] [.int (nI l), .ref p] n h3 := by
          intro l hl
          refine xv_callVi (pc' := 47) (ci := 6) hF (c_MO_digit K n h3 p th ma sz ln (at_ + 1 + 1) 0 op mk tx E Tg S so ba l r3 (by omega)) xq_MO_digit xk_MO_m155 xk_i_MO_digit xk_s_MO_digit (by first | assumption | exact xu_self | (refine (xu_ne (by omega)).trans ?_; first | assumption | exact xu_self | (refine (xu_ne (by omega)).trans ?_; first | assumption | exact xu_self | (refine (xu_ne (by omega)).trans ?_; first | assumption | exact xu_self | (refine (xu_ne (by omega)).trans ?_; first | assumption | exact xu_self))))) rfl ⟨(Nat.le_of_ble_eq_true rfl), (Nat.le_of_ble_eq_true rfl)⟩ rfl rfl (Nat.le_of_ble_eq_true rfl) ⟨(Nat.le_of_ble_eq_true rfl), (Nat.le_of_ble_eq_true rfl)⟩ xd_MO_counted_44 rfl (fun d1 n4 h4 q4 => ?_)
          obtain ⟨rfl, f4, q4⟩ := q4
          rcases q4 with ⟨hx, -⟩ | ⟨-, c3, c4, rfl, r4⟩ | ⟨-, c3, rfl, r4⟩
          · exact absurd rfl hx
          · refine xv_istore_n (pc' := 48) (i := 3) hF xd_MO_counted_47 rfl (Nat.le_of_ble_eq_true rfl) rfl rfl ?_
            refine xv_loc _ (by repeat (first | exact trivial | refine ⟨rfl, ?_⟩)) (end48 (mo_c ln tx at_ - 48) (mo_c ln tx (at_ + 1 + 1) - 48) (at_ + 1 + 1 + 1) 0 h4 (by omega) (by omega) (f3.tr f4) r4 ?_)
            refine Or.inr (Or.inr ⟨rfl, by omega, fun h => ⟨by omega, c2, rfl, Or.inl ⟨e2, ?_, c4, rfl, h, rfl⟩⟩, fun h => Or.inr ⟨by omega, c2, Or.inr (Or.inl ⟨e2, ?_, c4, h, rfl⟩)⟩⟩)
            · rw [← hl]; exact c3
            · rw [← hl]; exact c3
          · refine xv_istore_n (pc' := 48) (i := 3) hF xd_MO_counted_47 rfl (Nat.le_of_ble_eq_true rfl) rfl rfl ?_
            refine xv_loc _ (by repeat (first | exact trivial | refine ⟨rfl, ?_⟩)) (end48 (mo_c ln tx at_ - 48) 1 (at_ + 1 + 1) (at_ + 1 + 1 + 1) h4 (by omega) (by omega) (f3.tr f4) r4 (Or.inl ⟨by omega, Or.inr ⟨by omega, c2, Or.inl ⟨e2, ?_, rfl⟩⟩⟩))
            rw [← hl]; exact c3
        refine xv_if_leN (pc' := 39) (tgt := 43) hF (by omega) xd_MO_counted_36 (by decide) rfl (fun e3 => ?_) (fun e3 => ?_)
        · refine xv_iconstN (pc' := 44) 1 hF xd_MO_counted_43 (by decide +kernel) rfl ?_
          exact xv_loc _ (by repeat (first | exact trivial | refine ⟨rfl, ?_⟩)) (dig 1 (by omega))
        · refine xv_iload_n (pc' := 40) (i := 2) hF xd_MO_counted_39 rfl rfl rfl ?_
          refine xv_goto (tgt := 44) hF xd_MO_counted_40 (by decide) ?_
          exact xv_loc _ (by repeat (first | exact trivial | refine ⟨rfl, ?_⟩)) (dig _ (by omega))
  · clear ho
    have ho := r1.1
    refine xv_istore_n (pc' := 6) (i := 2) hF xd_MO_counted_5 rfl (Nat.le_of_ble_eq_true rfl) rfl rfl ?_
    refine xv_iload_n (pc' := 7) (i := 2) hF xd_MO_counted_6 rfl rfl rfl ?_
    refine xv_istore_n (pc' := 8) (i := 3) hF xd_MO_counted_7 rfl (Nat.le_of_ble_eq_true rfl) rfl rfl ?_
    refine xv_aload_n (pc' := 9) (i := 0) hF xd_MO_counted_8 rfl rfl rfl ?_
    refine xv_callVi (pc' := 12) (ci := 6) hF (c_MO_goes K n h1 p th ma sz ln at_ (at_ + 1) op mk ho (by omega)) xq_MO_goes xk_MO_m81 xk_i_MO_goes xk_s_MO_goes (by first | assumption | exact xu_self | (refine (xu_ne (by omega)).trans ?_; first | assumption | exact xu_self | (refine (xu_ne (by omega)).trans ?_; first | assumption | exact xu_self | (refine (xu_ne (by omega)).trans ?_; first | assumption | exact xu_self | (refine (xu_ne (by omega)).trans ?_; first | assumption | exact xu_self))))) rfl ⟨(Nat.le_of_ble_eq_true rfl), (Nat.le_of_ble_eq_true rfl)⟩ rfl rfl (Nat.le_of_ble_eq_true rfl) ⟨(Nat.le_of_ble_eq_true rfl), (Nat.le_of_ble_eq_true rfl)⟩ xd_MO_counted_9 rfl (fun r2 n2 h2 q2 => ?_)
    obtain ⟨rfl, rfl, rfl⟩ := q2
    rw [decide_eq_false (Nat.succ_ne_zero at_)]
    refine xv_if_eqB (pc' := 15) (tgt := 48) hF xd_MO_counted_12 (by decide) rfl (fun e1 => ?_) (fun e1 => ?_)
    · exact xv_loc _ (by repeat (first | exact trivial | refine ⟨rfl, ?_⟩)) (end48 1 1 at_ (at_ + 1) h1 (by omega) (by omega) f1 r1 (Or.inl ⟨by omega, Or.inl ⟨by omega, rfl⟩⟩))
    · cases e1
