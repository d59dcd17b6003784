/-! the reference between calls -/
theorem mo_S.ed {K : xK} {h : xH} {p th ma sz ln at_ f op : Nat} {mk : Bool} {tx : Nat → Nat} {E : Nat → Nat → Nat → Bool} {Tg : Nat → Nat → Bool} {S : Nat → Nat → Nat → Nat} {so : Nat → Nat} {ba : Nat → Bool} {ef' : Nat → Int32} {E' : Nat → Nat → Nat → Bool} (r : mo_S K h p th ma sz ln at_ f op mk tx E Tg (S) (so) (ba)) (hg' : ∀ z, z < 8192 → ef' z = xb (E' (z / 1024) (z / 32 % 32) (z % 32))) : mo_S K (xu h (p + 1) (.inl (K.2.2.1 1, 8192, .inl ef'))) p th ma sz ln at_ f op mk tx E' Tg S so ba := by
  obtain ⟨ho, ⟨g, hs, hg⟩, ⟨sf, hso, hso2⟩, ⟨bf, hba, hba2⟩, ⟨tf, htx, htx2⟩, ⟨ef, hed, hed2⟩, ⟨gf, htg, htg2⟩, b1, b2, b3, b4, b5⟩ := r
  exact ⟨by rw [xu_ne (by omega)]; exact ho, ⟨g, by rw [xu_ne (by omega)]; exact hs, hg⟩, ⟨sf, by rw [xu_ne (by omega)]; exact hso, hso2⟩, ⟨bf, by rw [xu_ne (by omega)]; exact hba, hba2⟩, ⟨tf, by rw [xu_ne (by omega)]; exact htx, htx2⟩, ⟨ef', xu_self, hg'⟩, ⟨gf, by rw [xu_ne (by omega)]; exact htg, htg2⟩, b1, b2, b3, b4, b5⟩
theorem mo_S.tg {K : xK} {h : xH} {p th ma sz ln at_ f op : Nat} {mk : Bool} {tx : Nat → Nat} {E : Nat → Nat → Nat → Bool} {Tg : Nat → Nat → Bool} {S : Nat → Nat → Nat → Nat} {so : Nat → Nat} {ba : Nat → Bool} {gf' : Nat → Int32} {Tg' : Nat → Nat → Bool} (r : mo_S K h p th ma sz ln at_ f op mk tx E Tg (S) (so) (ba)) (hg' : ∀ t i, t < 4 → i < 32 → gf' (4 * i + t) = xb (Tg' t i)) : mo_S K (xu h (p + 2) (.inl (K.2.2.1 1, 128, .inl gf'))) p th ma sz ln at_ f op mk tx E Tg' S so ba := by
  obtain ⟨ho, ⟨g, hs, hg⟩, ⟨sf, hso, hso2⟩, ⟨bf, hba, hba2⟩, ⟨tf, htx, htx2⟩, ⟨ef, hed, hed2⟩, ⟨gf, htg, htg2⟩, b1, b2, b3, b4, b5⟩ := r
  exact ⟨by rw [xu_ne (by omega)]; exact ho, ⟨g, by rw [xu_ne (by omega)]; exact hs, hg⟩, ⟨sf, by rw [xu_ne (by omega)]; exact hso, hso2⟩, ⟨bf, by rw [xu_ne (by omega)]; exact hba, hba2⟩, ⟨tf, by rw [xu_ne (by omega)]; exact htx, htx2⟩, ⟨ef, by rw [xu_ne (by omega)]; exact hed, hed2⟩, ⟨gf', xu_self, hg'⟩, b1, b2, b3, b4, b5⟩
theorem mo_S.mm {K : xK} {h : xH} {p th ma sz ln at_ f op : Nat} {mk : Bool} {tx : Nat → Nat} {E : Nat → Nat → Nat → Bool} {Tg : Nat → Nat → Bool} {S : Nat → Nat → Nat → Nat} {so : Nat → Nat} {ba : Nat → Bool} {ma' sz' th' : Nat} (r : mo_S K h p th ma sz ln at_ f op mk tx E Tg (S) (so) (ba)) : mo_S K (xu h p (.inr (6, [.int (nI th'), .ref (p + 1), .ref (p + 2), .int (nI ma'), .ref (p + 3), .int (nI sz'), .ref (p + 4), .ref (p + 5), .ref (p + 6), .ref (p + 7), .int (nI ln), .int (nI at_), .int (xm1 f), .int (xb mk), .ref (p + 8), .ref (p + 9), .ref (p + 10), .int (nI op), .ref (p + 11), .ref (p + 12)]))) p th' ma' sz' ln at_ f op mk tx E Tg S so ba := by
  obtain ⟨ho, ⟨g, hs, hg⟩, ⟨sf, hso, hso2⟩, ⟨bf, hba, hba2⟩, ⟨tf, htx, htx2⟩, ⟨ef, hed, hed2⟩, ⟨gf, htg, htg2⟩, b1, b2, b3, b4, b5⟩ := r
  exact ⟨xu_self, ⟨g, by rw [xu_ne (by omega)]; exact hs, hg⟩, ⟨sf, by rw [xu_ne (by omega)]; exact hso, hso2⟩, ⟨bf, by rw [xu_ne (by omega)]; exact hba, hba2⟩, ⟨tf, by rw [xu_ne (by omega)]; exact htx, htx2⟩, ⟨ef, by rw [xu_ne (by omega)]; exact hed, hed2⟩, ⟨gf, by rw [xu_ne (by omega)]; exact htg, htg2⟩, b1, b2, b3, b4, b5⟩
def mw_X (K : xK) (h : xH) (p : Nat) (cs : Nat → Nat) (w : Nat) (TX : Nat → Nat → Nat) (SZ SX : Nat → Nat) : Prop :=
  (∃ cf, h (p + 3) = some (.inl (K.2.2.1 0, 100, .inl cf)) ∧ ∀ i, i < w → cf i = nI (cs i) ∧ cs i < 256) ∧ w ≤ 100 ∧ (∃ xf, h (p + 4) = some (.inl (K.2.2.1 0, 400, .inl xf)) ∧ ∀ s i, s < 4 → i < SZ s → xf (100 * s + i) = nI (TX s i) ∧ TX s i < 256) ∧ (∀ s, s < 4 → SZ s ≤ 100) ∧
  (∃ zf, h (p + 5) = some (.inl (K.2.2.1 0, 4, .inl zf)) ∧ ∀ s, s < 4 → zf s = nI (SZ s)) ∧ (∃ yf, h (p + 6) = some (.inl (K.2.2.1 0, 4, .inl yf)) ∧ ∀ s, s < 4 → yf s = nI (SX s)) ∧ (∃ a, h (p + 11) = some (.inl (K.2.2.1 0, 1024, .inl a))) ∧ ∃ a, h (p + 12) = some (.inl (K.2.2.1 0, 1024, .inl a))
theorem mw_X.keep {K : xK} {h h' : xH} {p w : Nat} {cs : Nat → Nat} {TX : Nat → Nat → Nat} {SZ SX : Nat → Nat} (r : mw_X K h p cs w TX SZ SX) (hf : ∀ q, q ≠ p → q ≠ p + 1 → q ≠ p + 2 → q ≠ p + 7 → q ≠ p + 8 → q ≠ p + 9 → q ≠ p + 10 → h' q = h q) : mw_X K h' p cs w TX SZ SX := by
  obtain ⟨⟨cf, r1, r2⟩, r3, ⟨xf, r4, r5⟩, r6, ⟨zf, r7, r8⟩, ⟨yf, r9, ra⟩, ⟨a, rb⟩, b, rc⟩ := r
  have go : ∀ k, 3 ≤ k → k ≠ 7 → k ≠ 8 → k ≠ 9 → k ≠ 10 → h' (p + k) = h (p + k) := fun k _ _ _ _ _ => hf _ (by omega) (by omega) (by omega) (by omega) (by omega) (by omega) (by omega)
  exact ⟨⟨cf, (go 3 (by omega) (by omega) (by omega) (by omega) (by omega)).trans r1, r2⟩, r3, ⟨xf, (go 4 (by omega) (by omega) (by omega) (by omega) (by omega)).trans r4, r5⟩, r6, ⟨zf, (go 5 (by omega) (by omega) (by omega) (by omega) (by omega)).trans r7, r8⟩, ⟨yf, (go 6 (by omega) (by omega) (by omega) (by omega) (by omega)).trans r9, ra⟩, ⟨a, (go 11 (by omega) (by omega) (by omega) (by omega) (by omega)).trans rb⟩, b, (go 12 (by omega) (by omega) (by omega) (by omega) (by omega)).trans rc⟩
def mo_W (K : xK) (h : xH) (p th ma w : Nat) (E : Nat → Nat → Nat → Bool) (Tg : Nat → Nat → Bool) (cs : Nat → Nat) (TX : Nat → Nat → Nat) (SZ SX : Nat → Nat) : Prop := (∃ ln at_ f op mk tx S so ba, mo_S K h p th ma w ln at_ f op mk tx E Tg S so ba) ∧ mw_X K h p cs w TX SZ SX
def mw_fr (p : Nat) (h h' : xH) : Prop := ∀ q, (q < p ∨ p + 13 ≤ q) → h' q = h q
theorem mw_fr.tr {p : Nat} {h h1 h2 : xH} (a : mw_fr p h h1) (b : mw_fr p h1 h2) : mw_fr p h h2 := fun q c => (b q c).trans (a q c)
theorem mw_fr.rf {p : Nat} {h : xH} : mw_fr p h h := fun _ _ => rfl
theorem mw_fr.x {p q : Nat} {h h1 : xH} {c : _} (a : mw_fr p h h1) (hq : p ≤ q ∧ q < p + 13) : mw_fr p h (xu h1 q c) := fun y c1 => (xu_ne (by omega)).trans (a y c1)
theorem mo_fr.mw {p : Nat} {h h' : xH} (a : mo_fr p h h') : mw_fr p h h' := fun q c => a q (by omega) (by omega) (by omega) (by omega)
theorem ed_up {ef : Nat → Int32} {E : Nat → Nat → Nat → Bool} {l i j : Nat} {v : Int32} {b : Bool} (h : ∀ z, z < 8192 → ef z = xb (E (z / 1024) (z / 32 % 32) (z % 32))) (hl : l < 8) (hi : i < 32) (hj : j < 32) (hv : v = xb b) : ∀ z, z < 8192 → upd ef ((32 * l + i) * 32 + j) v z = xb (ed_set E l i j b (z / 1024) (z / 32 % 32) (z % 32)) := by
  intro z hz
  by_cases c : z = (32 * l + i) * 32 + j
  · rw [c, pk_us]
    unfold ed_set
    rw [if_pos (by omega), hv]
  · rw [pk_un c, h z hz]
    unfold ed_set
    rw [if_neg (by omega)]
set_option maxHeartbeats 4000000 in
set_option maxRecDepth 100000 in
theorem c_MO_place (K : xK) (n : Nat) (h : xH) (i l j : Nat) : XM K xy_MO_place xw_MO_place (xrm 0 0 0 0) [.int (nI i), .int (nI l), .int (nI j)] n h (x_pi fun r n' h' => r = nI ((32 * l + i) * 32 + j) ∧ n = n' ∧ h = h') 0 0 := by
  refine xm_i (by decide +kernel) (Nat.le_of_ble_eq_true rfl) (fun G hF hR => ?_)
  refine xv_bipushN (pc' := 2) 32 hF xd_MO_place_0 (by decide +kernel) rfl ?_
  refine xv_iload_n (pc' := 3) (i := 1) hF xd_MO_place_2 rfl rfl rfl ?_
  first | refine xv_imulN (pc' := 4) hF xd_MO_place_3 rfl ?_ | refine xv_imul (pc' := 4) hF xd_MO_place_3 rfl ?_
  refine xv_iload_n (pc' := 5) (i := 0) hF xd_MO_place_4 rfl rfl rfl ?_
  first | refine xv_iaddN (pc' := 6) hF xd_MO_place_5 rfl ?_ | refine xv_iadd (pc' := 6) hF xd_MO_place_5 rfl ?_
  refine xv_bipushN (pc' := 8) 32 hF xd_MO_place_6 (by decide +kernel) rfl ?_
  first | refine xv_imulN (pc' := 9) hF xd_MO_place_8 rfl ?_ | refine xv_imul (pc' := 9) hF xd_MO_place_8 rfl ?_
  refine xv_iload_n (pc' := 10) (i := 2) hF xd_MO_place_9 rfl rfl rfl ?_
  first | refine xv_iaddN (pc' := 11) hF xd_MO_place_10 rfl ?_ | refine xv_iadd (pc' := 11) hF xd_MO_place_10 rfl ?_
  refine hR _ _ _ _ _ _ _ (by omega) (by omega) ?_ xd_MO_place_11
  exact ⟨rfl, rfl, rfl⟩
set_option maxHeartbeats 4000000 in
set_option maxRecDepth 100000 in
theorem c_MO_edge (K : xK) (n : Nat) (h : xH) (p th ma w : Nat) (E : Nat → Nat → Nat → Bool) (Tg : Nat → Nat → Bool) (cs : Nat → Nat) (TX : Nat → Nat → Nat) (SZ SX : Nat → Nat) (i l j : Nat) (r : mo_W K h p th ma w E Tg cs TX SZ SX) (hi : i < 32) (hl : l < 8) (hj : j < 32) (hma : ma ≤ 300) : XM K xy_MO_edge xw_MO_edge (xrm 1 22 0 0) [.ref p, .int (nI i), .int (nI l), .int (nI j)] n h (x_pi fun r n' h' => n = n' ∧ mw_fr p h h' ∧ (((E l i j = true ∨ ma = 300) ∧ r = xb false ∧ mo_W K h' p 0 (ma) w (E) (Tg) (cs) (TX) (SZ) (SX)) ∨ (E l i j = false ∧ ma < 300 ∧ r = xb true ∧ mo_W K h' p 0 (ma + 1) w (ed_set E l i j true) (Tg) (cs) (TX) (SZ) (SX)))) 0 0 := by
  obtain ⟨⟨ln, at_, f, op, mk, tx, S, so, ba, r1⟩, r2⟩ := id r
  have ho := r1.1
  refine xm_z (by decide +kernel) (Nat.le_of_ble_eq_true rfl) (fun G hF hR => ?_)
  refine xv_aload_n (pc' := 1) (i := 0) hF xd_MO_edge_0 rfl rfl rfl ?_
  refine xv_iload_n (pc' := 2) (i := 1) hF xd_MO_edge_1 rfl rfl rfl ?_
  refine xv_bipushN (pc' := 4) 32 hF xd_MO_edge_2 (by decide +kernel) rfl ?_
  refine xv_callSi (pc' := 7) hF (c_MO_in K n h _ 32) xq_MO_in xk_MO_m52 xk_t_MO_in ⟨(Nat.le_of_ble_eq_true rfl), (Nat.le_of_ble_eq_true rfl)⟩ rfl rfl (Nat.le_of_ble_eq_true rfl) ⟨(Nat.le_of_ble_eq_true rfl), (Nat.le_of_ble_eq_true rfl)⟩ xd_MO_edge_4 rfl (fun q0 n1 h1 q1 => ?_)
  obtain ⟨rfl, rfl, rfl⟩ := q1
  rw [x_in_nI hi (by decide)]
  refine xv_if_eqB (pc' := 10) (tgt := 28) hF xd_MO_edge_7 (by decide) rfl (fun e1 => ?_) (fun e1 => ?_)
  · cases e1
  · refine xv_iload_n (pc' := 11) (i := 2) hF xd_MO_edge_10 rfl rfl rfl ?_
    refine xv_bipushN (pc' := 13) 8 hF xd_MO_edge_11 (by decide +kernel) rfl ?_
    refine xv_callSi (pc' := 16) hF (c_MO_in K n h _ 8) xq_MO_in xk_MO_m52 xk_t_MO_in ⟨(Nat.le_of_ble_eq_true rfl), (Nat.le_of_ble_eq_true rfl)⟩ rfl rfl (Nat.le_of_ble_eq_true rfl) ⟨(Nat.le_of_ble_eq_true rfl), (Nat.le_of_ble_eq_true rfl)⟩ xd_MO_edge_13 rfl (fun q0 n1 h1 q1 => ?_)
    obtain ⟨rfl, rfl, rfl⟩ := q1
    rw [x_in_nI hl (by decide)]
    refine xv_if_eqB (pc' := 19) (tgt := 28) hF xd_MO_edge_16 (by decide) rfl (fun e1 => ?_) (fun e1 => ?_)
    · cases e1
    · refine xv_iload_n (pc' := 20) (i := 3) hF xd_MO_edge_19 rfl rfl rfl ?_
      refine xv_bipushN (pc' := 22) 32 hF xd_MO_edge_20 (by decide +kernel) rfl ?_
      refine xv_callSi (pc' := 25) hF (c_MO_in K n h _ 32) xq_MO_in xk_MO_m52 xk_t_MO_in ⟨(Nat.le_of_ble_eq_true rfl), (Nat.le_of_ble_eq_true rfl)⟩ rfl rfl (Nat.le_of_ble_eq_true rfl) ⟨(Nat.le_of_ble_eq_true rfl), (Nat.le_of_ble_eq_true rfl)⟩ xd_MO_edge_22 rfl (fun q0 n1 h1 q1 => ?_)
      obtain ⟨rfl, rfl, rfl⟩ := q1
      rw [x_in_nI hj (by decide)]
      refine xv_if_neB (pc' := 28) (tgt := 32) hF xd_MO_edge_25 (by decide) rfl (fun e1 => ?_) (fun e1 => ?_)
      · refine xv_iconstN (pc' := 33) 0 hF xd_MO_edge_32 (by decide +kernel) rfl ?_
        refine xv_topi (v' := xb false) (by decide +kernel) ?_
        refine xv_iconstN (pc' := 34) 0 hF xd_MO_edge_33 (by decide +kernel) rfl ?_
        refine xv_topi (v' := xb false) (by decide +kernel) ?_
        refine xv_callVi (pc' := 37) (ci := 6) hF (c_MO_fails K n h p th ma w ln at_ f op mk false false ho) xq_MO_fails xk_MO_m56 xk_i_MO_fails xk_s_MO_fails (by first | assumption | exact xu_self | (refine (xu_ne (by omega)).trans ?_; first | assumption | exact xu_self | (refine (xu_ne (by omega)).trans ?_; first | assumption | exact xu_self | (refine (xu_ne (by omega)).trans ?_; first | assumption | exact xu_self | (refine (xu_ne (by omega)).trans ?_; first | assumption | exact xu_self))))) rfl ⟨(Nat.le_of_ble_eq_true rfl), (Nat.le_of_ble_eq_true rfl)⟩ rfl rfl (Nat.le_of_ble_eq_true rfl) ⟨(Nat.le_of_ble_eq_true rfl), (Nat.le_of_ble_eq_true rfl)⟩ xd_MO_edge_34 rfl (fun q0 n1 h1 q1 => ?_)
        obtain ⟨rfl, rfl, rfl⟩ := q1
        have r3 := r1.mm (th' := 0) (ma' := ma) (sz' := w)
        have f3 : mw_fr p h (xu h p (.inr (6, [.int (nI 0), .ref (p + 1), .ref (p + 2), .int (nI ma), .ref (p + 3), .int (nI w), .ref (p + 4), .ref (p + 5), .ref (p + 6), .ref (p + 7), .int (nI ln), .int (nI at_), .int (xm1 f), .int (xb mk), .ref (p + 8), .ref (p + 9), .ref (p + 10), .int (nI op), .ref (p + 11), .ref (p + 12)]))) := mw_fr.rf.x (by omega)
        have r4 : mw_X K (xu h p (.inr (6, [.int (nI 0), .ref (p + 1), .ref (p + 2), .int (nI ma), .ref (p + 3), .int (nI w), .ref (p + 4), .ref (p + 5), .ref (p + 6), .ref (p + 7), .int (nI ln), .int (nI at_), .int (xm1 f), .int (xb mk), .ref (p + 8), .ref (p + 9), .ref (p + 10), .int (nI op), .ref (p + 11), .ref (p + 12)]))) p cs w TX SZ SX := r2.keep (fun q a1 _ _ _ _ _ _ => xu_ne a1)
        simp only [Bool.false_eq_true, if_false, Bool.or_false]
        generalize xu h p (.inr (6, [.int (nI 0), .ref (p + 1), .ref (p + 2), .int (nI ma), .ref (p + 3), .int (nI w), .ref (p + 4), .ref (p + 5), .ref (p + 6), .ref (p + 7), .int (nI ln), .int (nI at_), .int (xm1 f), .int (xb mk), .ref (p + 8), .ref (p + 9), .ref (p + 10), .int (nI op), .ref (p + 11), .ref (p + 12)])) = h3 at r3 f3 r4 ⊢
        clear ho
        obtain ⟨ho, -, -, -, -, ⟨ef, hed, hed2⟩, -⟩ := id r3
        refine xv_if_eqB (pc' := 40) (tgt := 42) hF xd_MO_edge_37 (by decide) rfl (fun e2 => ?_) (fun e2 => ?_)
        · refine xv_iload_n (pc' := 43) (i := 1) hF xd_MO_edge_42 rfl rfl rfl ?_
          refine xv_iload_n (pc' := 44) (i := 2) hF xd_MO_edge_43 rfl rfl rfl ?_
          refine xv_iload_n (pc' := 45) (i := 3) hF xd_MO_edge_44 rfl rfl rfl ?_
          refine xv_callSi (pc' := 48) hF (c_MO_place K n h3 i l j) xq_MO_place xk_MO_m60 xk_t_MO_place ⟨(Nat.le_of_ble_eq_true rfl), (Nat.le_of_ble_eq_true rfl)⟩ rfl rfl (Nat.le_of_ble_eq_true rfl) ⟨(Nat.le_of_ble_eq_true rfl), (Nat.le_of_ble_eq_true rfl)⟩ xd_MO_edge_45 rfl (fun q0 n1 h1 q1 => ?_)
          obtain ⟨rfl, rfl, rfl⟩ := q1
          refine xv_istore (pc' := 50) hF xd_MO_edge_48 (Nat.le_of_ble_eq_true rfl) rfl rfl ?_
          refine xv_aload_n (pc' := 51) (i := 0) hF xd_MO_edge_50 rfl rfl rfl ?_
          refine xv_get (pc' := 54) (ci := 6) hF (by first | assumption | exact xu_self | (refine (xu_ne (by omega)).trans ?_; first | assumption | exact xu_self | (refine (xu_ne (by omega)).trans ?_; first | assumption | exact xu_self | (refine (xu_ne (by omega)).trans ?_; first | assumption | exact xu_self | (refine (xu_ne (by omega)).trans ?_; first | assumption | exact xu_self))))) rfl xu_MO 1 (by decide) xk_MO_f7 (by rfl) xd_MO_edge_51 rfl ?_
          refine xv_iload (pc' := 56) hF xd_MO_edge_54 rfl rfl ?_
          refine xv_zaldN (pc' := 57) hF (by first | assumption | exact xu_self | (refine (xu_ne (by omega)).trans ?_; first | assumption | exact xu_self | (refine (xu_ne (by omega)).trans ?_; first | assumption | exact xu_self | (refine (xu_ne (by omega)).trans ?_; first | assumption | exact xu_self | (refine (xu_ne (by omega)).trans ?_; first | assumption | exact xu_self))))) (by omega) (by decide) xd_MO_edge_56 rfl ?_
          refine xv_topi (v' := xb (E l i j)) (by rw [hed2 _ (by omega), show ((32 * l + i) * 32 + j) / 1024 = l by omega, show ((32 * l + i) * 32 + j) / 32 % 32 = i by omega, show ((32 * l + i) * 32 + j) % 32 = j by omega]) ?_
          refine xv_if_neB (pc' := 60) (tgt := 70) hF xd_MO_edge_57 (by decide) rfl (fun e3 => ?_) (fun e3 => ?_)
          · refine xv_iconstN (pc' := 71) 0 hF xd_MO_edge_70 (by decide +kernel) rfl ?_
            refine hR _ _ _ _ _ _ _ (by omega) (by omega) ?_ (by first | rfl | exact xb_nw _ | decide +kernel) xd_MO_edge_71
            exact ⟨rfl, f3, Or.inl ⟨Or.inl e3, by decide +kernel, ⟨_, _, _, _, _, _, _, _, _, r3⟩, r4⟩⟩
          · refine xv_aload_n (pc' := 61) (i := 0) hF xd_MO_edge_60 rfl rfl rfl ?_
            refine xv_get (pc' := 64) (ci := 6) hF (by first | assumption | exact xu_self | (refine (xu_ne (by omega)).trans ?_; first | assumption | exact xu_self | (refine (xu_ne (by omega)).trans ?_; first | assumption | exact xu_self | (refine (xu_ne (by omega)).trans ?_; first | assumption | exact xu_self | (refine (xu_ne (by omega)).trans ?_; first | assumption | exact xu_self))))) rfl xu_MO 3 (by decide) xk_MO_f64 (by rfl) xd_MO_edge_61 rfl ?_
            refine xv_sipushN (pc' := 67) 300 hF xd_MO_edge_64 (by decide +kernel) rfl ?_
            refine xv_icmp_neN (pc' := 70) (tgt := 72) hF (by omega) (by omega) xd_MO_edge_67 (by decide) rfl (fun e4 => ?_) (fun e4 => ?_)
            · refine xv_aload_n (pc' := 73) (i := 0) hF xd_MO_edge_72 rfl rfl rfl ?_
              refine xv_get (pc' := 76) (ci := 6) hF (by first | assumption | exact xu_self | (refine (xu_ne (by omega)).trans ?_; first | assumption | exact xu_self | (refine (xu_ne (by omega)).trans ?_; first | assumption | exact xu_self | (refine (xu_ne (by omega)).trans ?_; first | assumption | exact xu_self | (refine (xu_ne (by omega)).trans ?_; first | assumption | exact xu_self))))) rfl xu_MO 1 (by decide) xk_MO_f7 (by rfl) xd_MO_edge_73 rfl ?_
              refine xv_iload (pc' := 78) hF xd_MO_edge_76 rfl rfl ?_
              refine xv_iconstN (pc' := 79) 1 hF xd_MO_edge_78 (by decide +kernel) rfl ?_
              refine xv_zastN (pc' := 80) hF (by first | assumption | exact xu_self | (refine (xu_ne (by omega)).trans ?_; first | assumption | exact xu_self | (refine (xu_ne (by omega)).trans ?_; first | assumption | exact xu_self | (refine (xu_ne (by omega)).trans ?_; first | assumption | exact xu_self | (refine (xu_ne (by omega)).trans ?_; first | assumption | exact xu_self))))) (by omega) (by decide) xd_MO_edge_79 rfl ?_
              refine xv_aload_n (pc' := 81) (i := 0) hF xd_MO_edge_80 rfl rfl rfl ?_
              refine xv_dup (pc' := 82) hF xd_MO_edge_81 rfl rfl ?_
              refine xv_get (pc' := 85) (ci := 6) hF (by first | assumption | exact xu_self | (refine (xu_ne (by omega)).trans ?_; first | assumption | exact xu_self | (refine (xu_ne (by omega)).trans ?_; first | assumption | exact xu_self | (refine (xu_ne (by omega)).trans ?_; first | assumption | exact xu_self | (refine (xu_ne (by omega)).trans ?_; first | assumption | exact xu_self))))) rfl xu_MO 3 (by decide) xk_MO_f64 (by rfl) xd_MO_edge_82 rfl ?_
              refine xv_iconstN (pc' := 86) 1 hF xd_MO_edge_85 (by decide +kernel) rfl ?_
              first | refine xv_iaddN (pc' := 87) hF xd_MO_edge_86 rfl ?_ | refine xv_iadd (pc' := 87) hF xd_MO_edge_86 rfl ?_
              refine xv_put (pc' := 90) (ci := 6) (ty := xt_MO 3) hF (by first | assumption | exact xu_self | (refine (xu_ne (by omega)).trans ?_; first | assumption | exact xu_self | (refine (xu_ne (by omega)).trans ?_; first | assumption | exact xu_self | (refine (xu_ne (by omega)).trans ?_; first | assumption | exact xu_self | (refine (xu_ne (by omega)).trans ?_; first | assumption | exact xu_self))))) rfl xu_MO xt_MO xo_MO xn_MO 3 (by decide) xk_MO_f64 rfl (by decide +kernel) (by first | rfl | exact xb_nw _ | decide +kernel) (by first | rfl | exact xb_ft _ | decide +kernel) (by exact Nat.le_of_ble_eq_true rfl) (by dsimp only [List.set] <;> rfl) xd_MO_edge_87 rfl ?_
              refine xv_iconstN (pc' := 91) 1 hF xd_MO_edge_90 (by decide +kernel) rfl ?_
              have r5 := r3.ed (ed_up (b := true) (v := vp_nar .boolean (nI 1)) hed2 hl hi hj (by decide +kernel))
              have r6 := r5.mm (th' := 0) (ma' := ma + 1) (sz' := w)
              refine hR _ _ _ _ _ _ _ (by omega) (by omega) ?_ (by first | rfl | exact xb_nw _ | decide +kernel) xd_MO_edge_91
              exact ⟨rfl, (f3.x (by omega)).x (by omega), Or.inr ⟨e3, by omega, by decide +kernel, ⟨_, _, _, _, _, _, _, _, _, r6⟩, r4.keep (fun q a1 a2 _ _ _ _ _ => by rw [xu_ne a1, xu_ne a2])⟩⟩
            · refine xv_iconstN (pc' := 71) 0 hF xd_MO_edge_70 (by decide +kernel) rfl ?_
              refine hR _ _ _ _ _ _ _ (by omega) (by omega) ?_ (by first | rfl | exact xb_nw _ | decide +kernel) xd_MO_edge_71
              exact ⟨rfl, f3, Or.inl ⟨Or.inr e4, by decide +kernel, ⟨_, _, _, _, _, _, _, _, _, r3⟩, r4⟩⟩
        · cases e2
      · cases e1
