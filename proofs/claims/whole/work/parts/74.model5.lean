/-! the reference while it reads -/
def mo_S (K : xK) (h : xH) (p th ma sz ln at_ f op : Nat) (mk : Bool) (tx : Nat → Nat) (E : Nat → Nat → Nat → Bool) (Tg : Nat → Nat → Bool) (S : Nat → Nat → Nat → Nat) (so : Nat → Nat) (ba : Nat → Bool) : Prop :=
  h p = some (.inr (6, [.int (nI th), .ref (p + 1), .ref (p + 2), .int (nI ma), .ref (p + 3), .int (nI sz), .ref (p + 4), .ref (p + 5), .ref (p + 6), .ref (p + 7), .int (nI ln), .int (nI at_), .int (xm1 f), .int (xb mk), .ref (p + 8), .ref (p + 9), .ref (p + 10), .int (nI op), .ref (p + 11), .ref (p + 12)])) ∧ (∃ g, h (p + 8) = some (.inl (K.2.2.1 0, 40960, .inl g)) ∧ sq_is g S) ∧ (∃ sf, h (p + 9) = some (.inl (K.2.2.1 0, 40, .inl sf)) ∧ ∀ i, i < 40 → sf i = nI (so i)) ∧ (∃ bf, h (p + 10) = some (.inl (K.2.2.1 1, 12, .inl bf)) ∧ ∀ i, i < 12 → bf i = xb (ba i)) ∧
  (∃ tf, h (p + 7) = some (.inl (K.2.2.1 0, 101, .inl tf)) ∧ ∀ i, i < ln → tf i = nI (tx i)) ∧ (∃ ef, h (p + 1) = some (.inl (K.2.2.1 1, 8192, .inl ef)) ∧ ∀ z, z < 8192 → ef z = xb (E (z / 1024) (z / 32 % 32) (z % 32))) ∧ (∃ gf, h (p + 2) = some (.inl (K.2.2.1 1, 128, .inl gf)) ∧ ∀ t i, t < 4 → i < 32 → gf (4 * i + t) = xb (Tg t i)) ∧ op ≤ 10 ∧ f ≤ 101 ∧ at_ ≤ ln ∧ ln ≤ 100 ∧ ∀ i, i < ln → tx i < 256
def mo_fr (p : Nat) (h h' : xH) : Prop := ∀ q, q ≠ p → q ≠ p + 8 → q ≠ p + 9 → q ≠ p + 10 → h' q = h q
theorem mo_fr.tr {p : Nat} {h h1 h2 : xH} (a : mo_fr p h h1) (b : mo_fr p h1 h2) : mo_fr p h h2 := fun q c1 c2 c3 c4 => (b q c1 c2 c3 c4).trans (a q c1 c2 c3 c4)
theorem mo_fr.rf {p : Nat} {h : xH} : mo_fr p h h := fun _ _ _ _ _ => rfl
theorem mo_fr.x {p q : Nat} {h h1 : xH} {c : _} (a : mo_fr p h h1) (hq : q = p ∨ q = p + 8 ∨ q = p + 9 ∨ q = p + 10) : mo_fr p h (xu h1 q c) := fun y c1 c2 c3 c4 => (xu_ne (by omega)).trans (a y c1 c2 c3 c4)
theorem mo_S.ob {K : xK} {h : xH} {p th ma sz ln at_ f op : Nat} {mk : Bool} {tx : Nat → Nat} {E : Nat → Nat → Nat → Bool} {Tg : Nat → Nat → Bool} {S : Nat → Nat → Nat → Nat} {so : Nat → Nat} {ba : Nat → Bool} {at' f' op' th' : Nat} {mk' : Bool} (r : mo_S K h p th ma sz ln at_ f op mk tx E Tg (S) (so) (ba)) (h1 : op' ≤ 10) (h2 : f' ≤ 101) (h3 : at' ≤ ln) : mo_S K (xu h p (.inr (6, [.int (nI th'), .ref (p + 1), .ref (p + 2), .int (nI ma), .ref (p + 3), .int (nI sz), .ref (p + 4), .ref (p + 5), .ref (p + 6), .ref (p + 7), .int (nI ln), .int (nI at'), .int (xm1 f'), .int (xb mk'), .ref (p + 8), .ref (p + 9), .ref (p + 10), .int (nI op'), .ref (p + 11), .ref (p + 12)]))) p th' ma sz ln at' f' op' mk' tx E Tg (S) (so) (ba) := by
  obtain ⟨ho, ⟨g, hs, hg⟩, ⟨sf, hso, hso2⟩, ⟨bf, hba, hba2⟩, ⟨tf, htx, htx2⟩, ⟨ef, hed, hed2⟩, ⟨gf, htg, htg2⟩, b1, b2, b3, b4, b5⟩ := r
  exact ⟨xu_self, ⟨g, by rw [xu_ne (by omega)]; exact hs, hg⟩, ⟨sf, by rw [xu_ne (by omega)]; exact hso, hso2⟩, ⟨bf, by rw [xu_ne (by omega)]; exact hba, hba2⟩, ⟨tf, by rw [xu_ne (by omega)]; exact htx, htx2⟩, ⟨ef, by rw [xu_ne (by omega)]; exact hed, hed2⟩, ⟨gf, by rw [xu_ne (by omega)]; exact htg, htg2⟩, h1, h2, h3, b4, b5⟩
theorem mo_S.sq {K : xK} {h : xH} {p th ma sz ln at_ f op : Nat} {mk : Bool} {tx : Nat → Nat} {E : Nat → Nat → Nat → Bool} {Tg : Nat → Nat → Bool} {S : Nat → Nat → Nat → Nat} {so : Nat → Nat} {ba : Nat → Bool} {g' : Nat → Int32} {S' : Nat → Nat → Nat → Nat} (r : mo_S K h p th ma sz ln at_ f op mk tx E Tg (S) (so) (ba)) (hg' : sq_is g' S') : mo_S K (xu h (p + 8) (.inl (K.2.2.1 0, 40960, .inl g'))) p th ma sz ln at_ f op mk tx E Tg (S') (so) (ba) := by
  obtain ⟨ho, ⟨g, hs, hg⟩, ⟨sf, hso, hso2⟩, ⟨bf, hba, hba2⟩, ⟨tf, htx, htx2⟩, ⟨ef, hed, hed2⟩, ⟨gf, htg, htg2⟩, b1, b2, b3, b4, b5⟩ := r
  exact ⟨by rw [xu_ne (by omega)]; exact ho, ⟨g', xu_self, hg'⟩, ⟨sf, by rw [xu_ne (by omega)]; exact hso, hso2⟩, ⟨bf, by rw [xu_ne (by omega)]; exact hba, hba2⟩, ⟨tf, by rw [xu_ne (by omega)]; exact htx, htx2⟩, ⟨ef, by rw [xu_ne (by omega)]; exact hed, hed2⟩, ⟨gf, by rw [xu_ne (by omega)]; exact htg, htg2⟩, b1, b2, b3, b4, b5⟩
theorem mo_S.so {K : xK} {h : xH} {p th ma sz ln at_ f op : Nat} {mk : Bool} {tx : Nat → Nat} {E : Nat → Nat → Nat → Bool} {Tg : Nat → Nat → Bool} {S : Nat → Nat → Nat → Nat} {so : Nat → Nat} {ba : Nat → Bool} {sf' : Nat → Int32} {so' : Nat → Nat} (r : mo_S K h p th ma sz ln at_ f op mk tx E Tg (S) (so) (ba)) (hg' : ∀ i, i < 40 → sf' i = nI (so' i)) : mo_S K (xu h (p + 9) (.inl (K.2.2.1 0, 40, .inl sf'))) p th ma sz ln at_ f op mk tx E Tg (S) (so') (ba) := by
  obtain ⟨ho, ⟨g, hs, hg⟩, ⟨sf, hso, hso2⟩, ⟨bf, hba, hba2⟩, ⟨tf, htx, htx2⟩, ⟨ef, hed, hed2⟩, ⟨gf, htg, htg2⟩, b1, b2, b3, b4, b5⟩ := r
  exact ⟨by rw [xu_ne (by omega)]; exact ho, ⟨g, by rw [xu_ne (by omega)]; exact hs, hg⟩, ⟨sf', xu_self, hg'⟩, ⟨bf, by rw [xu_ne (by omega)]; exact hba, hba2⟩, ⟨tf, by rw [xu_ne (by omega)]; exact htx, htx2⟩, ⟨ef, by rw [xu_ne (by omega)]; exact hed, hed2⟩, ⟨gf, by rw [xu_ne (by omega)]; exact htg, htg2⟩, b1, b2, b3, b4, b5⟩
theorem mo_S.ba {K : xK} {h : xH} {p th ma sz ln at_ f op : Nat} {mk : Bool} {tx : Nat → Nat} {E : Nat → Nat → Nat → Bool} {Tg : Nat → Nat → Bool} {S : Nat → Nat → Nat → Nat} {so : Nat → Nat} {ba : Nat → Bool} {bf' : Nat → Int32} {ba' : Nat → Bool} (r : mo_S K h p th ma sz ln at_ f op mk tx E Tg (S) (so) (ba)) (hg' : ∀ i, i < 12 → bf' i = xb (ba' i)) : mo_S K (xu h (p + 10) (.inl (K.2.2.1 1, 12, .inl bf'))) p th ma sz ln at_ f op mk tx E Tg (S) (so) (ba') := by
  obtain ⟨ho, ⟨g, hs, hg⟩, ⟨sf, hso, hso2⟩, ⟨bf, hba, hba2⟩, ⟨tf, htx, htx2⟩, ⟨ef, hed, hed2⟩, ⟨gf, htg, htg2⟩, b1, b2, b3, b4, b5⟩ := r
  exact ⟨by rw [xu_ne (by omega)]; exact ho, ⟨g, by rw [xu_ne (by omega)]; exact hs, hg⟩, ⟨sf, by rw [xu_ne (by omega)]; exact hso, hso2⟩, ⟨bf', xu_self, hg'⟩, ⟨tf, by rw [xu_ne (by omega)]; exact htx, htx2⟩, ⟨ef, by rw [xu_ne (by omega)]; exact hed, hed2⟩, ⟨gf, by rw [xu_ne (by omega)]; exact htg, htg2⟩, b1, b2, b3, b4, b5⟩
theorem so_up {sf : Nat → Int32} {so : Nat → Nat} (h : ∀ i, i < 40 → sf i = nI (so i)) (k v : Nat) : ∀ i, i < 40 → upd sf k (nI v) i = nI (va_up so k v i) := by
  intro i hi
  by_cases c : i = k
  · subst c; rw [pk_us, va_s]
  · rw [pk_un c, va_n c]; exact h i hi
theorem ba_up {bf : Nat → Int32} {ba : Nat → Bool} {v : Int32} {b : Bool} (h : ∀ i, i < 12 → bf i = xb (ba i)) (k : Nat) (hv : v = xb b) : ∀ i, i < 12 → upd bf k v i = xb (va_up ba k b i) := by
  intro i hi
  by_cases c : i = k
  · subst c; rw [pk_us, va_s, hv]
  · rw [pk_un c, va_n c]; exact h i hi
def mo_pl (mk : Bool) (S : Nat → Nat → Nat → Nat) (t : Nat) (X : Nat → Nat → Nat) : Nat → Nat → Nat → Nat := if mk then va_up S t X else S
def mo_c (ln : Nat) (tx : Nat → Nat) (k : Nat) : Nat := if k < ln then tx k else 0
theorem mo_c_lt {ln k : Nat} {tx : Nat → Nat} (h : ∀ i, i < ln → tx i < 256) : mo_c ln tx k < 256 := by
  unfold mo_c; split
  · exact h k (by assumption)
  · decide
theorem mo_c_in {ln k : Nat} {tx : Nat → Nat} (h : mo_c ln tx k ≠ 0) : k < ln ∧ mo_c ln tx k = tx k := by
  unfold mo_c at h ⊢
  by_cases c : k < ln
  · rw [if_pos c]; exact ⟨c, rfl⟩
  · rw [if_neg c] at h; exact absurd rfl h
set_option maxHeartbeats 4000000 in
set_option maxRecDepth 100000 in
theorem c_MO_nowS (K : xK) (n : Nat) (h : xH) (p th ma sz ln at_ f op : Nat) (mk : Bool) (tx : Nat → Nat) (E : Nat → Nat → Nat → Bool) (Tg : Nat → Nat → Bool) (S : Nat → Nat → Nat → Nat) (so : Nat → Nat) (ba : Nat → Bool) (r : mo_S K h p th ma sz ln at_ f op mk tx E Tg (S) (so) (ba)) : XM K xy_MO_now xw_MO_now (xrm 0 0 0 0) [.ref p] n h (x_pi fun r n' h' => r = nI (mo_c ln tx at_) ∧ n = n' ∧ h = h') 0 0 := by
  obtain ⟨ho, ⟨g, hs, hg⟩, ⟨sf, hso, hso2⟩, ⟨bf, hba, hba2⟩, ⟨tf, htx, htx2⟩, ⟨ef, hed, hed2⟩, ⟨gf, htg, htg2⟩, b1, b2, b3, b4, b5⟩ := r
  exact c_MO_now K n h p th ma sz ln at_ f op mk ho tf tx htx htx2 b4 (by omega)
set_option maxHeartbeats 4000000 in
set_option maxRecDepth 100000 in
theorem c_MO_must (K : xK) (n : Nat) (h : xH) (p th ma sz ln at_ f op : Nat) (mk : Bool) (tx : Nat → Nat) (E : Nat → Nat → Nat → Bool) (Tg : Nat → Nat → Bool) (S : Nat → Nat → Nat → Nat) (so : Nat → Nat) (ba : Nat → Bool) (c : Nat) (r : mo_S K h p th ma sz ln at_ f op mk tx E Tg (S) (so) (ba)) (hc : c ≠ 0) (hc2 : c < 256) : XM K xy_MO_must xw_MO_must (xrm 1 20 0 0) [.ref p, .int (nI c)] n h (x_pv fun n' h' => n = n' ∧ mo_fr p h h' ∧ ((f ≠ 0 ∧ mo_S K h' p th ma sz ln at_ f op mk tx E Tg (S) (so) (ba)) ∨ (f = 0 ∧ mo_c ln tx at_ = c ∧ mo_S K h' p th ma sz ln (at_ + 1) f op mk tx E Tg (S) (so) (ba)) ∨ (f = 0 ∧ mo_c ln tx at_ ≠ c ∧ mo_S K h' p th ma sz ln at_ (at_ + 1) op mk tx E Tg (S) (so) (ba)))) 0 0 := by
  obtain ⟨ho, ⟨g, hs, hg⟩, ⟨sf, hso, hso2⟩, ⟨bf, hba, hba2⟩, ⟨tf, htx, htx2⟩, ⟨ef, hed, hed2⟩, ⟨gf, htg, htg2⟩, b1, b2, b3, b4, b5⟩ := id r
  have m256 := mo_c_lt (k := at_) b5
  refine xm_v (by decide +kernel) (Nat.le_of_ble_eq_true rfl) (fun G hF hR => ?_)
  refine xv_aload_n (pc' := 1) (i := 0) hF xd_MO_must_0 rfl rfl rfl ?_
  refine xv_callVi (pc' := 4) (ci := 6) hF (c_MO_goes K n h p th ma sz ln at_ f op mk ho (by omega)) xq_MO_goes xk_MO_m81 xk_i_MO_goes xk_s_MO_goes (by first | assumption | exact xu_self | (refine (xu_ne (by omega)).trans ?_; first | assumption | exact xu_self | (refine (xu_ne (by omega)).trans ?_; first | assumption | exact xu_self | (refine (xu_ne (by omega)).trans ?_; first | assumption | exact xu_self | (refine (xu_ne (by omega)).trans ?_; first | assumption | exact xu_self))))) rfl ⟨(Nat.le_of_ble_eq_true rfl), (Nat.le_of_ble_eq_true rfl)⟩ rfl rfl (Nat.le_of_ble_eq_true rfl) ⟨(Nat.le_of_ble_eq_true rfl), (Nat.le_of_ble_eq_true rfl)⟩ xd_MO_must_1 rfl (fun r1 n1 h1 q1 => ?_)
  obtain ⟨rfl, rfl, rfl⟩ := q1
  refine xv_if_eqB (pc' := 7) (tgt := 19) hF xd_MO_must_4 (by decide) rfl (fun e1 => ?_) (fun e1 => ?_)
  · have e1 := of_decide_eq_false e1
    refine xv_aload_n (pc' := 20) (i := 0) hF xd_MO_must_19 rfl rfl rfl ?_
    refine xv_callVi (pc' := 23) (ci := 6) hF (c_MO_goes K n h p th ma sz ln at_ f op mk ho (by omega)) xq_MO_goes xk_MO_m81 xk_i_MO_goes xk_s_MO_goes (by first | assumption | exact xu_self | (refine (xu_ne (by omega)).trans ?_; first | assumption | exact xu_self | (refine (xu_ne (by omega)).trans ?_; first | assumption | exact xu_self | (refine (xu_ne (by omega)).trans ?_; first | assumption | exact xu_self | (refine (xu_ne (by omega)).trans ?_; first | assumption | exact xu_self))))) rfl ⟨(Nat.le_of_ble_eq_true rfl), (Nat.le_of_ble_eq_true rfl)⟩ rfl rfl (Nat.le_of_ble_eq_true rfl) ⟨(Nat.le_of_ble_eq_true rfl), (Nat.le_of_ble_eq_true rfl)⟩ xd_MO_must_20 rfl (fun r1 n1 h1 q1 => ?_)
    obtain ⟨rfl, rfl, rfl⟩ := q1
    rw [decide_eq_false e1]
    refine xv_if_eqB (pc' := 26) (tgt := 36) hF xd_MO_must_23 (by decide) rfl (fun e2 => ?_) (fun e2 => ?_)
    · refine hR _ _ _ _ _ _ (by omega) (by omega) ?_ xd_MO_must_36
      exact ⟨rfl, mo_fr.rf, Or.inl ⟨e1, r⟩⟩
    · cases e2
  · have e1 := of_decide_eq_true e1
    subst e1
    refine xv_aload_n (pc' := 8) (i := 0) hF xd_MO_must_7 rfl rfl rfl ?_
    refine xv_callVi (pc' := 11) (ci := 6) hF (c_MO_nowS K n h p th ma sz ln at_ 0 op mk tx E Tg S so ba r) xq_MO_now xk_MO_m85 xk_i_MO_now xk_s_MO_now (by first | assumption | exact xu_self | (refine (xu_ne (by omega)).trans ?_; first | assumption | exact xu_self | (refine (xu_ne (by omega)).trans ?_; first | assumption | exact xu_self | (refine (xu_ne (by omega)).trans ?_; first | assumption | exact xu_self | (refine (xu_ne (by omega)).trans ?_; first | assumption | exact xu_self))))) rfl ⟨(Nat.le_of_ble_eq_true rfl), (Nat.le_of_ble_eq_true rfl)⟩ rfl rfl (Nat.le_of_ble_eq_true rfl) ⟨(Nat.le_of_ble_eq_true rfl), (Nat.le_of_ble_eq_true rfl)⟩ xd_MO_must_8 rfl (fun r1 n1 h1 q1 => ?_)
    obtain ⟨rfl, rfl, rfl⟩ := q1
    refine xv_iload_n (pc' := 12) (i := 1) hF xd_MO_must_11 rfl rfl rfl ?_
    refine xv_icmp_eqN (pc' := 15) (tgt := 19) hF (by omega) (by omega) xd_MO_must_12 (by decide) rfl (fun e2 => ?_) (fun e2 => ?_)
    · refine xv_aload_n (pc' := 20) (i := 0) hF xd_MO_must_19 rfl rfl rfl ?_
      refine xv_callVi (pc' := 23) (ci := 6) hF (c_MO_goes K n h p th ma sz ln at_ 0 op mk ho (by omega)) xq_MO_goes xk_MO_m81 xk_i_MO_goes xk_s_MO_goes (by first | assumption | exact xu_self | (refine (xu_ne (by omega)).trans ?_; first | assumption | exact xu_self | (refine (xu_ne (by omega)).trans ?_; first | assumption | exact xu_self | (refine (xu_ne (by omega)).trans ?_; first | assumption | exact xu_self | (refine (xu_ne (by omega)).trans ?_; first | assumption | exact xu_self))))) rfl ⟨(Nat.le_of_ble_eq_true rfl), (Nat.le_of_ble_eq_true rfl)⟩ rfl rfl (Nat.le_of_ble_eq_true rfl) ⟨(Nat.le_of_ble_eq_true rfl), (Nat.le_of_ble_eq_true rfl)⟩ xd_MO_must_20 rfl (fun r1 n1 h1 q1 => ?_)
      obtain ⟨rfl, rfl, rfl⟩ := q1
      rw [decide_eq_true rfl]
      refine xv_if_eqB (pc' := 26) (tgt := 36) hF xd_MO_must_23 (by decide) rfl (fun e3 => ?_) (fun e3 => ?_)
      · cases e3
      · refine xv_aload_n (pc' := 27) (i := 0) hF xd_MO_must_26 rfl rfl rfl ?_
        refine xv_dup (pc' := 28) hF xd_MO_must_27 rfl rfl ?_
        refine xv_get (pc' := 31) (ci := 6) hF (by first | assumption | exact xu_self | (refine (xu_ne (by omega)).trans ?_; first | assumption | exact xu_self | (refine (xu_ne (by omega)).trans ?_; first | assumption | exact xu_self | (refine (xu_ne (by omega)).trans ?_; first | assumption | exact xu_self | (refine (xu_ne (by omega)).trans ?_; first | assumption | exact xu_self))))) rfl xu_MO 11 (by decide) xk_MO_f72 (by rfl) xd_MO_must_28 rfl ?_
        refine xv_iconstN (pc' := 32) 1 hF xd_MO_must_31 (by decide +kernel) rfl ?_
        first | refine xv_iaddN (pc' := 33) hF xd_MO_must_32 rfl ?_ | refine xv_iadd (pc' := 33) hF xd_MO_must_32 rfl ?_
        refine xv_put (pc' := 36) (ci := 6) (ty := xt_MO 11) hF (by first | assumption | exact xu_self | (refine (xu_ne (by omega)).trans ?_; first | assumption | exact xu_self | (refine (xu_ne (by omega)).trans ?_; first | assumption | exact xu_self | (refine (xu_ne (by omega)).trans ?_; first | assumption | exact xu_self | (refine (xu_ne (by omega)).trans ?_; first | assumption | exact xu_self))))) rfl xu_MO xt_MO xo_MO xn_MO 11 (by decide) xk_MO_f72 rfl (by decide +kernel) (by first | rfl | exact xb_nw _ | decide +kernel) (by first | rfl | exact xb_ft _ | decide +kernel) (by exact Nat.le_of_ble_eq_true rfl) (by dsimp only [List.set] <;> rfl) xd_MO_must_33 rfl ?_
        refine hR _ _ _ _ _ _ (by omega) (by omega) ?_ xd_MO_must_36
        exact ⟨rfl, mo_fr.rf.x (by omega), Or.inr (Or.inl ⟨rfl, e2, r.ob (mk' := mk) b1 (by omega) (by have := (mo_c_in (k := at_) (tx := tx) (ln := ln) (by omega)).1; omega)⟩)⟩
    · refine xv_aload_n (pc' := 16) (i := 0) hF xd_MO_must_15 rfl rfl rfl ?_
      refine xv_callVv (pc' := 19) (ci := 6) hF (c_MO_fail K n h p th ma sz ln at_ 0 op mk ho (by omega)) xq_MO_fail xk_MO_m89 xk_i_MO_fail xk_s_MO_fail (by first | assumption | exact xu_self | (refine (xu_ne (by omega)).trans ?_; first | assumption | exact xu_self | (refine (xu_ne (by omega)).trans ?_; first | assumption | exact xu_self | (refine (xu_ne (by omega)).trans ?_; first | assumption | exact xu_self | (refine (xu_ne (by omega)).trans ?_; first | assumption | exact xu_self))))) rfl ⟨(Nat.le_of_ble_eq_true rfl), (Nat.le_of_ble_eq_true rfl)⟩ rfl rfl (Nat.le_of_ble_eq_true rfl) ⟨(Nat.le_of_ble_eq_true rfl), (Nat.le_of_ble_eq_true rfl)⟩ xd_MO_must_16 rfl (fun n1 h1 q1 => ?_)
      obtain ⟨rfl, rfl⟩ := q1
      rw [if_pos rfl]
      refine xv_aload_n (pc' := 20) (i := 0) hF xd_MO_must_19 rfl rfl rfl ?_
      refine xv_callVi (pc' := 23) (ci := 6) hF (c_MO_goes K n _ p th ma sz ln at_ (at_ + 1) op mk xu_self (by omega)) xq_MO_goes xk_MO_m81 xk_i_MO_goes xk_s_MO_goes (by first | assumption | exact xu_self | (refine (xu_ne (by omega)).trans ?_; first | assumption | exact xu_self | (refine (xu_ne (by omega)).trans ?_; first | assumption | exact xu_self | (refine (xu_ne (by omega)).trans ?_; first | assumption | exact xu_self | (refine (xu_ne (by omega)).trans ?_; first | assumption | exact xu_self))))) rfl ⟨(Nat.le_of_ble_eq_true rfl), (Nat.le_of_ble_eq_true rfl)⟩ rfl rfl (Nat.le_of_ble_eq_true rfl) ⟨(Nat.le_of_ble_eq_true rfl), (Nat.le_of_ble_eq_true rfl)⟩ xd_MO_must_20 rfl (fun r1 n1 h1 q1 => ?_)
      obtain ⟨rfl, rfl, rfl⟩ := q1
      rw [decide_eq_false (Nat.succ_ne_zero at_)]
      refine xv_if_eqB (pc' := 26) (tgt := 36) hF xd_MO_must_23 (by decide) rfl (fun e3 => ?_) (fun e3 => ?_)
      · refine hR _ _ _ _ _ _ (by omega) (by omega) ?_ xd_MO_must_36
        exact ⟨rfl, mo_fr.rf.x (by omega), Or.inr (Or.inr ⟨rfl, e2, r.ob (mk' := mk) b1 (by omega) b3⟩)⟩
      · cases e3
