/-! Graph: E l i j: an edge from i to j by label l; Tg t i: node i has tag t; e: how many edges -/
def gh_at (K : xK) (h : xH) (o : Nat) (T g : Nat → Int32) (e : Nat) : Prop := h o = some (.inr (1, [.ref (o + 1), .ref (o + 2), .int (nI e)])) ∧ h (o + 1) = some (.inl (K.2.2.1 0, 256, .inl T)) ∧ h (o + 2) = some (.inl (K.2.2.1 0, 4, .inl g))
def gh_is (T g : Nat → Int32) (E : Nat → Nat → Nat → Bool) (Tg : Nat → Nat → Bool) : Prop := (∀ l i j, l < 8 → i < 32 → j < 32 → bt (T (l * 32 + i)) j = E l i j) ∧ ∀ t i, t < 4 → i < 32 → bt (g t) i = Tg t i
def gh_R (K : xK) (h : xH) (o : Nat) (E : Nat → Nat → Nat → Bool) (Tg : Nat → Nat → Bool) (e : Nat) : Prop := ∃ T g, gh_at K h o T g e ∧ gh_is T g E Tg
def gh_fr (h h' : xH) (o : Nat) : Prop := ∀ q, q < o ∨ o + 3 ≤ q → h' q = h q
def ed_set (E : Nat → Nat → Nat → Bool) (l i j : Nat) (b : Bool) : Nat → Nat → Nat → Bool := fun x y z => if x = l ∧ y = i ∧ z = j then b else E x y z
def tg_set (Tg : Nat → Nat → Bool) (t i : Nat) (b : Bool) : Nat → Nat → Bool := fun x y => if x = t ∧ y = i then b else Tg x y
set_option maxHeartbeats 4000000 in
set_option maxRecDepth 100000 in
theorem c_GR_hasEdge (K : xK) (n : Nat) (h : xH) (o i l j e : Nat) (E : Nat → Nat → Nat → Bool) (Tg : Nat → Nat → Bool) (hr : gh_R K h o E Tg e) (hi : i < 32) (hl : l < 8) (hj : j < 32) : XM K xy_GR_hasEdge xw_GR_hasEdge (xrm 1 21 0 0) [.ref o, .int (nI i), .int (nI l), .int (nI j)] n h (x_pi fun r n' h' => r = xb (E l i j) ∧ n = n' ∧ h = h') 0 0 := by
  obtain ⟨T, g, ⟨ha, hf, hg⟩, h1, h2⟩ := hr
  refine xm_z (by decide +kernel) (Nat.le_of_ble_eq_true rfl) (fun G hF hR => ?_)
  refine xv_aload_n (pc' := 1) (i := 0) hF xd_GR_hasEdge_0 rfl rfl rfl ?_
  refine xv_get (pc' := 4) (ci := 1) hF (by first | assumption | exact xu_self | (refine (xu_ne (by omega)).trans ?_; first | assumption | exact xu_self | (refine (xu_ne (by omega)).trans ?_; first | assumption | exact xu_self | (refine (xu_ne (by omega)).trans ?_; first | assumption | exact xu_self | (refine (xu_ne (by omega)).trans ?_; first | assumption | exact xu_self))))) rfl xu_GR 0 (by decide) xk_GR_f9 (by rfl) xd_GR_hasEdge_1 rfl ?_
  refine xv_iload_n (pc' := 5) (i := 2) hF xd_GR_hasEdge_4 rfl rfl rfl ?_
  refine xv_bipushN (pc' := 7) 32 hF xd_GR_hasEdge_5 (by decide +kernel) rfl ?_
  first | refine xv_imulN (pc' := 8) hF xd_GR_hasEdge_7 rfl ?_ | refine xv_imul (pc' := 8) hF xd_GR_hasEdge_7 rfl ?_
  refine xv_iload_n (pc' := 9) (i := 1) hF xd_GR_hasEdge_8 rfl rfl rfl ?_
  first | refine xv_iaddN (pc' := 10) hF xd_GR_hasEdge_9 rfl ?_ | refine xv_iadd (pc' := 10) hF xd_GR_hasEdge_9 rfl ?_
  first | refine xv_ialdN (pc' := 11) hF (by first | assumption | exact xu_self | (refine (xu_ne (by omega)).trans ?_; first | assumption | exact xu_self | (refine (xu_ne (by omega)).trans ?_; first | assumption | exact xu_self | (refine (xu_ne (by omega)).trans ?_; first | assumption | exact xu_self | (refine (xu_ne (by omega)).trans ?_; first | assumption | exact xu_self))))) (by omega) (by decide) xd_GR_hasEdge_10 rfl ?_ | refine xv_iald (pc' := 11) hF (by first | assumption | exact xu_self | (refine (xu_ne (by omega)).trans ?_; first | assumption | exact xu_self | (refine (xu_ne (by omega)).trans ?_; first | assumption | exact xu_self | (refine (xu_ne (by omega)).trans ?_; first | assumption | exact xu_self | (refine (xu_ne (by omega)).trans ?_; first | assumption | exact xu_self))))) (by omega) xd_GR_hasEdge_10 rfl ?_
  refine xv_iload_n (pc' := 12) (i := 3) hF xd_GR_hasEdge_11 rfl rfl rfl ?_
  refine xv_callSNi (pc' := 15) hF (c_PD_isIn K n h (T (l * 32 + i)) j hj) xq_PD_isIn xk_GR_m22 xk_t_PD_isIn ⟨(Nat.le_of_ble_eq_true rfl), (Nat.le_of_ble_eq_true rfl)⟩ rfl rfl (Nat.le_of_ble_eq_true rfl) ⟨(Nat.le_of_ble_eq_true rfl), (Nat.le_of_ble_eq_true rfl)⟩ xd_GR_hasEdge_12 rfl (fun r n3 h3 p3 => ?_)
  obtain ⟨rfl, rfl, rfl⟩ := p3
  refine hR _ _ _ _ _ _ _ (by omega) (by omega) ?_ (by first | rfl | exact xb_nw _ | decide +kernel) xd_GR_hasEdge_15
  exact ⟨by rw [h1 l i j hl hi hj], rfl, rfl⟩
theorem bt_or1 (x : Int32) {t i : Nat} (ht : t < 32) (hi : i < 32) : bt (x ||| nI 1 <<< (nI t &&& 31)) i = if i = t then true else bt x i := by
  rw [b_or, bt_oneN t ht i hi]
  by_cases c : i = t <;> simp [c]
theorem bt_and0 (x : Int32) {t i : Nat} (ht : t < 32) (hi : i < 32) : bt (x &&& ((nI 1 <<< (nI t &&& 31)) ^^^ (-1))) i = if i = t then false else bt x i := by
  rw [b_and, bt_not _ hi, bt_oneN t ht i hi]
  by_cases c : i = t <;> simp [c]
theorem gh_put {T g : Nat → Int32} {E : Nat → Nat → Nat → Bool} {Tg : Nat → Nat → Bool} (h : gh_is T g E Tg) {l i j : Nat} (hl : l < 8) (hi : i < 32) (b : Bool) {x : Int32} (hx : ∀ z, z < 32 → bt x z = if z = j then b else bt (T (l * 32 + i)) z) : gh_is (upd T (l * 32 + i) x) g (ed_set E l i j b) Tg := by
  refine ⟨fun a y z ha hy hz => ?_, h.2⟩
  unfold ed_set
  by_cases c : a = l ∧ y = i
  · obtain ⟨rfl, rfl⟩ := c
    rw [pk_us, hx z hz, h.1 a y z ha hy hz]
    by_cases c2 : z = j <;> simp [c2]
  · rw [pk_un (by omega), if_neg (fun q => c ⟨q.1, q.2.1⟩)]
    exact h.1 a y z ha hy hz
set_option maxHeartbeats 4000000 in
set_option maxRecDepth 100000 in
theorem c_GR_putEdge (K : xK) (n : Nat) (h : xH) (o i l j e : Nat) (E : Nat → Nat → Nat → Bool) (Tg : Nat → Nat → Bool) (hr : gh_R K h o E Tg e) (hi : i < 32) (hl : l < 8) (hj : j < 32) (he : e < 1000) : XM K xy_GR_putEdge xw_GR_putEdge (xrm 0 0 0 0) [.ref o, .int (nI i), .int (nI l), .int (nI j)] n h (x_pv fun n' h' => n = n' ∧ gh_fr h h' o ∧ gh_R K h' o (ed_set E l i j true) Tg (e + 1)) 0 0 := by
  obtain ⟨T, g, ⟨ha, hf, hg⟩, h12⟩ := hr
  refine xm_v (by decide +kernel) (Nat.le_of_ble_eq_true rfl) (fun G hF hR => ?_)
  refine xv_aload_n (pc' := 1) (i := 0) hF xd_GR_putEdge_0 rfl rfl rfl ?_
  refine xv_get (pc' := 4) (ci := 1) hF (by first | assumption | exact xu_self | (refine (xu_ne (by omega)).trans ?_; first | assumption | exact xu_self | (refine (xu_ne (by omega)).trans ?_; first | assumption | exact xu_self | (refine (xu_ne (by omega)).trans ?_; first | assumption | exact xu_self | (refine (xu_ne (by omega)).trans ?_; first | assumption | exact xu_self))))) rfl xu_GR 0 (by decide) xk_GR_f9 (by rfl) xd_GR_putEdge_1 rfl ?_
  refine xv_iload_n (pc' := 5) (i := 2) hF xd_GR_putEdge_4 rfl rfl rfl ?_
  refine xv_bipushN (pc' := 7) 32 hF xd_GR_putEdge_5 (by decide +kernel) rfl ?_
  first | refine xv_imulN (pc' := 8) hF xd_GR_putEdge_7 rfl ?_ | refine xv_imul (pc' := 8) hF xd_GR_putEdge_7 rfl ?_
  refine xv_iload_n (pc' := 9) (i := 1) hF xd_GR_putEdge_8 rfl rfl rfl ?_
  first | refine xv_iaddN (pc' := 10) hF xd_GR_putEdge_9 rfl ?_ | refine xv_iadd (pc' := 10) hF xd_GR_putEdge_9 rfl ?_
  refine xv_dup2 (pc' := 11) hF xd_GR_putEdge_10 rfl rfl rfl ?_
  first | refine xv_ialdN (pc' := 12) hF (by first | assumption | exact xu_self | (refine (xu_ne (by omega)).trans ?_; first | assumption | exact xu_self | (refine (xu_ne (by omega)).trans ?_; first | assumption | exact xu_self | (refine (xu_ne (by omega)).trans ?_; first | assumption | exact xu_self | (refine (xu_ne (by omega)).trans ?_; first | assumption | exact xu_self))))) (by omega) (by decide) xd_GR_putEdge_11 rfl ?_ | refine xv_iald (pc' := 12) hF (by first | assumption | exact xu_self | (refine (xu_ne (by omega)).trans ?_; first | assumption | exact xu_self | (refine (xu_ne (by omega)).trans ?_; first | assumption | exact xu_self | (refine (xu_ne (by omega)).trans ?_; first | assumption | exact xu_self | (refine (xu_ne (by omega)).trans ?_; first | assumption | exact xu_self))))) (by omega) xd_GR_putEdge_11 rfl ?_
  refine xv_iconstN (pc' := 13) 1 hF xd_GR_putEdge_12 (by decide +kernel) rfl ?_
  refine xv_iload_n (pc' := 14) (i := 3) hF xd_GR_putEdge_13 rfl rfl rfl ?_
  refine xv_ishl (pc' := 15) hF xd_GR_putEdge_14 rfl ?_
  refine xv_ior (pc' := 16) hF xd_GR_putEdge_15 rfl ?_
  refine xv_iastN (pc' := 17) hF (by first | assumption | exact xu_self | (refine (xu_ne (by omega)).trans ?_; first | assumption | exact xu_self | (refine (xu_ne (by omega)).trans ?_; first | assumption | exact xu_self | (refine (xu_ne (by omega)).trans ?_; first | assumption | exact xu_self | (refine (xu_ne (by omega)).trans ?_; first | assumption | exact xu_self))))) (by omega) (by decide) xd_GR_putEdge_16 rfl ?_
  refine xv_aload_n (pc' := 18) (i := 0) hF xd_GR_putEdge_17 rfl rfl rfl ?_
  refine xv_dup (pc' := 19) hF xd_GR_putEdge_18 rfl rfl ?_
  refine xv_get (pc' := 22) (ci := 1) hF (by first | assumption | exact xu_self | (refine (xu_ne (by omega)).trans ?_; first | assumption | exact xu_self | (refine (xu_ne (by omega)).trans ?_; first | assumption | exact xu_self | (refine (xu_ne (by omega)).trans ?_; first | assumption | exact xu_self | (refine (xu_ne (by omega)).trans ?_; first | assumption | exact xu_self))))) rfl xu_GR 2 (by decide) xk_GR_f18 (by rfl) xd_GR_putEdge_19 rfl ?_
  refine xv_iconstN (pc' := 23) 1 hF xd_GR_putEdge_22 (by decide +kernel) rfl ?_
  first | refine xv_iaddN (pc' := 24) hF xd_GR_putEdge_23 rfl ?_ | refine xv_iadd (pc' := 24) hF xd_GR_putEdge_23 rfl ?_
  refine xv_put (pc' := 27) (ci := 1) (ty := xt_GR 2) hF (by first | assumption | exact xu_self | (refine (xu_ne (by omega)).trans ?_; first | assumption | exact xu_self | (refine (xu_ne (by omega)).trans ?_; first | assumption | exact xu_self | (refine (xu_ne (by omega)).trans ?_; first | assumption | exact xu_self | (refine (xu_ne (by omega)).trans ?_; first | assumption | exact xu_self))))) rfl xu_GR xt_GR xo_GR xn_GR 2 (by decide) xk_GR_f18 rfl (by decide +kernel) (by first | rfl | exact xb_nw _ | decide +kernel) (by first | rfl | exact xb_ft _ | decide +kernel) (by exact Nat.le_of_ble_eq_true rfl) (by dsimp only [List.set] <;> rfl) xd_GR_putEdge_24 rfl ?_
  refine hR _ _ _ _ _ _ (by omega) (by omega) ?_ xd_GR_putEdge_27
  refine ⟨rfl, fun q hq => ?_, ?_⟩
  · rw [xu_ne (by omega), xu_ne (by omega)]
  · exact ⟨_, _, ⟨xu_self, by rw [xu_ne (by omega)]; exact xu_self, by rw [xu_ne (by omega), xu_ne (by omega)]; exact hg⟩, gh_put h12 hl hi true fun z hz => bt_or1 _ hj hz⟩
set_option maxHeartbeats 4000000 in
set_option maxRecDepth 100000 in
theorem c_GR_dropEdge (K : xK) (n : Nat) (h : xH) (o i l j e : Nat) (E : Nat → Nat → Nat → Bool) (Tg : Nat → Nat → Bool) (hr : gh_R K h o E Tg e) (hi : i < 32) (hl : l < 8) (hj : j < 32) (he : 1 ≤ e) : XM K xy_GR_dropEdge xw_GR_dropEdge (xrm 0 0 0 0) [.ref o, .int (nI i), .int (nI l), .int (nI j)] n h (x_pv fun n' h' => n = n' ∧ gh_fr h h' o ∧ gh_R K h' o (ed_set E l i j false) Tg (e - 1)) 0 0 := by
  obtain ⟨T, g, ⟨ha, hf, hg⟩, h12⟩ := hr
  refine xm_v (by decide +kernel) (Nat.le_of_ble_eq_true rfl) (fun G hF hR => ?_)
  refine xv_aload_n (pc' := 1) (i := 0) hF xd_GR_dropEdge_0 rfl rfl rfl ?_
  refine xv_get (pc' := 4) (ci := 1) hF (by first | assumption | exact xu_self | (refine (xu_ne (by omega)).trans ?_; first | assumption | exact xu_self | (refine (xu_ne (by omega)).trans ?_; first | assumption | exact xu_self | (refine (xu_ne (by omega)).trans ?_; first | assumption | exact xu_self | (refine (xu_ne (by omega)).trans ?_; first | assumption | exact xu_self))))) rfl xu_GR 0 (by decide) xk_GR_f9 (by rfl) xd_GR_dropEdge_1 rfl ?_
  refine xv_iload_n (pc' := 5) (i := 2) hF xd_GR_dropEdge_4 rfl rfl rfl ?_
  refine xv_bipushN (pc' := 7) 32 hF xd_GR_dropEdge_5 (by decide +kernel) rfl ?_
  first | refine xv_imulN (pc' := 8) hF xd_GR_dropEdge_7 rfl ?_ | refine xv_imul (pc' := 8) hF xd_GR_dropEdge_7 rfl ?_
  refine xv_iload_n (pc' := 9) (i := 1) hF xd_GR_dropEdge_8 rfl rfl rfl ?_
  first | refine xv_iaddN (pc' := 10) hF xd_GR_dropEdge_9 rfl ?_ | refine xv_iadd (pc' := 10) hF xd_GR_dropEdge_9 rfl ?_
  refine xv_dup2 (pc' := 11) hF xd_GR_dropEdge_10 rfl rfl rfl ?_
  first | refine xv_ialdN (pc' := 12) hF (by first | assumption | exact xu_self | (refine (xu_ne (by omega)).trans ?_; first | assumption | exact xu_self | (refine (xu_ne (by omega)).trans ?_; first | assumption | exact xu_self | (refine (xu_ne (by omega)).trans ?_; first | assumption | exact xu_self | (refine (xu_ne (by omega)).trans ?_; first | assumption | exact xu_self))))) (by omega) (by decide) xd_GR_dropEdge_11 rfl ?_ | refine xv_iald (pc' := 12) hF (by first | assumption | exact xu_self | (refine (xu_ne (by omega)).trans ?_; first | assumption | exact xu_self | (refine (xu_ne (by omega)).trans ?_; first | assumption | exact xu_self | (refine (xu_ne (by omega)).trans ?_; first | assumption | exact xu_self | (refine (xu_ne (by omega)).trans ?_; first | assumption | exact xu_self))))) (by omega) xd_GR_dropEdge_11 rfl ?_
  refine xv_iconstN (pc' := 13) 1 hF xd_GR_dropEdge_12 (by decide +kernel) rfl ?_
  refine xv_iload_n (pc' := 14) (i := 3) hF xd_GR_dropEdge_13 rfl rfl rfl ?_
  refine xv_ishl (pc' := 15) hF xd_GR_dropEdge_14 rfl ?_
  refine xv_iconst (pc' := 16) (v := -1) hF xd_GR_dropEdge_15 (by decide +kernel) rfl ?_
  refine xv_ixor (pc' := 17) hF xd_GR_dropEdge_16 rfl ?_
  first | refine xv_iandN (pc' := 18) hF xd_GR_dropEdge_17 rfl ?_ | refine xv_iand (pc' := 18) hF xd_GR_dropEdge_17 rfl ?_
  refine xv_iastN (pc' := 19) hF (by first | assumption | exact xu_self | (refine (xu_ne (by omega)).trans ?_; first | assumption | exact xu_self | (refine (xu_ne (by omega)).trans ?_; first | assumption | exact xu_self | (refine (xu_ne (by omega)).trans ?_; first | assumption | exact xu_self | (refine (xu_ne (by omega)).trans ?_; first | assumption | exact xu_self))))) (by omega) (by decide) xd_GR_dropEdge_18 rfl ?_
  refine xv_aload_n (pc' := 20) (i := 0) hF xd_GR_dropEdge_19 rfl rfl rfl ?_
  refine xv_dup (pc' := 21) hF xd_GR_dropEdge_20 rfl rfl ?_
  refine xv_get (pc' := 24) (ci := 1) hF (by first | assumption | exact xu_self | (refine (xu_ne (by omega)).trans ?_; first | assumption | exact xu_self | (refine (xu_ne (by omega)).trans ?_; first | assumption | exact xu_self | (refine (xu_ne (by omega)).trans ?_; first | assumption | exact xu_self | (refine (xu_ne (by omega)).trans ?_; first | assumption | exact xu_self))))) rfl xu_GR 2 (by decide) xk_GR_f18 (by rfl) xd_GR_dropEdge_21 rfl ?_
  refine xv_iconstN (pc' := 25) 1 hF xd_GR_dropEdge_24 (by decide +kernel) rfl ?_
  first | refine xv_isubN (pc' := 26) hF (by omega) xd_GR_dropEdge_25 rfl ?_ | refine xv_isub (pc' := 26) hF xd_GR_dropEdge_25 rfl ?_
  refine xv_put (pc' := 29) (ci := 1) (ty := xt_GR 2) hF (by first | assumption | exact xu_self | (refine (xu_ne (by omega)).trans ?_; first | assumption | exact xu_self | (refine (xu_ne (by omega)).trans ?_; first | assumption | exact xu_self | (refine (xu_ne (by omega)).trans ?_; first | assumption | exact xu_self | (refine (xu_ne (by omega)).trans ?_; first | assumption | exact xu_self))))) rfl xu_GR xt_GR xo_GR xn_GR 2 (by decide) xk_GR_f18 rfl (by decide +kernel) (by first | rfl | exact xb_nw _ | decide +kernel) (by first | rfl | exact xb_ft _ | decide +kernel) (by exact Nat.le_of_ble_eq_true rfl) (by dsimp only [List.set] <;> rfl) xd_GR_dropEdge_26 rfl ?_
  refine hR _ _ _ _ _ _ (by omega) (by omega) ?_ xd_GR_dropEdge_29
  refine ⟨rfl, fun q hq => ?_, ?_⟩
  · rw [xu_ne (by omega), xu_ne (by omega)]
  · exact ⟨_, _, ⟨xu_self, by rw [xu_ne (by omega)]; exact xu_self, by rw [xu_ne (by omega), xu_ne (by omega)]; exact hg⟩, gh_put h12 hl hi false fun z hz => bt_and0 _ hj hz⟩
theorem gh_tag {T g : Nat → Int32} {E : Nat → Nat → Nat → Bool} {Tg : Nat → Nat → Bool} (h : gh_is T g E Tg) {t i : Nat} (b : Bool) {x : Int32} (hx : ∀ z, z < 32 → bt x z = if z = i then b else bt (g t) z) : gh_is T (upd g t x) E (tg_set Tg t i b) := by
  refine ⟨h.1, fun a y ha hy => ?_⟩
  unfold tg_set
  by_cases c : a = t
  · subst c
    rw [pk_us, hx y hy, h.2 a y ha hy]
    by_cases c2 : y = i <;> simp [c2]
  · rw [pk_un c, if_neg (fun q => c q.1)]
    exact h.2 a y ha hy
set_option maxHeartbeats 4000000 in
set_option maxRecDepth 100000 in
theorem c_GR_setTag (K : xK) (n : Nat) (h : xH) (o i t e : Nat) (b : Bool) (E : Nat → Nat → Nat → Bool) (Tg : Nat → Nat → Bool) (hr : gh_R K h o E Tg e) (hi : i < 32) (ht : t < 4) : XM K xy_GR_setTag xw_GR_setTag (xrm 0 0 0 0) [.ref o, .int (nI i), .int (nI t), .int (xb b)] n h (x_pv fun n' h' => n = n' ∧ gh_fr h h' o ∧ gh_R K h' o E (tg_set Tg t i b) e) 0 0 := by
  obtain ⟨T, g, ⟨ha, hf, hg⟩, h12⟩ := hr
  refine xm_v (by decide +kernel) (Nat.le_of_ble_eq_true rfl) (fun G hF hR => ?_)
  refine xv_iload_n (pc' := 1) (i := 3) hF xd_GR_setTag_0 rfl rfl rfl ?_
  refine xv_if_eqB (pc' := 4) (tgt := 19) hF xd_GR_setTag_1 (by decide) rfl (fun e1 => ?_) (fun e1 => ?_)
  · subst e1
    refine xv_aload_n (pc' := 20) (i := 0) hF xd_GR_setTag_19 rfl rfl rfl ?_
    refine xv_get (pc' := 23) (ci := 1) hF (by first | assumption | exact xu_self | (refine (xu_ne (by omega)).trans ?_; first | assumption | exact xu_self | (refine (xu_ne (by omega)).trans ?_; first | assumption | exact xu_self | (refine (xu_ne (by omega)).trans ?_; first | assumption | exact xu_self | (refine (xu_ne (by omega)).trans ?_; first | assumption | exact xu_self))))) rfl xu_GR 1 (by decide) xk_GR_f15 (by rfl) xd_GR_setTag_20 rfl ?_
    refine xv_iload_n (pc' := 24) (i := 2) hF xd_GR_setTag_23 rfl rfl rfl ?_
    refine xv_dup2 (pc' := 25) hF xd_GR_setTag_24 rfl rfl rfl ?_
    first | refine xv_ialdN (pc' := 26) hF (by first | assumption | exact xu_self | (refine (xu_ne (by omega)).trans ?_; first | assumption | exact xu_self | (refine (xu_ne (by omega)).trans ?_; first | assumption | exact xu_self | (refine (xu_ne (by omega)).trans ?_; first | assumption | exact xu_self | (refine (xu_ne (by omega)).trans ?_; first | assumption | exact xu_self))))) (by omega) (by decide) xd_GR_setTag_25 rfl ?_ | refine xv_iald (pc' := 26) hF (by first | assumption | exact xu_self | (refine (xu_ne (by omega)).trans ?_; first | assumption | exact xu_self | (refine (xu_ne (by omega)).trans ?_; first | assumption | exact xu_self | (refine (xu_ne (by omega)).trans ?_; first | assumption | exact xu_self | (refine (xu_ne (by omega)).trans ?_; first | assumption | exact xu_self))))) (by omega) xd_GR_setTag_25 rfl ?_
    refine xv_iconstN (pc' := 27) 1 hF xd_GR_setTag_26 (by decide +kernel) rfl ?_
    refine xv_iload_n (pc' := 28) (i := 1) hF xd_GR_setTag_27 rfl rfl rfl ?_
    refine xv_ishl (pc' := 29) hF xd_GR_setTag_28 rfl ?_
    refine xv_iconst (pc' := 30) (v := -1) hF xd_GR_setTag_29 (by decide +kernel) rfl ?_
    refine xv_ixor (pc' := 31) hF xd_GR_setTag_30 rfl ?_
    first | refine xv_iandN (pc' := 32) hF xd_GR_setTag_31 rfl ?_ | refine xv_iand (pc' := 32) hF xd_GR_setTag_31 rfl ?_
    refine xv_iastN (pc' := 33) hF (by first | assumption | exact xu_self | (refine (xu_ne (by omega)).trans ?_; first | assumption | exact xu_self | (refine (xu_ne (by omega)).trans ?_; first | assumption | exact xu_self | (refine (xu_ne (by omega)).trans ?_; first | assumption | exact xu_self | (refine (xu_ne (by omega)).trans ?_; first | assumption | exact xu_self))))) (by omega) (by decide) xd_GR_setTag_32 rfl ?_
    refine hR _ _ _ _ _ _ (by omega) (by omega) ?_ xd_GR_setTag_33
    refine ⟨rfl, fun q hq => ?_, ?_⟩
    · rw [xu_ne (by omega)]
    · exact ⟨_, _, ⟨by rw [xu_ne (by omega)]; exact ha, by rw [xu_ne (by omega)]; exact hf, xu_self⟩, gh_tag h12 false fun z hz => bt_and0 _ hi hz⟩
  · subst e1
    refine xv_aload_n (pc' := 5) (i := 0) hF xd_GR_setTag_4 rfl rfl rfl ?_
    refine xv_get (pc' := 8) (ci := 1) hF (by first | assumption | exact xu_self | (refine (xu_ne (by omega)).trans ?_; first | assumption | exact xu_self | (refine (xu_ne (by omega)).trans ?_; first | assumption | exact xu_self | (refine (xu_ne (by omega)).trans ?_; first | assumption | exact xu_self | (refine (xu_ne (by omega)).trans ?_; first | assumption | exact xu_self))))) rfl xu_GR 1 (by decide) xk_GR_f15 (by rfl) xd_GR_setTag_5 rfl ?_
    refine xv_iload_n (pc' := 9) (i := 2) hF xd_GR_setTag_8 rfl rfl rfl ?_
    refine xv_dup2 (pc' := 10) hF xd_GR_setTag_9 rfl rfl rfl ?_
    first | refine xv_ialdN (pc' := 11) hF (by first | assumption | exact xu_self | (refine (xu_ne (by omega)).trans ?_; first | assumption | exact xu_self | (refine (xu_ne (by omega)).trans ?_; first | assumption | exact xu_self | (refine (xu_ne (by omega)).trans ?_; first | assumption | exact xu_self | (refine (xu_ne (by omega)).trans ?_; first | assumption | exact xu_self))))) (by omega) (by decide) xd_GR_setTag_10 rfl ?_ | refine xv_iald (pc' := 11) hF (by first | assumption | exact xu_self | (refine (xu_ne (by omega)).trans ?_; first | assumption | exact xu_self | (refine (xu_ne (by omega)).trans ?_; first | assumption | exact xu_self | (refine (xu_ne (by omega)).trans ?_; first | assumption | exact xu_self | (refine (xu_ne (by omega)).trans ?_; first | assumption | exact xu_self))))) (by omega) xd_GR_setTag_10 rfl ?_
    refine xv_iconstN (pc' := 12) 1 hF xd_GR_setTag_11 (by decide +kernel) rfl ?_
    refine xv_iload_n (pc' := 13) (i := 1) hF xd_GR_setTag_12 rfl rfl rfl ?_
    refine xv_ishl (pc' := 14) hF xd_GR_setTag_13 rfl ?_
    refine xv_ior (pc' := 15) hF xd_GR_setTag_14 rfl ?_
    refine xv_iastN (pc' := 16) hF (by first | assumption | exact xu_self | (refine (xu_ne (by omega)).trans ?_; first | assumption | exact xu_self | (refine (xu_ne (by omega)).trans ?_; first | assumption | exact xu_self | (refine (xu_ne (by omega)).trans ?_; first | assumption | exact xu_self | (refine (xu_ne (by omega)).trans ?_; first | assumption | exact xu_self))))) (by omega) (by decide) xd_GR_setTag_15 rfl ?_
    refine xv_goto (tgt := 33) hF xd_GR_setTag_16 (by decide) ?_
    refine hR _ _ _ _ _ _ (by omega) (by omega) ?_ xd_GR_setTag_33
    refine ⟨rfl, fun q hq => ?_, ?_⟩
    · rw [xu_ne (by omega)]
    · exact ⟨_, _, ⟨by rw [xu_ne (by omega)]; exact ha, by rw [xu_ne (by omega)]; exact hf, xu_self⟩, gh_tag h12 true fun z hz => bt_or1 _ hi hz⟩
set_option maxHeartbeats 4000000 in
set_option maxRecDepth 100000 in
theorem c_GR_nodesWith (K : xK) (n : Nat) (h : xH) (o t e : Nat) (E : Nat → Nat → Nat → Bool) (Tg : Nat → Nat → Bool) (hr : gh_R K h o E Tg e) (ht : t < 4) : XM K xy_GR_nodesWith xw_GR_nodesWith (xrm 0 0 0 0) [.ref o, .int (nI t)] n h (x_pi fun r n' h' => (∀ i, i < 32 → bt r i = Tg t i) ∧ n = n' ∧ h = h') 0 0 := by
  obtain ⟨T, g, ⟨ha, hf, hg⟩, h12⟩ := hr
  refine xm_i (by decide +kernel) (Nat.le_of_ble_eq_true rfl) (fun G hF hR => ?_)
  refine xv_aload_n (pc' := 1) (i := 0) hF xd_GR_nodesWith_0 rfl rfl rfl ?_
  refine xv_get (pc' := 4) (ci := 1) hF (by first | assumption | exact xu_self | (refine (xu_ne (by omega)).trans ?_; first | assumption | exact xu_self | (refine (xu_ne (by omega)).trans ?_; first | assumption | exact xu_self | (refine (xu_ne (by omega)).trans ?_; first | assumption | exact xu_self | (refine (xu_ne (by omega)).trans ?_; first | assumption | exact xu_self))))) rfl xu_GR 1 (by decide) xk_GR_f15 (by rfl) xd_GR_nodesWith_1 rfl ?_
  refine xv_iload_n (pc' := 5) (i := 1) hF xd_GR_nodesWith_4 rfl rfl rfl ?_
  first | refine xv_ialdN (pc' := 6) hF (by first | assumption | exact xu_self | (refine (xu_ne (by omega)).trans ?_; first | assumption | exact xu_self | (refine (xu_ne (by omega)).trans ?_; first | assumption | exact xu_self | (refine (xu_ne (by omega)).trans ?_; first | assumption | exact xu_self | (refine (xu_ne (by omega)).trans ?_; first | assumption | exact xu_self))))) (by omega) (by decide) xd_GR_nodesWith_5 rfl ?_ | refine xv_iald (pc' := 6) hF (by first | assumption | exact xu_self | (refine (xu_ne (by omega)).trans ?_; first | assumption | exact xu_self | (refine (xu_ne (by omega)).trans ?_; first | assumption | exact xu_self | (refine (xu_ne (by omega)).trans ?_; first | assumption | exact xu_self | (refine (xu_ne (by omega)).trans ?_; first | assumption | exact xu_self))))) (by omega) xd_GR_nodesWith_5 rfl ?_
  refine hR _ _ _ _ _ _ _ (by omega) (by omega) ?_ xd_GR_nodesWith_6
  exact ⟨fun i hi => h12.2 t i ht hi, rfl, rfl⟩
set_option maxHeartbeats 4000000 in
set_option maxRecDepth 100000 in
theorem c_GR_edgesOf (K : xK) (n : Nat) (h : xH) (o l e : Nat) (E : Nat → Nat → Nat → Bool) (Tg : Nat → Nat → Bool) (hr : gh_R K h o E Tg e) (hl : l < 8) : XM K xy_GR_edgesOf xw_GR_edgesOf (xrm 1 20 0 0) [.ref o, .int (nI l)] n h (x_pi fun r n' h' => r = nI (md_cn (E l) 1024) ∧ n = n' ∧ h = h') 0 0 := by
  obtain ⟨T, g, ⟨ha, hf, hg⟩, h12⟩ := hr
  refine xm_i (by decide +kernel) (Nat.le_of_ble_eq_true rfl) (fun G hF hR => ?_)
  refine xv_iconstN (pc' := 1) 0 hF xd_GR_edgesOf_0 (by decide +kernel) rfl ?_
  refine xv_istore_n (pc' := 2) (i := 2) hF xd_GR_edgesOf_1 rfl (Nat.le_of_ble_eq_true rfl) rfl rfl ?_
  refine xv_iconstN (pc' := 3) 0 hF xd_GR_edgesOf_2 (by decide +kernel) rfl ?_
  refine xv_istore_n (pc' := 4) (i := 3) hF xd_GR_edgesOf_3 rfl (Nat.le_of_ble_eq_true rfl) rfl rfl ?_
  have loop : ∀ d t, 32 - t = d → t ≤ 32 → XV G 0 0 4 [(3, .int (nI t)), (2, .int (nI (md_cn (E l) (t * 32)))), (0, .ref o), (1, .int (nI l))] [] n h := by
    intro d
    induction d using Nat.strongRecOn with
    | ind d ih =>
      intro t hd ht
      refine xv_iload_n (pc' := 5) (i := 3) hF xd_GR_edgesOf_4 rfl rfl rfl ?_
      refine xv_bipushN (pc' := 7) 32 hF xd_GR_edgesOf_5 (by decide +kernel) rfl ?_
      refine xv_icmp_geN (pc' := 10) (tgt := 33) hF (by omega) (by omega) xd_GR_edgesOf_7 (by decide) rfl (fun e1 => ?_) (fun e1 => ?_)
      · refine xv_iload_n (pc' := 34) (i := 2) hF xd_GR_edgesOf_33 rfl rfl rfl ?_
        refine hR _ _ _ _ _ _ _ (by omega) (by omega) ?_ xd_GR_edgesOf_34
        have : t = 32 := by omega
        subst this
        exact ⟨rfl, rfl, rfl⟩
      · refine xv_iload_n (pc' := 11) (i := 2) hF xd_GR_edgesOf_10 rfl rfl rfl ?_
        refine xv_aload_n (pc' := 12) (i := 0) hF xd_GR_edgesOf_11 rfl rfl rfl ?_
        refine xv_get (pc' := 15) (ci := 1) hF (by first | assumption | exact xu_self | (refine (xu_ne (by omega)).trans ?_; first | assumption | exact xu_self | (refine (xu_ne (by omega)).trans ?_; first | assumption | exact xu_self | (refine (xu_ne (by omega)).trans ?_; first | assumption | exact xu_self | (refine (xu_ne (by omega)).trans ?_; first | assumption | exact xu_self))))) rfl xu_GR 0 (by decide) xk_GR_f9 (by rfl) xd_GR_edgesOf_12 rfl ?_
        refine xv_iload_n (pc' := 16) (i := 1) hF xd_GR_edgesOf_15 rfl rfl rfl ?_
        refine xv_bipushN (pc' := 18) 32 hF xd_GR_edgesOf_16 (by decide +kernel) rfl ?_
        first | refine xv_imulN (pc' := 19) hF xd_GR_edgesOf_18 rfl ?_ | refine xv_imul (pc' := 19) hF xd_GR_edgesOf_18 rfl ?_
        refine xv_iload_n (pc' := 20) (i := 3) hF xd_GR_edgesOf_19 rfl rfl rfl ?_
        first | refine xv_iaddN (pc' := 21) hF xd_GR_edgesOf_20 rfl ?_ | refine xv_iadd (pc' := 21) hF xd_GR_edgesOf_20 rfl ?_
        first | refine xv_ialdN (pc' := 22) hF (by first | assumption | exact xu_self | (refine (xu_ne (by omega)).trans ?_; first | assumption | exact xu_self | (refine (xu_ne (by omega)).trans ?_; first | assumption | exact xu_self | (refine (xu_ne (by omega)).trans ?_; first | assumption | exact xu_self | (refine (xu_ne (by omega)).trans ?_; first | assumption | exact xu_self))))) (by omega) (by decide) xd_GR_edgesOf_21 rfl ?_ | refine xv_iald (pc' := 22) hF (by first | assumption | exact xu_self | (refine (xu_ne (by omega)).trans ?_; first | assumption | exact xu_self | (refine (xu_ne (by omega)).trans ?_; first | assumption | exact xu_self | (refine (xu_ne (by omega)).trans ?_; first | assumption | exact xu_self | (refine (xu_ne (by omega)).trans ?_; first | assumption | exact xu_self))))) (by omega) xd_GR_edgesOf_21 rfl ?_
        refine xv_callSi (pc' := 25) hF (c_JI_bitCount K n h (T (l * 32 + t))) xq_JI_bitCount xk_GR_m26 xk_t_JI_bitCount ⟨(Nat.le_of_ble_eq_true rfl), (Nat.le_of_ble_eq_true rfl)⟩ rfl rfl (Nat.le_of_ble_eq_true rfl) ⟨(Nat.le_of_ble_eq_true rfl), (Nat.le_of_ble_eq_true rfl)⟩ xd_GR_edgesOf_22 rfl (fun r n3 h3 p3 => ?_)
        obtain ⟨rfl, rfl, rfl⟩ := p3
        first | refine xv_iaddN (pc' := 26) hF xd_GR_edgesOf_25 rfl ?_ | refine xv_iadd (pc' := 26) hF xd_GR_edgesOf_25 rfl ?_
        refine xv_topi (v' := nI (md_cn (E l) ((t + 1) * 32))) ?_ ?_
        · rw [md_cn_row, bc_congr (fun i hi => h12.1 l t i hl e1 hi)]
        · refine xv_istore_n (pc' := 27) (i := 2) hF xd_GR_edgesOf_26 rfl (Nat.le_of_ble_eq_true rfl) rfl rfl ?_
          first | refine xv_iincN (pc' := 30) hF xd_GR_edgesOf_27 rfl rfl (Nat.le_of_ble_eq_true rfl) rfl rfl ?_ | refine xv_iinc (pc' := 30) hF xd_GR_edgesOf_27 rfl rfl (Nat.le_of_ble_eq_true rfl) rfl rfl ?_
          refine xv_goto (tgt := 4) hF xd_GR_edgesOf_30 (by decide) ?_
          exact xv_loc _ (by repeat (first | exact trivial | refine ⟨rfl, ?_⟩)) (ih _ (by omega) (t + 1) rfl (by omega))
  exact xv_loc _ (by repeat (first | exact trivial | refine ⟨rfl, ?_⟩)) (loop 32 0 (by omega) (by omega))
/-- by which labels -/
def gh_nx (E : Nat → Nat → Nat → Bool) (x : Int32) (i j : Nat) : Nat → Bool
  | 0 => false
  | l + 1 => gh_nx E x i j l || (bt x l && E l i j)
set_option maxHeartbeats 4000000 in
set_option maxRecDepth 100000 in
theorem c_GR_nextOf (K : xK) (n : Nat) (h : xH) (o i e : Nat) (x : Int32) (E : Nat → Nat → Nat → Bool) (Tg : Nat → Nat → Bool) (hr : gh_R K h o E Tg e) (hi : i < 32) : XM K xy_GR_nextOf xw_GR_nextOf (xrm 0 0 0 0) [.ref o, .int (nI i), .int x] n h (x_pi fun r n' h' => (∀ j, j < 32 → bt r j = gh_nx E x i j 8) ∧ n = n' ∧ h = h') 0 0 := by
  obtain ⟨T, g, ⟨ha, hf, hg⟩, h12⟩ := hr
  refine xm_i (by decide +kernel) (Nat.le_of_ble_eq_true rfl) (fun G hF hR => ?_)
  refine xv_iconstN (pc' := 1) 0 hF xd_GR_nextOf_0 (by decide +kernel) rfl ?_
  refine xv_istore_n (pc' := 2) (i := 3) hF xd_GR_nextOf_1 rfl (Nat.le_of_ble_eq_true rfl) rfl rfl ?_
  refine xv_iconstN (pc' := 3) 0 hF xd_GR_nextOf_2 (by decide +kernel) rfl ?_
  refine xv_istore (pc' := 5) hF xd_GR_nextOf_3 (Nat.le_of_ble_eq_true rfl) rfl rfl ?_
  have loop : ∀ d t r, 8 - t = d → t ≤ 8 → (∀ j, j < 32 → bt r j = gh_nx E x i j t) → XV G 0 0 5 [(4, .int (nI t)), (3, .int r), (0, .ref o), (1, .int (nI i)), (2, .int x)] [] n h := by
    intro d
    induction d using Nat.strongRecOn with
    | ind d ih =>
      intro t r hd ht hb
      refine xv_iload (pc' := 7) hF xd_GR_nextOf_5 rfl rfl ?_
      refine xv_bipushN (pc' := 9) 8 hF xd_GR_nextOf_7 (by decide +kernel) rfl ?_
      refine xv_icmp_geN (pc' := 12) (tgt := 42) hF (by omega) (by omega) xd_GR_nextOf_9 (by decide) rfl (fun e1 => ?_) (fun e1 => ?_)
      · refine xv_iload_n (pc' := 43) (i := 3) hF xd_GR_nextOf_42 rfl rfl rfl ?_
        refine hR _ _ _ _ _ _ _ (by omega) (by omega) ?_ xd_GR_nextOf_43
        have : t = 8 := by omega
        subst this
        exact ⟨hb, rfl, rfl⟩
      · refine xv_iload_n (pc' := 13) (i := 2) hF xd_GR_nextOf_12 rfl rfl rfl ?_
        refine xv_iload (pc' := 15) hF xd_GR_nextOf_13 rfl rfl ?_
        first | refine xv_iushrN (pc' := 16) hF (by omega) (by decide) xd_GR_nextOf_15 rfl ?_ | refine xv_iushr (pc' := 16) hF xd_GR_nextOf_15 rfl rfl ?_
        refine xv_iconstN (pc' := 17) 1 hF xd_GR_nextOf_16 (by decide +kernel) rfl ?_
        first | refine xv_iandN (pc' := 18) hF xd_GR_nextOf_17 rfl ?_ | refine xv_iand (pc' := 18) hF xd_GR_nextOf_17 rfl ?_
        refine xv_if_eq (pc' := 21) (tgt := 36) hF xd_GR_nextOf_18 (by decide) rfl (fun e2 => ?_) (fun e2 => ?_)
        · rw [bt_inN x (by omega)] at e2
          first | refine xv_iincN (pc' := 39) hF xd_GR_nextOf_36 rfl rfl (Nat.le_of_ble_eq_true rfl) rfl rfl ?_ | refine xv_iinc (pc' := 39) hF xd_GR_nextOf_36 rfl rfl (Nat.le_of_ble_eq_true rfl) rfl rfl ?_
          refine xv_goto (tgt := 5) hF xd_GR_nextOf_39 (by decide) ?_
          refine xv_loc _ (by repeat (first | exact trivial | refine ⟨rfl, ?_⟩)) (ih _ (by omega) (t + 1) _ rfl (by omega) ?_)
          intro j hj
          rw [hb j hj]
          show _ = (gh_nx E x i j t || (bt x t && E t i j))
          rw [e2]; simp
        · rw [bt_inN x (by omega), Bool.not_eq_false] at e2
          refine xv_iload_n (pc' := 22) (i := 3) hF xd_GR_nextOf_21 rfl rfl rfl ?_
          refine xv_aload_n (pc' := 23) (i := 0) hF xd_GR_nextOf_22 rfl rfl rfl ?_
          refine xv_get (pc' := 26) (ci := 1) hF (by first | assumption | exact xu_self | (refine (xu_ne (by omega)).trans ?_; first | assumption | exact xu_self | (refine (xu_ne (by omega)).trans ?_; first | assumption | exact xu_self | (refine (xu_ne (by omega)).trans ?_; first | assumption | exact xu_self | (refine (xu_ne (by omega)).trans ?_; first | assumption | exact xu_self))))) rfl xu_GR 0 (by decide) xk_GR_f9 (by rfl) xd_GR_nextOf_23 rfl ?_
          refine xv_iload (pc' := 28) hF xd_GR_nextOf_26 rfl rfl ?_
          refine xv_bipushN (pc' := 30) 32 hF xd_GR_nextOf_28 (by decide +kernel) rfl ?_
          first | refine xv_imulN (pc' := 31) hF xd_GR_nextOf_30 rfl ?_ | refine xv_imul (pc' := 31) hF xd_GR_nextOf_30 rfl ?_
          refine xv_iload_n (pc' := 32) (i := 1) hF xd_GR_nextOf_31 rfl rfl rfl ?_
          first | refine xv_iaddN (pc' := 33) hF xd_GR_nextOf_32 rfl ?_ | refine xv_iadd (pc' := 33) hF xd_GR_nextOf_32 rfl ?_
          first | refine xv_ialdN (pc' := 34) hF (by first | assumption | exact xu_self | (refine (xu_ne (by omega)).trans ?_; first | assumption | exact xu_self | (refine (xu_ne (by omega)).trans ?_; first | assumption | exact xu_self | (refine (xu_ne (by omega)).trans ?_; first | assumption | exact xu_self | (refine (xu_ne (by omega)).trans ?_; first | assumption | exact xu_self))))) (by omega) (by decide) xd_GR_nextOf_33 rfl ?_ | refine xv_iald (pc' := 34) hF (by first | assumption | exact xu_self | (refine (xu_ne (by omega)).trans ?_; first | assumption | exact xu_self | (refine (xu_ne (by omega)).trans ?_; first | assumption | exact xu_self | (refine (xu_ne (by omega)).trans ?_; first | assumption | exact xu_self | (refine (xu_ne (by omega)).trans ?_; first | assumption | exact xu_self))))) (by omega) xd_GR_nextOf_33 rfl ?_
          refine xv_ior (pc' := 35) hF xd_GR_nextOf_34 rfl ?_
          refine xv_istore_n (pc' := 36) (i := 3) hF xd_GR_nextOf_35 rfl (Nat.le_of_ble_eq_true rfl) rfl rfl ?_
          first | refine xv_iincN (pc' := 39) hF xd_GR_nextOf_36 rfl rfl (Nat.le_of_ble_eq_true rfl) rfl rfl ?_ | refine xv_iinc (pc' := 39) hF xd_GR_nextOf_36 rfl rfl (Nat.le_of_ble_eq_true rfl) rfl rfl ?_
          refine xv_goto (tgt := 5) hF xd_GR_nextOf_39 (by decide) ?_
          refine xv_loc _ (by repeat (first | exact trivial | refine ⟨rfl, ?_⟩)) (ih _ (by omega) (t + 1) _ rfl (by omega) ?_)
          intro j hj
          rw [b_or, hb j hj, h12.1 t i j e1 hi hj]
          show _ = (gh_nx E x i j t || (bt x t && E t i j))
          rw [e2]; simp
  refine xv_loc _ (by repeat (first | exact trivial | refine ⟨rfl, ?_⟩)) (loop 8 0 _ (by omega) (by omega) ?_)
  intro j hj
  rw [show nI 0 = 0 from nI_0, b_0]
  rfl
