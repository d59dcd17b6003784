/-! Reader: (state, open, inRepeat, repeatSteps, least, most, endedSteps, the orders told) -/
abbrev rs_T : Type := Nat × Nat × Bool × Nat × Nat × Nat × (Nat → Nat) × List Nat
def rp_ap (w : Nat) : rs_T → rs_T | (st, op, ir, rs, le, mo, en, os) => (st, op, ir, rs, le, mo, en, os ++ [w])
def rp_go (s : Nat) : rs_T → rs_T | (_, op, ir, rs, le, mo, en, os) => (s, op, ir, rs, le, mo, en, os)
def rp_er : rs_T → rs_T | (st, op, ir, rs, le, mo, en, os) => if ir then (st, op, false, rs, le, mo, va_up en op (min (en op + rs) 81), os ++ [6]) else (st, op, ir, rs, le, mo, en, os)
def rp_sr (s : Nat) : rs_T → rs_T | (st, op, _, _, le, mo, en, os) => (st, op, true, s, le, mo, en, os)
def rp_sa : rs_T → rs_T | (st, op, ir, rs, le, mo, en, os) => (st, op, ir, rs, le, mo, va_up en op 0, os ++ [0] ++ [1])
def rp_ew (q : rs_T) : rs_T := rp_ap 7 (rp_er q)
def rp_as (k m : Nat) (q : rs_T) : rs_T := rp_sr 1 (rp_ap (k + 16 * m) (rp_er q))
def rp_up : rs_T → rs_T | (st, op, ir, rs, le, mo, en, os) => (st, op + 1, ir, rs, le, mo, en, os)
def rp_dn : rs_T → rs_T | (st, op, ir, rs, le, mo, en, os) => (st, op - 1, ir, rs, le, mo, en, os)
def rp_lm (a b : Nat) : rs_T → rs_T | (st, op, ir, rs, _, _, en, os) => (st, op, ir, rs, a, b, en, os)
def rp_st (c k : Nat) (q : rs_T) : Option rs_T := if c = 46 then some (rp_go 0 (rp_as k 255 q)) else if 97 ≤ c ∧ c < 105 then some (rp_go 0 (rp_as k (2 ^ (c - 97)) q)) else none
def rp_tg (c k : Nat) (q : rs_T) : Option rs_T := if 48 ≤ c ∧ c < 52 then some (rp_go 4 (rp_as k (c - 48) q)) else none
def rp_be (c : Nat) : rs_T → Option rs_T | (_, op, ir, rs, le, mo, en, os) => if c = 125 ∧ mo ≠ 0 then some (0, op, ir, min (rs * mo) 81, le, mo, en, os ++ [11 + 16 * (le * 10 + mo)]) else none
def rp_row (c : Nat) (q : rs_T) : Option rs_T :=
  if c = 40 then (if q.2.1 = 10 then none else some (rp_sa (rp_up (rp_er q))))
  else if c = 41 then (if q.2.1 = 0 then none else some (rp_dn (rp_sr ((rp_ew q).2.2.2.2.2.2.1 q.2.1) (rp_ew q))))
  else if c = 42 then (if q.2.2.1 then some (rp_ap 8 q) else none)
  else if c = 43 then (if q.2.2.1 then some (rp_ap 9 q) else none)
  else if c = 63 then (if q.2.2.1 then some (rp_ap 10 q) else none)
  else if c = 91 then some (rp_go 2 q)
  else if c = 94 then some (rp_go 1 q)
  else if c = 123 then (if q.2.2.1 then some (rp_go 5 q) else none)
  else if c = 124 then some (rp_ap 1 (rp_ew q))
  else rp_st c 2 q
def rp_ins (c : Nat) (q : rs_T) : Option rs_T := match q.1 with
  | 1 => rp_st c 3 q
  | 2 => if c = 33 then some (rp_go 3 q) else rp_tg c 4 q
  | 3 => rp_tg c 5 q
  | 4 => if c = 93 then some (rp_go 0 q) else none
  | 5 => if 48 ≤ c ∧ c ≤ 57 then some (rp_go 6 (rp_lm (c - 48) (c - 48) q)) else none
  | 6 => if c = 44 then some (rp_go 7 q) else rp_be c q
  | 7 => if 48 ≤ c ∧ c ≤ 57 ∧ q.2.2.2.2.1 ≤ c - 48 ∧ 0 < c - 48 then some (rp_go 8 (rp_lm q.2.2.2.2.1 (c - 48) q)) else none
  | _ => rp_be c q
def rp_step (c : Nat) (q : rs_T) : Option rs_T := if q.1 = 0 then rp_row c q else rp_ins c q
/-- the orders' number, the chain that is due counted -/
def rp_ln (q : rs_T) : Nat := q.2.2.2.2.2.2.2.length + (if q.2.2.1 then 1 else 0)
def rd_ok (o x : Nat) : Prop := x + 1 < o + 4 ∨ o + 6 ≤ x
def rd_R (K : xK) (h : xH) (o x : Nat) (q : rs_T) (sx : Nat) : Prop := h (o + 4) = some (.inr (4, [.ref (o + 5), .ref x, .int (nI q.1), .int (nI q.2.1), .int (xb q.2.2.1), .int (nI q.2.2.2.1), .int (nI q.2.2.2.2.1), .int (nI q.2.2.2.2.2.1)])) ∧
  (∃ f, h (o + 5) = some (.inl (K.2.2.1 0, 11, .inl f)) ∧ ∀ i, i < 11 → f i = nI (q.2.2.2.2.2.2.1 i)) ∧ ex_R K h x q.2.2.2.2.2.2.2 sx ∧ rd_ok o x ∧ q.1 ≤ 8 ∧ q.2.1 ≤ 10 ∧ q.2.2.2.1 ≤ 81 ∧ q.2.2.2.2.1 ≤ 9 ∧ q.2.2.2.2.2.1 ≤ 9 ∧ ∀ i, q.2.2.2.2.2.2.1 i ≤ 81
def rd_fr (o x : Nat) (h h' : xH) : Prop := ∀ q, q ≠ o + 4 → q ≠ o + 5 → q ≠ x → q ≠ x + 1 → h' q = h q
theorem rd_fr.rf {o x : Nat} {h : xH} : rd_fr o x h h := fun _ _ _ _ _ => rfl
theorem rd_fr.tr {o x : Nat} {h h1 h2 : xH} (p : rd_fr o x h h1) (q : rd_fr o x h1 h2) : rd_fr o x h h2 := fun y a b c d => (q y a b c d).trans (p y a b c d)
theorem ex_R.own {K : xK} {h h' : xH} {o x : Nat} {os : List Nat} {sx : Nat} (hx : rd_ok o x) (hf : ∀ q, q ≠ o + 4 → q ≠ o + 5 → h' q = h q) (p : ex_R K h x os sx) : ex_R K h' x os sx := by
  unfold rd_ok at hx
  obtain ⟨p0, f, ⟨p1, p2⟩, p3⟩ := p
  exact ⟨p0, f, ⟨by rw [hf _ (by omega) (by omega)]; exact p1, by rw [hf _ (by omega) (by omega)]; exact p2⟩, p3⟩
/-- the reader's own fields change -/
theorem rd_own {K : xK} {h : xH} {o x : Nat} {st op rs le mo st' op' rs' le' mo' : Nat} {ir ir' : Bool} {en : Nat → Nat} {os : List Nat} {sx : Nat} (p : rd_R K h o x (st, op, ir, rs, le, mo, en, os) sx) (b1 : st' ≤ 8) (b2 : op' ≤ 10) (b3 : rs' ≤ 81) (b4 : le' ≤ 9) (b5 : mo' ≤ 9) : rd_R K (xu h (o + 4) (.inr (4, [.ref (o + 5), .ref x, .int (nI st'), .int (nI op'), .int (xb ir'), .int (nI rs'), .int (nI le'), .int (nI mo')]))) o x (st', op', ir', rs', le', mo', en, os) sx ∧ rd_fr o x h (xu h (o + 4) (.inr (4, [.ref (o + 5), .ref x, .int (nI st'), .int (nI op'), .int (xb ir'), .int (nI rs'), .int (nI le'), .int (nI mo')]))) := by
  obtain ⟨p1, ⟨f, p2, p3⟩, p4, p5, -, -, -, -, -, p6⟩ := p
  have hf : ∀ q, q ≠ o + 4 → q ≠ o + 5 → (xu h (o + 4) (.inr (4, [.ref (o + 5), .ref x, .int (nI st'), .int (nI op'), .int (xb ir'), .int (nI rs'), .int (nI le'), .int (nI mo')]))) q = h q := fun q h1 _ => xu_ne h1
  exact ⟨⟨xu_self, ⟨f, by rw [xu_ne (by omega)]; exact p2, p3⟩, p4.own p5 hf, p5, b1, b2, b3, b4, b5, p6⟩, fun q a b c d => hf q a b⟩
/-- endedSteps changes at place j -/
theorem rd_end {K : xK} {h : xH} {o x : Nat} {st op rs le mo : Nat} {ir : Bool} {en : Nat → Nat} {os : List Nat} {sx : Nat} {f : Nat → Int32} {j w : Nat} (p : rd_R K h o x (st, op, ir, rs, le, mo, en, os) sx) (hf5 : h (o + 5) = some (.inl (K.2.2.1 0, 11, .inl f))) (hw : w ≤ 81) : rd_R K (xu h (o + 5) (.inl (K.2.2.1 0, 11, .inl (upd f j (nI w))))) o x (st, op, ir, rs, le, mo, va_up en j w, os) sx ∧ rd_fr o x h (xu h (o + 5) (.inl (K.2.2.1 0, 11, .inl (upd f j (nI w))))) := by
  obtain ⟨p1, ⟨f', p2, p3⟩, p4, p5, b1, b2, b3, b4, b5, p6⟩ := p
  have e : f' = f := by rw [hf5] at p2; cases p2; rfl
  subst e
  have hf : ∀ q, q ≠ o + 4 → q ≠ o + 5 → (xu h (o + 5) (.inl (K.2.2.1 0, 11, .inl (upd f' j (nI w))))) q = h q := fun q _ h1 => xu_ne h1
  refine ⟨⟨by rw [xu_ne (by omega)]; exact p1, ⟨_, xu_self, fun i hi => ?_⟩, p4.own p5 hf, p5, b1, b2, b3, b4, b5, fun i => ?_⟩, fun q a b c d => hf q a b⟩
  · show upd f' j (nI w) i = nI (va_up en j w i)
    unfold va_up
    by_cases c : i = j
    · subst c; rw [pk_us, if_pos rfl]
    · rw [pk_un c, if_neg c]; exact p3 i hi
  · show va_up en j w i ≤ 81
    unfold va_up
    split
    · exact hw
    · exact p6 i
/-- the expression changes -/
theorem rd_ex {K : xK} {h h' : xH} {o x : Nat} {st op rs le mo : Nat} {ir : Bool} {en : Nat → Nat} {os os' : List Nat} {sx sx' : Nat} (p : rd_R K h o x (st, op, ir, rs, le, mo, en, os) sx) (hf : ex_fr h h' x) (hx : ex_R K h' x os' sx') : rd_R K h' o x (st, op, ir, rs, le, mo, en, os') sx' ∧ rd_fr o x h h' := by
  obtain ⟨p1, ⟨f, p2, p3⟩, p4, p5, b⟩ := p
  refine ⟨⟨?_, ⟨f, ?_, p3⟩, hx, p5, b⟩, fun q _ _ c d => hf q c d⟩
  · unfold rd_ok at p5
    rw [hf _ (by omega) (by omega)]; exact p1
  · unfold rd_ok at p5
    rw [hf _ (by omega) (by omega)]; exact p2
set_option maxHeartbeats 4000000 in
set_option maxRecDepth 100000 in
theorem c_RD_startRepeat (K : xK) (n : Nat) (h : xH) (o x s : Nat) (q : rs_T) (sx : Nat) (hr : rd_R K h o x q sx) (hs : s ≤ 81) : XM K xy_RD_startRepeat xw_RD_startRepeat (xrm 0 0 0 0) [.ref (o + 4), .int (nI s)] n h (x_pv fun n' h' => n = n' ∧ rd_fr o x h h' ∧ rd_R K h' o x (rp_sr s q) sx) 0 0 := by
  obtain ⟨st, op, ir, rs, le, mo, en, os⟩ := q
  obtain ⟨p1, ⟨f, p2, p3⟩, p4, p5, b1, b2, b3, b4, b5, b6⟩ := id hr
  dsimp only at p1 p3 p4 b1 b2 b3 b4 b5 b6
  refine xm_v (by decide +kernel) (Nat.le_of_ble_eq_true rfl) (fun G hF hR => ?_)
  refine xv_aload_n (pc' := 1) (i := 0) hF xd_RD_startRepeat_0 rfl rfl rfl ?_
  refine xv_iconstN (pc' := 2) 1 hF xd_RD_startRepeat_1 (by decide +kernel) rfl ?_
  refine xv_topi (v' := xb true) (by decide +kernel) ?_
  refine xv_put (pc' := 5) (ci := 4) (ty := xt_RD 4) hF (by first | assumption | exact xu_self | (refine (xu_ne (by omega)).trans ?_; first | assumption | exact xu_self | (refine (xu_ne (by omega)).trans ?_; first | assumption | exact xu_self | (refine (xu_ne (by omega)).trans ?_; first | assumption | exact xu_self | (refine (xu_ne (by omega)).trans ?_; first | assumption | exact xu_self))))) rfl xu_RD xt_RD xo_RD xn_RD 4 (by decide) xk_RD_f29 rfl (by decide +kernel) (by first | rfl | exact xb_nw _ | decide +kernel) (by first | rfl | exact xb_ft _ | decide +kernel) (by exact Nat.le_of_ble_eq_true rfl) (by dsimp only [List.set] <;> rfl) xd_RD_startRepeat_2 rfl ?_
  refine xv_aload_n (pc' := 6) (i := 0) hF xd_RD_startRepeat_5 rfl rfl rfl ?_
  refine xv_iload_n (pc' := 7) (i := 1) hF xd_RD_startRepeat_6 rfl rfl rfl ?_
  refine xv_put (pc' := 10) (ci := 4) (ty := xt_RD 5) hF (by first | assumption | exact xu_self | (refine (xu_ne (by omega)).trans ?_; first | assumption | exact xu_self | (refine (xu_ne (by omega)).trans ?_; first | assumption | exact xu_self | (refine (xu_ne (by omega)).trans ?_; first | assumption | exact xu_self | (refine (xu_ne (by omega)).trans ?_; first | assumption | exact xu_self))))) rfl xu_RD xt_RD xo_RD xn_RD 5 (by decide) xk_RD_f33 rfl (by decide +kernel) (by first | rfl | exact xb_nw _ | decide +kernel) (by first | rfl | exact xb_ft _ | decide +kernel) (by exact Nat.le_of_ble_eq_true rfl) (by dsimp only [List.set] <;> rfl) xd_RD_startRepeat_7 rfl ?_
  rw [xu_xu]
  refine hR _ _ _ _ _ _ (by omega) (by omega) ?_ xd_RD_startRepeat_10
  obtain ⟨r1, r2⟩ := rd_own (ir' := true) (st' := st) (op' := op) (rs' := s) (le' := le) (mo' := mo) hr b1 b2 hs b4 b5
  exact ⟨rfl, r2, r1⟩
set_option maxHeartbeats 4000000 in
set_option maxRecDepth 100000 in
theorem c_RD_goOnTo (K : xK) (n : Nat) (h : xH) (o x s : Nat) (q : rs_T) (sx : Nat) (hr : rd_R K h o x q sx) (hs : s ≤ 8) : XM K xy_RD_goOnTo xw_RD_goOnTo (xrm 0 0 0 0) [.ref (o + 4), .int (nI s)] n h (x_pi fun r n' h' => r = xb true ∧ n = n' ∧ rd_fr o x h h' ∧ rd_R K h' o x (rp_go s q) sx) 0 0 := by
  obtain ⟨st, op, ir, rs, le, mo, en, os⟩ := q
  obtain ⟨p1, ⟨f, p2, p3⟩, p4, p5, b1, b2, b3, b4, b5, b6⟩ := id hr
  dsimp only at p1 p3 p4 b1 b2 b3 b4 b5 b6
  refine xm_z (by decide +kernel) (Nat.le_of_ble_eq_true rfl) (fun G hF hR => ?_)
  refine xv_aload_n (pc' := 1) (i := 0) hF xd_RD_goOnTo_0 rfl rfl rfl ?_
  refine xv_iload_n (pc' := 2) (i := 1) hF xd_RD_goOnTo_1 rfl rfl rfl ?_
  refine xv_put (pc' := 5) (ci := 4) (ty := xt_RD 2) hF (by first | assumption | exact xu_self | (refine (xu_ne (by omega)).trans ?_; first | assumption | exact xu_self | (refine (xu_ne (by omega)).trans ?_; first | assumption | exact xu_self | (refine (xu_ne (by omega)).trans ?_; first | assumption | exact xu_self | (refine (xu_ne (by omega)).trans ?_; first | assumption | exact xu_self))))) rfl xu_RD xt_RD xo_RD xn_RD 2 (by decide) xk_RD_f22 rfl (by decide +kernel) (by first | rfl | exact xb_nw _ | decide +kernel) (by first | rfl | exact xb_ft _ | decide +kernel) (by exact Nat.le_of_ble_eq_true rfl) (by dsimp only [List.set] <;> rfl) xd_RD_goOnTo_2 rfl ?_
  refine xv_iconstN (pc' := 6) 1 hF xd_RD_goOnTo_5 (by decide +kernel) rfl ?_
  refine hR _ _ _ _ _ _ _ (by omega) (by omega) ?_ (by first | rfl | exact xb_nw _ | decide +kernel) xd_RD_goOnTo_6
  obtain ⟨r1, r2⟩ := rd_own (ir' := ir) (st' := s) (op' := op) (rs' := rs) (le' := le) (mo' := mo) hr hs b2 b3 b4 b5
  exact ⟨by decide +kernel, rfl, r2, r1⟩
set_option maxHeartbeats 4000000 in
set_option maxRecDepth 100000 in
theorem c_RD_endRepeat (K : xK) (n : Nat) (h : xH) (o x : Nat) (q : rs_T) (sx : Nat) (hr : rd_R K h o x q sx) (hl : rp_ln q ≤ 203) : XM K xy_RD_endRepeat xw_RD_endRepeat (xrm 1 22 0 0) [.ref (o + 4)] n h (x_pv fun n' h' => n = n' ∧ rd_fr o x h h' ∧ rd_R K h' o x (rp_er q) sx) 0 0 := by
  obtain ⟨st, op, ir, rs, le, mo, en, os⟩ := q
  obtain ⟨p1, ⟨f, p2, p3⟩, p4, p5, b1, b2, b3, b4, b5, b6⟩ := id hr
  dsimp only at p1 p3 p4 b1 b2 b3 b4 b5 b6
  have hl' : os.length + (if ir then 1 else 0) ≤ 203 := hl
  refine xm_v (by decide +kernel) (Nat.le_of_ble_eq_true rfl) (fun G hF hR => ?_)
  refine xv_aload_n (pc' := 1) (i := 0) hF xd_RD_endRepeat_0 rfl rfl rfl ?_
  refine xv_get (pc' := 4) (ci := 4) hF (by first | assumption | exact xu_self | (refine (xu_ne (by omega)).trans ?_; first | assumption | exact xu_self | (refine (xu_ne (by omega)).trans ?_; first | assumption | exact xu_self | (refine (xu_ne (by omega)).trans ?_; first | assumption | exact xu_self | (refine (xu_ne (by omega)).trans ?_; first | assumption | exact xu_self))))) rfl xu_RD 4 (by decide) xk_RD_f29 (by rfl) xd_RD_endRepeat_1 rfl ?_
  refine xv_if_eqB (pc' := 7) (tgt := 50) hF xd_RD_endRepeat_4 (by decide) rfl (fun e => ?_) (fun e => ?_)
  · subst e
    refine hR _ _ _ _ _ _ (by omega) (by omega) ?_ xd_RD_endRepeat_50
    exact ⟨rfl, rd_fr.rf, hr⟩
  · subst e
    simp only [if_true] at hl'
    obtain ⟨z0, zf, ⟨z1, z2⟩, z3⟩ := id p4
    refine xv_aload_n (pc' := 8) (i := 0) hF xd_RD_endRepeat_7 rfl rfl rfl ?_
    refine xv_get (pc' := 11) (ci := 4) hF (by first | assumption | exact xu_self | (refine (xu_ne (by omega)).trans ?_; first | assumption | exact xu_self | (refine (xu_ne (by omega)).trans ?_; first | assumption | exact xu_self | (refine (xu_ne (by omega)).trans ?_; first | assumption | exact xu_self | (refine (xu_ne (by omega)).trans ?_; first | assumption | exact xu_self))))) rfl xu_RD 1 (by decide) xk_RD_f18 (by rfl) xd_RD_endRepeat_8 rfl ?_
    refine xv_bipushN (pc' := 13) 6 hF xd_RD_endRepeat_11 (by decide +kernel) rfl ?_
    refine xv_iconstN (pc' := 14) 0 hF xd_RD_endRepeat_13 (by decide +kernel) rfl ?_
    refine xv_callVv (pc' := 17) (ci := 3) hF (c_EX_append K n h x 6 0 os sx p4 (by decide) (by decide) (by omega)) xq_EX_append xk_RD_m91 xk_i_EX_append xk_s_EX_append (by first | assumption | exact xu_self | (refine (xu_ne (by omega)).trans ?_; first | assumption | exact xu_self | (refine (xu_ne (by omega)).trans ?_; first | assumption | exact xu_self | (refine (xu_ne (by omega)).trans ?_; first | assumption | exact xu_self | (refine (xu_ne (by omega)).trans ?_; first | assumption | exact xu_self))))) rfl ⟨(Nat.le_of_ble_eq_true rfl), (Nat.le_of_ble_eq_true rfl)⟩ rfl rfl (Nat.le_of_ble_eq_true rfl) ⟨(Nat.le_of_ble_eq_true rfl), (Nat.le_of_ble_eq_true rfl)⟩ xd_RD_endRepeat_14 rfl (fun n1 h1 q1 => ?_)
    obtain ⟨rfl, f1, r1⟩ := q1
    obtain ⟨hr1, hfr1⟩ := rd_ex hr f1 r1
    clear p1 p2 p3 z1 z2 z3
    obtain ⟨p1, ⟨f, p2, p3⟩, p4, -⟩ := id hr1
    dsimp only at p1 p3 p4
    refine xv_aload_n (pc' := 18) (i := 0) hF xd_RD_endRepeat_17 rfl rfl rfl ?_
    refine xv_get (pc' := 21) (ci := 4) hF (by first | assumption | exact xu_self | (refine (xu_ne (by omega)).trans ?_; first | assumption | exact xu_self | (refine (xu_ne (by omega)).trans ?_; first | assumption | exact xu_self | (refine (xu_ne (by omega)).trans ?_; first | assumption | exact xu_self | (refine (xu_ne (by omega)).trans ?_; first | assumption | exact xu_self))))) rfl xu_RD 0 (by decide) xk_RD_f9 (by rfl) xd_RD_endRepeat_18 rfl ?_
    refine xv_aload_n (pc' := 22) (i := 0) hF xd_RD_endRepeat_21 rfl rfl rfl ?_
    refine xv_get (pc' := 25) (ci := 4) hF (by first | assumption | exact xu_self | (refine (xu_ne (by omega)).trans ?_; first | assumption | exact xu_self | (refine (xu_ne (by omega)).trans ?_; first | assumption | exact xu_self | (refine (xu_ne (by omega)).trans ?_; first | assumption | exact xu_self | (refine (xu_ne (by omega)).trans ?_; first | assumption | exact xu_self))))) rfl xu_RD 3 (by decide) xk_RD_f26 (by rfl) xd_RD_endRepeat_22 rfl ?_
    refine xv_aload_n (pc' := 26) (i := 0) hF xd_RD_endRepeat_25 rfl rfl rfl ?_
    refine xv_get (pc' := 29) (ci := 4) hF (by first | assumption | exact xu_self | (refine (xu_ne (by omega)).trans ?_; first | assumption | exact xu_self | (refine (xu_ne (by omega)).trans ?_; first | assumption | exact xu_self | (refine (xu_ne (by omega)).trans ?_; first | assumption | exact xu_self | (refine (xu_ne (by omega)).trans ?_; first | assumption | exact xu_self))))) rfl xu_RD 0 (by decide) xk_RD_f9 (by rfl) xd_RD_endRepeat_26 rfl ?_
    refine xv_aload_n (pc' := 30) (i := 0) hF xd_RD_endRepeat_29 rfl rfl rfl ?_
    refine xv_get (pc' := 33) (ci := 4) hF (by first | assumption | exact xu_self | (refine (xu_ne (by omega)).trans ?_; first | assumption | exact xu_self | (refine (xu_ne (by omega)).trans ?_; first | assumption | exact xu_self | (refine (xu_ne (by omega)).trans ?_; first | assumption | exact xu_self | (refine (xu_ne (by omega)).trans ?_; first | assumption | exact xu_self))))) rfl xu_RD 3 (by decide) xk_RD_f26 (by rfl) xd_RD_endRepeat_30 rfl ?_
    first | refine xv_ialdN (pc' := 34) hF (by first | assumption | exact xu_self | (refine (xu_ne (by omega)).trans ?_; first | assumption | exact xu_self | (refine (xu_ne (by omega)).trans ?_; first | assumption | exact xu_self | (refine (xu_ne (by omega)).trans ?_; first | assumption | exact xu_self | (refine (xu_ne (by omega)).trans ?_; first | assumption | exact xu_self))))) (by omega) (by decide) xd_RD_endRepeat_33 rfl ?_ | refine xv_iald (pc' := 34) hF (by first | assumption | exact xu_self | (refine (xu_ne (by omega)).trans ?_; first | assumption | exact xu_self | (refine (xu_ne (by omega)).trans ?_; first | assumption | exact xu_self | (refine (xu_ne (by omega)).trans ?_; first | assumption | exact xu_self | (refine (xu_ne (by omega)).trans ?_; first | assumption | exact xu_self))))) (by omega) xd_RD_endRepeat_33 rfl ?_
    refine xv_topi (p3 op (by omega)) ?_
    have hop := b6 op
    refine xv_aload_n (pc' := 35) (i := 0) hF xd_RD_endRepeat_34 rfl rfl rfl ?_
    refine xv_get (pc' := 38) (ci := 4) hF (by first | assumption | exact xu_self | (refine (xu_ne (by omega)).trans ?_; first | assumption | exact xu_self | (refine (xu_ne (by omega)).trans ?_; first | assumption | exact xu_self | (refine (xu_ne (by omega)).trans ?_; first | assumption | exact xu_self | (refine (xu_ne (by omega)).trans ?_; first | assumption | exact xu_self))))) rfl xu_RD 5 (by decide) xk_RD_f33 (by rfl) xd_RD_endRepeat_35 rfl ?_
    first | refine xv_iaddN (pc' := 39) hF xd_RD_endRepeat_38 rfl ?_ | refine xv_iadd (pc' := 39) hF xd_RD_endRepeat_38 rfl ?_
    refine xv_bipushN (pc' := 41) 81 hF xd_RD_endRepeat_39 (by decide +kernel) rfl ?_
    refine xv_mmin (pc' := 44) hF xk_RD_m104 xk_t_JM_min xk_n_JM xk_c_JM_min (Nat.le_of_ble_eq_true rfl) (Nat.le_of_ble_eq_true rfl) (Nat.le_of_ble_eq_true rfl) (Nat.le_of_ble_eq_true rfl) xd_RD_endRepeat_41 rfl ?_
    refine xv_topi (nI_mn (by omega) (by omega)) ?_
    refine xv_iastN (pc' := 45) hF (by first | assumption | exact xu_self | (refine (xu_ne (by omega)).trans ?_; first | assumption | exact xu_self | (refine (xu_ne (by omega)).trans ?_; first | assumption | exact xu_self | (refine (xu_ne (by omega)).trans ?_; first | assumption | exact xu_self | (refine (xu_ne (by omega)).trans ?_; first | assumption | exact xu_self))))) (by omega) (by decide) xd_RD_endRepeat_44 rfl ?_
    obtain ⟨hr2, hfr2⟩ := rd_end (j := op) (w := min (en op + rs) 81) hr1 p2 (by omega)
    generalize xu h1 (o + 5) (.inl (K.2.2.1 0, 11, .inl (upd f op (nI (min (en op + rs) 81))))) = h2 at hr2 hfr2 ⊢
    clear p1 p2 p3
    obtain ⟨p1, ⟨f, p2, p3⟩, -⟩ := id hr2
    dsimp only at p1
    refine xv_aload_n (pc' := 46) (i := 0) hF xd_RD_endRepeat_45 rfl rfl rfl ?_
    refine xv_iconstN (pc' := 47) 0 hF xd_RD_endRepeat_46 (by decide +kernel) rfl ?_
    refine xv_topi (v' := xb false) (by decide +kernel) ?_
    refine xv_put (pc' := 50) (ci := 4) (ty := xt_RD 4) hF (by first | assumption | exact xu_self | (refine (xu_ne (by omega)).trans ?_; first | assumption | exact xu_self | (refine (xu_ne (by omega)).trans ?_; first | assumption | exact xu_self | (refine (xu_ne (by omega)).trans ?_; first | assumption | exact xu_self | (refine (xu_ne (by omega)).trans ?_; first | assumption | exact xu_self))))) rfl xu_RD xt_RD xo_RD xn_RD 4 (by decide) xk_RD_f29 rfl (by decide +kernel) (by first | rfl | exact xb_nw _ | decide +kernel) (by first | rfl | exact xb_ft _ | decide +kernel) (by exact Nat.le_of_ble_eq_true rfl) (by dsimp only [List.set] <;> rfl) xd_RD_endRepeat_47 rfl ?_
    refine hR _ _ _ _ _ _ (by omega) (by omega) ?_ xd_RD_endRepeat_50
    obtain ⟨r3, r4⟩ := rd_own (ir' := false) (st' := st) (op' := op) (rs' := rs) (le' := le) (mo' := mo) hr2 b1 b2 b3 b4 b5
    exact ⟨rfl, (hfr1.tr hfr2).tr r4, r3⟩
set_option maxHeartbeats 4000000 in
set_option maxRecDepth 100000 in
theorem c_RD_startAlternative (K : xK) (n : Nat) (h : xH) (o x : Nat) (q : rs_T) (sx : Nat) (hr : rd_R K h o x q sx) (hl : q.2.2.2.2.2.2.2.length + 2 ≤ 203) : XM K xy_RD_startAlternative xw_RD_startAlternative (xrm 1 22 0 0) [.ref (o + 4)] n h (x_pv fun n' h' => n = n' ∧ rd_fr o x h h' ∧ rd_R K h' o x (rp_sa q) sx) 0 0 := by
  obtain ⟨st, op, ir, rs, le, mo, en, os⟩ := q
  obtain ⟨p1, ⟨f, p2, p3⟩, p4, p5, b1, b2, b3, b4, b5, b6⟩ := id hr
  dsimp only at p1 p3 p4 b1 b2 b3 b4 b5 b6 hl
  refine xm_v (by decide +kernel) (Nat.le_of_ble_eq_true rfl) (fun G hF hR => ?_)
  refine xv_aload_n (pc' := 1) (i := 0) hF xd_RD_startAlternative_0 rfl rfl rfl ?_
  refine xv_get (pc' := 4) (ci := 4) hF (by first | assumption | exact xu_self | (refine (xu_ne (by omega)).trans ?_; first | assumption | exact xu_self | (refine (xu_ne (by omega)).trans ?_; first | assumption | exact xu_self | (refine (xu_ne (by omega)).trans ?_; first | assumption | exact xu_self | (refine (xu_ne (by omega)).trans ?_; first | assumption | exact xu_self))))) rfl xu_RD 0 (by decide) xk_RD_f9 (by rfl) xd_RD_startAlternative_1 rfl ?_
  refine xv_aload_n (pc' := 5) (i := 0) hF xd_RD_startAlternative_4 rfl rfl rfl ?_
  refine xv_get (pc' := 8) (ci := 4) hF (by first | assumption | exact xu_self | (refine (xu_ne (by omega)).trans ?_; first | assumption | exact xu_self | (refine (xu_ne (by omega)).trans ?_; first | assumption | exact xu_self | (refine (xu_ne (by omega)).trans ?_; first | assumption | exact xu_self | (refine (xu_ne (by omega)).trans ?_; first | assumption | exact xu_self))))) rfl xu_RD 3 (by decide) xk_RD_f26 (by rfl) xd_RD_startAlternative_5 rfl ?_
  refine xv_iconstN (pc' := 9) 0 hF xd_RD_startAlternative_8 (by decide +kernel) rfl ?_
  refine xv_iastN (pc' := 10) hF (by first | assumption | exact xu_self | (refine (xu_ne (by omega)).trans ?_; first | assumption | exact xu_self | (refine (xu_ne (by omega)).trans ?_; first | assumption | exact xu_self | (refine (xu_ne (by omega)).trans ?_; first | assumption | exact xu_self | (refine (xu_ne (by omega)).trans ?_; first | assumption | exact xu_self))))) (by omega) (by decide) xd_RD_startAlternative_9 rfl ?_
  obtain ⟨hr2, hfr2⟩ := rd_end (j := op) (w := 0) hr p2 (by omega)
  generalize xu h (o + 5) (.inl (K.2.2.1 0, 11, .inl (upd f op (nI 0)))) = h2 at hr2 hfr2 ⊢
  clear p1 p2 p3 p4
  obtain ⟨p1, ⟨f, p2, p3⟩, p4, -⟩ := id hr2
  dsimp only at p1 p4
  obtain ⟨z0, zf, ⟨z1, z2⟩, z3⟩ := id p4
  refine xv_aload_n (pc' := 11) (i := 0) hF xd_RD_startAlternative_10 rfl rfl rfl ?_
  refine xv_get (pc' := 14) (ci := 4) hF (by first | assumption | exact xu_self | (refine (xu_ne (by omega)).trans ?_; first | assumption | exact xu_self | (refine (xu_ne (by omega)).trans ?_; first | assumption | exact xu_self | (refine (xu_ne (by omega)).trans ?_; first | assumption | exact xu_self | (refine (xu_ne (by omega)).trans ?_; first | assumption | exact xu_self))))) rfl xu_RD 1 (by decide) xk_RD_f18 (by rfl) xd_RD_startAlternative_11 rfl ?_
  refine xv_iconstN (pc' := 15) 0 hF xd_RD_startAlternative_14 (by decide +kernel) rfl ?_
  refine xv_iconstN (pc' := 16) 0 hF xd_RD_startAlternative_15 (by decide +kernel) rfl ?_
  refine xv_callVv (pc' := 19) (ci := 3) hF (c_EX_append K n h2 x 0 0 os sx p4 (by decide) (by decide) (by omega)) xq_EX_append xk_RD_m91 xk_i_EX_append xk_s_EX_append (by first | assumption | exact xu_self | (refine (xu_ne (by omega)).trans ?_; first | assumption | exact xu_self | (refine (xu_ne (by omega)).trans ?_; first | assumption | exact xu_self | (refine (xu_ne (by omega)).trans ?_; first | assumption | exact xu_self | (refine (xu_ne (by omega)).trans ?_; first | assumption | exact xu_self))))) rfl ⟨(Nat.le_of_ble_eq_true rfl), (Nat.le_of_ble_eq_true rfl)⟩ rfl rfl (Nat.le_of_ble_eq_true rfl) ⟨(Nat.le_of_ble_eq_true rfl), (Nat.le_of_ble_eq_true rfl)⟩ xd_RD_startAlternative_16 rfl (fun n1 h1 q1 => ?_)
  obtain ⟨rfl, f1, r1⟩ := q1
  obtain ⟨hr1, hfr1⟩ := rd_ex hr2 f1 r1
  clear p1 p2 p3 p4 z1 z2 z3
  obtain ⟨p1, ⟨f, p2, p3⟩, p4, -⟩ := id hr1
  dsimp only at p1 p4
  obtain ⟨z0, zf, ⟨z1, z2⟩, z3⟩ := id p4
  refine xv_aload_n (pc' := 20) (i := 0) hF xd_RD_startAlternative_19 rfl rfl rfl ?_
  refine xv_get (pc' := 23) (ci := 4) hF (by first | assumption | exact xu_self | (refine (xu_ne (by omega)).trans ?_; first | assumption | exact xu_self | (refine (xu_ne (by omega)).trans ?_; first | assumption | exact xu_self | (refine (xu_ne (by omega)).trans ?_; first | assumption | exact xu_self | (refine (xu_ne (by omega)).trans ?_; first | assumption | exact xu_self))))) rfl xu_RD 1 (by decide) xk_RD_f18 (by rfl) xd_RD_startAlternative_20 rfl ?_
  refine xv_iconstN (pc' := 24) 1 hF xd_RD_startAlternative_23 (by decide +kernel) rfl ?_
  refine xv_iconstN (pc' := 25) 0 hF xd_RD_startAlternative_24 (by decide +kernel) rfl ?_
  refine xv_callVv (pc' := 28) (ci := 3) hF (c_EX_append K n h1 x 1 0 _ sx p4 (by decide) (by decide) (by simp; omega)) xq_EX_append xk_RD_m91 xk_i_EX_append xk_s_EX_append (by first | assumption | exact xu_self | (refine (xu_ne (by omega)).trans ?_; first | assumption | exact xu_self | (refine (xu_ne (by omega)).trans ?_; first | assumption | exact xu_self | (refine (xu_ne (by omega)).trans ?_; first | assumption | exact xu_self | (refine (xu_ne (by omega)).trans ?_; first | assumption | exact xu_self))))) rfl ⟨(Nat.le_of_ble_eq_true rfl), (Nat.le_of_ble_eq_true rfl)⟩ rfl rfl (Nat.le_of_ble_eq_true rfl) ⟨(Nat.le_of_ble_eq_true rfl), (Nat.le_of_ble_eq_true rfl)⟩ xd_RD_startAlternative_25 rfl (fun n1 h3 q1 => ?_)
  obtain ⟨rfl, f3, r3⟩ := q1
  obtain ⟨hr3, hfr3⟩ := rd_ex hr1 f3 r3
  refine hR _ _ _ _ _ _ (by omega) (by omega) ?_ xd_RD_startAlternative_28
  exact ⟨rfl, (hfr2.tr hfr1).tr hfr3, hr3⟩
theorem rp_er_ln (q : rs_T) : rp_ln (rp_er q) = rp_ln q := by
  obtain ⟨st, op, ir, rs, le, mo, en, os⟩ := q
  cases ir <;> simp [rp_er, rp_ln]
theorem rp_er_ir (q : rs_T) : (rp_er q).2.2.1 = false := by
  obtain ⟨st, op, ir, rs, le, mo, en, os⟩ := q
  cases ir <;> simp [rp_er]
theorem rp_er_os (q : rs_T) : (rp_er q).2.2.2.2.2.2.2.length = rp_ln q := by
  rw [← rp_er_ln q]
  unfold rp_ln
  rw [rp_er_ir]
  rfl
set_option maxHeartbeats 4000000 in
set_option maxRecDepth 100000 in
theorem c_RD_endRow (K : xK) (n : Nat) (h : xH) (o x : Nat) (q : rs_T) (sx : Nat) (hr : rd_R K h o x q sx) (hl : rp_ln q < 203) : XM K xy_RD_endRow xw_RD_endRow (xrm 2 42 0 0) [.ref (o + 4)] n h (x_pv fun n' h' => n = n' ∧ rd_fr o x h h' ∧ rd_R K h' o x (rp_ew q) sx) 0 0 := by
  obtain ⟨p1, -⟩ := id hr
  refine xm_v (by decide +kernel) (Nat.le_of_ble_eq_true rfl) (fun G hF hR => ?_)
  refine xv_aload_n (pc' := 1) (i := 0) hF xd_RD_endRow_0 rfl rfl rfl ?_
  refine xv_callVv (pc' := 4) (ci := 4) hF (c_RD_endRepeat K n h o x q sx hr (by omega)) xq_RD_endRepeat xk_RD_m110 xk_i_RD_endRepeat xk_s_RD_endRepeat (by first | assumption | exact xu_self | (refine (xu_ne (by omega)).trans ?_; first | assumption | exact xu_self | (refine (xu_ne (by omega)).trans ?_; first | assumption | exact xu_self | (refine (xu_ne (by omega)).trans ?_; first | assumption | exact xu_self | (refine (xu_ne (by omega)).trans ?_; first | assumption | exact xu_self))))) rfl ⟨(Nat.le_of_ble_eq_true rfl), (Nat.le_of_ble_eq_true rfl)⟩ rfl rfl (Nat.le_of_ble_eq_true rfl) ⟨(Nat.le_of_ble_eq_true rfl), (Nat.le_of_ble_eq_true rfl)⟩ xd_RD_endRow_1 rfl (fun n1 h1 q1 => ?_)
  obtain ⟨rfl, hfr1, hr1⟩ := q1
  have hlen := rp_er_os q
  unfold rp_ew at hR
  generalize rp_er q = q' at hr1 hlen hR
  obtain ⟨st, op, ir, rs, le, mo, en, os⟩ := q'
  clear p1
  obtain ⟨p1, ⟨f, p2, p3⟩, p4, -⟩ := id hr1
  dsimp only at p1 p4 hlen
  obtain ⟨z0, zf, ⟨z1, z2⟩, z3⟩ := id p4
  refine xv_aload_n (pc' := 5) (i := 0) hF xd_RD_endRow_4 rfl rfl rfl ?_
  refine xv_get (pc' := 8) (ci := 4) hF (by first | assumption | exact xu_self | (refine (xu_ne (by omega)).trans ?_; first | assumption | exact xu_self | (refine (xu_ne (by omega)).trans ?_; first | assumption | exact xu_self | (refine (xu_ne (by omega)).trans ?_; first | assumption | exact xu_self | (refine (xu_ne (by omega)).trans ?_; first | assumption | exact xu_self))))) rfl xu_RD 1 (by decide) xk_RD_f18 (by rfl) xd_RD_endRow_5 rfl ?_
  refine xv_bipushN (pc' := 10) 7 hF xd_RD_endRow_8 (by decide +kernel) rfl ?_
  refine xv_iconstN (pc' := 11) 0 hF xd_RD_endRow_10 (by decide +kernel) rfl ?_
  refine xv_callVv (pc' := 14) (ci := 3) hF (c_EX_append K n h1 x 7 0 os sx p4 (by decide) (by decide) (by omega)) xq_EX_append xk_RD_m91 xk_i_EX_append xk_s_EX_append (by first | assumption | exact xu_self | (refine (xu_ne (by omega)).trans ?_; first | assumption | exact xu_self | (refine (xu_ne (by omega)).trans ?_; first | assumption | exact xu_self | (refine (xu_ne (by omega)).trans ?_; first | assumption | exact xu_self | (refine (xu_ne (by omega)).trans ?_; first | assumption | exact xu_self))))) rfl ⟨(Nat.le_of_ble_eq_true rfl), (Nat.le_of_ble_eq_true rfl)⟩ rfl rfl (Nat.le_of_ble_eq_true rfl) ⟨(Nat.le_of_ble_eq_true rfl), (Nat.le_of_ble_eq_true rfl)⟩ xd_RD_endRow_11 rfl (fun n1 h3 q1 => ?_)
  obtain ⟨rfl, f3, r3⟩ := q1
  obtain ⟨hr3, hfr3⟩ := rd_ex hr1 f3 r3
  refine hR _ _ _ _ _ _ (by omega) (by omega) ?_ xd_RD_endRow_14
  exact ⟨rfl, hfr1.tr hfr3, hr3⟩
set_option maxHeartbeats 4000000 in
set_option maxRecDepth 100000 in
theorem c_RD_addStep (K : xK) (n : Nat) (h : xH) (o x k m : Nat) (q : rs_T) (sx : Nat) (hr : rd_R K h o x q sx) (hl : rp_ln q < 203) (hk : k < 16) (hm : m < 100000) : XM K xy_RD_addStep xw_RD_addStep (xrm 2 42 0 0) [.ref (o + 4), .int (nI k), .int (nI m)] n h (x_pv fun n' h' => n = n' ∧ rd_fr o x h h' ∧ rd_R K h' o x (rp_as k m q) sx) 0 0 := by
  obtain ⟨p1, -⟩ := id hr
  refine xm_v (by decide +kernel) (Nat.le_of_ble_eq_true rfl) (fun G hF hR => ?_)
  refine xv_aload_n (pc' := 1) (i := 0) hF xd_RD_addStep_0 rfl rfl rfl ?_
  refine xv_callVv (pc' := 4) (ci := 4) hF (c_RD_endRepeat K n h o x q sx hr (by omega)) xq_RD_endRepeat xk_RD_m110 xk_i_RD_endRepeat xk_s_RD_endRepeat (by first | assumption | exact xu_self | (refine (xu_ne (by omega)).trans ?_; first | assumption | exact xu_self | (refine (xu_ne (by omega)).trans ?_; first | assumption | exact xu_self | (refine (xu_ne (by omega)).trans ?_; first | assumption | exact xu_self | (refine (xu_ne (by omega)).trans ?_; first | assumption | exact xu_self))))) rfl ⟨(Nat.le_of_ble_eq_true rfl), (Nat.le_of_ble_eq_true rfl)⟩ rfl rfl (Nat.le_of_ble_eq_true rfl) ⟨(Nat.le_of_ble_eq_true rfl), (Nat.le_of_ble_eq_true rfl)⟩ xd_RD_addStep_1 rfl (fun n1 h1 q1 => ?_)
  obtain ⟨rfl, hfr1, hr1⟩ := q1
  have hlen := rp_er_os q
  unfold rp_as at hR
  generalize rp_er q = q' at hr1 hlen hR
  obtain ⟨st, op, ir, rs, le, mo, en, os⟩ := q'
  clear p1
  obtain ⟨p1, ⟨f, p2, p3⟩, p4, -⟩ := id hr1
  dsimp only at p1 p4 hlen
  obtain ⟨z0, zf, ⟨z1, z2⟩, z3⟩ := id p4
  refine xv_aload_n (pc' := 5) (i := 0) hF xd_RD_addStep_4 rfl rfl rfl ?_
  refine xv_get (pc' := 8) (ci := 4) hF (by first | assumption | exact xu_self | (refine (xu_ne (by omega)).trans ?_; first | assumption | exact xu_self | (refine (xu_ne (by omega)).trans ?_; first | assumption | exact xu_self | (refine (xu_ne (by omega)).trans ?_; first | assumption | exact xu_self | (refine (xu_ne (by omega)).trans ?_; first | assumption | exact xu_self))))) rfl xu_RD 1 (by decide) xk_RD_f18 (by rfl) xd_RD_addStep_5 rfl ?_
  refine xv_iload_n (pc' := 9) (i := 1) hF xd_RD_addStep_8 rfl rfl rfl ?_
  refine xv_iload_n (pc' := 10) (i := 2) hF xd_RD_addStep_9 rfl rfl rfl ?_
  refine xv_callVv (pc' := 13) (ci := 3) hF (c_EX_append K n h1 x k m os sx p4 hk hm (by omega)) xq_EX_append xk_RD_m91 xk_i_EX_append xk_s_EX_append (by first | assumption | exact xu_self | (refine (xu_ne (by omega)).trans ?_; first | assumption | exact xu_self | (refine (xu_ne (by omega)).trans ?_; first | assumption | exact xu_self | (refine (xu_ne (by omega)).trans ?_; first | assumption | exact xu_self | (refine (xu_ne (by omega)).trans ?_; first | assumption | exact xu_self))))) rfl ⟨(Nat.le_of_ble_eq_true rfl), (Nat.le_of_ble_eq_true rfl)⟩ rfl rfl (Nat.le_of_ble_eq_true rfl) ⟨(Nat.le_of_ble_eq_true rfl), (Nat.le_of_ble_eq_true rfl)⟩ xd_RD_addStep_10 rfl (fun n1 h3 q1 => ?_)
  obtain ⟨rfl, f3, r3⟩ := q1
  obtain ⟨hr3, hfr3⟩ := rd_ex hr1 f3 r3
  clear p1
  obtain ⟨p1, -⟩ := id hr3
  refine xv_aload_n (pc' := 14) (i := 0) hF xd_RD_addStep_13 rfl rfl rfl ?_
  refine xv_iconstN (pc' := 15) 1 hF xd_RD_addStep_14 (by decide +kernel) rfl ?_
  refine xv_callVv (pc' := 18) (ci := 4) hF (c_RD_startRepeat K n h3 o x 1 _ sx hr3 (by decide)) xq_RD_startRepeat xk_RD_m113 xk_i_RD_startRepeat xk_s_RD_startRepeat (by first | assumption | exact xu_self | (refine (xu_ne (by omega)).trans ?_; first | assumption | exact xu_self | (refine (xu_ne (by omega)).trans ?_; first | assumption | exact xu_self | (refine (xu_ne (by omega)).trans ?_; first | assumption | exact xu_self | (refine (xu_ne (by omega)).trans ?_; first | assumption | exact xu_self))))) rfl ⟨(Nat.le_of_ble_eq_true rfl), (Nat.le_of_ble_eq_true rfl)⟩ rfl rfl (Nat.le_of_ble_eq_true rfl) ⟨(Nat.le_of_ble_eq_true rfl), (Nat.le_of_ble_eq_true rfl)⟩ xd_RD_addStep_15 rfl (fun n1 h4 q1 => ?_)
  obtain ⟨rfl, f4, r4⟩ := q1
  refine hR _ _ _ _ _ _ (by omega) (by omega) ?_ xd_RD_addStep_18
  exact ⟨rfl, (hfr1.tr hfr3).tr f4, r4⟩
