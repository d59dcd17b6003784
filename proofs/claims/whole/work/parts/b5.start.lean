/-! the law's start: what the tables say of it -/
theorem xs_T {a : Array Value} {s : State} (h : ∀ w ∈ lw_tbl, w.before a s = true) : ∀ w ∈ x_T, w.before a s = true := fun w hw => h w (List.mem_filter.mp hw).1
theorem xs_ar {a : Array Value} {s : State} {ty : FieldType} (h : (Cond.arrayClass ty).before a s = true) : ∃ cA, ArrOfT s cA ty ∧ s.vm.findClass ("[" ++ ty.toString) = some cA := by
  obtain ⟨c, k, comp, h1, h2, h3⟩ := Cond.arrayClass_spec h
  exact ⟨c, fun n z => ⟨fun k h => (by cases h), k, h2, comp, h3⟩, h1⟩
theorem xs_ao {a : Array Value} {s : State} {C : String} (h : (Cond.arrayOver (.object C)).before a s = true) : ∃ cA, ArrOfT s cA (.object C) ∧ va_RA s cA (.object C) := by
  obtain ⟨comp, c, k, h1, h2, h3, h4, h5⟩ := Cond.arrayOver_spec h
  exact ⟨c, fun n z => ⟨fun k h => (by cases h), k, h3, comp, h4⟩, k, comp, h3, h4, h1, h5⟩
theorem xs_K {a : Array Value} {s : State} (h : ∀ w ∈ lw_tbl, w.before a s = true) (hr : (Cond.arrayOver (.object xr_RE)).before a s = true) (he : (Cond.arrayOver (.object xr_EX)).before a s = true) : ∃ (D : va_G) (cx : Nat → ClassId), va_K D x_cl (x_tys cx) s := by
  have hts := xs_T h
  obtain ⟨c0, i0, k0⟩ := u_known (ws := x_T) hts xu_PD (hts _ xk_a_PD)
  obtain ⟨c1, i1, k1⟩ := u_known (ws := x_T) hts xu_GR (hts _ xk_a_GR)
  obtain ⟨c2, i2, k2⟩ := u_known (ws := x_T) hts xu_RE (hts _ xk_a_RE)
  obtain ⟨c3, i3, k3⟩ := u_known (ws := x_T) hts xu_EX (hts _ xk_a_EX)
  obtain ⟨c4, i4, k4⟩ := u_known (ws := x_T) hts xu_RD (hts _ xk_a_RD)
  obtain ⟨c5, i5, k5⟩ := u_known (ws := x_T) hts xu_BE (hts _ xk_a_BE)
  obtain ⟨c6, i6, k6⟩ := u_known (ws := x_T) hts xu_MO (hts _ xk_a_MO)
  obtain ⟨a0, p0, q0⟩ := xs_ar (hts _ xk_ac_int)
  obtain ⟨a1, p1, q1⟩ := xs_ar (hts _ xk_ac_boolean)
  obtain ⟨a2, p2, q2⟩ := xs_ar (hts _ xk_ac_long)
  obtain ⟨a3, p3, q3⟩ := xs_ao he
  obtain ⟨a4, p4, q4⟩ := xs_ao hr
  refine ⟨(fun c => match c with | 0 => c0 | 1 => c1 | 2 => c2 | 3 => c3 | 4 => c4 | 5 => c5 | _ => c6, fun c => match c with | 0 => i0 | 1 => i1 | 2 => i2 | 3 => i3 | 4 => i4 | 5 => i5 | _ => i6), fun t => match t with | 0 => a0 | 1 => a1 | 2 => a2 | 3 => a3 | _ => a4, fun c q hq => ?_, fun k q hq => ?_⟩
  · have hlt : c < 7 := (List.getElem?_eq_some_iff.mp hq).1
    have hc : c = 0 ∨ c = 1 ∨ c = 2 ∨ c = 3 ∨ c = 4 ∨ c = 5 ∨ c = 6 := by omega
    rcases hc with rfl | rfl | rfl | rfl | rfl | rfl | rfl
    · cases hq; exact k0
    · cases hq; exact k1
    · cases hq; exact k2
    · cases hq; exact k3
    · cases hq; exact k4
    · cases hq; exact k5
    · cases hq; exact k6
  · have hlt : k < 5 := (List.getElem?_eq_some_iff.mp hq).1
    have hc : k = 0 ∨ k = 1 ∨ k = 2 ∨ k = 3 ∨ k = 4 := by omega
    rcases hc with rfl | rfl | rfl | rfl | rfl
    · cases hq; exact ⟨p0, q0⟩
    · cases hq; exact ⟨p1, q1⟩
    · cases hq; exact ⟨p2, q2⟩
    · cases hq; exact ⟨p3, q3⟩
    · cases hq; exact ⟨p4, q4⟩
theorem xs_nest : x_nest.all (fun w => decide (w ∈ lw_tbl) && w.onTables) = true := by decide +kernel
theorem xs_N {a : Array Value} {s : State} (h : ∀ w ∈ lw_tbl, w.before a s = true) (hr : (Cond.arrayOver (.object xr_RE)).before a s = true) (he : (Cond.arrayOver (.object xr_EX)).before a s = true) : x_N s := by
  refine ⟨fun w hw => ?_, va_AO.of hr, va_AO.of he⟩
  have := List.all_eq_true.mp xs_nest w hw
  rw [Bool.and_eq_true, decide_eq_true_eq] at this
  exact va_Nw.of this.2 (h w this.1)
theorem xs_Bo : xz_B.all (fun w => decide (w ∈ lw_tbl) && w.onTables) = true := by decide +kernel
def xs_ex : List Cond := [.exactly (.string xr_PD 184) "java/lang/String", .exactly (.string xr_PD 186) "java/lang/String", .exactly (.string xr_PD 82) "java/lang/String", .exactly (.string xr_PD 91) "java/lang/String", .exactly (.string xr_PD 181) "java/lang/String", .exactly (.string xr_PD 125) "java/lang/String"]
theorem xs_st {a : Array Value} {s : State} {k : Nat} {tx : String} (h1 : (Cond.stringRef xr_PD k tx).before a s = true) (h2 : (Cond.exactly (.string xr_PD k) "java/lang/String").before a s = true) : ∃ q, vk_R xr_PD k tx q s := by
  obtain ⟨q, c, cA, kA, q1, -⟩ := Cond.exactly_spec (args := a) (first := s) (o := none) (s := s) (idx := []) h2
  exact ⟨q, vk_R.of h1 q1⟩
theorem xs_J {l : Launch} {D : va_G} {cx : Nat → ClassId} {a : Array Value} {s : State} (h : ∀ w ∈ lw_tbl, w.before a s = true) (hg : (Jvm.Cond.and given_1 narrow_1).before a s = true) : x_J (l, D, cx, s.heap.size) s := by
  have hs := flat_of_before _ hg
  have hA : ∀ q : Nat, q < s.heap.size → ¬ s.heap.size ≤ q := fun q h1 h2 => by omega
  refine ⟨fun w hw => ?_, fun q hq => ?_, va_Nc.of (hs (.not (.castable xr_JG xr_JX)) (by decide +kernel)), ?_, ?_⟩
  · have := List.all_eq_true.mp xs_Bo w hw
    rw [Bool.and_eq_true, decide_eq_true_eq] at this
    exact va_Nw.of this.2 (h w this.1)
  · have hc : q = (184, "no such node") ∨ q = (186, "no such label") ∨ q = (82, "no such tag") ∨ q = (91, "n is not 1 .. 8") ∨ q = (181, "no such slot") ∨ q = (125, "how is not 0 .. 4") := by
      simpa [xz_S] using hq
    rcases hc with rfl | rfl | rfl | rfl | rfl | rfl
    · exact xs_st (h (.stringRef xr_PD 184 "no such node") (by decide +kernel)) (hs (.exactly (.string xr_PD 184) "java/lang/String") (by decide +kernel))
    · exact xs_st (h (.stringRef xr_PD 186 "no such label") (by decide +kernel)) (hs (.exactly (.string xr_PD 186) "java/lang/String") (by decide +kernel))
    · exact xs_st (h (.stringRef xr_PD 82 "no such tag") (by decide +kernel)) (hs (.exactly (.string xr_PD 82) "java/lang/String") (by decide +kernel))
    · exact xs_st (h (.stringRef xr_PD 91 "n is not 1 .. 8") (by decide +kernel)) (hs (.exactly (.string xr_PD 91) "java/lang/String") (by decide +kernel))
    · exact xs_st (h (.stringRef xr_PD 181 "no such slot") (by decide +kernel)) (hs (.exactly (.string xr_PD 181) "java/lang/String") (by decide +kernel))
    · exact xs_st (h (.stringRef xr_PD 125 "how is not 0 .. 4") (by decide +kernel)) (hs (.exactly (.string xr_PD 125) "java/lang/String") (by decide +kernel))
  · exact vx_Zqof (h (.laysStatic Bundle.tN "UNASSIGNED_STACK" Bundle.steD) (by decide +kernel)) (h (.initialized Bundle.tN) (by decide +kernel)) (hs (.isRef (.static Bundle.tN "UNASSIGNED_STACK" Bundle.steD)) (by decide +kernel)) hA
  · exact vx_Zqof (h (.laysStatic Bundle.tN "SUPPRESSED_SENTINEL" Bundle.listD) (by decide +kernel)) (h (.initialized Bundle.tN) (by decide +kernel)) (hs (.isRef (.static Bundle.tN "SUPPRESSED_SENTINEL" Bundle.listD)) (by decide +kernel)) hA
theorem xs_oR {a : Array Value} {s : State} (h : ∀ w ∈ lw_tbl, w.before a s = true) : (Cond.arrayOver (.object xr_RE)).before a s = true := h _ (by decide +kernel)
theorem xs_oE {a : Array Value} {s : State} (h : ∀ w ∈ lw_tbl, w.before a s = true) : (Cond.arrayOver (.object xr_EX)).before a s = true := h _ (by decide +kernel)
theorem dk_0.R {K : xK} {h : xH} {o n : Nat} (p : dk_0 K h o 4) (hn : o + 51 ≤ n) : dk_R K h n o (fun _ _ _ => false) (fun _ _ => false) 0 (fun _ => 0) 0 (fun _ => [1]) (fun _ => 0) (fun _ => false) 0 := by
  obtain ⟨p1, p2, p3, p4, p5, p6, ⟨g1, p7, p8⟩, ⟨g2, p9, p10⟩, p11, p12, p13⟩ := p
  refine ⟨p1, p2, ⟨_, _, _, p3, Or.inl rfl⟩, ⟨0, fun _ => 0, o + 10, fun _ => md_no, p4, by omega, hn, fun i hi => absurd hi (Nat.not_lt_zero _), ⟨Or.inl rfl, by omega⟩, ⟨_, p5⟩, fun i j hi => absurd hi (Nat.not_lt_zero _), fun i hi => absurd hi (Nat.not_lt_zero _)⟩, ⟨_, p6, fun i hi => absurd hi (Nat.not_lt_zero _)⟩, by omega, ⟨g1, p7, p8⟩, ⟨g2, p9, p10⟩, ⟨_, p11, fun j _ => (show (0 : Int32) = xb false by decide +kernel)⟩, fun j hj => ⟨p12 j hj, bx_gd_1⟩, fun j hj => ⟨md_no, p13 j hj, fun c => by cases c⟩⟩
