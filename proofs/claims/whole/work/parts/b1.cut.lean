/-! the law: cut -/
set_option maxHeartbeats 4000000 in
set_option maxRecDepth 100000 in
theorem lc_cut {G : xG} {K : xK} {o b i t N n k kS mk : Nat} {h : xH} {xs : Nat → Int32} {v1 v2 v3 : Int32} (hF : XF G K xc_LW_law xr_LW (xrm 11 398 262836 8307598) 7) (hJ : XJ G K) (hX : XS G b N xs) (hN : N ≤ 2048) (hi : i + 4 ≤ N) (ht : t < 512) (hv1 : xs (i + 1) = v1) (hv2 : xs (i + 2) = v2) (hv3 : xs (i + 3) = v3) (hI : LI K o n h mk) (hk : k ≤ 51 + 3 * mk + t) (hkS : kS ≤ 58759 + 1058 * mk + 6 * t) (nx : LN G K o b i t) : XV G k kS 187 [(4, .int (nI i)), (0, .ref b), (1, .ref o), (2, .ref (o + 37)), (3, .ref (o + 50))] [] n h := by
  obtain ⟨E, Tg, cs, w, OS, SX, kn, th, TX, SZ, f, d, r, sl, he, hmk, hq⟩ := hI
  have ha := d.1
  refine xv_aload_n (pc' := 188) (i := 1) hF xd_LW_law_187 rfl rfl rfl ?_
  refine xv_aload_n (pc' := 189) (i := 0) hF xd_LW_law_188 rfl rfl rfl ?_
  refine xv_iload (pc' := 191) hF xd_LW_law_189 rfl rfl ?_
  refine xv_iconstN (pc' := 192) 1 hF xd_LW_law_191 (by decide +kernel) rfl ?_
  first | refine xv_iaddN (pc' := 193) hF xd_LW_law_192 rfl ?_ | refine xv_iadd (pc' := 193) hF xd_LW_law_192 rfl ?_
  refine xl_ld (pc' := 194) hF hX (by first | exact hv1 | exact hv2 | exact hv3 | exact hv0) (by omega) (by omega) xd_LW_law_193 rfl ?_
  refine xv_aload_n (pc' := 195) (i := 0) hF xd_LW_law_194 rfl rfl rfl ?_
  refine xv_iload (pc' := 197) hF xd_LW_law_195 rfl rfl ?_
  refine xv_iconstN (pc' := 198) 2 hF xd_LW_law_197 (by decide +kernel) rfl ?_
  first | refine xv_iaddN (pc' := 199) hF xd_LW_law_198 rfl ?_ | refine xv_iadd (pc' := 199) hF xd_LW_law_198 rfl ?_
  refine xl_ld (pc' := 200) hF hX (by first | exact hv1 | exact hv2 | exact hv3 | exact hv0) (by omega) (by omega) xd_LW_law_199 rfl ?_
  refine xv_aload_n (pc' := 201) (i := 0) hF xd_LW_law_200 rfl rfl rfl ?_
  refine xv_iload (pc' := 203) hF xd_LW_law_201 rfl rfl ?_
  refine xv_iconstN (pc' := 204) 3 hF xd_LW_law_203 (by decide +kernel) rfl ?_
  first | refine xv_iaddN (pc' := 205) hF xd_LW_law_204 rfl ?_ | refine xv_iadd (pc' := 205) hF xd_LW_law_204 rfl ?_
  refine xl_ld (pc' := 206) hF hX (by first | exact hv1 | exact hv2 | exact hv3 | exact hv0) (by omega) (by omega) xd_LW_law_205 rfl ?_
  refine xv_aload_n (pc' := 207) (i := 3) hF xd_LW_law_206 rfl rfl rfl ?_
  cases hx : ((x_in v1 32 && x_in v2 8) && x_in v3 32) with
  | false =>
    refine xl_callSi (pc' := 210) (nn := 5) hF hJ (c_LW_cutT K n h o (o + 50) v1 v2 v3 _ ha (c_PD_cutT K n h o v1 v2 v3 hx)) xk_c_LW_cut xk_n_LW ⟨(by decide +kernel), (by decide +kernel)⟩ (by decide +kernel) xk_LW_m66 xk_t_LW_cut ⟨(Nat.le_of_ble_eq_true rfl), (Nat.le_of_ble_eq_true rfl)⟩ rfl rfl (Nat.le_of_ble_eq_true rfl) ⟨(by show k + 1 ≤ 262836; omega), (by show kS + 6 ≤ 8307598; omega)⟩ xd_LW_law_207 rfl (fun r1 n1 h1 q1 => ?_)
    obtain ⟨rfl, hn1, rfl⟩ := q1
    have d := d.out (fun _ _ => rfl) hn1
    obtain ⟨⟨_, _, _, _, _, _, _, _, _, ho'⟩, -⟩ := id r
    have ho := ho'.1
    refine xv_istore (pc' := 212) hF xd_LW_law_210 (Nat.le_of_ble_eq_true rfl) rfl rfl ?_
    refine xv_aload_n (pc' := 213) (i := 2) hF xd_LW_law_212 rfl rfl rfl ?_
    refine xv_aload_n (pc' := 214) (i := 0) hF xd_LW_law_213 rfl rfl rfl ?_
    refine xv_iload (pc' := 216) hF xd_LW_law_214 rfl rfl ?_
    refine xv_iconstN (pc' := 217) 1 hF xd_LW_law_216 (by decide +kernel) rfl ?_
    first | refine xv_iaddN (pc' := 218) hF xd_LW_law_217 rfl ?_ | refine xv_iadd (pc' := 218) hF xd_LW_law_217 rfl ?_
    refine xl_ld (pc' := 219) hF hX (by first | exact hv1 | exact hv2 | exact hv3 | exact hv0) (by omega) (by omega) xd_LW_law_218 rfl ?_
    refine xv_aload_n (pc' := 220) (i := 0) hF xd_LW_law_219 rfl rfl rfl ?_
    refine xv_iload (pc' := 222) hF xd_LW_law_220 rfl rfl ?_
    refine xv_iconstN (pc' := 223) 2 hF xd_LW_law_222 (by decide +kernel) rfl ?_
    first | refine xv_iaddN (pc' := 224) hF xd_LW_law_223 rfl ?_ | refine xv_iadd (pc' := 224) hF xd_LW_law_223 rfl ?_
    refine xl_ld (pc' := 225) hF hX (by first | exact hv1 | exact hv2 | exact hv3 | exact hv0) (by omega) (by omega) xd_LW_law_224 rfl ?_
    refine xv_aload_n (pc' := 226) (i := 0) hF xd_LW_law_225 rfl rfl rfl ?_
    refine xv_iload (pc' := 228) hF xd_LW_law_226 rfl rfl ?_
    refine xv_iconstN (pc' := 229) 3 hF xd_LW_law_228 (by decide +kernel) rfl ?_
    first | refine xv_iaddN (pc' := 230) hF xd_LW_law_229 rfl ?_ | refine xv_iadd (pc' := 230) hF xd_LW_law_229 rfl ?_
    refine xl_ld (pc' := 231) hF hX (by first | exact hv1 | exact hv2 | exact hv3 | exact hv0) (by omega) (by omega) xd_LW_law_230 rfl ?_
    refine xv_callVi (pc' := 234) (ci := 6) hF (c_MO_cutO K n1 h (o + 37) th (ec E) w E Tg cs TX SZ SX v1 v2 v3 r (by rw [← Bool.and_assoc]; exact hx)) xq_MO_cut xk_LW_m68 xk_i_MO_cut xk_s_MO_cut (by first | assumption | exact xu_self | (refine (xu_ne (by omega)).trans ?_; first | assumption | exact xu_self | (refine (xu_ne (by omega)).trans ?_; first | assumption | exact xu_self | (refine (xu_ne (by omega)).trans ?_; first | assumption | exact xu_self | (refine (xu_ne (by omega)).trans ?_; first | assumption | exact xu_self))))) rfl ⟨(Nat.le_of_ble_eq_true rfl), (Nat.le_of_ble_eq_true rfl)⟩ rfl rfl (Nat.le_of_ble_eq_true rfl) ⟨(by simp only [xrm]; omega), (by simp only [xrm]; omega)⟩ xd_LW_law_231 rfl (fun r2 n2 h2 q2 => ?_)
    obtain ⟨rfl, f2, -, w2⟩ := q2
    obtain ⟨⟨_, _, _, _, _, _, _, _, _, ho9'⟩, -⟩ := id w2
    have ho9 := ho9'.1
    refine xv_istore (pc' := 236) hF xd_LW_law_234 (Nat.le_of_ble_eq_true rfl) rfl rfl ?_
    refine xv_aload_n (pc' := 237) (i := 2) hF xd_LW_law_236 rfl rfl rfl ?_
    refine xv_callVi (pc' := 240) (ci := 6) hF (c_MO_thrown K n1 h2 (o + 37) 1 _ _ _ _ _ _ _ ho9) xq_MO_thrown xk_LW_m62 xk_i_MO_thrown xk_s_MO_thrown (by first | assumption | exact xu_self | (refine (xu_ne (by omega)).trans ?_; first | assumption | exact xu_self | (refine (xu_ne (by omega)).trans ?_; first | assumption | exact xu_self | (refine (xu_ne (by omega)).trans ?_; first | assumption | exact xu_self | (refine (xu_ne (by omega)).trans ?_; first | assumption | exact xu_self))))) rfl ⟨(Nat.le_of_ble_eq_true rfl), (Nat.le_of_ble_eq_true rfl)⟩ rfl rfl (Nat.le_of_ble_eq_true rfl) ⟨(by simp only [xrm]; omega), (by simp only [xrm]; omega)⟩ xd_LW_law_237 rfl (fun r9 n9 h9 q9 => ?_)
    obtain ⟨rfl, rfl, rfl⟩ := q9
    refine xv_iload (pc' := 242) hF xd_LW_law_240 rfl rfl ?_
    refine xv_icmp_eqN (pc' := 245) (tgt := 247) hF (by omega) (by omega) xd_LW_law_242 (by decide) rfl (fun e8 => ?_) (fun e8 => ?_)
    · skip
      refine xv_iload (pc' := 249) hF xd_LW_law_247 rfl rfl ?_
      refine xv_if_neN (pc' := 252) (tgt := 271) hF (by omega) xd_LW_law_249 (by decide) rfl (fun e7 => ?_) (fun e7 => ?_)
      · refine xv_goto (tgt := 955) hF xd_LW_law_271 (by decide) ?_
        refine xv_loc _ (by repeat (first | exact trivial | refine ⟨rfl, ?_⟩)) (nx _ _ _ _ mk ⟨E, Tg, cs, w, OS, SX, kn, _, TX, SZ, f, f2.dk d (Nat.le_refl _), w2, sl, he, hmk, (f2 _ (by omega)).trans hq⟩ (by omega) (by omega))
      · exact absurd e7 (by decide)
    · exact absurd rfl e8
  | true =>
    rw [Bool.and_eq_true, Bool.and_eq_true] at hx
    obtain ⟨a, hA, rfl⟩ := x_in_of (by decide) hx.1.1
    obtain ⟨l, hL, rfl⟩ := x_in_of (by decide) hx.1.2
    obtain ⟨c, hC, rfl⟩ := x_in_of (by decide) hx.2
    refine xl_callSi (pc' := 210) (nn := 5) hF hJ (c_LW_cut K n h o (o + 50) 2 44 0 0 (nI a) (nI l) (nI c) _ ha (c_PD_cut K n h o (ec E) w mk a l c E Tg cs OS SX kn d hA hL hC (fun hE => by have := ec_sub hL hA hC hE; omega)) (fun v n' h' q => by obtain ⟨-, z4, zz⟩ := q; rcases zz with zz | zz <;> first | exact ⟨false, f, zz.2.1, (z4 _ (by omega) (by omega)).trans hq⟩ | exact ⟨true, f, zz.2.1, (z4 _ (by omega) (by omega)).trans hq⟩ | exact ⟨true, f, zz.2.2.1, (z4 _ (by omega) (by omega)).trans hq⟩)) xk_c_LW_cut xk_n_LW ⟨(by decide +kernel), (by decide +kernel)⟩ (by decide +kernel) xk_LW_m66 xk_t_LW_cut ⟨(Nat.le_of_ble_eq_true rfl), (Nat.le_of_ble_eq_true rfl)⟩ rfl rfl (Nat.le_of_ble_eq_true rfl) ⟨(by show k + 0 ≤ 262836; omega), (by show kS + 0 ≤ 8307598; omega)⟩ xd_LW_law_207 rfl (fun r1 n1 h1 q1 => ?_)
    obtain ⟨rfl, bb, h1', f1, ⟨rfl, z4, zz⟩, rfl, hf1⟩ := q1
    rcases zz with ⟨c1, eb, rfl⟩ | ⟨c1, eb, z5⟩
    · have eb := xb_in eb
      subst eb
      have hq2 : (xu h (o + 50) (.inl (K.2.2.1 2, 1, .inr (.inl f1)))) (o + 50) = some (.inl (K.2.2.1 2, 1, .inr (.inl f1))) := xu_self
      have r2 := xu_mo (c := (.inl (K.2.2.1 2, 1, .inr (.inl f1)))) (z4.mo r)
      have d2 := xu_dk (c := (.inl (K.2.2.1 2, 1, .inr (.inl f1)))) d
      generalize xu h (o + 50) (.inl (K.2.2.1 2, 1, .inr (.inl f1))) = h2 at hq2 r2 d2 ⊢
      obtain ⟨⟨_, _, _, _, _, _, _, _, _, ho'⟩, -⟩ := id r2
      have ho := ho'.1
      refine xv_istore (pc' := 212) hF xd_LW_law_210 (Nat.le_of_ble_eq_true rfl) rfl rfl ?_
      refine xv_aload_n (pc' := 213) (i := 2) hF xd_LW_law_212 rfl rfl rfl ?_
      refine xv_aload_n (pc' := 214) (i := 0) hF xd_LW_law_213 rfl rfl rfl ?_
      refine xv_iload (pc' := 216) hF xd_LW_law_214 rfl rfl ?_
      refine xv_iconstN (pc' := 217) 1 hF xd_LW_law_216 (by decide +kernel) rfl ?_
      first | refine xv_iaddN (pc' := 218) hF xd_LW_law_217 rfl ?_ | refine xv_iadd (pc' := 218) hF xd_LW_law_217 rfl ?_
      refine xl_ld (pc' := 219) hF hX (by first | exact hv1 | exact hv2 | exact hv3 | exact hv0) (by omega) (by omega) xd_LW_law_218 rfl ?_
      refine xv_aload_n (pc' := 220) (i := 0) hF xd_LW_law_219 rfl rfl rfl ?_
      refine xv_iload (pc' := 222) hF xd_LW_law_220 rfl rfl ?_
      refine xv_iconstN (pc' := 223) 2 hF xd_LW_law_222 (by decide +kernel) rfl ?_
      first | refine xv_iaddN (pc' := 224) hF xd_LW_law_223 rfl ?_ | refine xv_iadd (pc' := 224) hF xd_LW_law_223 rfl ?_
      refine xl_ld (pc' := 225) hF hX (by first | exact hv1 | exact hv2 | exact hv3 | exact hv0) (by omega) (by omega) xd_LW_law_224 rfl ?_
      refine xv_aload_n (pc' := 226) (i := 0) hF xd_LW_law_225 rfl rfl rfl ?_
      refine xv_iload (pc' := 228) hF xd_LW_law_226 rfl rfl ?_
      refine xv_iconstN (pc' := 229) 3 hF xd_LW_law_228 (by decide +kernel) rfl ?_
      first | refine xv_iaddN (pc' := 230) hF xd_LW_law_229 rfl ?_ | refine xv_iadd (pc' := 230) hF xd_LW_law_229 rfl ?_
      refine xl_ld (pc' := 231) hF hX (by first | exact hv1 | exact hv2 | exact hv3 | exact hv0) (by omega) (by omega) xd_LW_law_230 rfl ?_
      refine xv_callVi (pc' := 234) (ci := 6) hF (c_MO_cut K _ h2 (o + 37) th (ec E) w E Tg cs TX SZ SX a l c r2 hA hL hC (fun hE => by have := ec_sub hL hA hC hE; omega)) xq_MO_cut xk_LW_m68 xk_i_MO_cut xk_s_MO_cut (by first | assumption | exact xu_self | (refine (xu_ne (by omega)).trans ?_; first | assumption | exact xu_self | (refine (xu_ne (by omega)).trans ?_; first | assumption | exact xu_self | (refine (xu_ne (by omega)).trans ?_; first | assumption | exact xu_self | (refine (xu_ne (by omega)).trans ?_; first | assumption | exact xu_self))))) rfl ⟨(Nat.le_of_ble_eq_true rfl), (Nat.le_of_ble_eq_true rfl)⟩ rfl rfl (Nat.le_of_ble_eq_true rfl) ⟨(by simp only [xrm]; omega), (by simp only [xrm]; omega)⟩ xd_LW_law_231 rfl (fun r3 n3 h3 q3 => ?_)
      obtain ⟨rfl, f3, er, w3⟩ := q3
      have hq3 : h3 (o + 50) = some (.inl (K.2.2.1 2, 1, .inr (.inl f1))) := (f3 _ (by omega)).trans hq2
      rw [c1] at er
      subst er
      simp only [c1, Bool.false_eq_true, if_false, Nat.sub_zero, ec_same c1] at w3
      obtain ⟨⟨_, _, _, _, _, _, _, _, _, ho9'⟩, -⟩ := id w3
      have ho9 := ho9'.1
      refine xv_istore (pc' := 236) hF xd_LW_law_234 (Nat.le_of_ble_eq_true rfl) rfl rfl ?_
      refine xv_aload_n (pc' := 237) (i := 2) hF xd_LW_law_236 rfl rfl rfl ?_
      refine xv_callVi (pc' := 240) (ci := 6) hF (c_MO_thrown K _ h3 (o + 37) 0 _ _ _ _ _ _ _ ho9) xq_MO_thrown xk_LW_m62 xk_i_MO_thrown xk_s_MO_thrown (by first | assumption | exact xu_self | (refine (xu_ne (by omega)).trans ?_; first | assumption | exact xu_self | (refine (xu_ne (by omega)).trans ?_; first | assumption | exact xu_self | (refine (xu_ne (by omega)).trans ?_; first | assumption | exact xu_self | (refine (xu_ne (by omega)).trans ?_; first | assumption | exact xu_self))))) rfl ⟨(Nat.le_of_ble_eq_true rfl), (Nat.le_of_ble_eq_true rfl)⟩ rfl rfl (Nat.le_of_ble_eq_true rfl) ⟨(by simp only [xrm]; omega), (by simp only [xrm]; omega)⟩ xd_LW_law_237 rfl (fun r9 n9 h9 q9 => ?_)
      obtain ⟨rfl, rfl, rfl⟩ := q9
      refine xv_iload (pc' := 242) hF xd_LW_law_240 rfl rfl ?_
      refine xv_icmp_eqN (pc' := 245) (tgt := 247) hF (by omega) (by omega) xd_LW_law_242 (by decide) rfl (fun e8 => ?_) (fun e8 => ?_)
      · skip
        refine xv_iload (pc' := 249) hF xd_LW_law_247 rfl rfl ?_
        refine xv_if_neN (pc' := 252) (tgt := 271) hF (by omega) xd_LW_law_249 (by decide) rfl (fun e7 => ?_) (fun e7 => ?_)
        · exact absurd e7 (by decide)
        · refine xv_aload_n (pc' := 253) (i := 3) hF xd_LW_law_252 rfl rfl rfl ?_
          refine xv_iconstN (pc' := 254) 0 hF xd_LW_law_253 (by decide +kernel) rfl ?_
          refine xv_laldN (pc' := 255) hF (by first | assumption | exact xu_self | (refine (xu_ne (by omega)).trans ?_; first | assumption | exact xu_self | (refine (xu_ne (by omega)).trans ?_; first | assumption | exact xu_self | (refine (xu_ne (by omega)).trans ?_; first | assumption | exact xu_self | (refine (xu_ne (by omega)).trans ?_; first | assumption | exact xu_self))))) (by omega) (by decide) xd_LW_law_254 rfl ?_
          refine xv_iload (pc' := 257) hF xd_LW_law_255 rfl rfl ?_
          refine xv_if_eqB (pc' := 260) (tgt := 264) hF xd_LW_law_257 (by decide) rfl (fun e5 => ?_) (fun e5 => ?_)
          · refine xv_lconst (pc' := 265) (v := 0) hF xd_LW_law_264 (by decide +kernel) rfl ?_
            refine xv_lcmp (pc' := 266) hF xd_LW_law_265 rfl ?_
            refine xv_if_eq (pc' := 269) (tgt := 271) hF xd_LW_law_266 (by decide) rfl (fun e6 => ?_) (fun e6 => ?_)
            · refine xv_goto (tgt := 955) hF xd_LW_law_271 (by decide) ?_
              exact xv_loc _ (by repeat (first | exact trivial | refine ⟨rfl, ?_⟩)) (nx _ _ _ _ mk ⟨E, Tg, cs, w, OS, SX, _, _, TX, SZ, f1, f3.dk d2 (Nat.le_refl _), w3, sl, he, hmk, hq3⟩ (by omega) (by omega))
            · exact absurd ((lg_cmp_eq _ _).mpr (by rw [hf1]; rfl)) e6
          · exact absurd e5 (by decide)
      · exact absurd rfl e8
    · have eb := xb_in eb
      subst eb
      have hq2 : (xu h1' (o + 50) (.inl (K.2.2.1 2, 1, .inr (.inl f1)))) (o + 50) = some (.inl (K.2.2.1 2, 1, .inr (.inl f1))) := xu_self
      have r2 := xu_mo (c := (.inl (K.2.2.1 2, 1, .inr (.inl f1)))) (z4.mo r)
      have d2 := xu_dk (c := (.inl (K.2.2.1 2, 1, .inr (.inl f1)))) z5
      generalize xu h1' (o + 50) (.inl (K.2.2.1 2, 1, .inr (.inl f1))) = h2 at hq2 r2 d2 ⊢
      obtain ⟨⟨_, _, _, _, _, _, _, _, _, ho'⟩, -⟩ := id r2
      have ho := ho'.1
      refine xv_istore (pc' := 212) hF xd_LW_law_210 (Nat.le_of_ble_eq_true rfl) rfl rfl ?_
      refine xv_aload_n (pc' := 213) (i := 2) hF xd_LW_law_212 rfl rfl rfl ?_
      refine xv_aload_n (pc' := 214) (i := 0) hF xd_LW_law_213 rfl rfl rfl ?_
      refine xv_iload (pc' := 216) hF xd_LW_law_214 rfl rfl ?_
      refine xv_iconstN (pc' := 217) 1 hF xd_LW_law_216 (by decide +kernel) rfl ?_
      first | refine xv_iaddN (pc' := 218) hF xd_LW_law_217 rfl ?_ | refine xv_iadd (pc' := 218) hF xd_LW_law_217 rfl ?_
      refine xl_ld (pc' := 219) hF hX (by first | exact hv1 | exact hv2 | exact hv3 | exact hv0) (by omega) (by omega) xd_LW_law_218 rfl ?_
      refine xv_aload_n (pc' := 220) (i := 0) hF xd_LW_law_219 rfl rfl rfl ?_
      refine xv_iload (pc' := 222) hF xd_LW_law_220 rfl rfl ?_
      refine xv_iconstN (pc' := 223) 2 hF xd_LW_law_222 (by decide +kernel) rfl ?_
      first | refine xv_iaddN (pc' := 224) hF xd_LW_law_223 rfl ?_ | refine xv_iadd (pc' := 224) hF xd_LW_law_223 rfl ?_
      refine xl_ld (pc' := 225) hF hX (by first | exact hv1 | exact hv2 | exact hv3 | exact hv0) (by omega) (by omega) xd_LW_law_224 rfl ?_
      refine xv_aload_n (pc' := 226) (i := 0) hF xd_LW_law_225 rfl rfl rfl ?_
      refine xv_iload (pc' := 228) hF xd_LW_law_226 rfl rfl ?_
      refine xv_iconstN (pc' := 229) 3 hF xd_LW_law_228 (by decide +kernel) rfl ?_
      first | refine xv_iaddN (pc' := 230) hF xd_LW_law_229 rfl ?_ | refine xv_iadd (pc' := 230) hF xd_LW_law_229 rfl ?_
      refine xl_ld (pc' := 231) hF hX (by first | exact hv1 | exact hv2 | exact hv3 | exact hv0) (by omega) (by omega) xd_LW_law_230 rfl ?_
      refine xv_callVi (pc' := 234) (ci := 6) hF (c_MO_cut K _ h2 (o + 37) th (ec E) w E Tg cs TX SZ SX a l c r2 hA hL hC (fun hE => by have := ec_sub hL hA hC hE; omega)) xq_MO_cut xk_LW_m68 xk_i_MO_cut xk_s_MO_cut (by first | assumption | exact xu_self | (refine (xu_ne (by omega)).trans ?_; first | assumption | exact xu_self | (refine (xu_ne (by omega)).trans ?_; first | assumption | exact xu_self | (refine (xu_ne (by omega)).trans ?_; first | assumption | exact xu_self | (refine (xu_ne (by omega)).trans ?_; first | assumption | exact xu_self))))) rfl ⟨(Nat.le_of_ble_eq_true rfl), (Nat.le_of_ble_eq_true rfl)⟩ rfl rfl (Nat.le_of_ble_eq_true rfl) ⟨(by simp only [xrm]; omega), (by simp only [xrm]; omega)⟩ xd_LW_law_231 rfl (fun r3 n3 h3 q3 => ?_)
      obtain ⟨rfl, f3, er, w3⟩ := q3
      have hq3 : h3 (o + 50) = some (.inl (K.2.2.1 2, 1, .inr (.inl f1))) := (f3 _ (by omega)).trans hq2
      rw [c1] at er
      subst er
      have e9 := ec_sub hL hA hC c1
      have e8' : ec E - 1 = ec (ed_set E l a c false) := by omega
      rw [c1, if_pos rfl, e8'] at w3
      rw [e8'] at d2
      obtain ⟨⟨_, _, _, _, _, _, _, _, _, ho9'⟩, -⟩ := id w3
      have ho9 := ho9'.1
      refine xv_istore (pc' := 236) hF xd_LW_law_234 (Nat.le_of_ble_eq_true rfl) rfl rfl ?_
      refine xv_aload_n (pc' := 237) (i := 2) hF xd_LW_law_236 rfl rfl rfl ?_
      refine xv_callVi (pc' := 240) (ci := 6) hF (c_MO_thrown K _ h3 (o + 37) 0 _ _ _ _ _ _ _ ho9) xq_MO_thrown xk_LW_m62 xk_i_MO_thrown xk_s_MO_thrown (by first | assumption | exact xu_self | (refine (xu_ne (by omega)).trans ?_; first | assumption | exact xu_self | (refine (xu_ne (by omega)).trans ?_; first | assumption | exact xu_self | (refine (xu_ne (by omega)).trans ?_; first | assumption | exact xu_self | (refine (xu_ne (by omega)).trans ?_; first | assumption | exact xu_self))))) rfl ⟨(Nat.le_of_ble_eq_true rfl), (Nat.le_of_ble_eq_true rfl)⟩ rfl rfl (Nat.le_of_ble_eq_true rfl) ⟨(by simp only [xrm]; omega), (by simp only [xrm]; omega)⟩ xd_LW_law_237 rfl (fun r9 n9 h9 q9 => ?_)
      obtain ⟨rfl, rfl, rfl⟩ := q9
      refine xv_iload (pc' := 242) hF xd_LW_law_240 rfl rfl ?_
      refine xv_icmp_eqN (pc' := 245) (tgt := 247) hF (by omega) (by omega) xd_LW_law_242 (by decide) rfl (fun e8 => ?_) (fun e8 => ?_)
      · skip
        refine xv_iload (pc' := 249) hF xd_LW_law_247 rfl rfl ?_
        refine xv_if_neN (pc' := 252) (tgt := 271) hF (by omega) xd_LW_law_249 (by decide) rfl (fun e7 => ?_) (fun e7 => ?_)
        · exact absurd e7 (by decide)
        · refine xv_aload_n (pc' := 253) (i := 3) hF xd_LW_law_252 rfl rfl rfl ?_
          refine xv_iconstN (pc' := 254) 0 hF xd_LW_law_253 (by decide +kernel) rfl ?_
          refine xv_laldN (pc' := 255) hF (by first | assumption | exact xu_self | (refine (xu_ne (by omega)).trans ?_; first | assumption | exact xu_self | (refine (xu_ne (by omega)).trans ?_; first | assumption | exact xu_self | (refine (xu_ne (by omega)).trans ?_; first | assumption | exact xu_self | (refine (xu_ne (by omega)).trans ?_; first | assumption | exact xu_self))))) (by omega) (by decide) xd_LW_law_254 rfl ?_
          refine xv_iload (pc' := 257) hF xd_LW_law_255 rfl rfl ?_
          refine xv_if_eqB (pc' := 260) (tgt := 264) hF xd_LW_law_257 (by decide) rfl (fun e5 => ?_) (fun e5 => ?_)
          · exact absurd e5 (by decide)
          · refine xv_lconst (pc' := 261) (v := 1) hF xd_LW_law_260 (by decide +kernel) rfl ?_
            refine xv_goto (tgt := 265) hF xd_LW_law_261 (by decide) ?_
            refine xv_lcmp (pc' := 266) hF xd_LW_law_265 rfl ?_
            refine xv_if_eq (pc' := 269) (tgt := 271) hF xd_LW_law_266 (by decide) rfl (fun e6 => ?_) (fun e6 => ?_)
            · refine xv_goto (tgt := 955) hF xd_LW_law_271 (by decide) ?_
              exact xv_loc _ (by repeat (first | exact trivial | refine ⟨rfl, ?_⟩)) (nx _ _ _ _ mk ⟨ed_set E l a c false, Tg, cs, w, OS, SX, _, _, TX, SZ, f1, f3.dk d2 (Nat.le_refl _), w3, sl, by omega, hmk, hq3⟩ (by omega) (by omega))
            · exact absurd ((lg_cmp_eq _ _).mpr (by rw [hf1]; rfl)) e6
      · exact absurd rfl e8
