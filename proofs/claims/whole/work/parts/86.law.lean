/-! the law: one round of its loop -/
def sv (en : pz_Env) (i : Int) : Int := (en.2.2.1 i.toNat).toInt
theorem sv_R (en : pz_Env) (i : Int) : zR (sv en i) := zI_range _
theorem lg_cmp_rf (x : Int64) : lg_cmp x x = zI 0 := by
  unfold lg_cmp
  rw [if_neg Int64.lt_irrefl, if_pos rfl]
  rfl
theorem i2c_z (x : UInt32) : x.toInt32 = zI (x.toNat : Int) := by
  unfold zI
  rw [Int32.ofInt_eq_ofNat]
  exact Int32.toBitVec.inj (by simp)
theorem i2c_R (x : UInt32) : 0 ≤ ((x % 65536).toNat : Int) ∧ ((x % 65536).toNat : Int) < 65536 := by
  have h : (x % 65536).toNat = x.toNat % 65536 := by simp
  rw [h]
  omega
abbrev lQ : pz_Q := fun o _ => o = .inl (some (.int 1))
abbrev lW (en : pz_Env) (pc : Nat) (ls : List (Option Value)) (st : List Value) (g : pz_H) (nc ns : Nat) : Prop := pz_WP 11 en (pz_Cd en (11 - 1)) 8 cL_law 9 (some .boolean) [] false lQ pc ls st g nc ns
abbrev lL (en : pz_Env) (x m o : Nat) (i : Int) (l5 l6 l7 l8 : Option Value) : List (Option Value) := [some (.ref en.1), some (.ref x), some (.ref m), some (.ref o), some (.int (zI i)), l5, l6, l7, l8]
theorem zr_sld {d : Nat} {en : pz_Env} {C : pz_C} {own : Nat} {cc : ByteArray} {nL : Nat} {rt : Option FieldType} {hh : List (Nat × Nat × Nat × Nat)} {ini : Bool} {Q : pz_Q} {pc : Nat} {ls : List (Option Value)} {st : List Value} {h : pz_H} {nc ns : Nat} {i : Int} (hd : decode cc pc = .ok (.iaload, 1)) (hi : 0 ≤ i ∧ i < (en.2.1 : Int)) (hL : en.2.1 ≤ 3072) (k : pz_WP d en C own cc nL rt hh ini Q (pc + 1) ls (.int (zI (sv en i)) :: st) h nc ns) : pz_WP d en C own cc nL rt hh ini Q pc ls (.int (zI i) :: .ref en.1 :: st) h nc ns :=
  pr_sld (k := i.toNat) hd (by rw [zI_toInt (by omega)]; omega) (by omega) (by
    unfold sv at k
    rw [zI_of] at k
    exact k)
theorem bud {nc ns mc ms : Nat} (h : (mc = 0 ∧ ms = 0) ∨ (mc = 1 ∧ ms = 6)) : ∃ nc1 ns1 : Nat, nc + 1 = nc1 + mc ∧ ns + 6 = ns1 + ms ∧ nc ≤ nc1 ∧ ns ≤ ns1 := by
  rcases h with ⟨rfl, rfl⟩ | ⟨rfl, rfl⟩
  · exact ⟨nc + 1, ns + 6, rfl, rfl, by omega, by omega⟩
  · exact ⟨nc, ns, rfl, rfl, Nat.le_refl _, Nat.le_refl _⟩
section law
variable {en : pz_Env} {g : pz_H} {t : Int → Nat} {r : Nat → Nat} {o : Nat} {i : Int} {nc ns : Nat}
set_option maxRecDepth 100000 in
set_option maxHeartbeats 4000000 in
theorem it_0 (hL : en.2.1 ≤ 3072) (i0 : 0 ≤ i) (i1 : i + 6 ≤ (en.2.1 : Int)) (hS : gS g t r o) (hend : ∀ (g2 : pz_H) (l5 l6 l7 l8 : Option Value) (nc1 ns1 : Nat), gS g2 t r o → nc ≤ nc1 → ns ≤ ns1 → lW en 2528 (lL en (t 0) (r 0) o i l5 l6 l7 l8) [] g2 nc1 ns1) : lW en 204 (lL en (t 0) (r 0) o i none none none none) [] g (nc + 1) (ns + 6) := by
  obtain ⟨b, g1, g2, f0, f1, hb, h0, hC, h1, hR, hS2⟩ := do_clear (en := en) hS
  refine pr_aload_n dL_law_204 rfl ?_
  refine zw_v (as := []) (rest := []) (nc := nc + 1) (ns := ns + 6) (mc := 0) (ms := 0) dL_law_205 pzm_8_135 pzt_X6_clear rfl rfl h0 (by decide) (by decide) (by decide) hC ?_
  refine pr_aload_n dL_law_208 rfl ?_
  refine zw_v (as := []) (rest := [.int (zI b)]) (nc := nc + 1) (ns := ns + 6) (mc := 0) (ms := 0) dL_law_209 pzm_8_138 pzt_X7_clear rfl rfl h1 (Nat.le_of_ble_eq_true rfl) (by decide) (by decide) hR ?_
  refine zr_icmp_eq (tgt := 2528) dL_law_212 (by decide) hb hb (fun _ => ?_) (fun c => absurd rfl c)
  exact hend _ _ _ _ _ _ _ hS2 (by omega) (by omega)
set_option maxRecDepth 100000 in
set_option maxHeartbeats 4000000 in
theorem it_1 (hL : en.2.1 ≤ 3072) (i0 : 0 ≤ i) (i1 : i + 6 ≤ (en.2.1 : Int)) (hS : gS g t r o) (hend : ∀ (g2 : pz_H) (l5 l6 l7 l8 : Option Value) (nc1 ns1 : Nat), gS g2 t r o → nc ≤ nc1 → ns ≤ ns1 → lW en 2528 (lL en (t 0) (r 0) o i l5 l6 l7 l8) [] g2 nc1 ns1) : lW en 217 (lL en (t 0) (r 0) o i none none none none) [] g (nc + 1) (ns + 6) := by
  obtain ⟨k, b, g1, g2, wo, f0, f1, f2, mc, ms, hmc, hk, h0, hW, h1, hR, h2, hT, ho, hw, hp, hS2⟩ : dO en 243 134 [.int (zI (sv en (i + 1)))] (fun _ => True) g t r o := do_addCue (sv_R en (i + 1)) hS
  obtain ⟨nc1, ns1, e1, e2, l1, l2⟩ := bud (nc := nc) (ns := ns) hmc
  rw [e1, e2]
  refine pr_aload_n dL_law_217 rfl ?_
  refine pr_aload_n dL_law_218 rfl ?_
  refine pr_iload dL_law_219 rfl ?_
  refine zr_iconst dL_law_221 ?_
  refine zr_iadd dL_law_222 ?_
  refine zr_sld dL_law_223 (by omega) hL ?_
  refine pr_aload_n dL_law_224 rfl ?_
  refine zw_s (as := [.ref (t 0), .int (zI (sv en (i + 1))), .ref o]) (rest := []) dL_law_225 pzm_8_139 pzt_L_addCue rfl rfl (by decide) (by decide) hW ?_
  refine pr_istore dL_law_228 (by decide) rfl ?_
  refine pr_aload_n dL_law_230 rfl ?_
  refine pr_aload_n dL_law_231 rfl ?_
  refine pr_iload dL_law_232 rfl ?_
  refine zr_iconst dL_law_234 ?_
  refine zr_iadd dL_law_235 ?_
  refine zr_sld dL_law_236 (by omega) hL ?_
  refine zw_v (as := [.int (zI (sv en (i + 1)))]) (rest := []) (nc := nc1) (ns := ns1) (mc := 0) (ms := 0) dL_law_237 pzm_8_144 pzt_X7_addCue rfl rfl h1 (by decide) (by decide) (by decide) hR ?_
  refine pr_istore dL_law_240 (by decide) rfl ?_
  refine pr_aload_n dL_law_242 rfl ?_
  refine zw_v (as := []) (rest := []) (nc := nc1) (ns := ns1) (mc := 0) (ms := 0) dL_law_243 pzm_8_145 pzt_X7_thrown rfl rfl h2 (by decide) (by decide) (by decide) hT ?_
  refine pr_iload dL_law_246 rfl ?_
  refine zr_icmp_eq (tgt := 253) dL_law_248 (by decide) (by omega) (by omega) (fun _ => ?_) (fun c => absurd rfl c)
  refine pr_iload dL_law_253 rfl ?_
  refine zr_if_ne (tgt := 270) dL_law_255 (by decide) (by omega) (fun c => ?_) (fun c => ?_)
  · refine pr_goto (tgt := 2528) dL_law_270 (by decide) ?_
    exact hend _ _ _ _ _ _ _ hS2 l1 l2
  · refine pr_aload_n dL_law_258 rfl ?_
    refine zr_iconst dL_law_259 ?_
    refine pr_lald (k := 0) dL_law_260 ho (by decide) (by decide) ?_
    refine pr_iload dL_law_261 rfl ?_
    refine pr_i2l dL_law_263 ?_
    refine pr_lcmp dL_law_264 ?_
    rw [hw c, lg_cmp_rf]
    refine zr_if_eq (tgt := 270) dL_law_265 (by decide) (by decide) (fun _ => ?_) (fun c => absurd rfl c)
    refine pr_goto (tgt := 2528) dL_law_270 (by decide) ?_
    exact hend _ _ _ _ _ _ _ hS2 l1 l2
set_option maxRecDepth 100000 in
set_option maxHeartbeats 4000000 in
theorem it_2 (hL : en.2.1 ≤ 3072) (i0 : 0 ≤ i) (i1 : i + 6 ≤ (en.2.1 : Int)) (hS : gS g t r o) (hend : ∀ (g2 : pz_H) (l5 l6 l7 l8 : Option Value) (nc1 ns1 : Nat), gS g2 t r o → nc ≤ nc1 → ns ≤ ns1 → lW en 2528 (lL en (t 0) (r 0) o i l5 l6 l7 l8) [] g2 nc1 ns1) : lW en 273 (lL en (t 0) (r 0) o i none none none none) [] g (nc + 1) (ns + 6) := by
  by_cases hb : sv en (i + 2) = 0
  · skip
    obtain ⟨k, b, g1, g2, wo, f0, f1, f2, mc, ms, hmc, hk, h0, hW, h1, hR, h2, hT, ho, hw, hp, hS2⟩ : dO en 244 166 [.int (zI (sv en (i + 1))), .int (zI 0)] (fun _ => True) g t r o := do_removeCue (sv_R en (i + 1)) (hd := False) hS
    obtain ⟨nc1, ns1, e1, e2, l1, l2⟩ := bud (nc := nc) (ns := ns) hmc
    rw [e1, e2]
    refine pr_aload_n dL_law_273 rfl ?_
    refine pr_aload_n dL_law_274 rfl ?_
    refine pr_iload dL_law_275 rfl ?_
    refine zr_iconst dL_law_277 ?_
    refine zr_iadd dL_law_278 ?_
    refine zr_sld dL_law_279 (by omega) hL ?_
    refine pr_aload_n dL_law_280 rfl ?_
    refine pr_iload dL_law_281 rfl ?_
    refine zr_iconst dL_law_283 ?_
    refine zr_iadd dL_law_284 ?_
    refine zr_sld dL_law_285 (by omega) hL ?_
    refine zr_if_eq (tgt := 293) dL_law_286 (by decide) (sv_R _ _) (fun _ => ?_) (fun c => absurd hb c)
    refine zr_iconst dL_law_293 ?_
    refine pr_aload_n dL_law_294 rfl ?_
    refine zw_s (as := [.ref (t 0), .int (zI (sv en (i + 1))), .int (zI 0), .ref o]) (rest := []) dL_law_295 pzm_8_148 pzt_L_removeCue rfl rfl (by decide) (by decide) hW ?_
    refine pr_istore dL_law_298 (by decide) rfl ?_
    refine pr_aload_n dL_law_300 rfl ?_
    refine pr_aload_n dL_law_301 rfl ?_
    refine pr_iload dL_law_302 rfl ?_
    refine zr_iconst dL_law_304 ?_
    refine zr_iadd dL_law_305 ?_
    refine zr_sld dL_law_306 (by omega) hL ?_
    refine pr_aload_n dL_law_307 rfl ?_
    refine pr_iload dL_law_308 rfl ?_
    refine zr_iconst dL_law_310 ?_
    refine zr_iadd dL_law_311 ?_
    refine zr_sld dL_law_312 (by omega) hL ?_
    refine zr_if_eq (tgt := 320) dL_law_313 (by decide) (sv_R _ _) (fun _ => ?_) (fun c => absurd hb c)
    refine zr_iconst dL_law_320 ?_
    refine zw_v (as := [.int (zI (sv en (i + 1))), .int (zI 0)]) (rest := []) (nc := nc1) (ns := ns1) (mc := 0) (ms := 0) dL_law_321 pzm_8_151 pzt_X7_removeCue rfl rfl h1 (by decide) (by decide) (by decide) hR ?_
    refine pr_istore dL_law_324 (by decide) rfl ?_
    refine pr_aload_n dL_law_326 rfl ?_
    refine zw_v (as := []) (rest := []) (nc := nc1) (ns := ns1) (mc := 0) (ms := 0) dL_law_327 pzm_8_145 pzt_X7_thrown rfl rfl h2 (by decide) (by decide) (by decide) hT ?_
    refine pr_iload dL_law_330 rfl ?_
    refine zr_icmp_eq (tgt := 337) dL_law_332 (by decide) (by omega) (by omega) (fun _ => ?_) (fun c => absurd rfl c)
    refine pr_iload dL_law_337 rfl ?_
    refine zr_if_ne (tgt := 354) dL_law_339 (by decide) (by omega) (fun c => ?_) (fun c => ?_)
    · refine pr_goto (tgt := 2528) dL_law_354 (by decide) ?_
      exact hend _ _ _ _ _ _ _ hS2 l1 l2
    · refine pr_aload_n dL_law_342 rfl ?_
      refine zr_iconst dL_law_343 ?_
      refine pr_lald (k := 0) dL_law_344 ho (by decide) (by decide) ?_
      refine pr_iload dL_law_345 rfl ?_
      refine pr_i2l dL_law_347 ?_
      refine pr_lcmp dL_law_348 ?_
      rw [hw c, lg_cmp_rf]
      refine zr_if_eq (tgt := 354) dL_law_349 (by decide) (by decide) (fun _ => ?_) (fun c => absurd rfl c)
      refine pr_goto (tgt := 2528) dL_law_354 (by decide) ?_
      exact hend _ _ _ _ _ _ _ hS2 l1 l2
  · skip
    obtain ⟨k, b, g1, g2, wo, f0, f1, f2, mc, ms, hmc, hk, h0, hW, h1, hR, h2, hT, ho, hw, hp, hS2⟩ : dO en 244 166 [.int (zI (sv en (i + 1))), .int (zI 1)] (fun _ => True) g t r o := do_removeCue (sv_R en (i + 1)) (hd := True) hS
    obtain ⟨nc1, ns1, e1, e2, l1, l2⟩ := bud (nc := nc) (ns := ns) hmc
    rw [e1, e2]
    refine pr_aload_n dL_law_273 rfl ?_
    refine pr_aload_n dL_law_274 rfl ?_
    refine pr_iload dL_law_275 rfl ?_
    refine zr_iconst dL_law_277 ?_
    refine zr_iadd dL_law_278 ?_
    refine zr_sld dL_law_279 (by omega) hL ?_
    refine pr_aload_n dL_law_280 rfl ?_
    refine pr_iload dL_law_281 rfl ?_
    refine zr_iconst dL_law_283 ?_
    refine zr_iadd dL_law_284 ?_
    refine zr_sld dL_law_285 (by omega) hL ?_
    refine zr_if_eq (tgt := 293) dL_law_286 (by decide) (sv_R _ _) (fun c => absurd c hb) (fun _ => ?_)
    refine zr_iconst dL_law_289 ?_
    refine pr_goto (tgt := 294) dL_law_290 (by decide) ?_
    refine pr_aload_n dL_law_294 rfl ?_
    refine zw_s (as := [.ref (t 0), .int (zI (sv en (i + 1))), .int (zI 1), .ref o]) (rest := []) dL_law_295 pzm_8_148 pzt_L_removeCue rfl rfl (by decide) (by decide) hW ?_
    refine pr_istore dL_law_298 (by decide) rfl ?_
    refine pr_aload_n dL_law_300 rfl ?_
    refine pr_aload_n dL_law_301 rfl ?_
    refine pr_iload dL_law_302 rfl ?_
    refine zr_iconst dL_law_304 ?_
    refine zr_iadd dL_law_305 ?_
    refine zr_sld dL_law_306 (by omega) hL ?_
    refine pr_aload_n dL_law_307 rfl ?_
    refine pr_iload dL_law_308 rfl ?_
    refine zr_iconst dL_law_310 ?_
    refine zr_iadd dL_law_311 ?_
    refine zr_sld dL_law_312 (by omega) hL ?_
    refine zr_if_eq (tgt := 320) dL_law_313 (by decide) (sv_R _ _) (fun c => absurd c hb) (fun _ => ?_)
    refine zr_iconst dL_law_316 ?_
    refine pr_goto (tgt := 321) dL_law_317 (by decide) ?_
    refine zw_v (as := [.int (zI (sv en (i + 1))), .int (zI 1)]) (rest := []) (nc := nc1) (ns := ns1) (mc := 0) (ms := 0) dL_law_321 pzm_8_151 pzt_X7_removeCue rfl rfl h1 (by decide) (by decide) (by decide) hR ?_
    refine pr_istore dL_law_324 (by decide) rfl ?_
    refine pr_aload_n dL_law_326 rfl ?_
    refine zw_v (as := []) (rest := []) (nc := nc1) (ns := ns1) (mc := 0) (ms := 0) dL_law_327 pzm_8_145 pzt_X7_thrown rfl rfl h2 (by decide) (by decide) (by decide) hT ?_
    refine pr_iload dL_law_330 rfl ?_
    refine zr_icmp_eq (tgt := 337) dL_law_332 (by decide) (by omega) (by omega) (fun _ => ?_) (fun c => absurd rfl c)
    refine pr_iload dL_law_337 rfl ?_
    refine zr_if_ne (tgt := 354) dL_law_339 (by decide) (by omega) (fun c => ?_) (fun c => ?_)
    · refine pr_goto (tgt := 2528) dL_law_354 (by decide) ?_
      exact hend _ _ _ _ _ _ _ hS2 l1 l2
    · refine pr_aload_n dL_law_342 rfl ?_
      refine zr_iconst dL_law_343 ?_
      refine pr_lald (k := 0) dL_law_344 ho (by decide) (by decide) ?_
      refine pr_iload dL_law_345 rfl ?_
      refine pr_i2l dL_law_347 ?_
      refine pr_lcmp dL_law_348 ?_
      rw [hw c, lg_cmp_rf]
      refine zr_if_eq (tgt := 354) dL_law_349 (by decide) (by decide) (fun _ => ?_) (fun c => absurd rfl c)
      refine pr_goto (tgt := 2528) dL_law_354 (by decide) ?_
      exact hend _ _ _ _ _ _ _ hS2 l1 l2
set_option maxRecDepth 100000 in
set_option maxHeartbeats 4000000 in
theorem it_3 (hL : en.2.1 ≤ 3072) (i0 : 0 ≤ i) (i1 : i + 6 ≤ (en.2.1 : Int)) (hS : gS g t r o) (hend : ∀ (g2 : pz_H) (l5 l6 l7 l8 : Option Value) (nc1 ns1 : Nat), gS g2 t r o → nc ≤ nc1 → ns ≤ ns1 → lW en 2528 (lL en (t 0) (r 0) o i l5 l6 l7 l8) [] g2 nc1 ns1) : lW en 357 (lL en (t 0) (r 0) o i none none none none) [] g (nc + 1) (ns + 6) := by
  obtain ⟨k, b, g1, g2, wo, f0, f1, f2, mc, ms, hmc, hk, h0, hW, h1, hR, h2, hT, ho, hw, hp, hS2⟩ : dO en 245 135 [.int (zI (sv en (i + 1)))] (fun _ => True) g t r o := do_cueAt (sv_R en (i + 1)) hS
  obtain ⟨nc1, ns1, e1, e2, l1, l2⟩ := bud (nc := nc) (ns := ns) hmc
  rw [e1, e2]
  refine pr_aload_n dL_law_357 rfl ?_
  refine pr_aload_n dL_law_358 rfl ?_
  refine pr_iload dL_law_359 rfl ?_
  refine zr_iconst dL_law_361 ?_
  refine zr_iadd dL_law_362 ?_
  refine zr_sld dL_law_363 (by omega) hL ?_
  refine pr_aload_n dL_law_364 rfl ?_
  refine zw_s (as := [.ref (t 0), .int (zI (sv en (i + 1))), .ref o]) (rest := []) dL_law_365 pzm_8_152 pzt_L_cueAt rfl rfl (by decide) (by decide) hW ?_
  refine pr_istore dL_law_368 (by decide) rfl ?_
  refine pr_aload_n dL_law_370 rfl ?_
  refine pr_aload_n dL_law_371 rfl ?_
  refine pr_iload dL_law_372 rfl ?_
  refine zr_iconst dL_law_374 ?_
  refine zr_iadd dL_law_375 ?_
  refine zr_sld dL_law_376 (by omega) hL ?_
  refine zw_v (as := [.int (zI (sv en (i + 1)))]) (rest := []) (nc := nc1) (ns := ns1) (mc := 0) (ms := 0) dL_law_377 pzm_8_154 pzt_X7_cueAt rfl rfl h1 (by decide) (by decide) (by decide) hR ?_
  refine pr_istore dL_law_380 (by decide) rfl ?_
  refine pr_aload_n dL_law_382 rfl ?_
  refine zw_v (as := []) (rest := []) (nc := nc1) (ns := ns1) (mc := 0) (ms := 0) dL_law_383 pzm_8_145 pzt_X7_thrown rfl rfl h2 (by decide) (by decide) (by decide) hT ?_
  refine pr_iload dL_law_386 rfl ?_
  refine zr_icmp_eq (tgt := 393) dL_law_388 (by decide) (by omega) (by omega) (fun _ => ?_) (fun c => absurd rfl c)
  refine pr_iload dL_law_393 rfl ?_
  refine zr_if_ne (tgt := 410) dL_law_395 (by decide) (by omega) (fun c => ?_) (fun c => ?_)
  · refine pr_goto (tgt := 2528) dL_law_410 (by decide) ?_
    exact hend _ _ _ _ _ _ _ hS2 l1 l2
  · refine pr_aload_n dL_law_398 rfl ?_
    refine zr_iconst dL_law_399 ?_
    refine pr_lald (k := 0) dL_law_400 ho (by decide) (by decide) ?_
    refine pr_iload dL_law_401 rfl ?_
    refine pr_i2l dL_law_403 ?_
    refine pr_lcmp dL_law_404 ?_
    rw [hw c, lg_cmp_rf]
    refine zr_if_eq (tgt := 410) dL_law_405 (by decide) (by decide) (fun _ => ?_) (fun c => absurd rfl c)
    refine pr_goto (tgt := 2528) dL_law_410 (by decide) ?_
    exact hend _ _ _ _ _ _ _ hS2 l1 l2
set_option maxRecDepth 100000 in
set_option maxHeartbeats 4000000 in
theorem it_4 (hL : en.2.1 ≤ 3072) (i0 : 0 ≤ i) (i1 : i + 6 ≤ (en.2.1 : Int)) (hS : gS g t r o) (hend : ∀ (g2 : pz_H) (l5 l6 l7 l8 : Option Value) (nc1 ns1 : Nat), gS g2 t r o → nc ≤ nc1 → ns ≤ ns1 → lW en 2528 (lL en (t 0) (r 0) o i l5 l6 l7 l8) [] g2 nc1 ns1) : lW en 413 (lL en (t 0) (r 0) o i none none none none) [] g (nc + 1) (ns + 6) := by
  obtain ⟨k, b, g1, g2, wo, f0, f1, f2, mc, ms, hmc, hk, h0, hW, h1, hR, h2, hT, ho, hw, hp, hS2⟩ : dO en 246 136 [.int (zI (sv en (i + 1))), .int (zI (sv en (i + 2)))] (fun _ => True) g t r o := do_setFollow (sv_R en (i + 1)) (sv_R en (i + 2)) hS
  obtain ⟨nc1, ns1, e1, e2, l1, l2⟩ := bud (nc := nc) (ns := ns) hmc
  rw [e1, e2]
  refine pr_aload_n dL_law_413 rfl ?_
  refine pr_aload_n dL_law_414 rfl ?_
  refine pr_iload dL_law_415 rfl ?_
  refine zr_iconst dL_law_417 ?_
  refine zr_iadd dL_law_418 ?_
  refine zr_sld dL_law_419 (by omega) hL ?_
  refine pr_aload_n dL_law_420 rfl ?_
  refine pr_iload dL_law_421 rfl ?_
  refine zr_iconst dL_law_423 ?_
  refine zr_iadd dL_law_424 ?_
  refine zr_sld dL_law_425 (by omega) hL ?_
  refine pr_aload_n dL_law_426 rfl ?_
  refine zw_s (as := [.ref (t 0), .int (zI (sv en (i + 1))), .int (zI (sv en (i + 2))), .ref o]) (rest := []) dL_law_427 pzm_8_155 pzt_L_setFollow rfl rfl (by decide) (by decide) hW ?_
  refine pr_istore dL_law_430 (by decide) rfl ?_
  refine pr_aload_n dL_law_432 rfl ?_
  refine pr_aload_n dL_law_433 rfl ?_
  refine pr_iload dL_law_434 rfl ?_
  refine zr_iconst dL_law_436 ?_
  refine zr_iadd dL_law_437 ?_
  refine zr_sld dL_law_438 (by omega) hL ?_
  refine pr_aload_n dL_law_439 rfl ?_
  refine pr_iload dL_law_440 rfl ?_
  refine zr_iconst dL_law_442 ?_
  refine zr_iadd dL_law_443 ?_
  refine zr_sld dL_law_444 (by omega) hL ?_
  refine zw_v (as := [.int (zI (sv en (i + 1))), .int (zI (sv en (i + 2)))]) (rest := []) (nc := nc1) (ns := ns1) (mc := 0) (ms := 0) dL_law_445 pzm_8_158 pzt_X7_setFollow rfl rfl h1 (by decide) (by decide) (by decide) hR ?_
  refine pr_istore dL_law_448 (by decide) rfl ?_
  refine pr_aload_n dL_law_450 rfl ?_
  refine zw_v (as := []) (rest := []) (nc := nc1) (ns := ns1) (mc := 0) (ms := 0) dL_law_451 pzm_8_145 pzt_X7_thrown rfl rfl h2 (by decide) (by decide) (by decide) hT ?_
  refine pr_iload dL_law_454 rfl ?_
  refine zr_icmp_eq (tgt := 461) dL_law_456 (by decide) (by omega) (by omega) (fun _ => ?_) (fun c => absurd rfl c)
  refine pr_iload dL_law_461 rfl ?_
  refine zr_if_ne (tgt := 478) dL_law_463 (by decide) (by omega) (fun c => ?_) (fun c => ?_)
  · refine pr_goto (tgt := 2528) dL_law_478 (by decide) ?_
    exact hend _ _ _ _ _ _ _ hS2 l1 l2
  · refine pr_aload_n dL_law_466 rfl ?_
    refine zr_iconst dL_law_467 ?_
    refine pr_lald (k := 0) dL_law_468 ho (by decide) (by decide) ?_
    refine pr_iload dL_law_469 rfl ?_
    refine pr_i2l dL_law_471 ?_
    refine pr_lcmp dL_law_472 ?_
    rw [hw c, lg_cmp_rf]
    refine zr_if_eq (tgt := 478) dL_law_473 (by decide) (by decide) (fun _ => ?_) (fun c => absurd rfl c)
    refine pr_goto (tgt := 2528) dL_law_478 (by decide) ?_
    exact hend _ _ _ _ _ _ _ hS2 l1 l2
set_option maxRecDepth 100000 in
set_option maxHeartbeats 4000000 in
theorem it_5 (hL : en.2.1 ≤ 3072) (i0 : 0 ≤ i) (i1 : i + 6 ≤ (en.2.1 : Int)) (hS : gS g t r o) (hend : ∀ (g2 : pz_H) (l5 l6 l7 l8 : Option Value) (nc1 ns1 : Nat), gS g2 t r o → nc ≤ nc1 → ns ≤ ns1 → lW en 2528 (lL en (t 0) (r 0) o i l5 l6 l7 l8) [] g2 nc1 ns1) : lW en 481 (lL en (t 0) (r 0) o i none none none none) [] g (nc + 1) (ns + 6) := by
  by_cases hb : sv en (i + 2) = 0
  · skip
    obtain ⟨k, b, g1, g2, wo, f0, f1, f2, mc, ms, hmc, hk, h0, hW, h1, hR, h2, hT, ho, hw, hp, hS2⟩ : dO en 247 139 [.int (zI (sv en (i + 1))), .int (zI 0)] (fun _ => True) g t r o := do_setBlock (sv_R en (i + 1)) (v := False) hS
    obtain ⟨nc1, ns1, e1, e2, l1, l2⟩ := bud (nc := nc) (ns := ns) hmc
    rw [e1, e2]
    refine pr_aload_n dL_law_481 rfl ?_
    refine pr_aload_n dL_law_482 rfl ?_
    refine pr_iload dL_law_483 rfl ?_
    refine zr_iconst dL_law_485 ?_
    refine zr_iadd dL_law_486 ?_
    refine zr_sld dL_law_487 (by omega) hL ?_
    refine pr_aload_n dL_law_488 rfl ?_
    refine pr_iload dL_law_489 rfl ?_
    refine zr_iconst dL_law_491 ?_
    refine zr_iadd dL_law_492 ?_
    refine zr_sld dL_law_493 (by omega) hL ?_
    refine zr_if_eq (tgt := 501) dL_law_494 (by decide) (sv_R _ _) (fun _ => ?_) (fun c => absurd hb c)
    refine zr_iconst dL_law_501 ?_
    refine pr_aload_n dL_law_502 rfl ?_
    refine zw_s (as := [.ref (t 0), .int (zI (sv en (i + 1))), .int (zI 0), .ref o]) (rest := []) dL_law_503 pzm_8_159 pzt_L_setBlock rfl rfl (by decide) (by decide) hW ?_
    refine pr_istore dL_law_506 (by decide) rfl ?_
    refine pr_aload_n dL_law_508 rfl ?_
    refine pr_aload_n dL_law_509 rfl ?_
    refine pr_iload dL_law_510 rfl ?_
    refine zr_iconst dL_law_512 ?_
    refine zr_iadd dL_law_513 ?_
    refine zr_sld dL_law_514 (by omega) hL ?_
    refine pr_aload_n dL_law_515 rfl ?_
    refine pr_iload dL_law_516 rfl ?_
    refine zr_iconst dL_law_518 ?_
    refine zr_iadd dL_law_519 ?_
    refine zr_sld dL_law_520 (by omega) hL ?_
    refine zr_if_eq (tgt := 528) dL_law_521 (by decide) (sv_R _ _) (fun _ => ?_) (fun c => absurd hb c)
    refine zr_iconst dL_law_528 ?_
    refine zw_v (as := [.int (zI (sv en (i + 1))), .int (zI 0)]) (rest := []) (nc := nc1) (ns := ns1) (mc := 0) (ms := 0) dL_law_529 pzm_8_161 pzt_X7_setBlock rfl rfl h1 (by decide) (by decide) (by decide) hR ?_
    refine pr_istore dL_law_532 (by decide) rfl ?_
    refine pr_aload_n dL_law_534 rfl ?_
    refine zw_v (as := []) (rest := []) (nc := nc1) (ns := ns1) (mc := 0) (ms := 0) dL_law_535 pzm_8_145 pzt_X7_thrown rfl rfl h2 (by decide) (by decide) (by decide) hT ?_
    refine pr_iload dL_law_538 rfl ?_
    refine zr_icmp_eq (tgt := 545) dL_law_540 (by decide) (by omega) (by omega) (fun _ => ?_) (fun c => absurd rfl c)
    refine pr_iload dL_law_545 rfl ?_
    refine zr_if_ne (tgt := 562) dL_law_547 (by decide) (by omega) (fun c => ?_) (fun c => ?_)
    · refine pr_goto (tgt := 2528) dL_law_562 (by decide) ?_
      exact hend _ _ _ _ _ _ _ hS2 l1 l2
    · refine pr_aload_n dL_law_550 rfl ?_
      refine zr_iconst dL_law_551 ?_
      refine pr_lald (k := 0) dL_law_552 ho (by decide) (by decide) ?_
      refine pr_iload dL_law_553 rfl ?_
      refine pr_i2l dL_law_555 ?_
      refine pr_lcmp dL_law_556 ?_
      rw [hw c, lg_cmp_rf]
      refine zr_if_eq (tgt := 562) dL_law_557 (by decide) (by decide) (fun _ => ?_) (fun c => absurd rfl c)
      refine pr_goto (tgt := 2528) dL_law_562 (by decide) ?_
      exact hend _ _ _ _ _ _ _ hS2 l1 l2
  · skip
    obtain ⟨k, b, g1, g2, wo, f0, f1, f2, mc, ms, hmc, hk, h0, hW, h1, hR, h2, hT, ho, hw, hp, hS2⟩ : dO en 247 139 [.int (zI (sv en (i + 1))), .int (zI 1)] (fun _ => True) g t r o := do_setBlock (sv_R en (i + 1)) (v := True) hS
    obtain ⟨nc1, ns1, e1, e2, l1, l2⟩ := bud (nc := nc) (ns := ns) hmc
    rw [e1, e2]
    refine pr_aload_n dL_law_481 rfl ?_
    refine pr_aload_n dL_law_482 rfl ?_
    refine pr_iload dL_law_483 rfl ?_
    refine zr_iconst dL_law_485 ?_
    refine zr_iadd dL_law_486 ?_
    refine zr_sld dL_law_487 (by omega) hL ?_
    refine pr_aload_n dL_law_488 rfl ?_
    refine pr_iload dL_law_489 rfl ?_
    refine zr_iconst dL_law_491 ?_
    refine zr_iadd dL_law_492 ?_
    refine zr_sld dL_law_493 (by omega) hL ?_
    refine zr_if_eq (tgt := 501) dL_law_494 (by decide) (sv_R _ _) (fun c => absurd c hb) (fun _ => ?_)
    refine zr_iconst dL_law_497 ?_
    refine pr_goto (tgt := 502) dL_law_498 (by decide) ?_
    refine pr_aload_n dL_law_502 rfl ?_
    refine zw_s (as := [.ref (t 0), .int (zI (sv en (i + 1))), .int (zI 1), .ref o]) (rest := []) dL_law_503 pzm_8_159 pzt_L_setBlock rfl rfl (by decide) (by decide) hW ?_
    refine pr_istore dL_law_506 (by decide) rfl ?_
    refine pr_aload_n dL_law_508 rfl ?_
    refine pr_aload_n dL_law_509 rfl ?_
    refine pr_iload dL_law_510 rfl ?_
    refine zr_iconst dL_law_512 ?_
    refine zr_iadd dL_law_513 ?_
    refine zr_sld dL_law_514 (by omega) hL ?_
    refine pr_aload_n dL_law_515 rfl ?_
    refine pr_iload dL_law_516 rfl ?_
    refine zr_iconst dL_law_518 ?_
    refine zr_iadd dL_law_519 ?_
    refine zr_sld dL_law_520 (by omega) hL ?_
    refine zr_if_eq (tgt := 528) dL_law_521 (by decide) (sv_R _ _) (fun c => absurd c hb) (fun _ => ?_)
    refine zr_iconst dL_law_524 ?_
    refine pr_goto (tgt := 529) dL_law_525 (by decide) ?_
    refine zw_v (as := [.int (zI (sv en (i + 1))), .int (zI 1)]) (rest := []) (nc := nc1) (ns := ns1) (mc := 0) (ms := 0) dL_law_529 pzm_8_161 pzt_X7_setBlock rfl rfl h1 (by decide) (by decide) (by decide) hR ?_
    refine pr_istore dL_law_532 (by decide) rfl ?_
    refine pr_aload_n dL_law_534 rfl ?_
    refine zw_v (as := []) (rest := []) (nc := nc1) (ns := ns1) (mc := 0) (ms := 0) dL_law_535 pzm_8_145 pzt_X7_thrown rfl rfl h2 (by decide) (by decide) (by decide) hT ?_
    refine pr_iload dL_law_538 rfl ?_
    refine zr_icmp_eq (tgt := 545) dL_law_540 (by decide) (by omega) (by omega) (fun _ => ?_) (fun c => absurd rfl c)
    refine pr_iload dL_law_545 rfl ?_
    refine zr_if_ne (tgt := 562) dL_law_547 (by decide) (by omega) (fun c => ?_) (fun c => ?_)
    · refine pr_goto (tgt := 2528) dL_law_562 (by decide) ?_
      exact hend _ _ _ _ _ _ _ hS2 l1 l2
    · refine pr_aload_n dL_law_550 rfl ?_
      refine zr_iconst dL_law_551 ?_
      refine pr_lald (k := 0) dL_law_552 ho (by decide) (by decide) ?_
      refine pr_iload dL_law_553 rfl ?_
      refine pr_i2l dL_law_555 ?_
      refine pr_lcmp dL_law_556 ?_
      rw [hw c, lg_cmp_rf]
      refine zr_if_eq (tgt := 562) dL_law_557 (by decide) (by decide) (fun _ => ?_) (fun c => absurd rfl c)
      refine pr_goto (tgt := 2528) dL_law_562 (by decide) ?_
      exact hend _ _ _ _ _ _ _ hS2 l1 l2
set_option maxRecDepth 100000 in
set_option maxHeartbeats 4000000 in
theorem it_6 (hL : en.2.1 ≤ 3072) (i0 : 0 ≤ i) (i1 : i + 6 ≤ (en.2.1 : Int)) (hS : gS g t r o) (hend : ∀ (g2 : pz_H) (l5 l6 l7 l8 : Option Value) (nc1 ns1 : Nat), gS g2 t r o → nc ≤ nc1 → ns ≤ ns1 → lW en 2528 (lL en (t 0) (r 0) o i l5 l6 l7 l8) [] g2 nc1 ns1) : lW en 565 (lL en (t 0) (r 0) o i none none none none) [] g (nc + 1) (ns + 6) := by
  by_cases hb : sv en (i + 2) = 0
  · skip
    obtain ⟨k, b, g1, g2, wo, f0, f1, f2, mc, ms, hmc, hk, h0, hW, h1, hR, h2, hT, ho, hw, hp, hS2⟩ : dO en 248 140 [.int (zI (sv en (i + 1))), .int (zI 0)] (fun b => b = zI 0 ∨ b = zI 1) g t r o := do_setProtected (sv_R en (i + 1)) (v := False) hS
    obtain ⟨nc1, ns1, e1, e2, l1, l2⟩ := bud (nc := nc) (ns := ns) hmc
    rw [e1, e2]
    refine pr_aload_n dL_law_565 rfl ?_
    refine pr_aload_n dL_law_566 rfl ?_
    refine pr_iload dL_law_567 rfl ?_
    refine zr_iconst dL_law_569 ?_
    refine zr_iadd dL_law_570 ?_
    refine zr_sld dL_law_571 (by omega) hL ?_
    refine pr_aload_n dL_law_572 rfl ?_
    refine pr_iload dL_law_573 rfl ?_
    refine zr_iconst dL_law_575 ?_
    refine zr_iadd dL_law_576 ?_
    refine zr_sld dL_law_577 (by omega) hL ?_
    refine zr_if_eq (tgt := 585) dL_law_578 (by decide) (sv_R _ _) (fun _ => ?_) (fun c => absurd hb c)
    refine zr_iconst dL_law_585 ?_
    refine pr_aload_n dL_law_586 rfl ?_
    refine zw_s (as := [.ref (t 0), .int (zI (sv en (i + 1))), .int (zI 0), .ref o]) (rest := []) dL_law_587 pzm_8_162 pzt_L_setProtected rfl rfl (by decide) (by decide) hW ?_
    refine pr_istore dL_law_590 (by decide) rfl ?_
    refine pr_aload_n dL_law_592 rfl ?_
    refine pr_aload_n dL_law_593 rfl ?_
    refine pr_iload dL_law_594 rfl ?_
    refine zr_iconst dL_law_596 ?_
    refine zr_iadd dL_law_597 ?_
    refine zr_sld dL_law_598 (by omega) hL ?_
    refine pr_aload_n dL_law_599 rfl ?_
    refine pr_iload dL_law_600 rfl ?_
    refine zr_iconst dL_law_602 ?_
    refine zr_iadd dL_law_603 ?_
    refine zr_sld dL_law_604 (by omega) hL ?_
    refine zr_if_eq (tgt := 612) dL_law_605 (by decide) (sv_R _ _) (fun _ => ?_) (fun c => absurd hb c)
    refine zr_iconst dL_law_612 ?_
    refine zw_v (as := [.int (zI (sv en (i + 1))), .int (zI 0)]) (rest := []) (nc := nc1) (ns := ns1) (mc := 0) (ms := 0) dL_law_613 pzm_8_164 pzt_X7_setProtected rfl rfl h1 (by decide) (by decide) (by decide) hR ?_
    refine pr_istore dL_law_616 (by decide) rfl ?_
    refine pr_aload_n dL_law_618 rfl ?_
    refine zw_v (as := []) (rest := []) (nc := nc1) (ns := ns1) (mc := 0) (ms := 0) dL_law_619 pzm_8_145 pzt_X7_thrown rfl rfl h2 (by decide) (by decide) (by decide) hT ?_
    refine pr_iload dL_law_622 rfl ?_
    refine zr_icmp_eq (tgt := 629) dL_law_624 (by decide) (by omega) (by omega) (fun _ => ?_) (fun c => absurd rfl c)
    refine pr_iload dL_law_629 rfl ?_
    refine zr_if_ne (tgt := 653) dL_law_631 (by decide) (by omega) (fun c => ?_) (fun c => ?_)
    · refine pr_goto (tgt := 2528) dL_law_653 (by decide) ?_
      exact hend _ _ _ _ _ _ _ hS2 l1 l2
    · refine pr_aload_n dL_law_634 rfl ?_
      refine zr_iconst dL_law_635 ?_
      refine pr_lald (k := 0) dL_law_636 ho (by decide) (by decide) ?_
      refine pr_iload dL_law_637 rfl ?_
      rcases hp with rfl | rfl
      · refine zr_if_eq (tgt := 646) dL_law_639 (by decide) (by decide) (fun _ => ?_) (fun c => absurd rfl c)
        refine pr_lconst (v := (zI 0).toInt64) dL_law_646 (by decide) ?_
        refine pr_lcmp dL_law_647 ?_
        rw [hw c, lg_cmp_rf]
        refine zr_if_eq (tgt := 653) dL_law_648 (by decide) (by decide) (fun _ => ?_) (fun c => absurd rfl c)
        refine pr_goto (tgt := 2528) dL_law_653 (by decide) ?_
        exact hend _ _ _ _ _ _ _ hS2 l1 l2
      · refine zr_if_eq (tgt := 646) dL_law_639 (by decide) (by decide) (fun c => absurd c (by decide)) (fun _ => ?_)
        refine pr_lconst (v := (zI 1).toInt64) dL_law_642 (by decide) ?_
        refine pr_goto (tgt := 647) dL_law_643 (by decide) ?_
        refine pr_lcmp dL_law_647 ?_
        rw [hw c, lg_cmp_rf]
        refine zr_if_eq (tgt := 653) dL_law_648 (by decide) (by decide) (fun _ => ?_) (fun c => absurd rfl c)
        refine pr_goto (tgt := 2528) dL_law_653 (by decide) ?_
        exact hend _ _ _ _ _ _ _ hS2 l1 l2
  · skip
    obtain ⟨k, b, g1, g2, wo, f0, f1, f2, mc, ms, hmc, hk, h0, hW, h1, hR, h2, hT, ho, hw, hp, hS2⟩ : dO en 248 140 [.int (zI (sv en (i + 1))), .int (zI 1)] (fun b => b = zI 0 ∨ b = zI 1) g t r o := do_setProtected (sv_R en (i + 1)) (v := True) hS
    obtain ⟨nc1, ns1, e1, e2, l1, l2⟩ := bud (nc := nc) (ns := ns) hmc
    rw [e1, e2]
    refine pr_aload_n dL_law_565 rfl ?_
    refine pr_aload_n dL_law_566 rfl ?_
    refine pr_iload dL_law_567 rfl ?_
    refine zr_iconst dL_law_569 ?_
    refine zr_iadd dL_law_570 ?_
    refine zr_sld dL_law_571 (by omega) hL ?_
    refine pr_aload_n dL_law_572 rfl ?_
    refine pr_iload dL_law_573 rfl ?_
    refine zr_iconst dL_law_575 ?_
    refine zr_iadd dL_law_576 ?_
    refine zr_sld dL_law_577 (by omega) hL ?_
    refine zr_if_eq (tgt := 585) dL_law_578 (by decide) (sv_R _ _) (fun c => absurd c hb) (fun _ => ?_)
    refine zr_iconst dL_law_581 ?_
    refine pr_goto (tgt := 586) dL_law_582 (by decide) ?_
    refine pr_aload_n dL_law_586 rfl ?_
    refine zw_s (as := [.ref (t 0), .int (zI (sv en (i + 1))), .int (zI 1), .ref o]) (rest := []) dL_law_587 pzm_8_162 pzt_L_setProtected rfl rfl (by decide) (by decide) hW ?_
    refine pr_istore dL_law_590 (by decide) rfl ?_
    refine pr_aload_n dL_law_592 rfl ?_
    refine pr_aload_n dL_law_593 rfl ?_
    refine pr_iload dL_law_594 rfl ?_
    refine zr_iconst dL_law_596 ?_
    refine zr_iadd dL_law_597 ?_
    refine zr_sld dL_law_598 (by omega) hL ?_
    refine pr_aload_n dL_law_599 rfl ?_
    refine pr_iload dL_law_600 rfl ?_
    refine zr_iconst dL_law_602 ?_
    refine zr_iadd dL_law_603 ?_
    refine zr_sld dL_law_604 (by omega) hL ?_
    refine zr_if_eq (tgt := 612) dL_law_605 (by decide) (sv_R _ _) (fun c => absurd c hb) (fun _ => ?_)
    refine zr_iconst dL_law_608 ?_
    refine pr_goto (tgt := 613) dL_law_609 (by decide) ?_
    refine zw_v (as := [.int (zI (sv en (i + 1))), .int (zI 1)]) (rest := []) (nc := nc1) (ns := ns1) (mc := 0) (ms := 0) dL_law_613 pzm_8_164 pzt_X7_setProtected rfl rfl h1 (by decide) (by decide) (by decide) hR ?_
    refine pr_istore dL_law_616 (by decide) rfl ?_
    refine pr_aload_n dL_law_618 rfl ?_
    refine zw_v (as := []) (rest := []) (nc := nc1) (ns := ns1) (mc := 0) (ms := 0) dL_law_619 pzm_8_145 pzt_X7_thrown rfl rfl h2 (by decide) (by decide) (by decide) hT ?_
    refine pr_iload dL_law_622 rfl ?_
    refine zr_icmp_eq (tgt := 629) dL_law_624 (by decide) (by omega) (by omega) (fun _ => ?_) (fun c => absurd rfl c)
    refine pr_iload dL_law_629 rfl ?_
    refine zr_if_ne (tgt := 653) dL_law_631 (by decide) (by omega) (fun c => ?_) (fun c => ?_)
    · refine pr_goto (tgt := 2528) dL_law_653 (by decide) ?_
      exact hend _ _ _ _ _ _ _ hS2 l1 l2
    · refine pr_aload_n dL_law_634 rfl ?_
      refine zr_iconst dL_law_635 ?_
      refine pr_lald (k := 0) dL_law_636 ho (by decide) (by decide) ?_
      refine pr_iload dL_law_637 rfl ?_
      rcases hp with rfl | rfl
      · refine zr_if_eq (tgt := 646) dL_law_639 (by decide) (by decide) (fun _ => ?_) (fun c => absurd rfl c)
        refine pr_lconst (v := (zI 0).toInt64) dL_law_646 (by decide) ?_
        refine pr_lcmp dL_law_647 ?_
        rw [hw c, lg_cmp_rf]
        refine zr_if_eq (tgt := 653) dL_law_648 (by decide) (by decide) (fun _ => ?_) (fun c => absurd rfl c)
        refine pr_goto (tgt := 2528) dL_law_653 (by decide) ?_
        exact hend _ _ _ _ _ _ _ hS2 l1 l2
      · refine zr_if_eq (tgt := 646) dL_law_639 (by decide) (by decide) (fun c => absurd c (by decide)) (fun _ => ?_)
        refine pr_lconst (v := (zI 1).toInt64) dL_law_642 (by decide) ?_
        refine pr_goto (tgt := 647) dL_law_643 (by decide) ?_
        refine pr_lcmp dL_law_647 ?_
        rw [hw c, lg_cmp_rf]
        refine zr_if_eq (tgt := 653) dL_law_648 (by decide) (by decide) (fun _ => ?_) (fun c => absurd rfl c)
        refine pr_goto (tgt := 2528) dL_law_653 (by decide) ?_
        exact hend _ _ _ _ _ _ _ hS2 l1 l2
set_option maxRecDepth 100000 in
set_option maxHeartbeats 4000000 in
theorem it_7 (hL : en.2.1 ≤ 3072) (i0 : 0 ≤ i) (i1 : i + 6 ≤ (en.2.1 : Int)) (hS : gS g t r o) (hend : ∀ (g2 : pz_H) (l5 l6 l7 l8 : Option Value) (nc1 ns1 : Nat), gS g2 t r o → nc ≤ nc1 → ns ≤ ns1 → lW en 2528 (lL en (t 0) (r 0) o i l5 l6 l7 l8) [] g2 nc1 ns1) : lW en 656 (lL en (t 0) (r 0) o i none none none none) [] g (nc + 1) (ns + 6) := by
  by_cases hb : sv en (i + 3) = 0
  · skip
    obtain ⟨k, b, g1, g2, wo, f0, f1, f2, mc, ms, hmc, hk, h0, hW, h1, hR, h2, hT, ho, hw, hp, hS2⟩ : dO en 249 142 [.int (zI (sv en (i + 1))), .int (zI (sv en (i + 2))), .int (zI 0), .int (zI (sv en (i + 4)))] (fun _ => True) g t r o := do_setPart (sv_R en (i + 1)) (sv_R en (i + 2)) (sv_R en (i + 4)) (dl := False) hS
    obtain ⟨nc1, ns1, e1, e2, l1, l2⟩ := bud (nc := nc) (ns := ns) hmc
    rw [e1, e2]
    refine pr_aload_n dL_law_656 rfl ?_
    refine pr_aload_n dL_law_657 rfl ?_
    refine pr_iload dL_law_658 rfl ?_
    refine zr_iconst dL_law_660 ?_
    refine zr_iadd dL_law_661 ?_
    refine zr_sld dL_law_662 (by omega) hL ?_
    refine pr_aload_n dL_law_663 rfl ?_
    refine pr_iload dL_law_664 rfl ?_
    refine zr_iconst dL_law_666 ?_
    refine zr_iadd dL_law_667 ?_
    refine zr_sld dL_law_668 (by omega) hL ?_
    refine pr_aload_n dL_law_669 rfl ?_
    refine pr_iload dL_law_670 rfl ?_
    refine zr_iconst dL_law_672 ?_
    refine zr_iadd dL_law_673 ?_
    refine zr_sld dL_law_674 (by omega) hL ?_
    refine zr_if_eq (tgt := 682) dL_law_675 (by decide) (sv_R _ _) (fun _ => ?_) (fun c => absurd hb c)
    refine zr_iconst dL_law_682 ?_
    refine pr_aload_n dL_law_683 rfl ?_
    refine pr_iload dL_law_684 rfl ?_
    refine zr_iconst dL_law_686 ?_
    refine zr_iadd dL_law_687 ?_
    refine zr_sld dL_law_688 (by omega) hL ?_
    refine pr_aload_n dL_law_689 rfl ?_
    refine zw_s (as := [.ref (t 0), .int (zI (sv en (i + 1))), .int (zI (sv en (i + 2))), .int (zI 0), .int (zI (sv en (i + 4))), .ref o]) (rest := []) dL_law_690 pzm_8_165 pzt_L_setPart rfl rfl (by decide) (by decide) hW ?_
    refine pr_istore dL_law_693 (by decide) rfl ?_
    refine pr_aload_n dL_law_695 rfl ?_
    refine pr_aload_n dL_law_696 rfl ?_
    refine pr_iload dL_law_697 rfl ?_
    refine zr_iconst dL_law_699 ?_
    refine zr_iadd dL_law_700 ?_
    refine zr_sld dL_law_701 (by omega) hL ?_
    refine pr_aload_n dL_law_702 rfl ?_
    refine pr_iload dL_law_703 rfl ?_
    refine zr_iconst dL_law_705 ?_
    refine zr_iadd dL_law_706 ?_
    refine zr_sld dL_law_707 (by omega) hL ?_
    refine pr_aload_n dL_law_708 rfl ?_
    refine pr_iload dL_law_709 rfl ?_
    refine zr_iconst dL_law_711 ?_
    refine zr_iadd dL_law_712 ?_
    refine zr_sld dL_law_713 (by omega) hL ?_
    refine zr_if_eq (tgt := 721) dL_law_714 (by decide) (sv_R _ _) (fun _ => ?_) (fun c => absurd hb c)
    refine zr_iconst dL_law_721 ?_
    refine pr_aload_n dL_law_722 rfl ?_
    refine pr_iload dL_law_723 rfl ?_
    refine zr_iconst dL_law_725 ?_
    refine zr_iadd dL_law_726 ?_
    refine zr_sld dL_law_727 (by omega) hL ?_
    refine zw_v (as := [.int (zI (sv en (i + 1))), .int (zI (sv en (i + 2))), .int (zI 0), .int (zI (sv en (i + 4)))]) (rest := []) (nc := nc1) (ns := ns1) (mc := 0) (ms := 0) dL_law_728 pzm_8_168 pzt_X7_setPart rfl rfl h1 (by decide) (by decide) (by decide) hR ?_
    refine pr_istore dL_law_731 (by decide) rfl ?_
    refine pr_aload_n dL_law_733 rfl ?_
    refine zw_v (as := []) (rest := []) (nc := nc1) (ns := ns1) (mc := 0) (ms := 0) dL_law_734 pzm_8_145 pzt_X7_thrown rfl rfl h2 (by decide) (by decide) (by decide) hT ?_
    refine pr_iload dL_law_737 rfl ?_
    refine zr_icmp_eq (tgt := 744) dL_law_739 (by decide) (by omega) (by omega) (fun _ => ?_) (fun c => absurd rfl c)
    refine pr_iload dL_law_744 rfl ?_
    refine zr_if_ne (tgt := 761) dL_law_746 (by decide) (by omega) (fun c => ?_) (fun c => ?_)
    · refine pr_goto (tgt := 2528) dL_law_761 (by decide) ?_
      exact hend _ _ _ _ _ _ _ hS2 l1 l2
    · refine pr_aload_n dL_law_749 rfl ?_
      refine zr_iconst dL_law_750 ?_
      refine pr_lald (k := 0) dL_law_751 ho (by decide) (by decide) ?_
      refine pr_iload dL_law_752 rfl ?_
      refine pr_i2l dL_law_754 ?_
      refine pr_lcmp dL_law_755 ?_
      rw [hw c, lg_cmp_rf]
      refine zr_if_eq (tgt := 761) dL_law_756 (by decide) (by decide) (fun _ => ?_) (fun c => absurd rfl c)
      refine pr_goto (tgt := 2528) dL_law_761 (by decide) ?_
      exact hend _ _ _ _ _ _ _ hS2 l1 l2
  · skip
    obtain ⟨k, b, g1, g2, wo, f0, f1, f2, mc, ms, hmc, hk, h0, hW, h1, hR, h2, hT, ho, hw, hp, hS2⟩ : dO en 249 142 [.int (zI (sv en (i + 1))), .int (zI (sv en (i + 2))), .int (zI 1), .int (zI (sv en (i + 4)))] (fun _ => True) g t r o := do_setPart (sv_R en (i + 1)) (sv_R en (i + 2)) (sv_R en (i + 4)) (dl := True) hS
    obtain ⟨nc1, ns1, e1, e2, l1, l2⟩ := bud (nc := nc) (ns := ns) hmc
    rw [e1, e2]
    refine pr_aload_n dL_law_656 rfl ?_
    refine pr_aload_n dL_law_657 rfl ?_
    refine pr_iload dL_law_658 rfl ?_
    refine zr_iconst dL_law_660 ?_
    refine zr_iadd dL_law_661 ?_
    refine zr_sld dL_law_662 (by omega) hL ?_
    refine pr_aload_n dL_law_663 rfl ?_
    refine pr_iload dL_law_664 rfl ?_
    refine zr_iconst dL_law_666 ?_
    refine zr_iadd dL_law_667 ?_
    refine zr_sld dL_law_668 (by omega) hL ?_
    refine pr_aload_n dL_law_669 rfl ?_
    refine pr_iload dL_law_670 rfl ?_
    refine zr_iconst dL_law_672 ?_
    refine zr_iadd dL_law_673 ?_
    refine zr_sld dL_law_674 (by omega) hL ?_
    refine zr_if_eq (tgt := 682) dL_law_675 (by decide) (sv_R _ _) (fun c => absurd c hb) (fun _ => ?_)
    refine zr_iconst dL_law_678 ?_
    refine pr_goto (tgt := 683) dL_law_679 (by decide) ?_
    refine pr_aload_n dL_law_683 rfl ?_
    refine pr_iload dL_law_684 rfl ?_
    refine zr_iconst dL_law_686 ?_
    refine zr_iadd dL_law_687 ?_
    refine zr_sld dL_law_688 (by omega) hL ?_
    refine pr_aload_n dL_law_689 rfl ?_
    refine zw_s (as := [.ref (t 0), .int (zI (sv en (i + 1))), .int (zI (sv en (i + 2))), .int (zI 1), .int (zI (sv en (i + 4))), .ref o]) (rest := []) dL_law_690 pzm_8_165 pzt_L_setPart rfl rfl (by decide) (by decide) hW ?_
    refine pr_istore dL_law_693 (by decide) rfl ?_
    refine pr_aload_n dL_law_695 rfl ?_
    refine pr_aload_n dL_law_696 rfl ?_
    refine pr_iload dL_law_697 rfl ?_
    refine zr_iconst dL_law_699 ?_
    refine zr_iadd dL_law_700 ?_
    refine zr_sld dL_law_701 (by omega) hL ?_
    refine pr_aload_n dL_law_702 rfl ?_
    refine pr_iload dL_law_703 rfl ?_
    refine zr_iconst dL_law_705 ?_
    refine zr_iadd dL_law_706 ?_
    refine zr_sld dL_law_707 (by omega) hL ?_
    refine pr_aload_n dL_law_708 rfl ?_
    refine pr_iload dL_law_709 rfl ?_
    refine zr_iconst dL_law_711 ?_
    refine zr_iadd dL_law_712 ?_
    refine zr_sld dL_law_713 (by omega) hL ?_
    refine zr_if_eq (tgt := 721) dL_law_714 (by decide) (sv_R _ _) (fun c => absurd c hb) (fun _ => ?_)
    refine zr_iconst dL_law_717 ?_
    refine pr_goto (tgt := 722) dL_law_718 (by decide) ?_
    refine pr_aload_n dL_law_722 rfl ?_
    refine pr_iload dL_law_723 rfl ?_
    refine zr_iconst dL_law_725 ?_
    refine zr_iadd dL_law_726 ?_
    refine zr_sld dL_law_727 (by omega) hL ?_
    refine zw_v (as := [.int (zI (sv en (i + 1))), .int (zI (sv en (i + 2))), .int (zI 1), .int (zI (sv en (i + 4)))]) (rest := []) (nc := nc1) (ns := ns1) (mc := 0) (ms := 0) dL_law_728 pzm_8_168 pzt_X7_setPart rfl rfl h1 (by decide) (by decide) (by decide) hR ?_
    refine pr_istore dL_law_731 (by decide) rfl ?_
    refine pr_aload_n dL_law_733 rfl ?_
    refine zw_v (as := []) (rest := []) (nc := nc1) (ns := ns1) (mc := 0) (ms := 0) dL_law_734 pzm_8_145 pzt_X7_thrown rfl rfl h2 (by decide) (by decide) (by decide) hT ?_
    refine pr_iload dL_law_737 rfl ?_
    refine zr_icmp_eq (tgt := 744) dL_law_739 (by decide) (by omega) (by omega) (fun _ => ?_) (fun c => absurd rfl c)
    refine pr_iload dL_law_744 rfl ?_
    refine zr_if_ne (tgt := 761) dL_law_746 (by decide) (by omega) (fun c => ?_) (fun c => ?_)
    · refine pr_goto (tgt := 2528) dL_law_761 (by decide) ?_
      exact hend _ _ _ _ _ _ _ hS2 l1 l2
    · refine pr_aload_n dL_law_749 rfl ?_
      refine zr_iconst dL_law_750 ?_
      refine pr_lald (k := 0) dL_law_751 ho (by decide) (by decide) ?_
      refine pr_iload dL_law_752 rfl ?_
      refine pr_i2l dL_law_754 ?_
      refine pr_lcmp dL_law_755 ?_
      rw [hw c, lg_cmp_rf]
      refine zr_if_eq (tgt := 761) dL_law_756 (by decide) (by decide) (fun _ => ?_) (fun c => absurd rfl c)
      refine pr_goto (tgt := 2528) dL_law_761 (by decide) ?_
      exact hend _ _ _ _ _ _ _ hS2 l1 l2
set_option maxRecDepth 100000 in
set_option maxHeartbeats 4000000 in
theorem it_8 (hL : en.2.1 ≤ 3072) (i0 : 0 ≤ i) (i1 : i + 6 ≤ (en.2.1 : Int)) (hS : gS g t r o) (hend : ∀ (g2 : pz_H) (l5 l6 l7 l8 : Option Value) (nc1 ns1 : Nat), gS g2 t r o → nc ≤ nc1 → ns ≤ ns1 → lW en 2528 (lL en (t 0) (r 0) o i l5 l6 l7 l8) [] g2 nc1 ns1) : lW en 764 (lL en (t 0) (r 0) o i none none none none) [] g (nc + 1) (ns + 6) := by
  obtain ⟨k, b, g1, g2, wo, f0, f1, f2, mc, ms, hmc, hk, h0, hW, h1, hR, h2, hT, ho, hw, hp, hS2⟩ : dO en 216 153 [.int (zI (sv en (i + 1))), .int (zI (sv en (i + 2)))] (fun _ => True) g t r o := do_cue (sv_R en (i + 1)) (sv_R en (i + 2)) hS
  obtain ⟨nc1, ns1, e1, e2, l1, l2⟩ := bud (nc := nc) (ns := ns) hmc
  rw [e1, e2]
  refine pr_aload_n dL_law_764 rfl ?_
  refine pr_aload_n dL_law_765 rfl ?_
  refine pr_iload dL_law_766 rfl ?_
  refine zr_iconst dL_law_768 ?_
  refine zr_iadd dL_law_769 ?_
  refine zr_sld dL_law_770 (by omega) hL ?_
  refine pr_aload_n dL_law_771 rfl ?_
  refine pr_iload dL_law_772 rfl ?_
  refine zr_iconst dL_law_774 ?_
  refine zr_iadd dL_law_775 ?_
  refine zr_sld dL_law_776 (by omega) hL ?_
  refine pr_aload_n dL_law_777 rfl ?_
  refine zw_s (as := [.ref (t 0), .int (zI (sv en (i + 1))), .int (zI (sv en (i + 2))), .ref o]) (rest := []) dL_law_778 pzm_8_169 pzt_L_cue rfl rfl (by decide) (by decide) hW ?_
  refine pr_istore dL_law_781 (by decide) rfl ?_
  refine pr_aload_n dL_law_783 rfl ?_
  refine pr_aload_n dL_law_784 rfl ?_
  refine pr_iload dL_law_785 rfl ?_
  refine zr_iconst dL_law_787 ?_
  refine zr_iadd dL_law_788 ?_
  refine zr_sld dL_law_789 (by omega) hL ?_
  refine pr_aload_n dL_law_790 rfl ?_
  refine pr_iload dL_law_791 rfl ?_
  refine zr_iconst dL_law_793 ?_
  refine zr_iadd dL_law_794 ?_
  refine zr_sld dL_law_795 (by omega) hL ?_
  refine zw_v (as := [.int (zI (sv en (i + 1))), .int (zI (sv en (i + 2)))]) (rest := []) (nc := nc1) (ns := ns1) (mc := 0) (ms := 0) dL_law_796 pzm_8_171 pzt_X7_cue rfl rfl h1 (by decide) (by decide) (by decide) hR ?_
  refine pr_istore dL_law_799 (by decide) rfl ?_
  refine pr_aload_n dL_law_801 rfl ?_
  refine zw_v (as := []) (rest := []) (nc := nc1) (ns := ns1) (mc := 0) (ms := 0) dL_law_802 pzm_8_145 pzt_X7_thrown rfl rfl h2 (by decide) (by decide) (by decide) hT ?_
  refine pr_iload dL_law_805 rfl ?_
  refine zr_icmp_eq (tgt := 812) dL_law_807 (by decide) (by omega) (by omega) (fun _ => ?_) (fun c => absurd rfl c)
  refine pr_iload dL_law_812 rfl ?_
  refine zr_if_ne (tgt := 829) dL_law_814 (by decide) (by omega) (fun c => ?_) (fun c => ?_)
  · refine pr_goto (tgt := 2528) dL_law_829 (by decide) ?_
    exact hend _ _ _ _ _ _ _ hS2 l1 l2
  · refine pr_aload_n dL_law_817 rfl ?_
    refine zr_iconst dL_law_818 ?_
    refine pr_lald (k := 0) dL_law_819 ho (by decide) (by decide) ?_
    refine pr_iload dL_law_820 rfl ?_
    refine pr_i2l dL_law_822 ?_
    refine pr_lcmp dL_law_823 ?_
    rw [hw c, lg_cmp_rf]
    refine zr_if_eq (tgt := 829) dL_law_824 (by decide) (by decide) (fun _ => ?_) (fun c => absurd rfl c)
    refine pr_goto (tgt := 2528) dL_law_829 (by decide) ?_
    exact hend _ _ _ _ _ _ _ hS2 l1 l2
set_option maxRecDepth 100000 in
set_option maxHeartbeats 4000000 in
theorem it_9 (hL : en.2.1 ≤ 3072) (i0 : 0 ≤ i) (i1 : i + 6 ≤ (en.2.1 : Int)) (hS : gS g t r o) (hend : ∀ (g2 : pz_H) (l5 l6 l7 l8 : Option Value) (nc1 ns1 : Nat), gS g2 t r o → nc ≤ nc1 → ns ≤ ns1 → lW en 2528 (lL en (t 0) (r 0) o i l5 l6 l7 l8) [] g2 nc1 ns1) : lW en 832 (lL en (t 0) (r 0) o i none none none none) [] g (nc + 1) (ns + 6) := by
  by_cases hb : sv en (i + 3) = 0
  · skip
    obtain ⟨k, b, g1, g2, wo, f0, f1, f2, mc, ms, hmc, hk, h0, hW, h1, hR, h2, hT, ho, hw, hp, hS2⟩ : dO en 217 143 [.int (zI (sv en (i + 1))), .int (zI (sv en (i + 2))), .int (zI 0)] (fun _ => True) g t r o := do_part (sv_R en (i + 1)) (sv_R en (i + 2)) (dl := False) hS
    obtain ⟨nc1, ns1, e1, e2, l1, l2⟩ := bud (nc := nc) (ns := ns) hmc
    rw [e1, e2]
    refine pr_aload_n dL_law_832 rfl ?_
    refine pr_aload_n dL_law_833 rfl ?_
    refine pr_iload dL_law_834 rfl ?_
    refine zr_iconst dL_law_836 ?_
    refine zr_iadd dL_law_837 ?_
    refine zr_sld dL_law_838 (by omega) hL ?_
    refine pr_aload_n dL_law_839 rfl ?_
    refine pr_iload dL_law_840 rfl ?_
    refine zr_iconst dL_law_842 ?_
    refine zr_iadd dL_law_843 ?_
    refine zr_sld dL_law_844 (by omega) hL ?_
    refine pr_aload_n dL_law_845 rfl ?_
    refine pr_iload dL_law_846 rfl ?_
    refine zr_iconst dL_law_848 ?_
    refine zr_iadd dL_law_849 ?_
    refine zr_sld dL_law_850 (by omega) hL ?_
    refine zr_if_eq (tgt := 858) dL_law_851 (by decide) (sv_R _ _) (fun _ => ?_) (fun c => absurd hb c)
    refine zr_iconst dL_law_858 ?_
    refine pr_aload_n dL_law_859 rfl ?_
    refine zw_s (as := [.ref (t 0), .int (zI (sv en (i + 1))), .int (zI (sv en (i + 2))), .int (zI 0), .ref o]) (rest := []) dL_law_860 pzm_8_172 pzt_L_part rfl rfl (by decide) (by decide) hW ?_
    refine pr_istore dL_law_863 (by decide) rfl ?_
    refine pr_aload_n dL_law_865 rfl ?_
    refine pr_aload_n dL_law_866 rfl ?_
    refine pr_iload dL_law_867 rfl ?_
    refine zr_iconst dL_law_869 ?_
    refine zr_iadd dL_law_870 ?_
    refine zr_sld dL_law_871 (by omega) hL ?_
    refine pr_aload_n dL_law_872 rfl ?_
    refine pr_iload dL_law_873 rfl ?_
    refine zr_iconst dL_law_875 ?_
    refine zr_iadd dL_law_876 ?_
    refine zr_sld dL_law_877 (by omega) hL ?_
    refine pr_aload_n dL_law_878 rfl ?_
    refine pr_iload dL_law_879 rfl ?_
    refine zr_iconst dL_law_881 ?_
    refine zr_iadd dL_law_882 ?_
    refine zr_sld dL_law_883 (by omega) hL ?_
    refine zr_if_eq (tgt := 891) dL_law_884 (by decide) (sv_R _ _) (fun _ => ?_) (fun c => absurd hb c)
    refine zr_iconst dL_law_891 ?_
    refine zw_v (as := [.int (zI (sv en (i + 1))), .int (zI (sv en (i + 2))), .int (zI 0)]) (rest := []) (nc := nc1) (ns := ns1) (mc := 0) (ms := 0) dL_law_892 pzm_8_175 pzt_X7_part rfl rfl h1 (by decide) (by decide) (by decide) hR ?_
    refine pr_istore dL_law_895 (by decide) rfl ?_
    refine pr_aload_n dL_law_897 rfl ?_
    refine zw_v (as := []) (rest := []) (nc := nc1) (ns := ns1) (mc := 0) (ms := 0) dL_law_898 pzm_8_145 pzt_X7_thrown rfl rfl h2 (by decide) (by decide) (by decide) hT ?_
    refine pr_iload dL_law_901 rfl ?_
    refine zr_icmp_eq (tgt := 908) dL_law_903 (by decide) (by omega) (by omega) (fun _ => ?_) (fun c => absurd rfl c)
    refine pr_iload dL_law_908 rfl ?_
    refine zr_if_ne (tgt := 925) dL_law_910 (by decide) (by omega) (fun c => ?_) (fun c => ?_)
    · refine pr_goto (tgt := 2528) dL_law_925 (by decide) ?_
      exact hend _ _ _ _ _ _ _ hS2 l1 l2
    · refine pr_aload_n dL_law_913 rfl ?_
      refine zr_iconst dL_law_914 ?_
      refine pr_lald (k := 0) dL_law_915 ho (by decide) (by decide) ?_
      refine pr_iload dL_law_916 rfl ?_
      refine pr_i2l dL_law_918 ?_
      refine pr_lcmp dL_law_919 ?_
      rw [hw c, lg_cmp_rf]
      refine zr_if_eq (tgt := 925) dL_law_920 (by decide) (by decide) (fun _ => ?_) (fun c => absurd rfl c)
      refine pr_goto (tgt := 2528) dL_law_925 (by decide) ?_
      exact hend _ _ _ _ _ _ _ hS2 l1 l2
  · skip
    obtain ⟨k, b, g1, g2, wo, f0, f1, f2, mc, ms, hmc, hk, h0, hW, h1, hR, h2, hT, ho, hw, hp, hS2⟩ : dO en 217 143 [.int (zI (sv en (i + 1))), .int (zI (sv en (i + 2))), .int (zI 1)] (fun _ => True) g t r o := do_part (sv_R en (i + 1)) (sv_R en (i + 2)) (dl := True) hS
    obtain ⟨nc1, ns1, e1, e2, l1, l2⟩ := bud (nc := nc) (ns := ns) hmc
    rw [e1, e2]
    refine pr_aload_n dL_law_832 rfl ?_
    refine pr_aload_n dL_law_833 rfl ?_
    refine pr_iload dL_law_834 rfl ?_
    refine zr_iconst dL_law_836 ?_
    refine zr_iadd dL_law_837 ?_
    refine zr_sld dL_law_838 (by omega) hL ?_
    refine pr_aload_n dL_law_839 rfl ?_
    refine pr_iload dL_law_840 rfl ?_
    refine zr_iconst dL_law_842 ?_
    refine zr_iadd dL_law_843 ?_
    refine zr_sld dL_law_844 (by omega) hL ?_
    refine pr_aload_n dL_law_845 rfl ?_
    refine pr_iload dL_law_846 rfl ?_
    refine zr_iconst dL_law_848 ?_
    refine zr_iadd dL_law_849 ?_
    refine zr_sld dL_law_850 (by omega) hL ?_
    refine zr_if_eq (tgt := 858) dL_law_851 (by decide) (sv_R _ _) (fun c => absurd c hb) (fun _ => ?_)
    refine zr_iconst dL_law_854 ?_
    refine pr_goto (tgt := 859) dL_law_855 (by decide) ?_
    refine pr_aload_n dL_law_859 rfl ?_
    refine zw_s (as := [.ref (t 0), .int (zI (sv en (i + 1))), .int (zI (sv en (i + 2))), .int (zI 1), .ref o]) (rest := []) dL_law_860 pzm_8_172 pzt_L_part rfl rfl (by decide) (by decide) hW ?_
    refine pr_istore dL_law_863 (by decide) rfl ?_
    refine pr_aload_n dL_law_865 rfl ?_
    refine pr_aload_n dL_law_866 rfl ?_
    refine pr_iload dL_law_867 rfl ?_
    refine zr_iconst dL_law_869 ?_
    refine zr_iadd dL_law_870 ?_
    refine zr_sld dL_law_871 (by omega) hL ?_
    refine pr_aload_n dL_law_872 rfl ?_
    refine pr_iload dL_law_873 rfl ?_
    refine zr_iconst dL_law_875 ?_
    refine zr_iadd dL_law_876 ?_
    refine zr_sld dL_law_877 (by omega) hL ?_
    refine pr_aload_n dL_law_878 rfl ?_
    refine pr_iload dL_law_879 rfl ?_
    refine zr_iconst dL_law_881 ?_
    refine zr_iadd dL_law_882 ?_
    refine zr_sld dL_law_883 (by omega) hL ?_
    refine zr_if_eq (tgt := 891) dL_law_884 (by decide) (sv_R _ _) (fun c => absurd c hb) (fun _ => ?_)
    refine zr_iconst dL_law_887 ?_
    refine pr_goto (tgt := 892) dL_law_888 (by decide) ?_
    refine zw_v (as := [.int (zI (sv en (i + 1))), .int (zI (sv en (i + 2))), .int (zI 1)]) (rest := []) (nc := nc1) (ns := ns1) (mc := 0) (ms := 0) dL_law_892 pzm_8_175 pzt_X7_part rfl rfl h1 (by decide) (by decide) (by decide) hR ?_
    refine pr_istore dL_law_895 (by decide) rfl ?_
    refine pr_aload_n dL_law_897 rfl ?_
    refine zw_v (as := []) (rest := []) (nc := nc1) (ns := ns1) (mc := 0) (ms := 0) dL_law_898 pzm_8_145 pzt_X7_thrown rfl rfl h2 (by decide) (by decide) (by decide) hT ?_
    refine pr_iload dL_law_901 rfl ?_
    refine zr_icmp_eq (tgt := 908) dL_law_903 (by decide) (by omega) (by omega) (fun _ => ?_) (fun c => absurd rfl c)
    refine pr_iload dL_law_908 rfl ?_
    refine zr_if_ne (tgt := 925) dL_law_910 (by decide) (by omega) (fun c => ?_) (fun c => ?_)
    · refine pr_goto (tgt := 2528) dL_law_925 (by decide) ?_
      exact hend _ _ _ _ _ _ _ hS2 l1 l2
    · refine pr_aload_n dL_law_913 rfl ?_
      refine zr_iconst dL_law_914 ?_
      refine pr_lald (k := 0) dL_law_915 ho (by decide) (by decide) ?_
      refine pr_iload dL_law_916 rfl ?_
      refine pr_i2l dL_law_918 ?_
      refine pr_lcmp dL_law_919 ?_
      rw [hw c, lg_cmp_rf]
      refine zr_if_eq (tgt := 925) dL_law_920 (by decide) (by decide) (fun _ => ?_) (fun c => absurd rfl c)
      refine pr_goto (tgt := 2528) dL_law_925 (by decide) ?_
      exact hend _ _ _ _ _ _ _ hS2 l1 l2
set_option maxRecDepth 100000 in
set_option maxHeartbeats 4000000 in
theorem it_10 (hL : en.2.1 ≤ 3072) (i0 : 0 ≤ i) (i1 : i + 6 ≤ (en.2.1 : Int)) (hS : gS g t r o) (hend : ∀ (g2 : pz_H) (l5 l6 l7 l8 : Option Value) (nc1 ns1 : Nat), gS g2 t r o → nc ≤ nc1 → ns ≤ ns1 → lW en 2528 (lL en (t 0) (r 0) o i l5 l6 l7 l8) [] g2 nc1 ns1) : lW en 928 (lL en (t 0) (r 0) o i none none none none) [] g (nc + 1) (ns + 6) := by
  obtain ⟨k, b, g1, g2, wo, f0, f1, f2, mc, ms, hmc, hk, h0, hW, h1, hR, h2, hT, ho, hw, hp, hS2⟩ : dO en 218 154 [.int (zI (sv en (i + 1))), .int (zI (sv en (i + 2)))] (fun _ => True) g t r o := do_setHome (sv_R en (i + 1)) (sv_R en (i + 2)) hS
  obtain ⟨nc1, ns1, e1, e2, l1, l2⟩ := bud (nc := nc) (ns := ns) hmc
  rw [e1, e2]
  refine pr_aload_n dL_law_928 rfl ?_
  refine pr_aload_n dL_law_929 rfl ?_
  refine pr_iload dL_law_930 rfl ?_
  refine zr_iconst dL_law_932 ?_
  refine zr_iadd dL_law_933 ?_
  refine zr_sld dL_law_934 (by omega) hL ?_
  refine pr_aload_n dL_law_935 rfl ?_
  refine pr_iload dL_law_936 rfl ?_
  refine zr_iconst dL_law_938 ?_
  refine zr_iadd dL_law_939 ?_
  refine zr_sld dL_law_940 (by omega) hL ?_
  refine pr_aload_n dL_law_941 rfl ?_
  refine zw_s (as := [.ref (t 0), .int (zI (sv en (i + 1))), .int (zI (sv en (i + 2))), .ref o]) (rest := []) dL_law_942 pzm_8_176 pzt_L_setHome rfl rfl (by decide) (by decide) hW ?_
  refine pr_istore dL_law_945 (by decide) rfl ?_
  refine pr_aload_n dL_law_947 rfl ?_
  refine pr_aload_n dL_law_948 rfl ?_
  refine pr_iload dL_law_949 rfl ?_
  refine zr_iconst dL_law_951 ?_
  refine zr_iadd dL_law_952 ?_
  refine zr_sld dL_law_953 (by omega) hL ?_
  refine pr_aload_n dL_law_954 rfl ?_
  refine pr_iload dL_law_955 rfl ?_
  refine zr_iconst dL_law_957 ?_
  refine zr_iadd dL_law_958 ?_
  refine zr_sld dL_law_959 (by omega) hL ?_
  refine zw_v (as := [.int (zI (sv en (i + 1))), .int (zI (sv en (i + 2)))]) (rest := []) (nc := nc1) (ns := ns1) (mc := 0) (ms := 0) dL_law_960 pzm_8_178 pzt_X7_setHome rfl rfl h1 (by decide) (by decide) (by decide) hR ?_
  refine pr_istore dL_law_963 (by decide) rfl ?_
  refine pr_aload_n dL_law_965 rfl ?_
  refine zw_v (as := []) (rest := []) (nc := nc1) (ns := ns1) (mc := 0) (ms := 0) dL_law_966 pzm_8_145 pzt_X7_thrown rfl rfl h2 (by decide) (by decide) (by decide) hT ?_
  refine pr_iload dL_law_969 rfl ?_
  refine zr_icmp_eq (tgt := 976) dL_law_971 (by decide) (by omega) (by omega) (fun _ => ?_) (fun c => absurd rfl c)
  refine pr_iload dL_law_976 rfl ?_
  refine zr_if_ne (tgt := 993) dL_law_978 (by decide) (by omega) (fun c => ?_) (fun c => ?_)
  · refine pr_goto (tgt := 2528) dL_law_993 (by decide) ?_
    exact hend _ _ _ _ _ _ _ hS2 l1 l2
  · refine pr_aload_n dL_law_981 rfl ?_
    refine zr_iconst dL_law_982 ?_
    refine pr_lald (k := 0) dL_law_983 ho (by decide) (by decide) ?_
    refine pr_iload dL_law_984 rfl ?_
    refine pr_i2l dL_law_986 ?_
    refine pr_lcmp dL_law_987 ?_
    rw [hw c, lg_cmp_rf]
    refine zr_if_eq (tgt := 993) dL_law_988 (by decide) (by decide) (fun _ => ?_) (fun c => absurd rfl c)
    refine pr_goto (tgt := 2528) dL_law_993 (by decide) ?_
    exact hend _ _ _ _ _ _ _ hS2 l1 l2
set_option maxRecDepth 100000 in
set_option maxHeartbeats 4000000 in
theorem it_11 (hL : en.2.1 ≤ 3072) (i0 : 0 ≤ i) (i1 : i + 6 ≤ (en.2.1 : Int)) (hS : gS g t r o) (hend : ∀ (g2 : pz_H) (l5 l6 l7 l8 : Option Value) (nc1 ns1 : Nat), gS g2 t r o → nc ≤ nc1 → ns ≤ ns1 → lW en 2528 (lL en (t 0) (r 0) o i l5 l6 l7 l8) [] g2 nc1 ns1) : lW en 996 (lL en (t 0) (r 0) o i none none none none) [] g (nc + 1) (ns + 6) := by
  by_cases hb : sv en (i + 5) = 0
  · skip
    obtain ⟨k, b, g1, g2, wo, f0, f1, f2, mc, ms, hmc, hk, h0, hW, h1, hR, h2, hT, ho, hw, hp, hS2⟩ : dO en 219 161 [.int (zI (sv en (i + 1))), .int (zI (sv en (i + 2))), .int (zI (sv en (i + 3))), .int (zI (sv en (i + 4))), .int (zI 0)] (fun _ => True) g t r o := do_set (sv_R en (i + 1)) (sv_R en (i + 2)) (sv_R en (i + 3)) (sv_R en (i + 4)) (hd := False) hS
    obtain ⟨nc1, ns1, e1, e2, l1, l2⟩ := bud (nc := nc) (ns := ns) hmc
    rw [e1, e2]
    refine pr_aload_n dL_law_996 rfl ?_
    refine pr_aload_n dL_law_997 rfl ?_
    refine pr_iload dL_law_998 rfl ?_
    refine zr_iconst dL_law_1000 ?_
    refine zr_iadd dL_law_1001 ?_
    refine zr_sld dL_law_1002 (by omega) hL ?_
    refine pr_aload_n dL_law_1003 rfl ?_
    refine pr_iload dL_law_1004 rfl ?_
    refine zr_iconst dL_law_1006 ?_
    refine zr_iadd dL_law_1007 ?_
    refine zr_sld dL_law_1008 (by omega) hL ?_
    refine pr_aload_n dL_law_1009 rfl ?_
    refine pr_iload dL_law_1010 rfl ?_
    refine zr_iconst dL_law_1012 ?_
    refine zr_iadd dL_law_1013 ?_
    refine zr_sld dL_law_1014 (by omega) hL ?_
    refine pr_aload_n dL_law_1015 rfl ?_
    refine pr_iload dL_law_1016 rfl ?_
    refine zr_iconst dL_law_1018 ?_
    refine zr_iadd dL_law_1019 ?_
    refine zr_sld dL_law_1020 (by omega) hL ?_
    refine pr_aload_n dL_law_1021 rfl ?_
    refine pr_iload dL_law_1022 rfl ?_
    refine zr_iconst dL_law_1024 ?_
    refine zr_iadd dL_law_1025 ?_
    refine zr_sld dL_law_1026 (by omega) hL ?_
    refine zr_if_eq (tgt := 1034) dL_law_1027 (by decide) (sv_R _ _) (fun _ => ?_) (fun c => absurd hb c)
    refine zr_iconst dL_law_1034 ?_
    refine pr_aload_n dL_law_1035 rfl ?_
    refine zw_s (as := [.ref (t 0), .int (zI (sv en (i + 1))), .int (zI (sv en (i + 2))), .int (zI (sv en (i + 3))), .int (zI (sv en (i + 4))), .int (zI 0), .ref o]) (rest := []) dL_law_1036 pzm_8_179 pzt_L_set rfl rfl (by decide) (by decide) hW ?_
    refine pr_istore dL_law_1039 (by decide) rfl ?_
    refine pr_aload_n dL_law_1041 rfl ?_
    refine pr_aload_n dL_law_1042 rfl ?_
    refine pr_iload dL_law_1043 rfl ?_
    refine zr_iconst dL_law_1045 ?_
    refine zr_iadd dL_law_1046 ?_
    refine zr_sld dL_law_1047 (by omega) hL ?_
    refine pr_aload_n dL_law_1048 rfl ?_
    refine pr_iload dL_law_1049 rfl ?_
    refine zr_iconst dL_law_1051 ?_
    refine zr_iadd dL_law_1052 ?_
    refine zr_sld dL_law_1053 (by omega) hL ?_
    refine pr_aload_n dL_law_1054 rfl ?_
    refine pr_iload dL_law_1055 rfl ?_
    refine zr_iconst dL_law_1057 ?_
    refine zr_iadd dL_law_1058 ?_
    refine zr_sld dL_law_1059 (by omega) hL ?_
    refine pr_aload_n dL_law_1060 rfl ?_
    refine pr_iload dL_law_1061 rfl ?_
    refine zr_iconst dL_law_1063 ?_
    refine zr_iadd dL_law_1064 ?_
    refine zr_sld dL_law_1065 (by omega) hL ?_
    refine pr_aload_n dL_law_1066 rfl ?_
    refine pr_iload dL_law_1067 rfl ?_
    refine zr_iconst dL_law_1069 ?_
    refine zr_iadd dL_law_1070 ?_
    refine zr_sld dL_law_1071 (by omega) hL ?_
    refine zr_if_eq (tgt := 1079) dL_law_1072 (by decide) (sv_R _ _) (fun _ => ?_) (fun c => absurd hb c)
    refine zr_iconst dL_law_1079 ?_
    refine zw_v (as := [.int (zI (sv en (i + 1))), .int (zI (sv en (i + 2))), .int (zI (sv en (i + 3))), .int (zI (sv en (i + 4))), .int (zI 0)]) (rest := []) (nc := nc1) (ns := ns1) (mc := 0) (ms := 0) dL_law_1080 pzm_8_182 pzt_X7_set rfl rfl h1 (by decide) (by decide) (by decide) hR ?_
    refine pr_istore dL_law_1083 (by decide) rfl ?_
    refine pr_aload_n dL_law_1085 rfl ?_
    refine zw_v (as := []) (rest := []) (nc := nc1) (ns := ns1) (mc := 0) (ms := 0) dL_law_1086 pzm_8_145 pzt_X7_thrown rfl rfl h2 (by decide) (by decide) (by decide) hT ?_
    refine pr_iload dL_law_1089 rfl ?_
    refine zr_icmp_eq (tgt := 1096) dL_law_1091 (by decide) (by omega) (by omega) (fun _ => ?_) (fun c => absurd rfl c)
    refine pr_iload dL_law_1096 rfl ?_
    refine zr_if_ne (tgt := 1113) dL_law_1098 (by decide) (by omega) (fun c => ?_) (fun c => ?_)
    · refine pr_goto (tgt := 2528) dL_law_1113 (by decide) ?_
      exact hend _ _ _ _ _ _ _ hS2 l1 l2
    · refine pr_aload_n dL_law_1101 rfl ?_
      refine zr_iconst dL_law_1102 ?_
      refine pr_lald (k := 0) dL_law_1103 ho (by decide) (by decide) ?_
      refine pr_iload dL_law_1104 rfl ?_
      refine pr_i2l dL_law_1106 ?_
      refine pr_lcmp dL_law_1107 ?_
      rw [hw c, lg_cmp_rf]
      refine zr_if_eq (tgt := 1113) dL_law_1108 (by decide) (by decide) (fun _ => ?_) (fun c => absurd rfl c)
      refine pr_goto (tgt := 2528) dL_law_1113 (by decide) ?_
      exact hend _ _ _ _ _ _ _ hS2 l1 l2
  · skip
    obtain ⟨k, b, g1, g2, wo, f0, f1, f2, mc, ms, hmc, hk, h0, hW, h1, hR, h2, hT, ho, hw, hp, hS2⟩ : dO en 219 161 [.int (zI (sv en (i + 1))), .int (zI (sv en (i + 2))), .int (zI (sv en (i + 3))), .int (zI (sv en (i + 4))), .int (zI 1)] (fun _ => True) g t r o := do_set (sv_R en (i + 1)) (sv_R en (i + 2)) (sv_R en (i + 3)) (sv_R en (i + 4)) (hd := True) hS
    obtain ⟨nc1, ns1, e1, e2, l1, l2⟩ := bud (nc := nc) (ns := ns) hmc
    rw [e1, e2]
    refine pr_aload_n dL_law_996 rfl ?_
    refine pr_aload_n dL_law_997 rfl ?_
    refine pr_iload dL_law_998 rfl ?_
    refine zr_iconst dL_law_1000 ?_
    refine zr_iadd dL_law_1001 ?_
    refine zr_sld dL_law_1002 (by omega) hL ?_
    refine pr_aload_n dL_law_1003 rfl ?_
    refine pr_iload dL_law_1004 rfl ?_
    refine zr_iconst dL_law_1006 ?_
    refine zr_iadd dL_law_1007 ?_
    refine zr_sld dL_law_1008 (by omega) hL ?_
    refine pr_aload_n dL_law_1009 rfl ?_
    refine pr_iload dL_law_1010 rfl ?_
    refine zr_iconst dL_law_1012 ?_
    refine zr_iadd dL_law_1013 ?_
    refine zr_sld dL_law_1014 (by omega) hL ?_
    refine pr_aload_n dL_law_1015 rfl ?_
    refine pr_iload dL_law_1016 rfl ?_
    refine zr_iconst dL_law_1018 ?_
    refine zr_iadd dL_law_1019 ?_
    refine zr_sld dL_law_1020 (by omega) hL ?_
    refine pr_aload_n dL_law_1021 rfl ?_
    refine pr_iload dL_law_1022 rfl ?_
    refine zr_iconst dL_law_1024 ?_
    refine zr_iadd dL_law_1025 ?_
    refine zr_sld dL_law_1026 (by omega) hL ?_
    refine zr_if_eq (tgt := 1034) dL_law_1027 (by decide) (sv_R _ _) (fun c => absurd c hb) (fun _ => ?_)
    refine zr_iconst dL_law_1030 ?_
    refine pr_goto (tgt := 1035) dL_law_1031 (by decide) ?_
    refine pr_aload_n dL_law_1035 rfl ?_
    refine zw_s (as := [.ref (t 0), .int (zI (sv en (i + 1))), .int (zI (sv en (i + 2))), .int (zI (sv en (i + 3))), .int (zI (sv en (i + 4))), .int (zI 1), .ref o]) (rest := []) dL_law_1036 pzm_8_179 pzt_L_set rfl rfl (by decide) (by decide) hW ?_
    refine pr_istore dL_law_1039 (by decide) rfl ?_
    refine pr_aload_n dL_law_1041 rfl ?_
    refine pr_aload_n dL_law_1042 rfl ?_
    refine pr_iload dL_law_1043 rfl ?_
    refine zr_iconst dL_law_1045 ?_
    refine zr_iadd dL_law_1046 ?_
    refine zr_sld dL_law_1047 (by omega) hL ?_
    refine pr_aload_n dL_law_1048 rfl ?_
    refine pr_iload dL_law_1049 rfl ?_
    refine zr_iconst dL_law_1051 ?_
    refine zr_iadd dL_law_1052 ?_
    refine zr_sld dL_law_1053 (by omega) hL ?_
    refine pr_aload_n dL_law_1054 rfl ?_
    refine pr_iload dL_law_1055 rfl ?_
    refine zr_iconst dL_law_1057 ?_
    refine zr_iadd dL_law_1058 ?_
    refine zr_sld dL_law_1059 (by omega) hL ?_
    refine pr_aload_n dL_law_1060 rfl ?_
    refine pr_iload dL_law_1061 rfl ?_
    refine zr_iconst dL_law_1063 ?_
    refine zr_iadd dL_law_1064 ?_
    refine zr_sld dL_law_1065 (by omega) hL ?_
    refine pr_aload_n dL_law_1066 rfl ?_
    refine pr_iload dL_law_1067 rfl ?_
    refine zr_iconst dL_law_1069 ?_
    refine zr_iadd dL_law_1070 ?_
    refine zr_sld dL_law_1071 (by omega) hL ?_
    refine zr_if_eq (tgt := 1079) dL_law_1072 (by decide) (sv_R _ _) (fun c => absurd c hb) (fun _ => ?_)
    refine zr_iconst dL_law_1075 ?_
    refine pr_goto (tgt := 1080) dL_law_1076 (by decide) ?_
    refine zw_v (as := [.int (zI (sv en (i + 1))), .int (zI (sv en (i + 2))), .int (zI (sv en (i + 3))), .int (zI (sv en (i + 4))), .int (zI 1)]) (rest := []) (nc := nc1) (ns := ns1) (mc := 0) (ms := 0) dL_law_1080 pzm_8_182 pzt_X7_set rfl rfl h1 (by decide) (by decide) (by decide) hR ?_
    refine pr_istore dL_law_1083 (by decide) rfl ?_
    refine pr_aload_n dL_law_1085 rfl ?_
    refine zw_v (as := []) (rest := []) (nc := nc1) (ns := ns1) (mc := 0) (ms := 0) dL_law_1086 pzm_8_145 pzt_X7_thrown rfl rfl h2 (by decide) (by decide) (by decide) hT ?_
    refine pr_iload dL_law_1089 rfl ?_
    refine zr_icmp_eq (tgt := 1096) dL_law_1091 (by decide) (by omega) (by omega) (fun _ => ?_) (fun c => absurd rfl c)
    refine pr_iload dL_law_1096 rfl ?_
    refine zr_if_ne (tgt := 1113) dL_law_1098 (by decide) (by omega) (fun c => ?_) (fun c => ?_)
    · refine pr_goto (tgt := 2528) dL_law_1113 (by decide) ?_
      exact hend _ _ _ _ _ _ _ hS2 l1 l2
    · refine pr_aload_n dL_law_1101 rfl ?_
      refine zr_iconst dL_law_1102 ?_
      refine pr_lald (k := 0) dL_law_1103 ho (by decide) (by decide) ?_
      refine pr_iload dL_law_1104 rfl ?_
      refine pr_i2l dL_law_1106 ?_
      refine pr_lcmp dL_law_1107 ?_
      rw [hw c, lg_cmp_rf]
      refine zr_if_eq (tgt := 1113) dL_law_1108 (by decide) (by decide) (fun _ => ?_) (fun c => absurd rfl c)
      refine pr_goto (tgt := 2528) dL_law_1113 (by decide) ?_
      exact hend _ _ _ _ _ _ _ hS2 l1 l2
set_option maxRecDepth 100000 in
set_option maxHeartbeats 4000000 in
theorem it_12 (hL : en.2.1 ≤ 3072) (i0 : 0 ≤ i) (i1 : i + 6 ≤ (en.2.1 : Int)) (hS : gS g t r o) (hend : ∀ (g2 : pz_H) (l5 l6 l7 l8 : Option Value) (nc1 ns1 : Nat), gS g2 t r o → nc ≤ nc1 → ns ≤ ns1 → lW en 2528 (lL en (t 0) (r 0) o i l5 l6 l7 l8) [] g2 nc1 ns1) : lW en 1116 (lL en (t 0) (r 0) o i none none none none) [] g (nc + 1) (ns + 6) := by
  by_cases hb : sv en (i + 4) = 0
  · skip
    obtain ⟨k, b, g1, g2, wo, f0, f1, f2, mc, ms, hmc, hk, h0, hW, h1, hR, h2, hT, ho, hw, hp, hS2⟩ : dO en 220 162 [.int (zI (sv en (i + 1))), .int (zI (sv en (i + 2))), .int (zI (sv en (i + 3))), .int (zI 0)] (fun _ => True) g t r o := do_release (sv_R en (i + 1)) (sv_R en (i + 2)) (sv_R en (i + 3)) (hd := False) hS
    obtain ⟨nc1, ns1, e1, e2, l1, l2⟩ := bud (nc := nc) (ns := ns) hmc
    rw [e1, e2]
    refine pr_aload_n dL_law_1116 rfl ?_
    refine pr_aload_n dL_law_1117 rfl ?_
    refine pr_iload dL_law_1118 rfl ?_
    refine zr_iconst dL_law_1120 ?_
    refine zr_iadd dL_law_1121 ?_
    refine zr_sld dL_law_1122 (by omega) hL ?_
    refine pr_aload_n dL_law_1123 rfl ?_
    refine pr_iload dL_law_1124 rfl ?_
    refine zr_iconst dL_law_1126 ?_
    refine zr_iadd dL_law_1127 ?_
    refine zr_sld dL_law_1128 (by omega) hL ?_
    refine pr_aload_n dL_law_1129 rfl ?_
    refine pr_iload dL_law_1130 rfl ?_
    refine zr_iconst dL_law_1132 ?_
    refine zr_iadd dL_law_1133 ?_
    refine zr_sld dL_law_1134 (by omega) hL ?_
    refine pr_aload_n dL_law_1135 rfl ?_
    refine pr_iload dL_law_1136 rfl ?_
    refine zr_iconst dL_law_1138 ?_
    refine zr_iadd dL_law_1139 ?_
    refine zr_sld dL_law_1140 (by omega) hL ?_
    refine zr_if_eq (tgt := 1148) dL_law_1141 (by decide) (sv_R _ _) (fun _ => ?_) (fun c => absurd hb c)
    refine zr_iconst dL_law_1148 ?_
    refine pr_aload_n dL_law_1149 rfl ?_
    refine zw_s (as := [.ref (t 0), .int (zI (sv en (i + 1))), .int (zI (sv en (i + 2))), .int (zI (sv en (i + 3))), .int (zI 0), .ref o]) (rest := []) dL_law_1150 pzm_8_183 pzt_L_release rfl rfl (by decide) (by decide) hW ?_
    refine pr_istore dL_law_1153 (by decide) rfl ?_
    refine pr_aload_n dL_law_1155 rfl ?_
    refine pr_aload_n dL_law_1156 rfl ?_
    refine pr_iload dL_law_1157 rfl ?_
    refine zr_iconst dL_law_1159 ?_
    refine zr_iadd dL_law_1160 ?_
    refine zr_sld dL_law_1161 (by omega) hL ?_
    refine pr_aload_n dL_law_1162 rfl ?_
    refine pr_iload dL_law_1163 rfl ?_
    refine zr_iconst dL_law_1165 ?_
    refine zr_iadd dL_law_1166 ?_
    refine zr_sld dL_law_1167 (by omega) hL ?_
    refine pr_aload_n dL_law_1168 rfl ?_
    refine pr_iload dL_law_1169 rfl ?_
    refine zr_iconst dL_law_1171 ?_
    refine zr_iadd dL_law_1172 ?_
    refine zr_sld dL_law_1173 (by omega) hL ?_
    refine pr_aload_n dL_law_1174 rfl ?_
    refine pr_iload dL_law_1175 rfl ?_
    refine zr_iconst dL_law_1177 ?_
    refine zr_iadd dL_law_1178 ?_
    refine zr_sld dL_law_1179 (by omega) hL ?_
    refine zr_if_eq (tgt := 1187) dL_law_1180 (by decide) (sv_R _ _) (fun _ => ?_) (fun c => absurd hb c)
    refine zr_iconst dL_law_1187 ?_
    refine zw_v (as := [.int (zI (sv en (i + 1))), .int (zI (sv en (i + 2))), .int (zI (sv en (i + 3))), .int (zI 0)]) (rest := []) (nc := nc1) (ns := ns1) (mc := 0) (ms := 0) dL_law_1188 pzm_8_186 pzt_X7_release rfl rfl h1 (by decide) (by decide) (by decide) hR ?_
    refine pr_istore dL_law_1191 (by decide) rfl ?_
    refine pr_aload_n dL_law_1193 rfl ?_
    refine zw_v (as := []) (rest := []) (nc := nc1) (ns := ns1) (mc := 0) (ms := 0) dL_law_1194 pzm_8_145 pzt_X7_thrown rfl rfl h2 (by decide) (by decide) (by decide) hT ?_
    refine pr_iload dL_law_1197 rfl ?_
    refine zr_icmp_eq (tgt := 1204) dL_law_1199 (by decide) (by omega) (by omega) (fun _ => ?_) (fun c => absurd rfl c)
    refine pr_iload dL_law_1204 rfl ?_
    refine zr_if_ne (tgt := 1221) dL_law_1206 (by decide) (by omega) (fun c => ?_) (fun c => ?_)
    · refine pr_goto (tgt := 2528) dL_law_1221 (by decide) ?_
      exact hend _ _ _ _ _ _ _ hS2 l1 l2
    · refine pr_aload_n dL_law_1209 rfl ?_
      refine zr_iconst dL_law_1210 ?_
      refine pr_lald (k := 0) dL_law_1211 ho (by decide) (by decide) ?_
      refine pr_iload dL_law_1212 rfl ?_
      refine pr_i2l dL_law_1214 ?_
      refine pr_lcmp dL_law_1215 ?_
      rw [hw c, lg_cmp_rf]
      refine zr_if_eq (tgt := 1221) dL_law_1216 (by decide) (by decide) (fun _ => ?_) (fun c => absurd rfl c)
      refine pr_goto (tgt := 2528) dL_law_1221 (by decide) ?_
      exact hend _ _ _ _ _ _ _ hS2 l1 l2
  · skip
    obtain ⟨k, b, g1, g2, wo, f0, f1, f2, mc, ms, hmc, hk, h0, hW, h1, hR, h2, hT, ho, hw, hp, hS2⟩ : dO en 220 162 [.int (zI (sv en (i + 1))), .int (zI (sv en (i + 2))), .int (zI (sv en (i + 3))), .int (zI 1)] (fun _ => True) g t r o := do_release (sv_R en (i + 1)) (sv_R en (i + 2)) (sv_R en (i + 3)) (hd := True) hS
    obtain ⟨nc1, ns1, e1, e2, l1, l2⟩ := bud (nc := nc) (ns := ns) hmc
    rw [e1, e2]
    refine pr_aload_n dL_law_1116 rfl ?_
    refine pr_aload_n dL_law_1117 rfl ?_
    refine pr_iload dL_law_1118 rfl ?_
    refine zr_iconst dL_law_1120 ?_
    refine zr_iadd dL_law_1121 ?_
    refine zr_sld dL_law_1122 (by omega) hL ?_
    refine pr_aload_n dL_law_1123 rfl ?_
    refine pr_iload dL_law_1124 rfl ?_
    refine zr_iconst dL_law_1126 ?_
    refine zr_iadd dL_law_1127 ?_
    refine zr_sld dL_law_1128 (by omega) hL ?_
    refine pr_aload_n dL_law_1129 rfl ?_
    refine pr_iload dL_law_1130 rfl ?_
    refine zr_iconst dL_law_1132 ?_
    refine zr_iadd dL_law_1133 ?_
    refine zr_sld dL_law_1134 (by omega) hL ?_
    refine pr_aload_n dL_law_1135 rfl ?_
    refine pr_iload dL_law_1136 rfl ?_
    refine zr_iconst dL_law_1138 ?_
    refine zr_iadd dL_law_1139 ?_
    refine zr_sld dL_law_1140 (by omega) hL ?_
    refine zr_if_eq (tgt := 1148) dL_law_1141 (by decide) (sv_R _ _) (fun c => absurd c hb) (fun _ => ?_)
    refine zr_iconst dL_law_1144 ?_
    refine pr_goto (tgt := 1149) dL_law_1145 (by decide) ?_
    refine pr_aload_n dL_law_1149 rfl ?_
    refine zw_s (as := [.ref (t 0), .int (zI (sv en (i + 1))), .int (zI (sv en (i + 2))), .int (zI (sv en (i + 3))), .int (zI 1), .ref o]) (rest := []) dL_law_1150 pzm_8_183 pzt_L_release rfl rfl (by decide) (by decide) hW ?_
    refine pr_istore dL_law_1153 (by decide) rfl ?_
    refine pr_aload_n dL_law_1155 rfl ?_
    refine pr_aload_n dL_law_1156 rfl ?_
    refine pr_iload dL_law_1157 rfl ?_
    refine zr_iconst dL_law_1159 ?_
    refine zr_iadd dL_law_1160 ?_
    refine zr_sld dL_law_1161 (by omega) hL ?_
    refine pr_aload_n dL_law_1162 rfl ?_
    refine pr_iload dL_law_1163 rfl ?_
    refine zr_iconst dL_law_1165 ?_
    refine zr_iadd dL_law_1166 ?_
    refine zr_sld dL_law_1167 (by omega) hL ?_
    refine pr_aload_n dL_law_1168 rfl ?_
    refine pr_iload dL_law_1169 rfl ?_
    refine zr_iconst dL_law_1171 ?_
    refine zr_iadd dL_law_1172 ?_
    refine zr_sld dL_law_1173 (by omega) hL ?_
    refine pr_aload_n dL_law_1174 rfl ?_
    refine pr_iload dL_law_1175 rfl ?_
    refine zr_iconst dL_law_1177 ?_
    refine zr_iadd dL_law_1178 ?_
    refine zr_sld dL_law_1179 (by omega) hL ?_
    refine zr_if_eq (tgt := 1187) dL_law_1180 (by decide) (sv_R _ _) (fun c => absurd c hb) (fun _ => ?_)
    refine zr_iconst dL_law_1183 ?_
    refine pr_goto (tgt := 1188) dL_law_1184 (by decide) ?_
    refine zw_v (as := [.int (zI (sv en (i + 1))), .int (zI (sv en (i + 2))), .int (zI (sv en (i + 3))), .int (zI 1)]) (rest := []) (nc := nc1) (ns := ns1) (mc := 0) (ms := 0) dL_law_1188 pzm_8_186 pzt_X7_release rfl rfl h1 (by decide) (by decide) (by decide) hR ?_
    refine pr_istore dL_law_1191 (by decide) rfl ?_
    refine pr_aload_n dL_law_1193 rfl ?_
    refine zw_v (as := []) (rest := []) (nc := nc1) (ns := ns1) (mc := 0) (ms := 0) dL_law_1194 pzm_8_145 pzt_X7_thrown rfl rfl h2 (by decide) (by decide) (by decide) hT ?_
    refine pr_iload dL_law_1197 rfl ?_
    refine zr_icmp_eq (tgt := 1204) dL_law_1199 (by decide) (by omega) (by omega) (fun _ => ?_) (fun c => absurd rfl c)
    refine pr_iload dL_law_1204 rfl ?_
    refine zr_if_ne (tgt := 1221) dL_law_1206 (by decide) (by omega) (fun c => ?_) (fun c => ?_)
    · refine pr_goto (tgt := 2528) dL_law_1221 (by decide) ?_
      exact hend _ _ _ _ _ _ _ hS2 l1 l2
    · refine pr_aload_n dL_law_1209 rfl ?_
      refine zr_iconst dL_law_1210 ?_
      refine pr_lald (k := 0) dL_law_1211 ho (by decide) (by decide) ?_
      refine pr_iload dL_law_1212 rfl ?_
      refine pr_i2l dL_law_1214 ?_
      refine pr_lcmp dL_law_1215 ?_
      rw [hw c, lg_cmp_rf]
      refine zr_if_eq (tgt := 1221) dL_law_1216 (by decide) (by decide) (fun _ => ?_) (fun c => absurd rfl c)
      refine pr_goto (tgt := 2528) dL_law_1221 (by decide) ?_
      exact hend _ _ _ _ _ _ _ hS2 l1 l2
set_option maxRecDepth 100000 in
set_option maxHeartbeats 4000000 in
theorem it_13 (hL : en.2.1 ≤ 3072) (i0 : 0 ≤ i) (i1 : i + 6 ≤ (en.2.1 : Int)) (hS : gS g t r o) (hend : ∀ (g2 : pz_H) (l5 l6 l7 l8 : Option Value) (nc1 ns1 : Nat), gS g2 t r o → nc ≤ nc1 → ns ≤ ns1 → lW en 2528 (lL en (t 0) (r 0) o i l5 l6 l7 l8) [] g2 nc1 ns1) : lW en 1224 (lL en (t 0) (r 0) o i none none none none) [] g (nc + 1) (ns + 6) := by
  by_cases hb : sv en (i + 3) = 0
  · skip
    obtain ⟨k, b, g1, g2, wo, f0, f1, f2, mc, ms, hmc, hk, h0, hW, h1, hR, h2, hT, ho, hw, hp, hS2⟩ : dO en 221 164 [.int (zI (sv en (i + 1))), .int (zI (sv en (i + 2))), .int (zI 0)] (fun _ => True) g t r o := do_unset (sv_R en (i + 1)) (sv_R en (i + 2)) (hd := False) hS
    obtain ⟨nc1, ns1, e1, e2, l1, l2⟩ := bud (nc := nc) (ns := ns) hmc
    rw [e1, e2]
    refine pr_aload_n dL_law_1224 rfl ?_
    refine pr_aload_n dL_law_1225 rfl ?_
    refine pr_iload dL_law_1226 rfl ?_
    refine zr_iconst dL_law_1228 ?_
    refine zr_iadd dL_law_1229 ?_
    refine zr_sld dL_law_1230 (by omega) hL ?_
    refine pr_aload_n dL_law_1231 rfl ?_
    refine pr_iload dL_law_1232 rfl ?_
    refine zr_iconst dL_law_1234 ?_
    refine zr_iadd dL_law_1235 ?_
    refine zr_sld dL_law_1236 (by omega) hL ?_
    refine pr_aload_n dL_law_1237 rfl ?_
    refine pr_iload dL_law_1238 rfl ?_
    refine zr_iconst dL_law_1240 ?_
    refine zr_iadd dL_law_1241 ?_
    refine zr_sld dL_law_1242 (by omega) hL ?_
    refine zr_if_eq (tgt := 1250) dL_law_1243 (by decide) (sv_R _ _) (fun _ => ?_) (fun c => absurd hb c)
    refine zr_iconst dL_law_1250 ?_
    refine pr_aload_n dL_law_1251 rfl ?_
    refine zw_s (as := [.ref (t 0), .int (zI (sv en (i + 1))), .int (zI (sv en (i + 2))), .int (zI 0), .ref o]) (rest := []) dL_law_1252 pzm_8_187 pzt_L_unset rfl rfl (by decide) (by decide) hW ?_
    refine pr_istore dL_law_1255 (by decide) rfl ?_
    refine pr_aload_n dL_law_1257 rfl ?_
    refine pr_aload_n dL_law_1258 rfl ?_
    refine pr_iload dL_law_1259 rfl ?_
    refine zr_iconst dL_law_1261 ?_
    refine zr_iadd dL_law_1262 ?_
    refine zr_sld dL_law_1263 (by omega) hL ?_
    refine pr_aload_n dL_law_1264 rfl ?_
    refine pr_iload dL_law_1265 rfl ?_
    refine zr_iconst dL_law_1267 ?_
    refine zr_iadd dL_law_1268 ?_
    refine zr_sld dL_law_1269 (by omega) hL ?_
    refine pr_aload_n dL_law_1270 rfl ?_
    refine pr_iload dL_law_1271 rfl ?_
    refine zr_iconst dL_law_1273 ?_
    refine zr_iadd dL_law_1274 ?_
    refine zr_sld dL_law_1275 (by omega) hL ?_
    refine zr_if_eq (tgt := 1283) dL_law_1276 (by decide) (sv_R _ _) (fun _ => ?_) (fun c => absurd hb c)
    refine zr_iconst dL_law_1283 ?_
    refine zw_v (as := [.int (zI (sv en (i + 1))), .int (zI (sv en (i + 2))), .int (zI 0)]) (rest := []) (nc := nc1) (ns := ns1) (mc := 0) (ms := 0) dL_law_1284 pzm_8_189 pzt_X7_unset rfl rfl h1 (by decide) (by decide) (by decide) hR ?_
    refine pr_istore dL_law_1287 (by decide) rfl ?_
    refine pr_aload_n dL_law_1289 rfl ?_
    refine zw_v (as := []) (rest := []) (nc := nc1) (ns := ns1) (mc := 0) (ms := 0) dL_law_1290 pzm_8_145 pzt_X7_thrown rfl rfl h2 (by decide) (by decide) (by decide) hT ?_
    refine pr_iload dL_law_1293 rfl ?_
    refine zr_icmp_eq (tgt := 1300) dL_law_1295 (by decide) (by omega) (by omega) (fun _ => ?_) (fun c => absurd rfl c)
    refine pr_iload dL_law_1300 rfl ?_
    refine zr_if_ne (tgt := 1317) dL_law_1302 (by decide) (by omega) (fun c => ?_) (fun c => ?_)
    · refine pr_goto (tgt := 2528) dL_law_1317 (by decide) ?_
      exact hend _ _ _ _ _ _ _ hS2 l1 l2
    · refine pr_aload_n dL_law_1305 rfl ?_
      refine zr_iconst dL_law_1306 ?_
      refine pr_lald (k := 0) dL_law_1307 ho (by decide) (by decide) ?_
      refine pr_iload dL_law_1308 rfl ?_
      refine pr_i2l dL_law_1310 ?_
      refine pr_lcmp dL_law_1311 ?_
      rw [hw c, lg_cmp_rf]
      refine zr_if_eq (tgt := 1317) dL_law_1312 (by decide) (by decide) (fun _ => ?_) (fun c => absurd rfl c)
      refine pr_goto (tgt := 2528) dL_law_1317 (by decide) ?_
      exact hend _ _ _ _ _ _ _ hS2 l1 l2
  · skip
    obtain ⟨k, b, g1, g2, wo, f0, f1, f2, mc, ms, hmc, hk, h0, hW, h1, hR, h2, hT, ho, hw, hp, hS2⟩ : dO en 221 164 [.int (zI (sv en (i + 1))), .int (zI (sv en (i + 2))), .int (zI 1)] (fun _ => True) g t r o := do_unset (sv_R en (i + 1)) (sv_R en (i + 2)) (hd := True) hS
    obtain ⟨nc1, ns1, e1, e2, l1, l2⟩ := bud (nc := nc) (ns := ns) hmc
    rw [e1, e2]
    refine pr_aload_n dL_law_1224 rfl ?_
    refine pr_aload_n dL_law_1225 rfl ?_
    refine pr_iload dL_law_1226 rfl ?_
    refine zr_iconst dL_law_1228 ?_
    refine zr_iadd dL_law_1229 ?_
    refine zr_sld dL_law_1230 (by omega) hL ?_
    refine pr_aload_n dL_law_1231 rfl ?_
    refine pr_iload dL_law_1232 rfl ?_
    refine zr_iconst dL_law_1234 ?_
    refine zr_iadd dL_law_1235 ?_
    refine zr_sld dL_law_1236 (by omega) hL ?_
    refine pr_aload_n dL_law_1237 rfl ?_
    refine pr_iload dL_law_1238 rfl ?_
    refine zr_iconst dL_law_1240 ?_
    refine zr_iadd dL_law_1241 ?_
    refine zr_sld dL_law_1242 (by omega) hL ?_
    refine zr_if_eq (tgt := 1250) dL_law_1243 (by decide) (sv_R _ _) (fun c => absurd c hb) (fun _ => ?_)
    refine zr_iconst dL_law_1246 ?_
    refine pr_goto (tgt := 1251) dL_law_1247 (by decide) ?_
    refine pr_aload_n dL_law_1251 rfl ?_
    refine zw_s (as := [.ref (t 0), .int (zI (sv en (i + 1))), .int (zI (sv en (i + 2))), .int (zI 1), .ref o]) (rest := []) dL_law_1252 pzm_8_187 pzt_L_unset rfl rfl (by decide) (by decide) hW ?_
    refine pr_istore dL_law_1255 (by decide) rfl ?_
    refine pr_aload_n dL_law_1257 rfl ?_
    refine pr_aload_n dL_law_1258 rfl ?_
    refine pr_iload dL_law_1259 rfl ?_
    refine zr_iconst dL_law_1261 ?_
    refine zr_iadd dL_law_1262 ?_
    refine zr_sld dL_law_1263 (by omega) hL ?_
    refine pr_aload_n dL_law_1264 rfl ?_
    refine pr_iload dL_law_1265 rfl ?_
    refine zr_iconst dL_law_1267 ?_
    refine zr_iadd dL_law_1268 ?_
    refine zr_sld dL_law_1269 (by omega) hL ?_
    refine pr_aload_n dL_law_1270 rfl ?_
    refine pr_iload dL_law_1271 rfl ?_
    refine zr_iconst dL_law_1273 ?_
    refine zr_iadd dL_law_1274 ?_
    refine zr_sld dL_law_1275 (by omega) hL ?_
    refine zr_if_eq (tgt := 1283) dL_law_1276 (by decide) (sv_R _ _) (fun c => absurd c hb) (fun _ => ?_)
    refine zr_iconst dL_law_1279 ?_
    refine pr_goto (tgt := 1284) dL_law_1280 (by decide) ?_
    refine zw_v (as := [.int (zI (sv en (i + 1))), .int (zI (sv en (i + 2))), .int (zI 1)]) (rest := []) (nc := nc1) (ns := ns1) (mc := 0) (ms := 0) dL_law_1284 pzm_8_189 pzt_X7_unset rfl rfl h1 (by decide) (by decide) (by decide) hR ?_
    refine pr_istore dL_law_1287 (by decide) rfl ?_
    refine pr_aload_n dL_law_1289 rfl ?_
    refine zw_v (as := []) (rest := []) (nc := nc1) (ns := ns1) (mc := 0) (ms := 0) dL_law_1290 pzm_8_145 pzt_X7_thrown rfl rfl h2 (by decide) (by decide) (by decide) hT ?_
    refine pr_iload dL_law_1293 rfl ?_
    refine zr_icmp_eq (tgt := 1300) dL_law_1295 (by decide) (by omega) (by omega) (fun _ => ?_) (fun c => absurd rfl c)
    refine pr_iload dL_law_1300 rfl ?_
    refine zr_if_ne (tgt := 1317) dL_law_1302 (by decide) (by omega) (fun c => ?_) (fun c => ?_)
    · refine pr_goto (tgt := 2528) dL_law_1317 (by decide) ?_
      exact hend _ _ _ _ _ _ _ hS2 l1 l2
    · refine pr_aload_n dL_law_1305 rfl ?_
      refine zr_iconst dL_law_1306 ?_
      refine pr_lald (k := 0) dL_law_1307 ho (by decide) (by decide) ?_
      refine pr_iload dL_law_1308 rfl ?_
      refine pr_i2l dL_law_1310 ?_
      refine pr_lcmp dL_law_1311 ?_
      rw [hw c, lg_cmp_rf]
      refine zr_if_eq (tgt := 1317) dL_law_1312 (by decide) (by decide) (fun _ => ?_) (fun c => absurd rfl c)
      refine pr_goto (tgt := 2528) dL_law_1317 (by decide) ?_
      exact hend _ _ _ _ _ _ _ hS2 l1 l2
set_option maxRecDepth 100000 in
set_option maxHeartbeats 4000000 in
theorem it_14 (hL : en.2.1 ≤ 3072) (i0 : 0 ≤ i) (i1 : i + 6 ≤ (en.2.1 : Int)) (hS : gS g t r o) (hend : ∀ (g2 : pz_H) (l5 l6 l7 l8 : Option Value) (nc1 ns1 : Nat), gS g2 t r o → nc ≤ nc1 → ns ≤ ns1 → lW en 2528 (lL en (t 0) (r 0) o i l5 l6 l7 l8) [] g2 nc1 ns1) : lW en 1320 (lL en (t 0) (r 0) o i none none none none) [] g (nc + 1) (ns + 6) := by
  obtain ⟨k, b, g1, g2, wo, f0, f1, f2, mc, ms, hmc, hk, h0, hW, h1, hR, h2, hT, ho, hw, hp, hS2⟩ : dO en 222 167 [.int (zI (sv en (i + 1))), .int (zI (sv en (i + 2)))] (fun _ => True) g t r o := do_instruction (sv_R en (i + 1)) (sv_R en (i + 2)) hS
  obtain ⟨nc1, ns1, e1, e2, l1, l2⟩ := bud (nc := nc) (ns := ns) hmc
  rw [e1, e2]
  refine pr_aload_n dL_law_1320 rfl ?_
  refine pr_aload_n dL_law_1321 rfl ?_
  refine pr_iload dL_law_1322 rfl ?_
  refine zr_iconst dL_law_1324 ?_
  refine zr_iadd dL_law_1325 ?_
  refine zr_sld dL_law_1326 (by omega) hL ?_
  refine pr_aload_n dL_law_1327 rfl ?_
  refine pr_iload dL_law_1328 rfl ?_
  refine zr_iconst dL_law_1330 ?_
  refine zr_iadd dL_law_1331 ?_
  refine zr_sld dL_law_1332 (by omega) hL ?_
  refine pr_aload_n dL_law_1333 rfl ?_
  refine zw_s (as := [.ref (t 0), .int (zI (sv en (i + 1))), .int (zI (sv en (i + 2))), .ref o]) (rest := []) dL_law_1334 pzm_8_190 pzt_L_instruction rfl rfl (by decide) (by decide) hW ?_
  refine pr_istore dL_law_1337 (by decide) rfl ?_
  refine pr_aload_n dL_law_1339 rfl ?_
  refine pr_aload_n dL_law_1340 rfl ?_
  refine pr_iload dL_law_1341 rfl ?_
  refine zr_iconst dL_law_1343 ?_
  refine zr_iadd dL_law_1344 ?_
  refine zr_sld dL_law_1345 (by omega) hL ?_
  refine pr_aload_n dL_law_1346 rfl ?_
  refine pr_iload dL_law_1347 rfl ?_
  refine zr_iconst dL_law_1349 ?_
  refine zr_iadd dL_law_1350 ?_
  refine zr_sld dL_law_1351 (by omega) hL ?_
  refine zw_v (as := [.int (zI (sv en (i + 1))), .int (zI (sv en (i + 2)))]) (rest := []) (nc := nc1) (ns := ns1) (mc := 0) (ms := 0) dL_law_1352 pzm_8_192 pzt_X7_instruction rfl rfl h1 (by decide) (by decide) (by decide) hR ?_
  refine pr_istore dL_law_1355 (by decide) rfl ?_
  refine pr_aload_n dL_law_1357 rfl ?_
  refine zw_v (as := []) (rest := []) (nc := nc1) (ns := ns1) (mc := 0) (ms := 0) dL_law_1358 pzm_8_145 pzt_X7_thrown rfl rfl h2 (by decide) (by decide) (by decide) hT ?_
  refine pr_iload dL_law_1361 rfl ?_
  refine zr_icmp_eq (tgt := 1368) dL_law_1363 (by decide) (by omega) (by omega) (fun _ => ?_) (fun c => absurd rfl c)
  refine pr_iload dL_law_1368 rfl ?_
  refine zr_if_ne (tgt := 1385) dL_law_1370 (by decide) (by omega) (fun c => ?_) (fun c => ?_)
  · refine pr_goto (tgt := 2528) dL_law_1385 (by decide) ?_
    exact hend _ _ _ _ _ _ _ hS2 l1 l2
  · refine pr_aload_n dL_law_1373 rfl ?_
    refine zr_iconst dL_law_1374 ?_
    refine pr_lald (k := 0) dL_law_1375 ho (by decide) (by decide) ?_
    refine pr_iload dL_law_1376 rfl ?_
    refine pr_i2l dL_law_1378 ?_
    refine pr_lcmp dL_law_1379 ?_
    rw [hw c, lg_cmp_rf]
    refine zr_if_eq (tgt := 1385) dL_law_1380 (by decide) (by decide) (fun _ => ?_) (fun c => absurd rfl c)
    refine pr_goto (tgt := 2528) dL_law_1385 (by decide) ?_
    exact hend _ _ _ _ _ _ _ hS2 l1 l2
set_option maxRecDepth 100000 in
set_option maxHeartbeats 4000000 in
theorem it_15 (hL : en.2.1 ≤ 3072) (i0 : 0 ≤ i) (i1 : i + 6 ≤ (en.2.1 : Int)) (hS : gS g t r o) (hend : ∀ (g2 : pz_H) (l5 l6 l7 l8 : Option Value) (nc1 ns1 : Nat), gS g2 t r o → nc ≤ nc1 → ns ≤ ns1 → lW en 2528 (lL en (t 0) (r 0) o i l5 l6 l7 l8) [] g2 nc1 ns1) : lW en 1388 (lL en (t 0) (r 0) o i none none none none) [] g (nc + 1) (ns + 6) := by
  obtain ⟨k, b, g1, g2, wo, f0, f1, f2, mc, ms, hmc, hk, h0, hW, h1, hR, h2, hT, ho, hw, hp, hS2⟩ : dO en 223 168 [.int (zI (sv en (i + 1))), .int (zI (sv en (i + 2)))] (fun _ => True) g t r o := do_level (sv_R en (i + 1)) (sv_R en (i + 2)) hS
  obtain ⟨nc1, ns1, e1, e2, l1, l2⟩ := bud (nc := nc) (ns := ns) hmc
  rw [e1, e2]
  refine pr_aload_n dL_law_1388 rfl ?_
  refine pr_aload_n dL_law_1389 rfl ?_
  refine pr_iload dL_law_1390 rfl ?_
  refine zr_iconst dL_law_1392 ?_
  refine zr_iadd dL_law_1393 ?_
  refine zr_sld dL_law_1394 (by omega) hL ?_
  refine pr_aload_n dL_law_1395 rfl ?_
  refine pr_iload dL_law_1396 rfl ?_
  refine zr_iconst dL_law_1398 ?_
  refine zr_iadd dL_law_1399 ?_
  refine zr_sld dL_law_1400 (by omega) hL ?_
  refine pr_aload_n dL_law_1401 rfl ?_
  refine zw_s (as := [.ref (t 0), .int (zI (sv en (i + 1))), .int (zI (sv en (i + 2))), .ref o]) (rest := []) dL_law_1402 pzm_8_193 pzt_L_level rfl rfl (by decide) (by decide) hW ?_
  refine pr_istore dL_law_1405 (by decide) rfl ?_
  refine pr_aload_n dL_law_1407 rfl ?_
  refine pr_aload_n dL_law_1408 rfl ?_
  refine pr_iload dL_law_1409 rfl ?_
  refine zr_iconst dL_law_1411 ?_
  refine zr_iadd dL_law_1412 ?_
  refine zr_sld dL_law_1413 (by omega) hL ?_
  refine pr_aload_n dL_law_1414 rfl ?_
  refine pr_iload dL_law_1415 rfl ?_
  refine zr_iconst dL_law_1417 ?_
  refine zr_iadd dL_law_1418 ?_
  refine zr_sld dL_law_1419 (by omega) hL ?_
  refine zw_v (as := [.int (zI (sv en (i + 1))), .int (zI (sv en (i + 2)))]) (rest := []) (nc := nc1) (ns := ns1) (mc := 0) (ms := 0) dL_law_1420 pzm_8_195 pzt_X7_level rfl rfl h1 (by decide) (by decide) (by decide) hR ?_
  refine pr_istore dL_law_1423 (by decide) rfl ?_
  refine pr_aload_n dL_law_1425 rfl ?_
  refine zw_v (as := []) (rest := []) (nc := nc1) (ns := ns1) (mc := 0) (ms := 0) dL_law_1426 pzm_8_145 pzt_X7_thrown rfl rfl h2 (by decide) (by decide) (by decide) hT ?_
  refine pr_iload dL_law_1429 rfl ?_
  refine zr_icmp_eq (tgt := 1436) dL_law_1431 (by decide) (by omega) (by omega) (fun _ => ?_) (fun c => absurd rfl c)
  refine pr_iload dL_law_1436 rfl ?_
  refine zr_if_ne (tgt := 1453) dL_law_1438 (by decide) (by omega) (fun c => ?_) (fun c => ?_)
  · refine pr_goto (tgt := 2528) dL_law_1453 (by decide) ?_
    exact hend _ _ _ _ _ _ _ hS2 l1 l2
  · refine pr_aload_n dL_law_1441 rfl ?_
    refine zr_iconst dL_law_1442 ?_
    refine pr_lald (k := 0) dL_law_1443 ho (by decide) (by decide) ?_
    refine pr_iload dL_law_1444 rfl ?_
    refine pr_i2l dL_law_1446 ?_
    refine pr_lcmp dL_law_1447 ?_
    rw [hw c, lg_cmp_rf]
    refine zr_if_eq (tgt := 1453) dL_law_1448 (by decide) (by decide) (fun _ => ?_) (fun c => absurd rfl c)
    refine pr_goto (tgt := 2528) dL_law_1453 (by decide) ?_
    exact hend _ _ _ _ _ _ _ hS2 l1 l2
set_option maxRecDepth 100000 in
set_option maxHeartbeats 4000000 in
theorem it_16 (hL : en.2.1 ≤ 3072) (i0 : 0 ≤ i) (i1 : i + 6 ≤ (en.2.1 : Int)) (hS : gS g t r o) (hend : ∀ (g2 : pz_H) (l5 l6 l7 l8 : Option Value) (nc1 ns1 : Nat), gS g2 t r o → nc ≤ nc1 → ns ≤ ns1 → lW en 2528 (lL en (t 0) (r 0) o i l5 l6 l7 l8) [] g2 nc1 ns1) : lW en 1456 (lL en (t 0) (r 0) o i none none none none) [] g (nc + 1) (ns + 6) := by
  obtain ⟨k, b, g1, g2, wo, f0, f1, f2, mc, ms, hmc, hk, h0, hW, h1, hR, h2, hT, ho, hw, hp, hS2⟩ : dO en 224 169 [.int (zI (sv en (i + 1))), .int (zI (sv en (i + 2)))] (fun _ => True) g t r o := do_levelAgain (sv_R en (i + 1)) (sv_R en (i + 2)) hS
  obtain ⟨nc1, ns1, e1, e2, l1, l2⟩ := bud (nc := nc) (ns := ns) hmc
  rw [e1, e2]
  refine pr_aload_n dL_law_1456 rfl ?_
  refine pr_aload_n dL_law_1457 rfl ?_
  refine pr_iload dL_law_1458 rfl ?_
  refine zr_iconst dL_law_1460 ?_
  refine zr_iadd dL_law_1461 ?_
  refine zr_sld dL_law_1462 (by omega) hL ?_
  refine pr_aload_n dL_law_1463 rfl ?_
  refine pr_iload dL_law_1464 rfl ?_
  refine zr_iconst dL_law_1466 ?_
  refine zr_iadd dL_law_1467 ?_
  refine zr_sld dL_law_1468 (by omega) hL ?_
  refine pr_aload_n dL_law_1469 rfl ?_
  refine zw_s (as := [.ref (t 0), .int (zI (sv en (i + 1))), .int (zI (sv en (i + 2))), .ref o]) (rest := []) dL_law_1470 pzm_8_196 pzt_L_levelAgain rfl rfl (by decide) (by decide) hW ?_
  refine pr_istore dL_law_1473 (by decide) rfl ?_
  refine pr_aload_n dL_law_1475 rfl ?_
  refine pr_aload_n dL_law_1476 rfl ?_
  refine pr_iload dL_law_1477 rfl ?_
  refine zr_iconst dL_law_1479 ?_
  refine zr_iadd dL_law_1480 ?_
  refine zr_sld dL_law_1481 (by omega) hL ?_
  refine pr_aload_n dL_law_1482 rfl ?_
  refine pr_iload dL_law_1483 rfl ?_
  refine zr_iconst dL_law_1485 ?_
  refine zr_iadd dL_law_1486 ?_
  refine zr_sld dL_law_1487 (by omega) hL ?_
  refine zw_v (as := [.int (zI (sv en (i + 1))), .int (zI (sv en (i + 2)))]) (rest := []) (nc := nc1) (ns := ns1) (mc := 0) (ms := 0) dL_law_1488 pzm_8_198 pzt_X7_levelAgain rfl rfl h1 (by decide) (by decide) (by decide) hR ?_
  refine pr_istore dL_law_1491 (by decide) rfl ?_
  refine pr_aload_n dL_law_1493 rfl ?_
  refine zw_v (as := []) (rest := []) (nc := nc1) (ns := ns1) (mc := 0) (ms := 0) dL_law_1494 pzm_8_145 pzt_X7_thrown rfl rfl h2 (by decide) (by decide) (by decide) hT ?_
  refine pr_iload dL_law_1497 rfl ?_
  refine zr_icmp_eq (tgt := 1504) dL_law_1499 (by decide) (by omega) (by omega) (fun _ => ?_) (fun c => absurd rfl c)
  refine pr_iload dL_law_1504 rfl ?_
  refine zr_if_ne (tgt := 1521) dL_law_1506 (by decide) (by omega) (fun c => ?_) (fun c => ?_)
  · refine pr_goto (tgt := 2528) dL_law_1521 (by decide) ?_
    exact hend _ _ _ _ _ _ _ hS2 l1 l2
  · refine pr_aload_n dL_law_1509 rfl ?_
    refine zr_iconst dL_law_1510 ?_
    refine pr_lald (k := 0) dL_law_1511 ho (by decide) (by decide) ?_
    refine pr_iload dL_law_1512 rfl ?_
    refine pr_i2l dL_law_1514 ?_
    refine pr_lcmp dL_law_1515 ?_
    rw [hw c, lg_cmp_rf]
    refine zr_if_eq (tgt := 1521) dL_law_1516 (by decide) (by decide) (fun _ => ?_) (fun c => absurd rfl c)
    refine pr_goto (tgt := 2528) dL_law_1521 (by decide) ?_
    exact hend _ _ _ _ _ _ _ hS2 l1 l2
set_option maxRecDepth 100000 in
set_option maxHeartbeats 4000000 in
theorem it_17 (hL : en.2.1 ≤ 3072) (i0 : 0 ≤ i) (i1 : i + 6 ≤ (en.2.1 : Int)) (hS : gS g t r o) (hend : ∀ (g2 : pz_H) (l5 l6 l7 l8 : Option Value) (nc1 ns1 : Nat), gS g2 t r o → nc ≤ nc1 → ns ≤ ns1 → lW en 2528 (lL en (t 0) (r 0) o i l5 l6 l7 l8) [] g2 nc1 ns1) : lW en 1524 (lL en (t 0) (r 0) o i none none none none) [] g (nc + 1) (ns + 6) := by
  obtain ⟨k, b, g1, g2, wo, f0, f1, f2, mc, ms, hmc, hk, h0, hW, h1, hR, h2, hT, ho, hw, hp, hS2⟩ : dO en 225 171 [.int (zI (sv en (i + 1))), .int (zI (sv en (i + 2)))] (fun _ => True) g t r o := do_source (sv_R en (i + 1)) (sv_R en (i + 2)) hS
  obtain ⟨nc1, ns1, e1, e2, l1, l2⟩ := bud (nc := nc) (ns := ns) hmc
  rw [e1, e2]
  refine pr_aload_n dL_law_1524 rfl ?_
  refine pr_aload_n dL_law_1525 rfl ?_
  refine pr_iload dL_law_1526 rfl ?_
  refine zr_iconst dL_law_1528 ?_
  refine zr_iadd dL_law_1529 ?_
  refine zr_sld dL_law_1530 (by omega) hL ?_
  refine pr_aload_n dL_law_1531 rfl ?_
  refine pr_iload dL_law_1532 rfl ?_
  refine zr_iconst dL_law_1534 ?_
  refine zr_iadd dL_law_1535 ?_
  refine zr_sld dL_law_1536 (by omega) hL ?_
  refine pr_aload_n dL_law_1537 rfl ?_
  refine zw_s (as := [.ref (t 0), .int (zI (sv en (i + 1))), .int (zI (sv en (i + 2))), .ref o]) (rest := []) dL_law_1538 pzm_8_199 pzt_L_source rfl rfl (by decide) (by decide) hW ?_
  refine pr_istore dL_law_1541 (by decide) rfl ?_
  refine pr_aload_n dL_law_1543 rfl ?_
  refine pr_aload_n dL_law_1544 rfl ?_
  refine pr_iload dL_law_1545 rfl ?_
  refine zr_iconst dL_law_1547 ?_
  refine zr_iadd dL_law_1548 ?_
  refine zr_sld dL_law_1549 (by omega) hL ?_
  refine pr_aload_n dL_law_1550 rfl ?_
  refine pr_iload dL_law_1551 rfl ?_
  refine zr_iconst dL_law_1553 ?_
  refine zr_iadd dL_law_1554 ?_
  refine zr_sld dL_law_1555 (by omega) hL ?_
  refine zw_v (as := [.int (zI (sv en (i + 1))), .int (zI (sv en (i + 2)))]) (rest := []) (nc := nc1) (ns := ns1) (mc := 0) (ms := 0) dL_law_1556 pzm_8_201 pzt_X7_source rfl rfl h1 (by decide) (by decide) (by decide) hR ?_
  refine pr_istore dL_law_1559 (by decide) rfl ?_
  refine pr_aload_n dL_law_1561 rfl ?_
  refine zw_v (as := []) (rest := []) (nc := nc1) (ns := ns1) (mc := 0) (ms := 0) dL_law_1562 pzm_8_145 pzt_X7_thrown rfl rfl h2 (by decide) (by decide) (by decide) hT ?_
  refine pr_iload dL_law_1565 rfl ?_
  refine zr_icmp_eq (tgt := 1572) dL_law_1567 (by decide) (by omega) (by omega) (fun _ => ?_) (fun c => absurd rfl c)
  refine pr_iload dL_law_1572 rfl ?_
  refine zr_if_ne (tgt := 1589) dL_law_1574 (by decide) (by omega) (fun c => ?_) (fun c => ?_)
  · refine pr_goto (tgt := 2528) dL_law_1589 (by decide) ?_
    exact hend _ _ _ _ _ _ _ hS2 l1 l2
  · refine pr_aload_n dL_law_1577 rfl ?_
    refine zr_iconst dL_law_1578 ?_
    refine pr_lald (k := 0) dL_law_1579 ho (by decide) (by decide) ?_
    refine pr_iload dL_law_1580 rfl ?_
    refine pr_i2l dL_law_1582 ?_
    refine pr_lcmp dL_law_1583 ?_
    rw [hw c, lg_cmp_rf]
    refine zr_if_eq (tgt := 1589) dL_law_1584 (by decide) (by decide) (fun _ => ?_) (fun c => absurd rfl c)
    refine pr_goto (tgt := 2528) dL_law_1589 (by decide) ?_
    exact hend _ _ _ _ _ _ _ hS2 l1 l2
set_option maxRecDepth 100000 in
set_option maxHeartbeats 4000000 in
theorem it_18 (hL : en.2.1 ≤ 3072) (i0 : 0 ≤ i) (i1 : i + 6 ≤ (en.2.1 : Int)) (hS : gS g t r o) (hend : ∀ (g2 : pz_H) (l5 l6 l7 l8 : Option Value) (nc1 ns1 : Nat), gS g2 t r o → nc ≤ nc1 → ns ≤ ns1 → lW en 2528 (lL en (t 0) (r 0) o i l5 l6 l7 l8) [] g2 nc1 ns1) : lW en 1592 (lL en (t 0) (r 0) o i none none none none) [] g (nc + 1) (ns + 6) := by
  obtain ⟨k, b, g1, g2, wo, f0, f1, f2, mc, ms, hmc, hk, h0, hW, h1, hR, h2, hT, ho, hw, hp, hS2⟩ : dO en 226 172 [.int (zI (sv en (i + 1)))] (fun _ => True) g t r o := do_sum (sv_R en (i + 1)) hS
  obtain ⟨nc1, ns1, e1, e2, l1, l2⟩ := bud (nc := nc) (ns := ns) hmc
  rw [e1, e2]
  refine pr_aload_n dL_law_1592 rfl ?_
  refine pr_aload_n dL_law_1593 rfl ?_
  refine pr_iload dL_law_1594 rfl ?_
  refine zr_iconst dL_law_1596 ?_
  refine zr_iadd dL_law_1597 ?_
  refine zr_sld dL_law_1598 (by omega) hL ?_
  refine pr_aload_n dL_law_1599 rfl ?_
  refine zw_s (as := [.ref (t 0), .int (zI (sv en (i + 1))), .ref o]) (rest := []) dL_law_1600 pzm_8_202 pzt_L_sum rfl rfl (by decide) (by decide) hW ?_
  refine pr_istore dL_law_1603 (by decide) rfl ?_
  refine pr_aload_n dL_law_1605 rfl ?_
  refine pr_aload_n dL_law_1606 rfl ?_
  refine pr_iload dL_law_1607 rfl ?_
  refine zr_iconst dL_law_1609 ?_
  refine zr_iadd dL_law_1610 ?_
  refine zr_sld dL_law_1611 (by omega) hL ?_
  refine zw_v (as := [.int (zI (sv en (i + 1)))]) (rest := []) (nc := nc1) (ns := ns1) (mc := 0) (ms := 0) dL_law_1612 pzm_8_204 pzt_X7_sum rfl rfl h1 (by decide) (by decide) (by decide) hR ?_
  refine pr_istore dL_law_1615 (by decide) rfl ?_
  refine pr_aload_n dL_law_1617 rfl ?_
  refine zw_v (as := []) (rest := []) (nc := nc1) (ns := ns1) (mc := 0) (ms := 0) dL_law_1618 pzm_8_145 pzt_X7_thrown rfl rfl h2 (by decide) (by decide) (by decide) hT ?_
  refine pr_iload dL_law_1621 rfl ?_
  refine zr_icmp_eq (tgt := 1628) dL_law_1623 (by decide) (by omega) (by omega) (fun _ => ?_) (fun c => absurd rfl c)
  refine pr_iload dL_law_1628 rfl ?_
  refine zr_if_ne (tgt := 1645) dL_law_1630 (by decide) (by omega) (fun c => ?_) (fun c => ?_)
  · refine pr_goto (tgt := 2528) dL_law_1645 (by decide) ?_
    exact hend _ _ _ _ _ _ _ hS2 l1 l2
  · refine pr_aload_n dL_law_1633 rfl ?_
    refine zr_iconst dL_law_1634 ?_
    refine pr_lald (k := 0) dL_law_1635 ho (by decide) (by decide) ?_
    refine pr_iload dL_law_1636 rfl ?_
    refine pr_i2l dL_law_1638 ?_
    refine pr_lcmp dL_law_1639 ?_
    rw [hw c, lg_cmp_rf]
    refine zr_if_eq (tgt := 1645) dL_law_1640 (by decide) (by decide) (fun _ => ?_) (fun c => absurd rfl c)
    refine pr_goto (tgt := 2528) dL_law_1645 (by decide) ?_
    exact hend _ _ _ _ _ _ _ hS2 l1 l2
set_option maxRecDepth 100000 in
set_option maxHeartbeats 4000000 in
theorem it_19 (hL : en.2.1 ≤ 3072) (i0 : 0 ≤ i) (i1 : i + 6 ≤ (en.2.1 : Int)) (hS : gS g t r o) (hend : ∀ (g2 : pz_H) (l5 l6 l7 l8 : Option Value) (nc1 ns1 : Nat), gS g2 t r o → nc ≤ nc1 → ns ≤ ns1 → lW en 2528 (lL en (t 0) (r 0) o i l5 l6 l7 l8) [] g2 nc1 ns1) : lW en 1648 (lL en (t 0) (r 0) o i none none none none) [] g (nc + 1) (ns + 6) := by
  obtain ⟨k, b, g1, g2, wo, f0, f1, f2, mc, ms, hmc, hk, h0, hW, h1, hR, h2, hT, ho, hw, hp, hS2⟩ : dO en 227 173 [.int (zI (sv en (i + 1))), .int (zI (sv en (i + 2)))] (fun _ => True) g t r o := do_apart (sv_R en (i + 1)) (sv_R en (i + 2)) hS
  obtain ⟨nc1, ns1, e1, e2, l1, l2⟩ := bud (nc := nc) (ns := ns) hmc
  rw [e1, e2]
  refine pr_aload_n dL_law_1648 rfl ?_
  refine pr_aload_n dL_law_1649 rfl ?_
  refine pr_iload dL_law_1650 rfl ?_
  refine zr_iconst dL_law_1652 ?_
  refine zr_iadd dL_law_1653 ?_
  refine zr_sld dL_law_1654 (by omega) hL ?_
  refine pr_aload_n dL_law_1655 rfl ?_
  refine pr_iload dL_law_1656 rfl ?_
  refine zr_iconst dL_law_1658 ?_
  refine zr_iadd dL_law_1659 ?_
  refine zr_sld dL_law_1660 (by omega) hL ?_
  refine pr_aload_n dL_law_1661 rfl ?_
  refine zw_s (as := [.ref (t 0), .int (zI (sv en (i + 1))), .int (zI (sv en (i + 2))), .ref o]) (rest := []) dL_law_1662 pzm_8_205 pzt_L_apart rfl rfl (by decide) (by decide) hW ?_
  refine pr_istore dL_law_1665 (by decide) rfl ?_
  refine pr_aload_n dL_law_1667 rfl ?_
  refine pr_aload_n dL_law_1668 rfl ?_
  refine pr_iload dL_law_1669 rfl ?_
  refine zr_iconst dL_law_1671 ?_
  refine zr_iadd dL_law_1672 ?_
  refine zr_sld dL_law_1673 (by omega) hL ?_
  refine pr_aload_n dL_law_1674 rfl ?_
  refine pr_iload dL_law_1675 rfl ?_
  refine zr_iconst dL_law_1677 ?_
  refine zr_iadd dL_law_1678 ?_
  refine zr_sld dL_law_1679 (by omega) hL ?_
  refine zw_v (as := [.int (zI (sv en (i + 1))), .int (zI (sv en (i + 2)))]) (rest := []) (nc := nc1) (ns := ns1) (mc := 0) (ms := 0) dL_law_1680 pzm_8_207 pzt_X7_apart rfl rfl h1 (by decide) (by decide) (by decide) hR ?_
  refine pr_istore dL_law_1683 (by decide) rfl ?_
  refine pr_aload_n dL_law_1685 rfl ?_
  refine zw_v (as := []) (rest := []) (nc := nc1) (ns := ns1) (mc := 0) (ms := 0) dL_law_1686 pzm_8_145 pzt_X7_thrown rfl rfl h2 (by decide) (by decide) (by decide) hT ?_
  refine pr_iload dL_law_1689 rfl ?_
  refine zr_icmp_eq (tgt := 1696) dL_law_1691 (by decide) (by omega) (by omega) (fun _ => ?_) (fun c => absurd rfl c)
  refine pr_iload dL_law_1696 rfl ?_
  refine zr_if_ne (tgt := 1713) dL_law_1698 (by decide) (by omega) (fun c => ?_) (fun c => ?_)
  · refine pr_goto (tgt := 2528) dL_law_1713 (by decide) ?_
    exact hend _ _ _ _ _ _ _ hS2 l1 l2
  · refine pr_aload_n dL_law_1701 rfl ?_
    refine zr_iconst dL_law_1702 ?_
    refine pr_lald (k := 0) dL_law_1703 ho (by decide) (by decide) ?_
    refine pr_iload dL_law_1704 rfl ?_
    refine pr_i2l dL_law_1706 ?_
    refine pr_lcmp dL_law_1707 ?_
    rw [hw c, lg_cmp_rf]
    refine zr_if_eq (tgt := 1713) dL_law_1708 (by decide) (by decide) (fun _ => ?_) (fun c => absurd rfl c)
    refine pr_goto (tgt := 2528) dL_law_1713 (by decide) ?_
    exact hend _ _ _ _ _ _ _ hS2 l1 l2
set_option maxRecDepth 100000 in
set_option maxHeartbeats 4000000 in
theorem it_20 (hL : en.2.1 ≤ 3072) (i0 : 0 ≤ i) (i1 : i + 6 ≤ (en.2.1 : Int)) (hS : gS g t r o) (hend : ∀ (g2 : pz_H) (l5 l6 l7 l8 : Option Value) (nc1 ns1 : Nat), gS g2 t r o → nc ≤ nc1 → ns ≤ ns1 → lW en 2528 (lL en (t 0) (r 0) o i l5 l6 l7 l8) [] g2 nc1 ns1) : lW en 1716 (lL en (t 0) (r 0) o i none none none none) [] g (nc + 1) (ns + 6) := by
  obtain ⟨k, b, g1, g2, wo, f0, f1, f2, mc, ms, hmc, hk, h0, hW, h1, hR, h2, hT, ho, hw, hp, hS2⟩ : dO en 228 174 [] (fun _ => True) g t r o := do_reason  hS
  obtain ⟨nc1, ns1, e1, e2, l1, l2⟩ := bud (nc := nc) (ns := ns) hmc
  rw [e1, e2]
  refine pr_aload_n dL_law_1716 rfl ?_
  refine pr_aload_n dL_law_1717 rfl ?_
  refine zw_s (as := [.ref (t 0), .ref o]) (rest := []) dL_law_1718 pzm_8_208 pzt_L_reason rfl rfl (by decide) (by decide) hW ?_
  refine pr_istore dL_law_1721 (by decide) rfl ?_
  refine pr_aload_n dL_law_1723 rfl ?_
  refine zw_v (as := []) (rest := []) (nc := nc1) (ns := ns1) (mc := 0) (ms := 0) dL_law_1724 pzm_8_211 pzt_X7_reason rfl rfl h1 (by decide) (by decide) (by decide) hR ?_
  refine pr_istore dL_law_1727 (by decide) rfl ?_
  refine pr_aload_n dL_law_1729 rfl ?_
  refine zw_v (as := []) (rest := []) (nc := nc1) (ns := ns1) (mc := 0) (ms := 0) dL_law_1730 pzm_8_145 pzt_X7_thrown rfl rfl h2 (by decide) (by decide) (by decide) hT ?_
  refine pr_iload dL_law_1733 rfl ?_
  refine zr_icmp_eq (tgt := 1740) dL_law_1735 (by decide) (by omega) (by omega) (fun _ => ?_) (fun c => absurd rfl c)
  refine pr_iload dL_law_1740 rfl ?_
  refine zr_if_ne (tgt := 1757) dL_law_1742 (by decide) (by omega) (fun c => ?_) (fun c => ?_)
  · refine pr_goto (tgt := 2528) dL_law_1757 (by decide) ?_
    exact hend _ _ _ _ _ _ _ hS2 l1 l2
  · refine pr_aload_n dL_law_1745 rfl ?_
    refine zr_iconst dL_law_1746 ?_
    refine pr_lald (k := 0) dL_law_1747 ho (by decide) (by decide) ?_
    refine pr_iload dL_law_1748 rfl ?_
    refine pr_i2l dL_law_1750 ?_
    refine pr_lcmp dL_law_1751 ?_
    rw [hw c, lg_cmp_rf]
    refine zr_if_eq (tgt := 1757) dL_law_1752 (by decide) (by decide) (fun _ => ?_) (fun c => absurd rfl c)
    refine pr_goto (tgt := 2528) dL_law_1757 (by decide) ?_
    exact hend _ _ _ _ _ _ _ hS2 l1 l2
set_option maxRecDepth 100000 in
set_option maxHeartbeats 4000000 in
theorem it_21 (hL : en.2.1 ≤ 3072) (i0 : 0 ≤ i) (i1 : i + 6 ≤ (en.2.1 : Int)) (hS : gS g t r o) (hend : ∀ (g2 : pz_H) (l5 l6 l7 l8 : Option Value) (nc1 ns1 : Nat), gS g2 t r o → nc ≤ nc1 → ns ≤ ns1 → lW en 2528 (lL en (t 0) (r 0) o i l5 l6 l7 l8) [] g2 nc1 ns1) : lW en 1760 (lL en (t 0) (r 0) o i none none none none) [] g (nc + 1) (ns + 6) := by
  obtain ⟨k, b, g1, g2, wo, f0, f1, f2, mc, ms, hmc, hk, h0, hW, h1, hR, h2, hT, ho, hw, hp, hS2⟩ : dO en 229 184 [] (fun _ => True) g t r o := do_go  hS
  obtain ⟨nc1, ns1, e1, e2, l1, l2⟩ := bud (nc := nc) (ns := ns) hmc
  rw [e1, e2]
  refine pr_aload_n dL_law_1760 rfl ?_
  refine pr_aload_n dL_law_1761 rfl ?_
  refine zw_s (as := [.ref (t 0), .ref o]) (rest := []) dL_law_1762 pzm_8_212 pzt_L_go rfl rfl (by decide) (by decide) hW ?_
  refine pr_istore dL_law_1765 (by decide) rfl ?_
  refine pr_aload_n dL_law_1767 rfl ?_
  refine zw_v (as := []) (rest := []) (nc := nc1) (ns := ns1) (mc := 0) (ms := 0) dL_law_1768 pzm_8_214 pzt_X7_go rfl rfl h1 (by decide) (by decide) (by decide) hR ?_
  refine pr_istore dL_law_1771 (by decide) rfl ?_
  refine pr_aload_n dL_law_1773 rfl ?_
  refine zw_v (as := []) (rest := []) (nc := nc1) (ns := ns1) (mc := 0) (ms := 0) dL_law_1774 pzm_8_145 pzt_X7_thrown rfl rfl h2 (by decide) (by decide) (by decide) hT ?_
  refine pr_iload dL_law_1777 rfl ?_
  refine zr_icmp_eq (tgt := 1784) dL_law_1779 (by decide) (by omega) (by omega) (fun _ => ?_) (fun c => absurd rfl c)
  refine pr_iload dL_law_1784 rfl ?_
  refine zr_if_ne (tgt := 1801) dL_law_1786 (by decide) (by omega) (fun c => ?_) (fun c => ?_)
  · refine pr_goto (tgt := 2528) dL_law_1801 (by decide) ?_
    exact hend _ _ _ _ _ _ _ hS2 l1 l2
  · refine pr_aload_n dL_law_1789 rfl ?_
    refine zr_iconst dL_law_1790 ?_
    refine pr_lald (k := 0) dL_law_1791 ho (by decide) (by decide) ?_
    refine pr_iload dL_law_1792 rfl ?_
    refine pr_i2l dL_law_1794 ?_
    refine pr_lcmp dL_law_1795 ?_
    rw [hw c, lg_cmp_rf]
    refine zr_if_eq (tgt := 1801) dL_law_1796 (by decide) (by decide) (fun _ => ?_) (fun c => absurd rfl c)
    refine pr_goto (tgt := 2528) dL_law_1801 (by decide) ?_
    exact hend _ _ _ _ _ _ _ hS2 l1 l2
set_option maxRecDepth 100000 in
set_option maxHeartbeats 4000000 in
theorem it_22 (hL : en.2.1 ≤ 3072) (i0 : 0 ≤ i) (i1 : i + 6 ≤ (en.2.1 : Int)) (hS : gS g t r o) (hend : ∀ (g2 : pz_H) (l5 l6 l7 l8 : Option Value) (nc1 ns1 : Nat), gS g2 t r o → nc ≤ nc1 → ns ≤ ns1 → lW en 2528 (lL en (t 0) (r 0) o i l5 l6 l7 l8) [] g2 nc1 ns1) : lW en 1804 (lL en (t 0) (r 0) o i none none none none) [] g (nc + 1) (ns + 6) := by
  obtain ⟨k, b, g1, g2, wo, f0, f1, f2, mc, ms, hmc, hk, h0, hW, h1, hR, h2, hT, ho, hw, hp, hS2⟩ : dO en 230 185 [] (fun _ => True) g t r o := do_back  hS
  obtain ⟨nc1, ns1, e1, e2, l1, l2⟩ := bud (nc := nc) (ns := ns) hmc
  rw [e1, e2]
  refine pr_aload_n dL_law_1804 rfl ?_
  refine pr_aload_n dL_law_1805 rfl ?_
  refine zw_s (as := [.ref (t 0), .ref o]) (rest := []) dL_law_1806 pzm_8_215 pzt_L_back rfl rfl (by decide) (by decide) hW ?_
  refine pr_istore dL_law_1809 (by decide) rfl ?_
  refine pr_aload_n dL_law_1811 rfl ?_
  refine zw_v (as := []) (rest := []) (nc := nc1) (ns := ns1) (mc := 0) (ms := 0) dL_law_1812 pzm_8_217 pzt_X7_back rfl rfl h1 (by decide) (by decide) (by decide) hR ?_
  refine pr_istore dL_law_1815 (by decide) rfl ?_
  refine pr_aload_n dL_law_1817 rfl ?_
  refine zw_v (as := []) (rest := []) (nc := nc1) (ns := ns1) (mc := 0) (ms := 0) dL_law_1818 pzm_8_145 pzt_X7_thrown rfl rfl h2 (by decide) (by decide) (by decide) hT ?_
  refine pr_iload dL_law_1821 rfl ?_
  refine zr_icmp_eq (tgt := 1828) dL_law_1823 (by decide) (by omega) (by omega) (fun _ => ?_) (fun c => absurd rfl c)
  refine pr_iload dL_law_1828 rfl ?_
  refine zr_if_ne (tgt := 1845) dL_law_1830 (by decide) (by omega) (fun c => ?_) (fun c => ?_)
  · refine pr_goto (tgt := 2528) dL_law_1845 (by decide) ?_
    exact hend _ _ _ _ _ _ _ hS2 l1 l2
  · refine pr_aload_n dL_law_1833 rfl ?_
    refine zr_iconst dL_law_1834 ?_
    refine pr_lald (k := 0) dL_law_1835 ho (by decide) (by decide) ?_
    refine pr_iload dL_law_1836 rfl ?_
    refine pr_i2l dL_law_1838 ?_
    refine pr_lcmp dL_law_1839 ?_
    rw [hw c, lg_cmp_rf]
    refine zr_if_eq (tgt := 1845) dL_law_1840 (by decide) (by decide) (fun _ => ?_) (fun c => absurd rfl c)
    refine pr_goto (tgt := 2528) dL_law_1845 (by decide) ?_
    exact hend _ _ _ _ _ _ _ hS2 l1 l2
set_option maxRecDepth 100000 in
set_option maxHeartbeats 4000000 in
theorem it_23 (hL : en.2.1 ≤ 3072) (i0 : 0 ≤ i) (i1 : i + 6 ≤ (en.2.1 : Int)) (hS : gS g t r o) (hend : ∀ (g2 : pz_H) (l5 l6 l7 l8 : Option Value) (nc1 ns1 : Nat), gS g2 t r o → nc ≤ nc1 → ns ≤ ns1 → lW en 2528 (lL en (t 0) (r 0) o i l5 l6 l7 l8) [] g2 nc1 ns1) : lW en 1848 (lL en (t 0) (r 0) o i none none none none) [] g (nc + 1) (ns + 6) := by
  obtain ⟨k, b, g1, g2, wo, f0, f1, f2, mc, ms, hmc, hk, h0, hW, h1, hR, h2, hT, ho, hw, hp, hS2⟩ : dO en 231 186 [.int (zI (sv en (i + 1)))] (fun _ => True) g t r o := do_jump (sv_R en (i + 1)) hS
  obtain ⟨nc1, ns1, e1, e2, l1, l2⟩ := bud (nc := nc) (ns := ns) hmc
  rw [e1, e2]
  refine pr_aload_n dL_law_1848 rfl ?_
  refine pr_aload_n dL_law_1849 rfl ?_
  refine pr_iload dL_law_1850 rfl ?_
  refine zr_iconst dL_law_1852 ?_
  refine zr_iadd dL_law_1853 ?_
  refine zr_sld dL_law_1854 (by omega) hL ?_
  refine pr_aload_n dL_law_1855 rfl ?_
  refine zw_s (as := [.ref (t 0), .int (zI (sv en (i + 1))), .ref o]) (rest := []) dL_law_1856 pzm_8_218 pzt_L_jump rfl rfl (by decide) (by decide) hW ?_
  refine pr_istore dL_law_1859 (by decide) rfl ?_
  refine pr_aload_n dL_law_1861 rfl ?_
  refine pr_aload_n dL_law_1862 rfl ?_
  refine pr_iload dL_law_1863 rfl ?_
  refine zr_iconst dL_law_1865 ?_
  refine zr_iadd dL_law_1866 ?_
  refine zr_sld dL_law_1867 (by omega) hL ?_
  refine zw_v (as := [.int (zI (sv en (i + 1)))]) (rest := []) (nc := nc1) (ns := ns1) (mc := 0) (ms := 0) dL_law_1868 pzm_8_220 pzt_X7_jump rfl rfl h1 (by decide) (by decide) (by decide) hR ?_
  refine pr_istore dL_law_1871 (by decide) rfl ?_
  refine pr_aload_n dL_law_1873 rfl ?_
  refine zw_v (as := []) (rest := []) (nc := nc1) (ns := ns1) (mc := 0) (ms := 0) dL_law_1874 pzm_8_145 pzt_X7_thrown rfl rfl h2 (by decide) (by decide) (by decide) hT ?_
  refine pr_iload dL_law_1877 rfl ?_
  refine zr_icmp_eq (tgt := 1884) dL_law_1879 (by decide) (by omega) (by omega) (fun _ => ?_) (fun c => absurd rfl c)
  refine pr_iload dL_law_1884 rfl ?_
  refine zr_if_ne (tgt := 1901) dL_law_1886 (by decide) (by omega) (fun c => ?_) (fun c => ?_)
  · refine pr_goto (tgt := 2528) dL_law_1901 (by decide) ?_
    exact hend _ _ _ _ _ _ _ hS2 l1 l2
  · refine pr_aload_n dL_law_1889 rfl ?_
    refine zr_iconst dL_law_1890 ?_
    refine pr_lald (k := 0) dL_law_1891 ho (by decide) (by decide) ?_
    refine pr_iload dL_law_1892 rfl ?_
    refine pr_i2l dL_law_1894 ?_
    refine pr_lcmp dL_law_1895 ?_
    rw [hw c, lg_cmp_rf]
    refine zr_if_eq (tgt := 1901) dL_law_1896 (by decide) (by decide) (fun _ => ?_) (fun c => absurd rfl c)
    refine pr_goto (tgt := 2528) dL_law_1901 (by decide) ?_
    exact hend _ _ _ _ _ _ _ hS2 l1 l2
set_option maxRecDepth 100000 in
set_option maxHeartbeats 4000000 in
theorem it_24 (hL : en.2.1 ≤ 3072) (i0 : 0 ≤ i) (i1 : i + 6 ≤ (en.2.1 : Int)) (hS : gS g t r o) (hend : ∀ (g2 : pz_H) (l5 l6 l7 l8 : Option Value) (nc1 ns1 : Nat), gS g2 t r o → nc ≤ nc1 → ns ≤ ns1 → lW en 2528 (lL en (t 0) (r 0) o i l5 l6 l7 l8) [] g2 nc1 ns1) : lW en 1904 (lL en (t 0) (r 0) o i none none none none) [] g (nc + 1) (ns + 6) := by
  obtain ⟨k, b, g1, g2, wo, f0, f1, f2, mc, ms, hmc, hk, h0, hW, h1, hR, h2, hT, ho, hw, hp, hS2⟩ : dO en 232 189 [.int (zI (sv en (i + 1)))] (fun _ => True) g t r o := do_pass (sv_R en (i + 1)) hS
  obtain ⟨nc1, ns1, e1, e2, l1, l2⟩ := bud (nc := nc) (ns := ns) hmc
  rw [e1, e2]
  refine pr_aload_n dL_law_1904 rfl ?_
  refine pr_aload_n dL_law_1905 rfl ?_
  refine pr_iload dL_law_1906 rfl ?_
  refine zr_iconst dL_law_1908 ?_
  refine zr_iadd dL_law_1909 ?_
  refine zr_sld dL_law_1910 (by omega) hL ?_
  refine pr_aload_n dL_law_1911 rfl ?_
  refine zw_s (as := [.ref (t 0), .int (zI (sv en (i + 1))), .ref o]) (rest := []) dL_law_1912 pzm_8_221 pzt_L_pass rfl rfl (by decide) (by decide) hW ?_
  refine pr_istore dL_law_1915 (by decide) rfl ?_
  refine pr_aload_n dL_law_1917 rfl ?_
  refine pr_aload_n dL_law_1918 rfl ?_
  refine pr_iload dL_law_1919 rfl ?_
  refine zr_iconst dL_law_1921 ?_
  refine zr_iadd dL_law_1922 ?_
  refine zr_sld dL_law_1923 (by omega) hL ?_
  refine zw_v (as := [.int (zI (sv en (i + 1)))]) (rest := []) (nc := nc1) (ns := ns1) (mc := 0) (ms := 0) dL_law_1924 pzm_8_223 pzt_X7_pass rfl rfl h1 (by decide) (by decide) (by decide) hR ?_
  refine pr_istore dL_law_1927 (by decide) rfl ?_
  refine pr_aload_n dL_law_1929 rfl ?_
  refine zw_v (as := []) (rest := []) (nc := nc1) (ns := ns1) (mc := 0) (ms := 0) dL_law_1930 pzm_8_145 pzt_X7_thrown rfl rfl h2 (by decide) (by decide) (by decide) hT ?_
  refine pr_iload dL_law_1933 rfl ?_
  refine zr_icmp_eq (tgt := 1940) dL_law_1935 (by decide) (by omega) (by omega) (fun _ => ?_) (fun c => absurd rfl c)
  refine pr_iload dL_law_1940 rfl ?_
  refine zr_if_ne (tgt := 1957) dL_law_1942 (by decide) (by omega) (fun c => ?_) (fun c => ?_)
  · refine pr_goto (tgt := 2528) dL_law_1957 (by decide) ?_
    exact hend _ _ _ _ _ _ _ hS2 l1 l2
  · refine pr_aload_n dL_law_1945 rfl ?_
    refine zr_iconst dL_law_1946 ?_
    refine pr_lald (k := 0) dL_law_1947 ho (by decide) (by decide) ?_
    refine pr_iload dL_law_1948 rfl ?_
    refine pr_i2l dL_law_1950 ?_
    refine pr_lcmp dL_law_1951 ?_
    rw [hw c, lg_cmp_rf]
    refine zr_if_eq (tgt := 1957) dL_law_1952 (by decide) (by decide) (fun _ => ?_) (fun c => absurd rfl c)
    refine pr_goto (tgt := 2528) dL_law_1957 (by decide) ?_
    exact hend _ _ _ _ _ _ _ hS2 l1 l2
set_option maxRecDepth 100000 in
set_option maxHeartbeats 4000000 in
theorem it_25 (hL : en.2.1 ≤ 3072) (i0 : 0 ≤ i) (i1 : i + 6 ≤ (en.2.1 : Int)) (hS : gS g t r o) (hend : ∀ (g2 : pz_H) (l5 l6 l7 l8 : Option Value) (nc1 ns1 : Nat), gS g2 t r o → nc ≤ nc1 → ns ≤ ns1 → lW en 2528 (lL en (t 0) (r 0) o i l5 l6 l7 l8) [] g2 nc1 ns1) : lW en 1960 (lL en (t 0) (r 0) o i none none none none) [] g (nc + 1) (ns + 6) := by
  obtain ⟨k, b, g1, g2, wo, f0, f1, f2, mc, ms, hmc, hk, h0, hW, h1, hR, h2, hT, ho, hw, hp, hS2⟩ : dO en 233 190 [.int (zI (sv en (i + 1)))] (fun _ => True) g t r o := do_now (sv_R en (i + 1)) hS
  obtain ⟨nc1, ns1, e1, e2, l1, l2⟩ := bud (nc := nc) (ns := ns) hmc
  rw [e1, e2]
  refine pr_aload_n dL_law_1960 rfl ?_
  refine pr_aload_n dL_law_1961 rfl ?_
  refine pr_iload dL_law_1962 rfl ?_
  refine zr_iconst dL_law_1964 ?_
  refine zr_iadd dL_law_1965 ?_
  refine zr_sld dL_law_1966 (by omega) hL ?_
  refine pr_aload_n dL_law_1967 rfl ?_
  refine zw_s (as := [.ref (t 0), .int (zI (sv en (i + 1))), .ref o]) (rest := []) dL_law_1968 pzm_8_224 pzt_L_now rfl rfl (by decide) (by decide) hW ?_
  refine pr_istore dL_law_1971 (by decide) rfl ?_
  refine pr_aload_n dL_law_1973 rfl ?_
  refine pr_aload_n dL_law_1974 rfl ?_
  refine pr_iload dL_law_1975 rfl ?_
  refine zr_iconst dL_law_1977 ?_
  refine zr_iadd dL_law_1978 ?_
  refine zr_sld dL_law_1979 (by omega) hL ?_
  refine zw_v (as := [.int (zI (sv en (i + 1)))]) (rest := []) (nc := nc1) (ns := ns1) (mc := 0) (ms := 0) dL_law_1980 pzm_8_226 pzt_X7_now rfl rfl h1 (by decide) (by decide) (by decide) hR ?_
  refine pr_istore dL_law_1983 (by decide) rfl ?_
  refine pr_aload_n dL_law_1985 rfl ?_
  refine zw_v (as := []) (rest := []) (nc := nc1) (ns := ns1) (mc := 0) (ms := 0) dL_law_1986 pzm_8_145 pzt_X7_thrown rfl rfl h2 (by decide) (by decide) (by decide) hT ?_
  refine pr_iload dL_law_1989 rfl ?_
  refine zr_icmp_eq (tgt := 1996) dL_law_1991 (by decide) (by omega) (by omega) (fun _ => ?_) (fun c => absurd rfl c)
  refine pr_iload dL_law_1996 rfl ?_
  refine zr_if_ne (tgt := 2013) dL_law_1998 (by decide) (by omega) (fun c => ?_) (fun c => ?_)
  · refine pr_goto (tgt := 2528) dL_law_2013 (by decide) ?_
    exact hend _ _ _ _ _ _ _ hS2 l1 l2
  · refine pr_aload_n dL_law_2001 rfl ?_
    refine zr_iconst dL_law_2002 ?_
    refine pr_lald (k := 0) dL_law_2003 ho (by decide) (by decide) ?_
    refine pr_iload dL_law_2004 rfl ?_
    refine pr_i2l dL_law_2006 ?_
    refine pr_lcmp dL_law_2007 ?_
    rw [hw c, lg_cmp_rf]
    refine zr_if_eq (tgt := 2013) dL_law_2008 (by decide) (by decide) (fun _ => ?_) (fun c => absurd rfl c)
    refine pr_goto (tgt := 2528) dL_law_2013 (by decide) ?_
    exact hend _ _ _ _ _ _ _ hS2 l1 l2
set_option maxRecDepth 100000 in
set_option maxHeartbeats 4000000 in
theorem it_26 (hL : en.2.1 ≤ 3072) (i0 : 0 ≤ i) (i1 : i + 6 ≤ (en.2.1 : Int)) (hS : gS g t r o) (hend : ∀ (g2 : pz_H) (l5 l6 l7 l8 : Option Value) (nc1 ns1 : Nat), gS g2 t r o → nc ≤ nc1 → ns ≤ ns1 → lW en 2528 (lL en (t 0) (r 0) o i l5 l6 l7 l8) [] g2 nc1 ns1) : lW en 2016 (lL en (t 0) (r 0) o i none none none none) [] g (nc + 1) (ns + 6) := by
  obtain ⟨k, b, g1, g2, wo, f0, f1, f2, mc, ms, hmc, hk, h0, hW, h1, hR, h2, hT, ho, hw, hp, hS2⟩ : dO en 234 191 [.int (zI (sv en (i + 1)))] (fun _ => True) g t r o := do_target (sv_R en (i + 1)) hS
  obtain ⟨nc1, ns1, e1, e2, l1, l2⟩ := bud (nc := nc) (ns := ns) hmc
  rw [e1, e2]
  refine pr_aload_n dL_law_2016 rfl ?_
  refine pr_aload_n dL_law_2017 rfl ?_
  refine pr_iload dL_law_2018 rfl ?_
  refine zr_iconst dL_law_2020 ?_
  refine zr_iadd dL_law_2021 ?_
  refine zr_sld dL_law_2022 (by omega) hL ?_
  refine pr_aload_n dL_law_2023 rfl ?_
  refine zw_s (as := [.ref (t 0), .int (zI (sv en (i + 1))), .ref o]) (rest := []) dL_law_2024 pzm_8_227 pzt_L_target rfl rfl (by decide) (by decide) hW ?_
  refine pr_istore dL_law_2027 (by decide) rfl ?_
  refine pr_aload_n dL_law_2029 rfl ?_
  refine pr_aload_n dL_law_2030 rfl ?_
  refine pr_iload dL_law_2031 rfl ?_
  refine zr_iconst dL_law_2033 ?_
  refine zr_iadd dL_law_2034 ?_
  refine zr_sld dL_law_2035 (by omega) hL ?_
  refine zw_v (as := [.int (zI (sv en (i + 1)))]) (rest := []) (nc := nc1) (ns := ns1) (mc := 0) (ms := 0) dL_law_2036 pzm_8_229 pzt_X7_target rfl rfl h1 (by decide) (by decide) (by decide) hR ?_
  refine pr_istore dL_law_2039 (by decide) rfl ?_
  refine pr_aload_n dL_law_2041 rfl ?_
  refine zw_v (as := []) (rest := []) (nc := nc1) (ns := ns1) (mc := 0) (ms := 0) dL_law_2042 pzm_8_145 pzt_X7_thrown rfl rfl h2 (by decide) (by decide) (by decide) hT ?_
  refine pr_iload dL_law_2045 rfl ?_
  refine zr_icmp_eq (tgt := 2052) dL_law_2047 (by decide) (by omega) (by omega) (fun _ => ?_) (fun c => absurd rfl c)
  refine pr_iload dL_law_2052 rfl ?_
  refine zr_if_ne (tgt := 2069) dL_law_2054 (by decide) (by omega) (fun c => ?_) (fun c => ?_)
  · refine pr_goto (tgt := 2528) dL_law_2069 (by decide) ?_
    exact hend _ _ _ _ _ _ _ hS2 l1 l2
  · refine pr_aload_n dL_law_2057 rfl ?_
    refine zr_iconst dL_law_2058 ?_
    refine pr_lald (k := 0) dL_law_2059 ho (by decide) (by decide) ?_
    refine pr_iload dL_law_2060 rfl ?_
    refine pr_i2l dL_law_2062 ?_
    refine pr_lcmp dL_law_2063 ?_
    rw [hw c, lg_cmp_rf]
    refine zr_if_eq (tgt := 2069) dL_law_2064 (by decide) (by decide) (fun _ => ?_) (fun c => absurd rfl c)
    refine pr_goto (tgt := 2528) dL_law_2069 (by decide) ?_
    exact hend _ _ _ _ _ _ _ hS2 l1 l2
set_option maxRecDepth 100000 in
set_option maxHeartbeats 4000000 in
theorem it_27 (hL : en.2.1 ≤ 3072) (i0 : 0 ≤ i) (i1 : i + 6 ≤ (en.2.1 : Int)) (hS : gS g t r o) (hend : ∀ (g2 : pz_H) (l5 l6 l7 l8 : Option Value) (nc1 ns1 : Nat), gS g2 t r o → nc ≤ nc1 → ns ≤ ns1 → lW en 2528 (lL en (t 0) (r 0) o i l5 l6 l7 l8) [] g2 nc1 ns1) : lW en 2072 (lL en (t 0) (r 0) o i none none none none) [] g (nc + 1) (ns + 6) := by
  obtain ⟨k, b, g1, g2, wo, f0, f1, f2, mc, ms, hmc, hk, h0, hW, h1, hR, h2, hT, ho, hw, hp, hS2⟩ : dO en 235 194 [.int (zI (sv en (i + 1)))] (fun _ => True) g t r o := do_playing (sv_R en (i + 1)) hS
  obtain ⟨nc1, ns1, e1, e2, l1, l2⟩ := bud (nc := nc) (ns := ns) hmc
  rw [e1, e2]
  refine pr_aload_n dL_law_2072 rfl ?_
  refine pr_aload_n dL_law_2073 rfl ?_
  refine pr_iload dL_law_2074 rfl ?_
  refine zr_iconst dL_law_2076 ?_
  refine zr_iadd dL_law_2077 ?_
  refine zr_sld dL_law_2078 (by omega) hL ?_
  refine pr_aload_n dL_law_2079 rfl ?_
  refine zw_s (as := [.ref (t 0), .int (zI (sv en (i + 1))), .ref o]) (rest := []) dL_law_2080 pzm_8_230 pzt_L_playing rfl rfl (by decide) (by decide) hW ?_
  refine pr_istore dL_law_2083 (by decide) rfl ?_
  refine pr_aload_n dL_law_2085 rfl ?_
  refine pr_aload_n dL_law_2086 rfl ?_
  refine pr_iload dL_law_2087 rfl ?_
  refine zr_iconst dL_law_2089 ?_
  refine zr_iadd dL_law_2090 ?_
  refine zr_sld dL_law_2091 (by omega) hL ?_
  refine zw_v (as := [.int (zI (sv en (i + 1)))]) (rest := []) (nc := nc1) (ns := ns1) (mc := 0) (ms := 0) dL_law_2092 pzm_8_232 pzt_X7_playing rfl rfl h1 (by decide) (by decide) (by decide) hR ?_
  refine pr_istore dL_law_2095 (by decide) rfl ?_
  refine pr_aload_n dL_law_2097 rfl ?_
  refine zw_v (as := []) (rest := []) (nc := nc1) (ns := ns1) (mc := 0) (ms := 0) dL_law_2098 pzm_8_145 pzt_X7_thrown rfl rfl h2 (by decide) (by decide) (by decide) hT ?_
  refine pr_iload dL_law_2101 rfl ?_
  refine zr_icmp_eq (tgt := 2108) dL_law_2103 (by decide) (by omega) (by omega) (fun _ => ?_) (fun c => absurd rfl c)
  refine pr_iload dL_law_2108 rfl ?_
  refine zr_if_ne (tgt := 2125) dL_law_2110 (by decide) (by omega) (fun c => ?_) (fun c => ?_)
  · refine pr_goto (tgt := 2528) dL_law_2125 (by decide) ?_
    exact hend _ _ _ _ _ _ _ hS2 l1 l2
  · refine pr_aload_n dL_law_2113 rfl ?_
    refine zr_iconst dL_law_2114 ?_
    refine pr_lald (k := 0) dL_law_2115 ho (by decide) (by decide) ?_
    refine pr_iload dL_law_2116 rfl ?_
    refine pr_i2l dL_law_2118 ?_
    refine pr_lcmp dL_law_2119 ?_
    rw [hw c, lg_cmp_rf]
    refine zr_if_eq (tgt := 2125) dL_law_2120 (by decide) (by decide) (fun _ => ?_) (fun c => absurd rfl c)
    refine pr_goto (tgt := 2528) dL_law_2125 (by decide) ?_
    exact hend _ _ _ _ _ _ _ hS2 l1 l2
set_option maxRecDepth 100000 in
set_option maxHeartbeats 4000000 in
theorem it_28 (hL : en.2.1 ≤ 3072) (i0 : 0 ≤ i) (i1 : i + 6 ≤ (en.2.1 : Int)) (hS : gS g t r o) (hend : ∀ (g2 : pz_H) (l5 l6 l7 l8 : Option Value) (nc1 ns1 : Nat), gS g2 t r o → nc ≤ nc1 → ns ≤ ns1 → lW en 2528 (lL en (t 0) (r 0) o i l5 l6 l7 l8) [] g2 nc1 ns1) : lW en 2128 (lL en (t 0) (r 0) o i none none none none) [] g (nc + 1) (ns + 6) := by
  obtain ⟨k, b, g1, g2, wo, f0, f1, f2, mc, ms, hmc, hk, h0, hW, h1, hR, h2, hT, ho, hw, hp, hS2⟩ : dO en 236 195 [.int (zI (sv en (i + 1)))] (fun _ => True) g t r o := do_chain (sv_R en (i + 1)) hS
  obtain ⟨nc1, ns1, e1, e2, l1, l2⟩ := bud (nc := nc) (ns := ns) hmc
  rw [e1, e2]
  refine pr_aload_n dL_law_2128 rfl ?_
  refine pr_aload_n dL_law_2129 rfl ?_
  refine pr_iload dL_law_2130 rfl ?_
  refine zr_iconst dL_law_2132 ?_
  refine zr_iadd dL_law_2133 ?_
  refine zr_sld dL_law_2134 (by omega) hL ?_
  refine pr_aload_n dL_law_2135 rfl ?_
  refine zw_s (as := [.ref (t 0), .int (zI (sv en (i + 1))), .ref o]) (rest := []) dL_law_2136 pzm_8_233 pzt_L_chain rfl rfl (by decide) (by decide) hW ?_
  refine pr_istore dL_law_2139 (by decide) rfl ?_
  refine pr_aload_n dL_law_2141 rfl ?_
  refine pr_aload_n dL_law_2142 rfl ?_
  refine pr_iload dL_law_2143 rfl ?_
  refine zr_iconst dL_law_2145 ?_
  refine zr_iadd dL_law_2146 ?_
  refine zr_sld dL_law_2147 (by omega) hL ?_
  refine zw_v (as := [.int (zI (sv en (i + 1)))]) (rest := []) (nc := nc1) (ns := ns1) (mc := 0) (ms := 0) dL_law_2148 pzm_8_235 pzt_X7_chain rfl rfl h1 (by decide) (by decide) (by decide) hR ?_
  refine pr_istore dL_law_2151 (by decide) rfl ?_
  refine pr_aload_n dL_law_2153 rfl ?_
  refine zw_v (as := []) (rest := []) (nc := nc1) (ns := ns1) (mc := 0) (ms := 0) dL_law_2154 pzm_8_145 pzt_X7_thrown rfl rfl h2 (by decide) (by decide) (by decide) hT ?_
  refine pr_iload dL_law_2157 rfl ?_
  refine zr_icmp_eq (tgt := 2164) dL_law_2159 (by decide) (by omega) (by omega) (fun _ => ?_) (fun c => absurd rfl c)
  refine pr_iload dL_law_2164 rfl ?_
  refine zr_if_ne (tgt := 2181) dL_law_2166 (by decide) (by omega) (fun c => ?_) (fun c => ?_)
  · refine pr_goto (tgt := 2528) dL_law_2181 (by decide) ?_
    exact hend _ _ _ _ _ _ _ hS2 l1 l2
  · refine pr_aload_n dL_law_2169 rfl ?_
    refine zr_iconst dL_law_2170 ?_
    refine pr_lald (k := 0) dL_law_2171 ho (by decide) (by decide) ?_
    refine pr_iload dL_law_2172 rfl ?_
    refine pr_i2l dL_law_2174 ?_
    refine pr_lcmp dL_law_2175 ?_
    rw [hw c, lg_cmp_rf]
    refine zr_if_eq (tgt := 2181) dL_law_2176 (by decide) (by decide) (fun _ => ?_) (fun c => absurd rfl c)
    refine pr_goto (tgt := 2528) dL_law_2181 (by decide) ?_
    exact hend _ _ _ _ _ _ _ hS2 l1 l2
set_option maxRecDepth 100000 in
set_option maxHeartbeats 4000000 in
theorem it_29 (hL : en.2.1 ≤ 3072) (i0 : 0 ≤ i) (i1 : i + 6 ≤ (en.2.1 : Int)) (hS : gS g t r o) (hend : ∀ (g2 : pz_H) (l5 l6 l7 l8 : Option Value) (nc1 ns1 : Nat), gS g2 t r o → nc ≤ nc1 → ns ≤ ns1 → lW en 2528 (lL en (t 0) (r 0) o i l5 l6 l7 l8) [] g2 nc1 ns1) : lW en 2184 (lL en (t 0) (r 0) o i none none none none) [] g (nc + 1) (ns + 6) := by
  obtain ⟨k, b, g1, g2, wo, f0, f1, f2, mc, ms, hmc, hk, h0, hW, h1, hR, h2, hT, ho, hw, hp, hS2⟩ : dO en 237 198 [.int (zI (sv en (i + 1)))] (fun _ => True) g t r o := do_account (sv_R en (i + 1)) hS
  obtain ⟨nc1, ns1, e1, e2, l1, l2⟩ := bud (nc := nc) (ns := ns) hmc
  rw [e1, e2]
  refine pr_aload_n dL_law_2184 rfl ?_
  refine pr_aload_n dL_law_2185 rfl ?_
  refine pr_iload dL_law_2186 rfl ?_
  refine zr_iconst dL_law_2188 ?_
  refine zr_iadd dL_law_2189 ?_
  refine zr_sld dL_law_2190 (by omega) hL ?_
  refine pr_aload_n dL_law_2191 rfl ?_
  refine zw_s (as := [.ref (t 0), .int (zI (sv en (i + 1))), .ref o]) (rest := []) dL_law_2192 pzm_8_236 pzt_L_account rfl rfl (by decide) (by decide) hW ?_
  refine pr_istore dL_law_2195 (by decide) rfl ?_
  refine pr_aload_n dL_law_2197 rfl ?_
  refine pr_aload_n dL_law_2198 rfl ?_
  refine pr_iload dL_law_2199 rfl ?_
  refine zr_iconst dL_law_2201 ?_
  refine zr_iadd dL_law_2202 ?_
  refine zr_sld dL_law_2203 (by omega) hL ?_
  refine zw_v (as := [.int (zI (sv en (i + 1)))]) (rest := []) (nc := nc1) (ns := ns1) (mc := 0) (ms := 0) dL_law_2204 pzm_8_238 pzt_X7_account rfl rfl h1 (by decide) (by decide) (by decide) hR ?_
  refine pr_istore dL_law_2207 (by decide) rfl ?_
  refine pr_aload_n dL_law_2209 rfl ?_
  refine zw_v (as := []) (rest := []) (nc := nc1) (ns := ns1) (mc := 0) (ms := 0) dL_law_2210 pzm_8_145 pzt_X7_thrown rfl rfl h2 (by decide) (by decide) (by decide) hT ?_
  refine pr_iload dL_law_2213 rfl ?_
  refine zr_icmp_eq (tgt := 2220) dL_law_2215 (by decide) (by omega) (by omega) (fun _ => ?_) (fun c => absurd rfl c)
  refine pr_iload dL_law_2220 rfl ?_
  refine zr_if_ne (tgt := 2237) dL_law_2222 (by decide) (by omega) (fun c => ?_) (fun c => ?_)
  · refine pr_goto (tgt := 2528) dL_law_2237 (by decide) ?_
    exact hend _ _ _ _ _ _ _ hS2 l1 l2
  · refine pr_aload_n dL_law_2225 rfl ?_
    refine zr_iconst dL_law_2226 ?_
    refine pr_lald (k := 0) dL_law_2227 ho (by decide) (by decide) ?_
    refine pr_iload dL_law_2228 rfl ?_
    refine pr_i2l dL_law_2230 ?_
    refine pr_lcmp dL_law_2231 ?_
    rw [hw c, lg_cmp_rf]
    refine zr_if_eq (tgt := 2237) dL_law_2232 (by decide) (by decide) (fun _ => ?_) (fun c => absurd rfl c)
    refine pr_goto (tgt := 2528) dL_law_2237 (by decide) ?_
    exact hend _ _ _ _ _ _ _ hS2 l1 l2
set_option maxRecDepth 100000 in
set_option maxHeartbeats 4000000 in
theorem it_30 (hL : en.2.1 ≤ 3072) (i0 : 0 ≤ i) (i1 : i + 6 ≤ (en.2.1 : Int)) (hS : gS g t r o) (hend : ∀ (g2 : pz_H) (l5 l6 l7 l8 : Option Value) (nc1 ns1 : Nat), gS g2 t r o → nc ≤ nc1 → ns ≤ ns1 → lW en 2528 (lL en (t 0) (r 0) o i l5 l6 l7 l8) [] g2 nc1 ns1) : lW en 2240 (lL en (t 0) (r 0) o i none none none none) [] g (nc + 1) (ns + 6) := by
  obtain ⟨z, g2, f0, f1, hz, h0, h1, hC, hR, hS2⟩ := do_mean (en := en) hS
  have hq := (dMn_ok hz).2
  refine pr_aload_n dL_law_2240 rfl ?_
  refine zw_v (as := []) (rest := []) (nc := nc + 1) (ns := ns + 6) (mc := 0) (ms := 0) dL_law_2241 pzm_8_239 pzt_X6_meanLevel rfl rfl h0 (by decide) (by decide) (by decide) hC ?_
  refine pr_dstore dL_law_2244 (by decide) rfl ?_
  refine pr_aload_n dL_law_2246 rfl ?_
  refine zw_v (as := []) (rest := []) (nc := nc + 1) (ns := ns + 6) (mc := 0) (ms := 0) dL_law_2247 pzm_8_243 pzt_X7_meanLevel rfl rfl h1 (by decide) (by decide) (by decide) hR ?_
  refine pr_dstore dL_law_2250 (by decide) rfl ?_
  refine pr_dload dL_law_2252 rfl ?_
  refine pr_dload dL_law_2254 rfl ?_
  refine pr_dcmp dL_law_2256 ?_
  rw [hq]
  refine zr_if_eq (x := 0) (tgt := 2278) dL_law_2257 (by decide) (by decide) (fun _ => ?_) (fun c => absurd rfl c)
  refine pr_goto (tgt := 2528) dL_law_2278 (by decide) ?_
  exact hend _ _ _ _ _ _ _ hS2 (by omega) (by omega)
set_option maxRecDepth 100000 in
set_option maxHeartbeats 4000000 in
theorem it_31 (hL : en.2.1 ≤ 3072) (i0 : 0 ≤ i) (i1 : i + 6 ≤ (en.2.1 : Int)) (hS : gS g t r o) (hend : ∀ (g2 : pz_H) (l5 l6 l7 l8 : Option Value) (nc1 ns1 : Nat), gS g2 t r o → nc ≤ nc1 → ns ≤ ns1 → lW en 2528 (lL en (t 0) (r 0) o i l5 l6 l7 l8) [] g2 nc1 ns1) : lW en 2281 (lL en (t 0) (r 0) o i none none none none) [] g (nc + 1) (ns + 6) := by
  obtain ⟨k, b, g1, g2, wo, f0, f1, f2, mc, ms, hmc, hk, h0, hW, h1, hR, h2, hT, ho, hw, hp, hS2⟩ : dO en 238 200 [.int (zI (((zI (sv en (i + 1))).toUInt32 % 65536).toNat : Int))] (fun _ => True) g t r o := do_append (i2c_R _) hS
  obtain ⟨nc1, ns1, e1, e2, l1, l2⟩ := bud (nc := nc) (ns := ns) hmc
  rw [e1, e2]
  refine pr_aload_n dL_law_2281 rfl ?_
  refine pr_aload_n dL_law_2282 rfl ?_
  refine pr_iload dL_law_2283 rfl ?_
  refine zr_iconst dL_law_2285 ?_
  refine zr_iadd dL_law_2286 ?_
  refine zr_sld dL_law_2287 (by omega) hL ?_
  refine pr_i2c dL_law_2288 ?_
  rw [i2c_z]
  refine pr_aload_n dL_law_2289 rfl ?_
  refine zw_s (as := [.ref (t 0), .int (zI (((zI (sv en (i + 1))).toUInt32 % 65536).toNat : Int)), .ref o]) (rest := []) dL_law_2290 pzm_8_244 pzt_L_append rfl rfl (by decide) (by decide) hW ?_
  refine pr_istore dL_law_2293 (by decide) rfl ?_
  refine pr_aload_n dL_law_2295 rfl ?_
  refine pr_aload_n dL_law_2296 rfl ?_
  refine pr_iload dL_law_2297 rfl ?_
  refine zr_iconst dL_law_2299 ?_
  refine zr_iadd dL_law_2300 ?_
  refine zr_sld dL_law_2301 (by omega) hL ?_
  refine pr_i2c dL_law_2302 ?_
  rw [i2c_z]
  refine zw_v (as := [.int (zI (((zI (sv en (i + 1))).toUInt32 % 65536).toNat : Int))]) (rest := []) (nc := nc1) (ns := ns1) (mc := 0) (ms := 0) dL_law_2303 pzm_8_247 pzt_X7_append rfl rfl h1 (by decide) (by decide) (by decide) hR ?_
  refine pr_istore dL_law_2306 (by decide) rfl ?_
  refine pr_aload_n dL_law_2308 rfl ?_
  refine zw_v (as := []) (rest := []) (nc := nc1) (ns := ns1) (mc := 0) (ms := 0) dL_law_2309 pzm_8_145 pzt_X7_thrown rfl rfl h2 (by decide) (by decide) (by decide) hT ?_
  refine pr_iload dL_law_2312 rfl ?_
  refine zr_icmp_eq (tgt := 2319) dL_law_2314 (by decide) (by omega) (by omega) (fun _ => ?_) (fun c => absurd rfl c)
  refine pr_iload dL_law_2319 rfl ?_
  refine zr_if_ne (tgt := 2336) dL_law_2321 (by decide) (by omega) (fun c => ?_) (fun c => ?_)
  · refine pr_goto (tgt := 2528) dL_law_2336 (by decide) ?_
    exact hend _ _ _ _ _ _ _ hS2 l1 l2
  · refine pr_aload_n dL_law_2324 rfl ?_
    refine zr_iconst dL_law_2325 ?_
    refine pr_lald (k := 0) dL_law_2326 ho (by decide) (by decide) ?_
    refine pr_iload dL_law_2327 rfl ?_
    refine pr_i2l dL_law_2329 ?_
    refine pr_lcmp dL_law_2330 ?_
    rw [hw c, lg_cmp_rf]
    refine zr_if_eq (tgt := 2336) dL_law_2331 (by decide) (by decide) (fun _ => ?_) (fun c => absurd rfl c)
    refine pr_goto (tgt := 2528) dL_law_2336 (by decide) ?_
    exact hend _ _ _ _ _ _ _ hS2 l1 l2
set_option maxRecDepth 100000 in
set_option maxHeartbeats 4000000 in
theorem it_32 (hL : en.2.1 ≤ 3072) (i0 : 0 ≤ i) (i1 : i + 6 ≤ (en.2.1 : Int)) (hS : gS g t r o) (hend : ∀ (g2 : pz_H) (l5 l6 l7 l8 : Option Value) (nc1 ns1 : Nat), gS g2 t r o → nc ≤ nc1 → ns ≤ ns1 → lW en 2528 (lL en (t 0) (r 0) o i l5 l6 l7 l8) [] g2 nc1 ns1) : lW en 2339 (lL en (t 0) (r 0) o i none none none none) [] g (nc + 1) (ns + 6) := by
  obtain ⟨k, b, g1, g2, wo, f0, f1, f2, mc, ms, hmc, hk, h0, hW, h1, hR, h2, hT, ho, hw, hp, hS2⟩ : dO en 239 209 [] (fun _ => True) g t r o := do_read  hS
  obtain ⟨nc1, ns1, e1, e2, l1, l2⟩ := bud (nc := nc) (ns := ns) hmc
  rw [e1, e2]
  refine pr_aload_n dL_law_2339 rfl ?_
  refine pr_aload_n dL_law_2340 rfl ?_
  refine zw_s (as := [.ref (t 0), .ref o]) (rest := []) dL_law_2341 pzm_8_248 pzt_L_read rfl rfl (by decide) (by decide) hW ?_
  refine pr_istore dL_law_2344 (by decide) rfl ?_
  refine pr_aload_n dL_law_2346 rfl ?_
  refine zw_v (as := []) (rest := []) (nc := nc1) (ns := ns1) (mc := 0) (ms := 0) dL_law_2347 pzm_8_250 pzt_X7_read rfl rfl h1 (by decide) (by decide) (by decide) hR ?_
  refine pr_istore dL_law_2350 (by decide) rfl ?_
  refine pr_aload_n dL_law_2352 rfl ?_
  refine zw_v (as := []) (rest := []) (nc := nc1) (ns := ns1) (mc := 0) (ms := 0) dL_law_2353 pzm_8_145 pzt_X7_thrown rfl rfl h2 (by decide) (by decide) (by decide) hT ?_
  refine pr_iload dL_law_2356 rfl ?_
  refine zr_icmp_eq (tgt := 2363) dL_law_2358 (by decide) (by omega) (by omega) (fun _ => ?_) (fun c => absurd rfl c)
  refine pr_iload dL_law_2363 rfl ?_
  refine zr_if_ne (tgt := 2380) dL_law_2365 (by decide) (by omega) (fun c => ?_) (fun c => ?_)
  · refine pr_goto (tgt := 2528) dL_law_2380 (by decide) ?_
    exact hend _ _ _ _ _ _ _ hS2 l1 l2
  · refine pr_aload_n dL_law_2368 rfl ?_
    refine zr_iconst dL_law_2369 ?_
    refine pr_lald (k := 0) dL_law_2370 ho (by decide) (by decide) ?_
    refine pr_iload dL_law_2371 rfl ?_
    refine pr_i2l dL_law_2373 ?_
    refine pr_lcmp dL_law_2374 ?_
    rw [hw c, lg_cmp_rf]
    refine zr_if_eq (tgt := 2380) dL_law_2375 (by decide) (by decide) (fun _ => ?_) (fun c => absurd rfl c)
    refine pr_goto (tgt := 2528) dL_law_2380 (by decide) ?_
    exact hend _ _ _ _ _ _ _ hS2 l1 l2
set_option maxRecDepth 100000 in
set_option maxHeartbeats 4000000 in
theorem it_33 (hL : en.2.1 ≤ 3072) (i0 : 0 ≤ i) (i1 : i + 6 ≤ (en.2.1 : Int)) (hS : gS g t r o) (hend : ∀ (g2 : pz_H) (l5 l6 l7 l8 : Option Value) (nc1 ns1 : Nat), gS g2 t r o → nc ≤ nc1 → ns ≤ ns1 → lW en 2528 (lL en (t 0) (r 0) o i l5 l6 l7 l8) [] g2 nc1 ns1) : lW en 2383 (lL en (t 0) (r 0) o i none none none none) [] g (nc + 1) (ns + 6) := by
  obtain ⟨k, b, g1, g2, wo, f0, f1, f2, mc, ms, hmc, hk, h0, hW, h1, hR, h2, hT, ho, hw, hp, hS2⟩ : dO en 240 210 [] (fun _ => True) g t r o := do_errorPosition  hS
  obtain ⟨nc1, ns1, e1, e2, l1, l2⟩ := bud (nc := nc) (ns := ns) hmc
  rw [e1, e2]
  refine pr_aload_n dL_law_2383 rfl ?_
  refine pr_aload_n dL_law_2384 rfl ?_
  refine zw_s (as := [.ref (t 0), .ref o]) (rest := []) dL_law_2385 pzm_8_251 pzt_L_errorPosition rfl rfl (by decide) (by decide) hW ?_
  refine pr_istore dL_law_2388 (by decide) rfl ?_
  refine pr_aload_n dL_law_2390 rfl ?_
  refine zw_v (as := []) (rest := []) (nc := nc1) (ns := ns1) (mc := 0) (ms := 0) dL_law_2391 pzm_8_253 pzt_X7_errorPosition rfl rfl h1 (by decide) (by decide) (by decide) hR ?_
  refine pr_istore dL_law_2394 (by decide) rfl ?_
  refine pr_aload_n dL_law_2396 rfl ?_
  refine zw_v (as := []) (rest := []) (nc := nc1) (ns := ns1) (mc := 0) (ms := 0) dL_law_2397 pzm_8_145 pzt_X7_thrown rfl rfl h2 (by decide) (by decide) (by decide) hT ?_
  refine pr_iload dL_law_2400 rfl ?_
  refine zr_icmp_eq (tgt := 2407) dL_law_2402 (by decide) (by omega) (by omega) (fun _ => ?_) (fun c => absurd rfl c)
  refine pr_iload dL_law_2407 rfl ?_
  refine zr_if_ne (tgt := 2424) dL_law_2409 (by decide) (by omega) (fun c => ?_) (fun c => ?_)
  · refine pr_goto (tgt := 2528) dL_law_2424 (by decide) ?_
    exact hend _ _ _ _ _ _ _ hS2 l1 l2
  · refine pr_aload_n dL_law_2412 rfl ?_
    refine zr_iconst dL_law_2413 ?_
    refine pr_lald (k := 0) dL_law_2414 ho (by decide) (by decide) ?_
    refine pr_iload dL_law_2415 rfl ?_
    refine pr_i2l dL_law_2417 ?_
    refine pr_lcmp dL_law_2418 ?_
    rw [hw c, lg_cmp_rf]
    refine zr_if_eq (tgt := 2424) dL_law_2419 (by decide) (by decide) (fun _ => ?_) (fun c => absurd rfl c)
    refine pr_goto (tgt := 2528) dL_law_2424 (by decide) ?_
    exact hend _ _ _ _ _ _ _ hS2 l1 l2
set_option maxRecDepth 100000 in
set_option maxHeartbeats 4000000 in
theorem it_34 (hL : en.2.1 ≤ 3072) (i0 : 0 ≤ i) (i1 : i + 6 ≤ (en.2.1 : Int)) (hS : gS g t r o) (hend : ∀ (g2 : pz_H) (l5 l6 l7 l8 : Option Value) (nc1 ns1 : Nat), gS g2 t r o → nc ≤ nc1 → ns ≤ ns1 → lW en 2528 (lL en (t 0) (r 0) o i l5 l6 l7 l8) [] g2 nc1 ns1) : lW en 2427 (lL en (t 0) (r 0) o i none none none none) [] g (nc + 1) (ns + 6) := by
  obtain ⟨k, b, g1, g2, wo, f0, f1, f2, mc, ms, hmc, hk, h0, hW, h1, hR, h2, hT, ho, hw, hp, hS2⟩ : dO en 241 211 [] (fun _ => True) g t r o := do_undo  hS
  obtain ⟨nc1, ns1, e1, e2, l1, l2⟩ := bud (nc := nc) (ns := ns) hmc
  rw [e1, e2]
  refine pr_aload_n dL_law_2427 rfl ?_
  refine pr_aload_n dL_law_2428 rfl ?_
  refine zw_s (as := [.ref (t 0), .ref o]) (rest := []) dL_law_2429 pzm_8_254 pzt_L_undo rfl rfl (by decide) (by decide) hW ?_
  refine pr_istore dL_law_2432 (by decide) rfl ?_
  refine pr_aload_n dL_law_2434 rfl ?_
  refine zw_v (as := []) (rest := []) (nc := nc1) (ns := ns1) (mc := 0) (ms := 0) dL_law_2435 pzm_8_256 pzt_X7_undo rfl rfl h1 (by decide) (by decide) (by decide) hR ?_
  refine pr_istore dL_law_2438 (by decide) rfl ?_
  refine pr_aload_n dL_law_2440 rfl ?_
  refine zw_v (as := []) (rest := []) (nc := nc1) (ns := ns1) (mc := 0) (ms := 0) dL_law_2441 pzm_8_145 pzt_X7_thrown rfl rfl h2 (by decide) (by decide) (by decide) hT ?_
  refine pr_iload dL_law_2444 rfl ?_
  refine zr_icmp_eq (tgt := 2451) dL_law_2446 (by decide) (by omega) (by omega) (fun _ => ?_) (fun c => absurd rfl c)
  refine pr_iload dL_law_2451 rfl ?_
  refine zr_if_ne (tgt := 2468) dL_law_2453 (by decide) (by omega) (fun c => ?_) (fun c => ?_)
  · refine pr_goto (tgt := 2528) dL_law_2468 (by decide) ?_
    exact hend _ _ _ _ _ _ _ hS2 l1 l2
  · refine pr_aload_n dL_law_2456 rfl ?_
    refine zr_iconst dL_law_2457 ?_
    refine pr_lald (k := 0) dL_law_2458 ho (by decide) (by decide) ?_
    refine pr_iload dL_law_2459 rfl ?_
    refine pr_i2l dL_law_2461 ?_
    refine pr_lcmp dL_law_2462 ?_
    rw [hw c, lg_cmp_rf]
    refine zr_if_eq (tgt := 2468) dL_law_2463 (by decide) (by decide) (fun _ => ?_) (fun c => absurd rfl c)
    refine pr_goto (tgt := 2528) dL_law_2468 (by decide) ?_
    exact hend _ _ _ _ _ _ _ hS2 l1 l2
set_option maxRecDepth 100000 in
set_option maxHeartbeats 4000000 in
theorem it_35 (hL : en.2.1 ≤ 3072) (i0 : 0 ≤ i) (i1 : i + 6 ≤ (en.2.1 : Int)) (hS : gS g t r o) (hend : ∀ (g2 : pz_H) (l5 l6 l7 l8 : Option Value) (nc1 ns1 : Nat), gS g2 t r o → nc ≤ nc1 → ns ≤ ns1 → lW en 2528 (lL en (t 0) (r 0) o i l5 l6 l7 l8) [] g2 nc1 ns1) : lW en 2471 (lL en (t 0) (r 0) o i none none none none) [] g (nc + 1) (ns + 6) := by
  obtain ⟨b, g1, g2, f0, f1, hb, h0, hC, h1, hR, hS2⟩ := do_save (en := en) hS
  refine pr_aload_n dL_law_2471 rfl ?_
  refine zw_v (as := []) (rest := []) (nc := nc + 1) (ns := ns + 6) (mc := 0) (ms := 0) dL_law_2472 pzm_8_257 pzt_X6_save rfl rfl h0 (by decide) (by decide) (by decide) hC ?_
  refine pr_aload_n dL_law_2475 rfl ?_
  refine zw_v (as := []) (rest := [.int (zI b)]) (nc := nc + 1) (ns := ns + 6) (mc := 0) (ms := 0) dL_law_2476 pzm_8_260 pzt_X7_save rfl rfl h1 (Nat.le_of_ble_eq_true rfl) (by decide) (by decide) hR ?_
  refine zr_icmp_eq (tgt := 2528) dL_law_2479 (by decide) hb hb (fun _ => ?_) (fun c => absurd rfl c)
  exact hend _ _ _ _ _ _ _ hS2 (by omega) (by omega)
set_option maxRecDepth 100000 in
set_option maxHeartbeats 4000000 in
theorem it_36 (hL : en.2.1 ≤ 3072) (i0 : 0 ≤ i) (i1 : i + 6 ≤ (en.2.1 : Int)) (hS : gS g t r o) (hend : ∀ (g2 : pz_H) (l5 l6 l7 l8 : Option Value) (nc1 ns1 : Nat), gS g2 t r o → nc ≤ nc1 → ns ≤ ns1 → lW en 2528 (lL en (t 0) (r 0) o i l5 l6 l7 l8) [] g2 nc1 ns1) : lW en 2484 (lL en (t 0) (r 0) o i none none none none) [] g (nc + 1) (ns + 6) := by
  obtain ⟨k, b, g1, g2, wo, f0, f1, f2, mc, ms, hmc, hk, h0, hW, h1, hR, h2, hT, ho, hw, hp, hS2⟩ : dO en 242 213 [] (fun _ => True) g t r o := do_restore  hS
  obtain ⟨nc1, ns1, e1, e2, l1, l2⟩ := bud (nc := nc) (ns := ns) hmc
  rw [e1, e2]
  refine pr_aload_n dL_law_2484 rfl ?_
  refine pr_aload_n dL_law_2485 rfl ?_
  refine zw_s (as := [.ref (t 0), .ref o]) (rest := []) dL_law_2486 pzm_8_261 pzt_L_restore rfl rfl (by decide) (by decide) hW ?_
  refine pr_istore dL_law_2489 (by decide) rfl ?_
  refine pr_aload_n dL_law_2491 rfl ?_
  refine zw_v (as := []) (rest := []) (nc := nc1) (ns := ns1) (mc := 0) (ms := 0) dL_law_2492 pzm_8_263 pzt_X7_restore rfl rfl h1 (by decide) (by decide) (by decide) hR ?_
  refine pr_istore dL_law_2495 (by decide) rfl ?_
  refine pr_aload_n dL_law_2497 rfl ?_
  refine zw_v (as := []) (rest := []) (nc := nc1) (ns := ns1) (mc := 0) (ms := 0) dL_law_2498 pzm_8_145 pzt_X7_thrown rfl rfl h2 (by decide) (by decide) (by decide) hT ?_
  refine pr_iload dL_law_2501 rfl ?_
  refine zr_icmp_eq (tgt := 2508) dL_law_2503 (by decide) (by omega) (by omega) (fun _ => ?_) (fun c => absurd rfl c)
  refine pr_iload dL_law_2508 rfl ?_
  refine zr_if_ne (tgt := 2525) dL_law_2510 (by decide) (by omega) (fun c => ?_) (fun c => ?_)
  · refine pr_goto (tgt := 2528) dL_law_2525 (by decide) ?_
    exact hend _ _ _ _ _ _ _ hS2 l1 l2
  · refine pr_aload_n dL_law_2513 rfl ?_
    refine zr_iconst dL_law_2514 ?_
    refine pr_lald (k := 0) dL_law_2515 ho (by decide) (by decide) ?_
    refine pr_iload dL_law_2516 rfl ?_
    refine pr_i2l dL_law_2518 ?_
    refine pr_lcmp dL_law_2519 ?_
    rw [hw c, lg_cmp_rf]
    refine zr_if_eq (tgt := 2525) dL_law_2520 (by decide) (by decide) (fun _ => ?_) (fun c => absurd rfl c)
    refine pr_goto (tgt := 2528) dL_law_2525 (by decide) ?_
    exact hend _ _ _ _ _ _ _ hS2 l1 l2
end law
