/-! the law: its loop -/
theorem zI_nat (n : Nat) : Int32.ofNat n = zI (n : Int) := (Int32.ofInt_eq_ofNat (n := n)).symm
theorem lL_forget {en : pz_Env} {x m o : Nat} {i : Int} {l5 l6 l7 l8 : Option Value} : ∀ (j : Nat) (v : Value), (lL en x m o i none none none none)[j]? = some (some v) → (lL en x m o i l5 l6 l7 l8)[j]? = some (some v)
  | 0, _, h => h
  | 1, _, h => h
  | 2, _, h => h
  | 3, _, h => h
  | 4, _, h => h
  | 5, _, h => by cases h
  | 6, _, h => by cases h
  | 7, _, h => by cases h
  | 8, _, h => by cases h
  | n + 9, _, h => by cases h
section loop
variable {en : pz_Env} {t : Int → Nat} {r : Nat → Nat} {o : Nat}
set_option maxRecDepth 100000 in
set_option maxHeartbeats 4000000 in
theorem law_out {g : pz_H} {i : Int} {nc ns : Nat} : lW en 2534 (lL en (t 0) (r 0) o i none none none none) [] g nc ns := by
  refine zr_iconst dL_law_2534 ?_
  exact pr_iret dL_law_2535 rfl rfl rfl
set_option maxRecDepth 100000 in
set_option maxHeartbeats 4000000 in
theorem law_loop (hL : en.2.1 ≤ 3072) : ∀ (n : Nat) (i : Int) (g : pz_H) (nc ns : Nat), 0 ≤ i → i ≤ 3072 → (en.2.1 : Int) ≤ i + 6 * n + 5 → gS g t r o → n ≤ nc → 6 * n ≤ ns → lW en 23 (lL en (t 0) (r 0) o i none none none none) [] g nc ns
  | 0, i, g, nc, ns, i0, i2, hn, hS, h1, h2 => by
    refine pr_iload dL_law_23 rfl ?_
    refine pr_aload_n dL_law_25 rfl ?_
    refine pr_slen dL_law_26 ?_
    rw [zI_nat]
    refine zr_bipush dL_law_27 (by decide) ?_
    refine zr_isub dL_law_29 ?_
    refine zr_icmp_gt (tgt := 2534) dL_law_30 (by decide) (by omega) (by omega) (fun _ => law_out) (fun c => by exfalso; omega)
  | n + 1, i, g, nc, ns, i0, i2, hn, hS, h1, h2 => by
    refine pr_iload dL_law_23 rfl ?_
    refine pr_aload_n dL_law_25 rfl ?_
    refine pr_slen dL_law_26 ?_
    rw [zI_nat]
    refine zr_bipush dL_law_27 (by decide) ?_
    refine zr_isub dL_law_29 ?_
    refine zr_icmp_gt (tgt := 2534) dL_law_30 (by decide) (by omega) (by omega) (fun _ => law_out) (fun c => ?_)
    have i1 : i + 6 ≤ (en.2.1 : Int) := by omega
    obtain ⟨nc0, rfl⟩ : ∃ m, nc = m + 1 := ⟨nc - 1, by omega⟩
    obtain ⟨ns0, rfl⟩ : ∃ m, ns = m + 6 := ⟨ns - 6, by omega⟩
    have hend : ∀ (g2 : pz_H) (l5 l6 l7 l8 : Option Value) (nc1 ns1 : Nat), gS g2 t r o → nc0 ≤ nc1 → ns0 ≤ ns1 → lW en 2528 (lL en (t 0) (r 0) o i l5 l6 l7 l8) [] g2 nc1 ns1 := fun g2 l5 l6 l7 l8 nc1 ns1 hS2 g1 g3 => by
      refine zr_iinc dL_law_2528 rfl (by decide) rfl ?_
      refine pr_goto (tgt := 23) dL_law_2531 (by decide) ?_
      refine pr_forget (ls2 := lL en (t 0) (r 0) o (i + 6) none none none none) lL_forget ?_
      exact law_loop hL n (i + 6) g2 nc1 ns1 (by omega) (by omega) (by omega) hS2 (by omega) (by omega)
    refine pr_aload_n dL_law_33 rfl ?_
    refine pr_iload dL_law_34 rfl ?_
    refine zr_sld dL_law_36 (by omega) hL ?_
    refine zr_bipush dL_law_37 (by decide) ?_
    refine pr_iand dL_law_39 ?_
    rw [← zI_of (zI (sv en i) &&& zI 63)]
    generalize hy : (zI (sv en i) &&& zI 63).toInt = y
    have hyR : zR y := by rw [← hy]; exact zI_range _
    by_cases w0 : y = 0
    · rw [w0]
      exact pr_tsin (off := 164) (tgt := 204) dL_law_40 (by decide) (by decide) (by decide) (by decide) (it_0 hL i0 i1 hS hend)
    by_cases w1 : y = 1
    · rw [w1]
      exact pr_tsin (off := 177) (tgt := 217) dL_law_40 (by decide) (by decide) (by decide) (by decide) (it_1 hL i0 i1 hS hend)
    by_cases w2 : y = 2
    · rw [w2]
      exact pr_tsin (off := 233) (tgt := 273) dL_law_40 (by decide) (by decide) (by decide) (by decide) (it_2 hL i0 i1 hS hend)
    by_cases w3 : y = 3
    · rw [w3]
      exact pr_tsin (off := 317) (tgt := 357) dL_law_40 (by decide) (by decide) (by decide) (by decide) (it_3 hL i0 i1 hS hend)
    by_cases w4 : y = 4
    · rw [w4]
      exact pr_tsin (off := 373) (tgt := 413) dL_law_40 (by decide) (by decide) (by decide) (by decide) (it_4 hL i0 i1 hS hend)
    by_cases w5 : y = 5
    · rw [w5]
      exact pr_tsin (off := 441) (tgt := 481) dL_law_40 (by decide) (by decide) (by decide) (by decide) (it_5 hL i0 i1 hS hend)
    by_cases w6 : y = 6
    · rw [w6]
      exact pr_tsin (off := 525) (tgt := 565) dL_law_40 (by decide) (by decide) (by decide) (by decide) (it_6 hL i0 i1 hS hend)
    by_cases w7 : y = 7
    · rw [w7]
      exact pr_tsin (off := 616) (tgt := 656) dL_law_40 (by decide) (by decide) (by decide) (by decide) (it_7 hL i0 i1 hS hend)
    by_cases w8 : y = 8
    · rw [w8]
      exact pr_tsin (off := 724) (tgt := 764) dL_law_40 (by decide) (by decide) (by decide) (by decide) (it_8 hL i0 i1 hS hend)
    by_cases w9 : y = 9
    · rw [w9]
      exact pr_tsin (off := 792) (tgt := 832) dL_law_40 (by decide) (by decide) (by decide) (by decide) (it_9 hL i0 i1 hS hend)
    by_cases w10 : y = 10
    · rw [w10]
      exact pr_tsin (off := 888) (tgt := 928) dL_law_40 (by decide) (by decide) (by decide) (by decide) (it_10 hL i0 i1 hS hend)
    by_cases w11 : y = 11
    · rw [w11]
      exact pr_tsin (off := 956) (tgt := 996) dL_law_40 (by decide) (by decide) (by decide) (by decide) (it_11 hL i0 i1 hS hend)
    by_cases w12 : y = 12
    · rw [w12]
      exact pr_tsin (off := 1076) (tgt := 1116) dL_law_40 (by decide) (by decide) (by decide) (by decide) (it_12 hL i0 i1 hS hend)
    by_cases w13 : y = 13
    · rw [w13]
      exact pr_tsin (off := 1184) (tgt := 1224) dL_law_40 (by decide) (by decide) (by decide) (by decide) (it_13 hL i0 i1 hS hend)
    by_cases w14 : y = 14
    · rw [w14]
      exact pr_tsin (off := 1280) (tgt := 1320) dL_law_40 (by decide) (by decide) (by decide) (by decide) (it_14 hL i0 i1 hS hend)
    by_cases w15 : y = 15
    · rw [w15]
      exact pr_tsin (off := 1348) (tgt := 1388) dL_law_40 (by decide) (by decide) (by decide) (by decide) (it_15 hL i0 i1 hS hend)
    by_cases w16 : y = 16
    · rw [w16]
      exact pr_tsin (off := 1416) (tgt := 1456) dL_law_40 (by decide) (by decide) (by decide) (by decide) (it_16 hL i0 i1 hS hend)
    by_cases w17 : y = 17
    · rw [w17]
      exact pr_tsin (off := 1484) (tgt := 1524) dL_law_40 (by decide) (by decide) (by decide) (by decide) (it_17 hL i0 i1 hS hend)
    by_cases w18 : y = 18
    · rw [w18]
      exact pr_tsin (off := 1552) (tgt := 1592) dL_law_40 (by decide) (by decide) (by decide) (by decide) (it_18 hL i0 i1 hS hend)
    by_cases w19 : y = 19
    · rw [w19]
      exact pr_tsin (off := 1608) (tgt := 1648) dL_law_40 (by decide) (by decide) (by decide) (by decide) (it_19 hL i0 i1 hS hend)
    by_cases w20 : y = 20
    · rw [w20]
      exact pr_tsin (off := 1676) (tgt := 1716) dL_law_40 (by decide) (by decide) (by decide) (by decide) (it_20 hL i0 i1 hS hend)
    by_cases w21 : y = 21
    · rw [w21]
      exact pr_tsin (off := 1720) (tgt := 1760) dL_law_40 (by decide) (by decide) (by decide) (by decide) (it_21 hL i0 i1 hS hend)
    by_cases w22 : y = 22
    · rw [w22]
      exact pr_tsin (off := 1764) (tgt := 1804) dL_law_40 (by decide) (by decide) (by decide) (by decide) (it_22 hL i0 i1 hS hend)
    by_cases w23 : y = 23
    · rw [w23]
      exact pr_tsin (off := 1808) (tgt := 1848) dL_law_40 (by decide) (by decide) (by decide) (by decide) (it_23 hL i0 i1 hS hend)
    by_cases w24 : y = 24
    · rw [w24]
      exact pr_tsin (off := 1864) (tgt := 1904) dL_law_40 (by decide) (by decide) (by decide) (by decide) (it_24 hL i0 i1 hS hend)
    by_cases w25 : y = 25
    · rw [w25]
      exact pr_tsin (off := 1920) (tgt := 1960) dL_law_40 (by decide) (by decide) (by decide) (by decide) (it_25 hL i0 i1 hS hend)
    by_cases w26 : y = 26
    · rw [w26]
      exact pr_tsin (off := 1976) (tgt := 2016) dL_law_40 (by decide) (by decide) (by decide) (by decide) (it_26 hL i0 i1 hS hend)
    by_cases w27 : y = 27
    · rw [w27]
      exact pr_tsin (off := 2032) (tgt := 2072) dL_law_40 (by decide) (by decide) (by decide) (by decide) (it_27 hL i0 i1 hS hend)
    by_cases w28 : y = 28
    · rw [w28]
      exact pr_tsin (off := 2088) (tgt := 2128) dL_law_40 (by decide) (by decide) (by decide) (by decide) (it_28 hL i0 i1 hS hend)
    by_cases w29 : y = 29
    · rw [w29]
      exact pr_tsin (off := 2144) (tgt := 2184) dL_law_40 (by decide) (by decide) (by decide) (by decide) (it_29 hL i0 i1 hS hend)
    by_cases w30 : y = 30
    · rw [w30]
      exact pr_tsin (off := 2200) (tgt := 2240) dL_law_40 (by decide) (by decide) (by decide) (by decide) (it_30 hL i0 i1 hS hend)
    by_cases w31 : y = 31
    · rw [w31]
      exact pr_tsin (off := 2241) (tgt := 2281) dL_law_40 (by decide) (by decide) (by decide) (by decide) (it_31 hL i0 i1 hS hend)
    by_cases w32 : y = 32
    · rw [w32]
      exact pr_tsin (off := 2299) (tgt := 2339) dL_law_40 (by decide) (by decide) (by decide) (by decide) (it_32 hL i0 i1 hS hend)
    by_cases w33 : y = 33
    · rw [w33]
      exact pr_tsin (off := 2343) (tgt := 2383) dL_law_40 (by decide) (by decide) (by decide) (by decide) (it_33 hL i0 i1 hS hend)
    by_cases w34 : y = 34
    · rw [w34]
      exact pr_tsin (off := 2387) (tgt := 2427) dL_law_40 (by decide) (by decide) (by decide) (by decide) (it_34 hL i0 i1 hS hend)
    by_cases w35 : y = 35
    · rw [w35]
      exact pr_tsin (off := 2431) (tgt := 2471) dL_law_40 (by decide) (by decide) (by decide) (by decide) (it_35 hL i0 i1 hS hend)
    by_cases w36 : y = 36
    · rw [w36]
      exact pr_tsin (off := 2444) (tgt := 2484) dL_law_40 (by decide) (by decide) (by decide) (by decide) (it_36 hL i0 i1 hS hend)
    exact pr_tsout (tgt := 2528) dL_law_40 (by rw [zI_toInt hyR]; omega) (by decide) (hend g none none none none _ _ hS (by omega) (by omega))
end loop
