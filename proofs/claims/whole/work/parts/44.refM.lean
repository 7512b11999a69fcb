/-! the reference: its face, what changes -/
def rlgF (s : Int → Int) (cue : Int) : Nat → Int
  | 0 => 0
  | n + 1 => if ¬ rlv s (rpl s cue) n = rlv s (rpl s cue - 1) n then (if rlgF s cue n < rln s cue n then rln s cue n else rlgF s cue n) else rlgF s cue n
theorem rlgF_s {s : Int → Int} {cue k : Int} (h : 0 ≤ k) : rlgF s cue (k + 1).toNat = if ¬ rlv s (rpl s cue) k = rlv s (rpl s cue - 1) k then (if rlgF s cue k.toNat < rln s cue k then rln s cue k else rlgF s cue k.toNat) else rlgF s cue k.toNat := by
  rw [show (k + 1).toNat = k.toNat + 1 by omega]
  show (if ¬ rlv s (rpl s cue) ((k.toNat : Nat) : Int) = rlv s (rpl s cue - 1) ((k.toNat : Nat) : Int) then (if rlgF s cue k.toNat < rln s cue ((k.toNat : Nat) : Int) then rln s cue ((k.toNat : Nat) : Int) else rlgF s cue k.toNat) else rlgF s cue k.toNat) = _
  rw [show ((k.toNat : Nat) : Int) = k by omega]
theorem rln_b {s : Int → Int} (hi : rI s) {cue ch : Int} (h : 0 ≤ rpl s cue) : 0 ≤ rln s cue ch ∧ rln s cue ch ≤ 1200 := by
  have hp := rpo_R hi (cue := cue) (ch := ch)
  have hv := rpl_val h
  have q0 := hi.2.2.2.1 (rpl s cue) (4 + 2 * rpo s cue ch + 0) h hv.2 (by omega) (by omega)
  have q1 := hi.2.2.2.1 (rpl s cue) (4 + 2 * rpo s cue ch + 1) h hv.2 (by omega) (by omega)
  rw [show 18 + 12 * rpl s cue + (4 + 2 * rpo s cue ch + 0) = 18 + 12 * rpl s cue + 4 + 2 * rpo s cue ch + 0 by omega] at q0
  rw [show 18 + 12 * rpl s cue + (4 + 2 * rpo s cue ch + 1) = 18 + 12 * rpl s cue + 4 + 2 * rpo s cue ch + 1 by omega] at q1
  unfold rln
  omega
theorem rlgF_b {s : Int → Int} (hi : rI s) {cue : Int} (h : 0 ≤ rpl s cue) : ∀ n : Nat, 0 ≤ rlgF s cue n ∧ rlgF s cue n ≤ 1200
  | 0 => by show (0 : Int) ≤ 0 ∧ (0 : Int) ≤ 1200; decide
  | n + 1 => by
    have ih := rlgF_b hi h n
    have hb := rln_b hi (ch := n) h
    unfold rlgF
    split
    · split
      · exact hb
      · exact ih
    · exact ih
section ref
variable {en : pz_Env} {h0 : pz_H} {a : Nat → Nat} {s lv : Int → Int} {A : Nat → Int → Int} {F : Nat → Int}
set_option maxRecDepth 100000 in
set_option maxHeartbeats 4000000 in
theorem kX7_cue_0 (hj : oj 9 a) (hi : rI s) {cue : Int} (h1 : zR cue) (g1 : 0 ≤ rpl s cue) : pz_Cd en 6 153 [.ref (a 0), .int (zI cue), .int (zI 0)] (rH h0 a s lv A F) 0 0 (pz_ret (some (.int (zI (rpl s cue)))) (rH h0 a s lv A (va_up F 7 0))) := by
  refine pz_in pzt_X7_cue ?_
  have hs := rI_B hi
  obtain ⟨hR, hs0, hs1, hs2, hs3⟩ := id hs
  obtain ⟨-, hq1, hq2, hq3, hq4, hq5, hq6, hq7, hq8, hq9, hq10, hq11, hq12, hq13⟩ := id hi
  have hp := rpl_R hs cue
  refine pr_aload_n dX7_cue_0 rfl ?_
  refine pr_aload_n dX7_cue_1 rfl ?_
  refine pr_iload_n dX7_cue_2 rfl ?_
  refine zcv1i dX7_cue_3 pzm_7_74 pzt_X7_isCue (rH_0 hj) (kX7_isCue hj hs h1) (by decide) (Nat.le_of_ble_eq_true rfl) (by decide) ?_
  refine zr_if_ne (tgt := 13) dX7_cue_6 (by decide) (bI_R _) (fun c6 => ?_) (fun c6 => by exfalso; have bb := bI_0 c6; omega)
  have b6 := bI_ne c6
  refine pr_iload_n dX7_cue_13 rfl ?_
  refine zr_iconst dX7_cue_14 ?_
  refine zr_bipush dX7_cue_15 (by decide) ?_
  refine zcs3i dX7_cue_17 pzm_7_70 pzt_X7_in (kX7_in (by omega) (by omega) (by omega)) (by decide) (Nat.le_of_ble_eq_true rfl) ?_
  refine zr_if_ne (tgt := 27) dX7_cue_20 (by decide) (bI_R _) (fun c20 => ?_) (fun c20 => by exfalso; have bb := bI_0 c20; omega)
  have b20 := bI_ne c20
  refine zr_iconst dX7_cue_27 ?_
  refine pr_putf dX7_cue_28 pzf_7_42 (Or.inl rfl) (rH_0 hj) (Nat.le_of_ble_eq_true rfl) rfl rfl (rH_p7 hj) ?_
  refine pr_aload_n dX7_cue_31 rfl ?_
  refine pr_getf dX7_cue_32 pzf_7_42 (rH_0 hj) rfl ?_
  refine zr_if_le (tgt := 40) dX7_cue_35 (by decide) (show zR 0 by decide) (fun c35 => ?_) (fun c35 => absurd (show (0 : Int) ≤ 0 by decide) c35)
  refine pr_aload_n dX7_cue_40 rfl ?_
  refine pr_iload_n dX7_cue_41 rfl ?_
  refine zcv1i dX7_cue_42 pzm_7_67 pzt_X7_placeOf (rH_0 hj) (kX7_placeOf hj hs h1) (by decide) (Nat.le_of_ble_eq_true rfl) (by decide) ?_
  refine pr_istore_n dX7_cue_45 (by decide) rfl ?_
  refine pr_iload_n dX7_cue_46 rfl ?_
  refine zr_if_ne (tgt := 52) dX7_cue_47 (by decide) (by decide) (fun c47 => by exfalso; omega) (fun c47 => ?_)
  refine pr_iload_n dX7_cue_50 rfl ?_
  exact pr_iret dX7_cue_51 rfl rfl (by first | exact zret rfl rfl | (exfalso; omega))
set_option maxRecDepth 100000 in
set_option maxHeartbeats 4000000 in
theorem kX7_cue_1 (hj : oj 9 a) (hi : rI s) {cue : Int} (h1 : zR cue) (g1 : 0 ≤ rpl s cue) : pz_Cd en 6 153 [.ref (a 0), .int (zI cue), .int (zI 1)] (rH h0 a s lv A F) 0 0 (pz_ret (some (.int (zI (s (18 + 12 * rpl s cue + 1))))) (rH h0 a s lv A (va_up F 7 0))) := by
  refine pz_in pzt_X7_cue ?_
  have hs := rI_B hi
  obtain ⟨hR, hs0, hs1, hs2, hs3⟩ := id hs
  obtain ⟨-, hq1, hq2, hq3, hq4, hq5, hq6, hq7, hq8, hq9, hq10, hq11, hq12, hq13⟩ := id hi
  have hp := rpl_R hs cue
  refine pr_aload_n dX7_cue_0 rfl ?_
  refine pr_aload_n dX7_cue_1 rfl ?_
  refine pr_iload_n dX7_cue_2 rfl ?_
  refine zcv1i dX7_cue_3 pzm_7_74 pzt_X7_isCue (rH_0 hj) (kX7_isCue hj hs h1) (by decide) (Nat.le_of_ble_eq_true rfl) (by decide) ?_
  refine zr_if_ne (tgt := 13) dX7_cue_6 (by decide) (bI_R _) (fun c6 => ?_) (fun c6 => by exfalso; have bb := bI_0 c6; omega)
  have b6 := bI_ne c6
  refine pr_iload_n dX7_cue_13 rfl ?_
  refine zr_iconst dX7_cue_14 ?_
  refine zr_bipush dX7_cue_15 (by decide) ?_
  refine zcs3i dX7_cue_17 pzm_7_70 pzt_X7_in (kX7_in (by omega) (by omega) (by omega)) (by decide) (Nat.le_of_ble_eq_true rfl) ?_
  refine zr_if_ne (tgt := 27) dX7_cue_20 (by decide) (bI_R _) (fun c20 => ?_) (fun c20 => by exfalso; have bb := bI_0 c20; omega)
  have b20 := bI_ne c20
  refine zr_iconst dX7_cue_27 ?_
  refine pr_putf dX7_cue_28 pzf_7_42 (Or.inl rfl) (rH_0 hj) (Nat.le_of_ble_eq_true rfl) rfl rfl (rH_p7 hj) ?_
  refine pr_aload_n dX7_cue_31 rfl ?_
  refine pr_getf dX7_cue_32 pzf_7_42 (rH_0 hj) rfl ?_
  refine zr_if_le (tgt := 40) dX7_cue_35 (by decide) (show zR 0 by decide) (fun c35 => ?_) (fun c35 => absurd (show (0 : Int) ≤ 0 by decide) c35)
  refine pr_aload_n dX7_cue_40 rfl ?_
  refine pr_iload_n dX7_cue_41 rfl ?_
  refine zcv1i dX7_cue_42 pzm_7_67 pzt_X7_placeOf (rH_0 hj) (kX7_placeOf hj hs h1) (by decide) (Nat.le_of_ble_eq_true rfl) (by decide) ?_
  refine pr_istore_n dX7_cue_45 (by decide) rfl ?_
  refine pr_iload_n dX7_cue_46 rfl ?_
  refine zr_if_ne (tgt := 52) dX7_cue_47 (by decide) (by decide) (fun c47 => ?_) (fun c47 => by exfalso; omega)
  refine pr_iload_n dX7_cue_52 rfl ?_
  refine zr_iconst dX7_cue_53 ?_
  refine zr_icmp_ge (tgt := 69) dX7_cue_54 (by decide) (by first | exact hR _ | omega) (by first | exact hR _ | omega) (fun c54 => by exfalso; omega) (fun c54 => ?_)
  refine pr_aload_n dX7_cue_57 rfl ?_
  refine pr_getf dX7_cue_58 pzf_7_9 (rH_0 hj) rfl ?_
  refine pr_iload_n dX7_cue_61 rfl ?_
  refine zcs1i dX7_cue_62 pzm_7_63 pzt_X7_at kX7_at (by decide) (Nat.le_of_ble_eq_true rfl) ?_
  refine pr_iload_n dX7_cue_65 rfl ?_
  refine zr_iadd dX7_cue_66 ?_
  refine zr_iald dX7_cue_67 (rH_1 hj) (by omega) (by decide) ?_
  exact pr_iret dX7_cue_68 rfl rfl (by first | exact zret rfl rfl | (exfalso; omega))
set_option maxRecDepth 100000 in
set_option maxHeartbeats 4000000 in
theorem kX7_cue_2 (hj : oj 9 a) (hi : rI s) {cue : Int} (h1 : zR cue) (g1 : 0 ≤ rpl s cue) : pz_Cd en 6 153 [.ref (a 0), .int (zI cue), .int (zI 2)] (rH h0 a s lv A F) 0 0 (pz_ret (some (.int (zI (s (18 + 12 * rpl s cue + 2))))) (rH h0 a s lv A (va_up F 7 0))) := by
  refine pz_in pzt_X7_cue ?_
  have hs := rI_B hi
  obtain ⟨hR, hs0, hs1, hs2, hs3⟩ := id hs
  obtain ⟨-, hq1, hq2, hq3, hq4, hq5, hq6, hq7, hq8, hq9, hq10, hq11, hq12, hq13⟩ := id hi
  have hp := rpl_R hs cue
  refine pr_aload_n dX7_cue_0 rfl ?_
  refine pr_aload_n dX7_cue_1 rfl ?_
  refine pr_iload_n dX7_cue_2 rfl ?_
  refine zcv1i dX7_cue_3 pzm_7_74 pzt_X7_isCue (rH_0 hj) (kX7_isCue hj hs h1) (by decide) (Nat.le_of_ble_eq_true rfl) (by decide) ?_
  refine zr_if_ne (tgt := 13) dX7_cue_6 (by decide) (bI_R _) (fun c6 => ?_) (fun c6 => by exfalso; have bb := bI_0 c6; omega)
  have b6 := bI_ne c6
  refine pr_iload_n dX7_cue_13 rfl ?_
  refine zr_iconst dX7_cue_14 ?_
  refine zr_bipush dX7_cue_15 (by decide) ?_
  refine zcs3i dX7_cue_17 pzm_7_70 pzt_X7_in (kX7_in (by omega) (by omega) (by omega)) (by decide) (Nat.le_of_ble_eq_true rfl) ?_
  refine zr_if_ne (tgt := 27) dX7_cue_20 (by decide) (bI_R _) (fun c20 => ?_) (fun c20 => by exfalso; have bb := bI_0 c20; omega)
  have b20 := bI_ne c20
  refine zr_iconst dX7_cue_27 ?_
  refine pr_putf dX7_cue_28 pzf_7_42 (Or.inl rfl) (rH_0 hj) (Nat.le_of_ble_eq_true rfl) rfl rfl (rH_p7 hj) ?_
  refine pr_aload_n dX7_cue_31 rfl ?_
  refine pr_getf dX7_cue_32 pzf_7_42 (rH_0 hj) rfl ?_
  refine zr_if_le (tgt := 40) dX7_cue_35 (by decide) (show zR 0 by decide) (fun c35 => ?_) (fun c35 => absurd (show (0 : Int) ≤ 0 by decide) c35)
  refine pr_aload_n dX7_cue_40 rfl ?_
  refine pr_iload_n dX7_cue_41 rfl ?_
  refine zcv1i dX7_cue_42 pzm_7_67 pzt_X7_placeOf (rH_0 hj) (kX7_placeOf hj hs h1) (by decide) (Nat.le_of_ble_eq_true rfl) (by decide) ?_
  refine pr_istore_n dX7_cue_45 (by decide) rfl ?_
  refine pr_iload_n dX7_cue_46 rfl ?_
  refine zr_if_ne (tgt := 52) dX7_cue_47 (by decide) (by decide) (fun c47 => ?_) (fun c47 => by exfalso; omega)
  refine pr_iload_n dX7_cue_52 rfl ?_
  refine zr_iconst dX7_cue_53 ?_
  refine zr_icmp_ge (tgt := 69) dX7_cue_54 (by decide) (by first | exact hR _ | omega) (by first | exact hR _ | omega) (fun c54 => by exfalso; omega) (fun c54 => ?_)
  refine pr_aload_n dX7_cue_57 rfl ?_
  refine pr_getf dX7_cue_58 pzf_7_9 (rH_0 hj) rfl ?_
  refine pr_iload_n dX7_cue_61 rfl ?_
  refine zcs1i dX7_cue_62 pzm_7_63 pzt_X7_at kX7_at (by decide) (Nat.le_of_ble_eq_true rfl) ?_
  refine pr_iload_n dX7_cue_65 rfl ?_
  refine zr_iadd dX7_cue_66 ?_
  refine zr_iald dX7_cue_67 (rH_1 hj) (by omega) (by decide) ?_
  exact pr_iret dX7_cue_68 rfl rfl (by first | exact zret rfl rfl | (exfalso; omega))
set_option maxRecDepth 100000 in
set_option maxHeartbeats 4000000 in
theorem kX7_cue_3 (hj : oj 9 a) (hi : rI s) {cue : Int} (h1 : zR cue) (g1 : 0 ≤ rpl s cue) : pz_Cd en 6 153 [.ref (a 0), .int (zI cue), .int (zI 3)] (rH h0 a s lv A F) 0 0 (pz_ret (some (.int (zI (s (18 + 12 * rpl s cue + 3))))) (rH h0 a s lv A (va_up F 7 0))) := by
  refine pz_in pzt_X7_cue ?_
  have hs := rI_B hi
  obtain ⟨hR, hs0, hs1, hs2, hs3⟩ := id hs
  obtain ⟨-, hq1, hq2, hq3, hq4, hq5, hq6, hq7, hq8, hq9, hq10, hq11, hq12, hq13⟩ := id hi
  have hp := rpl_R hs cue
  refine pr_aload_n dX7_cue_0 rfl ?_
  refine pr_aload_n dX7_cue_1 rfl ?_
  refine pr_iload_n dX7_cue_2 rfl ?_
  refine zcv1i dX7_cue_3 pzm_7_74 pzt_X7_isCue (rH_0 hj) (kX7_isCue hj hs h1) (by decide) (Nat.le_of_ble_eq_true rfl) (by decide) ?_
  refine zr_if_ne (tgt := 13) dX7_cue_6 (by decide) (bI_R _) (fun c6 => ?_) (fun c6 => by exfalso; have bb := bI_0 c6; omega)
  have b6 := bI_ne c6
  refine pr_iload_n dX7_cue_13 rfl ?_
  refine zr_iconst dX7_cue_14 ?_
  refine zr_bipush dX7_cue_15 (by decide) ?_
  refine zcs3i dX7_cue_17 pzm_7_70 pzt_X7_in (kX7_in (by omega) (by omega) (by omega)) (by decide) (Nat.le_of_ble_eq_true rfl) ?_
  refine zr_if_ne (tgt := 27) dX7_cue_20 (by decide) (bI_R _) (fun c20 => ?_) (fun c20 => by exfalso; have bb := bI_0 c20; omega)
  have b20 := bI_ne c20
  refine zr_iconst dX7_cue_27 ?_
  refine pr_putf dX7_cue_28 pzf_7_42 (Or.inl rfl) (rH_0 hj) (Nat.le_of_ble_eq_true rfl) rfl rfl (rH_p7 hj) ?_
  refine pr_aload_n dX7_cue_31 rfl ?_
  refine pr_getf dX7_cue_32 pzf_7_42 (rH_0 hj) rfl ?_
  refine zr_if_le (tgt := 40) dX7_cue_35 (by decide) (show zR 0 by decide) (fun c35 => ?_) (fun c35 => absurd (show (0 : Int) ≤ 0 by decide) c35)
  refine pr_aload_n dX7_cue_40 rfl ?_
  refine pr_iload_n dX7_cue_41 rfl ?_
  refine zcv1i dX7_cue_42 pzm_7_67 pzt_X7_placeOf (rH_0 hj) (kX7_placeOf hj hs h1) (by decide) (Nat.le_of_ble_eq_true rfl) (by decide) ?_
  refine pr_istore_n dX7_cue_45 (by decide) rfl ?_
  refine pr_iload_n dX7_cue_46 rfl ?_
  refine zr_if_ne (tgt := 52) dX7_cue_47 (by decide) (by decide) (fun c47 => ?_) (fun c47 => by exfalso; omega)
  refine pr_iload_n dX7_cue_52 rfl ?_
  refine zr_iconst dX7_cue_53 ?_
  refine zr_icmp_ge (tgt := 69) dX7_cue_54 (by decide) (by first | exact hR _ | omega) (by first | exact hR _ | omega) (fun c54 => by exfalso; omega) (fun c54 => ?_)
  refine pr_aload_n dX7_cue_57 rfl ?_
  refine pr_getf dX7_cue_58 pzf_7_9 (rH_0 hj) rfl ?_
  refine pr_iload_n dX7_cue_61 rfl ?_
  refine zcs1i dX7_cue_62 pzm_7_63 pzt_X7_at kX7_at (by decide) (Nat.le_of_ble_eq_true rfl) ?_
  refine pr_iload_n dX7_cue_65 rfl ?_
  refine zr_iadd dX7_cue_66 ?_
  refine zr_iald dX7_cue_67 (rH_1 hj) (by omega) (by decide) ?_
  exact pr_iret dX7_cue_68 rfl rfl (by first | exact zret rfl rfl | (exfalso; omega))
set_option maxRecDepth 100000 in
set_option maxHeartbeats 4000000 in
theorem kX7_cue_4 (hj : oj 9 a) (hi : rI s) {cue : Int} (h1 : zR cue) (g1 : 0 ≤ rpl s cue) : pz_Cd en 6 153 [.ref (a 0), .int (zI cue), .int (zI 4)] (rH h0 a s lv A F) 0 0 (pz_ret (some (.int (zI (rco s cue)))) (rH h0 a s lv A (va_up F 7 0))) := by
  refine pz_in pzt_X7_cue ?_
  have hs := rI_B hi
  obtain ⟨hR, hs0, hs1, hs2, hs3⟩ := id hs
  obtain ⟨-, hq1, hq2, hq3, hq4, hq5, hq6, hq7, hq8, hq9, hq10, hq11, hq12, hq13⟩ := id hi
  have hp := rpl_R hs cue
  refine pr_aload_n dX7_cue_0 rfl ?_
  refine pr_aload_n dX7_cue_1 rfl ?_
  refine pr_iload_n dX7_cue_2 rfl ?_
  refine zcv1i dX7_cue_3 pzm_7_74 pzt_X7_isCue (rH_0 hj) (kX7_isCue hj hs h1) (by decide) (Nat.le_of_ble_eq_true rfl) (by decide) ?_
  refine zr_if_ne (tgt := 13) dX7_cue_6 (by decide) (bI_R _) (fun c6 => ?_) (fun c6 => by exfalso; have bb := bI_0 c6; omega)
  have b6 := bI_ne c6
  refine pr_iload_n dX7_cue_13 rfl ?_
  refine zr_iconst dX7_cue_14 ?_
  refine zr_bipush dX7_cue_15 (by decide) ?_
  refine zcs3i dX7_cue_17 pzm_7_70 pzt_X7_in (kX7_in (by omega) (by omega) (by omega)) (by decide) (Nat.le_of_ble_eq_true rfl) ?_
  refine zr_if_ne (tgt := 27) dX7_cue_20 (by decide) (bI_R _) (fun c20 => ?_) (fun c20 => by exfalso; have bb := bI_0 c20; omega)
  have b20 := bI_ne c20
  refine zr_iconst dX7_cue_27 ?_
  refine pr_putf dX7_cue_28 pzf_7_42 (Or.inl rfl) (rH_0 hj) (Nat.le_of_ble_eq_true rfl) rfl rfl (rH_p7 hj) ?_
  refine pr_aload_n dX7_cue_31 rfl ?_
  refine pr_getf dX7_cue_32 pzf_7_42 (rH_0 hj) rfl ?_
  refine zr_if_le (tgt := 40) dX7_cue_35 (by decide) (show zR 0 by decide) (fun c35 => ?_) (fun c35 => absurd (show (0 : Int) ≤ 0 by decide) c35)
  refine pr_aload_n dX7_cue_40 rfl ?_
  refine pr_iload_n dX7_cue_41 rfl ?_
  refine zcv1i dX7_cue_42 pzm_7_67 pzt_X7_placeOf (rH_0 hj) (kX7_placeOf hj hs h1) (by decide) (Nat.le_of_ble_eq_true rfl) (by decide) ?_
  refine pr_istore_n dX7_cue_45 (by decide) rfl ?_
  refine pr_iload_n dX7_cue_46 rfl ?_
  refine zr_if_ne (tgt := 52) dX7_cue_47 (by decide) (by decide) (fun c47 => ?_) (fun c47 => by exfalso; omega)
  refine pr_iload_n dX7_cue_52 rfl ?_
  refine zr_iconst dX7_cue_53 ?_
  refine zr_icmp_ge (tgt := 69) dX7_cue_54 (by decide) (by first | exact hR _ | omega) (by first | exact hR _ | omega) (fun c54 => ?_) (fun c54 => by exfalso; omega)
  refine pr_iload_n dX7_cue_69 rfl ?_
  refine zr_iconst dX7_cue_70 ?_
  refine zr_icmp_ne (tgt := 80) dX7_cue_71 (by decide) (by first | exact hR _ | omega) (by first | exact hR _ | omega) (fun c71 => by exfalso; omega) (fun c71 => ?_)
  refine pr_aload_n dX7_cue_74 rfl ?_
  refine pr_iload_n dX7_cue_75 rfl ?_
  refine zcv1i dX7_cue_76 pzm_7_107 pzt_X7_countOf (rH_0 hj) (kX7_countOf hj hs h1) (by decide) (Nat.le_of_ble_eq_true rfl) (by decide) ?_
  exact pr_iret dX7_cue_79 rfl rfl (by first | exact zret rfl rfl | (exfalso; omega))
set_option maxRecDepth 100000 in
set_option maxHeartbeats 4000000 in
theorem kX7_cue_5 (hj : oj 9 a) (hi : rI s) {cue : Int} (h1 : zR cue) (g1 : 0 ≤ rpl s cue) : pz_Cd en 6 153 [.ref (a 0), .int (zI cue), .int (zI 5)] (rH h0 a s lv A F) 0 0 (pz_ret (some (.int (rmk (fun c => decide (¬ rlv s (rpl s cue) c = rlv s (rpl s cue - 1) c)) 12))) (rH h0 a s lv A (va_up F 7 0))) := by
  refine pz_in pzt_X7_cue ?_
  have hs := rI_B hi
  obtain ⟨hR, hs0, hs1, hs2, hs3⟩ := id hs
  obtain ⟨-, hq1, hq2, hq3, hq4, hq5, hq6, hq7, hq8, hq9, hq10, hq11, hq12, hq13⟩ := id hi
  have hp := rpl_R hs cue
  have hv := rpl_val g1
  have loop : pz_WP 6 en (pz_Cd en (6 - 1)) 7 cX7_cue 7 (some .int) [] false (pz_ret (some (.int (rmk (fun c => decide (¬ rlv s (rpl s cue) c = rlv s (rpl s cue - 1) c)) 12))) (rH h0 a s lv A (va_up F 7 0))) 89 [some (.ref (a 0)), some (.int (zI cue)), some (.int (zI 5)), some (.int (zI (rpl s cue))), some (.int (rmk (fun c => decide (¬ rlv s (rpl s cue) c = rlv s (rpl s cue - 1) c)) (0 : Int).toNat)), some (.int (zI (rlgF s cue (0 : Int).toNat))), some (.int (zI 0))] [] (rH h0 a s lv A (va_up F 7 0)) 0 0 := by
    refine zup (P := fun k => pz_WP 6 en (pz_Cd en (6 - 1)) 7 cX7_cue 7 (some .int) [] false (pz_ret (some (.int (rmk (fun c => decide (¬ rlv s (rpl s cue) c = rlv s (rpl s cue - 1) c)) 12))) (rH h0 a s lv A (va_up F 7 0))) 89 [some (.ref (a 0)), some (.int (zI cue)), some (.int (zI 5)), some (.int (zI (rpl s cue))), some (.int (rmk (fun c => decide (¬ rlv s (rpl s cue) c = rlv s (rpl s cue - 1) c)) (k : Int).toNat)), some (.int (zI (rlgF s cue (k : Int).toNat))), some (.int (zI k))] [] (rH h0 a s lv A (va_up F 7 0)) 0 0) (lo := 0) (hi := 12) (by decide) ?_ ?_
    · skip
      refine pr_iload dX7_cue_89 rfl ?_
      refine zr_bipush dX7_cue_91 (by decide) ?_
      refine zr_icmp_ge (tgt := 135) dX7_cue_93 (by decide) (by first | exact hR _ | omega) (by first | exact hR _ | omega) (fun c93 => ?_) (fun c93 => by exfalso; omega)
      refine pr_iload_n dX7_cue_135 rfl ?_
      refine zr_iconst dX7_cue_136 ?_
      refine zr_icmp_ne (tgt := 145) dX7_cue_137 (by decide) (by first | exact hR _ | omega) (by first | exact hR _ | omega) (fun c137 => by exfalso; omega) (fun c137 => ?_)
      refine pr_iload dX7_cue_140 rfl ?_
      refine pr_goto (tgt := 147) dX7_cue_142 (by decide) ?_
      exact pr_iret dX7_cue_147 rfl rfl (⟨rfl, rfl⟩)
    · intro k hk1 hk2 ih
      rw [rmk_s hk1, rlgF_s hk1] at ih
      have hb := rlgF_b hi g1 k.toNat
      have hn := rln_b hi (ch := k) g1
      refine pr_iload dX7_cue_89 rfl ?_
      refine zr_bipush dX7_cue_91 (by decide) ?_
      refine zr_icmp_ge (tgt := 135) dX7_cue_93 (by decide) (by first | exact hR _ | omega) (by first | exact hR _ | omega) (fun c93 => by exfalso; omega) (fun c93 => ?_)
      refine pr_aload_n dX7_cue_96 rfl ?_
      refine pr_iload_n dX7_cue_97 rfl ?_
      refine pr_iload dX7_cue_98 rfl ?_
      refine zcv2i dX7_cue_100 pzm_7_110 pzt_X7_moves (rH_0 hj) (kX7_moves hj hs (by omega) (by omega) (by omega) (by omega)) (by decide) (Nat.le_of_ble_eq_true rfl) (by decide) ?_
      refine zr_if_eq (tgt := 129) dX7_cue_103 (by decide) (bI_R _) (fun c103 => ?_) (fun c103 => ?_)
      · have b103 := bI_0 c103
        rw [if_neg (by simp only [decide_eq_true_eq]; exact b103), if_neg b103] at ih
        rw [show ∀ x : Int32, x ||| 0 = x from fun x => by simp] at ih
        refine zr_iinc dX7_cue_129 rfl (by decide) rfl ?_
        refine pr_goto (tgt := 89) dX7_cue_132 (by decide) ?_
        exact ih
      · have b103 := bI_ne c103
        rw [if_pos (by simp only [decide_eq_true_eq]; exact b103), if_pos b103] at ih
        refine pr_iload dX7_cue_106 rfl ?_
        refine zr_iconst dX7_cue_108 ?_
        refine pr_iload dX7_cue_109 rfl ?_
        refine pr_ishl dX7_cue_111 ?_
        refine pr_ior dX7_cue_112 ?_
        refine pr_istore dX7_cue_113 (by decide) rfl ?_
        refine pr_iload dX7_cue_115 rfl ?_
        refine pr_aload_n dX7_cue_117 rfl ?_
        refine pr_iload_n dX7_cue_118 rfl ?_
        refine pr_iload dX7_cue_119 rfl ?_
        refine zcv2i dX7_cue_121 pzm_7_114 pzt_X7_lengthOf (rH_0 hj) (kX7_lengthOf hj hi h1 (by omega) g1) (by decide) (Nat.le_of_ble_eq_true rfl) (by decide) ?_
        refine zr_max dX7_cue_124 pzx_7_117 (by decide) (Nat.le_of_ble_eq_true rfl) (by omega) (by omega) ?_
        refine pr_istore dX7_cue_127 (by decide) rfl ?_
        refine zr_iinc dX7_cue_129 rfl (by decide) rfl ?_
        refine pr_goto (tgt := 89) dX7_cue_132 (by decide) ?_
        exact ih
  refine pr_aload_n dX7_cue_0 rfl ?_
  refine pr_aload_n dX7_cue_1 rfl ?_
  refine pr_iload_n dX7_cue_2 rfl ?_
  refine zcv1i dX7_cue_3 pzm_7_74 pzt_X7_isCue (rH_0 hj) (kX7_isCue hj hs h1) (by decide) (Nat.le_of_ble_eq_true rfl) (by decide) ?_
  refine zr_if_ne (tgt := 13) dX7_cue_6 (by decide) (bI_R _) (fun c6 => ?_) (fun c6 => by exfalso; have bb := bI_0 c6; omega)
  have b6 := bI_ne c6
  refine pr_iload_n dX7_cue_13 rfl ?_
  refine zr_iconst dX7_cue_14 ?_
  refine zr_bipush dX7_cue_15 (by decide) ?_
  refine zcs3i dX7_cue_17 pzm_7_70 pzt_X7_in (kX7_in (by omega) (by omega) (by omega)) (by decide) (Nat.le_of_ble_eq_true rfl) ?_
  refine zr_if_ne (tgt := 27) dX7_cue_20 (by decide) (bI_R _) (fun c20 => ?_) (fun c20 => by exfalso; have bb := bI_0 c20; omega)
  have b20 := bI_ne c20
  refine zr_iconst dX7_cue_27 ?_
  refine pr_putf dX7_cue_28 pzf_7_42 (Or.inl rfl) (rH_0 hj) (Nat.le_of_ble_eq_true rfl) rfl rfl (rH_p7 hj) ?_
  refine pr_aload_n dX7_cue_31 rfl ?_
  refine pr_getf dX7_cue_32 pzf_7_42 (rH_0 hj) rfl ?_
  refine zr_if_le (tgt := 40) dX7_cue_35 (by decide) (show zR 0 by decide) (fun c35 => ?_) (fun c35 => absurd (show (0 : Int) ≤ 0 by decide) c35)
  refine pr_aload_n dX7_cue_40 rfl ?_
  refine pr_iload_n dX7_cue_41 rfl ?_
  refine zcv1i dX7_cue_42 pzm_7_67 pzt_X7_placeOf (rH_0 hj) (kX7_placeOf hj hs h1) (by decide) (Nat.le_of_ble_eq_true rfl) (by decide) ?_
  refine pr_istore_n dX7_cue_45 (by decide) rfl ?_
  refine pr_iload_n dX7_cue_46 rfl ?_
  refine zr_if_ne (tgt := 52) dX7_cue_47 (by decide) (by decide) (fun c47 => ?_) (fun c47 => by exfalso; omega)
  refine pr_iload_n dX7_cue_52 rfl ?_
  refine zr_iconst dX7_cue_53 ?_
  refine zr_icmp_ge (tgt := 69) dX7_cue_54 (by decide) (by first | exact hR _ | omega) (by first | exact hR _ | omega) (fun c54 => ?_) (fun c54 => by exfalso; omega)
  refine pr_iload_n dX7_cue_69 rfl ?_
  refine zr_iconst dX7_cue_70 ?_
  refine zr_icmp_ne (tgt := 80) dX7_cue_71 (by decide) (by first | exact hR _ | omega) (by first | exact hR _ | omega) (fun c71 => ?_) (fun c71 => by exfalso; omega)
  refine zr_iconst dX7_cue_80 ?_
  refine pr_istore dX7_cue_81 (by decide) rfl ?_
  refine zr_iconst dX7_cue_83 ?_
  refine pr_istore dX7_cue_84 (by decide) rfl ?_
  refine zr_iconst dX7_cue_86 ?_
  refine pr_istore dX7_cue_87 (by decide) rfl ?_
  exact loop
set_option maxRecDepth 100000 in
set_option maxHeartbeats 4000000 in
theorem kX7_cue_6 (hj : oj 9 a) (hi : rI s) {cue : Int} (h1 : zR cue) (g1 : 0 ≤ rpl s cue) : pz_Cd en 6 153 [.ref (a 0), .int (zI cue), .int (zI 6)] (rH h0 a s lv A F) 0 0 (pz_ret (some (.int (zI (rlgF s cue 12)))) (rH h0 a s lv A (va_up F 7 0))) := by
  refine pz_in pzt_X7_cue ?_
  have hs := rI_B hi
  obtain ⟨hR, hs0, hs1, hs2, hs3⟩ := id hs
  obtain ⟨-, hq1, hq2, hq3, hq4, hq5, hq6, hq7, hq8, hq9, hq10, hq11, hq12, hq13⟩ := id hi
  have hp := rpl_R hs cue
  have hv := rpl_val g1
  have loop : pz_WP 6 en (pz_Cd en (6 - 1)) 7 cX7_cue 7 (some .int) [] false (pz_ret (some (.int (zI (rlgF s cue 12)))) (rH h0 a s lv A (va_up F 7 0))) 89 [some (.ref (a 0)), some (.int (zI cue)), some (.int (zI 6)), some (.int (zI (rpl s cue))), some (.int (rmk (fun c => decide (¬ rlv s (rpl s cue) c = rlv s (rpl s cue - 1) c)) (0 : Int).toNat)), some (.int (zI (rlgF s cue (0 : Int).toNat))), some (.int (zI 0))] [] (rH h0 a s lv A (va_up F 7 0)) 0 0 := by
    refine zup (P := fun k => pz_WP 6 en (pz_Cd en (6 - 1)) 7 cX7_cue 7 (some .int) [] false (pz_ret (some (.int (zI (rlgF s cue 12)))) (rH h0 a s lv A (va_up F 7 0))) 89 [some (.ref (a 0)), some (.int (zI cue)), some (.int (zI 6)), some (.int (zI (rpl s cue))), some (.int (rmk (fun c => decide (¬ rlv s (rpl s cue) c = rlv s (rpl s cue - 1) c)) (k : Int).toNat)), some (.int (zI (rlgF s cue (k : Int).toNat))), some (.int (zI k))] [] (rH h0 a s lv A (va_up F 7 0)) 0 0) (lo := 0) (hi := 12) (by decide) ?_ ?_
    · skip
      refine pr_iload dX7_cue_89 rfl ?_
      refine zr_bipush dX7_cue_91 (by decide) ?_
      refine zr_icmp_ge (tgt := 135) dX7_cue_93 (by decide) (by first | exact hR _ | omega) (by first | exact hR _ | omega) (fun c93 => ?_) (fun c93 => by exfalso; omega)
      refine pr_iload_n dX7_cue_135 rfl ?_
      refine zr_iconst dX7_cue_136 ?_
      refine zr_icmp_ne (tgt := 145) dX7_cue_137 (by decide) (by first | exact hR _ | omega) (by first | exact hR _ | omega) (fun c137 => ?_) (fun c137 => by exfalso; omega)
      refine pr_iload dX7_cue_145 rfl ?_
      exact pr_iret dX7_cue_147 rfl rfl (⟨rfl, rfl⟩)
    · intro k hk1 hk2 ih
      rw [rmk_s hk1, rlgF_s hk1] at ih
      have hb := rlgF_b hi g1 k.toNat
      have hn := rln_b hi (ch := k) g1
      refine pr_iload dX7_cue_89 rfl ?_
      refine zr_bipush dX7_cue_91 (by decide) ?_
      refine zr_icmp_ge (tgt := 135) dX7_cue_93 (by decide) (by first | exact hR _ | omega) (by first | exact hR _ | omega) (fun c93 => by exfalso; omega) (fun c93 => ?_)
      refine pr_aload_n dX7_cue_96 rfl ?_
      refine pr_iload_n dX7_cue_97 rfl ?_
      refine pr_iload dX7_cue_98 rfl ?_
      refine zcv2i dX7_cue_100 pzm_7_110 pzt_X7_moves (rH_0 hj) (kX7_moves hj hs (by omega) (by omega) (by omega) (by omega)) (by decide) (Nat.le_of_ble_eq_true rfl) (by decide) ?_
      refine zr_if_eq (tgt := 129) dX7_cue_103 (by decide) (bI_R _) (fun c103 => ?_) (fun c103 => ?_)
      · have b103 := bI_0 c103
        rw [if_neg (by simp only [decide_eq_true_eq]; exact b103), if_neg b103] at ih
        rw [show ∀ x : Int32, x ||| 0 = x from fun x => by simp] at ih
        refine zr_iinc dX7_cue_129 rfl (by decide) rfl ?_
        refine pr_goto (tgt := 89) dX7_cue_132 (by decide) ?_
        exact ih
      · have b103 := bI_ne c103
        rw [if_pos (by simp only [decide_eq_true_eq]; exact b103), if_pos b103] at ih
        refine pr_iload dX7_cue_106 rfl ?_
        refine zr_iconst dX7_cue_108 ?_
        refine pr_iload dX7_cue_109 rfl ?_
        refine pr_ishl dX7_cue_111 ?_
        refine pr_ior dX7_cue_112 ?_
        refine pr_istore dX7_cue_113 (by decide) rfl ?_
        refine pr_iload dX7_cue_115 rfl ?_
        refine pr_aload_n dX7_cue_117 rfl ?_
        refine pr_iload_n dX7_cue_118 rfl ?_
        refine pr_iload dX7_cue_119 rfl ?_
        refine zcv2i dX7_cue_121 pzm_7_114 pzt_X7_lengthOf (rH_0 hj) (kX7_lengthOf hj hi h1 (by omega) g1) (by decide) (Nat.le_of_ble_eq_true rfl) (by decide) ?_
        refine zr_max dX7_cue_124 pzx_7_117 (by decide) (Nat.le_of_ble_eq_true rfl) (by omega) (by omega) ?_
        refine pr_istore dX7_cue_127 (by decide) rfl ?_
        refine zr_iinc dX7_cue_129 rfl (by decide) rfl ?_
        refine pr_goto (tgt := 89) dX7_cue_132 (by decide) ?_
        exact ih
  refine pr_aload_n dX7_cue_0 rfl ?_
  refine pr_aload_n dX7_cue_1 rfl ?_
  refine pr_iload_n dX7_cue_2 rfl ?_
  refine zcv1i dX7_cue_3 pzm_7_74 pzt_X7_isCue (rH_0 hj) (kX7_isCue hj hs h1) (by decide) (Nat.le_of_ble_eq_true rfl) (by decide) ?_
  refine zr_if_ne (tgt := 13) dX7_cue_6 (by decide) (bI_R _) (fun c6 => ?_) (fun c6 => by exfalso; have bb := bI_0 c6; omega)
  have b6 := bI_ne c6
  refine pr_iload_n dX7_cue_13 rfl ?_
  refine zr_iconst dX7_cue_14 ?_
  refine zr_bipush dX7_cue_15 (by decide) ?_
  refine zcs3i dX7_cue_17 pzm_7_70 pzt_X7_in (kX7_in (by omega) (by omega) (by omega)) (by decide) (Nat.le_of_ble_eq_true rfl) ?_
  refine zr_if_ne (tgt := 27) dX7_cue_20 (by decide) (bI_R _) (fun c20 => ?_) (fun c20 => by exfalso; have bb := bI_0 c20; omega)
  have b20 := bI_ne c20
  refine zr_iconst dX7_cue_27 ?_
  refine pr_putf dX7_cue_28 pzf_7_42 (Or.inl rfl) (rH_0 hj) (Nat.le_of_ble_eq_true rfl) rfl rfl (rH_p7 hj) ?_
  refine pr_aload_n dX7_cue_31 rfl ?_
  refine pr_getf dX7_cue_32 pzf_7_42 (rH_0 hj) rfl ?_
  refine zr_if_le (tgt := 40) dX7_cue_35 (by decide) (show zR 0 by decide) (fun c35 => ?_) (fun c35 => absurd (show (0 : Int) ≤ 0 by decide) c35)
  refine pr_aload_n dX7_cue_40 rfl ?_
  refine pr_iload_n dX7_cue_41 rfl ?_
  refine zcv1i dX7_cue_42 pzm_7_67 pzt_X7_placeOf (rH_0 hj) (kX7_placeOf hj hs h1) (by decide) (Nat.le_of_ble_eq_true rfl) (by decide) ?_
  refine pr_istore_n dX7_cue_45 (by decide) rfl ?_
  refine pr_iload_n dX7_cue_46 rfl ?_
  refine zr_if_ne (tgt := 52) dX7_cue_47 (by decide) (by decide) (fun c47 => ?_) (fun c47 => by exfalso; omega)
  refine pr_iload_n dX7_cue_52 rfl ?_
  refine zr_iconst dX7_cue_53 ?_
  refine zr_icmp_ge (tgt := 69) dX7_cue_54 (by decide) (by first | exact hR _ | omega) (by first | exact hR _ | omega) (fun c54 => ?_) (fun c54 => by exfalso; omega)
  refine pr_iload_n dX7_cue_69 rfl ?_
  refine zr_iconst dX7_cue_70 ?_
  refine zr_icmp_ne (tgt := 80) dX7_cue_71 (by decide) (by first | exact hR _ | omega) (by first | exact hR _ | omega) (fun c71 => ?_) (fun c71 => by exfalso; omega)
  refine zr_iconst dX7_cue_80 ?_
  refine pr_istore dX7_cue_81 (by decide) rfl ?_
  refine zr_iconst dX7_cue_83 ?_
  refine pr_istore dX7_cue_84 (by decide) rfl ?_
  refine zr_iconst dX7_cue_86 ?_
  refine pr_istore dX7_cue_87 (by decide) rfl ?_
  exact loop
set_option maxRecDepth 100000 in
set_option maxHeartbeats 4000000 in
theorem kX7_cue_t1 (hj : oj 9 a) (hi : rI s) {cue q : Int} (h1 : zR cue) (h3 : zR q) (g1 : ¬ 0 ≤ rpl s cue) : pz_Cd en 6 153 [.ref (a 0), .int (zI cue), .int (zI q)] (rH h0 a s lv A F) 0 0 (pz_ret (some (.int (zI 0))) (rH h0 a s lv A (va_up F 7 1))) := by
  refine pz_in pzt_X7_cue ?_
  have hs := rI_B hi
  obtain ⟨hR, hs0, hs1, hs2, hs3⟩ := id hs
  obtain ⟨-, hq1, hq2, hq3, hq4, hq5, hq6, hq7, hq8, hq9, hq10, hq11, hq12, hq13⟩ := id hi
  refine pr_aload_n dX7_cue_0 rfl ?_
  refine pr_aload_n dX7_cue_1 rfl ?_
  refine pr_iload_n dX7_cue_2 rfl ?_
  refine zcv1i dX7_cue_3 pzm_7_74 pzt_X7_isCue (rH_0 hj) (kX7_isCue hj hs h1) (by decide) (Nat.le_of_ble_eq_true rfl) (by decide) ?_
  refine zr_if_ne (tgt := 13) dX7_cue_6 (by decide) (bI_R _) (fun c6 => by exfalso; have bb := bI_ne c6; omega) (fun c6 => ?_)
  have b6 := bI_0 c6
  refine zr_iconst dX7_cue_9 ?_
  refine pr_goto (tgt := 28) dX7_cue_10 (by decide) ?_
  refine pr_putf dX7_cue_28 pzf_7_42 (Or.inl rfl) (rH_0 hj) (Nat.le_of_ble_eq_true rfl) rfl rfl (rH_p7 hj) ?_
  refine pr_aload_n dX7_cue_31 rfl ?_
  refine pr_getf dX7_cue_32 pzf_7_42 (rH_0 hj) rfl ?_
  refine zr_if_le (tgt := 40) dX7_cue_35 (by decide) (show zR 1 by decide) (fun c35 => absurd c35 (show ¬ ((1 : Int) ≤ 0) by decide)) (fun c35 => ?_)
  refine zr_iconst dX7_cue_38 ?_
  exact pr_iret dX7_cue_39 rfl rfl (by first | exact zret rfl rfl | (exfalso; omega))
set_option maxRecDepth 100000 in
set_option maxHeartbeats 4000000 in
theorem kX7_cue_t2 (hj : oj 9 a) (hi : rI s) {cue q : Int} (h1 : zR cue) (h3 : zR q) (g1 : 0 ≤ rpl s cue) (g2 : ¬ (0 ≤ q ∧ q ≤ 6)) : pz_Cd en 6 153 [.ref (a 0), .int (zI cue), .int (zI q)] (rH h0 a s lv A F) 0 0 (pz_ret (some (.int (zI 0))) (rH h0 a s lv A (va_up F 7 2))) := by
  refine pz_in pzt_X7_cue ?_
  have hs := rI_B hi
  obtain ⟨hR, hs0, hs1, hs2, hs3⟩ := id hs
  obtain ⟨-, hq1, hq2, hq3, hq4, hq5, hq6, hq7, hq8, hq9, hq10, hq11, hq12, hq13⟩ := id hi
  refine pr_aload_n dX7_cue_0 rfl ?_
  refine pr_aload_n dX7_cue_1 rfl ?_
  refine pr_iload_n dX7_cue_2 rfl ?_
  refine zcv1i dX7_cue_3 pzm_7_74 pzt_X7_isCue (rH_0 hj) (kX7_isCue hj hs h1) (by decide) (Nat.le_of_ble_eq_true rfl) (by decide) ?_
  refine zr_if_ne (tgt := 13) dX7_cue_6 (by decide) (bI_R _) (fun c6 => ?_) (fun c6 => by exfalso; have bb := bI_0 c6; omega)
  have b6 := bI_ne c6
  refine pr_iload_n dX7_cue_13 rfl ?_
  refine zr_iconst dX7_cue_14 ?_
  refine zr_bipush dX7_cue_15 (by decide) ?_
  refine zcs3i dX7_cue_17 pzm_7_70 pzt_X7_in (kX7_in (by omega) (by omega) (by omega)) (by decide) (Nat.le_of_ble_eq_true rfl) ?_
  refine zr_if_ne (tgt := 27) dX7_cue_20 (by decide) (bI_R _) (fun c20 => by exfalso; have bb := bI_ne c20; omega) (fun c20 => ?_)
  have b20 := bI_0 c20
  refine zr_iconst dX7_cue_23 ?_
  refine pr_goto (tgt := 28) dX7_cue_24 (by decide) ?_
  refine pr_putf dX7_cue_28 pzf_7_42 (Or.inl rfl) (rH_0 hj) (Nat.le_of_ble_eq_true rfl) rfl rfl (rH_p7 hj) ?_
  refine pr_aload_n dX7_cue_31 rfl ?_
  refine pr_getf dX7_cue_32 pzf_7_42 (rH_0 hj) rfl ?_
  refine zr_if_le (tgt := 40) dX7_cue_35 (by decide) (show zR 2 by decide) (fun c35 => absurd c35 (show ¬ ((2 : Int) ≤ 0) by decide)) (fun c35 => ?_)
  refine zr_iconst dX7_cue_38 ?_
  exact pr_iret dX7_cue_39 rfl rfl (by first | exact zret rfl rfl | (exfalso; omega))
end ref
