/-! the class: what the list of cues answers, second half -/
theorem xpf_R {X : Int → Int → Int} (hI : xI X) {i c : Int} (i1 : 0 ≤ i) (i2 : i < X 1 1) (c1 : 0 ≤ c) (c2 : c ≤ 11) : 0 ≤ xpf X i c ∧ xpf X i c ≤ 3 := by
  have := (hI.2.2.2.2.1 i c i1 i2 c1 c2).2
  unfold xpf
  split
  · omega
  · rename_i e
    exact this e
theorem xlgF_R {X : Int → Int → Int} (hI : xI X) {i : Int} (i1 : 0 ≤ i) (i2 : i < X 1 1) : ∀ n : Nat, n ≤ 12 → 0 ≤ xlgF X i n ∧ xlgF X i n ≤ 1200
  | 0, _ => ⟨Int.le_refl _, (by decide : (0 : Int) ≤ 1200)⟩
  | n + 1, hn => by
    have ih := xlgF_R hI i1 i2 n (by omega)
    have hp := xpf_R hI (c := n) i1 i2 (by omega) (by omega)
    have hd := hI.2.2.2.1 i (xpf X i n) i1 i2 hp.1 (by omega)
    unfold xlgF
    split
    · split <;> omega
    · exact ih
section cls
variable {en : pz_Env} {h : pz_H} {a : Int → Nat} {X : Int → Int → Int}
set_option maxRecDepth 100000 in
set_option maxHeartbeats 4000000 in
theorem kX1_lengthOf (hj : sj a) (hI : xI X)  {i : Int} (i1 : 0 ≤ i) (i2 : i < X 1 1) : pz_Cd en 5 9 [.ref (a 1), .int (zI i)] (sH h a (sq a) X) 0 0 (pz_ret (some (.int (zI (xlgF X i 12)))) (sH h a (sq a) X)) := by
  refine pz_in pzt_X1_lengthOf ?_
  have hX := hI.1
  obtain ⟨hR, hn0, hn1, hm0, hm1⟩ := id hX
  have loop : ∀ q : Option Int, pz_WP 5 en (pz_Cd en (5 - 1)) 1 cX1_lengthOf 6 (some .int) [] false (pz_ret (some (.int (zI (xlgF X i 12)))) (sH h a (sq a) X)) 12 [some (.ref (a 1)), some (.int (zI i)), some (.ref (a (7 + 5 * i))), some (.int (zI (xlgF X i (0 : Int).toNat))), some (.int (zI 0)), q.map (fun z => Value.int (zI z))] [] (sH h a (sq a) X) 0 0 := by
    refine zup (P := fun k => ∀ q : Option Int, pz_WP 5 en (pz_Cd en (5 - 1)) 1 cX1_lengthOf 6 (some .int) [] false (pz_ret (some (.int (zI (xlgF X i 12)))) (sH h a (sq a) X)) 12 [some (.ref (a 1)), some (.int (zI i)), some (.ref (a (7 + 5 * i))), some (.int (zI (xlgF X i (k : Int).toNat))), some (.int (zI k)), q.map (fun z => Value.int (zI z))] [] (sH h a (sq a) X) 0 0) (lo := 0) (hi := 12) (by decide) ?_ ?_
    · intro q
      refine pr_iload dX1_lengthOf_12 rfl ?_
      refine zr_bipush dX1_lengthOf_14 (by decide) ?_
      refine zr_icmp_ge (tgt := 63) dX1_lengthOf_16 (by decide) (by first | exact hR _ _ | omega) (by first | exact hR _ _ | omega) (fun c16 => ?_) (fun c16 => by exfalso; omega)
      refine pr_iload_n dX1_lengthOf_63 rfl ?_
      exact pr_iret dX1_lengthOf_64 rfl rfl (zret (by rfl))
    · intro k hk1 hk2 ih q
      rw [xlgF_s hk1] at ih
      have hp := xpf_R hI (c := k) i1 i2 hk1 (by omega)
      have hd := hI.2.2.2.1 i (xpf X i k) i1 i2 hp.1 (by omega)
      have hg := xlgF_R hI i1 i2 k.toNat (by omega)
      refine pr_iload dX1_lengthOf_12 rfl ?_
      refine zr_bipush dX1_lengthOf_14 (by decide) ?_
      refine zr_icmp_ge (tgt := 63) dX1_lengthOf_16 (by decide) (by first | exact hR _ _ | omega) (by first | exact hR _ _ | omega) (fun c16 => by exfalso; omega) (fun c16 => ?_)
      refine pr_aload_n dX1_lengthOf_19 rfl ?_
      refine pr_iload_n dX1_lengthOf_20 rfl ?_
      refine pr_iload dX1_lengthOf_21 rfl ?_
      refine zcv2i dX1_lengthOf_23 pzm_1_72 pzt_X1_isMoving (sH_1 hj) (kX1_isMoving hj hX (by omega) (by omega) (by omega) (by omega)) (by decide) (Nat.le_of_ble_eq_true rfl) (by decide) ?_
      refine zr_if_eq (tgt := 57) dX1_lengthOf_26 (by decide) (bI_R _) (fun c26 => ?_) (fun c26 => ?_)
      · have b26 := bI_0 c26
        rw [if_neg b26] at ih
        refine zr_iinc dX1_lengthOf_57 rfl (by decide) rfl ?_
        refine pr_goto (tgt := 12) dX1_lengthOf_60 (by decide) ?_
        first | exact ih q | exact ih (some _)
      · have b26 := bI_ne c26
        rw [if_pos b26] at ih
        refine pr_aload_n dX1_lengthOf_29 rfl ?_
        refine pr_iload dX1_lengthOf_30 rfl ?_
        refine zcv1i dX1_lengthOf_32 pzm_1_76 pzt_X0_partFor (sH_C hj (by omega) (by omega)) (kX0_partFor hj hX (by omega) (by omega) (by omega) (by omega)) (by decide) (Nat.le_of_ble_eq_true rfl) (by decide) ?_
        refine pr_istore dX1_lengthOf_35 (by decide) (by cases q <;> rfl) ?_
        refine pr_iload_n dX1_lengthOf_37 rfl ?_
        refine pr_aload_n dX1_lengthOf_38 rfl ?_
        refine pr_getf dX1_lengthOf_39 pzf_1_80 (sH_C hj (by omega) (by omega)) rfl ?_
        refine pr_iload dX1_lengthOf_42 rfl ?_
        refine zr_iald dX1_lengthOf_44 (sH_C1 hj (by omega) (by omega)) (by omega) (by decide) ?_
        refine pr_aload_n dX1_lengthOf_45 rfl ?_
        refine pr_getf dX1_lengthOf_46 pzf_1_83 (sH_C hj (by omega) (by omega)) rfl ?_
        refine pr_iload dX1_lengthOf_49 rfl ?_
        refine zr_iald dX1_lengthOf_51 (sH_C2 hj (by omega) (by omega)) (by omega) (by decide) ?_
        refine zr_iadd dX1_lengthOf_52 ?_
        refine zr_max dX1_lengthOf_53 pzx_1_86 (by decide) (Nat.le_of_ble_eq_true rfl) (by omega) (by omega) ?_
        refine pr_istore_n dX1_lengthOf_56 (by decide) rfl ?_
        refine zr_iinc dX1_lengthOf_57 rfl (by decide) rfl ?_
        refine pr_goto (tgt := 12) dX1_lengthOf_60 (by decide) ?_
        first | exact ih q | exact ih (some _)
  refine pr_aload_n dX1_lengthOf_0 rfl ?_
  refine pr_getf dX1_lengthOf_1 pzf_1_11 (sH_1 hj) rfl ?_
  refine pr_iload_n dX1_lengthOf_4 rfl ?_
  refine zr_crow hj dX1_lengthOf_5 (by omega) (by omega) ?_
  refine pr_astore_n dX1_lengthOf_6 (by decide) rfl ?_
  refine zr_iconst dX1_lengthOf_7 ?_
  refine pr_istore_n dX1_lengthOf_8 (by decide) rfl ?_
  refine zr_iconst dX1_lengthOf_9 ?_
  refine pr_istore dX1_lengthOf_10 (by decide) rfl ?_
  exact loop none
set_option maxRecDepth 100000 in
set_option maxHeartbeats 4000000 in
theorem kX1_chainFrom (hj : sj a) (hI : xI X)  {i : Int} (i1 : 0 ≤ i) (i2 : i < X 1 1) : pz_Cd en 1 10 [.ref (a 1), .int (zI i)] (sH h a (sq a) X) 0 0 (pz_ret (some (.int (zI (xchF X (X 1 1 - 1 - i).toNat i)))) (sH h a (sq a) X)) := by
  refine pz_in pzt_X1_chainFrom ?_
  have hX := hI.1
  obtain ⟨hR, hn0, hn1, hm0, hm1⟩ := id hX
  have loop : ∀ T : Int, pz_WP 1 en (pz_Cd en (1 - 1)) 1 cX1_chainFrom 4 (some .int) [] false (pz_ret (some (.int (zI (T + xchF X (X 1 1 - 1 - i).toNat i)))) (sH h a (sq a) X)) 4 [some (.ref (a 1)), some (.int (zI i)), some (.int (zI T)), some (.int (zI i))] [] (sH h a (sq a) X) 0 0 := by
    refine zup (P := fun k => ∀ T : Int, pz_WP 1 en (pz_Cd en (1 - 1)) 1 cX1_chainFrom 4 (some .int) [] false (pz_ret (some (.int (zI (T + xchF X (X 1 1 - 1 - k).toNat k)))) (sH h a (sq a) X)) 4 [some (.ref (a 1)), some (.int (zI i)), some (.int (zI T)), some (.int (zI k))] [] (sH h a (sq a) X) 0 0) (lo := i) (hi := X 1 1 - 1) (by omega) ?_ ?_
    · intro T
      rw [show (X 1 1 - 1 - (X 1 1 - 1)).toNat = 0 by omega]
      refine pr_iload_n dX1_chainFrom_4 rfl ?_
      refine zr_iconst dX1_chainFrom_5 ?_
      refine zr_iadd dX1_chainFrom_6 ?_
      refine pr_aload_n dX1_chainFrom_7 rfl ?_
      refine pr_getf dX1_chainFrom_8 pzf_1_31 (sH_1 hj) rfl ?_
      refine zr_icmp_ge (tgt := 47) dX1_chainFrom_11 (by decide) (by first | exact hR _ _ | omega) (by first | exact hR _ _ | omega) (fun c11 => ?_) (fun c11 => by exfalso; omega)
      refine pr_iload_n dX1_chainFrom_47 rfl ?_
      exact pr_iret dX1_chainFrom_48 rfl rfl (zret (by show T = T + 0; omega))
    · intro k hk1 hk2 ih T
      rw [xchF_s (by omega)]
      rw [show X 1 1 - 1 - k - 1 = X 1 1 - 1 - (k + 1) by omega]
      refine pr_iload_n dX1_chainFrom_4 rfl ?_
      refine zr_iconst dX1_chainFrom_5 ?_
      refine zr_iadd dX1_chainFrom_6 ?_
      refine pr_aload_n dX1_chainFrom_7 rfl ?_
      refine pr_getf dX1_chainFrom_8 pzf_1_31 (sH_1 hj) rfl ?_
      refine zr_icmp_ge (tgt := 47) dX1_chainFrom_11 (by decide) (by first | exact hR _ _ | omega) (by first | exact hR _ _ | omega) (fun c11 => by exfalso; omega) (fun c11 => ?_)
      refine pr_aload_n dX1_chainFrom_14 rfl ?_
      refine pr_getf dX1_chainFrom_15 pzf_1_11 (sH_1 hj) rfl ?_
      refine pr_iload_n dX1_chainFrom_18 rfl ?_
      refine zr_crow hj dX1_chainFrom_19 (by omega) (by omega) ?_
      refine pr_getf dX1_chainFrom_20 pzf_1_91 (sH_C hj (by omega) (by omega)) rfl ?_
      refine zr_iconst dX1_chainFrom_23 ?_
      refine zr_icmp_ne (tgt := 29) dX1_chainFrom_24 (by decide) (by first | exact hR _ _ | omega) (by first | exact hR _ _ | omega) (fun c24 => ?_) (fun c24 => ?_)
      · rw [if_neg c24, ← Int.add_assoc]
        refine pr_iload_n dX1_chainFrom_29 rfl ?_
        refine pr_aload_n dX1_chainFrom_30 rfl ?_
        refine pr_getf dX1_chainFrom_31 pzf_1_11 (sH_1 hj) rfl ?_
        refine pr_iload_n dX1_chainFrom_34 rfl ?_
        refine zr_crow hj dX1_chainFrom_35 (by omega) (by omega) ?_
        refine pr_getf dX1_chainFrom_36 pzf_1_91 (sH_C hj (by omega) (by omega)) rfl ?_
        refine zr_iadd dX1_chainFrom_39 ?_
        refine pr_istore_n dX1_chainFrom_40 (by decide) rfl ?_
        refine zr_iinc dX1_chainFrom_41 rfl (by decide) rfl ?_
        refine pr_goto (tgt := 4) dX1_chainFrom_44 (by decide) ?_
        exact ih _
      · rw [if_pos c24]
        refine pr_iload_n dX1_chainFrom_27 rfl ?_
        exact pr_iret dX1_chainFrom_28 rfl rfl (zret (by omega))
  refine zr_iconst dX1_chainFrom_0 ?_
  refine pr_istore_n dX1_chainFrom_1 (by decide) rfl ?_
  refine pr_iload_n dX1_chainFrom_2 rfl ?_
  refine pr_istore_n dX1_chainFrom_3 (by decide) rfl ?_
  have z := loop 0
  rw [Int.zero_add] at z
  exact z
set_option maxRecDepth 100000 in
set_option maxHeartbeats 4000000 in
theorem kX1_listedLevel (hj : sj a) (hI : xI X)  {q : Int} (q1 : 0 ≤ q) (q2 : q < X 1 5) : pz_Cd en 2 11 [.ref (a 1), .int (zI q)] (sH h a (sq a) X) 0 0 (pz_ret (some (.int (zI (xll X q)))) (sH h a (sq a) X)) := by
  refine pz_in pzt_X1_listedLevel ?_
  have hX := hI.1
  obtain ⟨hR, hn0, hn1, hm0, hm1⟩ := id hX
  have hx := xix_R hX (X 4 q)
  have hc := hI.2.2.2.2.2.1 q q1 q2
  refine pr_aload_n dX1_listedLevel_0 rfl ?_
  refine pr_aload_n dX1_listedLevel_1 rfl ?_
  refine pr_getf dX1_listedLevel_2 pzf_1_21 (sH_1 hj) rfl ?_
  refine pr_iload_n dX1_listedLevel_5 rfl ?_
  refine zr_iald dX1_listedLevel_6 (sH_4 hj) (by omega) (by decide) ?_
  refine zcv1i dX1_listedLevel_7 pzm_1_94 pzt_X1_indexOf (sH_1 hj) (kX1_indexOf hj hX (by first | exact hR _ _ | omega)) (by decide) (Nat.le_of_ble_eq_true rfl) (by decide) ?_
  refine pr_istore_n dX1_listedLevel_10 (by decide) rfl ?_
  refine pr_iload_n dX1_listedLevel_11 rfl ?_
  refine zr_if_ge (tgt := 20) dX1_listedLevel_12 (by decide) (by first | exact hR _ _ | omega) (fun c12 => ?_) (fun c12 => ?_)
  · refine pr_aload_n dX1_listedLevel_20 rfl ?_
    refine pr_getf dX1_listedLevel_21 pzf_1_11 (sH_1 hj) rfl ?_
    refine pr_iload_n dX1_listedLevel_24 rfl ?_
    refine zr_crow hj dX1_listedLevel_25 (by omega) (by omega) ?_
    refine pr_getf dX1_listedLevel_26 pzf_1_55 (sH_C hj (by omega) (by omega)) rfl ?_
    refine pr_aload_n dX1_listedLevel_29 rfl ?_
    refine pr_getf dX1_listedLevel_30 pzf_1_24 (sH_1 hj) rfl ?_
    refine pr_iload_n dX1_listedLevel_33 rfl ?_
    refine zr_iald dX1_listedLevel_34 (sH_5 hj) (by omega) (by decide) ?_
    refine zr_iald dX1_listedLevel_35 (sH_C3 hj (by omega) (by omega)) (by omega) (by decide) ?_
    exact pr_iret dX1_listedLevel_36 rfl rfl (zret (by unfold xll; first | rw [if_pos (by omega)] | rw [if_neg (by omega)]))
  · refine zr_bipush dX1_listedLevel_15 (by decide) ?_
    refine pr_goto (tgt := 36) dX1_listedLevel_17 (by decide) ?_
    exact pr_iret dX1_listedLevel_36 rfl rfl (zret (by unfold xll; first | rw [if_pos (by omega)] | rw [if_neg (by omega)]))
set_option maxRecDepth 100000 in
set_option maxHeartbeats 4000000 in
theorem kX1_listedPart (hj : sj a) (hI : xI X)  {q : Int} (q1 : 0 ≤ q) (q2 : q < X 1 5) : pz_Cd en 2 12 [.ref (a 1), .int (zI q)] (sH h a (sq a) X) 0 0 (pz_ret (some (.int (zI (xlp X q)))) (sH h a (sq a) X)) := by
  refine pz_in pzt_X1_listedPart ?_
  have hX := hI.1
  obtain ⟨hR, hn0, hn1, hm0, hm1⟩ := id hX
  have hx := xix_R hX (X 4 q)
  have hc := hI.2.2.2.2.2.1 q q1 q2
  refine pr_aload_n dX1_listedPart_0 rfl ?_
  refine pr_aload_n dX1_listedPart_1 rfl ?_
  refine pr_getf dX1_listedPart_2 pzf_1_21 (sH_1 hj) rfl ?_
  refine pr_iload_n dX1_listedPart_5 rfl ?_
  refine zr_iald dX1_listedPart_6 (sH_4 hj) (by omega) (by decide) ?_
  refine zcv1i dX1_listedPart_7 pzm_1_94 pzt_X1_indexOf (sH_1 hj) (kX1_indexOf hj hX (by first | exact hR _ _ | omega)) (by decide) (Nat.le_of_ble_eq_true rfl) (by decide) ?_
  refine pr_istore_n dX1_listedPart_10 (by decide) rfl ?_
  refine pr_iload_n dX1_listedPart_11 rfl ?_
  refine zr_if_ge (tgt := 19) dX1_listedPart_12 (by decide) (by first | exact hR _ _ | omega) (fun c12 => ?_) (fun c12 => ?_)
  · refine pr_aload_n dX1_listedPart_19 rfl ?_
    refine pr_getf dX1_listedPart_20 pzf_1_11 (sH_1 hj) rfl ?_
    refine pr_iload_n dX1_listedPart_23 rfl ?_
    refine zr_crow hj dX1_listedPart_24 (by omega) (by omega) ?_
    refine pr_getf dX1_listedPart_25 pzf_1_97 (sH_C hj (by omega) (by omega)) rfl ?_
    refine pr_aload_n dX1_listedPart_28 rfl ?_
    refine pr_getf dX1_listedPart_29 pzf_1_24 (sH_1 hj) rfl ?_
    refine pr_iload_n dX1_listedPart_32 rfl ?_
    refine zr_iald dX1_listedPart_33 (sH_5 hj) (by omega) (by decide) ?_
    refine zr_iald dX1_listedPart_34 (sH_C4 hj (by omega) (by omega)) (by omega) (by decide) ?_
    exact pr_iret dX1_listedPart_35 rfl rfl (zret (by unfold xlp; first | rw [if_pos (by omega)] | rw [if_neg (by omega)]))
  · refine zr_iconst dX1_listedPart_15 ?_
    refine pr_goto (tgt := 35) dX1_listedPart_16 (by decide) ?_
    exact pr_iret dX1_listedPart_35 rfl rfl (zret (by unfold xlp; first | rw [if_pos (by omega)] | rw [if_neg (by omega)]))
set_option maxRecDepth 100000 in
set_option maxHeartbeats 4000000 in
theorem kX1_needsHold (hj : sj a) (hX : xB X)  {i c t : Int} (i1 : 0 ≤ i) (i2 : i ≤ 12) (c1 : 0 ≤ c) (c2 : c ≤ 11) (t1 : zR t) : pz_Cd en 3 15 [.ref (a 1), .int (zI i), .int (zI c), .int (zI t)] (sH h a (sq a) X) 0 0 (pz_ret (some (.int (zI (bI (xnh X i c t))))) (sH h a (sq a) X)) := by
  refine pz_in pzt_X1_needsHold ?_
  obtain ⟨hR, hn0, hn1, hm0, hm1⟩ := id hX
  refine pr_iload_n dX1_needsHold_0 rfl ?_
  refine pr_aload_n dX1_needsHold_1 rfl ?_
  refine pr_getf dX1_needsHold_2 pzf_1_31 (sH_1 hj) rfl ?_
  refine zr_icmp_ge (tgt := 35) dX1_needsHold_5 (by decide) (by first | exact hR _ _ | omega) (by first | exact hR _ _ | omega) (fun c5 => ?_) (fun c5 => ?_)
  · refine zr_iconst dX1_needsHold_35 ?_
    exact pr_iret dX1_needsHold_36 rfl rfl (zret (by first | exact (bI_t ⟨by omega, b18, c28⟩).symm | exact (bI_f (fun z => by omega)).symm | exact (bI_f (fun z => b18 z.2.1)).symm | exact (bI_f (fun z => z.2.2 c28)).symm))
  · refine pr_aload_n dX1_needsHold_8 rfl ?_
    refine pr_getf dX1_needsHold_9 pzf_1_11 (sH_1 hj) rfl ?_
    refine pr_iload_n dX1_needsHold_12 rfl ?_
    refine zr_crow hj dX1_needsHold_13 (by omega) (by omega) ?_
    refine pr_iload_n dX1_needsHold_14 rfl ?_
    refine zcv1i dX1_needsHold_15 pzm_1_51 pzt_X0_isTracking (sH_C hj (by omega) (by omega)) (kX0_isTracking hj hX (by omega) (by omega) (by omega) (by omega)) (by decide) (Nat.le_of_ble_eq_true rfl) (by decide) ?_
    refine zr_if_eq (tgt := 35) dX1_needsHold_18 (by decide) (bI_R _) (fun c18 => ?_) (fun c18 => ?_)
    · have b18 := bI_0 c18
      refine zr_iconst dX1_needsHold_35 ?_
      exact pr_iret dX1_needsHold_36 rfl rfl (zret (by first | exact (bI_t ⟨by omega, b18, c28⟩).symm | exact (bI_f (fun z => by omega)).symm | exact (bI_f (fun z => b18 z.2.1)).symm | exact (bI_f (fun z => z.2.2 c28)).symm))
    · have b18 := bI_ne c18
      refine pr_aload_n dX1_needsHold_21 rfl ?_
      refine pr_iload_n dX1_needsHold_22 rfl ?_
      refine pr_iload_n dX1_needsHold_23 rfl ?_
      refine zcv2i dX1_needsHold_24 pzm_1_62 pzt_X1_levelIn (sH_1 hj) (kX1_levelIn hj hX (by omega) (by omega) (by omega) (by omega)) (by decide) (Nat.le_of_ble_eq_true rfl) (by decide) ?_
      refine pr_iload_n dX1_needsHold_27 rfl ?_
      refine zr_icmp_eq (tgt := 35) dX1_needsHold_28 (by decide) (xlv_R hR _ _) t1 (fun c28 => ?_) (fun c28 => ?_)
      · refine zr_iconst dX1_needsHold_35 ?_
        exact pr_iret dX1_needsHold_36 rfl rfl (zret (by first | exact (bI_t ⟨by omega, b18, c28⟩).symm | exact (bI_f (fun z => by omega)).symm | exact (bI_f (fun z => b18 z.2.1)).symm | exact (bI_f (fun z => z.2.2 c28)).symm))
      · refine zr_iconst dX1_needsHold_31 ?_
        refine pr_goto (tgt := 36) dX1_needsHold_32 (by decide) ?_
        exact pr_iret dX1_needsHold_36 rfl rfl (zret (by first | exact (bI_t ⟨by omega, b18, c28⟩).symm | exact (bI_f (fun z => by omega)).symm | exact (bI_f (fun z => b18 z.2.1)).symm | exact (bI_f (fun z => z.2.2 c28)).symm))
theorem xlw_R {X : Int → Int → Int} (hR : ∀ i j, zR (X i j)) (i c : Int) : zR (xlw X i c) := by
  unfold xlw
  split
  · exact xlv_R hR _ _
  · exact hR _ _
set_option maxRecDepth 100000 in
set_option maxHeartbeats 4000000 in
theorem kX1_levelWithoutInstruction (hj : sj a) (hX : xB X)  {i c : Int} (i1 : 0 ≤ i) (i2 : i < 12) (c1 : 0 ≤ c) (c2 : c ≤ 11) : pz_Cd en 4 16 [.ref (a 1), .int (zI i), .int (zI c)] (sH h a (sq a) X) 0 0 (pz_ret (some (.int (zI (xlw X i c)))) (sH h a (sq a) X)) := by
  refine pz_in pzt_X1_levelWithoutInstruction ?_
  obtain ⟨hR, hn0, hn1, hm0, hm1⟩ := id hX
  refine pr_aload_n dX1_levelWithoutInstruction_0 rfl ?_
  refine pr_getf dX1_levelWithoutInstruction_1 pzf_1_11 (sH_1 hj) rfl ?_
  refine pr_iload_n dX1_levelWithoutInstruction_4 rfl ?_
  refine zr_crow hj dX1_levelWithoutInstruction_5 (by omega) (by omega) ?_
  refine pr_getf dX1_levelWithoutInstruction_6 pzf_1_65 (sH_C hj (by omega) (by omega)) rfl ?_
  refine zr_if_eq (tgt := 21) dX1_levelWithoutInstruction_9 (by decide) (by first | exact hR _ _ | omega) (fun c9 => ?_) (fun c9 => ?_)
  · refine pr_aload_n dX1_levelWithoutInstruction_21 rfl ?_
    refine pr_iload_n dX1_levelWithoutInstruction_22 rfl ?_
    refine pr_iload_n dX1_levelWithoutInstruction_23 rfl ?_
    refine zcv2i dX1_levelWithoutInstruction_24 pzm_1_69 pzt_X1_levelBefore (sH_1 hj) (kX1_levelBefore hj hX (by omega) (by omega) (by omega) (by omega)) (by decide) (Nat.le_of_ble_eq_true rfl) (by decide) ?_
    exact pr_iret dX1_levelWithoutInstruction_27 rfl rfl (zret (by unfold xlw; first | rw [if_pos (by omega)] | rw [if_neg (by omega)]))
  · refine pr_aload_n dX1_levelWithoutInstruction_12 rfl ?_
    refine pr_getf dX1_levelWithoutInstruction_13 pzf_1_17 (sH_1 hj) rfl ?_
    refine pr_iload_n dX1_levelWithoutInstruction_16 rfl ?_
    refine zr_iald dX1_levelWithoutInstruction_17 (sH_3 hj) (by omega) (by decide) ?_
    refine pr_goto (tgt := 27) dX1_levelWithoutInstruction_18 (by decide) ?_
    exact pr_iret dX1_levelWithoutInstruction_27 rfl rfl (zret (by unfold xlw; first | rw [if_pos (by omega)] | rw [if_neg (by omega)]))
set_option maxRecDepth 100000 in
set_option maxHeartbeats 4000000 in
theorem kX1_refusal (hj : sj a) (hX : xB X)  {i ho cg : Int} (i1 : 0 ≤ i) (i2 : i < 12) (h1 : 0 ≤ ho ∧ ho ≤ 12) (h2 : -12 ≤ cg ∧ cg ≤ 1) : pz_Cd en 1 18 [.ref (a 1), .int (zI i), .int (zI ho), .int (zI cg)] (sH h a (sq a) X) 0 0 (pz_ret (some (.int (zI (xrf X i ho cg)))) (sH h a (sq a) X)) := by
  refine pz_in pzt_X1_refusal ?_
  obtain ⟨hR, hn0, hn1, hm0, hm1⟩ := id hX
  refine pr_aload_n dX1_refusal_0 rfl ?_
  refine pr_getf dX1_refusal_1 pzf_1_11 (sH_1 hj) rfl ?_
  refine pr_iload_n dX1_refusal_4 rfl ?_
  refine zr_crow hj dX1_refusal_5 (by omega) (by omega) ?_
  refine pr_getf dX1_refusal_6 pzf_1_100 (sH_C hj (by omega) (by omega)) rfl ?_
  refine zr_if_eq (tgt := 14) dX1_refusal_9 (by decide) (by first | exact hR _ _ | omega) (fun c9 => ?_) (fun c9 => ?_)
  · refine pr_iload_n dX1_refusal_14 rfl ?_
    refine zr_if_le (tgt := 44) dX1_refusal_15 (by decide) (by first | exact hR _ _ | omega) (fun c15 => ?_) (fun c15 => ?_)
    · refine pr_aload_n dX1_refusal_44 rfl ?_
      refine pr_getf dX1_refusal_45 pzf_1_35 (sH_1 hj) rfl ?_
      refine pr_iload_n dX1_refusal_48 rfl ?_
      refine zr_iadd dX1_refusal_49 ?_
      refine pr_iload_n dX1_refusal_50 rfl ?_
      refine zr_iadd dX1_refusal_51 ?_
      refine zr_bipush dX1_refusal_52 (by decide) ?_
      refine zr_icmp_le (tgt := 61) dX1_refusal_54 (by decide) (by first | exact hR _ _ | omega) (by first | exact hR _ _ | omega) (fun c54 => ?_) (fun c54 => ?_)
      · refine zr_iconst dX1_refusal_61 ?_
        exact pr_iret dX1_refusal_62 rfl rfl (zret (by
      unfold xrf
      repeat (first | rw [if_pos (by omega)] | rw [if_neg (by omega)])))
      · refine zr_iconst dX1_refusal_57 ?_
        refine pr_goto (tgt := 62) dX1_refusal_58 (by decide) ?_
        exact pr_iret dX1_refusal_62 rfl rfl (zret (by
      unfold xrf
      repeat (first | rw [if_pos (by omega)] | rw [if_neg (by omega)])))
    · refine pr_iload_n dX1_refusal_18 rfl ?_
      refine zr_iconst dX1_refusal_19 ?_
      refine zr_iadd dX1_refusal_20 ?_
      refine pr_aload_n dX1_refusal_21 rfl ?_
      refine pr_getf dX1_refusal_22 pzf_1_31 (sH_1 hj) rfl ?_
      refine zr_icmp_ge (tgt := 44) dX1_refusal_25 (by decide) (by first | exact hR _ _ | omega) (by first | exact hR _ _ | omega) (fun c25 => ?_) (fun c25 => ?_)
      · refine pr_aload_n dX1_refusal_44 rfl ?_
        refine pr_getf dX1_refusal_45 pzf_1_35 (sH_1 hj) rfl ?_
        refine pr_iload_n dX1_refusal_48 rfl ?_
        refine zr_iadd dX1_refusal_49 ?_
        refine pr_iload_n dX1_refusal_50 rfl ?_
        refine zr_iadd dX1_refusal_51 ?_
        refine zr_bipush dX1_refusal_52 (by decide) ?_
        refine zr_icmp_le (tgt := 61) dX1_refusal_54 (by decide) (by first | exact hR _ _ | omega) (by first | exact hR _ _ | omega) (fun c54 => ?_) (fun c54 => ?_)
        · refine zr_iconst dX1_refusal_61 ?_
          exact pr_iret dX1_refusal_62 rfl rfl (zret (by
      unfold xrf
      repeat (first | rw [if_pos (by omega)] | rw [if_neg (by omega)])))
        · refine zr_iconst dX1_refusal_57 ?_
          refine pr_goto (tgt := 62) dX1_refusal_58 (by decide) ?_
          exact pr_iret dX1_refusal_62 rfl rfl (zret (by
      unfold xrf
      repeat (first | rw [if_pos (by omega)] | rw [if_neg (by omega)])))
      · refine pr_aload_n dX1_refusal_28 rfl ?_
        refine pr_getf dX1_refusal_29 pzf_1_11 (sH_1 hj) rfl ?_
        refine pr_iload_n dX1_refusal_32 rfl ?_
        refine zr_iconst dX1_refusal_33 ?_
        refine zr_iadd dX1_refusal_34 ?_
        refine zr_crow hj dX1_refusal_35 (by omega) (by omega) ?_
        refine pr_getf dX1_refusal_36 pzf_1_100 (sH_C hj (by omega) (by omega)) rfl ?_
        refine zr_if_eq (tgt := 44) dX1_refusal_39 (by decide) (by first | exact hR _ _ | omega) (fun c39 => ?_) (fun c39 => ?_)
        · refine pr_aload_n dX1_refusal_44 rfl ?_
          refine pr_getf dX1_refusal_45 pzf_1_35 (sH_1 hj) rfl ?_
          refine pr_iload_n dX1_refusal_48 rfl ?_
          refine zr_iadd dX1_refusal_49 ?_
          refine pr_iload_n dX1_refusal_50 rfl ?_
          refine zr_iadd dX1_refusal_51 ?_
          refine zr_bipush dX1_refusal_52 (by decide) ?_
          refine zr_icmp_le (tgt := 61) dX1_refusal_54 (by decide) (by first | exact hR _ _ | omega) (by first | exact hR _ _ | omega) (fun c54 => ?_) (fun c54 => ?_)
          · refine zr_iconst dX1_refusal_61 ?_
            exact pr_iret dX1_refusal_62 rfl rfl (zret (by
      unfold xrf
      repeat (first | rw [if_pos (by omega)] | rw [if_neg (by omega)])))
          · refine zr_iconst dX1_refusal_57 ?_
            refine pr_goto (tgt := 62) dX1_refusal_58 (by decide) ?_
            exact pr_iret dX1_refusal_62 rfl rfl (zret (by
      unfold xrf
      repeat (first | rw [if_pos (by omega)] | rw [if_neg (by omega)])))
        · refine zr_iconst dX1_refusal_42 ?_
          exact pr_iret dX1_refusal_43 rfl rfl (zret (by
      unfold xrf
      repeat (first | rw [if_pos (by omega)] | rw [if_neg (by omega)])))
  · refine zr_iconst dX1_refusal_12 ?_
    exact pr_iret dX1_refusal_13 rfl rfl (zret (by
      unfold xrf
      repeat (first | rw [if_pos (by omega)] | rw [if_neg (by omega)])))
set_option maxRecDepth 100000 in
set_option maxHeartbeats 4000000 in
theorem kX1_refusalToGive (hj : sj a) (hX : xB X)  {i c t : Int} (i1 : 0 ≤ i) (i2 : i < 12) (c1 : 0 ≤ c) (c2 : c ≤ 11) (t1 : zR t) {hd : Prop} [dd : Decidable hd] : pz_Cd en 4 19 [.ref (a 1), .int (zI i), .int (zI c), .int (zI t), .int (zI (bI hd))] (sH h a (sq a) X) 0 0 (pz_ret (some (.int (zI (xrf X i (bI (hd ∧ xnh X (i + 1) c (xlm X t c))) (bI (X (7 + 5 * i + 3) c = -2)))))) (sH h a (sq a) X)) := by
  refine pz_in pzt_X1_refusalToGive ?_
  obtain ⟨hR, hn0, hn1, hm0, hm1⟩ := id hX
  refine pr_iload dX1_refusalToGive_0 rfl ?_
  refine zr_if_eq (tgt := 26) dX1_refusalToGive_2 (by decide) (bI_R _) (fun c2 => ?_) (fun c2 => ?_)
  · have b2 := bI_0 c2
    refine zr_iconst dX1_refusalToGive_26 ?_
    refine pr_istore dX1_refusalToGive_27 (by decide) rfl ?_
    refine pr_aload_n dX1_refusalToGive_29 rfl ?_
    refine pr_getf dX1_refusalToGive_30 pzf_1_11 (sH_1 hj) rfl ?_
    refine pr_iload_n dX1_refusalToGive_33 rfl ?_
    refine zr_crow hj dX1_refusalToGive_34 (by omega) (by omega) ?_
    refine pr_getf dX1_refusalToGive_35 pzf_1_55 (sH_C hj (by omega) (by omega)) rfl ?_
    refine pr_iload_n dX1_refusalToGive_38 rfl ?_
    refine zr_iald dX1_refusalToGive_39 (sH_C3 hj (by omega) (by omega)) (by omega) (by decide) ?_
    refine zr_bipush dX1_refusalToGive_40 (by decide) ?_
    refine zr_icmp_ne (tgt := 49) dX1_refusalToGive_42 (by decide) (by first | exact hR _ _ | omega) (by first | exact hR _ _ | omega) (fun c42 => ?_) (fun c42 => ?_)
    · refine zr_iconst dX1_refusalToGive_49 ?_
      refine pr_istore dX1_refusalToGive_50 (by decide) rfl ?_
      refine pr_aload_n dX1_refusalToGive_52 rfl ?_
      refine pr_iload_n dX1_refusalToGive_53 rfl ?_
      refine pr_iload dX1_refusalToGive_54 rfl ?_
      refine zr_if_eq (tgt := 63) dX1_refusalToGive_56 (by decide) (by first | exact hR _ _ | omega) (fun c56 => ?_) (fun c56 => by exfalso; omega)
      refine zr_iconst dX1_refusalToGive_63 ?_
      refine pr_iload dX1_refusalToGive_64 rfl ?_
      refine zr_if_eq (tgt := 73) dX1_refusalToGive_66 (by decide) (by first | exact hR _ _ | omega) (fun c66 => ?_) (fun c66 => by exfalso; omega)
      refine zr_iconst dX1_refusalToGive_73 ?_
      refine zcv3i dX1_refusalToGive_74 pzm_1_107 pzt_X1_refusal (sH_1 hj) (kX1_refusal hj hX (by omega) (by omega) (by omega) (by omega)) (by decide) (Nat.le_of_ble_eq_true rfl) (by decide) ?_
      exact pr_iret dX1_refusalToGive_77 rfl rfl (zret (by congr 1 <;> first | exact (bI_t (by omega)).symm | exact (bI_f (by omega)).symm | exact (bI_t ⟨b2, b19⟩).symm | exact (bI_f (fun z => b2 z.1)).symm | exact (bI_f (fun z => b19 z.2)).symm))
    · refine zr_iconst dX1_refusalToGive_45 ?_
      refine pr_goto (tgt := 50) dX1_refusalToGive_46 (by decide) ?_
      refine pr_istore dX1_refusalToGive_50 (by decide) rfl ?_
      refine pr_aload_n dX1_refusalToGive_52 rfl ?_
      refine pr_iload_n dX1_refusalToGive_53 rfl ?_
      refine pr_iload dX1_refusalToGive_54 rfl ?_
      refine zr_if_eq (tgt := 63) dX1_refusalToGive_56 (by decide) (by first | exact hR _ _ | omega) (fun c56 => ?_) (fun c56 => by exfalso; omega)
      refine zr_iconst dX1_refusalToGive_63 ?_
      refine pr_iload dX1_refusalToGive_64 rfl ?_
      refine zr_if_eq (tgt := 73) dX1_refusalToGive_66 (by decide) (by first | exact hR _ _ | omega) (fun c66 => by exfalso; omega) (fun c66 => ?_)
      refine zr_iconst dX1_refusalToGive_69 ?_
      refine pr_goto (tgt := 74) dX1_refusalToGive_70 (by decide) ?_
      refine zcv3i dX1_refusalToGive_74 pzm_1_107 pzt_X1_refusal (sH_1 hj) (kX1_refusal hj hX (by omega) (by omega) (by omega) (by omega)) (by decide) (Nat.le_of_ble_eq_true rfl) (by decide) ?_
      exact pr_iret dX1_refusalToGive_77 rfl rfl (zret (by congr 1 <;> first | exact (bI_t (by omega)).symm | exact (bI_f (by omega)).symm | exact (bI_t ⟨b2, b19⟩).symm | exact (bI_f (fun z => b2 z.1)).symm | exact (bI_f (fun z => b19 z.2)).symm))
  · have b2 := bI_ne c2
    refine pr_aload_n dX1_refusalToGive_5 rfl ?_
    refine pr_iload_n dX1_refusalToGive_6 rfl ?_
    refine zr_iconst dX1_refusalToGive_7 ?_
    refine zr_iadd dX1_refusalToGive_8 ?_
    refine pr_iload_n dX1_refusalToGive_9 rfl ?_
    refine pr_aload_n dX1_refusalToGive_10 rfl ?_
    refine pr_iload_n dX1_refusalToGive_11 rfl ?_
    refine pr_iload_n dX1_refusalToGive_12 rfl ?_
    refine zcv2i dX1_refusalToGive_13 pzm_1_58 pzt_X1_levelMeant (sH_1 hj) (kX1_levelMeant hj hX (by first | exact hR _ _ | omega) (by omega) (by omega)) (by decide) (Nat.le_of_ble_eq_true rfl) (by decide) ?_
    refine zcv3i dX1_refusalToGive_16 pzm_1_103 pzt_X1_needsHold (sH_1 hj) (kX1_needsHold hj hX (by omega) (by omega) (by omega) (by omega) (by first | exact xlv_R hR _ _ | exact xlm_R hR (by first | exact hR _ _ | omega) _ | exact xlw_R hR _ _ | exact hR _ _)) (by decide) (Nat.le_of_ble_eq_true rfl) (by decide) ?_
    refine zr_if_eq (tgt := 26) dX1_refusalToGive_19 (by decide) (bI_R _) (fun c19 => ?_) (fun c19 => ?_)
    · have b19 := bI_0 c19
      refine zr_iconst dX1_refusalToGive_26 ?_
      refine pr_istore dX1_refusalToGive_27 (by decide) rfl ?_
      refine pr_aload_n dX1_refusalToGive_29 rfl ?_
      refine pr_getf dX1_refusalToGive_30 pzf_1_11 (sH_1 hj) rfl ?_
      refine pr_iload_n dX1_refusalToGive_33 rfl ?_
      refine zr_crow hj dX1_refusalToGive_34 (by omega) (by omega) ?_
      refine pr_getf dX1_refusalToGive_35 pzf_1_55 (sH_C hj (by omega) (by omega)) rfl ?_
      refine pr_iload_n dX1_refusalToGive_38 rfl ?_
      refine zr_iald dX1_refusalToGive_39 (sH_C3 hj (by omega) (by omega)) (by omega) (by decide) ?_
      refine zr_bipush dX1_refusalToGive_40 (by decide) ?_
      refine zr_icmp_ne (tgt := 49) dX1_refusalToGive_42 (by decide) (by first | exact hR _ _ | omega) (by first | exact hR _ _ | omega) (fun c42 => ?_) (fun c42 => ?_)
      · refine zr_iconst dX1_refusalToGive_49 ?_
        refine pr_istore dX1_refusalToGive_50 (by decide) rfl ?_
        refine pr_aload_n dX1_refusalToGive_52 rfl ?_
        refine pr_iload_n dX1_refusalToGive_53 rfl ?_
        refine pr_iload dX1_refusalToGive_54 rfl ?_
        refine zr_if_eq (tgt := 63) dX1_refusalToGive_56 (by decide) (by first | exact hR _ _ | omega) (fun c56 => ?_) (fun c56 => by exfalso; omega)
        refine zr_iconst dX1_refusalToGive_63 ?_
        refine pr_iload dX1_refusalToGive_64 rfl ?_
        refine zr_if_eq (tgt := 73) dX1_refusalToGive_66 (by decide) (by first | exact hR _ _ | omega) (fun c66 => ?_) (fun c66 => by exfalso; omega)
        refine zr_iconst dX1_refusalToGive_73 ?_
        refine zcv3i dX1_refusalToGive_74 pzm_1_107 pzt_X1_refusal (sH_1 hj) (kX1_refusal hj hX (by omega) (by omega) (by omega) (by omega)) (by decide) (Nat.le_of_ble_eq_true rfl) (by decide) ?_
        exact pr_iret dX1_refusalToGive_77 rfl rfl (zret (by congr 1 <;> first | exact (bI_t (by omega)).symm | exact (bI_f (by omega)).symm | exact (bI_t ⟨b2, b19⟩).symm | exact (bI_f (fun z => b2 z.1)).symm | exact (bI_f (fun z => b19 z.2)).symm))
      · refine zr_iconst dX1_refusalToGive_45 ?_
        refine pr_goto (tgt := 50) dX1_refusalToGive_46 (by decide) ?_
        refine pr_istore dX1_refusalToGive_50 (by decide) rfl ?_
        refine pr_aload_n dX1_refusalToGive_52 rfl ?_
        refine pr_iload_n dX1_refusalToGive_53 rfl ?_
        refine pr_iload dX1_refusalToGive_54 rfl ?_
        refine zr_if_eq (tgt := 63) dX1_refusalToGive_56 (by decide) (by first | exact hR _ _ | omega) (fun c56 => ?_) (fun c56 => by exfalso; omega)
        refine zr_iconst dX1_refusalToGive_63 ?_
        refine pr_iload dX1_refusalToGive_64 rfl ?_
        refine zr_if_eq (tgt := 73) dX1_refusalToGive_66 (by decide) (by first | exact hR _ _ | omega) (fun c66 => by exfalso; omega) (fun c66 => ?_)
        refine zr_iconst dX1_refusalToGive_69 ?_
        refine pr_goto (tgt := 74) dX1_refusalToGive_70 (by decide) ?_
        refine zcv3i dX1_refusalToGive_74 pzm_1_107 pzt_X1_refusal (sH_1 hj) (kX1_refusal hj hX (by omega) (by omega) (by omega) (by omega)) (by decide) (Nat.le_of_ble_eq_true rfl) (by decide) ?_
        exact pr_iret dX1_refusalToGive_77 rfl rfl (zret (by congr 1 <;> first | exact (bI_t (by omega)).symm | exact (bI_f (by omega)).symm | exact (bI_t ⟨b2, b19⟩).symm | exact (bI_f (fun z => b2 z.1)).symm | exact (bI_f (fun z => b19 z.2)).symm))
    · have b19 := bI_ne c19
      refine zr_iconst dX1_refusalToGive_22 ?_
      refine pr_goto (tgt := 27) dX1_refusalToGive_23 (by decide) ?_
      refine pr_istore dX1_refusalToGive_27 (by decide) rfl ?_
      refine pr_aload_n dX1_refusalToGive_29 rfl ?_
      refine pr_getf dX1_refusalToGive_30 pzf_1_11 (sH_1 hj) rfl ?_
      refine pr_iload_n dX1_refusalToGive_33 rfl ?_
      refine zr_crow hj dX1_refusalToGive_34 (by omega) (by omega) ?_
      refine pr_getf dX1_refusalToGive_35 pzf_1_55 (sH_C hj (by omega) (by omega)) rfl ?_
      refine pr_iload_n dX1_refusalToGive_38 rfl ?_
      refine zr_iald dX1_refusalToGive_39 (sH_C3 hj (by omega) (by omega)) (by omega) (by decide) ?_
      refine zr_bipush dX1_refusalToGive_40 (by decide) ?_
      refine zr_icmp_ne (tgt := 49) dX1_refusalToGive_42 (by decide) (by first | exact hR _ _ | omega) (by first | exact hR _ _ | omega) (fun c42 => ?_) (fun c42 => ?_)
      · refine zr_iconst dX1_refusalToGive_49 ?_
        refine pr_istore dX1_refusalToGive_50 (by decide) rfl ?_
        refine pr_aload_n dX1_refusalToGive_52 rfl ?_
        refine pr_iload_n dX1_refusalToGive_53 rfl ?_
        refine pr_iload dX1_refusalToGive_54 rfl ?_
        refine zr_if_eq (tgt := 63) dX1_refusalToGive_56 (by decide) (by first | exact hR _ _ | omega) (fun c56 => by exfalso; omega) (fun c56 => ?_)
        refine zr_iconst dX1_refusalToGive_59 ?_
        refine pr_goto (tgt := 64) dX1_refusalToGive_60 (by decide) ?_
        refine pr_iload dX1_refusalToGive_64 rfl ?_
        refine zr_if_eq (tgt := 73) dX1_refusalToGive_66 (by decide) (by first | exact hR _ _ | omega) (fun c66 => ?_) (fun c66 => by exfalso; omega)
        refine zr_iconst dX1_refusalToGive_73 ?_
        refine zcv3i dX1_refusalToGive_74 pzm_1_107 pzt_X1_refusal (sH_1 hj) (kX1_refusal hj hX (by omega) (by omega) (by omega) (by omega)) (by decide) (Nat.le_of_ble_eq_true rfl) (by decide) ?_
        exact pr_iret dX1_refusalToGive_77 rfl rfl (zret (by congr 1 <;> first | exact (bI_t (by omega)).symm | exact (bI_f (by omega)).symm | exact (bI_t ⟨b2, b19⟩).symm | exact (bI_f (fun z => b2 z.1)).symm | exact (bI_f (fun z => b19 z.2)).symm))
      · refine zr_iconst dX1_refusalToGive_45 ?_
        refine pr_goto (tgt := 50) dX1_refusalToGive_46 (by decide) ?_
        refine pr_istore dX1_refusalToGive_50 (by decide) rfl ?_
        refine pr_aload_n dX1_refusalToGive_52 rfl ?_
        refine pr_iload_n dX1_refusalToGive_53 rfl ?_
        refine pr_iload dX1_refusalToGive_54 rfl ?_
        refine zr_if_eq (tgt := 63) dX1_refusalToGive_56 (by decide) (by first | exact hR _ _ | omega) (fun c56 => by exfalso; omega) (fun c56 => ?_)
        refine zr_iconst dX1_refusalToGive_59 ?_
        refine pr_goto (tgt := 64) dX1_refusalToGive_60 (by decide) ?_
        refine pr_iload dX1_refusalToGive_64 rfl ?_
        refine zr_if_eq (tgt := 73) dX1_refusalToGive_66 (by decide) (by first | exact hR _ _ | omega) (fun c66 => by exfalso; omega) (fun c66 => ?_)
        refine zr_iconst dX1_refusalToGive_69 ?_
        refine pr_goto (tgt := 74) dX1_refusalToGive_70 (by decide) ?_
        refine zcv3i dX1_refusalToGive_74 pzm_1_107 pzt_X1_refusal (sH_1 hj) (kX1_refusal hj hX (by omega) (by omega) (by omega) (by omega)) (by decide) (Nat.le_of_ble_eq_true rfl) (by decide) ?_
        exact pr_iret dX1_refusalToGive_77 rfl rfl (zret (by congr 1 <;> first | exact (bI_t (by omega)).symm | exact (bI_f (by omega)).symm | exact (bI_t ⟨b2, b19⟩).symm | exact (bI_f (fun z => b2 z.1)).symm | exact (bI_f (fun z => b19 z.2)).symm))
def xrT (X : Int → Int → Int) (i c : Int) (hd : Prop) [Decidable hd] : Int := if ¬ xrf X i (bI (hd ∧ xnh X (i + 1) c (xlw X i c))) (if X (7 + 5 * i + 3) c = -2 then 0 else -1) = 0 then xrf X i (bI (hd ∧ xnh X (i + 1) c (xlw X i c))) (if X (7 + 5 * i + 3) c = -2 then 0 else -1) else if X (7 + 5 * i + 3) c = -2 then 3 else 0
theorem xrf_R {X : Int → Int → Int} (i ho cg : Int) : 0 ≤ xrf X i ho cg ∧ xrf X i ho cg ≤ 2 := by
  unfold xrf
  split
  · decide
  · split
    · decide
    · split <;> decide
set_option maxRecDepth 100000 in
set_option maxHeartbeats 4000000 in
theorem kX1_refusalToTake (hj : sj a) (hX : xB X)  {i c : Int} (i1 : 0 ≤ i) (i2 : i < 12) (c1 : 0 ≤ c) (c2 : c ≤ 11) {hd : Prop} [dd : Decidable hd] : pz_Cd en 5 20 [.ref (a 1), .int (zI i), .int (zI c), .int (zI (bI hd))] (sH h a (sq a) X) 0 0 (pz_ret (some (.int (zI (xrT X i c hd)))) (sH h a (sq a) X)) := by
  refine pz_in pzt_X1_refusalToTake ?_
  obtain ⟨hR, hn0, hn1, hm0, hm1⟩ := id hX
  refine pr_aload_n dX1_refusalToTake_0 rfl ?_
  refine pr_getf dX1_refusalToTake_1 pzf_1_11 (sH_1 hj) rfl ?_
  refine pr_iload_n dX1_refusalToTake_4 rfl ?_
  refine zr_crow hj dX1_refusalToTake_5 (by omega) (by omega) ?_
  refine pr_getf dX1_refusalToTake_6 pzf_1_55 (sH_C hj (by omega) (by omega)) rfl ?_
  refine pr_iload_n dX1_refusalToTake_9 rfl ?_
  refine zr_iald dX1_refusalToTake_10 (sH_C3 hj (by omega) (by omega)) (by omega) (by decide) ?_
  refine zr_bipush dX1_refusalToTake_11 (by decide) ?_
  refine zr_icmp_eq (tgt := 20) dX1_refusalToTake_13 (by decide) (by first | exact hR _ _ | omega) (by first | exact hR _ _ | omega) (fun c13 => ?_) (fun c13 => ?_)
  · have e4 : (if X (7 + 5 * i + 3) c = -2 then (0 : Int) else -1) = 0 := if_pos c13
    refine zr_iconst dX1_refusalToTake_20 ?_
    refine pr_istore dX1_refusalToTake_21 (by decide) rfl ?_
    refine pr_aload_n dX1_refusalToTake_23 rfl ?_
    refine pr_iload_n dX1_refusalToTake_24 rfl ?_
    refine pr_iload_n dX1_refusalToTake_25 rfl ?_
    refine zcv2i dX1_refusalToTake_26 pzm_1_111 pzt_X1_levelWithoutInstruction (sH_1 hj) (kX1_levelWithoutInstruction hj hX (by omega) (by omega) (by omega) (by omega)) (by decide) (Nat.le_of_ble_eq_true rfl) (by decide) ?_
    refine pr_istore dX1_refusalToTake_29 (by decide) rfl ?_
    refine pr_iload_n dX1_refusalToTake_31 rfl ?_
    refine zr_if_eq (tgt := 52) dX1_refusalToTake_32 (by decide) (bI_R _) (fun c32 => ?_) (fun c32 => ?_)
    · have b32 := bI_0 c32
      have e6 : bI (hd ∧ xnh X (i + 1) c (xlw X i c)) = 0 := bI_f (fun z => b32 z.1)
      refine zr_iconst dX1_refusalToTake_52 ?_
      refine pr_istore dX1_refusalToTake_53 (by decide) rfl ?_
      refine pr_aload_n dX1_refusalToTake_55 rfl ?_
      refine pr_iload_n dX1_refusalToTake_56 rfl ?_
      refine pr_iload dX1_refusalToTake_57 rfl ?_
      refine zr_if_eq (tgt := 66) dX1_refusalToTake_59 (by decide) (by first | exact hR _ _ | omega) (fun c59 => ?_) (fun c59 => by exfalso; omega)
      refine zr_iconst dX1_refusalToTake_66 ?_
      refine pr_iload dX1_refusalToTake_67 rfl ?_
      refine zr_if_eq (tgt := 76) dX1_refusalToTake_69 (by decide) (by first | exact hR _ _ | omega) (fun c69 => ?_) (fun c69 => by exfalso; omega)
      refine zr_iconst dX1_refusalToTake_76 ?_
      refine zcv3i dX1_refusalToTake_77 pzm_1_107 pzt_X1_refusal (sH_1 hj) (kX1_refusal hj hX (by omega) (by omega) (by omega) (by omega)) (by decide) (Nat.le_of_ble_eq_true rfl) (by decide) ?_
      refine pr_istore dX1_refusalToTake_80 (by decide) rfl ?_
      refine pr_iload dX1_refusalToTake_82 rfl ?_
      refine zr_if_eq (tgt := 90) dX1_refusalToTake_84 (by decide) (by have hz := xrf_R (X := X) i 0 0; have hz := xrf_R (X := X) i 1 0; have hz := xrf_R (X := X) i 0 (-1); have hz := xrf_R (X := X) i 1 (-1); omega) (fun c84 => ?_) (fun c84 => ?_)
      · refine pr_iload dX1_refusalToTake_90 rfl ?_
        refine zr_if_eq (tgt := 99) dX1_refusalToTake_92 (by decide) (by first | exact hR _ _ | omega) (fun c92 => ?_) (fun c92 => by exfalso; omega)
        refine zr_iconst dX1_refusalToTake_99 ?_
        exact pr_iret dX1_refusalToTake_100 rfl rfl (zret (by
      unfold xrT
      rw [e4, e6]
      first | rw [if_pos c84] | (rw [if_neg (fun z => z c84)]; first | rw [if_pos c13] | rw [if_neg c13])))
      · refine pr_iload dX1_refusalToTake_87 rfl ?_
        exact pr_iret dX1_refusalToTake_89 rfl rfl (zret (by
      unfold xrT
      rw [e4, e6]
      first | rw [if_pos c84] | (rw [if_neg (fun z => z c84)]; first | rw [if_pos c13] | rw [if_neg c13])))
    · have b32 := bI_ne c32
      refine pr_aload_n dX1_refusalToTake_35 rfl ?_
      refine pr_iload_n dX1_refusalToTake_36 rfl ?_
      refine zr_iconst dX1_refusalToTake_37 ?_
      refine zr_iadd dX1_refusalToTake_38 ?_
      refine pr_iload_n dX1_refusalToTake_39 rfl ?_
      refine pr_iload dX1_refusalToTake_40 rfl ?_
      refine zcv3i dX1_refusalToTake_42 pzm_1_103 pzt_X1_needsHold (sH_1 hj) (kX1_needsHold hj hX (by omega) (by omega) (by omega) (by omega) (by first | exact xlv_R hR _ _ | exact xlm_R hR (by first | exact hR _ _ | omega) _ | exact xlw_R hR _ _ | exact hR _ _)) (by decide) (Nat.le_of_ble_eq_true rfl) (by decide) ?_
      refine zr_if_eq (tgt := 52) dX1_refusalToTake_45 (by decide) (bI_R _) (fun c45 => ?_) (fun c45 => ?_)
      · have b45 := bI_0 c45
        have e6 : bI (hd ∧ xnh X (i + 1) c (xlw X i c)) = 0 := bI_f (fun z => b45 z.2)
        refine zr_iconst dX1_refusalToTake_52 ?_
        refine pr_istore dX1_refusalToTake_53 (by decide) rfl ?_
        refine pr_aload_n dX1_refusalToTake_55 rfl ?_
        refine pr_iload_n dX1_refusalToTake_56 rfl ?_
        refine pr_iload dX1_refusalToTake_57 rfl ?_
        refine zr_if_eq (tgt := 66) dX1_refusalToTake_59 (by decide) (by first | exact hR _ _ | omega) (fun c59 => ?_) (fun c59 => by exfalso; omega)
        refine zr_iconst dX1_refusalToTake_66 ?_
        refine pr_iload dX1_refusalToTake_67 rfl ?_
        refine zr_if_eq (tgt := 76) dX1_refusalToTake_69 (by decide) (by first | exact hR _ _ | omega) (fun c69 => ?_) (fun c69 => by exfalso; omega)
        refine zr_iconst dX1_refusalToTake_76 ?_
        refine zcv3i dX1_refusalToTake_77 pzm_1_107 pzt_X1_refusal (sH_1 hj) (kX1_refusal hj hX (by omega) (by omega) (by omega) (by omega)) (by decide) (Nat.le_of_ble_eq_true rfl) (by decide) ?_
        refine pr_istore dX1_refusalToTake_80 (by decide) rfl ?_
        refine pr_iload dX1_refusalToTake_82 rfl ?_
        refine zr_if_eq (tgt := 90) dX1_refusalToTake_84 (by decide) (by have hz := xrf_R (X := X) i 0 0; have hz := xrf_R (X := X) i 1 0; have hz := xrf_R (X := X) i 0 (-1); have hz := xrf_R (X := X) i 1 (-1); omega) (fun c84 => ?_) (fun c84 => ?_)
        · refine pr_iload dX1_refusalToTake_90 rfl ?_
          refine zr_if_eq (tgt := 99) dX1_refusalToTake_92 (by decide) (by first | exact hR _ _ | omega) (fun c92 => ?_) (fun c92 => by exfalso; omega)
          refine zr_iconst dX1_refusalToTake_99 ?_
          exact pr_iret dX1_refusalToTake_100 rfl rfl (zret (by
      unfold xrT
      rw [e4, e6]
      first | rw [if_pos c84] | (rw [if_neg (fun z => z c84)]; first | rw [if_pos c13] | rw [if_neg c13])))
        · refine pr_iload dX1_refusalToTake_87 rfl ?_
          exact pr_iret dX1_refusalToTake_89 rfl rfl (zret (by
      unfold xrT
      rw [e4, e6]
      first | rw [if_pos c84] | (rw [if_neg (fun z => z c84)]; first | rw [if_pos c13] | rw [if_neg c13])))
      · have b45 := bI_ne c45
        have e6 : bI (hd ∧ xnh X (i + 1) c (xlw X i c)) = 1 := bI_t ⟨b32, b45⟩
        refine zr_iconst dX1_refusalToTake_48 ?_
        refine pr_goto (tgt := 53) dX1_refusalToTake_49 (by decide) ?_
        refine pr_istore dX1_refusalToTake_53 (by decide) rfl ?_
        refine pr_aload_n dX1_refusalToTake_55 rfl ?_
        refine pr_iload_n dX1_refusalToTake_56 rfl ?_
        refine pr_iload dX1_refusalToTake_57 rfl ?_
        refine zr_if_eq (tgt := 66) dX1_refusalToTake_59 (by decide) (by first | exact hR _ _ | omega) (fun c59 => by exfalso; omega) (fun c59 => ?_)
        refine zr_iconst dX1_refusalToTake_62 ?_
        refine pr_goto (tgt := 67) dX1_refusalToTake_63 (by decide) ?_
        refine pr_iload dX1_refusalToTake_67 rfl ?_
        refine zr_if_eq (tgt := 76) dX1_refusalToTake_69 (by decide) (by first | exact hR _ _ | omega) (fun c69 => ?_) (fun c69 => by exfalso; omega)
        refine zr_iconst dX1_refusalToTake_76 ?_
        refine zcv3i dX1_refusalToTake_77 pzm_1_107 pzt_X1_refusal (sH_1 hj) (kX1_refusal hj hX (by omega) (by omega) (by omega) (by omega)) (by decide) (Nat.le_of_ble_eq_true rfl) (by decide) ?_
        refine pr_istore dX1_refusalToTake_80 (by decide) rfl ?_
        refine pr_iload dX1_refusalToTake_82 rfl ?_
        refine zr_if_eq (tgt := 90) dX1_refusalToTake_84 (by decide) (by have hz := xrf_R (X := X) i 0 0; have hz := xrf_R (X := X) i 1 0; have hz := xrf_R (X := X) i 0 (-1); have hz := xrf_R (X := X) i 1 (-1); omega) (fun c84 => ?_) (fun c84 => ?_)
        · refine pr_iload dX1_refusalToTake_90 rfl ?_
          refine zr_if_eq (tgt := 99) dX1_refusalToTake_92 (by decide) (by first | exact hR _ _ | omega) (fun c92 => ?_) (fun c92 => by exfalso; omega)
          refine zr_iconst dX1_refusalToTake_99 ?_
          exact pr_iret dX1_refusalToTake_100 rfl rfl (zret (by
      unfold xrT
      rw [e4, e6]
      first | rw [if_pos c84] | (rw [if_neg (fun z => z c84)]; first | rw [if_pos c13] | rw [if_neg c13])))
        · refine pr_iload dX1_refusalToTake_87 rfl ?_
          exact pr_iret dX1_refusalToTake_89 rfl rfl (zret (by
      unfold xrT
      rw [e4, e6]
      first | rw [if_pos c84] | (rw [if_neg (fun z => z c84)]; first | rw [if_pos c13] | rw [if_neg c13])))
  · have e4 : (if X (7 + 5 * i + 3) c = -2 then (0 : Int) else -1) = -1 := if_neg c13
    refine zr_iconst dX1_refusalToTake_16 ?_
    refine pr_goto (tgt := 21) dX1_refusalToTake_17 (by decide) ?_
    refine pr_istore dX1_refusalToTake_21 (by decide) rfl ?_
    refine pr_aload_n dX1_refusalToTake_23 rfl ?_
    refine pr_iload_n dX1_refusalToTake_24 rfl ?_
    refine pr_iload_n dX1_refusalToTake_25 rfl ?_
    refine zcv2i dX1_refusalToTake_26 pzm_1_111 pzt_X1_levelWithoutInstruction (sH_1 hj) (kX1_levelWithoutInstruction hj hX (by omega) (by omega) (by omega) (by omega)) (by decide) (Nat.le_of_ble_eq_true rfl) (by decide) ?_
    refine pr_istore dX1_refusalToTake_29 (by decide) rfl ?_
    refine pr_iload_n dX1_refusalToTake_31 rfl ?_
    refine zr_if_eq (tgt := 52) dX1_refusalToTake_32 (by decide) (bI_R _) (fun c32 => ?_) (fun c32 => ?_)
    · have b32 := bI_0 c32
      have e6 : bI (hd ∧ xnh X (i + 1) c (xlw X i c)) = 0 := bI_f (fun z => b32 z.1)
      refine zr_iconst dX1_refusalToTake_52 ?_
      refine pr_istore dX1_refusalToTake_53 (by decide) rfl ?_
      refine pr_aload_n dX1_refusalToTake_55 rfl ?_
      refine pr_iload_n dX1_refusalToTake_56 rfl ?_
      refine pr_iload dX1_refusalToTake_57 rfl ?_
      refine zr_if_eq (tgt := 66) dX1_refusalToTake_59 (by decide) (by first | exact hR _ _ | omega) (fun c59 => ?_) (fun c59 => by exfalso; omega)
      refine zr_iconst dX1_refusalToTake_66 ?_
      refine pr_iload dX1_refusalToTake_67 rfl ?_
      refine zr_if_eq (tgt := 76) dX1_refusalToTake_69 (by decide) (by first | exact hR _ _ | omega) (fun c69 => by exfalso; omega) (fun c69 => ?_)
      refine zr_iconst dX1_refusalToTake_72 ?_
      refine pr_goto (tgt := 77) dX1_refusalToTake_73 (by decide) ?_
      refine zcv3i dX1_refusalToTake_77 pzm_1_107 pzt_X1_refusal (sH_1 hj) (kX1_refusal hj hX (by omega) (by omega) (by omega) (by omega)) (by decide) (Nat.le_of_ble_eq_true rfl) (by decide) ?_
      refine pr_istore dX1_refusalToTake_80 (by decide) rfl ?_
      refine pr_iload dX1_refusalToTake_82 rfl ?_
      refine zr_if_eq (tgt := 90) dX1_refusalToTake_84 (by decide) (by have hz := xrf_R (X := X) i 0 0; have hz := xrf_R (X := X) i 1 0; have hz := xrf_R (X := X) i 0 (-1); have hz := xrf_R (X := X) i 1 (-1); omega) (fun c84 => ?_) (fun c84 => ?_)
      · refine pr_iload dX1_refusalToTake_90 rfl ?_
        refine zr_if_eq (tgt := 99) dX1_refusalToTake_92 (by decide) (by first | exact hR _ _ | omega) (fun c92 => by exfalso; omega) (fun c92 => ?_)
        refine zr_iconst dX1_refusalToTake_95 ?_
        refine pr_goto (tgt := 100) dX1_refusalToTake_96 (by decide) ?_
        exact pr_iret dX1_refusalToTake_100 rfl rfl (zret (by
      unfold xrT
      rw [e4, e6]
      first | rw [if_pos c84] | (rw [if_neg (fun z => z c84)]; first | rw [if_pos c13] | rw [if_neg c13])))
      · refine pr_iload dX1_refusalToTake_87 rfl ?_
        exact pr_iret dX1_refusalToTake_89 rfl rfl (zret (by
      unfold xrT
      rw [e4, e6]
      first | rw [if_pos c84] | (rw [if_neg (fun z => z c84)]; first | rw [if_pos c13] | rw [if_neg c13])))
    · have b32 := bI_ne c32
      refine pr_aload_n dX1_refusalToTake_35 rfl ?_
      refine pr_iload_n dX1_refusalToTake_36 rfl ?_
      refine zr_iconst dX1_refusalToTake_37 ?_
      refine zr_iadd dX1_refusalToTake_38 ?_
      refine pr_iload_n dX1_refusalToTake_39 rfl ?_
      refine pr_iload dX1_refusalToTake_40 rfl ?_
      refine zcv3i dX1_refusalToTake_42 pzm_1_103 pzt_X1_needsHold (sH_1 hj) (kX1_needsHold hj hX (by omega) (by omega) (by omega) (by omega) (by first | exact xlv_R hR _ _ | exact xlm_R hR (by first | exact hR _ _ | omega) _ | exact xlw_R hR _ _ | exact hR _ _)) (by decide) (Nat.le_of_ble_eq_true rfl) (by decide) ?_
      refine zr_if_eq (tgt := 52) dX1_refusalToTake_45 (by decide) (bI_R _) (fun c45 => ?_) (fun c45 => ?_)
      · have b45 := bI_0 c45
        have e6 : bI (hd ∧ xnh X (i + 1) c (xlw X i c)) = 0 := bI_f (fun z => b45 z.2)
        refine zr_iconst dX1_refusalToTake_52 ?_
        refine pr_istore dX1_refusalToTake_53 (by decide) rfl ?_
        refine pr_aload_n dX1_refusalToTake_55 rfl ?_
        refine pr_iload_n dX1_refusalToTake_56 rfl ?_
        refine pr_iload dX1_refusalToTake_57 rfl ?_
        refine zr_if_eq (tgt := 66) dX1_refusalToTake_59 (by decide) (by first | exact hR _ _ | omega) (fun c59 => ?_) (fun c59 => by exfalso; omega)
        refine zr_iconst dX1_refusalToTake_66 ?_
        refine pr_iload dX1_refusalToTake_67 rfl ?_
        refine zr_if_eq (tgt := 76) dX1_refusalToTake_69 (by decide) (by first | exact hR _ _ | omega) (fun c69 => by exfalso; omega) (fun c69 => ?_)
        refine zr_iconst dX1_refusalToTake_72 ?_
        refine pr_goto (tgt := 77) dX1_refusalToTake_73 (by decide) ?_
        refine zcv3i dX1_refusalToTake_77 pzm_1_107 pzt_X1_refusal (sH_1 hj) (kX1_refusal hj hX (by omega) (by omega) (by omega) (by omega)) (by decide) (Nat.le_of_ble_eq_true rfl) (by decide) ?_
        refine pr_istore dX1_refusalToTake_80 (by decide) rfl ?_
        refine pr_iload dX1_refusalToTake_82 rfl ?_
        refine zr_if_eq (tgt := 90) dX1_refusalToTake_84 (by decide) (by have hz := xrf_R (X := X) i 0 0; have hz := xrf_R (X := X) i 1 0; have hz := xrf_R (X := X) i 0 (-1); have hz := xrf_R (X := X) i 1 (-1); omega) (fun c84 => ?_) (fun c84 => ?_)
        · refine pr_iload dX1_refusalToTake_90 rfl ?_
          refine zr_if_eq (tgt := 99) dX1_refusalToTake_92 (by decide) (by first | exact hR _ _ | omega) (fun c92 => by exfalso; omega) (fun c92 => ?_)
          refine zr_iconst dX1_refusalToTake_95 ?_
          refine pr_goto (tgt := 100) dX1_refusalToTake_96 (by decide) ?_
          exact pr_iret dX1_refusalToTake_100 rfl rfl (zret (by
      unfold xrT
      rw [e4, e6]
      first | rw [if_pos c84] | (rw [if_neg (fun z => z c84)]; first | rw [if_pos c13] | rw [if_neg c13])))
        · refine pr_iload dX1_refusalToTake_87 rfl ?_
          exact pr_iret dX1_refusalToTake_89 rfl rfl (zret (by
      unfold xrT
      rw [e4, e6]
      first | rw [if_pos c84] | (rw [if_neg (fun z => z c84)]; first | rw [if_pos c13] | rw [if_neg c13])))
      · have b45 := bI_ne c45
        have e6 : bI (hd ∧ xnh X (i + 1) c (xlw X i c)) = 1 := bI_t ⟨b32, b45⟩
        refine zr_iconst dX1_refusalToTake_48 ?_
        refine pr_goto (tgt := 53) dX1_refusalToTake_49 (by decide) ?_
        refine pr_istore dX1_refusalToTake_53 (by decide) rfl ?_
        refine pr_aload_n dX1_refusalToTake_55 rfl ?_
        refine pr_iload_n dX1_refusalToTake_56 rfl ?_
        refine pr_iload dX1_refusalToTake_57 rfl ?_
        refine zr_if_eq (tgt := 66) dX1_refusalToTake_59 (by decide) (by first | exact hR _ _ | omega) (fun c59 => by exfalso; omega) (fun c59 => ?_)
        refine zr_iconst dX1_refusalToTake_62 ?_
        refine pr_goto (tgt := 67) dX1_refusalToTake_63 (by decide) ?_
        refine pr_iload dX1_refusalToTake_67 rfl ?_
        refine zr_if_eq (tgt := 76) dX1_refusalToTake_69 (by decide) (by first | exact hR _ _ | omega) (fun c69 => by exfalso; omega) (fun c69 => ?_)
        refine zr_iconst dX1_refusalToTake_72 ?_
        refine pr_goto (tgt := 77) dX1_refusalToTake_73 (by decide) ?_
        refine zcv3i dX1_refusalToTake_77 pzm_1_107 pzt_X1_refusal (sH_1 hj) (kX1_refusal hj hX (by omega) (by omega) (by omega) (by omega)) (by decide) (Nat.le_of_ble_eq_true rfl) (by decide) ?_
        refine pr_istore dX1_refusalToTake_80 (by decide) rfl ?_
        refine pr_iload dX1_refusalToTake_82 rfl ?_
        refine zr_if_eq (tgt := 90) dX1_refusalToTake_84 (by decide) (by have hz := xrf_R (X := X) i 0 0; have hz := xrf_R (X := X) i 1 0; have hz := xrf_R (X := X) i 0 (-1); have hz := xrf_R (X := X) i 1 (-1); omega) (fun c84 => ?_) (fun c84 => ?_)
        · refine pr_iload dX1_refusalToTake_90 rfl ?_
          refine zr_if_eq (tgt := 99) dX1_refusalToTake_92 (by decide) (by first | exact hR _ _ | omega) (fun c92 => by exfalso; omega) (fun c92 => ?_)
          refine zr_iconst dX1_refusalToTake_95 ?_
          refine pr_goto (tgt := 100) dX1_refusalToTake_96 (by decide) ?_
          exact pr_iret dX1_refusalToTake_100 rfl rfl (zret (by
      unfold xrT
      rw [e4, e6]
      first | rw [if_pos c84] | (rw [if_neg (fun z => z c84)]; first | rw [if_pos c13] | rw [if_neg c13])))
        · refine pr_iload dX1_refusalToTake_87 rfl ?_
          exact pr_iret dX1_refusalToTake_89 rfl rfl (zret (by
      unfold xrT
      rw [e4, e6]
      first | rw [if_pos c84] | (rw [if_neg (fun z => z c84)]; first | rw [if_pos c13] | rw [if_neg c13])))
def xhs (X : Int → Int → Int) (i : Int) (hd : Prop) [Decidable hd] (n : Nat) : Int := zsum (fun c => bI (hd ∧ xnh X (i + 1) c (xlv X (i - 1) c))) n
theorem xhs_s {X : Int → Int → Int} {i k : Int} {hd : Prop} [Decidable hd] (h : 0 ≤ k) : xhs X i hd (k + 1).toNat = xhs X i hd k.toNat + bI (hd ∧ xnh X (i + 1) k (xlv X (i - 1) k)) := zsum_s h
theorem xhs_R {X : Int → Int → Int} (i : Int) (hd : Prop) [Decidable hd] (n : Nat) : 0 ≤ xhs X i hd n ∧ xhs X i hd n ≤ n := by
  have := zsum_b (f := fun c => bI (hd ∧ xnh X (i + 1) c (xlv X (i - 1) c))) (B := 1) (fun k _ => by rcases bI_01 (hd ∧ xnh X (i + 1) k (xlv X (i - 1) k)) with e | e <;> rw [e] <;> decide) n
  unfold xhs
  omega
theorem xic_R (X : Int → Int → Int) (k : Int) : 0 ≤ xic X k ∧ xic X k ≤ 12 := by
  have := zsum_b (f := fun c => bI (¬ X (7 + 5 * k + 3) c = -2)) (B := 1) (fun c _ => by rcases bI_01 (¬ X (7 + 5 * k + 3) c = -2) with e | e <;> rw [e] <;> decide) 12
  unfold xic
  omega
set_option maxRecDepth 100000 in
set_option maxHeartbeats 4000000 in
theorem kX1_refusalToDrop (hj : sj a) (hX : xB X)  {i : Int} (i1 : 0 ≤ i) (i2 : i < 12) {hd : Prop} [dd : Decidable hd] : pz_Cd en 4 21 [.ref (a 1), .int (zI i), .int (zI (bI hd))] (sH h a (sq a) X) 0 0 (pz_ret (some (.int (zI (xrf X i (xhs X i hd 12) (-(xic X i)))))) (sH h a (sq a) X)) := by
  refine pz_in pzt_X1_refusalToDrop ?_
  obtain ⟨hR, hn0, hn1, hm0, hm1⟩ := id hX
  have loop : pz_WP 4 en (pz_Cd en (4 - 1)) 1 cX1_refusalToDrop 5 (some .int) [] false (pz_ret (some (.int (zI (xrf X i (xhs X i hd 12) (-(xic X i)))))) (sH h a (sq a) X)) 5 [some (.ref (a 1)), some (.int (zI i)), some (.int (zI (bI hd))), some (.int (zI (xhs X i hd (0 : Int).toNat))), some (.int (zI 0))] [] (sH h a (sq a) X) 0 0 := by
    refine zup (P := fun k => pz_WP 4 en (pz_Cd en (4 - 1)) 1 cX1_refusalToDrop 5 (some .int) [] false (pz_ret (some (.int (zI (xrf X i (xhs X i hd 12) (-(xic X i)))))) (sH h a (sq a) X)) 5 [some (.ref (a 1)), some (.int (zI i)), some (.int (zI (bI hd))), some (.int (zI (xhs X i hd (k : Int).toNat))), some (.int (zI k))] [] (sH h a (sq a) X) 0 0) (lo := 0) (hi := 12) (by decide) ?_ ?_
    · have z1 := xhs_R (X := X) i hd (12 : Int).toNat
      have z2 := xic_R X i
      have z3 : (12 : Int).toNat = 12 := rfl
      refine pr_iload dX1_refusalToDrop_5 rfl ?_
      refine zr_bipush dX1_refusalToDrop_7 (by decide) ?_
      refine zr_icmp_ge (tgt := 44) dX1_refusalToDrop_9 (by decide) (by first | exact hR _ _ | omega) (by first | exact hR _ _ | omega) (fun c9 => ?_) (fun c9 => by exfalso; omega)
      refine pr_aload_n dX1_refusalToDrop_44 rfl ?_
      refine pr_iload_n dX1_refusalToDrop_45 rfl ?_
      refine pr_iload_n dX1_refusalToDrop_46 rfl ?_
      refine pr_aload_n dX1_refusalToDrop_47 rfl ?_
      refine pr_getf dX1_refusalToDrop_48 pzf_1_11 (sH_1 hj) rfl ?_
      refine pr_iload_n dX1_refusalToDrop_51 rfl ?_
      refine zr_crow hj dX1_refusalToDrop_52 (by omega) (by omega) ?_
      refine zcv0i dX1_refusalToDrop_53 pzm_1_114 pzt_X0_instructionCount (sH_C hj (by omega) (by omega)) (kX0_instructionCount hj hX (by omega) (by omega)) (by decide) (Nat.le_of_ble_eq_true rfl) (by decide) ?_
      refine zr_ineg dX1_refusalToDrop_56 ?_
      refine zcv3i dX1_refusalToDrop_57 pzm_1_107 pzt_X1_refusal (sH_1 hj) (kX1_refusal hj hX (by omega) (by omega) (by omega) (by omega)) (by decide) (Nat.le_of_ble_eq_true rfl) (by decide) ?_
      exact pr_iret dX1_refusalToDrop_60 rfl rfl (zret (by rfl))
    · intro k hk1 hk2 ih
      rw [xhs_s hk1] at ih
      refine pr_iload dX1_refusalToDrop_5 rfl ?_
      refine zr_bipush dX1_refusalToDrop_7 (by decide) ?_
      refine zr_icmp_ge (tgt := 44) dX1_refusalToDrop_9 (by decide) (by first | exact hR _ _ | omega) (by first | exact hR _ _ | omega) (fun c9 => by exfalso; omega) (fun c9 => ?_)
      refine pr_iload_n dX1_refusalToDrop_12 rfl ?_
      refine zr_if_eq (tgt := 38) dX1_refusalToDrop_13 (by decide) (bI_R _) (fun c13 => ?_) (fun c13 => ?_)
      · have b13 := bI_0 c13
        rw [show bI (hd ∧ xnh X (i + 1) k (xlv X (i - 1) k)) = 0 from bI_f (fun z => b13 z.1), Int.add_zero] at ih
        refine zr_iinc dX1_refusalToDrop_38 rfl (by decide) rfl ?_
        refine pr_goto (tgt := 5) dX1_refusalToDrop_41 (by decide) ?_
        exact ih
      · have b13 := bI_ne c13
        refine pr_aload_n dX1_refusalToDrop_16 rfl ?_
        refine pr_iload_n dX1_refusalToDrop_17 rfl ?_
        refine zr_iconst dX1_refusalToDrop_18 ?_
        refine zr_iadd dX1_refusalToDrop_19 ?_
        refine pr_iload dX1_refusalToDrop_20 rfl ?_
        refine pr_aload_n dX1_refusalToDrop_22 rfl ?_
        refine pr_iload_n dX1_refusalToDrop_23 rfl ?_
        refine pr_iload dX1_refusalToDrop_24 rfl ?_
        refine zcv2i dX1_refusalToDrop_26 pzm_1_69 pzt_X1_levelBefore (sH_1 hj) (kX1_levelBefore hj hX (by omega) (by omega) (by omega) (by omega)) (by decide) (Nat.le_of_ble_eq_true rfl) (by decide) ?_
        refine zcv3i dX1_refusalToDrop_29 pzm_1_103 pzt_X1_needsHold (sH_1 hj) (kX1_needsHold hj hX (by omega) (by omega) (by omega) (by omega) (by first | exact xlv_R hR _ _ | exact xlm_R hR (by first | exact hR _ _ | omega) _ | exact xlw_R hR _ _ | exact hR _ _)) (by decide) (Nat.le_of_ble_eq_true rfl) (by decide) ?_
        refine zr_if_eq (tgt := 38) dX1_refusalToDrop_32 (by decide) (bI_R _) (fun c32 => ?_) (fun c32 => ?_)
        · have b32 := bI_0 c32
          rw [show bI (hd ∧ xnh X (i + 1) k (xlv X (i - 1) k)) = 0 from bI_f (fun z => b32 z.2), Int.add_zero] at ih
          refine zr_iinc dX1_refusalToDrop_38 rfl (by decide) rfl ?_
          refine pr_goto (tgt := 5) dX1_refusalToDrop_41 (by decide) ?_
          exact ih
        · have b32 := bI_ne c32
          rw [show bI (hd ∧ xnh X (i + 1) k (xlv X (i - 1) k)) = 1 from bI_t ⟨b13, b32⟩] at ih
          refine zr_iinc dX1_refusalToDrop_35 rfl (by decide) rfl ?_
          refine zr_iinc dX1_refusalToDrop_38 rfl (by decide) rfl ?_
          refine pr_goto (tgt := 5) dX1_refusalToDrop_41 (by decide) ?_
          exact ih
  refine zr_iconst dX1_refusalToDrop_0 ?_
  refine pr_istore_n dX1_refusalToDrop_1 (by decide) rfl ?_
  refine zr_iconst dX1_refusalToDrop_2 ?_
  refine pr_istore dX1_refusalToDrop_3 (by decide) rfl ?_
  exact loop
set_option maxRecDepth 100000 in
set_option maxHeartbeats 4000000 in
theorem kX1_protectedCount (hj : sj a) (hX : xB X)  : pz_Cd en 1 31 [.ref (a 1)] (sH h a (sq a) X) 0 0 (pz_ret (some (.int (zI (zsum (fun k => bI (¬ X (7 + 5 * k) 3 = 0)) (X 1 1).toNat)))) (sH h a (sq a) X)) := by
  refine pz_in pzt_X1_protectedCount ?_
  obtain ⟨hR, hn0, hn1, hm0, hm1⟩ := id hX
  have loop : pz_WP 1 en (pz_Cd en (1 - 1)) 1 cX1_protectedCount 3 (some .int) [] false (pz_ret (some (.int (zI (zsum (fun k => bI (¬ X (7 + 5 * k) 3 = 0)) (X 1 1).toNat)))) (sH h a (sq a) X)) 4 [some (.ref (a 1)), some (.int (zI (zsum (fun k => bI (¬ X (7 + 5 * k) 3 = 0)) (0 : Int).toNat))), some (.int (zI 0))] [] (sH h a (sq a) X) 0 0 := by
    refine zup (P := fun k => pz_WP 1 en (pz_Cd en (1 - 1)) 1 cX1_protectedCount 3 (some .int) [] false (pz_ret (some (.int (zI (zsum (fun k => bI (¬ X (7 + 5 * k) 3 = 0)) (X 1 1).toNat)))) (sH h a (sq a) X)) 4 [some (.ref (a 1)), some (.int (zI (zsum (fun k => bI (¬ X (7 + 5 * k) 3 = 0)) (k : Int).toNat))), some (.int (zI k))] [] (sH h a (sq a) X) 0 0) (lo := 0) (hi := X 1 1) hn0 ?_ ?_
    · skip
      refine pr_iload_n dX1_protectedCount_4 rfl ?_
      refine pr_aload_n dX1_protectedCount_5 rfl ?_
      refine pr_getf dX1_protectedCount_6 pzf_1_31 (sH_1 hj) rfl ?_
      refine zr_icmp_ge (tgt := 33) dX1_protectedCount_9 (by decide) (by first | exact hR _ _ | omega) (by first | exact hR _ _ | omega) (fun c9 => ?_) (fun c9 => by exfalso; omega)
      refine pr_iload_n dX1_protectedCount_33 rfl ?_
      exact pr_iret dX1_protectedCount_34 rfl rfl (zret (by rfl))
    · intro k hk1 hk2 ih
      rw [zsum_s hk1] at ih
      refine pr_iload_n dX1_protectedCount_4 rfl ?_
      refine pr_aload_n dX1_protectedCount_5 rfl ?_
      refine pr_getf dX1_protectedCount_6 pzf_1_31 (sH_1 hj) rfl ?_
      refine zr_icmp_ge (tgt := 33) dX1_protectedCount_9 (by decide) (by first | exact hR _ _ | omega) (by first | exact hR _ _ | omega) (fun c9 => by exfalso; omega) (fun c9 => ?_)
      refine pr_aload_n dX1_protectedCount_12 rfl ?_
      refine pr_getf dX1_protectedCount_13 pzf_1_11 (sH_1 hj) rfl ?_
      refine pr_iload_n dX1_protectedCount_16 rfl ?_
      refine zr_crow hj dX1_protectedCount_17 (by omega) (by omega) ?_
      refine pr_getf dX1_protectedCount_18 pzf_1_100 (sH_C hj (by omega) (by omega)) rfl ?_
      refine zr_if_eq (tgt := 27) dX1_protectedCount_21 (by decide) (by first | exact hR _ _ | omega) (fun c21 => ?_) (fun c21 => ?_)
      · rw [show bI (¬ X (7 + 5 * k) 3 = 0) = 0 from bI_f (fun z => z c21), Int.add_zero] at ih
        refine zr_iinc dX1_protectedCount_27 rfl (by decide) rfl ?_
        refine pr_goto (tgt := 4) dX1_protectedCount_30 (by decide) ?_
        exact ih
      · rw [show bI (¬ X (7 + 5 * k) 3 = 0) = 1 from bI_t c21] at ih
        refine zr_iinc dX1_protectedCount_24 rfl (by decide) rfl ?_
        refine zr_iinc dX1_protectedCount_27 rfl (by decide) rfl ?_
        refine pr_goto (tgt := 4) dX1_protectedCount_30 (by decide) ?_
        exact ih
  refine zr_iconst dX1_protectedCount_0 ?_
  refine pr_istore_n dX1_protectedCount_1 (by decide) rfl ?_
  refine zr_iconst dX1_protectedCount_2 ?_
  refine pr_istore_n dX1_protectedCount_3 (by decide) rfl ?_
  exact loop
set_option maxRecDepth 100000 in
set_option maxHeartbeats 4000000 in
theorem kX1_blockCount (hj : sj a) (hX : xB X)  : pz_Cd en 1 32 [.ref (a 1)] (sH h a (sq a) X) 0 0 (pz_ret (some (.int (zI (zsum (fun k => bI (¬ X (7 + 5 * k) 2 = 0)) (X 1 1).toNat)))) (sH h a (sq a) X)) := by
  refine pz_in pzt_X1_blockCount ?_
  obtain ⟨hR, hn0, hn1, hm0, hm1⟩ := id hX
  have loop : pz_WP 1 en (pz_Cd en (1 - 1)) 1 cX1_blockCount 3 (some .int) [] false (pz_ret (some (.int (zI (zsum (fun k => bI (¬ X (7 + 5 * k) 2 = 0)) (X 1 1).toNat)))) (sH h a (sq a) X)) 4 [some (.ref (a 1)), some (.int (zI (zsum (fun k => bI (¬ X (7 + 5 * k) 2 = 0)) (0 : Int).toNat))), some (.int (zI 0))] [] (sH h a (sq a) X) 0 0 := by
    refine zup (P := fun k => pz_WP 1 en (pz_Cd en (1 - 1)) 1 cX1_blockCount 3 (some .int) [] false (pz_ret (some (.int (zI (zsum (fun k => bI (¬ X (7 + 5 * k) 2 = 0)) (X 1 1).toNat)))) (sH h a (sq a) X)) 4 [some (.ref (a 1)), some (.int (zI (zsum (fun k => bI (¬ X (7 + 5 * k) 2 = 0)) (k : Int).toNat))), some (.int (zI k))] [] (sH h a (sq a) X) 0 0) (lo := 0) (hi := X 1 1) hn0 ?_ ?_
    · skip
      refine pr_iload_n dX1_blockCount_4 rfl ?_
      refine pr_aload_n dX1_blockCount_5 rfl ?_
      refine pr_getf dX1_blockCount_6 pzf_1_31 (sH_1 hj) rfl ?_
      refine zr_icmp_ge (tgt := 33) dX1_blockCount_9 (by decide) (by first | exact hR _ _ | omega) (by first | exact hR _ _ | omega) (fun c9 => ?_) (fun c9 => by exfalso; omega)
      refine pr_iload_n dX1_blockCount_33 rfl ?_
      exact pr_iret dX1_blockCount_34 rfl rfl (zret (by rfl))
    · intro k hk1 hk2 ih
      rw [zsum_s hk1] at ih
      refine pr_iload_n dX1_blockCount_4 rfl ?_
      refine pr_aload_n dX1_blockCount_5 rfl ?_
      refine pr_getf dX1_blockCount_6 pzf_1_31 (sH_1 hj) rfl ?_
      refine zr_icmp_ge (tgt := 33) dX1_blockCount_9 (by decide) (by first | exact hR _ _ | omega) (by first | exact hR _ _ | omega) (fun c9 => by exfalso; omega) (fun c9 => ?_)
      refine pr_aload_n dX1_blockCount_12 rfl ?_
      refine pr_getf dX1_blockCount_13 pzf_1_11 (sH_1 hj) rfl ?_
      refine pr_iload_n dX1_blockCount_16 rfl ?_
      refine zr_crow hj dX1_blockCount_17 (by omega) (by omega) ?_
      refine pr_getf dX1_blockCount_18 pzf_1_65 (sH_C hj (by omega) (by omega)) rfl ?_
      refine zr_if_eq (tgt := 27) dX1_blockCount_21 (by decide) (by first | exact hR _ _ | omega) (fun c21 => ?_) (fun c21 => ?_)
      · rw [show bI (¬ X (7 + 5 * k) 2 = 0) = 0 from bI_f (fun z => z c21), Int.add_zero] at ih
        refine zr_iinc dX1_blockCount_27 rfl (by decide) rfl ?_
        refine pr_goto (tgt := 4) dX1_blockCount_30 (by decide) ?_
        exact ih
      · rw [show bI (¬ X (7 + 5 * k) 2 = 0) = 1 from bI_t c21] at ih
        refine zr_iinc dX1_blockCount_24 rfl (by decide) rfl ?_
        refine zr_iinc dX1_blockCount_27 rfl (by decide) rfl ?_
        refine pr_goto (tgt := 4) dX1_blockCount_30 (by decide) ?_
        exact ih
  refine zr_iconst dX1_blockCount_0 ?_
  refine pr_istore_n dX1_blockCount_1 (by decide) rfl ?_
  refine zr_iconst dX1_blockCount_2 ?_
  refine pr_istore_n dX1_blockCount_3 (by decide) rfl ?_
  exact loop
theorem xll_R {X : Int → Int → Int} (hR : ∀ i j, zR (X i j)) (q : Int) : zR (xll X q) := by
  unfold xll
  split
  · exact ⟨by decide, by decide⟩
  · exact hR _ _
set_option maxRecDepth 100000 in
set_option maxHeartbeats 4000000 in
theorem kX1_releaseCount (hj : sj a) (hI : xI X)  : pz_Cd en 3 33 [.ref (a 1)] (sH h a (sq a) X) 0 0 (pz_ret (some (.int (zI (zsum (fun k => bI (xll X k = -1)) (X 1 5).toNat)))) (sH h a (sq a) X)) := by
  refine pz_in pzt_X1_releaseCount ?_
  have hX := hI.1
  obtain ⟨hR, hn0, hn1, hm0, hm1⟩ := id hX
  have loop : pz_WP 3 en (pz_Cd en (3 - 1)) 1 cX1_releaseCount 3 (some .int) [] false (pz_ret (some (.int (zI (zsum (fun k => bI (xll X k = -1)) (X 1 5).toNat)))) (sH h a (sq a) X)) 4 [some (.ref (a 1)), some (.int (zI (zsum (fun k => bI (xll X k = -1)) (0 : Int).toNat))), some (.int (zI 0))] [] (sH h a (sq a) X) 0 0 := by
    refine zup (P := fun k => pz_WP 3 en (pz_Cd en (3 - 1)) 1 cX1_releaseCount 3 (some .int) [] false (pz_ret (some (.int (zI (zsum (fun k => bI (xll X k = -1)) (X 1 5).toNat)))) (sH h a (sq a) X)) 4 [some (.ref (a 1)), some (.int (zI (zsum (fun k => bI (xll X k = -1)) (k : Int).toNat))), some (.int (zI k))] [] (sH h a (sq a) X) 0 0) (lo := 0) (hi := X 1 5) hm0 ?_ ?_
    · skip
      refine pr_iload_n dX1_releaseCount_4 rfl ?_
      refine pr_aload_n dX1_releaseCount_5 rfl ?_
      refine pr_getf dX1_releaseCount_6 pzf_1_35 (sH_1 hj) rfl ?_
      refine zr_icmp_ge (tgt := 30) dX1_releaseCount_9 (by decide) (by first | exact hR _ _ | omega) (by first | exact hR _ _ | omega) (fun c9 => ?_) (fun c9 => by exfalso; omega)
      refine pr_iload_n dX1_releaseCount_30 rfl ?_
      exact pr_iret dX1_releaseCount_31 rfl rfl (zret (by rfl))
    · intro k hk1 hk2 ih
      rw [zsum_s hk1] at ih
      refine pr_iload_n dX1_releaseCount_4 rfl ?_
      refine pr_aload_n dX1_releaseCount_5 rfl ?_
      refine pr_getf dX1_releaseCount_6 pzf_1_35 (sH_1 hj) rfl ?_
      refine zr_icmp_ge (tgt := 30) dX1_releaseCount_9 (by decide) (by first | exact hR _ _ | omega) (by first | exact hR _ _ | omega) (fun c9 => by exfalso; omega) (fun c9 => ?_)
      refine pr_aload_n dX1_releaseCount_12 rfl ?_
      refine pr_iload_n dX1_releaseCount_13 rfl ?_
      refine zcv1i dX1_releaseCount_14 pzm_1_144 pzt_X1_listedLevel (sH_1 hj) (kX1_listedLevel hj hI (by omega) (by omega)) (by decide) (Nat.le_of_ble_eq_true rfl) (by decide) ?_
      refine zr_iconst dX1_releaseCount_17 ?_
      refine zr_icmp_ne (tgt := 24) dX1_releaseCount_18 (by decide) (xll_R hR _) (by omega) (fun c18 => ?_) (fun c18 => ?_)
      · rw [show bI (xll X k = -1) = 0 from bI_f c18, Int.add_zero] at ih
        refine zr_iinc dX1_releaseCount_24 rfl (by decide) rfl ?_
        refine pr_goto (tgt := 4) dX1_releaseCount_27 (by decide) ?_
        exact ih
      · rw [show bI (xll X k = -1) = 1 from bI_t c18] at ih
        refine zr_iinc dX1_releaseCount_21 rfl (by decide) rfl ?_
        refine zr_iinc dX1_releaseCount_24 rfl (by decide) rfl ?_
        refine pr_goto (tgt := 4) dX1_releaseCount_27 (by decide) ?_
        exact ih
  refine zr_iconst dX1_releaseCount_0 ?_
  refine pr_istore_n dX1_releaseCount_1 (by decide) rfl ?_
  refine zr_iconst dX1_releaseCount_2 ?_
  refine pr_istore_n dX1_releaseCount_3 (by decide) rfl ?_
  exact loop
end cls
def bc1 (x : Int32) : Int32 := x - ((x.toUInt32 >>> ((zI 1).toUInt32 &&& Int32.toUInt32 31)).toInt32 &&& 1431655765)
def bc2 (x : Int32) : Int32 := (x &&& 858993459) + ((x.toUInt32 >>> ((zI 2).toUInt32 &&& Int32.toUInt32 31)).toInt32 &&& 858993459)
def bc3 (x : Int32) : Int32 := (x + (x.toUInt32 >>> ((zI 4).toUInt32 &&& Int32.toUInt32 31)).toInt32) &&& 252645135
def bc4 (x : Int32) : Int32 := x + (x.toUInt32 >>> ((zI 8).toUInt32 &&& Int32.toUInt32 31)).toInt32
def bc5 (x : Int32) : Int32 := (x + (x.toUInt32 >>> ((zI 16).toUInt32 &&& Int32.toUInt32 31)).toInt32) &&& zI 63
def bcF (x : Int32) : Int32 := bc5 (bc4 (bc3 (bc2 (bc1 x))))
theorem kJ6_bitCount {en : pz_Env} {h : pz_H} {x : Int32} : pz_Cd en 1 250 [.int x] h 0 0 (pz_ret (some (.int (bcF x))) h) := by
  refine pz_in pzt_J6_bitCount_0f7a4 ?_
  refine pr_iload_n dJ6_bitCount_0f7a4_0 rfl ?_
  refine pr_iload_n dJ6_bitCount_0f7a4_1 rfl ?_
  refine zr_iconst dJ6_bitCount_0f7a4_2 ?_
  refine pr_iushr dJ6_bitCount_0f7a4_3 ?_
  refine pr_ldcw dJ6_bitCount_0f7a4_4 pzk_9_265 ?_
  refine pr_iand dJ6_bitCount_0f7a4_7 ?_
  refine pr_isub dJ6_bitCount_0f7a4_8 ?_
  refine pr_istore_n dJ6_bitCount_0f7a4_9 (by decide) rfl ?_
  refine pr_iload_n dJ6_bitCount_0f7a4_10 rfl ?_
  refine pr_ldcw dJ6_bitCount_0f7a4_11 pzk_9_266 ?_
  refine pr_iand dJ6_bitCount_0f7a4_14 ?_
  refine pr_iload_n dJ6_bitCount_0f7a4_15 rfl ?_
  refine zr_iconst dJ6_bitCount_0f7a4_16 ?_
  refine pr_iushr dJ6_bitCount_0f7a4_17 ?_
  refine pr_ldcw dJ6_bitCount_0f7a4_18 pzk_9_266 ?_
  refine pr_iand dJ6_bitCount_0f7a4_21 ?_
  refine pr_iadd dJ6_bitCount_0f7a4_22 ?_
  refine pr_istore_n dJ6_bitCount_0f7a4_23 (by decide) rfl ?_
  refine pr_iload_n dJ6_bitCount_0f7a4_24 rfl ?_
  refine pr_iload_n dJ6_bitCount_0f7a4_25 rfl ?_
  refine zr_iconst dJ6_bitCount_0f7a4_26 ?_
  refine pr_iushr dJ6_bitCount_0f7a4_27 ?_
  refine pr_iadd dJ6_bitCount_0f7a4_28 ?_
  refine pr_ldcw dJ6_bitCount_0f7a4_29 pzk_9_267 ?_
  refine pr_iand dJ6_bitCount_0f7a4_32 ?_
  refine pr_istore_n dJ6_bitCount_0f7a4_33 (by decide) rfl ?_
  refine pr_iload_n dJ6_bitCount_0f7a4_34 rfl ?_
  refine pr_iload_n dJ6_bitCount_0f7a4_35 rfl ?_
  refine zr_bipush dJ6_bitCount_0f7a4_36 (by decide) ?_
  refine pr_iushr dJ6_bitCount_0f7a4_38 ?_
  refine pr_iadd dJ6_bitCount_0f7a4_39 ?_
  refine pr_istore_n dJ6_bitCount_0f7a4_40 (by decide) rfl ?_
  refine pr_iload_n dJ6_bitCount_0f7a4_41 rfl ?_
  refine pr_iload_n dJ6_bitCount_0f7a4_42 rfl ?_
  refine zr_bipush dJ6_bitCount_0f7a4_43 (by decide) ?_
  refine pr_iushr dJ6_bitCount_0f7a4_45 ?_
  refine pr_iadd dJ6_bitCount_0f7a4_46 ?_
  refine pr_istore_n dJ6_bitCount_0f7a4_47 (by decide) rfl ?_
  refine pr_iload_n dJ6_bitCount_0f7a4_48 rfl ?_
  refine zr_bipush dJ6_bitCount_0f7a4_49 (by decide) ?_
  refine pr_iand dJ6_bitCount_0f7a4_51 ?_
  exact pr_iret dJ6_bitCount_0f7a4_52 rfl rfl ⟨rfl, rfl⟩
set_option maxRecDepth 100000 in
theorem bc_all : ∀ b0 b1 b2 b3 b4 b5 b6 b7 b8 b9 b10 b11 : Bool, bcF (((((((((((((0 : Int32) ||| (if b0 = true then (1 : Int32) <<< (zI 0 &&& 31) else 0)) ||| (if b1 = true then (1 : Int32) <<< (zI 1 &&& 31) else 0)) ||| (if b2 = true then (1 : Int32) <<< (zI 2 &&& 31) else 0)) ||| (if b3 = true then (1 : Int32) <<< (zI 3 &&& 31) else 0)) ||| (if b4 = true then (1 : Int32) <<< (zI 4 &&& 31) else 0)) ||| (if b5 = true then (1 : Int32) <<< (zI 5 &&& 31) else 0)) ||| (if b6 = true then (1 : Int32) <<< (zI 6 &&& 31) else 0)) ||| (if b7 = true then (1 : Int32) <<< (zI 7 &&& 31) else 0)) ||| (if b8 = true then (1 : Int32) <<< (zI 8 &&& 31) else 0)) ||| (if b9 = true then (1 : Int32) <<< (zI 9 &&& 31) else 0)) ||| (if b10 = true then (1 : Int32) <<< (zI 10 &&& 31) else 0)) ||| (if b11 = true then (1 : Int32) <<< (zI 11 &&& 31) else 0)) = zI (((((((((((((0 : Int) + bI (b0 = true)) + bI (b1 = true)) + bI (b2 = true)) + bI (b3 = true)) + bI (b4 = true)) + bI (b5 = true)) + bI (b6 = true)) + bI (b7 = true)) + bI (b8 = true)) + bI (b9 = true)) + bI (b10 = true)) + bI (b11 = true)) := by decide +kernel
theorem bc_mk (p : Int → Bool) : bcF (rmk p 12) = zI (zsum (fun c => bI (p c = true)) 12) := bc_all (p 0) (p 1) (p 2) (p 3) (p 4) (p 5) (p 6) (p 7) (p 8) (p 9) (p 10) (p 11)
section cls
variable {en : pz_Env} {h : pz_H} {a : Int → Nat} {X : Int → Int → Int}
def xmc (X : Int → Int → Int) (k : Int) : Int := zsum (fun c => bI (¬ xlv X k c = xlv X (k - 1) c)) 12
theorem bc_xmv (X : Int → Int → Int) (k : Int) : bcF (xmv X k) = zI (xmc X k) := by
  unfold xmv xmc
  rw [bc_mk]
  congr 2
  funext c
  by_cases e : ¬ xlv X k c = xlv X (k - 1) c
  · rw [bI_t e, bI_t (decide_eq_true e)]
  · rw [bI_f e, bI_f (fun z => e (of_decide_eq_true z))]
set_option maxRecDepth 100000 in
set_option maxHeartbeats 4000000 in
theorem kX1_sumOfMoving (hj : sj a) (hX : xB X)  : pz_Cd en 6 30 [.ref (a 1)] (sH h a (sq a) X) 0 0 (pz_ret (some (.int (zI (zsum (fun k => xmc X k) (X 1 1).toNat)))) (sH h a (sq a) X)) := by
  refine pz_in pzt_X1_sumOfMoving ?_
  obtain ⟨hR, hn0, hn1, hm0, hm1⟩ := id hX
  have loop : pz_WP 6 en (pz_Cd en (6 - 1)) 1 cX1_sumOfMoving 3 (some .int) [] false (pz_ret (some (.int (zI (zsum (fun k => xmc X k) (X 1 1).toNat)))) (sH h a (sq a) X)) 4 [some (.ref (a 1)), some (.int (zI (zsum (fun k => xmc X k) (0 : Int).toNat))), some (.int (zI 0))] [] (sH h a (sq a) X) 0 0 := by
    refine zup (P := fun k => pz_WP 6 en (pz_Cd en (6 - 1)) 1 cX1_sumOfMoving 3 (some .int) [] false (pz_ret (some (.int (zI (zsum (fun k => xmc X k) (X 1 1).toNat)))) (sH h a (sq a) X)) 4 [some (.ref (a 1)), some (.int (zI (zsum (fun k => xmc X k) (k : Int).toNat))), some (.int (zI k))] [] (sH h a (sq a) X) 0 0) (lo := 0) (hi := X 1 1) hn0 ?_ ?_
    · skip
      refine pr_iload_n dX1_sumOfMoving_4 rfl ?_
      refine pr_aload_n dX1_sumOfMoving_5 rfl ?_
      refine pr_getf dX1_sumOfMoving_6 pzf_1_31 (sH_1 hj) rfl ?_
      refine zr_icmp_ge (tgt := 29) dX1_sumOfMoving_9 (by decide) (by first | exact hR _ _ | omega) (by first | exact hR _ _ | omega) (fun c9 => ?_) (fun c9 => by exfalso; omega)
      refine pr_iload_n dX1_sumOfMoving_29 rfl ?_
      exact pr_iret dX1_sumOfMoving_30 rfl rfl (zret (by rfl))
    · intro k hk1 hk2 ih
      rw [zsum_s hk1] at ih
      refine pr_iload_n dX1_sumOfMoving_4 rfl ?_
      refine pr_aload_n dX1_sumOfMoving_5 rfl ?_
      refine pr_getf dX1_sumOfMoving_6 pzf_1_31 (sH_1 hj) rfl ?_
      refine zr_icmp_ge (tgt := 29) dX1_sumOfMoving_9 (by decide) (by first | exact hR _ _ | omega) (by first | exact hR _ _ | omega) (fun c9 => by exfalso; omega) (fun c9 => ?_)
      refine pr_iload_n dX1_sumOfMoving_12 rfl ?_
      refine pr_aload_n dX1_sumOfMoving_13 rfl ?_
      refine pr_iload_n dX1_sumOfMoving_14 rfl ?_
      refine zcv1 dX1_sumOfMoving_15 pzm_1_136 pzt_X1_movingSet (sH_1 hj) (kX1_movingSet hj hX (by omega) (by omega)) (by decide) (Nat.le_of_ble_eq_true rfl) (by decide) ?_
      refine zcs1 dX1_sumOfMoving_18 pzm_1_139 pzt_J6_bitCount_0f7a4 kJ6_bitCount (by decide) (Nat.le_of_ble_eq_true rfl) ?_
      rw [bc_xmv]
      refine zr_iadd dX1_sumOfMoving_21 ?_
      refine pr_istore_n dX1_sumOfMoving_22 (by decide) rfl ?_
      refine zr_iinc dX1_sumOfMoving_23 rfl (by decide) rfl ?_
      refine pr_goto (tgt := 4) dX1_sumOfMoving_26 (by decide) ?_
      exact ih
  refine zr_iconst dX1_sumOfMoving_0 ?_
  refine pr_istore_n dX1_sumOfMoving_1 (by decide) rfl ?_
  refine zr_iconst dX1_sumOfMoving_2 ?_
  refine pr_istore_n dX1_sumOfMoving_3 (by decide) rfl ?_
  exact loop
end cls
