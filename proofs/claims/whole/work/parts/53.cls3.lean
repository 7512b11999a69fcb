/-! the class: what the playback answers -/
abbrev xff (X : Int → Int → Int) (c : Int) : Prop := (0 ≤ X 68 c ∧ X 68 c ≤ 100) ∧ (0 ≤ X 69 c ∧ X 69 c ≤ 100) ∧ (0 ≤ X 70 c ∧ X 70 c ≤ X 67 8) ∧ (0 ≤ X 71 c ∧ X 71 c ≤ 600) ∧ (0 ≤ X 72 c ∧ X 72 c ≤ 600) ∧ (0 ≤ X 67 8 ∧ X 67 8 ≤ 100000)
def xnow (X : Int → Int → Int) (c : Int) : Int := if X 72 c ≤ X 67 8 - X 70 c - X 71 c then X 69 c else if X 67 8 - X 70 c - X 71 c ≤ 0 ∨ X 72 c ≤ 0 then X 68 c else X 68 c + ((X 69 c - X 68 c) * (X 67 8 - X 70 c - X 71 c)).tdiv (X 72 c)
abbrev xfd (X : Int → Int → Int) (c : Int) : Prop := X 67 8 - X 70 c < X 71 c + X 72 c
def xnk (X : Int → Int → Int) : Int := zfst (fun k => decide (X 67 5 < X (7 + 5 * k) 0)) (X 1 1).toNat
def xnx (X : Int → Int → Int) : Int := if xnk X < 0 then 0 else X (7 + 5 * xnk X) 0
def xlkF (X : Int → Int → Int) : Nat → Int
  | 0 => -1
  | n + 1 => if X (7 + 5 * n) 0 < X 67 5 then n else xlkF X n
theorem xlkF_s {X : Int → Int → Int} {k : Int} (h : -1 < k) : xlkF X (k + 1).toNat = if X (7 + 5 * k) 0 < X 67 5 then k else xlkF X (k - 1 + 1).toNat := by
  rw [show (k + 1).toNat = k.toNat + 1 by omega, show (k - 1 + 1).toNat = k.toNat by omega]
  show (if X (7 + 5 * ((k.toNat : Nat) : Int)) 0 < X 67 5 then ((k.toNat : Nat) : Int) else xlkF X k.toNat) = _
  rw [show ((k.toNat : Nat) : Int) = k by omega]
def xsi (X : Int → Int → Int) : Int := if X 67 5 = 0 then 0 else X 67 8 - X 67 6
def xtf (X : Int → Int → Int) : Int := if xix X (X 67 5) < 0 ∨ X 1 1 ≤ xix X (X 67 5) + 1 then -1 else if X (7 + 5 * xix X (X 67 5)) 1 = -1 then -1 else if 1 < X (7 + 5 * xix X (X 67 5)) 1 - xsi X then X (7 + 5 * xix X (X 67 5)) 1 - xsi X else 1
theorem xnk_R {X : Int → Int → Int} (hB : xB X) : -1 ≤ xnk X ∧ xnk X < X 1 1 ∧ xnk X < 12 := by
  obtain ⟨hR, h1, h2, h3, h4⟩ := hB
  unfold xnk
  rcases zfst_spec (fun k => decide (X 67 5 < X (7 + 5 * k) 0)) (X 1 1).toNat with ⟨g1, -⟩ | ⟨g1, g2, -⟩
  · rw [g1]; omega
  · omega
section cls
variable {en : pz_Env} {h : pz_H} {a : Int → Nat} {X : Int → Int → Int}
set_option maxRecDepth 100000 in
set_option maxHeartbeats 4000000 in
theorem kX4_presentLevel (hj : sj a) (hX : xB X)  {c : Int} (c1 : 0 ≤ c) (c2 : c ≤ 11) (hf : xff X c) : pz_Cd en 1 67 [.ref (a 67), .int (zI c)] (sH h a (sq a) X) 0 0 (pz_ret (some (.int (zI (xnow X c)))) (sH h a (sq a) X)) := by
  refine pz_in pzt_X4_presentLevel ?_
  obtain ⟨hR, hn0, hn1, hm0, hm1⟩ := id hX
  refine pr_aload_n dX4_presentLevel_0 rfl ?_
  refine pr_getf dX4_presentLevel_1 pzf_4_24 (sH_67 hj) rfl ?_
  refine pr_iload_n dX4_presentLevel_4 rfl ?_
  refine zr_iald dX4_presentLevel_5 (sH_72 hj) (by omega) (by decide) ?_
  refine pr_istore_n dX4_presentLevel_6 (by decide) rfl ?_
  refine pr_aload_n dX4_presentLevel_7 rfl ?_
  refine pr_getf dX4_presentLevel_8 pzf_4_37 (sH_67 hj) rfl ?_
  refine pr_aload_n dX4_presentLevel_11 rfl ?_
  refine pr_getf dX4_presentLevel_12 pzf_4_18 (sH_67 hj) rfl ?_
  refine pr_iload_n dX4_presentLevel_15 rfl ?_
  refine zr_iald dX4_presentLevel_16 (sH_70 hj) (by omega) (by decide) ?_
  refine zr_isub dX4_presentLevel_17 ?_
  refine pr_aload_n dX4_presentLevel_18 rfl ?_
  refine pr_getf dX4_presentLevel_19 pzf_4_21 (sH_67 hj) rfl ?_
  refine pr_iload_n dX4_presentLevel_22 rfl ?_
  refine zr_iald dX4_presentLevel_23 (sH_71 hj) (by omega) (by decide) ?_
  refine zr_isub dX4_presentLevel_24 ?_
  refine pr_istore_n dX4_presentLevel_25 (by decide) rfl ?_
  refine pr_iload_n dX4_presentLevel_26 rfl ?_
  refine pr_iload_n dX4_presentLevel_27 rfl ?_
  refine zr_icmp_lt (tgt := 38) dX4_presentLevel_28 (by decide) (by omega) (by omega) (fun c28 => ?_) (fun c28 => ?_)
  · refine pr_iload_n dX4_presentLevel_38 rfl ?_
    refine zr_if_le (tgt := 46) dX4_presentLevel_39 (by decide) (by omega) (fun c39 => ?_) (fun c39 => ?_)
    · refine pr_aload_n dX4_presentLevel_46 rfl ?_
      refine pr_getf dX4_presentLevel_47 pzf_4_9 (sH_67 hj) rfl ?_
      refine pr_iload_n dX4_presentLevel_50 rfl ?_
      refine zr_iald dX4_presentLevel_51 (sH_68 hj) (by omega) (by decide) ?_
      exact pr_iret dX4_presentLevel_52 rfl rfl (zret (by
      unfold xnow
      first | (exfalso; omega) | rw [if_pos (by omega)] | (rw [if_neg (by omega)]; first | rw [if_pos (by omega)] | rw [if_neg (by omega)])))
    · refine pr_iload_n dX4_presentLevel_42 rfl ?_
      refine zr_if_gt (tgt := 53) dX4_presentLevel_43 (by decide) (by omega) (fun c43 => ?_) (fun c43 => ?_)
      · refine pr_aload_n dX4_presentLevel_53 rfl ?_
        refine pr_getf dX4_presentLevel_54 pzf_4_9 (sH_67 hj) rfl ?_
        refine pr_iload_n dX4_presentLevel_57 rfl ?_
        refine zr_iald dX4_presentLevel_58 (sH_68 hj) (by omega) (by decide) ?_
        refine pr_aload_n dX4_presentLevel_59 rfl ?_
        refine pr_getf dX4_presentLevel_60 pzf_4_15 (sH_67 hj) rfl ?_
        refine pr_iload_n dX4_presentLevel_63 rfl ?_
        refine zr_iald dX4_presentLevel_64 (sH_69 hj) (by omega) (by decide) ?_
        refine pr_aload_n dX4_presentLevel_65 rfl ?_
        refine pr_getf dX4_presentLevel_66 pzf_4_9 (sH_67 hj) rfl ?_
        refine pr_iload_n dX4_presentLevel_69 rfl ?_
        refine zr_iald dX4_presentLevel_70 (sH_68 hj) (by omega) (by decide) ?_
        refine zr_isub dX4_presentLevel_71 ?_
        refine pr_iload_n dX4_presentLevel_72 rfl ?_
        refine zr_imul dX4_presentLevel_73 ?_
        refine pr_iload_n dX4_presentLevel_74 rfl ?_
        have hb : -10000000 ≤ (X 69 c - X 68 c) * (X 67 8 - X 70 c - X 71 c) ∧ (X 69 c - X 68 c) * (X 67 8 - X 70 c - X 71 c) ≤ 10000000 := rmul_b (by omega) (by omega) (by omega) (by omega)
        refine zr_idiv dX4_presentLevel_75 (by omega) (by omega) (by omega) (by omega) ?_
        refine zr_iadd dX4_presentLevel_76 ?_
        exact pr_iret dX4_presentLevel_77 rfl rfl (zret (by
      unfold xnow
      first | (exfalso; omega) | rw [if_pos (by omega)] | (rw [if_neg (by omega)]; first | rw [if_pos (by omega)] | rw [if_neg (by omega)])))
      · refine pr_aload_n dX4_presentLevel_46 rfl ?_
        refine pr_getf dX4_presentLevel_47 pzf_4_9 (sH_67 hj) rfl ?_
        refine pr_iload_n dX4_presentLevel_50 rfl ?_
        refine zr_iald dX4_presentLevel_51 (sH_68 hj) (by omega) (by decide) ?_
        exact pr_iret dX4_presentLevel_52 rfl rfl (zret (by
      unfold xnow
      first | (exfalso; omega) | rw [if_pos (by omega)] | (rw [if_neg (by omega)]; first | rw [if_pos (by omega)] | rw [if_neg (by omega)])))
  · refine pr_aload_n dX4_presentLevel_31 rfl ?_
    refine pr_getf dX4_presentLevel_32 pzf_4_15 (sH_67 hj) rfl ?_
    refine pr_iload_n dX4_presentLevel_35 rfl ?_
    refine zr_iald dX4_presentLevel_36 (sH_69 hj) (by omega) (by decide) ?_
    exact pr_iret dX4_presentLevel_37 rfl rfl (zret (by
      unfold xnow
      first | (exfalso; omega) | rw [if_pos (by omega)] | (rw [if_neg (by omega)]; first | rw [if_pos (by omega)] | rw [if_neg (by omega)])))
set_option maxRecDepth 100000 in
set_option maxHeartbeats 4000000 in
theorem kX4_isFading (hj : sj a) (hX : xB X)  {c : Int} (c1 : 0 ≤ c) (c2 : c ≤ 11) (hf : xff X c) : pz_Cd en 1 68 [.ref (a 67), .int (zI c)] (sH h a (sq a) X) 0 0 (pz_ret (some (.int (zI (bI (xfd X c))))) (sH h a (sq a) X)) := by
  refine pz_in pzt_X4_isFading ?_
  obtain ⟨hR, hn0, hn1, hm0, hm1⟩ := id hX
  refine pr_aload_n dX4_isFading_0 rfl ?_
  refine pr_getf dX4_isFading_1 pzf_4_37 (sH_67 hj) rfl ?_
  refine pr_aload_n dX4_isFading_4 rfl ?_
  refine pr_getf dX4_isFading_5 pzf_4_18 (sH_67 hj) rfl ?_
  refine pr_iload_n dX4_isFading_8 rfl ?_
  refine zr_iald dX4_isFading_9 (sH_70 hj) (by omega) (by decide) ?_
  refine zr_isub dX4_isFading_10 ?_
  refine pr_aload_n dX4_isFading_11 rfl ?_
  refine pr_getf dX4_isFading_12 pzf_4_21 (sH_67 hj) rfl ?_
  refine pr_iload_n dX4_isFading_15 rfl ?_
  refine zr_iald dX4_isFading_16 (sH_71 hj) (by omega) (by decide) ?_
  refine pr_aload_n dX4_isFading_17 rfl ?_
  refine pr_getf dX4_isFading_18 pzf_4_24 (sH_67 hj) rfl ?_
  refine pr_iload_n dX4_isFading_21 rfl ?_
  refine zr_iald dX4_isFading_22 (sH_72 hj) (by omega) (by decide) ?_
  refine zr_iadd dX4_isFading_23 ?_
  refine zr_icmp_ge (tgt := 31) dX4_isFading_24 (by decide) (by omega) (by omega) (fun c24 => ?_) (fun c24 => ?_)
  · refine zr_iconst dX4_isFading_31 ?_
    exact pr_iret dX4_isFading_32 rfl rfl (zret (by first | exact (bI_t (by omega)).symm | exact (bI_f (by omega)).symm))
  · refine zr_iconst dX4_isFading_27 ?_
    refine pr_goto (tgt := 32) dX4_isFading_28 (by decide) ?_
    exact pr_iret dX4_isFading_32 rfl rfl (zret (by first | exact (bI_t (by omega)).symm | exact (bI_f (by omega)).symm))
set_option maxRecDepth 100000 in
set_option maxHeartbeats 4000000 in
theorem kX4_fadingSet (hj : sj a) (hX : xB X)  (hf : ∀ c : Int, 0 ≤ c → c ≤ 11 → xff X c) : pz_Cd en 2 69 [.ref (a 67)] (sH h a (sq a) X) 0 0 (pz_ret (some (.int (rmk (fun c => decide (xfd X c)) 12))) (sH h a (sq a) X)) := by
  refine pz_in pzt_X4_fadingSet ?_
  obtain ⟨hR, hn0, hn1, hm0, hm1⟩ := id hX
  have loop : pz_WP 2 en (pz_Cd en (2 - 1)) 4 cX4_fadingSet 3 (some .int) [] false (pz_ret (some (.int (rmk (fun c => decide (xfd X c)) 12))) (sH h a (sq a) X)) 4 [some (.ref (a 67)), some (.int (rmk (fun c => decide (xfd X c)) (0 : Int).toNat)), some (.int (zI 0))] [] (sH h a (sq a) X) 0 0 := by
    refine zup (P := fun k => pz_WP 2 en (pz_Cd en (2 - 1)) 4 cX4_fadingSet 3 (some .int) [] false (pz_ret (some (.int (rmk (fun c => decide (xfd X c)) 12))) (sH h a (sq a) X)) 4 [some (.ref (a 67)), some (.int (rmk (fun c => decide (xfd X c)) (k : Int).toNat)), some (.int (zI k))] [] (sH h a (sq a) X) 0 0) (lo := 0) (hi := 12) (by decide) ?_ ?_
    · skip
      refine pr_iload_n dX4_fadingSet_4 rfl ?_
      refine zr_bipush dX4_fadingSet_5 (by decide) ?_
      refine zr_icmp_ge (tgt := 30) dX4_fadingSet_7 (by decide) (by first | exact hR _ _ | omega) (by first | exact hR _ _ | omega) (fun c7 => ?_) (fun c7 => by exfalso; omega)
      refine pr_iload_n dX4_fadingSet_30 rfl ?_
      exact pr_iret dX4_fadingSet_31 rfl rfl (⟨rfl, rfl⟩)
    · intro k hk1 hk2 ih
      rw [rmk_s hk1] at ih
      refine pr_iload_n dX4_fadingSet_4 rfl ?_
      refine zr_bipush dX4_fadingSet_5 (by decide) ?_
      refine zr_icmp_ge (tgt := 30) dX4_fadingSet_7 (by decide) (by first | exact hR _ _ | omega) (by first | exact hR _ _ | omega) (fun c7 => by exfalso; omega) (fun c7 => ?_)
      refine pr_aload_n dX4_fadingSet_10 rfl ?_
      refine pr_iload_n dX4_fadingSet_11 rfl ?_
      refine zcv1i dX4_fadingSet_12 pzm_4_46 pzt_X4_isFading (sH_67 hj) (kX4_isFading hj hX (by omega) (by omega) (hf _ (by omega) (by omega))) (by decide) (Nat.le_of_ble_eq_true rfl) (by decide) ?_
      refine zr_if_eq (tgt := 24) dX4_fadingSet_15 (by decide) (bI_R _) (fun c15 => ?_) (fun c15 => ?_)
      · have b15 := bI_0 c15
        rw [if_neg (fun z => b15 (of_decide_eq_true z)), Int32.or_zero] at ih
        refine zr_iinc dX4_fadingSet_24 rfl (by decide) rfl ?_
        refine pr_goto (tgt := 4) dX4_fadingSet_27 (by decide) ?_
        exact ih
      · have b15 := bI_ne c15
        rw [if_pos (decide_eq_true b15)] at ih
        refine pr_iload_n dX4_fadingSet_18 rfl ?_
        refine zr_iconst dX4_fadingSet_19 ?_
        refine pr_iload_n dX4_fadingSet_20 rfl ?_
        refine pr_ishl dX4_fadingSet_21 ?_
        refine pr_ior dX4_fadingSet_22 ?_
        refine pr_istore_n dX4_fadingSet_23 (by decide) rfl ?_
        refine zr_iinc dX4_fadingSet_24 rfl (by decide) rfl ?_
        refine pr_goto (tgt := 4) dX4_fadingSet_27 (by decide) ?_
        exact ih
  refine zr_iconst dX4_fadingSet_0 ?_
  refine pr_istore_n dX4_fadingSet_1 (by decide) rfl ?_
  refine zr_iconst dX4_fadingSet_2 ?_
  refine pr_istore_n dX4_fadingSet_3 (by decide) rfl ?_
  exact loop
set_option maxRecDepth 100000 in
set_option maxHeartbeats 4000000 in
theorem kX4_sumOfPresent (hj : sj a) (hX : xB X)  (hf : ∀ c : Int, 0 ≤ c → c ≤ 11 → xff X c) : pz_Cd en 2 70 [.ref (a 67)] (sH h a (sq a) X) 0 0 (pz_ret (some (.int (zI (zsum (fun c => xnow X c) 12)))) (sH h a (sq a) X)) := by
  refine pz_in pzt_X4_sumOfPresent ?_
  obtain ⟨hR, hn0, hn1, hm0, hm1⟩ := id hX
  have loop : pz_WP 2 en (pz_Cd en (2 - 1)) 4 cX4_sumOfPresent 3 (some .int) [] false (pz_ret (some (.int (zI (zsum (fun c => xnow X c) 12)))) (sH h a (sq a) X)) 4 [some (.ref (a 67)), some (.int (zI (zsum (fun c => xnow X c) (0 : Int).toNat))), some (.int (zI 0))] [] (sH h a (sq a) X) 0 0 := by
    refine zup (P := fun k => pz_WP 2 en (pz_Cd en (2 - 1)) 4 cX4_sumOfPresent 3 (some .int) [] false (pz_ret (some (.int (zI (zsum (fun c => xnow X c) 12)))) (sH h a (sq a) X)) 4 [some (.ref (a 67)), some (.int (zI (zsum (fun c => xnow X c) (k : Int).toNat))), some (.int (zI k))] [] (sH h a (sq a) X) 0 0) (lo := 0) (hi := 12) (by decide) ?_ ?_
    · skip
      refine pr_iload_n dX4_sumOfPresent_4 rfl ?_
      refine zr_bipush dX4_sumOfPresent_5 (by decide) ?_
      refine zr_icmp_ge (tgt := 24) dX4_sumOfPresent_7 (by decide) (by first | exact hR _ _ | omega) (by first | exact hR _ _ | omega) (fun c7 => ?_) (fun c7 => by exfalso; omega)
      refine pr_iload_n dX4_sumOfPresent_24 rfl ?_
      exact pr_iret dX4_sumOfPresent_25 rfl rfl (zret (by rfl))
    · intro k hk1 hk2 ih
      rw [zsum_s hk1] at ih
      refine pr_iload_n dX4_sumOfPresent_4 rfl ?_
      refine zr_bipush dX4_sumOfPresent_5 (by decide) ?_
      refine zr_icmp_ge (tgt := 24) dX4_sumOfPresent_7 (by decide) (by first | exact hR _ _ | omega) (by first | exact hR _ _ | omega) (fun c7 => by exfalso; omega) (fun c7 => ?_)
      refine pr_iload_n dX4_sumOfPresent_10 rfl ?_
      refine pr_aload_n dX4_sumOfPresent_11 rfl ?_
      refine pr_iload_n dX4_sumOfPresent_12 rfl ?_
      refine zcv1i dX4_sumOfPresent_13 pzm_4_50 pzt_X4_presentLevel (sH_67 hj) (kX4_presentLevel hj hX (by omega) (by omega) (hf _ (by omega) (by omega))) (by decide) (Nat.le_of_ble_eq_true rfl) (by decide) ?_
      refine zr_iadd dX4_sumOfPresent_16 ?_
      refine pr_istore_n dX4_sumOfPresent_17 (by decide) rfl ?_
      refine zr_iinc dX4_sumOfPresent_18 rfl (by decide) rfl ?_
      refine pr_goto (tgt := 4) dX4_sumOfPresent_21 (by decide) ?_
      exact ih
  refine zr_iconst dX4_sumOfPresent_0 ?_
  refine pr_istore_n dX4_sumOfPresent_1 (by decide) rfl ?_
  refine zr_iconst dX4_sumOfPresent_2 ?_
  refine pr_istore_n dX4_sumOfPresent_3 (by decide) rfl ?_
  exact loop
set_option maxRecDepth 100000 in
set_option maxHeartbeats 4000000 in
theorem kX4_sumOfTargets (hj : sj a) (hX : xB X)  : pz_Cd en 1 71 [.ref (a 67)] (sH h a (sq a) X) 0 0 (pz_ret (some (.int (zI (zsum (fun c => X 69 c) 12)))) (sH h a (sq a) X)) := by
  refine pz_in pzt_X4_sumOfTargets ?_
  obtain ⟨hR, hn0, hn1, hm0, hm1⟩ := id hX
  have loop : pz_WP 1 en (pz_Cd en (1 - 1)) 4 cX4_sumOfTargets 3 (some .int) [] false (pz_ret (some (.int (zI (zsum (fun c => X 69 c) 12)))) (sH h a (sq a) X)) 4 [some (.ref (a 67)), some (.int (zI (zsum (fun c => X 69 c) (0 : Int).toNat))), some (.int (zI 0))] [] (sH h a (sq a) X) 0 0 := by
    refine zup (P := fun k => pz_WP 1 en (pz_Cd en (1 - 1)) 4 cX4_sumOfTargets 3 (some .int) [] false (pz_ret (some (.int (zI (zsum (fun c => X 69 c) 12)))) (sH h a (sq a) X)) 4 [some (.ref (a 67)), some (.int (zI (zsum (fun c => X 69 c) (k : Int).toNat))), some (.int (zI k))] [] (sH h a (sq a) X) 0 0) (lo := 0) (hi := 12) (by decide) ?_ ?_
    · skip
      refine pr_iload_n dX4_sumOfTargets_4 rfl ?_
      refine zr_bipush dX4_sumOfTargets_5 (by decide) ?_
      refine zr_icmp_ge (tgt := 25) dX4_sumOfTargets_7 (by decide) (by first | exact hR _ _ | omega) (by first | exact hR _ _ | omega) (fun c7 => ?_) (fun c7 => by exfalso; omega)
      refine pr_iload_n dX4_sumOfTargets_25 rfl ?_
      exact pr_iret dX4_sumOfTargets_26 rfl rfl (zret (by rfl))
    · intro k hk1 hk2 ih
      rw [zsum_s hk1] at ih
      refine pr_iload_n dX4_sumOfTargets_4 rfl ?_
      refine zr_bipush dX4_sumOfTargets_5 (by decide) ?_
      refine zr_icmp_ge (tgt := 25) dX4_sumOfTargets_7 (by decide) (by first | exact hR _ _ | omega) (by first | exact hR _ _ | omega) (fun c7 => by exfalso; omega) (fun c7 => ?_)
      refine pr_iload_n dX4_sumOfTargets_10 rfl ?_
      refine pr_aload_n dX4_sumOfTargets_11 rfl ?_
      refine pr_getf dX4_sumOfTargets_12 pzf_4_15 (sH_67 hj) rfl ?_
      refine pr_iload_n dX4_sumOfTargets_15 rfl ?_
      refine zr_iald dX4_sumOfTargets_16 (sH_69 hj) (by omega) (by decide) ?_
      refine zr_iadd dX4_sumOfTargets_17 ?_
      refine pr_istore_n dX4_sumOfTargets_18 (by decide) rfl ?_
      refine zr_iinc dX4_sumOfTargets_19 rfl (by decide) rfl ?_
      refine pr_goto (tgt := 4) dX4_sumOfTargets_22 (by decide) ?_
      exact ih
  refine zr_iconst dX4_sumOfTargets_0 ?_
  refine pr_istore_n dX4_sumOfTargets_1 (by decide) rfl ?_
  refine zr_iconst dX4_sumOfTargets_2 ?_
  refine pr_istore_n dX4_sumOfTargets_3 (by decide) rfl ?_
  exact loop
set_option maxRecDepth 100000 in
set_option maxHeartbeats 4000000 in
theorem kX4_nextIndex (hj : sj a) (hX : xB X)  : pz_Cd en 1 72 [.ref (a 67), .ref (a 1)] (sH h a (sq a) X) 0 0 (pz_ret (some (.int (zI (xnk X)))) (sH h a (sq a) X)) := by
  refine pz_in pzt_X4_nextIndex ?_
  obtain ⟨hR, hn0, hn1, hm0, hm1⟩ := id hX
  have loop : pz_WP 1 en (pz_Cd en (1 - 1)) 4 cX4_nextIndex 3 (some .int) [] false (pz_ret (some (.int (zI (xnk X)))) (sH h a (sq a) X)) 2 [some (.ref (a 67)), some (.ref (a 1)), some (.int (zI 0))] [] (sH h a (sq a) X) 0 0 := by
    refine zup (P := fun k => (∀ j : Int, 0 ≤ j → j < k → ¬ X 67 5 < X (7 + 5 * j) 0) → pz_WP 1 en (pz_Cd en (1 - 1)) 4 cX4_nextIndex 3 (some .int) [] false (pz_ret (some (.int (zI (xnk X)))) (sH h a (sq a) X)) 2 [some (.ref (a 67)), some (.ref (a 1)), some (.int (zI k))] [] (sH h a (sq a) X) 0 0) (lo := 0) (hi := X 1 1) hn0 ?_ ?_ (fun j g1 g2 => absurd g2 (by omega))
    · intro hno
      refine pr_iload_n dX4_nextIndex_2 rfl ?_
      refine pr_aload_n dX4_nextIndex_3 rfl ?_
      refine pr_getf dX4_nextIndex_4 pzf_4_54 (sH_1 hj) rfl ?_
      refine zr_icmp_ge (tgt := 34) dX4_nextIndex_7 (by decide) (by first | exact hR _ _ | omega) (by first | exact hR _ _ | omega) (fun c7 => ?_) (fun c7 => by exfalso; omega)
      refine zr_iconst dX4_nextIndex_34 ?_
      exact pr_iret dX4_nextIndex_35 rfl rfl (zret (zfst_no (fun k g1 g2 => decide_eq_false (hno k g1 (by omega)))).symm)
    · intro k hk1 hk2 ih hno
      refine pr_iload_n dX4_nextIndex_2 rfl ?_
      refine pr_aload_n dX4_nextIndex_3 rfl ?_
      refine pr_getf dX4_nextIndex_4 pzf_4_54 (sH_1 hj) rfl ?_
      refine zr_icmp_ge (tgt := 34) dX4_nextIndex_7 (by decide) (by first | exact hR _ _ | omega) (by first | exact hR _ _ | omega) (fun c7 => by exfalso; omega) (fun c7 => ?_)
      refine pr_aload_n dX4_nextIndex_10 rfl ?_
      refine pr_getf dX4_nextIndex_11 pzf_4_59 (sH_1 hj) rfl ?_
      refine pr_iload_n dX4_nextIndex_14 rfl ?_
      refine zr_crow hj dX4_nextIndex_15 (by omega) (by omega) ?_
      refine pr_getf dX4_nextIndex_16 pzf_4_63 (sH_C hj (by omega) (by omega)) rfl ?_
      refine pr_aload_n dX4_nextIndex_19 rfl ?_
      refine pr_getf dX4_nextIndex_20 pzf_4_27 (sH_67 hj) rfl ?_
      refine zr_icmp_le (tgt := 28) dX4_nextIndex_23 (by decide) (by first | exact hR _ _ | omega) (by first | exact hR _ _ | omega) (fun c23 => ?_) (fun c23 => ?_)
      · refine zr_iinc dX4_nextIndex_28 rfl (by decide) rfl ?_
        refine pr_goto (tgt := 2) dX4_nextIndex_31 (by decide) ?_
        exact ih (fun j g1 g2 => by
              by_cases e : j = k
              · rw [e]; omega
              · exact hno j g1 (by omega))
      · refine pr_iload_n dX4_nextIndex_26 rfl ?_
        exact pr_iret dX4_nextIndex_27 rfl rfl (zret (zfst_eq hk1 (by omega) (decide_eq_true (by omega)) (fun j g1 g2 => decide_eq_false (hno j g1 g2))).symm)
  refine zr_iconst dX4_nextIndex_0 ?_
  refine pr_istore_n dX4_nextIndex_1 (by decide) rfl ?_
  exact loop
set_option maxRecDepth 100000 in
set_option maxHeartbeats 4000000 in
theorem kX4_nextNumber (hj : sj a) (hX : xB X)  : pz_Cd en 2 56 [.ref (a 67), .ref (a 1)] (sH h a (sq a) X) 0 0 (pz_ret (some (.int (zI (xnx X)))) (sH h a (sq a) X)) := by
  refine pz_in pzt_X4_nextNumber ?_
  obtain ⟨hR, hn0, hn1, hm0, hm1⟩ := id hX
  have hk := xnk_R hX
  refine pr_aload_n dX4_nextNumber_0 rfl ?_
  refine pr_aload_n dX4_nextNumber_1 rfl ?_
  refine zcv1i dX4_nextNumber_2 pzm_4_68 pzt_X4_nextIndex (sH_67 hj) (kX4_nextIndex hj hX) (by decide) (Nat.le_of_ble_eq_true rfl) (by decide) ?_
  refine pr_istore_n dX4_nextNumber_5 (by decide) rfl ?_
  refine pr_iload_n dX4_nextNumber_6 rfl ?_
  refine zr_if_ge (tgt := 14) dX4_nextNumber_7 (by decide) (by first | exact hR _ _ | omega) (fun c7 => ?_) (fun c7 => ?_)
  · refine pr_aload_n dX4_nextNumber_14 rfl ?_
    refine pr_getf dX4_nextNumber_15 pzf_4_59 (sH_1 hj) rfl ?_
    refine pr_iload_n dX4_nextNumber_18 rfl ?_
    refine zr_crow hj dX4_nextNumber_19 (by omega) (by omega) ?_
    refine pr_getf dX4_nextNumber_20 pzf_4_63 (sH_C hj (by omega) (by omega)) rfl ?_
    exact pr_iret dX4_nextNumber_23 rfl rfl (zret (by unfold xnx; first | rw [if_pos (by omega)] | rw [if_neg (by omega)]))
  · refine zr_iconst dX4_nextNumber_10 ?_
    refine pr_goto (tgt := 23) dX4_nextNumber_11 (by decide) ?_
    exact pr_iret dX4_nextNumber_23 rfl rfl (zret (by unfold xnx; first | rw [if_pos (by omega)] | rw [if_neg (by omega)]))
set_option maxRecDepth 100000 in
set_option maxHeartbeats 4000000 in
theorem kX4_lowerIndex (hj : sj a) (hX : xB X)  : pz_Cd en 1 57 [.ref (a 67), .ref (a 1)] (sH h a (sq a) X) 0 0 (pz_ret (some (.int (zI (xlkF X (X 1 1 - 1 + 1).toNat)))) (sH h a (sq a) X)) := by
  refine pz_in pzt_X4_lowerIndex ?_
  obtain ⟨hR, hn0, hn1, hm0, hm1⟩ := id hX
  have loop : pz_WP 1 en (pz_Cd en (1 - 1)) 4 cX4_lowerIndex 3 (some .int) [] false (pz_ret (some (.int (zI (xlkF X ((X 1 1 - 1) + 1).toNat)))) (sH h a (sq a) X)) 7 [some (.ref (a 67)), some (.ref (a 1)), some (.int (zI (X 1 1 - 1)))] [] (sH h a (sq a) X) 0 0 := by
    refine zdown (P := fun k => pz_WP 1 en (pz_Cd en (1 - 1)) 4 cX4_lowerIndex 3 (some .int) [] false (pz_ret (some (.int (zI (xlkF X (k + 1).toNat)))) (sH h a (sq a) X)) 7 [some (.ref (a 67)), some (.ref (a 1)), some (.int (zI k))] [] (sH h a (sq a) X) 0 0) (lo := -1) (hi := X 1 1 - 1) (by omega) ?_ ?_
    · skip
      refine pr_iload_n dX4_lowerIndex_7 rfl ?_
      refine zr_if_lt (tgt := 35) dX4_lowerIndex_8 (by decide) (by first | exact hR _ _ | omega) (fun c8 => ?_) (fun c8 => by exfalso; omega)
      refine zr_iconst dX4_lowerIndex_35 ?_
      exact pr_iret dX4_lowerIndex_36 rfl rfl (zret (by rfl))
    · intro k hk1 hk2 ih
      rw [xlkF_s hk1]
      refine pr_iload_n dX4_lowerIndex_7 rfl ?_
      refine zr_if_lt (tgt := 35) dX4_lowerIndex_8 (by decide) (by first | exact hR _ _ | omega) (fun c8 => by exfalso; omega) (fun c8 => ?_)
      refine pr_aload_n dX4_lowerIndex_11 rfl ?_
      refine pr_getf dX4_lowerIndex_12 pzf_4_59 (sH_1 hj) rfl ?_
      refine pr_iload_n dX4_lowerIndex_15 rfl ?_
      refine zr_crow hj dX4_lowerIndex_16 (by omega) (by omega) ?_
      refine pr_getf dX4_lowerIndex_17 pzf_4_63 (sH_C hj (by omega) (by omega)) rfl ?_
      refine pr_aload_n dX4_lowerIndex_20 rfl ?_
      refine pr_getf dX4_lowerIndex_21 pzf_4_27 (sH_67 hj) rfl ?_
      refine zr_icmp_ge (tgt := 29) dX4_lowerIndex_24 (by decide) (by first | exact hR _ _ | omega) (by first | exact hR _ _ | omega) (fun c24 => ?_) (fun c24 => ?_)
      · rw [if_neg (by omega)]
        refine zr_iinc dX4_lowerIndex_29 rfl (by decide) rfl ?_
        refine pr_goto (tgt := 7) dX4_lowerIndex_32 (by decide) ?_
        exact ih
      · refine pr_iload_n dX4_lowerIndex_27 rfl ?_
        exact pr_iret dX4_lowerIndex_28 rfl rfl (zret (by rw [if_pos (by omega)]))
  refine pr_aload_n dX4_lowerIndex_0 rfl ?_
  refine pr_getf dX4_lowerIndex_1 pzf_4_54 (sH_1 hj) rfl ?_
  refine zr_iconst dX4_lowerIndex_4 ?_
  refine zr_isub dX4_lowerIndex_5 ?_
  refine pr_istore_n dX4_lowerIndex_6 (by decide) rfl ?_
  exact loop
set_option maxRecDepth 100000 in
set_option maxHeartbeats 4000000 in
theorem kX4_tenthsSinceLast (hj : sj a) (hX : xB X)  : pz_Cd en 1 58 [.ref (a 67)] (sH h a (sq a) X) 0 0 (pz_ret (some (.int (zI (xsi X)))) (sH h a (sq a) X)) := by
  refine pz_in pzt_X4_tenthsSinceLast ?_
  obtain ⟨hR, hn0, hn1, hm0, hm1⟩ := id hX
  refine pr_aload_n dX4_tenthsSinceLast_0 rfl ?_
  refine pr_getf dX4_tenthsSinceLast_1 pzf_4_27 (sH_67 hj) rfl ?_
  refine zr_if_ne (tgt := 11) dX4_tenthsSinceLast_4 (by decide) (by first | exact hR _ _ | omega) (fun c4 => ?_) (fun c4 => ?_)
  · refine pr_aload_n dX4_tenthsSinceLast_11 rfl ?_
    refine pr_getf dX4_tenthsSinceLast_12 pzf_4_37 (sH_67 hj) rfl ?_
    refine pr_aload_n dX4_tenthsSinceLast_15 rfl ?_
    refine pr_getf dX4_tenthsSinceLast_16 pzf_4_31 (sH_67 hj) rfl ?_
    refine zr_isub dX4_tenthsSinceLast_19 ?_
    exact pr_iret dX4_tenthsSinceLast_20 rfl rfl (zret (by unfold xsi; first | rw [if_pos (by omega)] | rw [if_neg (by omega)]))
  · refine zr_iconst dX4_tenthsSinceLast_7 ?_
    refine pr_goto (tgt := 20) dX4_tenthsSinceLast_8 (by decide) ?_
    exact pr_iret dX4_tenthsSinceLast_20 rfl rfl (zret (by unfold xsi; first | rw [if_pos (by omega)] | rw [if_neg (by omega)]))
set_option maxRecDepth 100000 in
set_option maxHeartbeats 4000000 in
theorem kX4_tenthsToFollow (hj : sj a) (hX : xB X)  (hs : 0 ≤ xsi X ∧ xsi X ≤ 100000) (hF : ∀ k : Int, 0 ≤ k → k < X 1 1 → -1 ≤ X (7 + 5 * k) 1 ∧ X (7 + 5 * k) 1 ≤ 6000) : pz_Cd en 2 59 [.ref (a 67), .ref (a 1)] (sH h a (sq a) X) 0 0 (pz_ret (some (.int (zI (xtf X)))) (sH h a (sq a) X)) := by
  refine pz_in pzt_X4_tenthsToFollow ?_
  obtain ⟨hR, hn0, hn1, hm0, hm1⟩ := id hX
  have hk := xix_R hX (X 67 5)
  refine pr_aload_n dX4_tenthsToFollow_0 rfl ?_
  refine pr_aload_n dX4_tenthsToFollow_1 rfl ?_
  refine pr_getf dX4_tenthsToFollow_2 pzf_4_27 (sH_67 hj) rfl ?_
  refine zcv1i dX4_tenthsToFollow_5 pzm_4_72 pzt_X1_indexOf (sH_1 hj) (kX1_indexOf hj hX (by first | exact hR _ _ | omega)) (by decide) (Nat.le_of_ble_eq_true rfl) (by decide) ?_
  refine pr_istore_n dX4_tenthsToFollow_8 (by decide) rfl ?_
  refine pr_iload_n dX4_tenthsToFollow_9 rfl ?_
  refine zr_if_lt (tgt := 23) dX4_tenthsToFollow_10 (by decide) (by first | exact hR _ _ | omega) (fun c10 => ?_) (fun c10 => ?_)
  · refine zr_iconst dX4_tenthsToFollow_23 ?_
    exact pr_iret dX4_tenthsToFollow_24 rfl rfl (zret (by
      unfold xtf
      repeat' split
      all_goals first | rfl | omega))
  · refine pr_iload_n dX4_tenthsToFollow_13 rfl ?_
    refine zr_iconst dX4_tenthsToFollow_14 ?_
    refine zr_iadd dX4_tenthsToFollow_15 ?_
    refine pr_aload_n dX4_tenthsToFollow_16 rfl ?_
    refine pr_getf dX4_tenthsToFollow_17 pzf_4_54 (sH_1 hj) rfl ?_
    refine zr_icmp_lt (tgt := 25) dX4_tenthsToFollow_20 (by decide) (by first | exact hR _ _ | omega) (by first | exact hR _ _ | omega) (fun c20 => ?_) (fun c20 => ?_)
    · have hF := hF (xix X (X 67 5)) (by omega) (by omega)
      refine pr_aload_n dX4_tenthsToFollow_25 rfl ?_
      refine pr_getf dX4_tenthsToFollow_26 pzf_4_59 (sH_1 hj) rfl ?_
      refine pr_iload_n dX4_tenthsToFollow_29 rfl ?_
      refine zr_crow hj dX4_tenthsToFollow_30 (by omega) (by omega) ?_
      refine pr_getf dX4_tenthsToFollow_31 pzf_4_75 (sH_C hj (by omega) (by omega)) rfl ?_
      refine pr_istore_n dX4_tenthsToFollow_34 (by decide) rfl ?_
      refine pr_iload_n dX4_tenthsToFollow_35 rfl ?_
      refine zr_iconst dX4_tenthsToFollow_36 ?_
      refine zr_icmp_ne (tgt := 44) dX4_tenthsToFollow_37 (by decide) (by first | exact hR _ _ | omega) (by first | exact hR _ _ | omega) (fun c37 => ?_) (fun c37 => ?_)
      · refine zr_iconst dX4_tenthsToFollow_44 ?_
        refine pr_iload_n dX4_tenthsToFollow_45 rfl ?_
        refine pr_aload_n dX4_tenthsToFollow_46 rfl ?_
        refine zcv0i dX4_tenthsToFollow_47 pzm_4_78 pzt_X4_tenthsSinceLast (sH_67 hj) (kX4_tenthsSinceLast hj hX) (by decide) (Nat.le_of_ble_eq_true rfl) (by decide) ?_
        refine zr_isub dX4_tenthsToFollow_50 ?_
        refine zr_max dX4_tenthsToFollow_51 pzx_4_82 (by decide) (Nat.le_of_ble_eq_true rfl) (by decide) (by omega) ?_
        exact pr_iret dX4_tenthsToFollow_54 rfl rfl (zret (by
      unfold xtf
      repeat' split
      all_goals first | rfl | omega))
      · refine zr_iconst dX4_tenthsToFollow_40 ?_
        refine pr_goto (tgt := 54) dX4_tenthsToFollow_41 (by decide) ?_
        exact pr_iret dX4_tenthsToFollow_54 rfl rfl (zret (by
      unfold xtf
      repeat' split
      all_goals first | rfl | omega))
    · refine zr_iconst dX4_tenthsToFollow_23 ?_
      exact pr_iret dX4_tenthsToFollow_24 rfl rfl (zret (by
      unfold xtf
      repeat' split
      all_goals first | rfl | omega))
set_option maxRecDepth 100000 in
set_option maxHeartbeats 4000000 in
theorem kX4_hasTimeFor (hj : sj a) (hX : xB X)  {t : Int} (t1 : 0 ≤ t ∧ t ≤ 10000) (hp : 0 ≤ X 67 8 ∧ X 67 8 ≤ 100000) : pz_Cd en 1 62 [.ref (a 67), .int (zI t)] (sH h a (sq a) X) 0 0 (pz_ret (some (.int (zI (bI (X 67 8 + t ≤ 100000))))) (sH h a (sq a) X)) := by
  refine pz_in pzt_X4_hasTimeFor ?_
  obtain ⟨hR, hn0, hn1, hm0, hm1⟩ := id hX
  refine pr_aload_n dX4_hasTimeFor_0 rfl ?_
  refine pr_getf dX4_hasTimeFor_1 pzf_4_37 (sH_67 hj) rfl ?_
  refine pr_iload_n dX4_hasTimeFor_4 rfl ?_
  refine zr_iadd dX4_hasTimeFor_5 ?_
  refine zr_ldc 100000 dX4_hasTimeFor_6 pzk_4_100 (by decide) ?_
  refine zr_icmp_gt (tgt := 15) dX4_hasTimeFor_8 (by decide) (by omega) (by decide) (fun c8 => ?_) (fun c8 => ?_)
  · refine zr_iconst dX4_hasTimeFor_15 ?_
    exact pr_iret dX4_hasTimeFor_16 rfl rfl (zret (by first | exact (bI_t (by omega)).symm | exact (bI_f (by omega)).symm))
  · refine zr_iconst dX4_hasTimeFor_11 ?_
    refine pr_goto (tgt := 16) dX4_hasTimeFor_12 (by decide) ?_
    exact pr_iret dX4_hasTimeFor_16 rfl rfl (zret (by first | exact (bI_t (by omega)).symm | exact (bI_f (by omega)).symm))
end cls
