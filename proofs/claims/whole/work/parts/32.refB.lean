/-! the reference: what an entry does -/
abbrev rFt : Type := Int × (Int → Int) × (Int → Int) × (Nat → Int)
def rGd (s lv b : Int → Int) (F : Nat → Int) (x y z : Int) : rFt := (bI (0 < (rGh s lv x y z 0 False).1), (if 0 < (rGh s lv x y z 0 False).1 then zcpy b (rGh s lv x y z 0 False).2.1 0 0 462 else (rGh s lv x y z 0 False).2.1), (rGh s lv x y z 0 False).2.2, (if 0 < (rGh s lv x y z 0 False).1 then va_up F 6 (rGh s lv x y z 0 False).1 else F))
def rFl (s lv b : Int → Int) (F : Nat → Int) (k x y z : Int) : rFt :=
  if k = 99 then (bI (0 < (rAd s x).1), (rAd s x).2, lv, F)
  else if k = 120 then (bI (0 < (rRX s lv b F x False).1), (rRX s lv b F x False).2.1, (rRX s lv b F x False).2.2.1, (rRX s lv b F x False).2.2.2)
  else if k = 115 then (if (0 ≤ rpl s x ∧ 0 ≤ y ∧ y ≤ 11) ∧ z ≤ 100 then rGd s lv b F x y z else (1, s, lv, F))
  else if k = 114 then (if 0 ≤ rpl s x ∧ 0 ≤ y ∧ y ≤ 11 then rGd s lv b F x y (-1) else (1, s, lv, F))
  else if k = 103 then (if rnx s (s 2) = 0 then (1, zcpy b s 0 0 462, lv, va_up F 6 4) else (0, rgo s (rnx s (s 2)), lv, F))
  else if k = 106 then (if 0 ≤ rpl s x then (0, rgo s x, lv, F) else (1, s, lv, F))
  else (bI (0 < (rPs s x).1), (rPs s x).2, lv, F)
theorem rAd_c (s : Int → Int) (n : Int) : 0 ≤ (rAd s n).1 ∧ (rAd s n).1 ≤ 2 := by
  unfold rAd
  split
  · split <;> simp
  · simp
theorem rRX_c (s lv b : Int → Int) (F : Nat → Int) (cue : Int) (hd : Prop) [Decidable hd] : 0 ≤ (rRX s lv b F cue hd).1 ∧ (rRX s lv b F cue hd).1 ≤ 2 := by
  unfold rRX
  split
  · split
    · simp
    · split <;> simp
  · simp
theorem rPs_c (s : Int → Int) (t : Int) : 0 ≤ (rPs s t).1 ∧ (rPs s t).1 ≤ 2 := by
  unfold rPs
  split
  · split <;> simp
  · simp
theorem rgn_R (s : Int → Int) (cue : Int) : 0 ≤ rgn s cue ∧ rgn s cue ≤ 12 := by
  have h := zsum_b (f := fun c => bI (¬ rlv s (rpl s cue) c = s (402 + 5 * c + 1))) (B := 1) (fun k _ => by rcases bI_01 (¬ rlv s (rpl s cue) k = s (402 + 5 * k + 1)) with e | e <;> (show 0 ≤ bI _ ∧ bI _ ≤ 1; rw [e]; decide)) 12
  unfold rgn
  omega
section ref
variable {en : pz_Env} {h0 : pz_H} {a : Nat → Nat} {s lv : Int → Int} {A : Nat → Int → Int} {F : Nat → Int}
set_option maxRecDepth 100000 in
set_option maxHeartbeats 4000000 in
theorem kX7_fails_c (hj : oj 9 a) (hi : rI s) (hL : ∀ i, zR (lv i)) {e : Int} (f1 : 0 ≤ e) (f2 : e < 60) (hN : ∀ i, 0 ≤ A 8 i ∧ A 8 i < 10000) (hk : A 7 e = 99)  : pz_Cd en 8 208 [.ref (a 0), .int (zI e)] (rH h0 a s lv A F) 0 0 (pz_ret (some (.int (zI (rFl s lv (A 2) F (A 7 e) (A 8 (3 * e)) (A 8 (3 * e + 1)) (A 8 (3 * e + 2))).1))) (rH h0 a (rFl s lv (A 2) F (A 7 e) (A 8 (3 * e)) (A 8 (3 * e + 1)) (A 8 (3 * e + 2))).2.1 (rFl s lv (A 2) F (A 7 e) (A 8 (3 * e)) (A 8 (3 * e + 1)) (A 8 (3 * e + 2))).2.2.1 A (rFl s lv (A 2) F (A 7 e) (A 8 (3 * e)) (A 8 (3 * e + 1)) (A 8 (3 * e + 2))).2.2.2)) := by
  refine pz_in pzt_X7_fails ?_
  have hs := rI_B hi
  obtain ⟨hR, hs0, hs1, hs2, hs3⟩ := id hs
  have n0 := hN (3 * e)
  have n1 := hN (3 * e + 1)
  have n2 := hN (3 * e + 2)
  have hNz : ∀ i, zR (A 8 i) := fun i => by have := hN i; omega
  rw [show (rFl s lv (A 2) F (A 7 e) (A 8 (3 * e)) (A 8 (3 * e + 1)) (A 8 (3 * e + 2))) = rFl s lv (A 2) F 99 (A 8 (3 * e)) (A 8 (3 * e + 1)) (A 8 (3 * e + 2)) by rw [hk]]
  unfold rFl
  rw [if_pos rfl]
  have hc := rAd_c s (A 8 (3 * e))
  refine pr_aload_n dX7_fails_0 rfl ?_
  refine pr_getf dX7_fails_1 pzf_7_36 (rH_0 hj) rfl ?_
  refine zr_iconst dX7_fails_4 ?_
  refine pr_iload_n dX7_fails_5 rfl ?_
  refine zr_imul dX7_fails_6 ?_
  refine zr_iald dX7_fails_7 (rH_8 hj) (by omega) (by decide) ?_
  refine pr_istore_n dX7_fails_8 (by decide) rfl ?_
  refine pr_aload_n dX7_fails_9 rfl ?_
  refine pr_getf dX7_fails_10 pzf_7_36 (rH_0 hj) rfl ?_
  refine zr_iconst dX7_fails_13 ?_
  refine pr_iload_n dX7_fails_14 rfl ?_
  refine zr_imul dX7_fails_15 ?_
  refine zr_iconst dX7_fails_16 ?_
  refine zr_iadd dX7_fails_17 ?_
  refine zr_iald dX7_fails_18 (rH_8 hj) (by omega) (by decide) ?_
  refine pr_istore_n dX7_fails_19 (by decide) rfl ?_
  refine pr_aload_n dX7_fails_20 rfl ?_
  refine pr_getf dX7_fails_21 pzf_7_33 (rH_0 hj) rfl ?_
  refine pr_iload_n dX7_fails_24 rfl ?_
  refine zr_cald dX7_fails_25 (rH_7 hj) (by omega) (by decide) ?_
  rw [hk]
  refine pr_lsw (off := 58) (tgt := 84) dX7_fails_26 (by decide) (by decide) (by decide) ?_
  refine pr_aload_n dX7_fails_84 rfl ?_
  refine pr_iload_n dX7_fails_85 rfl ?_
  refine zcv1i dX7_fails_86 pzm_7_78 pzt_X7_doAdd (rH_0 hj) (kX7_doAdd hj hs (hNz _)) (by decide) (Nat.le_of_ble_eq_true rfl) (by decide) ?_
  refine zr_if_le (tgt := 96) dX7_fails_89 (by decide) (by omega) (fun c89 => ?_) (fun c89 => ?_)
  · refine zr_iconst dX7_fails_96 ?_
    exact pr_iret dX7_fails_97 rfl (by first | rfl | decide) (zret (by first | exact (bI_t (show 0 < (rAd s (A 8 (3 * e))).1 from by omega)).symm | exact (bI_f (show ¬ 0 < (rAd s (A 8 (3 * e))).1 from by omega)).symm))
  · refine zr_iconst dX7_fails_92 ?_
    refine pr_goto (tgt := 97) dX7_fails_93 (by decide) ?_
    exact pr_iret dX7_fails_97 rfl (by first | rfl | decide) (zret (by first | exact (bI_t (show 0 < (rAd s (A 8 (3 * e))).1 from by omega)).symm | exact (bI_f (show ¬ 0 < (rAd s (A 8 (3 * e))).1 from by omega)).symm))
set_option maxRecDepth 100000 in
set_option maxHeartbeats 4000000 in
theorem kX7_fails_x (hj : oj 9 a) (hi : rI s) (hL : ∀ i, zR (lv i)) {e : Int} (f1 : 0 ≤ e) (f2 : e < 60) (hN : ∀ i, 0 ≤ A 8 i ∧ A 8 i < 10000) (hk : A 7 e = 120)  : pz_Cd en 8 208 [.ref (a 0), .int (zI e)] (rH h0 a s lv A F) 0 0 (pz_ret (some (.int (zI (rFl s lv (A 2) F (A 7 e) (A 8 (3 * e)) (A 8 (3 * e + 1)) (A 8 (3 * e + 2))).1))) (rH h0 a (rFl s lv (A 2) F (A 7 e) (A 8 (3 * e)) (A 8 (3 * e + 1)) (A 8 (3 * e + 2))).2.1 (rFl s lv (A 2) F (A 7 e) (A 8 (3 * e)) (A 8 (3 * e + 1)) (A 8 (3 * e + 2))).2.2.1 A (rFl s lv (A 2) F (A 7 e) (A 8 (3 * e)) (A 8 (3 * e + 1)) (A 8 (3 * e + 2))).2.2.2)) := by
  refine pz_in pzt_X7_fails ?_
  have hs := rI_B hi
  obtain ⟨hR, hs0, hs1, hs2, hs3⟩ := id hs
  have n0 := hN (3 * e)
  have n1 := hN (3 * e + 1)
  have n2 := hN (3 * e + 2)
  have hNz : ∀ i, zR (A 8 i) := fun i => by have := hN i; omega
  rw [show (rFl s lv (A 2) F (A 7 e) (A 8 (3 * e)) (A 8 (3 * e + 1)) (A 8 (3 * e + 2))) = rFl s lv (A 2) F 120 (A 8 (3 * e)) (A 8 (3 * e + 1)) (A 8 (3 * e + 2)) by rw [hk]]
  unfold rFl
  rw [if_neg (by decide), if_pos rfl]
  have hc := rRX_c s lv (A 2) F (A 8 (3 * e)) False
  refine pr_aload_n dX7_fails_0 rfl ?_
  refine pr_getf dX7_fails_1 pzf_7_36 (rH_0 hj) rfl ?_
  refine zr_iconst dX7_fails_4 ?_
  refine pr_iload_n dX7_fails_5 rfl ?_
  refine zr_imul dX7_fails_6 ?_
  refine zr_iald dX7_fails_7 (rH_8 hj) (by omega) (by decide) ?_
  refine pr_istore_n dX7_fails_8 (by decide) rfl ?_
  refine pr_aload_n dX7_fails_9 rfl ?_
  refine pr_getf dX7_fails_10 pzf_7_36 (rH_0 hj) rfl ?_
  refine zr_iconst dX7_fails_13 ?_
  refine pr_iload_n dX7_fails_14 rfl ?_
  refine zr_imul dX7_fails_15 ?_
  refine zr_iconst dX7_fails_16 ?_
  refine zr_iadd dX7_fails_17 ?_
  refine zr_iald dX7_fails_18 (rH_8 hj) (by omega) (by decide) ?_
  refine pr_istore_n dX7_fails_19 (by decide) rfl ?_
  refine pr_aload_n dX7_fails_20 rfl ?_
  refine pr_getf dX7_fails_21 pzf_7_33 (rH_0 hj) rfl ?_
  refine pr_iload_n dX7_fails_24 rfl ?_
  refine zr_cald dX7_fails_25 (rH_7 hj) (by omega) (by decide) ?_
  rw [hk]
  refine pr_lsw (off := 72) (tgt := 98) dX7_fails_26 (by decide) (by decide) (by decide) ?_
  refine pr_aload_n dX7_fails_98 rfl ?_
  refine pr_iload_n dX7_fails_99 rfl ?_
  refine zr_iconst dX7_fails_100 ?_
  refine zcv2i dX7_fails_101 pzm_7_155 pzt_X7_doRemove (rH_0 hj) (kX7_doRemove (hd := False) hj hs hL (hNz _)) (by decide) (Nat.le_of_ble_eq_true rfl) (by decide) ?_
  refine zr_if_le (tgt := 111) dX7_fails_104 (by decide) (by omega) (fun c104 => ?_) (fun c104 => ?_)
  · refine zr_iconst dX7_fails_111 ?_
    exact pr_iret dX7_fails_112 rfl rfl (zret (by first | exact (bI_t (show 0 < (rRX s lv (A 2) F (A 8 (3 * e)) False).1 from by omega)).symm | exact (bI_f (show ¬ 0 < (rRX s lv (A 2) F (A 8 (3 * e)) False).1 from by omega)).symm))
  · refine zr_iconst dX7_fails_107 ?_
    refine pr_goto (tgt := 112) dX7_fails_108 (by decide) ?_
    exact pr_iret dX7_fails_112 rfl rfl (zret (by first | exact (bI_t (show 0 < (rRX s lv (A 2) F (A 8 (3 * e)) False).1 from by omega)).symm | exact (bI_f (show ¬ 0 < (rRX s lv (A 2) F (A 8 (3 * e)) False).1 from by omega)).symm))
set_option maxRecDepth 100000 in
set_option maxHeartbeats 4000000 in
theorem kX7_fails_s (hj : oj 9 a) (hi : rI s) (hL : ∀ i, zR (lv i)) {e : Int} (f1 : 0 ≤ e) (f2 : e < 60) (hN : ∀ i, 0 ≤ A 8 i ∧ A 8 i < 10000) (hk : A 7 e = 115)  : pz_Cd en 8 208 [.ref (a 0), .int (zI e)] (rH h0 a s lv A F) 0 0 (pz_ret (some (.int (zI (rFl s lv (A 2) F (A 7 e) (A 8 (3 * e)) (A 8 (3 * e + 1)) (A 8 (3 * e + 2))).1))) (rH h0 a (rFl s lv (A 2) F (A 7 e) (A 8 (3 * e)) (A 8 (3 * e + 1)) (A 8 (3 * e + 2))).2.1 (rFl s lv (A 2) F (A 7 e) (A 8 (3 * e)) (A 8 (3 * e + 1)) (A 8 (3 * e + 2))).2.2.1 A (rFl s lv (A 2) F (A 7 e) (A 8 (3 * e)) (A 8 (3 * e + 1)) (A 8 (3 * e + 2))).2.2.2)) := by
  refine pz_in pzt_X7_fails ?_
  have hs := rI_B hi
  obtain ⟨hR, hs0, hs1, hs2, hs3⟩ := id hs
  have n0 := hN (3 * e)
  have n1 := hN (3 * e + 1)
  have n2 := hN (3 * e + 2)
  have hNz : ∀ i, zR (A 8 i) := fun i => by have := hN i; omega
  rw [show (rFl s lv (A 2) F (A 7 e) (A 8 (3 * e)) (A 8 (3 * e + 1)) (A 8 (3 * e + 2))) = rFl s lv (A 2) F 115 (A 8 (3 * e)) (A 8 (3 * e + 1)) (A 8 (3 * e + 2)) by rw [hk]]
  unfold rFl
  rw [if_neg (by decide), if_neg (by decide), if_pos rfl]
  have hc := rGh_c s lv (A 8 (3 * e)) (A 8 (3 * e + 1)) (A 8 (3 * e + 2)) 0 False
  refine pr_aload_n dX7_fails_0 rfl ?_
  refine pr_getf dX7_fails_1 pzf_7_36 (rH_0 hj) rfl ?_
  refine zr_iconst dX7_fails_4 ?_
  refine pr_iload_n dX7_fails_5 rfl ?_
  refine zr_imul dX7_fails_6 ?_
  refine zr_iald dX7_fails_7 (rH_8 hj) (by omega) (by decide) ?_
  refine pr_istore_n dX7_fails_8 (by decide) rfl ?_
  refine pr_aload_n dX7_fails_9 rfl ?_
  refine pr_getf dX7_fails_10 pzf_7_36 (rH_0 hj) rfl ?_
  refine zr_iconst dX7_fails_13 ?_
  refine pr_iload_n dX7_fails_14 rfl ?_
  refine zr_imul dX7_fails_15 ?_
  refine zr_iconst dX7_fails_16 ?_
  refine zr_iadd dX7_fails_17 ?_
  refine zr_iald dX7_fails_18 (rH_8 hj) (by omega) (by decide) ?_
  refine pr_istore_n dX7_fails_19 (by decide) rfl ?_
  refine pr_aload_n dX7_fails_20 rfl ?_
  refine pr_getf dX7_fails_21 pzf_7_33 (rH_0 hj) rfl ?_
  refine pr_iload_n dX7_fails_24 rfl ?_
  refine zr_cald dX7_fails_25 (rH_7 hj) (by omega) (by decide) ?_
  rw [hk]
  refine pr_lsw (off := 87) (tgt := 113) dX7_fails_26 (by decide) (by decide) (by decide) ?_
  refine pr_aload_n dX7_fails_113 rfl ?_
  refine pr_getf dX7_fails_114 pzf_7_36 (rH_0 hj) rfl ?_
  refine zr_iconst dX7_fails_117 ?_
  refine pr_iload_n dX7_fails_118 rfl ?_
  refine zr_imul dX7_fails_119 ?_
  refine zr_iconst dX7_fails_120 ?_
  refine zr_iadd dX7_fails_121 ?_
  refine zr_iald dX7_fails_122 (rH_8 hj) (by omega) (by decide) ?_
  refine pr_istore dX7_fails_123 (by decide) rfl ?_
  refine pr_aload_n dX7_fails_125 rfl ?_
  refine pr_iload_n dX7_fails_126 rfl ?_
  refine zcv1i dX7_fails_127 pzm_7_242 pzt_X7_isTold (rH_0 hj) (kX7_isTold hj hs f1 f2 hNz) (by decide) (Nat.le_of_ble_eq_true rfl) (by decide) ?_
  refine zr_if_eq (tgt := 153) dX7_fails_130 (by decide) (bI_R _) (fun c130 => ?_) (fun c130 => ?_)
  · have b130 := bI_0 c130
    rw [if_neg (fun q => b130 q.1)]
    refine zr_iconst dX7_fails_153 ?_
    refine pr_goto (tgt := 158) dX7_fails_154 (by decide) ?_
    exact pr_iret dX7_fails_158 rfl rfl (by first | exact zret rfl | exact zret (by first | exact (bI_t (show 0 < (rGh s lv (A 8 (3 * e)) (A 8 (3 * e + 1)) (A 8 (3 * e + 2)) 0 False).1 from by omega)).symm | exact (bI_f (show ¬ 0 < (rGh s lv (A 8 (3 * e)) (A 8 (3 * e + 1)) (A 8 (3 * e + 2)) 0 False).1 from by omega)).symm))
  · have b130 := bI_ne c130
    skip
    refine pr_iload dX7_fails_133 rfl ?_
    refine zr_bipush dX7_fails_135 (by decide) ?_
    refine zr_icmp_gt (tgt := 153) dX7_fails_137 (by decide) (by first | exact hR _ | omega) (by first | exact hR _ | omega) (fun c137 => ?_) (fun c137 => ?_)
    · rw [if_neg (fun q => absurd q.2 (by omega))]
      refine zr_iconst dX7_fails_153 ?_
      refine pr_goto (tgt := 158) dX7_fails_154 (by decide) ?_
      exact pr_iret dX7_fails_158 rfl rfl (by first | exact zret rfl | exact zret (by first | exact (bI_t (show 0 < (rGh s lv (A 8 (3 * e)) (A 8 (3 * e + 1)) (A 8 (3 * e + 2)) 0 False).1 from by omega)).symm | exact (bI_f (show ¬ 0 < (rGh s lv (A 8 (3 * e)) (A 8 (3 * e + 1)) (A 8 (3 * e + 2)) 0 False).1 from by omega)).symm))
    · rw [if_pos ⟨b130, by omega⟩]
      unfold rGd
      refine pr_aload_n dX7_fails_140 rfl ?_
      refine pr_iload_n dX7_fails_141 rfl ?_
      refine pr_iload_n dX7_fails_142 rfl ?_
      refine pr_iload dX7_fails_143 rfl ?_
      refine zr_iconst dX7_fails_145 ?_
      refine zr_iconst dX7_fails_146 ?_
      refine zcv5i dX7_fails_147 pzm_7_142 pzt_X7_doGive (rH_0 hj) (kX7_doGive (hd := False) hj hs hL (hNz _) b130.1 b130.2.1 b130.2.2 (hNz _) (by decide)) (by decide) (Nat.le_of_ble_eq_true rfl) (by decide) ?_
      refine zr_if_le (tgt := 157) dX7_fails_150 (by decide) (by omega) (fun c150 => ?_) (fun c150 => ?_)
      · refine zr_iconst dX7_fails_157 ?_
        exact pr_iret dX7_fails_158 rfl rfl (by first | exact zret rfl | exact zret (by first | exact (bI_t (show 0 < (rGh s lv (A 8 (3 * e)) (A 8 (3 * e + 1)) (A 8 (3 * e + 2)) 0 False).1 from by omega)).symm | exact (bI_f (show ¬ 0 < (rGh s lv (A 8 (3 * e)) (A 8 (3 * e + 1)) (A 8 (3 * e + 2)) 0 False).1 from by omega)).symm))
      · refine zr_iconst dX7_fails_153 ?_
        refine pr_goto (tgt := 158) dX7_fails_154 (by decide) ?_
        exact pr_iret dX7_fails_158 rfl rfl (by first | exact zret rfl | exact zret (by first | exact (bI_t (show 0 < (rGh s lv (A 8 (3 * e)) (A 8 (3 * e + 1)) (A 8 (3 * e + 2)) 0 False).1 from by omega)).symm | exact (bI_f (show ¬ 0 < (rGh s lv (A 8 (3 * e)) (A 8 (3 * e + 1)) (A 8 (3 * e + 2)) 0 False).1 from by omega)).symm))
set_option maxRecDepth 100000 in
set_option maxHeartbeats 4000000 in
theorem kX7_fails_r (hj : oj 9 a) (hi : rI s) (hL : ∀ i, zR (lv i)) {e : Int} (f1 : 0 ≤ e) (f2 : e < 60) (hN : ∀ i, 0 ≤ A 8 i ∧ A 8 i < 10000) (hk : A 7 e = 114)  : pz_Cd en 8 208 [.ref (a 0), .int (zI e)] (rH h0 a s lv A F) 0 0 (pz_ret (some (.int (zI (rFl s lv (A 2) F (A 7 e) (A 8 (3 * e)) (A 8 (3 * e + 1)) (A 8 (3 * e + 2))).1))) (rH h0 a (rFl s lv (A 2) F (A 7 e) (A 8 (3 * e)) (A 8 (3 * e + 1)) (A 8 (3 * e + 2))).2.1 (rFl s lv (A 2) F (A 7 e) (A 8 (3 * e)) (A 8 (3 * e + 1)) (A 8 (3 * e + 2))).2.2.1 A (rFl s lv (A 2) F (A 7 e) (A 8 (3 * e)) (A 8 (3 * e + 1)) (A 8 (3 * e + 2))).2.2.2)) := by
  refine pz_in pzt_X7_fails ?_
  have hs := rI_B hi
  obtain ⟨hR, hs0, hs1, hs2, hs3⟩ := id hs
  have n0 := hN (3 * e)
  have n1 := hN (3 * e + 1)
  have n2 := hN (3 * e + 2)
  have hNz : ∀ i, zR (A 8 i) := fun i => by have := hN i; omega
  rw [show (rFl s lv (A 2) F (A 7 e) (A 8 (3 * e)) (A 8 (3 * e + 1)) (A 8 (3 * e + 2))) = rFl s lv (A 2) F 114 (A 8 (3 * e)) (A 8 (3 * e + 1)) (A 8 (3 * e + 2)) by rw [hk]]
  unfold rFl
  rw [if_neg (by decide), if_neg (by decide), if_neg (by decide), if_pos rfl]
  have hc := rGh_c s lv (A 8 (3 * e)) (A 8 (3 * e + 1)) (-1) 0 False
  refine pr_aload_n dX7_fails_0 rfl ?_
  refine pr_getf dX7_fails_1 pzf_7_36 (rH_0 hj) rfl ?_
  refine zr_iconst dX7_fails_4 ?_
  refine pr_iload_n dX7_fails_5 rfl ?_
  refine zr_imul dX7_fails_6 ?_
  refine zr_iald dX7_fails_7 (rH_8 hj) (by omega) (by decide) ?_
  refine pr_istore_n dX7_fails_8 (by decide) rfl ?_
  refine pr_aload_n dX7_fails_9 rfl ?_
  refine pr_getf dX7_fails_10 pzf_7_36 (rH_0 hj) rfl ?_
  refine zr_iconst dX7_fails_13 ?_
  refine pr_iload_n dX7_fails_14 rfl ?_
  refine zr_imul dX7_fails_15 ?_
  refine zr_iconst dX7_fails_16 ?_
  refine zr_iadd dX7_fails_17 ?_
  refine zr_iald dX7_fails_18 (rH_8 hj) (by omega) (by decide) ?_
  refine pr_istore_n dX7_fails_19 (by decide) rfl ?_
  refine pr_aload_n dX7_fails_20 rfl ?_
  refine pr_getf dX7_fails_21 pzf_7_33 (rH_0 hj) rfl ?_
  refine pr_iload_n dX7_fails_24 rfl ?_
  refine zr_cald dX7_fails_25 (rH_7 hj) (by omega) (by decide) ?_
  rw [hk]
  refine pr_lsw (off := 133) (tgt := 159) dX7_fails_26 (by decide) (by decide) (by decide) ?_
  refine pr_aload_n dX7_fails_159 rfl ?_
  refine pr_iload_n dX7_fails_160 rfl ?_
  refine zcv1i dX7_fails_161 pzm_7_242 pzt_X7_isTold (rH_0 hj) (kX7_isTold hj hs f1 f2 hNz) (by decide) (Nat.le_of_ble_eq_true rfl) (by decide) ?_
  refine zr_if_eq (tgt := 179) dX7_fails_164 (by decide) (bI_R _) (fun c164 => ?_) (fun c164 => ?_)
  · have b164 := bI_0 c164
    rw [if_neg b164]
    refine zr_iconst dX7_fails_179 ?_
    refine pr_goto (tgt := 184) dX7_fails_180 (by decide) ?_
    exact pr_iret dX7_fails_184 rfl rfl (by first | exact zret rfl | exact zret (by first | exact (bI_t (show 0 < (rGh s lv (A 8 (3 * e)) (A 8 (3 * e + 1)) (-1) 0 False).1 from by omega)).symm | exact (bI_f (show ¬ 0 < (rGh s lv (A 8 (3 * e)) (A 8 (3 * e + 1)) (-1) 0 False).1 from by omega)).symm))
  · have b164 := bI_ne c164
    rw [if_pos b164]
    unfold rGd
    refine pr_aload_n dX7_fails_167 rfl ?_
    refine pr_iload_n dX7_fails_168 rfl ?_
    refine pr_iload_n dX7_fails_169 rfl ?_
    refine zr_iconst dX7_fails_170 ?_
    refine zr_iconst dX7_fails_171 ?_
    refine zr_iconst dX7_fails_172 ?_
    refine zcv5i dX7_fails_173 pzm_7_142 pzt_X7_doGive (rH_0 hj) (kX7_doGive (hd := False) hj hs hL (hNz _) b164.1 b164.2.1 b164.2.2 (by decide) (by decide)) (by decide) (Nat.le_of_ble_eq_true rfl) (by decide) ?_
    refine zr_if_le (tgt := 183) dX7_fails_176 (by decide) (by omega) (fun c176 => ?_) (fun c176 => ?_)
    · refine zr_iconst dX7_fails_183 ?_
      exact pr_iret dX7_fails_184 rfl rfl (by first | exact zret rfl | exact zret (by first | exact (bI_t (show 0 < (rGh s lv (A 8 (3 * e)) (A 8 (3 * e + 1)) (-1) 0 False).1 from by omega)).symm | exact (bI_f (show ¬ 0 < (rGh s lv (A 8 (3 * e)) (A 8 (3 * e + 1)) (-1) 0 False).1 from by omega)).symm))
    · refine zr_iconst dX7_fails_179 ?_
      refine pr_goto (tgt := 184) dX7_fails_180 (by decide) ?_
      exact pr_iret dX7_fails_184 rfl rfl (by first | exact zret rfl | exact zret (by first | exact (bI_t (show 0 < (rGh s lv (A 8 (3 * e)) (A 8 (3 * e + 1)) (-1) 0 False).1 from by omega)).symm | exact (bI_f (show ¬ 0 < (rGh s lv (A 8 (3 * e)) (A 8 (3 * e + 1)) (-1) 0 False).1 from by omega)).symm))
set_option maxRecDepth 100000 in
set_option maxHeartbeats 4000000 in
theorem kX7_fails_g1 (hj : oj 9 a) (hi : rI s) (hL : ∀ i, zR (lv i)) {e : Int} (f1 : 0 ≤ e) (f2 : e < 60) (hN : ∀ i, 0 ≤ A 8 i ∧ A 8 i < 10000) (hk : A 7 e = 103) (hg : ¬ rnx s (s 2) = 0) : pz_Cd en 8 208 [.ref (a 0), .int (zI e)] (rH h0 a s lv A F) 0 0 (pz_ret (some (.int (zI (rFl s lv (A 2) F (A 7 e) (A 8 (3 * e)) (A 8 (3 * e + 1)) (A 8 (3 * e + 2))).1))) (rH h0 a (rFl s lv (A 2) F (A 7 e) (A 8 (3 * e)) (A 8 (3 * e + 1)) (A 8 (3 * e + 2))).2.1 (rFl s lv (A 2) F (A 7 e) (A 8 (3 * e)) (A 8 (3 * e + 1)) (A 8 (3 * e + 2))).2.2.1 A (rFl s lv (A 2) F (A 7 e) (A 8 (3 * e)) (A 8 (3 * e + 1)) (A 8 (3 * e + 2))).2.2.2)) := by
  refine pz_in pzt_X7_fails ?_
  have hs := rI_B hi
  obtain ⟨hR, hs0, hs1, hs2, hs3⟩ := id hs
  have n0 := hN (3 * e)
  have n1 := hN (3 * e + 1)
  have n2 := hN (3 * e + 2)
  have hNz : ∀ i, zR (A 8 i) := fun i => by have := hN i; omega
  rw [show (rFl s lv (A 2) F (A 7 e) (A 8 (3 * e)) (A 8 (3 * e + 1)) (A 8 (3 * e + 2))) = rFl s lv (A 2) F 103 (A 8 (3 * e)) (A 8 (3 * e + 1)) (A 8 (3 * e + 2)) by rw [hk]]
  unfold rFl
  rw [if_neg (by decide), if_neg (by decide), if_neg (by decide), if_neg (by decide), if_pos rfl]
  rw [if_neg hg]
  refine pr_aload_n dX7_fails_0 rfl ?_
  refine pr_getf dX7_fails_1 pzf_7_36 (rH_0 hj) rfl ?_
  refine zr_iconst dX7_fails_4 ?_
  refine pr_iload_n dX7_fails_5 rfl ?_
  refine zr_imul dX7_fails_6 ?_
  refine zr_iald dX7_fails_7 (rH_8 hj) (by omega) (by decide) ?_
  refine pr_istore_n dX7_fails_8 (by decide) rfl ?_
  refine pr_aload_n dX7_fails_9 rfl ?_
  refine pr_getf dX7_fails_10 pzf_7_36 (rH_0 hj) rfl ?_
  refine zr_iconst dX7_fails_13 ?_
  refine pr_iload_n dX7_fails_14 rfl ?_
  refine zr_imul dX7_fails_15 ?_
  refine zr_iconst dX7_fails_16 ?_
  refine zr_iadd dX7_fails_17 ?_
  refine zr_iald dX7_fails_18 (rH_8 hj) (by omega) (by decide) ?_
  refine pr_istore_n dX7_fails_19 (by decide) rfl ?_
  refine pr_aload_n dX7_fails_20 rfl ?_
  refine pr_getf dX7_fails_21 pzf_7_33 (rH_0 hj) rfl ?_
  refine pr_iload_n dX7_fails_24 rfl ?_
  refine zr_cald dX7_fails_25 (rH_7 hj) (by omega) (by decide) ?_
  rw [hk]
  refine pr_lsw (off := 159) (tgt := 185) dX7_fails_26 (by decide) (by decide) (by decide) ?_
  refine pr_aload_n dX7_fails_185 rfl ?_
  refine zr_iconst dX7_fails_186 ?_
  refine zcv1i dX7_fails_187 pzm_7_177 pzt_X7_doGo (rH_0 hj) (kX7_doGo_n1 hj hi hg) (by decide) (Nat.le_of_ble_eq_true rfl) (by decide) ?_
  refine zr_if_le (tgt := 197) dX7_fails_190 (by decide) (by decide) (fun c190 => ?_) (fun c190 => by exfalso; omega)
  refine zr_iconst dX7_fails_197 ?_
  exact pr_iret dX7_fails_198 rfl rfl (zret rfl)
set_option maxRecDepth 100000 in
set_option maxHeartbeats 4000000 in
theorem kX7_fails_g0 (hj : oj 9 a) (hi : rI s) (hL : ∀ i, zR (lv i)) {e : Int} (f1 : 0 ≤ e) (f2 : e < 60) (hN : ∀ i, 0 ≤ A 8 i ∧ A 8 i < 10000) (hk : A 7 e = 103) (hg : rnx s (s 2) = 0) : pz_Cd en 8 208 [.ref (a 0), .int (zI e)] (rH h0 a s lv A F) 0 0 (pz_ret (some (.int (zI (rFl s lv (A 2) F (A 7 e) (A 8 (3 * e)) (A 8 (3 * e + 1)) (A 8 (3 * e + 2))).1))) (rH h0 a (rFl s lv (A 2) F (A 7 e) (A 8 (3 * e)) (A 8 (3 * e + 1)) (A 8 (3 * e + 2))).2.1 (rFl s lv (A 2) F (A 7 e) (A 8 (3 * e)) (A 8 (3 * e + 1)) (A 8 (3 * e + 2))).2.2.1 A (rFl s lv (A 2) F (A 7 e) (A 8 (3 * e)) (A 8 (3 * e + 1)) (A 8 (3 * e + 2))).2.2.2)) := by
  refine pz_in pzt_X7_fails ?_
  have hs := rI_B hi
  obtain ⟨hR, hs0, hs1, hs2, hs3⟩ := id hs
  have n0 := hN (3 * e)
  have n1 := hN (3 * e + 1)
  have n2 := hN (3 * e + 2)
  have hNz : ∀ i, zR (A 8 i) := fun i => by have := hN i; omega
  rw [show (rFl s lv (A 2) F (A 7 e) (A 8 (3 * e)) (A 8 (3 * e + 1)) (A 8 (3 * e + 2))) = rFl s lv (A 2) F 103 (A 8 (3 * e)) (A 8 (3 * e + 1)) (A 8 (3 * e + 2)) by rw [hk]]
  unfold rFl
  rw [if_neg (by decide), if_neg (by decide), if_neg (by decide), if_neg (by decide), if_pos rfl]
  rw [if_pos hg]
  refine pr_aload_n dX7_fails_0 rfl ?_
  refine pr_getf dX7_fails_1 pzf_7_36 (rH_0 hj) rfl ?_
  refine zr_iconst dX7_fails_4 ?_
  refine pr_iload_n dX7_fails_5 rfl ?_
  refine zr_imul dX7_fails_6 ?_
  refine zr_iald dX7_fails_7 (rH_8 hj) (by omega) (by decide) ?_
  refine pr_istore_n dX7_fails_8 (by decide) rfl ?_
  refine pr_aload_n dX7_fails_9 rfl ?_
  refine pr_getf dX7_fails_10 pzf_7_36 (rH_0 hj) rfl ?_
  refine zr_iconst dX7_fails_13 ?_
  refine pr_iload_n dX7_fails_14 rfl ?_
  refine zr_imul dX7_fails_15 ?_
  refine zr_iconst dX7_fails_16 ?_
  refine zr_iadd dX7_fails_17 ?_
  refine zr_iald dX7_fails_18 (rH_8 hj) (by omega) (by decide) ?_
  refine pr_istore_n dX7_fails_19 (by decide) rfl ?_
  refine pr_aload_n dX7_fails_20 rfl ?_
  refine pr_getf dX7_fails_21 pzf_7_33 (rH_0 hj) rfl ?_
  refine pr_iload_n dX7_fails_24 rfl ?_
  refine zr_cald dX7_fails_25 (rH_7 hj) (by omega) (by decide) ?_
  rw [hk]
  refine pr_lsw (off := 159) (tgt := 185) dX7_fails_26 (by decide) (by decide) (by decide) ?_
  refine pr_aload_n dX7_fails_185 rfl ?_
  refine zr_iconst dX7_fails_186 ?_
  refine zcv1i dX7_fails_187 pzm_7_177 pzt_X7_doGo (rH_0 hj) (kX7_doGo_n0 hj hi hg) (by decide) (Nat.le_of_ble_eq_true rfl) (by decide) ?_
  refine zr_if_le (tgt := 197) dX7_fails_190 (by decide) (by decide) (fun c190 => by exfalso; omega) (fun c190 => ?_)
  refine zr_iconst dX7_fails_193 ?_
  refine pr_goto (tgt := 198) dX7_fails_194 (by decide) ?_
  exact pr_iret dX7_fails_198 rfl rfl (zret rfl)
set_option maxRecDepth 100000 in
set_option maxHeartbeats 4000000 in
theorem kX7_fails_j (hj : oj 9 a) (hi : rI s) (hL : ∀ i, zR (lv i)) {e : Int} (f1 : 0 ≤ e) (f2 : e < 60) (hN : ∀ i, 0 ≤ A 8 i ∧ A 8 i < 10000) (hk : A 7 e = 106)  : pz_Cd en 8 208 [.ref (a 0), .int (zI e)] (rH h0 a s lv A F) 0 0 (pz_ret (some (.int (zI (rFl s lv (A 2) F (A 7 e) (A 8 (3 * e)) (A 8 (3 * e + 1)) (A 8 (3 * e + 2))).1))) (rH h0 a (rFl s lv (A 2) F (A 7 e) (A 8 (3 * e)) (A 8 (3 * e + 1)) (A 8 (3 * e + 2))).2.1 (rFl s lv (A 2) F (A 7 e) (A 8 (3 * e)) (A 8 (3 * e + 1)) (A 8 (3 * e + 2))).2.2.1 A (rFl s lv (A 2) F (A 7 e) (A 8 (3 * e)) (A 8 (3 * e + 1)) (A 8 (3 * e + 2))).2.2.2)) := by
  refine pz_in pzt_X7_fails ?_
  have hs := rI_B hi
  obtain ⟨hR, hs0, hs1, hs2, hs3⟩ := id hs
  have n0 := hN (3 * e)
  have n1 := hN (3 * e + 1)
  have n2 := hN (3 * e + 2)
  have hNz : ∀ i, zR (A 8 i) := fun i => by have := hN i; omega
  rw [show (rFl s lv (A 2) F (A 7 e) (A 8 (3 * e)) (A 8 (3 * e + 1)) (A 8 (3 * e + 2))) = rFl s lv (A 2) F 106 (A 8 (3 * e)) (A 8 (3 * e + 1)) (A 8 (3 * e + 2)) by rw [hk]]
  unfold rFl
  rw [if_neg (by decide), if_neg (by decide), if_neg (by decide), if_neg (by decide), if_neg (by decide), if_pos rfl]
  refine pr_aload_n dX7_fails_0 rfl ?_
  refine pr_getf dX7_fails_1 pzf_7_36 (rH_0 hj) rfl ?_
  refine zr_iconst dX7_fails_4 ?_
  refine pr_iload_n dX7_fails_5 rfl ?_
  refine zr_imul dX7_fails_6 ?_
  refine zr_iald dX7_fails_7 (rH_8 hj) (by omega) (by decide) ?_
  refine pr_istore_n dX7_fails_8 (by decide) rfl ?_
  refine pr_aload_n dX7_fails_9 rfl ?_
  refine pr_getf dX7_fails_10 pzf_7_36 (rH_0 hj) rfl ?_
  refine zr_iconst dX7_fails_13 ?_
  refine pr_iload_n dX7_fails_14 rfl ?_
  refine zr_imul dX7_fails_15 ?_
  refine zr_iconst dX7_fails_16 ?_
  refine zr_iadd dX7_fails_17 ?_
  refine zr_iald dX7_fails_18 (rH_8 hj) (by omega) (by decide) ?_
  refine pr_istore_n dX7_fails_19 (by decide) rfl ?_
  refine pr_aload_n dX7_fails_20 rfl ?_
  refine pr_getf dX7_fails_21 pzf_7_33 (rH_0 hj) rfl ?_
  refine pr_iload_n dX7_fails_24 rfl ?_
  refine zr_cald dX7_fails_25 (rH_7 hj) (by omega) (by decide) ?_
  rw [hk]
  refine pr_lsw (off := 173) (tgt := 199) dX7_fails_26 (by decide) (by decide) (by decide) ?_
  refine pr_aload_n dX7_fails_199 rfl ?_
  refine pr_iload_n dX7_fails_200 rfl ?_
  refine zcv1i dX7_fails_201 pzm_7_74 pzt_X7_isCue (rH_0 hj) (kX7_isCue hj hs (hNz _)) (by decide) (Nat.le_of_ble_eq_true rfl) (by decide) ?_
  refine zr_if_eq (tgt := 215) dX7_fails_204 (by decide) (bI_R _) (fun c204 => ?_) (fun c204 => ?_)
  · have b204 := bI_0 c204
    rw [if_neg b204]
    refine zr_iconst dX7_fails_215 ?_
    refine pr_goto (tgt := 220) dX7_fails_216 (by decide) ?_
    exact pr_iret dX7_fails_220 rfl rfl (zret rfl)
  · have b204 := bI_ne c204
    rw [if_pos b204]
    refine pr_aload_n dX7_fails_207 rfl ?_
    refine pr_iload_n dX7_fails_208 rfl ?_
    refine zcv1i dX7_fails_209 pzm_7_174 pzt_X7_goes (rH_0 hj) (kX7_goes hj hi (hNz _) b204) (by decide) (Nat.le_of_ble_eq_true rfl) (by decide) ?_
    have hg := rgn_R s (A 8 (3 * e))
    refine zr_if_ge (tgt := 219) dX7_fails_212 (by decide) (by omega) (fun c212 => ?_) (fun c212 => by exfalso; omega)
    refine zr_iconst dX7_fails_219 ?_
    exact pr_iret dX7_fails_220 rfl rfl (zret rfl)
set_option maxRecDepth 100000 in
set_option maxHeartbeats 4000000 in
theorem kX7_fails_t (hj : oj 9 a) (hi : rI s) (hL : ∀ i, zR (lv i)) {e : Int} (f1 : 0 ≤ e) (f2 : e < 60) (hN : ∀ i, 0 ≤ A 8 i ∧ A 8 i < 10000) (hk : A 7 e = 116)  : pz_Cd en 8 208 [.ref (a 0), .int (zI e)] (rH h0 a s lv A F) 0 0 (pz_ret (some (.int (zI (rFl s lv (A 2) F (A 7 e) (A 8 (3 * e)) (A 8 (3 * e + 1)) (A 8 (3 * e + 2))).1))) (rH h0 a (rFl s lv (A 2) F (A 7 e) (A 8 (3 * e)) (A 8 (3 * e + 1)) (A 8 (3 * e + 2))).2.1 (rFl s lv (A 2) F (A 7 e) (A 8 (3 * e)) (A 8 (3 * e + 1)) (A 8 (3 * e + 2))).2.2.1 A (rFl s lv (A 2) F (A 7 e) (A 8 (3 * e)) (A 8 (3 * e + 1)) (A 8 (3 * e + 2))).2.2.2)) := by
  refine pz_in pzt_X7_fails ?_
  have hs := rI_B hi
  obtain ⟨hR, hs0, hs1, hs2, hs3⟩ := id hs
  have n0 := hN (3 * e)
  have n1 := hN (3 * e + 1)
  have n2 := hN (3 * e + 2)
  have hNz : ∀ i, zR (A 8 i) := fun i => by have := hN i; omega
  rw [show (rFl s lv (A 2) F (A 7 e) (A 8 (3 * e)) (A 8 (3 * e + 1)) (A 8 (3 * e + 2))) = rFl s lv (A 2) F 116 (A 8 (3 * e)) (A 8 (3 * e + 1)) (A 8 (3 * e + 2)) by rw [hk]]
  unfold rFl
  rw [if_neg (by decide), if_neg (by decide), if_neg (by decide), if_neg (by decide), if_neg (by decide), if_neg (by decide)]
  have hc := rPs_c s (A 8 (3 * e))
  refine pr_aload_n dX7_fails_0 rfl ?_
  refine pr_getf dX7_fails_1 pzf_7_36 (rH_0 hj) rfl ?_
  refine zr_iconst dX7_fails_4 ?_
  refine pr_iload_n dX7_fails_5 rfl ?_
  refine zr_imul dX7_fails_6 ?_
  refine zr_iald dX7_fails_7 (rH_8 hj) (by omega) (by decide) ?_
  refine pr_istore_n dX7_fails_8 (by decide) rfl ?_
  refine pr_aload_n dX7_fails_9 rfl ?_
  refine pr_getf dX7_fails_10 pzf_7_36 (rH_0 hj) rfl ?_
  refine zr_iconst dX7_fails_13 ?_
  refine pr_iload_n dX7_fails_14 rfl ?_
  refine zr_imul dX7_fails_15 ?_
  refine zr_iconst dX7_fails_16 ?_
  refine zr_iadd dX7_fails_17 ?_
  refine zr_iald dX7_fails_18 (rH_8 hj) (by omega) (by decide) ?_
  refine pr_istore_n dX7_fails_19 (by decide) rfl ?_
  refine pr_aload_n dX7_fails_20 rfl ?_
  refine pr_getf dX7_fails_21 pzf_7_33 (rH_0 hj) rfl ?_
  refine pr_iload_n dX7_fails_24 rfl ?_
  refine zr_cald dX7_fails_25 (rH_7 hj) (by omega) (by decide) ?_
  rw [hk]
  refine pr_lsw (off := 195) (tgt := 221) dX7_fails_26 (by decide) (by decide) (by decide) ?_
  refine pr_aload_n dX7_fails_221 rfl ?_
  refine pr_iload_n dX7_fails_222 rfl ?_
  refine zcv1i dX7_fails_223 pzm_7_189 pzt_X7_doPass (rH_0 hj) (kX7_doPass hj hi (hNz _)) (by decide) (Nat.le_of_ble_eq_true rfl) (by decide) ?_
  refine zr_if_le (tgt := 233) dX7_fails_226 (by decide) (by omega) (fun c226 => ?_) (fun c226 => ?_)
  · refine zr_iconst dX7_fails_233 ?_
    exact pr_iret dX7_fails_234 rfl rfl (zret (by first | exact (bI_t (show 0 < (rPs s (A 8 (3 * e))).1 from by omega)).symm | exact (bI_f (show ¬ 0 < (rPs s (A 8 (3 * e))).1 from by omega)).symm))
  · refine zr_iconst dX7_fails_229 ?_
    refine pr_goto (tgt := 234) dX7_fails_230 (by decide) ?_
    exact pr_iret dX7_fails_234 rfl rfl (zret (by first | exact (bI_t (show 0 < (rPs s (A 8 (3 * e))).1 from by omega)).symm | exact (bI_f (show ¬ 0 < (rPs s (A 8 (3 * e))).1 from by omega)).symm))
theorem kX7_fails (hj : oj 9 a) (hi : rI s) (hL : ∀ i, zR (lv i)) {e : Int} (f1 : 0 ≤ e) (f2 : e < 60) (hN : ∀ i, 0 ≤ A 8 i ∧ A 8 i < 10000) (hk : A 7 e = 99 ∨ A 7 e = 120 ∨ A 7 e = 115 ∨ A 7 e = 114 ∨ A 7 e = 103 ∨ A 7 e = 106 ∨ A 7 e = 116) : pz_Cd en 8 208 [.ref (a 0), .int (zI e)] (rH h0 a s lv A F) 0 0 (pz_ret (some (.int (zI (rFl s lv (A 2) F (A 7 e) (A 8 (3 * e)) (A 8 (3 * e + 1)) (A 8 (3 * e + 2))).1))) (rH h0 a (rFl s lv (A 2) F (A 7 e) (A 8 (3 * e)) (A 8 (3 * e + 1)) (A 8 (3 * e + 2))).2.1 (rFl s lv (A 2) F (A 7 e) (A 8 (3 * e)) (A 8 (3 * e + 1)) (A 8 (3 * e + 2))).2.2.1 A (rFl s lv (A 2) F (A 7 e) (A 8 (3 * e)) (A 8 (3 * e + 1)) (A 8 (3 * e + 2))).2.2.2)) := by
  rcases hk with hk | hk | hk | hk | hk | hk | hk
  · exact kX7_fails_c hj hi hL f1 f2 hN hk
  · exact kX7_fails_x hj hi hL f1 f2 hN hk
  · exact kX7_fails_s hj hi hL f1 f2 hN hk
  · exact kX7_fails_r hj hi hL f1 f2 hN hk
  · by_cases hg : rnx s (s 2) = 0
    · exact kX7_fails_g0 hj hi hL f1 f2 hN hk hg
    · exact kX7_fails_g1 hj hi hL f1 f2 hN hk hg
  · exact kX7_fails_j hj hi hL f1 f2 hN hk
  · exact kX7_fails_t hj hi hL f1 f2 hN hk
end ref
