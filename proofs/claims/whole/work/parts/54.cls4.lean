/-! the class: what changes cells -/
theorem zv_app (X : Int → Int → Int) (i : Int) (g : Int → Int) (a b : Int) : zv X i g a b = if a = i then g b else X a b := by
  unfold zv
  split <;> rfl
theorem zu_app (f : Int → Int) (k v j : Int) : zu f k v j = if j = k then v else f j := rfl
theorem sH_eq {h : pz_H} {a : Int → Nat} {f : Nat → Option Nat} {X Y : Int → Int → Int} (e : X = Y) : sH h a f X = sH h a f Y := by rw [e]
def xnwP (X : Int → Int → Int) (k n m : Int) : Int → Int → Int := fun i j => if i = 7 + 5 * k then (if j = 0 then n else if j = 1 then -1 else if j = 2 then 0 else if j = 3 then 0 else X i j) else if (i = 7 + 5 * k + 1 ∨ i = 7 + 5 * k + 2) ∧ 0 ≤ j ∧ j < m then 0 else X i j
def xnwQ (X : Int → Int → Int) (k n m : Int) : Int → Int → Int := fun i j => if i = 7 + 5 * k + 3 ∧ 0 ≤ j ∧ j < m then -2 else if i = 7 + 5 * k + 4 ∧ 0 ≤ j ∧ j < m then 0 else xnwP X k n 4 i j
def xnw (X : Int → Int → Int) (k n : Int) : Int → Int → Int := xnwQ X k n 12
theorem xnwP_0 (X : Int → Int → Int) (k n : Int) : zv X (7 + 5 * k) (zu (zu (zu (zu (X (7 + 5 * k)) 0 n) 1 (-1)) 2 0) 3 0) = xnwP X k n 0 := by
  funext i j
  simp only [zv_app, zu_app, true_or, or_true, true_and, and_true, if_true, xnwP]
  repeat' split
  all_goals first | rfl | omega | (subst_vars; rfl) | (exfalso; omega)
theorem xnwP_s (X : Int → Int → Int) (k n m : Int) (h : 0 ≤ m) : zv (zv (xnwP X k n m) (7 + 5 * k + 1) (zu (xnwP X k n m (7 + 5 * k + 1)) m 0)) (7 + 5 * k + 2) (zu ((zv (xnwP X k n m) (7 + 5 * k + 1) (zu (xnwP X k n m (7 + 5 * k + 1)) m 0)) (7 + 5 * k + 2)) m 0) = xnwP X k n (m + 1) := by
  funext i j
  simp only [zv_app, zu_app, true_or, or_true, true_and, and_true, if_true, xnwP]
  repeat' split
  all_goals first | rfl | omega | (subst_vars; rfl) | (exfalso; omega)
theorem xnwQ_0 (X : Int → Int → Int) (k n : Int) : xnwQ X k n 0 = xnwP X k n 4 := by
  funext i j
  simp only [zv_app, zu_app, true_or, or_true, true_and, and_true, if_true, xnwQ]
  repeat' split
  all_goals first | rfl | omega | (subst_vars; rfl) | (exfalso; omega)
theorem xnwQ_s (X : Int → Int → Int) (k n m : Int) (h : 0 ≤ m) : zv (zv (xnwQ X k n m) (7 + 5 * k + 3) (zu (xnwQ X k n m (7 + 5 * k + 3)) m (-2))) (7 + 5 * k + 4) (zu ((zv (xnwQ X k n m) (7 + 5 * k + 3) (zu (xnwQ X k n m (7 + 5 * k + 3)) m (-2))) (7 + 5 * k + 4)) m 0) = xnwQ X k n (m + 1) := by
  funext i j
  simp only [zv_app, zu_app, true_or, or_true, true_and, and_true, if_true, xnwQ]
  repeat' split
  all_goals first | rfl | omega | (subst_vars; rfl) | (exfalso; omega)
theorem zv_zv (X : Int → Int → Int) (i : Int) (g g2 : Int → Int) : zv (zv X i g) i g2 = zv X i g2 := by
  funext a
  unfold zv
  split <;> rfl
section cls
variable {en : pz_Env} {h : pz_H} {a : Int → Nat} {X : Int → Int → Int}
set_option maxRecDepth 100000 in
set_option maxHeartbeats 4000000 in
theorem kX0_makeNew (hj : sj a) {f : Nat → Option Nat} {k n : Int} (k1 : 0 ≤ k) (k2 : k < 12)  : pz_Cd en 1 1 [.ref (a (7 + 5 * k)), .int (zI n)] (sH h a f X) 0 0 (pz_ret (none) (sH h a f (xnw X k n))) := by
  refine pz_in pzt_X0_makeNew ?_
  have loop2 : pz_WP 1 en (pz_Cd en (1 - 1)) 0 cX0_makeNew 3 none [] false (pz_ret (none) (sH h a f (xnw X k n))) 49 [some (.ref (a (7 + 5 * k))), some (.int (zI n)), some (.int (zI 0))] [] (sH h a f (xnwQ X k n 0)) 0 0 := by
    refine zup (P := fun m => pz_WP 1 en (pz_Cd en (1 - 1)) 0 cX0_makeNew 3 none [] false (pz_ret (none) (sH h a f (xnw X k n))) 49 [some (.ref (a (7 + 5 * k))), some (.int (zI n)), some (.int (zI m))] [] (sH h a f (xnwQ X k n m)) 0 0) (lo := 0) (hi := 12) (by decide) ?_ ?_
    · skip
      refine pr_iload_n dX0_makeNew_49 rfl ?_
      refine zr_bipush dX0_makeNew_50 (by decide) ?_
      refine zr_icmp_ge (tgt := 76) dX0_makeNew_52 (by decide) (by first | exact hR _ _ | omega) (by first | exact hR _ _ | omega) (fun c52 => ?_) (fun c52 => by exfalso; omega)
      exact pr_vret dX0_makeNew_76 rfl (zretv)
    · intro m hk1 hk2 ih
      refine pr_iload_n dX0_makeNew_49 rfl ?_
      refine zr_bipush dX0_makeNew_50 (by decide) ?_
      refine zr_icmp_ge (tgt := 76) dX0_makeNew_52 (by decide) (by first | exact hR _ _ | omega) (by first | exact hR _ _ | omega) (fun c52 => by exfalso; omega) (fun c52 => ?_)
      refine pr_aload_n dX0_makeNew_55 rfl ?_
      refine pr_getf dX0_makeNew_56 pzf_0_18 (sH_C hj (by omega) (by omega)) rfl ?_
      refine pr_iload_n dX0_makeNew_59 rfl ?_
      refine zr_bipush dX0_makeNew_60 (by decide) ?_
      refine zr_iast dX0_makeNew_62 (sH_C3 hj (by omega) (by omega)) (by omega) (by decide) (sH_uC3 hj (by omega) (by omega)) ?_
      refine pr_aload_n dX0_makeNew_63 rfl ?_
      refine pr_getf dX0_makeNew_64 pzf_0_21 (sH_C hj (by omega) (by omega)) rfl ?_
      refine pr_iload_n dX0_makeNew_67 rfl ?_
      refine zr_iconst dX0_makeNew_68 ?_
      refine zr_iast dX0_makeNew_69 (sH_C4 hj (by omega) (by omega)) (by omega) (by decide) ((sH_uC4 hj (by omega) (by omega)).trans (sH_eq (xnwQ_s X k n m hk1))) ?_
      refine zr_iinc dX0_makeNew_70 rfl (by decide) rfl ?_
      refine pr_goto (tgt := 49) dX0_makeNew_73 (by decide) ?_
      exact ih
  have loop1 : pz_WP 1 en (pz_Cd en (1 - 1)) 0 cX0_makeNew 3 none [] false (pz_ret (none) (sH h a f (xnw X k n))) 22 [some (.ref (a (7 + 5 * k))), some (.int (zI n)), some (.int (zI 0))] [] (sH h a f (xnwP X k n 0)) 0 0 := by
    refine zup (P := fun m => pz_WP 1 en (pz_Cd en (1 - 1)) 0 cX0_makeNew 3 none [] false (pz_ret (none) (sH h a f (xnw X k n))) 22 [some (.ref (a (7 + 5 * k))), some (.int (zI n)), some (.int (zI m))] [] (sH h a f (xnwP X k n m)) 0 0) (lo := 0) (hi := 4) (by decide) ?_ ?_
    · skip
      refine pr_iload_n dX0_makeNew_22 rfl ?_
      refine zr_iconst dX0_makeNew_23 ?_
      refine zr_icmp_ge (tgt := 47) dX0_makeNew_24 (by decide) (by first | exact hR _ _ | omega) (by first | exact hR _ _ | omega) (fun c24 => ?_) (fun c24 => by exfalso; omega)
      refine zr_iconst dX0_makeNew_47 ?_
      refine pr_istore_n dX0_makeNew_48 (by decide) rfl ?_
      rw [← xnwQ_0]
      exact loop2
    · intro m hk1 hk2 ih
      refine pr_iload_n dX0_makeNew_22 rfl ?_
      refine zr_iconst dX0_makeNew_23 ?_
      refine zr_icmp_ge (tgt := 47) dX0_makeNew_24 (by decide) (by first | exact hR _ _ | omega) (by first | exact hR _ _ | omega) (fun c24 => by exfalso; omega) (fun c24 => ?_)
      refine pr_aload_n dX0_makeNew_27 rfl ?_
      refine pr_getf dX0_makeNew_28 pzf_0_9 (sH_C hj (by omega) (by omega)) rfl ?_
      refine pr_iload_n dX0_makeNew_31 rfl ?_
      refine zr_iconst dX0_makeNew_32 ?_
      refine zr_iast dX0_makeNew_33 (sH_C1 hj (by omega) (by omega)) (by omega) (by decide) (sH_uC1 hj (by omega) (by omega)) ?_
      refine pr_aload_n dX0_makeNew_34 rfl ?_
      refine pr_getf dX0_makeNew_35 pzf_0_15 (sH_C hj (by omega) (by omega)) rfl ?_
      refine pr_iload_n dX0_makeNew_38 rfl ?_
      refine zr_iconst dX0_makeNew_39 ?_
      refine zr_iast dX0_makeNew_40 (sH_C2 hj (by omega) (by omega)) (by omega) (by decide) ((sH_uC2 hj (by omega) (by omega)).trans (sH_eq (xnwP_s X k n m hk1))) ?_
      refine zr_iinc dX0_makeNew_41 rfl (by decide) rfl ?_
      refine pr_goto (tgt := 22) dX0_makeNew_44 (by decide) ?_
      exact ih
  refine pr_aload_n dX0_makeNew_0 rfl ?_
  refine pr_iload_n dX0_makeNew_1 rfl ?_
  refine pr_putf dX0_makeNew_2 pzf_0_24 (Or.inl rfl) (sH_C hj (by omega) (by omega)) (Nat.le_of_ble_eq_true rfl) rfl rfl (sH_pC_0 hj (by omega) (by omega)) ?_
  refine pr_aload_n dX0_makeNew_5 rfl ?_
  refine zr_iconst dX0_makeNew_6 ?_
  refine pr_putf dX0_makeNew_7 pzf_0_28 (Or.inl rfl) (sH_C hj (by omega) (by omega)) (Nat.le_of_ble_eq_true rfl) rfl rfl (sH_pC_1 hj (by omega) (by omega)) ?_
  refine pr_aload_n dX0_makeNew_10 rfl ?_
  refine zr_iconst dX0_makeNew_11 ?_
  refine pr_putf dX0_makeNew_12 pzf_0_31 (Or.inl rfl) (sH_C hj (by omega) (by omega)) (Nat.le_of_ble_eq_true rfl) rfl rfl (sH_pC_2 hj (by omega) (by omega)) ?_
  refine pr_aload_n dX0_makeNew_15 rfl ?_
  refine zr_iconst dX0_makeNew_16 ?_
  refine pr_putf dX0_makeNew_17 pzf_0_35 (Or.inl rfl) (sH_C hj (by omega) (by omega)) (Nat.le_of_ble_eq_true rfl) rfl rfl (sH_pC_3 hj (by omega) (by omega)) ?_
  refine zr_iconst dX0_makeNew_20 ?_
  refine pr_istore_n dX0_makeNew_21 (by decide) rfl ?_
  rw [zv_zv, zv_at, zv_zv, zv_at, zv_zv, zv_at, xnwP_0]
  exact loop1
def xpi (X : Int → Int → Int) (k c t pt : Int) : Int → Int → Int := fun i j => if i = 7 + 5 * k + 3 ∧ j = c then t else if i = 7 + 5 * k + 4 ∧ j = c then pt else if X (7 + 5 * k + 3) c = -2 ∧ X 1 5 < 60 then (if i = 4 ∧ j = X 1 5 then X (7 + 5 * k) 0 else if i = 5 ∧ j = X 1 5 then c else if i = 1 ∧ j = 5 then X 1 5 + 1 else X i j) else X i j
theorem xpi_n {X : Int → Int → Int} {k c t pt : Int} (h : ¬ (X (7 + 5 * k + 3) c = -2 ∧ X 1 5 < 60)) : zv (zv X (7 + 5 * k + 3) (zu (X (7 + 5 * k + 3)) c t)) (7 + 5 * k + 4) (zu ((zv X (7 + 5 * k + 3) (zu (X (7 + 5 * k + 3)) c t)) (7 + 5 * k + 4)) c pt) = xpi X k c t pt := by
  funext i j
  unfold xpi
  rw [if_neg h]
  simp only [zv_app, zu_app, true_or, or_true, true_and, and_true, if_true, zv_app]
  repeat' split
  all_goals first | rfl | omega | (subst_vars; rfl) | (exfalso; omega)
def xpl (X : Int → Int → Int) (k c : Int) : Int → Int → Int := fun i j => if i = 4 ∧ j = X 1 5 then X (7 + 5 * k) 0 else if i = 5 ∧ j = X 1 5 then c else if i = 1 ∧ j = 5 then X 1 5 + 1 else X i j
theorem xpi_l {X : Int → Int → Int} {k c : Int} : zv (zv (zv X 4 (zu (X 4) (X 1 5) (X (7 + 5 * k) 0))) 5 (zu ((zv X 4 (zu (X 4) (X 1 5) (X (7 + 5 * k) 0))) 5) (X 1 5) c)) 1 (zu ((zv (zv X 4 (zu (X 4) (X 1 5) (X (7 + 5 * k) 0))) 5 (zu ((zv X 4 (zu (X 4) (X 1 5) (X (7 + 5 * k) 0))) 5) (X 1 5) c)) 1) 5 (X 1 5 + 1)) = xpl X k c := by
  funext i j
  simp only [zv_app, zu_app, true_or, or_true, true_and, and_true, if_true, xpl]
  repeat' split
  all_goals first | rfl | omega | (subst_vars; rfl) | (exfalso; omega)
theorem xpi_y {X : Int → Int → Int} {k c t pt : Int} (k1 : 0 ≤ k) (h : X (7 + 5 * k + 3) c = -2 ∧ X 1 5 < 60) : zv (zv (xpl X k c) (7 + 5 * k + 3) (zu (xpl X k c (7 + 5 * k + 3)) c t)) (7 + 5 * k + 4) (zu ((zv (xpl X k c) (7 + 5 * k + 3) (zu (xpl X k c (7 + 5 * k + 3)) c t)) (7 + 5 * k + 4)) c pt) = xpi X k c t pt := by
  funext i j
  unfold xpi
  rw [if_pos h]
  simp only [zv_app, zu_app, true_or, or_true, true_and, and_true, if_true, xpl]
  repeat' split
  all_goals first | rfl | omega | (subst_vars; rfl) | (exfalso; omega)
set_option maxRecDepth 100000 in
set_option maxHeartbeats 4000000 in
theorem kX1_putInstruction (hj : sj a) (hX : xB X)  {k c t pt : Int} (k1 : 0 ≤ k) (k2 : k < 12) (c1 : 0 ≤ c) (c2 : c ≤ 11) : pz_Cd en 1 13 [.ref (a 1), .int (zI k), .int (zI c), .int (zI t), .int (zI pt)] (sH h a (sq a) X) 0 0 (pz_ret (none) (sH h a (sq a) (xpi X k c t pt))) := by
  refine pz_in pzt_X1_putInstruction ?_
  obtain ⟨hR, hn0, hn1, hm0, hm1⟩ := id hX
  have tn : ¬ (X (7 + 5 * k + 3) c = -2 ∧ X 1 5 < 60) → pz_WP 1 en (pz_Cd en (1 - 1)) 1 cX1_putInstruction 6 none [] false (pz_ret (none) (sH h a (sq a) (xpi X k c t pt))) 63 [some (.ref (a 1)), some (.int (zI k)), some (.int (zI c)), some (.int (zI t)), some (.int (zI pt)), some (.ref (a (7 + 5 * k)))] [] (sH h a (sq a) X) 0 0 := by
    intro hn
    refine pr_aload dX1_putInstruction_63 rfl ?_
    refine pr_getf dX1_putInstruction_65 pzf_1_55 (sH_C hj (by omega) (by omega)) rfl ?_
    refine pr_iload_n dX1_putInstruction_68 rfl ?_
    refine pr_iload_n dX1_putInstruction_69 rfl ?_
    refine zr_iast dX1_putInstruction_70 (sH_C3 hj (by omega) (by omega)) (by omega) (by decide) (sH_uC3 hj (by omega) (by omega)) ?_
    refine pr_aload dX1_putInstruction_71 rfl ?_
    refine pr_getf dX1_putInstruction_73 pzf_1_97 (sH_C hj (by omega) (by omega)) rfl ?_
    refine pr_iload_n dX1_putInstruction_76 rfl ?_
    refine pr_iload dX1_putInstruction_77 rfl ?_
    refine zr_iast dX1_putInstruction_79 (sH_C4 hj (by omega) (by omega)) (by omega) (by decide) ((sH_uC4 hj (by omega) (by omega)).trans (sH_eq (xpi_n hn))) ?_
    exact pr_vret dX1_putInstruction_80 rfl (zretv)
  have ty : X (7 + 5 * k + 3) c = -2 ∧ X 1 5 < 60 → pz_WP 1 en (pz_Cd en (1 - 1)) 1 cX1_putInstruction 6 none [] false (pz_ret (none) (sH h a (sq a) (xpi X k c t pt))) 63 [some (.ref (a 1)), some (.int (zI k)), some (.int (zI c)), some (.int (zI t)), some (.int (zI pt)), some (.ref (a (7 + 5 * k)))] [] (sH h a (sq a) (xpl X k c)) 0 0 := by
    intro hn
    refine pr_aload dX1_putInstruction_63 rfl ?_
    refine pr_getf dX1_putInstruction_65 pzf_1_55 (sH_C hj (by omega) (by omega)) rfl ?_
    refine pr_iload_n dX1_putInstruction_68 rfl ?_
    refine pr_iload_n dX1_putInstruction_69 rfl ?_
    refine zr_iast dX1_putInstruction_70 (sH_C3 hj (by omega) (by omega)) (by omega) (by decide) (sH_uC3 hj (by omega) (by omega)) ?_
    refine pr_aload dX1_putInstruction_71 rfl ?_
    refine pr_getf dX1_putInstruction_73 pzf_1_97 (sH_C hj (by omega) (by omega)) rfl ?_
    refine pr_iload_n dX1_putInstruction_76 rfl ?_
    refine pr_iload dX1_putInstruction_77 rfl ?_
    refine zr_iast dX1_putInstruction_79 (sH_C4 hj (by omega) (by omega)) (by omega) (by decide) ((sH_uC4 hj (by omega) (by omega)).trans (sH_eq (xpi_y k1 hn))) ?_
    exact pr_vret dX1_putInstruction_80 rfl (zretv)
  refine pr_aload_n dX1_putInstruction_0 rfl ?_
  refine pr_getf dX1_putInstruction_1 pzf_1_11 (sH_1 hj) rfl ?_
  refine pr_iload_n dX1_putInstruction_4 rfl ?_
  refine zr_crow hj dX1_putInstruction_5 (by omega) (by omega) ?_
  refine pr_astore dX1_putInstruction_6 (by decide) rfl ?_
  refine pr_aload dX1_putInstruction_8 rfl ?_
  refine pr_getf dX1_putInstruction_10 pzf_1_55 (sH_C hj (by omega) (by omega)) rfl ?_
  refine pr_iload_n dX1_putInstruction_13 rfl ?_
  refine zr_iald dX1_putInstruction_14 (sH_C3 hj (by omega) (by omega)) (by omega) (by decide) ?_
  refine zr_bipush dX1_putInstruction_15 (by decide) ?_
  refine zr_icmp_ne (tgt := 63) dX1_putInstruction_17 (by decide) (by first | exact hR _ _ | omega) (by first | exact hR _ _ | omega) (fun c17 => ?_) (fun c17 => ?_)
  · exact tn (fun z => c17 z.1)
  · refine pr_aload_n dX1_putInstruction_20 rfl ?_
    refine pr_getf dX1_putInstruction_21 pzf_1_35 (sH_1 hj) rfl ?_
    refine zr_bipush dX1_putInstruction_24 (by decide) ?_
    refine zr_icmp_ge (tgt := 63) dX1_putInstruction_26 (by decide) (by first | exact hR _ _ | omega) (by first | exact hR _ _ | omega) (fun c26 => ?_) (fun c26 => ?_)
    · exact tn (fun z => by omega)
    · refine pr_aload_n dX1_putInstruction_29 rfl ?_
      refine pr_getf dX1_putInstruction_30 pzf_1_21 (sH_1 hj) rfl ?_
      refine pr_aload_n dX1_putInstruction_33 rfl ?_
      refine pr_getf dX1_putInstruction_34 pzf_1_35 (sH_1 hj) rfl ?_
      refine pr_aload dX1_putInstruction_37 rfl ?_
      refine pr_getf dX1_putInstruction_39 pzf_1_48 (sH_C hj (by omega) (by omega)) rfl ?_
      refine zr_iast dX1_putInstruction_42 (sH_4 hj) (by omega) (by decide) (sH_u4 hj) ?_
      refine pr_aload_n dX1_putInstruction_43 rfl ?_
      refine pr_getf dX1_putInstruction_44 pzf_1_24 (sH_1 hj) rfl ?_
      refine pr_aload_n dX1_putInstruction_47 rfl ?_
      refine pr_getf dX1_putInstruction_48 pzf_1_35 (sH_1 hj) rfl ?_
      rw [zv_ne _ _ (show ¬ (1 : Int) = 4 by decide)]
      refine pr_iload_n dX1_putInstruction_51 rfl ?_
      refine zr_iast dX1_putInstruction_52 (sH_5 hj) (by omega) (by decide) (sH_u5 hj) ?_
      refine pr_aload_n dX1_putInstruction_53 rfl ?_
      refine pr_dup dX1_putInstruction_54 rfl ?_
      refine pr_getf dX1_putInstruction_55 pzf_1_35 (sH_1 hj) rfl ?_
      refine zr_iconst dX1_putInstruction_58 ?_
      rw [zv_ne _ _ (show ¬ (1 : Int) = 5 by decide), zv_ne _ _ (show ¬ (1 : Int) = 4 by decide)]
      refine zr_iadd dX1_putInstruction_59 ?_
      refine pr_putf dX1_putInstruction_60 pzf_1_35 (Or.inl rfl) (sH_1 hj) (Nat.le_of_ble_eq_true rfl) rfl rfl ((sH_p1_5 hj).trans (sH_eq xpi_l)) ?_
      exact ty ⟨c17, by omega⟩
def xbf (X : Int → Int → Int) (c lev dl ti : Int) : Int → Int → Int := fun i j => if i = 68 ∧ j = c then xnow X c else if i = 69 ∧ j = c then lev else if i = 70 ∧ j = c then X 67 8 else if i = 71 ∧ j = c then dl else if i = 72 ∧ j = c then ti else X i j
theorem xbf_e {X : Int → Int → Int} {c lev dl ti : Int} {Y1 Y2 Y3 Y4 : Int → Int → Int} (e1 : Y1 = zv X 68 (zu (X 68) c (xnow X c))) (e2 : Y2 = zv Y1 69 (zu (Y1 69) c lev)) (e3 : Y3 = zv Y2 70 (zu (Y2 70) c (X 67 8))) (e4 : Y4 = zv Y3 71 (zu (Y3 71) c dl)) : zv Y4 72 (zu (Y4 72) c ti) = xbf X c lev dl ti := by
  funext i j
  unfold xbf
  by_cases q : j = c
  · subst q
    by_cases a1 : i = 72
    · subst a1; simp [zv_app, zu_app]
    by_cases a2 : i = 71
    · subst a2; subst e4; simp [zv_app, zu_app]
    by_cases a3 : i = 70
    · subst a3; subst e4; subst e3; simp [zv_app, zu_app]
    by_cases a4 : i = 69
    · subst a4; subst e4; subst e3; subst e2; simp [zv_app, zu_app]
    by_cases a5 : i = 68
    · subst a5; subst e4; subst e3; subst e2; subst e1; simp [zv_app, zu_app]
    rw [if_neg (by omega), if_neg (by omega), if_neg (by omega), if_neg (by omega), if_neg (by omega)]
    rw [zv_ne _ _ a1, e4, zv_ne _ _ a2, e3, zv_ne _ _ a3, e2, zv_ne _ _ a4, e1, zv_ne _ _ a5]
  · rw [if_neg (fun z => q z.2), if_neg (fun z => q z.2), if_neg (fun z => q z.2), if_neg (fun z => q z.2), if_neg (fun z => q z.2)]
    rw [zv_app, zu_app, if_neg q, e4, zv_app, zu_app, if_neg q, zv_app, zu_app, if_neg q, e3, zv_app, zu_app, if_neg q, zv_app, zu_app, if_neg q, zv_app, zu_app, if_neg q, e2, e1]
    simp only [zv_app, zu_app, if_neg q]
    repeat' split
    all_goals first | rfl | omega | (subst_vars; rfl)
set_option maxRecDepth 100000 in
set_option maxHeartbeats 4000000 in
theorem kX4_beginFade (hj : sj a) (hX : xB X)  {c lev dl ti : Int} (c1 : 0 ≤ c) (c2 : c ≤ 11) (hf : xff X c) : pz_Cd en 2 61 [.ref (a 67), .int (zI c), .int (zI lev), .int (zI dl), .int (zI ti)] (sH h a (sq a) X) 0 0 (pz_ret (none) (sH h a (sq a) (xbf X c lev dl ti))) := by
  refine pz_in pzt_X4_beginFade ?_
  obtain ⟨hR, hn0, hn1, hm0, hm1⟩ := id hX
  refine pr_aload_n dX4_beginFade_0 rfl ?_
  refine pr_getf dX4_beginFade_1 pzf_4_9 (sH_67 hj) rfl ?_
  refine pr_iload_n dX4_beginFade_4 rfl ?_
  refine pr_aload_n dX4_beginFade_5 rfl ?_
  refine pr_iload_n dX4_beginFade_6 rfl ?_
  refine zcv1i dX4_beginFade_7 pzm_4_50 pzt_X4_presentLevel (sH_67 hj) (kX4_presentLevel hj hX (by omega) (by omega) hf) (by decide) (Nat.le_of_ble_eq_true rfl) (by decide) ?_
  refine zr_iast dX4_beginFade_10 (sH_68 hj) (by omega) (by decide) (sH_u68 hj) ?_
  refine pr_aload_n dX4_beginFade_11 rfl ?_
  refine pr_getf dX4_beginFade_12 pzf_4_15 (sH_67 hj) rfl ?_
  refine pr_iload_n dX4_beginFade_15 rfl ?_
  refine pr_iload_n dX4_beginFade_16 rfl ?_
  refine zr_iast dX4_beginFade_17 (sH_69 hj) (by omega) (by decide) (sH_u69 hj) ?_
  refine pr_aload_n dX4_beginFade_18 rfl ?_
  refine pr_getf dX4_beginFade_19 pzf_4_18 (sH_67 hj) rfl ?_
  refine pr_iload_n dX4_beginFade_22 rfl ?_
  refine pr_aload_n dX4_beginFade_23 rfl ?_
  refine pr_getf dX4_beginFade_24 pzf_4_37 (sH_67 hj) rfl ?_
  rw [zv_ne _ _ (show ¬ (67 : Int) = 69 by decide), zv_ne _ _ (show ¬ (67 : Int) = 68 by decide)]
  refine zr_iast dX4_beginFade_27 (sH_70 hj) (by omega) (by decide) (sH_u70 hj) ?_
  refine pr_aload_n dX4_beginFade_28 rfl ?_
  refine pr_getf dX4_beginFade_29 pzf_4_21 (sH_67 hj) rfl ?_
  refine pr_iload_n dX4_beginFade_32 rfl ?_
  refine pr_iload_n dX4_beginFade_33 rfl ?_
  refine zr_iast dX4_beginFade_34 (sH_71 hj) (by omega) (by decide) (sH_u71 hj) ?_
  refine pr_aload_n dX4_beginFade_35 rfl ?_
  refine pr_getf dX4_beginFade_36 pzf_4_24 (sH_67 hj) rfl ?_
  refine pr_iload_n dX4_beginFade_39 rfl ?_
  refine pr_iload dX4_beginFade_40 rfl ?_
  refine zr_iast dX4_beginFade_42 (sH_72 hj) (by omega) (by decide) ((sH_u72 hj).trans (sH_eq (xbf_e rfl rfl rfl rfl))) ?_
  exact pr_vret dX4_beginFade_43 rfl (zretv)
end cls
