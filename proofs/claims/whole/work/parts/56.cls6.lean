/-! the class: time passes -/
def xpt (X : Int → Int → Int) (t : Int) : Int → Int → Int := zv X 67 (zu (X 67) 8 (X 67 8 + t))
theorem xpt_lo {X : Int → Int → Int} {t q : Int} (h : ¬ q = 67) : xpt X t q = X q := zv_ne _ _ h
theorem xpt_n {X : Int → Int → Int} {t j : Int} (h : ¬ j = 8) : xpt X t 67 j = X 67 j := by
  unfold xpt
  rw [zv_at, zu_ne _ h]
theorem xpt_8 {X : Int → Int → Int} {t : Int} : xpt X t 67 8 = X 67 8 + t := by
  unfold xpt
  rw [zv_at, zu_at]
theorem xpt_I {X : Int → Int → Int} (hI : xI X) {t : Int} (t1 : 0 ≤ t) (t2 : X 67 8 + t ≤ 100000) : xI (xpt X t) := by
  have hl := hI.2.2.2.2.2.2.2.2
  refine ⟨⟨?_, ?_⟩, ?_, ?_, ?_, ?_, ?_, ?_, ?_, ?_⟩
  · intro q j
    have hR := hI.1.1
    unfold xpt
    rw [zv_app, zu_app]
    split
    · split
      · omega
      · exact hR _ _
    · exact hR _ _
  · rw [xpt_lo (by decide)]; exact hI.1.2
  · intro k h1 h2
    rw [xpt_lo (by decide)] at h2
    have := hI.1.2
    rw [xpt_lo (by omega)]; exact hI.2.1 k h1 h2
  · intro k j h1 h2 h3
    rw [xpt_lo (by decide)] at h3
    have := hI.1.2
    rw [xpt_lo (by omega), xpt_lo (by omega)]; exact hI.2.2.1 k j h1 h2 h3
  · intro k q h1 h2 h3 h4
    rw [xpt_lo (by decide)] at h2
    have := hI.1.2
    rw [xpt_lo (by omega), xpt_lo (by omega)]; exact hI.2.2.2.1 k q h1 h2 h3 h4
  · intro k c h1 h2 h3 h4
    rw [xpt_lo (by decide)] at h2
    have := hI.1.2
    rw [xpt_lo (by omega), xpt_lo (by omega)]; exact hI.2.2.2.2.1 k c h1 h2 h3 h4
  · intro q h1 h2
    rw [xpt_lo (by decide)] at h2
    rw [xpt_lo (by decide)]; exact hI.2.2.2.2.2.1 q h1 h2
  · intro c h1 h2
    rw [xpt_lo (by decide)]; exact hI.2.2.2.2.2.2.1 c h1 h2
  · intro c h1 h2
    have := hI.2.2.2.2.2.2.2.1 c h1 h2
    rw [xpt_8, xpt_lo (by decide), xpt_lo (by decide), xpt_lo (by decide), xpt_lo (by decide), xpt_lo (by decide)]
    omega
  · rw [xpt_n (by decide), xpt_n (by decide), xpt_8]
    omega
theorem xsi_R {X : Int → Int → Int} (hI : xI X) : 0 ≤ xsi X ∧ xsi X ≤ 100000 := by
  have hl := hI.2.2.2.2.2.2.2.2
  unfold xsi
  split <;> omega
theorem xI_fo {X : Int → Int → Int} (hI : xI X) : ∀ k : Int, 0 ≤ k → k < X 1 1 → -1 ≤ X (7 + 5 * k) 1 ∧ X (7 + 5 * k) 1 ≤ 6000 := fun k h1 h2 => by
  have := (hI.2.1 k h1 h2).2.1
  omega
theorem xtf_R {X : Int → Int → Int} (hI : xI X) : -1 ≤ xtf X ∧ xtf X ≤ 6000 := by
  have h1 := xsi_R hI
  have h2 := xix_R hI.1 (X 67 5)
  unfold xtf
  split
  · omega
  · have := xI_fo hI (xix X (X 67 5)) (by omega) (by omega)
    split
    · omega
    · split <;> omega
def xpsF : Nat → (Int → Int → Int) → Int → Int × (Int → Int → Int)
  | 0, X, _ => (0, X)
  | n + 1, X, l => if l ≤ 0 then (0, X) else if xnk X < 0 ∨ xtf X < 1 ∨ l < xtf X then (0, xpt X l) else (1 + (xpsF n (xgo (xpt X (xtf X)) (xnk X)) (l - xtf X)).1, (xpsF n (xgo (xpt X (xtf X)) (xnk X)) (l - xtf X)).2)
theorem xgo_8 {X : Int → Int → Int} {i : Int} : xgo X i 67 8 = X 67 8 := by
  unfold xgo
  rw [if_neg (by decide), if_neg (by decide), if_neg (by decide), xgP_lo (by decide)]
section cls
variable {en : pz_Env} {h : pz_H} {a : Int → Nat}
set_option maxRecDepth 100000 in
set_option maxHeartbeats 4000000 in
theorem letPass_loop (hj : sj a) {T : Int} : ∀ (n : Nat) (X : Int → Int → Int) (wn l : Int) (q1 q2 : Option Int), xI X → 0 ≤ l → l ≤ n → l ≤ 10000 → X 67 8 + l ≤ 100000 → pz_WP 5 en (pz_Cd en (5 - 1)) 4 cX4_letPass 7 (some .int) [] false (pz_ret (some (.int (zI (wn + (xpsF n X l).1)))) (sH h a (sq a) (xpsF n X l).2)) 5 [some (.ref (a 67)), some (.ref (a 1)), some (.int (zI T)), some (.int (zI wn)), some (.int (zI l)), q1.map (fun z => Value.int (zI z)), q2.map (fun z => Value.int (zI z))] [] (sH h a (sq a) X) 0 0
  | 0, X, wn, l, q1, q2, hI, l1, l2, l4, l3 => by
    obtain rfl : l = 0 := by omega
    refine pr_iload dX4_letPass_5 rfl ?_
    refine zr_if_le (tgt := 87) dX4_letPass_7 (by decide) (by decide) (fun c7 => ?_) (fun c7 => absurd (show (0 : Int) ≤ 0 by decide) c7)
    refine pr_iload_n dX4_letPass_87 rfl ?_
    exact pr_iret dX4_letPass_88 rfl rfl (zret (by show wn = wn + 0; omega))
  | n + 1, X, wn, l, q1, q2, hI, l1, l2, l4, l3 => by
    have hX := hI.1
    obtain ⟨hR, hn0, hn1, hm0, hm1⟩ := id hX
    have ht := xtf_R hI
    have hk := xnk_R hX
    unfold xpsF
    refine pr_iload dX4_letPass_5 rfl ?_
    refine zr_if_le (tgt := 87) dX4_letPass_7 (by decide) (by first | exact hR _ _ | omega) (fun c7 => ?_) (fun c7 => ?_)
    · rw [if_pos c7]
      refine pr_iload_n dX4_letPass_87 rfl ?_
      exact pr_iret dX4_letPass_88 rfl rfl (zret (by show wn = wn + 0; omega))
    · rw [if_neg c7]
      refine pr_aload_n dX4_letPass_10 rfl ?_
      refine pr_aload_n dX4_letPass_11 rfl ?_
      refine zcv1i dX4_letPass_12 pzm_4_101 pzt_X4_tenthsToFollow (sH_67 hj) (kX4_tenthsToFollow hj hX (xsi_R hI) (xI_fo hI)) (by decide) (Nat.le_of_ble_eq_true rfl) (by decide) ?_
      refine pr_istore dX4_letPass_15 (by decide) (by cases q1 <;> rfl) ?_
      refine pr_aload_n dX4_letPass_17 rfl ?_
      refine pr_aload_n dX4_letPass_18 rfl ?_
      refine zcv1i dX4_letPass_19 pzm_4_68 pzt_X4_nextIndex (sH_67 hj) (kX4_nextIndex hj hX) (by decide) (Nat.le_of_ble_eq_true rfl) (by decide) ?_
      refine pr_istore dX4_letPass_22 (by decide) (by cases q2 <;> rfl) ?_
      refine pr_iload dX4_letPass_24 rfl ?_
      refine zr_if_lt (tgt := 42) dX4_letPass_26 (by decide) (by first | exact hR _ _ | omega) (fun c26 => ?_) (fun c26 => ?_)
      · rw [if_pos (Or.inl c26)]
        refine pr_aload_n dX4_letPass_42 rfl ?_
        refine pr_dup dX4_letPass_43 rfl ?_
        refine pr_getf dX4_letPass_44 pzf_4_37 (sH_67 hj) rfl ?_
        refine pr_iload dX4_letPass_47 rfl ?_
        refine zr_iadd dX4_letPass_49 ?_
        refine pr_putf dX4_letPass_50 pzf_4_37 (Or.inl rfl) (sH_67 hj) (Nat.le_of_ble_eq_true rfl) rfl rfl (sH_p67_8 hj) ?_
        refine pr_iload_n dX4_letPass_53 rfl ?_
        exact pr_iret dX4_letPass_54 rfl rfl (zret (by show wn = wn + 0; omega))
      · refine pr_iload dX4_letPass_29 rfl ?_
        refine zr_iconst dX4_letPass_31 ?_
        refine zr_icmp_lt (tgt := 42) dX4_letPass_32 (by decide) (by first | exact hR _ _ | omega) (by first | exact hR _ _ | omega) (fun c32 => ?_) (fun c32 => ?_)
        · rw [if_pos (Or.inr (Or.inl c32))]
          refine pr_aload_n dX4_letPass_42 rfl ?_
          refine pr_dup dX4_letPass_43 rfl ?_
          refine pr_getf dX4_letPass_44 pzf_4_37 (sH_67 hj) rfl ?_
          refine pr_iload dX4_letPass_47 rfl ?_
          refine zr_iadd dX4_letPass_49 ?_
          refine pr_putf dX4_letPass_50 pzf_4_37 (Or.inl rfl) (sH_67 hj) (Nat.le_of_ble_eq_true rfl) rfl rfl (sH_p67_8 hj) ?_
          refine pr_iload_n dX4_letPass_53 rfl ?_
          exact pr_iret dX4_letPass_54 rfl rfl (zret (by show wn = wn + 0; omega))
        · refine pr_iload dX4_letPass_35 rfl ?_
          refine pr_iload dX4_letPass_37 rfl ?_
          refine zr_icmp_le (tgt := 55) dX4_letPass_39 (by decide) (by first | exact hR _ _ | omega) (by first | exact hR _ _ | omega) (fun c39 => ?_) (fun c39 => ?_)
          · rw [if_neg (by omega)]
            refine pr_aload_n dX4_letPass_55 rfl ?_
            refine pr_dup dX4_letPass_56 rfl ?_
            refine pr_getf dX4_letPass_57 pzf_4_37 (sH_67 hj) rfl ?_
            refine pr_iload dX4_letPass_60 rfl ?_
            refine zr_iadd dX4_letPass_62 ?_
            refine pr_putf dX4_letPass_63 pzf_4_37 (Or.inl rfl) (sH_67 hj) (Nat.le_of_ble_eq_true rfl) rfl rfl (sH_p67_8 hj) ?_
            refine pr_iload dX4_letPass_66 rfl ?_
            refine pr_iload dX4_letPass_68 rfl ?_
            refine zr_isub dX4_letPass_70 ?_
            refine pr_istore dX4_letPass_71 (by decide) rfl ?_
            refine pr_aload_n dX4_letPass_73 rfl ?_
            refine pr_aload_n dX4_letPass_74 rfl ?_
            refine pr_iload dX4_letPass_75 rfl ?_
            show pz_WP 5 en (pz_Cd en (5 - 1)) 4 cX4_letPass _ _ _ _ _ _ _ _ (sH h a (sq a) (xpt X (xtf X))) _ _
            refine zcv2i dX4_letPass_77 pzm_4_104 pzt_X4_letGo (sH_67 hj) (kX4_letGo hj (xpt_I hI (t := xtf X) (by omega) (by omega)) (i := xnk X) (by omega) (by rw [xpt_lo (by decide)]; omega)) (by decide) (Nat.le_of_ble_eq_true rfl) (by decide) ?_
            refine pr_pop dX4_letPass_80 rfl ?_
            refine zr_iinc dX4_letPass_81 rfl (by decide) rfl ?_
            refine pr_goto (tgt := 5) dX4_letPass_84 (by decide) ?_
            have hI2 := xgo_I (xpt_I hI (t := xtf X) (by omega) (by omega)) (i := xnk X) (by omega) (by rw [xpt_lo (by decide)]; omega)
            have z := letPass_loop hj (T := T) n (xgo (xpt X (xtf X)) (xnk X)) (wn + 1) (l - xtf X) (some (xtf X)) (some (xnk X)) hI2 (by omega) (by omega) (by omega) (by rw [xgo_8, xpt_8]; omega)
            rw [Int.add_assoc] at z
            exact z
          · rw [if_pos (Or.inr (Or.inr (by omega)))]
            refine pr_aload_n dX4_letPass_42 rfl ?_
            refine pr_dup dX4_letPass_43 rfl ?_
            refine pr_getf dX4_letPass_44 pzf_4_37 (sH_67 hj) rfl ?_
            refine pr_iload dX4_letPass_47 rfl ?_
            refine zr_iadd dX4_letPass_49 ?_
            refine pr_putf dX4_letPass_50 pzf_4_37 (Or.inl rfl) (sH_67 hj) (Nat.le_of_ble_eq_true rfl) rfl rfl (sH_p67_8 hj) ?_
            refine pr_iload_n dX4_letPass_53 rfl ?_
            exact pr_iret dX4_letPass_54 rfl rfl (zret (by show wn = wn + 0; omega))
set_option maxRecDepth 100000 in
set_option maxHeartbeats 4000000 in
theorem kX4_letPass (hj : sj a)  {X : Int → Int → Int} (hI : xI X) {T : Int} (t1 : 0 ≤ T) (t2 : T ≤ 10000) (t3 : X 67 8 + T ≤ 100000) : pz_Cd en 5 63 [.ref (a 67), .ref (a 1), .int (zI T)] (sH h a (sq a) X) 0 0 (pz_ret (some (.int (zI (xpsF T.toNat X T).1))) (sH h a (sq a) (xpsF T.toNat X T).2)) := by
  refine pz_in pzt_X4_letPass ?_
  refine zr_iconst dX4_letPass_0 ?_
  refine pr_istore_n dX4_letPass_1 (by decide) rfl ?_
  refine pr_iload_n dX4_letPass_2 rfl ?_
  refine pr_istore dX4_letPass_3 (by decide) rfl ?_
  have z := letPass_loop (en := en) (h := h) hj (T := T) T.toNat X 0 T none none hI t1 (by omega) t2 t3
  rw [Int.zero_add] at z
  exact z
def xmL (X : Int → Int → Int) (m : Int) : Int → Int → Int := fun i j => if i = 1 ∧ (j = 1 ∨ j = 5) then 0 else if i = 3 ∧ 0 ≤ j ∧ j < m then 0 else X i j
def xmP (X : Int → Int → Int) (m : Int) : Int → Int → Int := fun i j => if (68 ≤ i ∧ i ≤ 72) ∧ 0 ≤ j ∧ j < m then 0 else X i j
def xmQ (X : Int → Int → Int) : Int → Int → Int := fun i j => if i = 67 ∧ 5 ≤ j ∧ j ≤ 8 then 0 else xmP X 12 i j
theorem xmL_0 {X : Int → Int → Int} : zv (zv X 1 (zu (X 1) 1 0)) 1 (zu (zu (X 1) 1 0) 5 0) = xmL X 0 := by
  rw [zv_zv]
  funext i j
  simp only [zv_app, zu_app, true_or, or_true, true_and, and_true, if_true, xmL]
  repeat' split
  all_goals first | rfl | omega | (subst_vars; rfl) | (exfalso; omega)
theorem xmL_s {X : Int → Int → Int} {m : Int} (h : 0 ≤ m) : zv (xmL X m) 3 (zu (xmL X m 3) m 0) = xmL X (m + 1) := by
  funext i j
  simp only [zv_app, zu_app, true_or, or_true, true_and, and_true, if_true, xmL]
  repeat' split
  all_goals first | rfl | omega | (subst_vars; rfl) | (exfalso; omega)
theorem xmP_0 {X : Int → Int → Int} : xmP X 0 = X := by
  funext i j
  exact if_neg (by omega)
theorem xmP_s {X : Int → Int → Int} {m : Int} {Y1 Y2 Y3 Y4 : Int → Int → Int} (h : 0 ≤ m) (e1 : Y1 = zv (xmP X m) 68 (zu (xmP X m 68) m 0)) (e2 : Y2 = zv Y1 69 (zu (Y1 69) m 0)) (e3 : Y3 = zv Y2 70 (zu (Y2 70) m 0)) (e4 : Y4 = zv Y3 71 (zu (Y3 71) m 0)) : zv Y4 72 (zu (Y4 72) m 0) = xmP X (m + 1) := by
  have e : ∀ i j, zv Y4 72 (zu (Y4 72) m 0) i j = if (68 ≤ i ∧ i ≤ 72) ∧ j = m then 0 else xmP X m i j := by
    intro i j
    by_cases q : j = m
    · subst q
      by_cases a1 : i = 72
      · subst a1; simp [zv_app, zu_app]
      by_cases a2 : i = 71
      · subst a2; subst e4; simp [zv_app, zu_app]
      by_cases a3 : i = 70
      · subst a3; subst e4; subst e3; simp [zv_app, zu_app]
      by_cases a4 : i = 69
      · subst a4; subst e4; subst e3; subst e2; simp [zv_app, zu_app]
      by_cases a5 : i = 68
      · subst a5; subst e4; subst e3; subst e2; subst e1; simp [zv_app, zu_app]
      rw [if_neg (by omega), zv_ne _ _ a1, e4, zv_ne _ _ a2, e3, zv_ne _ _ a3, e2, zv_ne _ _ a4, e1, zv_ne _ _ a5]
    · rw [if_neg (fun z => q z.2), zv_app, zu_app, if_neg q, e4, zv_app, zu_app, if_neg q, zv_app, zu_app, if_neg q, e3, zv_app, zu_app, if_neg q, zv_app, zu_app, if_neg q, zv_app, zu_app, if_neg q, e2, e1]
      simp only [zv_app, zu_app, if_neg q]
      repeat' split
      all_goals first | rfl | omega | (subst_vars; rfl)
  funext i j
  rw [e]
  unfold xmP
  repeat' split
  all_goals first | rfl | (exfalso; omega)
section cls
variable {en : pz_Env} {h : pz_H} {a : Int → Nat} {X : Int → Int → Int}
set_option maxRecDepth 100000 in
set_option maxHeartbeats 4000000 in
theorem kX1_makeNew (hj : sj a)  : pz_Cd en 1 28 [.ref (a 1)] (sH h a (sq a) X) 0 0 (pz_ret (none) (sH h a (sq a) (xmL X 12))) := by
  refine pz_in pzt_X1_makeNew ?_
  have loop : pz_WP 1 en (pz_Cd en (1 - 1)) 1 cX1_makeNew 2 none [] false (pz_ret (none) (sH h a (sq a) (xmL X 12))) 12 [some (.ref (a 1)), some (.int (zI 0))] [] (sH h a (sq a) (xmL X 0)) 0 0 := by
    refine zup (P := fun m => pz_WP 1 en (pz_Cd en (1 - 1)) 1 cX1_makeNew 2 none [] false (pz_ret (none) (sH h a (sq a) (xmL X 12))) 12 [some (.ref (a 1)), some (.int (zI m))] [] (sH h a (sq a) (xmL X m)) 0 0) (lo := 0) (hi := 12) (by decide) ?_ ?_
    · skip
      refine pr_iload_n dX1_makeNew_12 rfl ?_
      refine zr_bipush dX1_makeNew_13 (by decide) ?_
      refine zr_icmp_ge (tgt := 31) dX1_makeNew_15 (by decide) (by first | exact hR _ _ | omega) (by first | exact hR _ _ | omega) (fun c15 => ?_) (fun c15 => by exfalso; omega)
      exact pr_vret dX1_makeNew_31 rfl (zretv)
    · intro m hk1 hk2 ih
      refine pr_iload_n dX1_makeNew_12 rfl ?_
      refine zr_bipush dX1_makeNew_13 (by decide) ?_
      refine zr_icmp_ge (tgt := 31) dX1_makeNew_15 (by decide) (by first | exact hR _ _ | omega) (by first | exact hR _ _ | omega) (fun c15 => by exfalso; omega) (fun c15 => ?_)
      refine pr_aload_n dX1_makeNew_18 rfl ?_
      refine pr_getf dX1_makeNew_19 pzf_1_17 (sH_1 hj) rfl ?_
      refine pr_iload_n dX1_makeNew_22 rfl ?_
      refine zr_iconst dX1_makeNew_23 ?_
      refine zr_iast dX1_makeNew_24 (sH_3 hj) (by omega) (by decide) ((sH_u3 hj).trans (sH_eq (xmL_s hk1))) ?_
      refine zr_iinc dX1_makeNew_25 rfl (by decide) rfl ?_
      refine pr_goto (tgt := 12) dX1_makeNew_28 (by decide) ?_
      exact ih
  refine pr_aload_n dX1_makeNew_0 rfl ?_
  refine zr_iconst dX1_makeNew_1 ?_
  refine pr_putf dX1_makeNew_2 pzf_1_31 (Or.inl rfl) (sH_1 hj) (Nat.le_of_ble_eq_true rfl) rfl rfl (sH_p1_1 hj) ?_
  refine pr_aload_n dX1_makeNew_5 rfl ?_
  refine zr_iconst dX1_makeNew_6 ?_
  refine pr_putf dX1_makeNew_7 pzf_1_35 (Or.inl rfl) (sH_1 hj) (Nat.le_of_ble_eq_true rfl) rfl rfl ((sH_p1_5 hj).trans (sH_eq xmL_0)) ?_
  refine zr_iconst dX1_makeNew_10 ?_
  refine pr_istore_n dX1_makeNew_11 (by decide) rfl ?_
  exact loop
theorem xmQ_e {X : Int → Int → Int} : zv (zv (zv (zv (xmP X 12) 67 (zu (xmP X 12 67) 5 0)) 67 (zu (zu (xmP X 12 67) 5 0) 6 0)) 67 (zu (zu (zu (xmP X 12 67) 5 0) 6 0) 7 0)) 67 (zu (zu (zu (zu (xmP X 12 67) 5 0) 6 0) 7 0) 8 0) = xmQ X := by
  rw [zv_zv, zv_zv, zv_zv]
  funext i j
  unfold xmQ
  rw [zv_app, zu_app, zu_app, zu_app, zu_app]
  repeat' split
  all_goals first | rfl | omega | (subst_vars; rfl) | (exfalso; omega)
set_option maxRecDepth 100000 in
set_option maxHeartbeats 4000000 in
theorem kX4_makeNew (hj : sj a)  : pz_Cd en 1 65 [.ref (a 67)] (sH h a (sq a) X) 0 0 (pz_ret (none) (sH h a (sq a) (xmQ X))) := by
  refine pz_in pzt_X4_makeNew ?_
  have loop : pz_WP 1 en (pz_Cd en (1 - 1)) 4 cX4_makeNew 2 none [] false (pz_ret (none) (sH h a (sq a) (xmQ X))) 2 [some (.ref (a 67)), some (.int (zI 0))] [] (sH h a (sq a) (xmP X 0)) 0 0 := by
    refine zup (P := fun m => pz_WP 1 en (pz_Cd en (1 - 1)) 4 cX4_makeNew 2 none [] false (pz_ret (none) (sH h a (sq a) (xmQ X))) 2 [some (.ref (a 67)), some (.int (zI m))] [] (sH h a (sq a) (xmP X m)) 0 0) (lo := 0) (hi := 12) (by decide) ?_ ?_
    · skip
      refine pr_iload_n dX4_makeNew_2 rfl ?_
      refine zr_bipush dX4_makeNew_3 (by decide) ?_
      refine zr_icmp_ge (tgt := 49) dX4_makeNew_5 (by decide) (by first | exact hR _ _ | omega) (by first | exact hR _ _ | omega) (fun c5 => ?_) (fun c5 => by exfalso; omega)
      refine pr_aload_n dX4_makeNew_49 rfl ?_
      refine zr_iconst dX4_makeNew_50 ?_
      refine pr_putf dX4_makeNew_51 pzf_4_27 (Or.inl rfl) (sH_67 hj) (Nat.le_of_ble_eq_true rfl) rfl rfl (sH_p67_5 hj) ?_
      refine pr_aload_n dX4_makeNew_54 rfl ?_
      refine zr_iconst dX4_makeNew_55 ?_
      refine pr_putf dX4_makeNew_56 pzf_4_31 (Or.inl rfl) (sH_67 hj) (Nat.le_of_ble_eq_true rfl) rfl rfl (sH_p67_6 hj) ?_
      refine pr_aload_n dX4_makeNew_59 rfl ?_
      refine zr_iconst dX4_makeNew_60 ?_
      refine pr_putf dX4_makeNew_61 pzf_4_34 (Or.inl rfl) (sH_67 hj) (Nat.le_of_ble_eq_true rfl) rfl rfl (sH_p67_7 hj) ?_
      refine pr_aload_n dX4_makeNew_64 rfl ?_
      refine zr_iconst dX4_makeNew_65 ?_
      refine pr_putf dX4_makeNew_66 pzf_4_37 (Or.inl rfl) (sH_67 hj) (Nat.le_of_ble_eq_true rfl) rfl rfl ((sH_p67_8 hj).trans (sH_eq xmQ_e)) ?_
      exact pr_vret dX4_makeNew_69 rfl (zretv)
    · intro m hk1 hk2 ih
      refine pr_iload_n dX4_makeNew_2 rfl ?_
      refine zr_bipush dX4_makeNew_3 (by decide) ?_
      refine zr_icmp_ge (tgt := 49) dX4_makeNew_5 (by decide) (by first | exact hR _ _ | omega) (by first | exact hR _ _ | omega) (fun c5 => by exfalso; omega) (fun c5 => ?_)
      refine pr_aload_n dX4_makeNew_8 rfl ?_
      refine pr_getf dX4_makeNew_9 pzf_4_9 (sH_67 hj) rfl ?_
      refine pr_iload_n dX4_makeNew_12 rfl ?_
      refine zr_iconst dX4_makeNew_13 ?_
      refine zr_iast dX4_makeNew_14 (sH_68 hj) (by omega) (by decide) (sH_u68 hj) ?_
      refine pr_aload_n dX4_makeNew_15 rfl ?_
      refine pr_getf dX4_makeNew_16 pzf_4_15 (sH_67 hj) rfl ?_
      refine pr_iload_n dX4_makeNew_19 rfl ?_
      refine zr_iconst dX4_makeNew_20 ?_
      refine zr_iast dX4_makeNew_21 (sH_69 hj) (by omega) (by decide) (sH_u69 hj) ?_
      refine pr_aload_n dX4_makeNew_22 rfl ?_
      refine pr_getf dX4_makeNew_23 pzf_4_18 (sH_67 hj) rfl ?_
      refine pr_iload_n dX4_makeNew_26 rfl ?_
      refine zr_iconst dX4_makeNew_27 ?_
      refine zr_iast dX4_makeNew_28 (sH_70 hj) (by omega) (by decide) (sH_u70 hj) ?_
      refine pr_aload_n dX4_makeNew_29 rfl ?_
      refine pr_getf dX4_makeNew_30 pzf_4_21 (sH_67 hj) rfl ?_
      refine pr_iload_n dX4_makeNew_33 rfl ?_
      refine zr_iconst dX4_makeNew_34 ?_
      refine zr_iast dX4_makeNew_35 (sH_71 hj) (by omega) (by decide) (sH_u71 hj) ?_
      refine pr_aload_n dX4_makeNew_36 rfl ?_
      refine pr_getf dX4_makeNew_37 pzf_4_24 (sH_67 hj) rfl ?_
      refine pr_iload_n dX4_makeNew_40 rfl ?_
      refine zr_iconst dX4_makeNew_41 ?_
      refine zr_iast dX4_makeNew_42 (sH_72 hj) (by omega) (by decide) ((sH_u72 hj).trans (sH_eq (xmP_s hk1 rfl rfl rfl rfl))) ?_
      refine zr_iinc dX4_makeNew_43 rfl (by decide) rfl ?_
      refine pr_goto (tgt := 2) dX4_makeNew_46 (by decide) ?_
      exact ih
  refine zr_iconst dX4_makeNew_0 ?_
  refine pr_istore_n dX4_makeNew_1 (by decide) rfl ?_
  rw [xmP_0] at loop
  exact loop
set_option maxRecDepth 100000 in
set_option maxHeartbeats 4000000 in
theorem kX5_makeNew (hj : sj a)  : pz_Cd en 2 74 [.ref (a 0)] (sH h a (sq a) X) 0 0 (pz_ret (none) (sH h a (sq a) (xmQ (xmL X 12)))) := by
  refine pz_in pzt_X5_makeNew ?_
  refine pr_aload_n dX5_makeNew_0 rfl ?_
  refine pr_getf dX5_makeNew_1 pzf_5_10 (sH_0 hj) rfl ?_
  refine zcv0u dX5_makeNew_4 pzm_5_23 pzt_X1_makeNew (sH_1 hj) (kX1_makeNew hj) (by decide) (Nat.le_of_ble_eq_true rfl) (by decide) ?_
  refine pr_aload_n dX5_makeNew_7 rfl ?_
  refine pr_getf dX5_makeNew_8 pzf_5_19 (sH_0 hj) rfl ?_
  refine zcv0u dX5_makeNew_11 pzm_5_26 pzt_X4_makeNew (sH_67 hj) (kX4_makeNew hj) (by decide) (Nat.le_of_ble_eq_true rfl) (by decide) ?_
  exact pr_vret dX5_makeNew_14 rfl (zretv)
end cls
end cls
