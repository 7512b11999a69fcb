/-! the class: a cue is dropped; copies -/
theorem bI_congr {p q : Prop} [Decidable p] [Decidable q] (h : p ↔ q) : bI p = bI q := by
  unfold bI
  by_cases e : p
  · rw [if_pos e, if_pos (h.mp e)]
  · rw [if_neg e, if_neg (fun z => e (h.mpr z))]
theorem xlv_e6 {X Y : Int → Int → Int} (e : ∀ q : Int, ¬ q = 6 → Y q = X q) {i c : Int} : xlv Y i c = xlv X i c := by
  unfold xlv
  exact xlvF_ex2 (by rw [e 3 (by decide)]) _ (fun k h1 h2 => by rw [e _ (by omega), e _ (by omega)]; exact ⟨rfl, rfl⟩)
theorem xnh_e6 {X Y : Int → Int → Int} (e : ∀ q : Int, ¬ q = 6 → Y q = X q) {i c t : Int} (i1 : 0 ≤ i) : bI (xnh Y i c t) = bI (xnh X i c t) := by
  apply bI_congr
  unfold xnh xtk
  rw [xlv_e6 e, e 1 (by decide), e _ (by omega), e _ (by omega)]
theorem xic_e6 {X Y : Int → Int → Int} (e : ∀ q : Int, ¬ q = 6 → Y q = X q) {i : Int} (i1 : 0 ≤ i) : xic Y i = xic X i := by
  unfold xic
  rw [e _ (by omega)]
def xhv (X : Int → Int → Int) (i : Int) (hd : Prop) [Decidable hd] (c : Int) : Int := if hd ∧ xnh X (i + 1) c (xlv X (i - 1) c) then xlv X (i + 1) c else -2
def xhl (X : Int → Int → Int) (i : Int) (hd : Prop) [Decidable hd] (m : Int) : Int → Int → Int := zv X 6 (fun j => if 0 ≤ j ∧ j < m then xhv X i hd j else X 6 j)
theorem xhl_ne {X : Int → Int → Int} {i m q : Int} {hd : Prop} [Decidable hd] (h : ¬ q = 6) : xhl X i hd m q = X q := zv_ne _ _ h
theorem xhl_0 {X : Int → Int → Int} {i : Int} {hd : Prop} [Decidable hd] : xhl X i hd 0 = X := by
  funext q j
  unfold xhl
  rw [zv_app]
  split
  · rename_i e
    rw [if_neg (by omega), e]
  · rfl
theorem xhl_s {X : Int → Int → Int} {i m v : Int} {hd : Prop} [Decidable hd] (hm : 0 ≤ m) (hv : v = xhv X i hd m) : zv (xhl X i hd m) 6 (zu (xhl X i hd m 6) m v) = xhl X i hd (m + 1) := by
  unfold xhl
  rw [zv_zv, zv_at, hv]
  congr 1
  funext j
  rw [zu_app]
  by_cases e : j = m
  · rw [if_pos e, if_pos (by omega), e]
  · rw [if_neg e]
    by_cases e2 : 0 ≤ j ∧ j < m
    · rw [if_pos e2, if_pos (by omega)]
    · rw [if_neg e2, if_neg (by omega)]
theorem xhv_R {X : Int → Int → Int} (hX : xB X) {i : Int} {hd : Prop} [Decidable hd] (c : Int) : zR (xhv X i hd c) := by
  unfold xhv
  split
  · exact xlv_R hX.1 _ _
  · exact ⟨by decide, by decide⟩
theorem xhl_B {X : Int → Int → Int} (hX : xB X) {i m : Int} {hd : Prop} [Decidable hd] : xB (xhl X i hd m) := by
  refine ⟨?_, ?_⟩
  · intro q j
    unfold xhl
    rw [zv_app]
    split
    · split
      · exact xhv_R hX _
      · exact hX.1 _ _
    · exact hX.1 _ _
  · rw [xhl_ne (by decide)]; exact hX.2
def xdp (Z : Int → Int → Int) (i : Int) : Nat → (Int → Int → Int)
  | 0 => Z
  | m + 1 => if Z 6 m = -2 then xdp Z i m else xpi (xdp Z i m) i m (Z 6 m) 0
theorem xdp_s {Z : Int → Int → Int} {i m : Int} (h : 0 ≤ m) : xdp Z i (m + 1).toNat = if Z 6 m = -2 then xdp Z i m.toNat else xpi (xdp Z i m.toNat) i m (Z 6 m) 0 := by
  obtain ⟨k, rfl⟩ : ∃ k : Nat, m = k := ⟨m.toNat, by omega⟩
  rw [show ((k : Int) + 1).toNat = k + 1 by omega]
  rfl
theorem xpi_ne {X : Int → Int → Int} {k c t pt q : Int} (h1 : ¬ q = 7 + 5 * k + 3) (h2 : ¬ q = 7 + 5 * k + 4) (h3 : ¬ q = 4) (h4 : ¬ q = 5) (h5 : ¬ q = 1) : xpi X k c t pt q = X q := by
  funext j
  unfold xpi
  rw [if_neg (by omega), if_neg (by omega), if_neg (show ¬ (q = 4 ∧ j = X 1 5) by omega), if_neg (show ¬ (q = 5 ∧ j = X 1 5) by omega), if_neg (show ¬ (q = 1 ∧ j = 5) by omega)]
  split <;> rfl
theorem xdp_6 {Z : Int → Int → Int} {i : Int} (i1 : 0 ≤ i) : ∀ m : Nat, xdp Z i m 6 = Z 6
  | 0 => rfl
  | m + 1 => by
    unfold xdp
    split
    · exact xdp_6 i1 m
    · rw [xpi_ne (by omega) (by omega) (by decide) (by decide) (by decide)]; exact xdp_6 i1 m
theorem xdp_B {Z : Int → Int → Int} (hZ : xB Z) {i : Int} (i1 : 0 ≤ i) : ∀ m : Nat, m ≤ 12 → xB (xdp Z i m)
  | 0, _ => hZ
  | m + 1, hm => by
    have ih := xdp_B hZ i1 m (by omega)
    unfold xdp
    split
    · exact ih
    · exact xpi_B ih i1 (hZ.1 _ _) ⟨by decide, by decide⟩ (by omega)
theorem xdD_B {X : Int → Int → Int} (hX : xB X) {i : Int} (i1 : 0 ≤ i) (i2 : i < X 1 1) : xB (xdD X i) := by
  have h12 := (xdc_B hX i1 12)
  have hR : ∀ q j, zR (xdA X i q j) := by
    intro q j
    have := hX.2
    unfold xdA
    rw [zv_app, zu_app]
    split
    · split
      · omega
      · exact h12.1.1 _ _
    · exact h12.1.1 _ _
  refine ⟨fun q j => hR _ _, ?_⟩
  have := hX.2
  have h5 := h12.1.2
  have e5 : xdD X i 1 5 = xdc X i 12 1 5 := by
    show xdA X i (zp (pD i (X 1 1 - 1)) 1) 5 = _
    rw [zp_lo (by decide)]
    unfold xdA
    rw [zv_at, zu_ne _ (by decide)]
  have e1 : xdD X i 1 1 = X 1 1 - 1 := by
    show xdA X i (zp (pD i (X 1 1 - 1)) 1) 1 = _
    rw [zp_lo (by decide), xdA_1]
  rw [e1, e5]
  omega
section cls
variable {en : pz_Env} {h : pz_H} {a : Int → Nat} {X : Int → Int → Int}
set_option maxRecDepth 100000 in
set_option maxHeartbeats 4000000 in
theorem drop_loop (hj : sj a) {Z : Int → Int → Int} (hZ : xB Z) {i w : Int} {hd : Prop} [dd : Decidable hd] (i1 : 0 ≤ i) (i2 : i < 12) : pz_WP 4 en (pz_Cd en (4 - 1)) 1 cX1_dropCue 5 (some .int) [] false (pz_ret (some (.int (zI w))) (sH h a (sq a) (xdp Z i 12))) 75 [some (.ref (a 1)), some (.int (zI i)), some (.int (zI (bI hd))), some (.int (zI w)), some (.int (zI 0))] [] (sH h a (sq a) (xdp Z i (0 : Int).toNat)) 0 0 := by
  refine zup (P := fun m => pz_WP 4 en (pz_Cd en (4 - 1)) 1 cX1_dropCue 5 (some .int) [] false (pz_ret (some (.int (zI w))) (sH h a (sq a) (xdp Z i 12))) 75 [some (.ref (a 1)), some (.int (zI i)), some (.int (zI (bI hd))), some (.int (zI w)), some (.int (zI m))] [] (sH h a (sq a) (xdp Z i (m : Int).toNat)) 0 0) (lo := 0) (hi := 12) (by decide) ?_ ?_
  · skip
    refine pr_iload dX1_dropCue_75 rfl ?_
    refine zr_bipush dX1_dropCue_77 (by decide) ?_
    refine zr_icmp_ge (tgt := 115) dX1_dropCue_79 (by decide) (by first | exact hR _ _ | omega) (by first | exact hR _ _ | omega) (fun c79 => ?_) (fun c79 => by exfalso; omega)
    refine pr_iload_n dX1_dropCue_115 rfl ?_
    exact pr_iret dX1_dropCue_116 rfl rfl (zret (by rfl))
  · intro m hk1 hk2 ih
    have hY := xdp_B hZ i1 m.toNat (by omega)
    rw [xdp_s hk1] at ih
    refine pr_iload dX1_dropCue_75 rfl ?_
    refine zr_bipush dX1_dropCue_77 (by decide) ?_
    refine zr_icmp_ge (tgt := 115) dX1_dropCue_79 (by decide) (by first | exact hR _ _ | omega) (by first | exact hR _ _ | omega) (fun c79 => by exfalso; omega) (fun c79 => ?_)
    refine pr_aload_n dX1_dropCue_82 rfl ?_
    refine pr_getf dX1_dropCue_83 pzf_1_27 (sH_1 hj) rfl ?_
    refine pr_iload dX1_dropCue_86 rfl ?_
    refine zr_iald dX1_dropCue_88 (sH_6 hj) (by omega) (by decide) ?_
    refine zr_bipush dX1_dropCue_89 (by decide) ?_
    rw [xdp_6 i1]
    refine zr_icmp_eq (tgt := 109) dX1_dropCue_91 (by decide) (hZ.1 _ _) (by decide) (fun c91 => ?_) (fun c91 => ?_)
    · rw [if_pos c91] at ih
      refine zr_iinc dX1_dropCue_109 rfl (by decide) rfl ?_
      refine pr_goto (tgt := 75) dX1_dropCue_112 (by decide) ?_
      exact ih
    · rw [if_neg c91] at ih
      refine pr_aload_n dX1_dropCue_94 rfl ?_
      refine pr_iload_n dX1_dropCue_95 rfl ?_
      refine pr_iload dX1_dropCue_96 rfl ?_
      refine pr_aload_n dX1_dropCue_98 rfl ?_
      refine pr_getf dX1_dropCue_99 pzf_1_27 (sH_1 hj) rfl ?_
      refine pr_iload dX1_dropCue_102 rfl ?_
      refine zr_iald dX1_dropCue_104 (sH_6 hj) (by omega) (by decide) ?_
      rw [xdp_6 i1]
      refine zr_iconst dX1_dropCue_105 ?_
      
      refine zcv4u dX1_dropCue_106 pzm_1_118 pzt_X1_putInstruction (sH_1 hj) (kX1_putInstruction hj hY (by omega) (by omega) (by omega) (by omega)) (by decide) (Nat.le_of_ble_eq_true rfl) (by decide) ?_
      refine zr_iinc dX1_dropCue_109 rfl (by decide) rfl ?_
      refine pr_goto (tgt := 75) dX1_dropCue_112 (by decide) ?_
      exact ih
set_option maxRecDepth 100000 in
set_option maxHeartbeats 4000000 in
theorem kX1_dropCue (hj : sj a) (hX : xB X)  {i : Int} (i1 : 0 ≤ i) (i2 : i < X 1 1) {hd : Prop} [dd : Decidable hd] : pz_Cd en 4 27 [.ref (a 1), .int (zI i), .int (zI (bI hd))] (sH h a (sq a) X) 0 0 (pz_ret (some (.int (zI (xic X i)))) (sH h (zs (pD i (X 1 1 - 1)) a) (sq (zs (pD i (X 1 1 - 1)) a)) (xdp (xdD (xhl X i hd 12) i) i 12))) := by
  refine pz_in pzt_X1_dropCue ?_
  obtain ⟨hR, hn0, hn1, hm0, hm1⟩ := id hX
  have loop : ∀ q : Option Int, pz_WP 4 en (pz_Cd en (4 - 1)) 1 cX1_dropCue 5 (some .int) [] false (pz_ret (some (.int (zI (xic X i)))) (sH h (zs (pD i (X 1 1 - 1)) a) (sq (zs (pD i (X 1 1 - 1)) a)) (xdp (xdD (xhl X i hd 12) i) i 12))) 2 [some (.ref (a 1)), some (.int (zI i)), some (.int (zI (bI hd))), some (.int (zI 0)), q.map (fun z => Value.int (zI z))] [] (sH h a (sq a) (xhl X i hd 0)) 0 0 := by
    refine zup (P := fun m => ∀ q : Option Int, pz_WP 4 en (pz_Cd en (4 - 1)) 1 cX1_dropCue 5 (some .int) [] false (pz_ret (some (.int (zI (xic X i)))) (sH h (zs (pD i (X 1 1 - 1)) a) (sq (zs (pD i (X 1 1 - 1)) a)) (xdp (xdD (xhl X i hd 12) i) i 12))) 2 [some (.ref (a 1)), some (.int (zI i)), some (.int (zI (bI hd))), some (.int (zI m)), q.map (fun z => Value.int (zI z))] [] (sH h a (sq a) (xhl X i hd m)) 0 0) (lo := 0) (hi := 12) (by decide) ?_ ?_
    · intro q
      have hY := xhl_B hX (i := i) (m := 12) (hd := hd)
      have e6 : ∀ q : Int, ¬ q = 6 → xhl X i hd 12 q = X q := fun q hq => xhl_ne hq
      have e1 : xhl X i hd 12 1 = X 1 := e6 1 (by decide)
      refine pr_iload_n dX1_dropCue_2 rfl ?_
      refine zr_bipush dX1_dropCue_3 (by decide) ?_
      refine zr_icmp_ge (tgt := 66) dX1_dropCue_5 (by decide) (by first | exact hR _ _ | omega) (by first | exact hR _ _ | omega) (fun c5 => ?_) (fun c5 => by exfalso; omega)
      refine pr_aload_n dX1_dropCue_66 rfl ?_
      refine pr_iload_n dX1_dropCue_67 rfl ?_
      refine zcv1i dX1_dropCue_68 pzm_1_133 pzt_X1_deleteCue (sH_1 hj) (kX1_deleteCue hj hY i1 (by rw [e1]; exact i2)) (by decide) (Nat.le_of_ble_eq_true rfl) (by decide) ?_
      rw [xic_e6 e6 i1]
      rw [e1]
      refine pr_istore_n dX1_dropCue_71 (by decide) rfl ?_
      refine zr_iconst dX1_dropCue_72 ?_
      refine pr_istore dX1_dropCue_73 (by decide) (by cases q <;> rfl) ?_
      have z := drop_loop (en := en) (h := h) (zs_sj (zpI_D i1 (show i ≤ X 1 1 - 1 by omega) (by omega)) hj) (xdD_B hY i1 (by rw [e1]; exact i2)) (w := xic X i) (hd := hd) i1 (show i < 12 by omega)
      rw [show zs (pD i (X 1 1 - 1)) a 1 = a 1 from congrArg a (zp_lo (by decide))] at z
      exact z
    · intro m hk1 hk2 ih q
      have hY := xhl_B hX (i := i) (m := m) (hd := hd)
      have e6 : ∀ q : Int, ¬ q = 6 → xhl X i hd m q = X q := fun q hq => xhl_ne hq
      have e1 : xhl X i hd m 1 = X 1 := e6 1 (by decide)
      refine pr_iload_n dX1_dropCue_2 rfl ?_
      refine zr_bipush dX1_dropCue_3 (by decide) ?_
      refine zr_icmp_ge (tgt := 66) dX1_dropCue_5 (by decide) (by first | exact hR _ _ | omega) (by first | exact hR _ _ | omega) (fun c5 => by exfalso; omega) (fun c5 => ?_)
      refine pr_iload_n dX1_dropCue_8 rfl ?_
      refine zr_if_eq (tgt := 33) dX1_dropCue_9 (by decide) (bI_R _) (fun c9 => ?_) (fun c9 => ?_)
      · have b9 := bI_0 c9
        have hv : xhv X i hd m = -2 := if_neg (fun z => b9 z.1)
        refine zr_iconst dX1_dropCue_33 ?_
        refine pr_istore dX1_dropCue_34 (by decide) (by cases q <;> rfl) ?_
        refine pr_aload_n dX1_dropCue_36 rfl ?_
        refine pr_getf dX1_dropCue_37 pzf_1_27 (sH_1 hj) rfl ?_
        refine pr_iload_n dX1_dropCue_40 rfl ?_
        refine pr_iload dX1_dropCue_41 rfl ?_
        refine zr_if_eq (tgt := 57) dX1_dropCue_43 (by decide) (by first | exact hR _ _ | omega) (fun c43 => ?_) (fun c43 => by exfalso; omega)
        refine zr_bipush dX1_dropCue_57 (by decide) ?_
        refine zr_iast dX1_dropCue_59 (sH_6 hj) (by omega) (by decide) ((sH_u6 hj).trans (sH_eq (xhl_s hk1 (hv.symm)))) ?_
        refine zr_iinc dX1_dropCue_60 rfl (by decide) rfl ?_
        refine pr_goto (tgt := 2) dX1_dropCue_63 (by decide) ?_
        exact ih (some _)
      · have b9 := bI_ne c9
        refine pr_aload_n dX1_dropCue_12 rfl ?_
        refine pr_iload_n dX1_dropCue_13 rfl ?_
        refine zr_iconst dX1_dropCue_14 ?_
        refine zr_iadd dX1_dropCue_15 ?_
        refine pr_iload_n dX1_dropCue_16 rfl ?_
        refine pr_aload_n dX1_dropCue_17 rfl ?_
        refine pr_iload_n dX1_dropCue_18 rfl ?_
        refine pr_iload_n dX1_dropCue_19 rfl ?_
        refine zcv2i dX1_dropCue_20 pzm_1_69 pzt_X1_levelBefore (sH_1 hj) (kX1_levelBefore hj hY (by omega) (by omega) (by omega) (by omega)) (by decide) (Nat.le_of_ble_eq_true rfl) (by decide) ?_
        rw [xlv_e6 e6]
        refine zcv3i dX1_dropCue_23 pzm_1_103 pzt_X1_needsHold (sH_1 hj) (kX1_needsHold hj hY (by omega) (by omega) (by omega) (by omega) (xlv_R hR _ _)) (by decide) (Nat.le_of_ble_eq_true rfl) (by decide) ?_
        rw [xnh_e6 e6 (by omega)]
        refine zr_if_eq (tgt := 33) dX1_dropCue_26 (by decide) (bI_R _) (fun c26 => ?_) (fun c26 => ?_)
        · have b26 := bI_0 c26
          have hv : xhv X i hd m = -2 := if_neg (fun z => b26 z.2)
          refine zr_iconst dX1_dropCue_33 ?_
          refine pr_istore dX1_dropCue_34 (by decide) (by cases q <;> rfl) ?_
          refine pr_aload_n dX1_dropCue_36 rfl ?_
          refine pr_getf dX1_dropCue_37 pzf_1_27 (sH_1 hj) rfl ?_
          refine pr_iload_n dX1_dropCue_40 rfl ?_
          refine pr_iload dX1_dropCue_41 rfl ?_
          refine zr_if_eq (tgt := 57) dX1_dropCue_43 (by decide) (by first | exact hR _ _ | omega) (fun c43 => ?_) (fun c43 => by exfalso; omega)
          refine zr_bipush dX1_dropCue_57 (by decide) ?_
          refine zr_iast dX1_dropCue_59 (sH_6 hj) (by omega) (by decide) ((sH_u6 hj).trans (sH_eq (xhl_s hk1 (hv.symm)))) ?_
          refine zr_iinc dX1_dropCue_60 rfl (by decide) rfl ?_
          refine pr_goto (tgt := 2) dX1_dropCue_63 (by decide) ?_
          exact ih (some _)
        · have b26 := bI_ne c26
          have hv : xhv X i hd m = xlv X (i + 1) m := if_pos ⟨b9, b26⟩
          refine zr_iconst dX1_dropCue_29 ?_
          refine pr_goto (tgt := 34) dX1_dropCue_30 (by decide) ?_
          refine pr_istore dX1_dropCue_34 (by decide) (by cases q <;> rfl) ?_
          refine pr_aload_n dX1_dropCue_36 rfl ?_
          refine pr_getf dX1_dropCue_37 pzf_1_27 (sH_1 hj) rfl ?_
          refine pr_iload_n dX1_dropCue_40 rfl ?_
          refine pr_iload dX1_dropCue_41 rfl ?_
          refine zr_if_eq (tgt := 57) dX1_dropCue_43 (by decide) (by first | exact hR _ _ | omega) (fun c43 => by exfalso; omega) (fun c43 => ?_)
          refine pr_aload_n dX1_dropCue_46 rfl ?_
          refine pr_iload_n dX1_dropCue_47 rfl ?_
          refine zr_iconst dX1_dropCue_48 ?_
          refine zr_iadd dX1_dropCue_49 ?_
          refine pr_iload_n dX1_dropCue_50 rfl ?_
          have ix : i + 1 < 12 := by have := b26.1; omega
          refine zcv2i dX1_dropCue_51 pzm_1_62 pzt_X1_levelIn (sH_1 hj) (kX1_levelIn hj hY (by omega) (by omega) (by omega) (by omega)) (by decide) (Nat.le_of_ble_eq_true rfl) (by decide) ?_
          rw [xlv_e6 e6]
          refine pr_goto (tgt := 59) dX1_dropCue_54 (by decide) ?_
          refine zr_iast dX1_dropCue_59 (sH_6 hj) (by omega) (by decide) ((sH_u6 hj).trans (sH_eq (xhl_s hk1 (hv.symm)))) ?_
          refine zr_iinc dX1_dropCue_60 rfl (by decide) rfl ?_
          refine pr_goto (tgt := 2) dX1_dropCue_63 (by decide) ?_
          exact ih (some _)
  refine zr_iconst dX1_dropCue_0 ?_
  refine pr_istore_n dX1_dropCue_1 (by decide) rfl ?_
  have z := loop none
  rw [xhl_0] at z
  exact z
end cls
