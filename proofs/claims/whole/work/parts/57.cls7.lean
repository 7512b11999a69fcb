/-! the class: editing -/
def xrun (X : Int → Int → Int) (c : Int) : Nat → Int → Int
  | 0, _ => 0
  | n + 1, k => if xtk X k c then 1 + xrun X c n (k + 1) else 0
theorem xrun_s {X : Int → Int → Int} {c m k : Int} (h : 0 < m) : xrun X c m.toNat k = if xtk X k c then 1 + xrun X c (m - 1).toNat (k + 1) else 0 := by
  rw [show m.toNat = (m - 1).toNat + 1 by omega]
  rfl
def xcf (X : Int → Int → Int) (b i c : Int) : Int := if xlv X i c = b then 0 else 1 + xrun X c (X 1 1 - (i + 1)).toNat (i + 1)
theorem xlvF_ex2 {X Y : Int → Int → Int} {c : Int} (e3 : Y 3 c = X 3 c) : ∀ n : Nat, (∀ k : Int, 0 ≤ k → k < n → Y (7 + 5 * k) 2 = X (7 + 5 * k) 2 ∧ Y (7 + 5 * k + 3) c = X (7 + 5 * k + 3) c) → xlvF Y c n = xlvF X c n
  | 0, _ => e3
  | n + 1, e => by
    have e1 := e n (by omega) (by omega)
    unfold xlvF xlm xtk
    rw [e1.1, e1.2, e3, xlvF_ex2 e3 n (fun k h1 h2 => e k h1 (by omega))]
def xmb (X : Int → Int → Int) (i v : Int) : Int → Int → Int := zv X (7 + 5 * i) (zu (X (7 + 5 * i)) 2 v)
theorem xmb_lo {X : Int → Int → Int} {i v q : Int} (h : ¬ q = 7 + 5 * i) : xmb X i v q = X q := zv_ne _ _ h
theorem xmb_B {X : Int → Int → Int} (hX : xB X) {i v : Int} (i1 : 0 ≤ i) (hv : zR v) : xB (xmb X i v) := by
  refine ⟨?_, ?_⟩
  · intro q j
    unfold xmb
    rw [zv_app, zu_app]
    split
    · split
      · exact hv
      · exact hX.1 _ _
    · exact hX.1 _ _
  · rw [xmb_lo (by omega)]; exact hX.2
theorem xmb_lv {X : Int → Int → Int} {i v c : Int} : xlv (xmb X i v) (i - 1) c = xlv X (i - 1) c := by
  unfold xlv
  exact xlvF_ex2 (by rw [show xmb X i v 3 = X 3 from xmb_lo (by omega)]) _ (fun k h1 h2 => by rw [xmb_lo (by omega), xmb_lo (by omega)]; exact ⟨rfl, rfl⟩)
abbrev xmbF (X : Int → Int → Int) (i : Int) : Int → Int := fun c => bI (X (7 + 5 * i + 3) c = -2 ∧ ¬ X 3 c = xlv X (i - 1) c)
section cls
variable {en : pz_Env} {h : pz_H} {a : Int → Nat} {X : Int → Int → Int}
set_option maxRecDepth 100000 in
set_option maxHeartbeats 4000000 in
theorem kX1_changedFrom (hj : sj a) (hX : xB X)  {b i c : Int} (b1 : zR b) (i1 : 0 ≤ i) (i2 : i < X 1 1) (c1 : 0 ≤ c) (c2 : c ≤ 11) : pz_Cd en 3 24 [.ref (a 1), .int (zI b), .int (zI i), .int (zI c)] (sH h a (sq a) X) 0 0 (pz_ret (some (.int (zI (xcf X b i c)))) (sH h a (sq a) X)) := by
  refine pz_in pzt_X1_changedFrom ?_
  obtain ⟨hR, hn0, hn1, hm0, hm1⟩ := id hX
  have loop : ∀ T : Int, pz_WP 3 en (pz_Cd en (3 - 1)) 1 cX1_changedFrom 6 (some .int) [] false (pz_ret (some (.int (zI (T + xrun X c (X 1 1 - (i + 1)).toNat (i + 1))))) (sH h a (sq a) X)) 20 [some (.ref (a 1)), some (.int (zI b)), some (.int (zI i)), some (.int (zI c)), some (.int (zI T)), some (.int (zI (i + 1)))] [] (sH h a (sq a) X) 0 0 := by
    refine zup (P := fun k => ∀ T : Int, pz_WP 3 en (pz_Cd en (3 - 1)) 1 cX1_changedFrom 6 (some .int) [] false (pz_ret (some (.int (zI (T + xrun X c (X 1 1 - k).toNat k)))) (sH h a (sq a) X)) 20 [some (.ref (a 1)), some (.int (zI b)), some (.int (zI i)), some (.int (zI c)), some (.int (zI T)), some (.int (zI k))] [] (sH h a (sq a) X) 0 0) (lo := i + 1) (hi := X 1 1) (by omega) ?_ ?_
    · intro T
      rw [show (X 1 1 - X 1 1).toNat = 0 by omega]
      refine pr_iload dX1_changedFrom_20 rfl ?_
      refine pr_aload_n dX1_changedFrom_22 rfl ?_
      refine pr_getf dX1_changedFrom_23 pzf_1_31 (sH_1 hj) rfl ?_
      refine zr_icmp_ge (tgt := 52) dX1_changedFrom_26 (by decide) (by first | exact hR _ _ | omega) (by first | exact hR _ _ | omega) (fun c26 => ?_) (fun c26 => by exfalso; omega)
      refine pr_iload dX1_changedFrom_52 rfl ?_
      exact pr_iret dX1_changedFrom_54 rfl rfl (zret (by show T = T + 0; omega))
    · intro k hk1 hk2 ih T
      rw [xrun_s (by omega)]
      rw [show X 1 1 - k - 1 = X 1 1 - (k + 1) by omega]
      refine pr_iload dX1_changedFrom_20 rfl ?_
      refine pr_aload_n dX1_changedFrom_22 rfl ?_
      refine pr_getf dX1_changedFrom_23 pzf_1_31 (sH_1 hj) rfl ?_
      refine zr_icmp_ge (tgt := 52) dX1_changedFrom_26 (by decide) (by first | exact hR _ _ | omega) (by first | exact hR _ _ | omega) (fun c26 => by exfalso; omega) (fun c26 => ?_)
      refine pr_aload_n dX1_changedFrom_29 rfl ?_
      refine pr_getf dX1_changedFrom_30 pzf_1_11 (sH_1 hj) rfl ?_
      refine pr_iload dX1_changedFrom_33 rfl ?_
      refine zr_crow hj dX1_changedFrom_35 (by omega) (by omega) ?_
      refine pr_iload_n dX1_changedFrom_36 rfl ?_
      refine zcv1i dX1_changedFrom_37 pzm_1_51 pzt_X0_isTracking (sH_C hj (by omega) (by omega)) (kX0_isTracking hj hX (by omega) (by omega) (by omega) (by omega)) (by decide) (Nat.le_of_ble_eq_true rfl) (by decide) ?_
      refine zr_if_eq (tgt := 52) dX1_changedFrom_40 (by decide) (bI_R _) (fun c40 => ?_) (fun c40 => ?_)
      · have b40 := bI_0 c40
        rw [if_neg b40]
        refine pr_iload dX1_changedFrom_52 rfl ?_
        exact pr_iret dX1_changedFrom_54 rfl rfl (zret (by omega))
      · have b40 := bI_ne c40
        rw [if_pos b40, ← Int.add_assoc]
        refine zr_iinc dX1_changedFrom_43 rfl (by decide) rfl ?_
        refine zr_iinc dX1_changedFrom_46 rfl (by decide) rfl ?_
        refine pr_goto (tgt := 20) dX1_changedFrom_49 (by decide) ?_
        exact ih _
  refine pr_aload_n dX1_changedFrom_0 rfl ?_
  refine pr_iload_n dX1_changedFrom_1 rfl ?_
  refine pr_iload_n dX1_changedFrom_2 rfl ?_
  refine zcv2i dX1_changedFrom_3 pzm_1_62 pzt_X1_levelIn (sH_1 hj) (kX1_levelIn hj hX (by omega) (by omega) (by omega) (by omega)) (by decide) (Nat.le_of_ble_eq_true rfl) (by decide) ?_
  refine pr_iload_n dX1_changedFrom_6 rfl ?_
  refine zr_icmp_ne (tgt := 12) dX1_changedFrom_7 (by decide) (xlv_R hR _ _) b1 (fun c7 => ?_) (fun c7 => ?_)
  · unfold xcf
    rw [if_neg c7]
    refine zr_iconst dX1_changedFrom_12 ?_
    refine pr_istore dX1_changedFrom_13 (by decide) rfl ?_
    refine pr_iload_n dX1_changedFrom_15 rfl ?_
    refine zr_iconst dX1_changedFrom_16 ?_
    refine zr_iadd dX1_changedFrom_17 ?_
    refine pr_istore dX1_changedFrom_18 (by decide) rfl ?_
    exact loop 1
  · refine zr_iconst dX1_changedFrom_10 ?_
    exact pr_iret dX1_changedFrom_11 rfl rfl (zret (by unfold xcf; rw [if_pos c7]))
set_option maxRecDepth 100000 in
set_option maxHeartbeats 4000000 in
theorem kX1_makeBlock_0 (hj : sj a) (hX : xB X)  {i : Int} (i1 : 0 ≤ i) (i2 : i < X 1 1) {v : Prop} [dv : Decidable v] (hv : X (7 + 5 * i) 2 = bI v) : pz_Cd en 4 25 [.ref (a 1), .int (zI i), .int (zI (bI v))] (sH h a (sq a) X) 0 0 (pz_ret (some (.int (zI 0))) (sH h a (sq a) X)) := by
  refine pz_in pzt_X1_makeBlock ?_
  obtain ⟨hR, hn0, hn1, hm0, hm1⟩ := id hX
  refine pr_aload_n dX1_makeBlock_0 rfl ?_
  refine pr_getf dX1_makeBlock_1 pzf_1_11 (sH_1 hj) rfl ?_
  refine pr_iload_n dX1_makeBlock_4 rfl ?_
  refine zr_crow hj dX1_makeBlock_5 (by omega) (by omega) ?_
  refine pr_astore_n dX1_makeBlock_6 (by decide) rfl ?_
  refine pr_aload_n dX1_makeBlock_7 rfl ?_
  refine pr_getf dX1_makeBlock_8 pzf_1_65 (sH_C hj (by omega) (by omega)) rfl ?_
  refine pr_iload_n dX1_makeBlock_11 rfl ?_
  refine zr_icmp_ne (tgt := 17) dX1_makeBlock_12 (by decide) (hR _ _) (bI_R _) (fun c12 => by exfalso; omega) (fun c12 => ?_)
  refine zr_iconst dX1_makeBlock_15 ?_
  exact pr_iret dX1_makeBlock_16 rfl rfl (zret (by rfl))
set_option maxRecDepth 100000 in
set_option maxHeartbeats 4000000 in
theorem kX1_makeBlock_1 (hj : sj a) (hX : xB X)  {i : Int} (i1 : 0 ≤ i) (i2 : i < X 1 1) {v : Prop} [dv : Decidable v] (hv : ¬ X (7 + 5 * i) 2 = bI v) : pz_Cd en 4 25 [.ref (a 1), .int (zI i), .int (zI (bI v))] (sH h a (sq a) X) 0 0 (pz_ret (some (.int (zI (zsum (xmbF X i) 12)))) (sH h a (sq a) (xmb X i (bI v)))) := by
  refine pz_in pzt_X1_makeBlock ?_
  obtain ⟨hR, hn0, hn1, hm0, hm1⟩ := id hX
  have loop : pz_WP 4 en (pz_Cd en (4 - 1)) 1 cX1_makeBlock 6 (some .int) [] false (pz_ret (some (.int (zI (zsum (xmbF X i) 12)))) (sH h a (sq a) (xmb X i (bI v)))) 28 [some (.ref (a 1)), some (.int (zI i)), some (.int (zI (bI v))), some (.ref (a (7 + 5 * i))), some (.int (zI (zsum (xmbF X i) (0 : Int).toNat))), some (.int (zI 0))] [] (sH h a (sq a) (xmb X i (bI v))) 0 0 := by
    have hY := xmb_B hX (v := bI v) i1 (bI_R v)
    refine zup (P := fun k => pz_WP 4 en (pz_Cd en (4 - 1)) 1 cX1_makeBlock 6 (some .int) [] false (pz_ret (some (.int (zI (zsum (xmbF X i) 12)))) (sH h a (sq a) (xmb X i (bI v)))) 28 [some (.ref (a 1)), some (.int (zI i)), some (.int (zI (bI v))), some (.ref (a (7 + 5 * i))), some (.int (zI (zsum (xmbF X i) (k : Int).toNat))), some (.int (zI k))] [] (sH h a (sq a) (xmb X i (bI v))) 0 0) (lo := 0) (hi := 12) (by decide) ?_ ?_
    · skip
      refine pr_iload dX1_makeBlock_28 rfl ?_
      refine zr_bipush dX1_makeBlock_30 (by decide) ?_
      refine zr_icmp_ge (tgt := 73) dX1_makeBlock_32 (by decide) (by first | exact hR _ _ | omega) (by first | exact hR _ _ | omega) (fun c32 => ?_) (fun c32 => by exfalso; omega)
      refine pr_iload dX1_makeBlock_73 rfl ?_
      exact pr_iret dX1_makeBlock_75 rfl rfl (zret (by rfl))
    · intro k hk1 hk2 ih
      rw [zsum_s hk1] at ih
      refine pr_iload dX1_makeBlock_28 rfl ?_
      refine zr_bipush dX1_makeBlock_30 (by decide) ?_
      refine zr_icmp_ge (tgt := 73) dX1_makeBlock_32 (by decide) (by first | exact hR _ _ | omega) (by first | exact hR _ _ | omega) (fun c32 => by exfalso; omega) (fun c32 => ?_)
      refine pr_aload_n dX1_makeBlock_35 rfl ?_
      refine pr_getf dX1_makeBlock_36 pzf_1_55 (sH_C hj (by omega) (by omega)) rfl ?_
      refine pr_iload dX1_makeBlock_39 rfl ?_
      refine zr_iald dX1_makeBlock_41 (sH_C3 hj (by omega) (by omega)) (by omega) (by decide) ?_
      refine zr_bipush dX1_makeBlock_42 (by decide) ?_
      rw [xmb_lo (show ¬ 7 + 5 * i + 3 = 7 + 5 * i by omega)]
      refine zr_icmp_ne (tgt := 67) dX1_makeBlock_44 (by decide) (by first | exact hR _ _ | omega) (by first | exact hR _ _ | omega) (fun c44 => ?_) (fun c44 => ?_)
      · rw [show xmbF X i k = 0 from bI_f (fun z => c44 z.1), Int.add_zero] at ih
        refine zr_iinc dX1_makeBlock_67 rfl (by decide) rfl ?_
        refine pr_goto (tgt := 28) dX1_makeBlock_70 (by decide) ?_
        exact ih
      · refine pr_aload_n dX1_makeBlock_47 rfl ?_
        refine pr_getf dX1_makeBlock_48 pzf_1_17 (sH_1 hj) rfl ?_
        refine pr_iload dX1_makeBlock_51 rfl ?_
        refine zr_iald dX1_makeBlock_53 (sH_3 hj) (by omega) (by decide) ?_
        refine pr_aload_n dX1_makeBlock_54 rfl ?_
        refine pr_iload_n dX1_makeBlock_55 rfl ?_
        refine pr_iload dX1_makeBlock_56 rfl ?_
        refine zcv2i dX1_makeBlock_58 pzm_1_69 pzt_X1_levelBefore (sH_1 hj) (kX1_levelBefore hj hY (by omega) (by omega) (by omega) (by omega)) (by decide) (Nat.le_of_ble_eq_true rfl) (by decide) ?_
        rw [xmb_lv, show xmb X i (bI v) 3 = X 3 from xmb_lo (by omega)]
        refine zr_icmp_eq (tgt := 67) dX1_makeBlock_61 (by decide) (hR _ _) (xlv_R hR _ _) (fun c61 => ?_) (fun c61 => ?_)
        · rw [show xmbF X i k = 0 from bI_f (fun z => z.2 c61), Int.add_zero] at ih
          refine zr_iinc dX1_makeBlock_67 rfl (by decide) rfl ?_
          refine pr_goto (tgt := 28) dX1_makeBlock_70 (by decide) ?_
          exact ih
        · rw [show xmbF X i k = 1 from bI_t ⟨c44, c61⟩] at ih
          refine zr_iinc dX1_makeBlock_64 rfl (by decide) rfl ?_
          refine zr_iinc dX1_makeBlock_67 rfl (by decide) rfl ?_
          refine pr_goto (tgt := 28) dX1_makeBlock_70 (by decide) ?_
          exact ih
  refine pr_aload_n dX1_makeBlock_0 rfl ?_
  refine pr_getf dX1_makeBlock_1 pzf_1_11 (sH_1 hj) rfl ?_
  refine pr_iload_n dX1_makeBlock_4 rfl ?_
  refine zr_crow hj dX1_makeBlock_5 (by omega) (by omega) ?_
  refine pr_astore_n dX1_makeBlock_6 (by decide) rfl ?_
  refine pr_aload_n dX1_makeBlock_7 rfl ?_
  refine pr_getf dX1_makeBlock_8 pzf_1_65 (sH_C hj (by omega) (by omega)) rfl ?_
  refine pr_iload_n dX1_makeBlock_11 rfl ?_
  refine zr_icmp_ne (tgt := 17) dX1_makeBlock_12 (by decide) (hR _ _) (bI_R _) (fun c12 => ?_) (fun c12 => by exfalso; omega)
  refine pr_aload_n dX1_makeBlock_17 rfl ?_
  refine pr_iload_n dX1_makeBlock_18 rfl ?_
  refine pr_putf dX1_makeBlock_19 pzf_1_65 (Or.inl rfl) (sH_C hj (by omega) (by omega)) (Nat.le_of_ble_eq_true rfl) (nar_bI _) (by unfold bI; split <;> rfl) (sH_pC_2 hj (by omega) (by omega)) ?_
  refine zr_iconst dX1_makeBlock_22 ?_
  refine pr_istore dX1_makeBlock_23 (by decide) rfl ?_
  refine zr_iconst dX1_makeBlock_25 ?_
  refine pr_istore dX1_makeBlock_26 (by decide) rfl ?_
  exact loop
def xdl (A B : Int → Int) (n c : Int) : Nat → Int × (Int → Int) × (Int → Int)
  | 0 => (0, A, B)
  | m + 1 => if ¬ (xdl A B n c m).2.1 m = n ∨ ¬ (xdl A B n c m).2.2 m = c then ((xdl A B n c m).1 + 1, zu (xdl A B n c m).2.1 (xdl A B n c m).1 ((xdl A B n c m).2.1 m), zu (xdl A B n c m).2.2 (xdl A B n c m).1 ((xdl A B n c m).2.2 m)) else xdl A B n c m
theorem xdl_y {A B : Int → Int} {n c m : Int} (h : 0 ≤ m) (e : ¬ (xdl A B n c m.toNat).2.1 m = n ∨ ¬ (xdl A B n c m.toNat).2.2 m = c) : xdl A B n c (m + 1).toNat = ((xdl A B n c m.toNat).1 + 1, zu (xdl A B n c m.toNat).2.1 (xdl A B n c m.toNat).1 ((xdl A B n c m.toNat).2.1 m), zu (xdl A B n c m.toNat).2.2 (xdl A B n c m.toNat).1 ((xdl A B n c m.toNat).2.2 m)) := by
  obtain ⟨k, rfl⟩ : ∃ k : Nat, m = k := ⟨m.toNat, by omega⟩
  rw [show ((k : Int) + 1).toNat = k + 1 by omega]
  exact if_pos e
theorem xdl_n {A B : Int → Int} {n c m : Int} (h : 0 ≤ m) (e1 : (xdl A B n c m.toNat).2.1 m = n) (e2 : (xdl A B n c m.toNat).2.2 m = c) : xdl A B n c (m + 1).toNat = xdl A B n c m.toNat := by
  obtain ⟨k, rfl⟩ : ∃ k : Nat, m = k := ⟨m.toNat, by omega⟩
  rw [show ((k : Int) + 1).toNat = k + 1 by omega]
  exact if_neg (fun z => by rcases z with z | z; exact z e1; exact z e2)
theorem xdl_b {A B : Int → Int} {n c : Int} : ∀ m : Nat, 0 ≤ (xdl A B n c m).1 ∧ (xdl A B n c m).1 ≤ m
  | 0 => ⟨Int.le_refl _, Int.le_refl _⟩
  | m + 1 => by
    have := xdl_b (A := A) (B := B) (n := n) (c := c) m
    unfold xdl
    split
    · show 0 ≤ (xdl A B n c m).1 + 1 ∧ (xdl A B n c m).1 + 1 ≤ ((m + 1 : Nat) : Int)
      omega
    · omega
theorem xdl_R {A B : Int → Int} (hA : ∀ j, zR (A j)) (hB : ∀ j, zR (B j)) {n c : Int} : ∀ m : Nat, (∀ j, zR ((xdl A B n c m).2.1 j)) ∧ (∀ j, zR ((xdl A B n c m).2.2 j))
  | 0 => ⟨hA, hB⟩
  | m + 1 => by
    have ih := xdl_R hA hB (n := n) (c := c) m
    unfold xdl
    split
    · refine ⟨fun j => ?_, fun j => ?_⟩
      · show zR (zu _ _ _ j)
        rw [zu_app]
        split
        · exact ih.1 _
        · exact ih.1 _
      · show zR (zu _ _ _ j)
        rw [zu_app]
        split
        · exact ih.2 _
        · exact ih.2 _
    · exact ih
def xdm (X : Int → Int → Int) (k c : Int) (m : Nat) : Int → Int → Int := zv (zv (zv X (7 + 5 * k + 3) (zu (X (7 + 5 * k + 3)) c (-2))) 4 (xdl (X 4) (X 5) (X (7 + 5 * k) 0) c m).2.1) 5 (xdl (X 4) (X 5) (X (7 + 5 * k) 0) c m).2.2
def xde (X : Int → Int → Int) (k c : Int) : Int → Int → Int := zv (xdm X k c (X 1 5).toNat) 1 (zu (X 1) 5 (xdl (X 4) (X 5) (X (7 + 5 * k) 0) c (X 1 5).toNat).1)
theorem xdm_lo {X : Int → Int → Int} {k c : Int} {m : Nat} {q : Int} (h1 : ¬ q = 7 + 5 * k + 3) (h2 : ¬ q = 4) (h3 : ¬ q = 5) : xdm X k c m q = X q := by
  unfold xdm
  rw [zv_ne _ _ h3, zv_ne _ _ h2, zv_ne _ _ h1]
theorem xdm_4 {X : Int → Int → Int} {k c : Int} {m : Nat} : xdm X k c m 4 = (xdl (X 4) (X 5) (X (7 + 5 * k) 0) c m).2.1 := by
  unfold xdm
  rw [zv_ne _ _ (by decide), zv_at]
theorem xdm_5 {X : Int → Int → Int} {k c : Int} {m : Nat} : xdm X k c m 5 = (xdl (X 4) (X 5) (X (7 + 5 * k) 0) c m).2.2 := by
  unfold xdm
  rw [zv_at]
theorem xdm_0 {X : Int → Int → Int} {k c : Int} (k1 : 0 ≤ k) : zv X (7 + 5 * k + 3) (zu (X (7 + 5 * k + 3)) c (-2)) = xdm X k c 0 := by
  funext q j
  show _ = zv (zv (zv X (7 + 5 * k + 3) (zu (X (7 + 5 * k + 3)) c (-2))) 4 (X 4)) 5 (X 5) q j
  simp only [zv_app, zu_app]
  repeat' split
  all_goals first | rfl | omega | (subst_vars; rfl) | (exfalso; omega)
theorem xdm_s {X : Int → Int → Int} {k c m : Int} (hm : 0 ≤ m) (k1 : 0 ≤ k) (e : ¬ (xdl (X 4) (X 5) (X (7 + 5 * k) 0) c m.toNat).2.1 m = X (7 + 5 * k) 0 ∨ ¬ (xdl (X 4) (X 5) (X (7 + 5 * k) 0) c m.toNat).2.2 m = c) : zv (zv (xdm X k c m.toNat) 4 (zu (xdl (X 4) (X 5) (X (7 + 5 * k) 0) c m.toNat).2.1 (xdl (X 4) (X 5) (X (7 + 5 * k) 0) c m.toNat).1 ((xdl (X 4) (X 5) (X (7 + 5 * k) 0) c m.toNat).2.1 m))) 5 (zu (xdl (X 4) (X 5) (X (7 + 5 * k) 0) c m.toNat).2.2 (xdl (X 4) (X 5) (X (7 + 5 * k) 0) c m.toNat).1 ((xdl (X 4) (X 5) (X (7 + 5 * k) 0) c m.toNat).2.2 m)) = xdm X k c (m + 1).toNat := by
  unfold xdm
  rw [xdl_y hm e]
  funext q j
  simp only [zv_app]
  repeat' split
  all_goals rfl
theorem xde_B {X : Int → Int → Int} (hX : xB X) {k c : Int} (k1 : 0 ≤ k) : xB (xde X k c) := by
  obtain ⟨hR, h⟩ := hX
  have hb := xdl_b (A := X 4) (B := X 5) (n := X (7 + 5 * k) 0) (c := c) (X 1 5).toNat
  have hr := xdl_R (hR 4) (hR 5) (n := X (7 + 5 * k) 0) (c := c) (X 1 5).toNat
  refine ⟨?_, ?_⟩
  · intro q j
    unfold xde xdm
    simp only [zv_app, zu_app]
    repeat' split
    all_goals first | exact hr.1 _ | exact hr.2 _ | exact hR _ _ | omega
  · unfold xde
    rw [zv_at, zu_ne _ (show ¬ (1 : Int) = 5 by decide), zu_at]
    omega
section cls
variable {en : pz_Env} {h : pz_H} {a : Int → Nat} {X : Int → Int → Int}
set_option maxRecDepth 100000 in
set_option maxHeartbeats 4000000 in
theorem kX1_deleteInstruction (hj : sj a) (hX : xB X)  {k c : Int} (k1 : 0 ≤ k) (k2 : k < 12) (c1 : 0 ≤ c) (c2 : c ≤ 11) : pz_Cd en 1 14 [.ref (a 1), .int (zI k), .int (zI c)] (sH h a (sq a) X) 0 0 (pz_ret (none) (sH h a (sq a) (xde X k c))) := by
  refine pz_in pzt_X1_deleteInstruction ?_
  obtain ⟨hR, hn0, hn1, hm0, hm1⟩ := id hX
  have loop : pz_WP 1 en (pz_Cd en (1 - 1)) 1 cX1_deleteInstruction 6 none [] false (pz_ret (none) (sH h a (sq a) (xde X k c))) 21 [some (.ref (a 1)), some (.int (zI k)), some (.int (zI c)), some (.ref (a (7 + 5 * k))), some (.int (zI (xdl (X 4) (X 5) (X (7 + 5 * k) 0) c (0 : Int).toNat).1)), some (.int (zI 0))] [] (sH h a (sq a) (xdm X k c (0 : Int).toNat)) 0 0 := by
    refine zup (P := fun m => pz_WP 1 en (pz_Cd en (1 - 1)) 1 cX1_deleteInstruction 6 none [] false (pz_ret (none) (sH h a (sq a) (xde X k c))) 21 [some (.ref (a 1)), some (.int (zI k)), some (.int (zI c)), some (.ref (a (7 + 5 * k))), some (.int (zI (xdl (X 4) (X 5) (X (7 + 5 * k) 0) c (m : Int).toNat).1)), some (.int (zI m))] [] (sH h a (sq a) (xdm X k c (m : Int).toNat)) 0 0) (lo := 0) (hi := X 1 5) hm0 ?_ ?_
    · skip
      refine pr_iload dX1_deleteInstruction_21 rfl ?_
      refine pr_aload_n dX1_deleteInstruction_23 rfl ?_
      refine pr_getf dX1_deleteInstruction_24 pzf_1_35 (sH_1 hj) rfl ?_
      rw [xdm_lo (show ¬ (1 : Int) = 7 + 5 * k + 3 by omega) (by decide) (by decide)]
      refine zr_icmp_ge (tgt := 92) dX1_deleteInstruction_27 (by decide) (by first | exact hR _ _ | omega) (by first | exact hR _ _ | omega) (fun c27 => ?_) (fun c27 => by exfalso; omega)
      refine pr_aload_n dX1_deleteInstruction_92 rfl ?_
      refine pr_iload dX1_deleteInstruction_93 rfl ?_
      refine pr_putf dX1_deleteInstruction_95 pzf_1_35 (Or.inl rfl) (sH_1 hj) (Nat.le_of_ble_eq_true rfl) rfl rfl ((sH_p1_5 hj).trans (sH_eq (Y := xde X k c) (by unfold xde; rw [xdm_lo (show ¬ (1 : Int) = 7 + 5 * k + 3 by omega) (by decide) (by decide)]))) ?_
      exact pr_vret dX1_deleteInstruction_98 rfl (zretv)
    · intro m hk1 hk2 ih
      have hr := xdl_R (hR 4) (hR 5) (n := X (7 + 5 * k) 0) (c := c) m.toNat
      have hb := xdl_b (A := X 4) (B := X 5) (n := X (7 + 5 * k) 0) (c := c) m.toNat
      have st : (¬ (xdl (X 4) (X 5) (X (7 + 5 * k) 0) c (m : Int).toNat).2.1 m = X (7 + 5 * k) 0 ∨ ¬ (xdl (X 4) (X 5) (X (7 + 5 * k) 0) c (m : Int).toNat).2.2 m = c) → pz_WP 1 en (pz_Cd en (1 - 1)) 1 cX1_deleteInstruction 6 none [] false (pz_ret (none) (sH h a (sq a) (xde X k c))) 55 [some (.ref (a 1)), some (.int (zI k)), some (.int (zI c)), some (.ref (a (7 + 5 * k))), some (.int (zI (xdl (X 4) (X 5) (X (7 + 5 * k) 0) c (m : Int).toNat).1)), some (.int (zI m))] [] (sH h a (sq a) (xdm X k c m.toNat)) 0 0 := by
        intro e
        refine pr_aload_n dX1_deleteInstruction_55 rfl ?_
        refine pr_getf dX1_deleteInstruction_56 pzf_1_21 (sH_1 hj) rfl ?_
        refine pr_iload dX1_deleteInstruction_59 rfl ?_
        refine pr_aload_n dX1_deleteInstruction_61 rfl ?_
        refine pr_getf dX1_deleteInstruction_62 pzf_1_21 (sH_1 hj) rfl ?_
        refine pr_iload dX1_deleteInstruction_65 rfl ?_
        refine zr_iald dX1_deleteInstruction_67 (sH_4 hj) (by omega) (by decide) ?_
        rw [xdm_4]
        refine zr_iast dX1_deleteInstruction_68 (sH_4 hj) (by omega) (by decide) (sH_u4 hj) ?_
        refine pr_aload_n dX1_deleteInstruction_69 rfl ?_
        refine pr_getf dX1_deleteInstruction_70 pzf_1_24 (sH_1 hj) rfl ?_
        refine pr_iload dX1_deleteInstruction_73 rfl ?_
        refine pr_aload_n dX1_deleteInstruction_75 rfl ?_
        refine pr_getf dX1_deleteInstruction_76 pzf_1_24 (sH_1 hj) rfl ?_
        refine pr_iload dX1_deleteInstruction_79 rfl ?_
        refine zr_iald dX1_deleteInstruction_81 (sH_5 hj) (by omega) (by decide) ?_
        rw [zv_ne _ _ (show ¬ (5 : Int) = 4 by decide), xdm_5]
        refine zr_iast dX1_deleteInstruction_82 (sH_5 hj) (by omega) (by decide) ((sH_u5 hj).trans (sH_eq (xdm_s hk1 k1 (e)))) ?_
        refine zr_iinc dX1_deleteInstruction_83 rfl (by decide) rfl ?_
        refine zr_iinc dX1_deleteInstruction_86 rfl (by decide) rfl ?_
        refine pr_goto (tgt := 21) dX1_deleteInstruction_89 (by decide) ?_
        rw [xdl_y hk1 (e)] at ih
        exact ih
      refine pr_iload dX1_deleteInstruction_21 rfl ?_
      refine pr_aload_n dX1_deleteInstruction_23 rfl ?_
      refine pr_getf dX1_deleteInstruction_24 pzf_1_35 (sH_1 hj) rfl ?_
      rw [xdm_lo (show ¬ (1 : Int) = 7 + 5 * k + 3 by omega) (by decide) (by decide)]
      refine zr_icmp_ge (tgt := 92) dX1_deleteInstruction_27 (by decide) (by first | exact hR _ _ | omega) (by first | exact hR _ _ | omega) (fun c27 => by exfalso; omega) (fun c27 => ?_)
      refine pr_aload_n dX1_deleteInstruction_30 rfl ?_
      refine pr_getf dX1_deleteInstruction_31 pzf_1_21 (sH_1 hj) rfl ?_
      refine pr_iload dX1_deleteInstruction_34 rfl ?_
      refine zr_iald dX1_deleteInstruction_36 (sH_4 hj) (by omega) (by decide) ?_
      refine pr_aload_n dX1_deleteInstruction_37 rfl ?_
      refine pr_getf dX1_deleteInstruction_38 pzf_1_48 (sH_C hj (by omega) (by omega)) rfl ?_
      rw [xdm_4, xdm_lo (show ¬ 7 + 5 * k = 7 + 5 * k + 3 by omega) (by omega) (by omega)]
      refine zr_icmp_ne (tgt := 55) dX1_deleteInstruction_41 (by decide) (hr.1 _) (hR _ _) (fun c41 => ?_) (fun c41 => ?_)
      · exact st (Or.inl c41)
      · refine pr_aload_n dX1_deleteInstruction_44 rfl ?_
        refine pr_getf dX1_deleteInstruction_45 pzf_1_24 (sH_1 hj) rfl ?_
        refine pr_iload dX1_deleteInstruction_48 rfl ?_
        refine zr_iald dX1_deleteInstruction_50 (sH_5 hj) (by omega) (by decide) ?_
        refine pr_iload_n dX1_deleteInstruction_51 rfl ?_
        rw [xdm_5]
        refine zr_icmp_eq (tgt := 86) dX1_deleteInstruction_52 (by decide) (hr.2 _) (by omega) (fun c52 => ?_) (fun c52 => ?_)
        · rw [xdl_n hk1 c41 c52] at ih
          rw [show xdm X k c (m + 1).toNat = xdm X k c m.toNat by unfold xdm; rw [xdl_n hk1 c41 c52]] at ih
          refine zr_iinc dX1_deleteInstruction_86 rfl (by decide) rfl ?_
          refine pr_goto (tgt := 21) dX1_deleteInstruction_89 (by decide) ?_
          exact ih
        · exact st (Or.inr c52)
  refine pr_aload_n dX1_deleteInstruction_0 rfl ?_
  refine pr_getf dX1_deleteInstruction_1 pzf_1_11 (sH_1 hj) rfl ?_
  refine pr_iload_n dX1_deleteInstruction_4 rfl ?_
  refine zr_crow hj dX1_deleteInstruction_5 (by omega) (by omega) ?_
  refine pr_astore_n dX1_deleteInstruction_6 (by decide) rfl ?_
  refine pr_aload_n dX1_deleteInstruction_7 rfl ?_
  refine pr_getf dX1_deleteInstruction_8 pzf_1_55 (sH_C hj (by omega) (by omega)) rfl ?_
  refine pr_iload_n dX1_deleteInstruction_11 rfl ?_
  refine zr_bipush dX1_deleteInstruction_12 (by decide) ?_
  refine zr_iast dX1_deleteInstruction_14 (sH_C3 hj (by omega) (by omega)) (by omega) (by decide) (sH_uC3 hj (by omega) (by omega)) ?_
  refine zr_iconst dX1_deleteInstruction_15 ?_
  refine pr_istore dX1_deleteInstruction_16 (by decide) rfl ?_
  refine zr_iconst dX1_deleteInstruction_18 ?_
  refine pr_istore dX1_deleteInstruction_19 (by decide) rfl ?_
  rw [xdm_0 k1]
  exact loop
theorem xpi_R {X : Int → Int → Int} (hR : ∀ i j, zR (X i j)) {k c t pt : Int} (hM : zR (X 1 5 + 1)) (ht : zR t) (hp : zR pt) (hc : zR c) : ∀ i j, zR (xpi X k c t pt i j) := by
  intro i j
  unfold xpi
  repeat' split
  all_goals first | exact ht | exact hp | exact hc | exact hM | exact hR _ _
theorem xpi_B {X : Int → Int → Int} (hX : xB X) {k c t pt : Int} (k1 : 0 ≤ k) (ht : zR t) (hp : zR pt) (hc : zR c) : xB (xpi X k c t pt) := by
  obtain ⟨hR, h⟩ := hX
  refine ⟨xpi_R hR (by omega) ht hp hc, ?_⟩
  unfold xpi
  rw [if_neg (show ¬ ((1 : Int) = 7 + 5 * k + 3 ∧ (1 : Int) = c) by omega), if_neg (show ¬ ((1 : Int) = 7 + 5 * k + 4 ∧ (1 : Int) = c) by omega), if_neg (show ¬ ((1 : Int) = 7 + 5 * k + 3 ∧ (5 : Int) = c) by omega), if_neg (show ¬ ((1 : Int) = 7 + 5 * k + 4 ∧ (5 : Int) = c) by omega)]
  split
  · rw [if_neg (by omega), if_neg (by omega), if_neg (by omega), if_neg (by omega), if_neg (by omega), if_pos (by omega)]
    omega
  · omega
theorem xpi_N {X : Int → Int → Int} {k c t pt : Int} (k1 : 0 ≤ k) : xpi X k c t pt 1 1 = X 1 1 := by
  unfold xpi
  rw [if_neg (by omega), if_neg (by omega)]
  split
  · rw [if_neg (by omega), if_neg (by omega), if_neg (by omega)]
  · rfl
theorem xde_N {X : Int → Int → Int} {k c : Int} : xde X k c 1 1 = X 1 1 := by
  unfold xde
  rw [zv_at, zu_ne _ (by decide)]
def xgi (X : Int → Int → Int) (i c t pt : Int) (hd : Prop) [Decidable hd] : Int → Int → Int := if hd ∧ xnh X (i + 1) c (xlm X t c) then xpi (xpi X i c t pt) (i + 1) c (xlv X i c) 0 else xpi X i c t pt
def xta (X : Int → Int → Int) (i c : Int) (hd : Prop) [Decidable hd] : Int → Int → Int := if hd ∧ xnh X (i + 1) c (xlw X i c) then xpi (xde X i c) (i + 1) c (xlv X i c) 0 else xde X i c
theorem xgi_y {X : Int → Int → Int} {i c t pt : Int} {hd : Prop} [Decidable hd] (h : hd ∧ xnh X (i + 1) c (xlm X t c)) : xpi (xpi X i c t pt) (i + 1) c (xlv X i c) 0 = xgi X i c t pt hd := (if_pos h).symm
theorem xgi_n {X : Int → Int → Int} {i c t pt : Int} {hd : Prop} [Decidable hd] (h : ¬ (hd ∧ xnh X (i + 1) c (xlm X t c))) : xpi X i c t pt = xgi X i c t pt hd := (if_neg h).symm
theorem xta_y {X : Int → Int → Int} {i c : Int} {hd : Prop} [Decidable hd] (h : hd ∧ xnh X (i + 1) c (xlw X i c)) : xpi (xde X i c) (i + 1) c (xlv X i c) 0 = xta X i c hd := (if_pos h).symm
theorem xta_n {X : Int → Int → Int} {i c : Int} {hd : Prop} [Decidable hd] (h : ¬ (hd ∧ xnh X (i + 1) c (xlw X i c))) : xde X i c = xta X i c hd := (if_neg h).symm
theorem xgi_B {X : Int → Int → Int} (hX : xB X) {i c t pt : Int} {hd : Prop} [Decidable hd] (i1 : 0 ≤ i) (ht : zR t) (hp : zR pt) (hc : zR c) : xB (xgi X i c t pt hd) ∧ xgi X i c t pt hd 1 1 = X 1 1 := by
  have h1 := xpi_B hX (k := i) (c := c) i1 ht hp hc
  unfold xgi
  split
  · exact ⟨xpi_B h1 (by omega) (xlv_R hX.1 _ _) ⟨by decide, by decide⟩ hc, by rw [xpi_N (by omega), xpi_N i1]⟩
  · exact ⟨h1, xpi_N i1⟩
theorem xta_B {X : Int → Int → Int} (hX : xB X) {i c : Int} {hd : Prop} [Decidable hd] (i1 : 0 ≤ i) (hc : zR c) : xB (xta X i c hd) ∧ xta X i c hd 1 1 = X 1 1 := by
  have h1 := xde_B hX (k := i) (c := c) i1
  unfold xta
  split
  · exact ⟨xpi_B h1 (by omega) (xlv_R hX.1 _ _) ⟨by decide, by decide⟩ hc, by rw [xpi_N (by omega), xde_N]⟩
  · exact ⟨h1, xde_N⟩
set_option maxRecDepth 100000 in
set_option maxHeartbeats 4000000 in
theorem kX1_give (hj : sj a) (hX : xB X)  {i c t pt : Int} (i1 : 0 ≤ i) (i2 : i < X 1 1) (c1 : 0 ≤ c) (c2 : c ≤ 11) (t1 : zR t) (p1 : zR pt) {hd : Prop} [dd : Decidable hd] : pz_Cd en 4 22 [.ref (a 1), .int (zI i), .int (zI c), .int (zI t), .int (zI pt), .int (zI (bI hd))] (sH h a (sq a) X) 0 0 (pz_ret (some (.int (zI (xcf (xgi X i c t pt hd) (xlv X i c) i c)))) (sH h a (sq a) (xgi X i c t pt hd))) := by
  refine pz_in pzt_X1_give ?_
  obtain ⟨hR, hn0, hn1, hm0, hm1⟩ := id hX
  have hG := xgi_B hX (c := c) (hd := hd) i1 t1 p1 (by omega)
  have hP := xpi_B hX (k := i) (c := c) i1 t1 p1 (by omega)
  refine pr_aload_n dX1_give_0 rfl ?_
  refine pr_iload_n dX1_give_1 rfl ?_
  refine pr_iload_n dX1_give_2 rfl ?_
  refine zcv2i dX1_give_3 pzm_1_62 pzt_X1_levelIn (sH_1 hj) (kX1_levelIn hj hX (by omega) (by omega) (by omega) (by omega)) (by decide) (Nat.le_of_ble_eq_true rfl) (by decide) ?_
  refine pr_istore dX1_give_6 (by decide) rfl ?_
  refine pr_iload dX1_give_8 rfl ?_
  refine zr_if_eq (tgt := 34) dX1_give_10 (by decide) (bI_R _) (fun c10 => ?_) (fun c10 => ?_)
  · have b10 := bI_0 c10
    have hn : ¬ (hd ∧ xnh X (i + 1) c (xlm X t c)) := fun z => b10 z.1
    refine zr_iconst dX1_give_34 ?_
    refine pr_istore dX1_give_35 (by decide) rfl ?_
    refine pr_aload_n dX1_give_37 rfl ?_
    refine pr_iload_n dX1_give_38 rfl ?_
    refine pr_iload_n dX1_give_39 rfl ?_
    refine pr_iload_n dX1_give_40 rfl ?_
    refine pr_iload dX1_give_41 rfl ?_
    refine zcv4u dX1_give_43 pzm_1_118 pzt_X1_putInstruction (sH_1 hj) (kX1_putInstruction hj hX (by omega) (by omega) (by omega) (by omega)) (by decide) (Nat.le_of_ble_eq_true rfl) (by decide) ?_
    refine pr_iload dX1_give_46 rfl ?_
    refine zr_if_eq (tgt := 62) dX1_give_48 (by decide) (by first | exact hR _ _ | omega) (fun c48 => ?_) (fun c48 => by exfalso; omega)
    try rw [xgi_n hn]
    refine pr_aload_n dX1_give_62 rfl ?_
    refine pr_iload dX1_give_63 rfl ?_
    refine pr_iload_n dX1_give_65 rfl ?_
    refine pr_iload_n dX1_give_66 rfl ?_
    refine zcv3i dX1_give_67 pzm_1_122 pzt_X1_changedFrom (sH_1 hj) (kX1_changedFrom hj hG.1 (xlv_R hR _ _) i1 (by rw [hG.2]; exact i2) c1 c2) (by decide) (Nat.le_of_ble_eq_true rfl) (by decide) ?_
    exact pr_iret dX1_give_70 rfl rfl (zret (by rfl))
  · have b10 := bI_ne c10
    refine pr_aload_n dX1_give_13 rfl ?_
    refine pr_iload_n dX1_give_14 rfl ?_
    refine zr_iconst dX1_give_15 ?_
    refine zr_iadd dX1_give_16 ?_
    refine pr_iload_n dX1_give_17 rfl ?_
    refine pr_aload_n dX1_give_18 rfl ?_
    refine pr_iload_n dX1_give_19 rfl ?_
    refine pr_iload_n dX1_give_20 rfl ?_
    refine zcv2i dX1_give_21 pzm_1_58 pzt_X1_levelMeant (sH_1 hj) (kX1_levelMeant hj hX (by first | exact hR _ _ | omega) (by omega) (by omega)) (by decide) (Nat.le_of_ble_eq_true rfl) (by decide) ?_
    refine zcv3i dX1_give_24 pzm_1_103 pzt_X1_needsHold (sH_1 hj) (kX1_needsHold hj hX (by omega) (by omega) (by omega) (by omega) (by first | exact xlv_R hR _ _ | exact xlm_R hR (by first | exact hR _ _ | omega) _ | exact xlw_R hR _ _ | exact hR _ _)) (by decide) (Nat.le_of_ble_eq_true rfl) (by decide) ?_
    refine zr_if_eq (tgt := 34) dX1_give_27 (by decide) (bI_R _) (fun c27 => ?_) (fun c27 => ?_)
    · have b27 := bI_0 c27
      have hn : ¬ (hd ∧ xnh X (i + 1) c (xlm X t c)) := fun z => b27 z.2
      refine zr_iconst dX1_give_34 ?_
      refine pr_istore dX1_give_35 (by decide) rfl ?_
      refine pr_aload_n dX1_give_37 rfl ?_
      refine pr_iload_n dX1_give_38 rfl ?_
      refine pr_iload_n dX1_give_39 rfl ?_
      refine pr_iload_n dX1_give_40 rfl ?_
      refine pr_iload dX1_give_41 rfl ?_
      refine zcv4u dX1_give_43 pzm_1_118 pzt_X1_putInstruction (sH_1 hj) (kX1_putInstruction hj hX (by omega) (by omega) (by omega) (by omega)) (by decide) (Nat.le_of_ble_eq_true rfl) (by decide) ?_
      refine pr_iload dX1_give_46 rfl ?_
      refine zr_if_eq (tgt := 62) dX1_give_48 (by decide) (by first | exact hR _ _ | omega) (fun c48 => ?_) (fun c48 => by exfalso; omega)
      try rw [xgi_n hn]
      refine pr_aload_n dX1_give_62 rfl ?_
      refine pr_iload dX1_give_63 rfl ?_
      refine pr_iload_n dX1_give_65 rfl ?_
      refine pr_iload_n dX1_give_66 rfl ?_
      refine zcv3i dX1_give_67 pzm_1_122 pzt_X1_changedFrom (sH_1 hj) (kX1_changedFrom hj hG.1 (xlv_R hR _ _) i1 (by rw [hG.2]; exact i2) c1 c2) (by decide) (Nat.le_of_ble_eq_true rfl) (by decide) ?_
      exact pr_iret dX1_give_70 rfl rfl (zret (by rfl))
    · have b27 := bI_ne c27
      have hn : hd ∧ xnh X (i + 1) c (xlm X t c) := ⟨b10, b27⟩
      refine zr_iconst dX1_give_30 ?_
      refine pr_goto (tgt := 35) dX1_give_31 (by decide) ?_
      refine pr_istore dX1_give_35 (by decide) rfl ?_
      refine pr_aload_n dX1_give_37 rfl ?_
      refine pr_iload_n dX1_give_38 rfl ?_
      refine pr_iload_n dX1_give_39 rfl ?_
      refine pr_iload_n dX1_give_40 rfl ?_
      refine pr_iload dX1_give_41 rfl ?_
      refine zcv4u dX1_give_43 pzm_1_118 pzt_X1_putInstruction (sH_1 hj) (kX1_putInstruction hj hX (by omega) (by omega) (by omega) (by omega)) (by decide) (Nat.le_of_ble_eq_true rfl) (by decide) ?_
      refine pr_iload dX1_give_46 rfl ?_
      refine zr_if_eq (tgt := 62) dX1_give_48 (by decide) (by first | exact hR _ _ | omega) (fun c48 => by exfalso; omega) (fun c48 => ?_)
      refine pr_aload_n dX1_give_51 rfl ?_
      refine pr_iload_n dX1_give_52 rfl ?_
      refine zr_iconst dX1_give_53 ?_
      refine zr_iadd dX1_give_54 ?_
      refine pr_iload_n dX1_give_55 rfl ?_
      refine pr_iload dX1_give_56 rfl ?_
      refine zr_iconst dX1_give_58 ?_
      refine zcv4u dX1_give_59 pzm_1_118 pzt_X1_putInstruction (sH_1 hj) (kX1_putInstruction hj hP (by omega) (by omega) (by omega) (by omega)) (by decide) (Nat.le_of_ble_eq_true rfl) (by decide) ?_
      rw [xgi_y hn]
      try rw [xgi_n hn]
      refine pr_aload_n dX1_give_62 rfl ?_
      refine pr_iload dX1_give_63 rfl ?_
      refine pr_iload_n dX1_give_65 rfl ?_
      refine pr_iload_n dX1_give_66 rfl ?_
      refine zcv3i dX1_give_67 pzm_1_122 pzt_X1_changedFrom (sH_1 hj) (kX1_changedFrom hj hG.1 (xlv_R hR _ _) i1 (by rw [hG.2]; exact i2) c1 c2) (by decide) (Nat.le_of_ble_eq_true rfl) (by decide) ?_
      exact pr_iret dX1_give_70 rfl rfl (zret (by rfl))
set_option maxRecDepth 100000 in
set_option maxHeartbeats 4000000 in
theorem kX1_take (hj : sj a) (hX : xB X)  {i c : Int} (i1 : 0 ≤ i) (i2 : i < X 1 1) (c1 : 0 ≤ c) (c2 : c ≤ 11) {hd : Prop} [dd : Decidable hd] : pz_Cd en 5 23 [.ref (a 1), .int (zI i), .int (zI c), .int (zI (bI hd))] (sH h a (sq a) X) 0 0 (pz_ret (some (.int (zI (xcf (xta X i c hd) (xlv X i c) i c)))) (sH h a (sq a) (xta X i c hd))) := by
  refine pz_in pzt_X1_take ?_
  obtain ⟨hR, hn0, hn1, hm0, hm1⟩ := id hX
  have hG := xta_B hX (c := c) (hd := hd) i1 (by omega)
  have hP := xde_B hX (k := i) (c := c) i1
  refine pr_aload_n dX1_take_0 rfl ?_
  refine pr_iload_n dX1_take_1 rfl ?_
  refine pr_iload_n dX1_take_2 rfl ?_
  refine zcv2i dX1_take_3 pzm_1_62 pzt_X1_levelIn (sH_1 hj) (kX1_levelIn hj hX (by omega) (by omega) (by omega) (by omega)) (by decide) (Nat.le_of_ble_eq_true rfl) (by decide) ?_
  refine pr_istore dX1_take_6 (by decide) rfl ?_
  refine pr_aload_n dX1_take_8 rfl ?_
  refine pr_iload_n dX1_take_9 rfl ?_
  refine pr_iload_n dX1_take_10 rfl ?_
  refine zcv2i dX1_take_11 pzm_1_111 pzt_X1_levelWithoutInstruction (sH_1 hj) (kX1_levelWithoutInstruction hj hX (by omega) (by omega) (by omega) (by omega)) (by decide) (Nat.le_of_ble_eq_true rfl) (by decide) ?_
  refine pr_istore dX1_take_14 (by decide) rfl ?_
  refine pr_iload_n dX1_take_16 rfl ?_
  refine zr_if_eq (tgt := 37) dX1_take_17 (by decide) (bI_R _) (fun c17 => ?_) (fun c17 => ?_)
  · have b17 := bI_0 c17
    have hn : ¬ (hd ∧ xnh X (i + 1) c (xlw X i c)) := fun z => b17 z.1
    refine zr_iconst dX1_take_37 ?_
    refine pr_istore dX1_take_38 (by decide) rfl ?_
    refine pr_aload_n dX1_take_40 rfl ?_
    refine pr_iload_n dX1_take_41 rfl ?_
    refine pr_iload_n dX1_take_42 rfl ?_
    refine zcv2u dX1_take_43 pzm_1_125 pzt_X1_deleteInstruction (sH_1 hj) (kX1_deleteInstruction hj hX (by omega) (by omega) (by omega) (by omega)) (by decide) (Nat.le_of_ble_eq_true rfl) (by decide) ?_
    refine pr_iload dX1_take_46 rfl ?_
    refine zr_if_eq (tgt := 62) dX1_take_48 (by decide) (by first | exact hR _ _ | omega) (fun c48 => ?_) (fun c48 => by exfalso; omega)
    try rw [xta_n hn]
    refine pr_aload_n dX1_take_62 rfl ?_
    refine pr_iload dX1_take_63 rfl ?_
    refine pr_iload_n dX1_take_65 rfl ?_
    refine pr_iload_n dX1_take_66 rfl ?_
    refine zcv3i dX1_take_67 pzm_1_122 pzt_X1_changedFrom (sH_1 hj) (kX1_changedFrom hj hG.1 (xlv_R hR _ _) i1 (by rw [hG.2]; exact i2) c1 c2) (by decide) (Nat.le_of_ble_eq_true rfl) (by decide) ?_
    exact pr_iret dX1_take_70 rfl rfl (zret (by rfl))
  · have b17 := bI_ne c17
    refine pr_aload_n dX1_take_20 rfl ?_
    refine pr_iload_n dX1_take_21 rfl ?_
    refine zr_iconst dX1_take_22 ?_
    refine zr_iadd dX1_take_23 ?_
    refine pr_iload_n dX1_take_24 rfl ?_
    refine pr_iload dX1_take_25 rfl ?_
    refine zcv3i dX1_take_27 pzm_1_103 pzt_X1_needsHold (sH_1 hj) (kX1_needsHold hj hX (by omega) (by omega) (by omega) (by omega) (by first | exact xlv_R hR _ _ | exact xlm_R hR (by first | exact hR _ _ | omega) _ | exact xlw_R hR _ _ | exact hR _ _)) (by decide) (Nat.le_of_ble_eq_true rfl) (by decide) ?_
    refine zr_if_eq (tgt := 37) dX1_take_30 (by decide) (bI_R _) (fun c30 => ?_) (fun c30 => ?_)
    · have b30 := bI_0 c30
      have hn : ¬ (hd ∧ xnh X (i + 1) c (xlw X i c)) := fun z => b30 z.2
      refine zr_iconst dX1_take_37 ?_
      refine pr_istore dX1_take_38 (by decide) rfl ?_
      refine pr_aload_n dX1_take_40 rfl ?_
      refine pr_iload_n dX1_take_41 rfl ?_
      refine pr_iload_n dX1_take_42 rfl ?_
      refine zcv2u dX1_take_43 pzm_1_125 pzt_X1_deleteInstruction (sH_1 hj) (kX1_deleteInstruction hj hX (by omega) (by omega) (by omega) (by omega)) (by decide) (Nat.le_of_ble_eq_true rfl) (by decide) ?_
      refine pr_iload dX1_take_46 rfl ?_
      refine zr_if_eq (tgt := 62) dX1_take_48 (by decide) (by first | exact hR _ _ | omega) (fun c48 => ?_) (fun c48 => by exfalso; omega)
      try rw [xta_n hn]
      refine pr_aload_n dX1_take_62 rfl ?_
      refine pr_iload dX1_take_63 rfl ?_
      refine pr_iload_n dX1_take_65 rfl ?_
      refine pr_iload_n dX1_take_66 rfl ?_
      refine zcv3i dX1_take_67 pzm_1_122 pzt_X1_changedFrom (sH_1 hj) (kX1_changedFrom hj hG.1 (xlv_R hR _ _) i1 (by rw [hG.2]; exact i2) c1 c2) (by decide) (Nat.le_of_ble_eq_true rfl) (by decide) ?_
      exact pr_iret dX1_take_70 rfl rfl (zret (by rfl))
    · have b30 := bI_ne c30
      have hn : hd ∧ xnh X (i + 1) c (xlw X i c) := ⟨b17, b30⟩
      refine zr_iconst dX1_take_33 ?_
      refine pr_goto (tgt := 38) dX1_take_34 (by decide) ?_
      refine pr_istore dX1_take_38 (by decide) rfl ?_
      refine pr_aload_n dX1_take_40 rfl ?_
      refine pr_iload_n dX1_take_41 rfl ?_
      refine pr_iload_n dX1_take_42 rfl ?_
      refine zcv2u dX1_take_43 pzm_1_125 pzt_X1_deleteInstruction (sH_1 hj) (kX1_deleteInstruction hj hX (by omega) (by omega) (by omega) (by omega)) (by decide) (Nat.le_of_ble_eq_true rfl) (by decide) ?_
      refine pr_iload dX1_take_46 rfl ?_
      refine zr_if_eq (tgt := 62) dX1_take_48 (by decide) (by first | exact hR _ _ | omega) (fun c48 => by exfalso; omega) (fun c48 => ?_)
      refine pr_aload_n dX1_take_51 rfl ?_
      refine pr_iload_n dX1_take_52 rfl ?_
      refine zr_iconst dX1_take_53 ?_
      refine zr_iadd dX1_take_54 ?_
      refine pr_iload_n dX1_take_55 rfl ?_
      refine pr_iload dX1_take_56 rfl ?_
      refine zr_iconst dX1_take_58 ?_
      refine zcv4u dX1_take_59 pzm_1_118 pzt_X1_putInstruction (sH_1 hj) (kX1_putInstruction hj hP (by omega) (by omega) (by omega) (by omega)) (by decide) (Nat.le_of_ble_eq_true rfl) (by decide) ?_
      rw [xta_y hn]
      try rw [xta_n hn]
      refine pr_aload_n dX1_take_62 rfl ?_
      refine pr_iload dX1_take_63 rfl ?_
      refine pr_iload_n dX1_take_65 rfl ?_
      refine pr_iload_n dX1_take_66 rfl ?_
      refine zcv3i dX1_take_67 pzm_1_122 pzt_X1_changedFrom (sH_1 hj) (kX1_changedFrom hj hG.1 (xlv_R hR _ _) i1 (by rw [hG.2]; exact i2) c1 c2) (by decide) (Nat.le_of_ble_eq_true rfl) (by decide) ?_
      exact pr_iret dX1_take_70 rfl rfl (zret (by rfl))
end cls
end cls
