/-! the class: a cue goes, time passes -/
theorem xlvF_ext {X Y : Int → Int → Int} (e : ∀ q : Int, q < 67 → Y q = X q) (c : Int) : ∀ n : Nat, n ≤ 12 → xlvF Y c n = xlvF X c n
  | 0, _ => by
    show Y 3 c = X 3 c
    rw [e 3 (by decide)]
  | n + 1, hn => by
    unfold xlvF xlm xtk
    rw [e _ (by omega), e _ (by omega), e 3 (by decide), xlvF_ext e c n (by omega)]
theorem xlv_ext {X Y : Int → Int → Int} (e : ∀ q : Int, q < 67 → Y q = X q) {i c : Int} (h : i < 12) : xlv Y i c = xlv X i c := xlvF_ext e c _ (by omega)
theorem xpf_ext {X Y : Int → Int → Int} (e : ∀ q : Int, q < 67 → Y q = X q) {i c : Int} (h : i < 12) : xpf Y i c = xpf X i c := by
  unfold xpf
  rw [e _ (by omega), e _ (by omega)]
theorem xix_ext {X Y : Int → Int → Int} (e : ∀ q : Int, q < 67 → Y q = X q) (h2 : X 1 1 ≤ 12) (n : Int) : xix Y n = xix X n := by
  unfold xix
  rw [e 1 (by decide)]
  rcases zfst_spec (fun k => X (7 + 5 * k) 0 == n) (X 1 1).toNat with ⟨g1, g2⟩ | ⟨g1, g2, g3, g4⟩
  · rw [g1]
    refine zfst_no (fun k q1 q2 => ?_)
    have := g2 k q1 q2
    rw [e _ (by omega)]; exact this
  · refine zfst_eq g1 g2 ?_ (fun k q1 q2 => ?_)
    · have := g3
      rw [e _ (by omega)]; exact this
    · have := g4 k q1 q2
      rw [e _ (by omega)]; exact this
theorem xnow_b {X : Int → Int → Int} {c : Int} (hf : xff X c) : 0 ≤ xnow X c ∧ xnow X c ≤ 100 := by
  unfold xnow
  split
  · omega
  · split
    · omega
    · rename_i e1 e2
      have z := ztd (d := X 69 c - X 68 c) (x := X 67 8 - X 70 c - X 71 c) (t := X 72 c) (by omega) (by omega) (by omega)
      have z1 := z.1
      have z2 := z.2
      by_cases q : 0 ≤ X 69 c - X 68 c
      · have := z1 q; omega
      · have := z2 (by omega); omega
theorem xI_ff {X : Int → Int → Int} (hI : xI X) {c : Int} (c1 : 0 ≤ c) (c2 : c ≤ 11) : xff X c := by
  have h1 := hI.2.2.2.2.2.2.2.1 c c1 c2
  have h2 := hI.2.2.2.2.2.2.2.2
  omega
theorem xI_lv {X : Int → Int → Int} (hI : xI X) {c : Int} (c1 : 0 ≤ c) (c2 : c ≤ 11) : ∀ n : Nat, (n : Int) ≤ X 1 1 → 0 ≤ xlvF X c n ∧ xlvF X c n ≤ 100
  | 0, _ => hI.2.2.2.2.2.2.1 c c1 c2
  | n + 1, hn => by
    have h1 := hI.2.2.2.2.2.2.1 c c1 c2
    have h2 := (hI.2.2.2.2.1 n c (by omega) (by omega) c1 c2).1
    have h3 := xI_lv hI c1 c2 n (by omega)
    unfold xlvF xlm
    split
    · exact h3
    · split <;> omega
def xgv (X : Int → Int → Int) (i q j : Int) : Int := if q = 68 then xnow X j else if q = 69 then xlv X i j else if q = 70 then X 67 8 else if q = 71 then X (7 + 5 * i + 1) (xpf X i j) else X (7 + 5 * i + 2) (xpf X i j)
def xgP (X : Int → Int → Int) (i m : Int) : Int → Int → Int := fun q j => if (68 ≤ q ∧ q ≤ 72) ∧ (0 ≤ j ∧ j < m) ∧ ¬ xlv X i j = X 69 j then xgv X i q j else X q j
theorem xgP_lo {X : Int → Int → Int} {i m q : Int} (h : q < 68) : xgP X i m q = X q := by
  funext j
  exact if_neg (by omega)
theorem xgP_hi {X : Int → Int → Int} {i m q j : Int} (h : m ≤ j) : xgP X i m q j = X q j := if_neg (by omega)
theorem xgP_y {X : Int → Int → Int} {i m q j : Int} (h1 : 68 ≤ q ∧ q ≤ 72) (h2 : 0 ≤ j ∧ j < m) (h3 : ¬ xlv X i j = X 69 j) : xgP X i m q j = xgv X i q j := if_pos ⟨h1, h2, h3⟩
theorem xgP_z {X : Int → Int → Int} {i m q j : Int} (h : ¬ ((68 ≤ q ∧ q ≤ 72) ∧ (0 ≤ j ∧ j < m) ∧ ¬ xlv X i j = X 69 j)) : xgP X i m q j = X q j := if_neg h
theorem xgP_0 (X : Int → Int → Int) (i : Int) : xgP X i 0 = X := by
  funext q j
  exact if_neg (by omega)
theorem xgP_n {X : Int → Int → Int} {i k : Int} (h0 : 0 ≤ k) (e : xlv X i k = X 69 k) : xgP X i (k + 1) = xgP X i k := by
  funext q j
  unfold xgP
  by_cases g : j = k
  · subst g
    rw [if_neg (fun z => z.2.2 e), if_neg (fun z => z.2.2 e)]
  · by_cases g2 : (68 ≤ q ∧ q ≤ 72) ∧ (0 ≤ j ∧ j < k) ∧ ¬ xlv X i j = X 69 j
    · rw [if_pos g2, if_pos ⟨g2.1, ⟨g2.2.1.1, by omega⟩, g2.2.2⟩]
    · rw [if_neg g2, if_neg (fun z => g2 ⟨z.1, ⟨z.2.1.1, by omega⟩, z.2.2⟩)]
theorem xnow_hi {X : Int → Int → Int} {i k : Int} : xnow (xgP X i k) k = xnow X k := by
  unfold xnow
  rw [xgP_hi (Int.le_refl k), xgP_hi (Int.le_refl k), xgP_hi (Int.le_refl k), xgP_hi (Int.le_refl k), xgP_hi (Int.le_refl k), xgP_lo (show (67 : Int) < 68 by decide)]
theorem xgP_s {X : Int → Int → Int} {i k dl ti : Int} (h0 : 0 ≤ k) (e : ¬ xlv X i k = X 69 k) (e1 : dl = X (7 + 5 * i + 1) (xpf X i k)) (e2 : ti = X (7 + 5 * i + 2) (xpf X i k)) : xbf (xgP X i k) k (xlv X i k) dl ti = xgP X i (k + 1) := by
  funext q j
  unfold xbf
  rw [xnow_hi, xgP_lo (show (67 : Int) < 68 by decide), e1, e2]
  by_cases g : j = k
  · subst g
    rw [xgP_hi (Int.le_refl j)]
    by_cases a0 : 68 ≤ q ∧ q ≤ 72
    · rw [xgP_y a0 ⟨h0, show j < j + 1 by omega⟩ e]
      unfold xgv
      repeat' split
      all_goals first | rfl | (exfalso; omega)
    · rw [xgP_z (fun z => a0 z.1)]
      repeat' split
      all_goals first | rfl | (exfalso; omega)
  · rw [if_neg (fun z => g z.2), if_neg (fun z => g z.2), if_neg (fun z => g z.2), if_neg (fun z => g z.2), if_neg (fun z => g z.2)]
    by_cases g2 : (68 ≤ q ∧ q ≤ 72) ∧ (0 ≤ j ∧ j < k) ∧ ¬ xlv X i j = X 69 j
    · rw [xgP_y g2.1 g2.2.1 g2.2.2, xgP_y g2.1 ⟨g2.2.1.1, by omega⟩ g2.2.2]
    · rw [xgP_z g2, xgP_z (fun z => g2 ⟨z.1, ⟨z.2.1.1, by omega⟩, z.2.2⟩)]
theorem xgP_R {X : Int → Int → Int} (hI : xI X) {i : Int} (i1 : 0 ≤ i) (i2 : i < X 1 1) (m : Int) (hm : m ≤ 12) : ∀ q j, zR (xgP X i m q j) := by
  intro q j
  have hR := hI.1.1
  unfold xgP xgv
  split
  · rename_i g
    have := xnow_b (xI_ff hI g.2.1.1 (by omega))
    have hl := xlv_R hR i j
    have := hR (7 + 5 * i + 1) (xpf X i j)
    have := hR (7 + 5 * i + 2) (xpf X i j)
    have := hR 67 8
    repeat' split
    all_goals first | assumption | omega
  · exact hR q j
theorem xgP_B {X : Int → Int → Int} (hI : xI X) {i : Int} (i1 : 0 ≤ i) (i2 : i < X 1 1) (m : Int) (hm : m ≤ 12) : xB (xgP X i m) := by
  refine ⟨xgP_R hI i1 i2 m hm, ?_⟩
  rw [xgP_lo (show (1 : Int) < 68 by decide)]
  exact hI.1.2
def xgo (X : Int → Int → Int) (i : Int) : Int → Int → Int := fun q j => if q = 67 ∧ j = 5 then X (7 + 5 * i) 0 else if q = 67 ∧ j = 6 then X 67 8 else if q = 67 ∧ j = 7 then zw (X 67 7 + 1) else xgP X i 12 q j
theorem xgo_lo {X : Int → Int → Int} {i q : Int} (h : q < 67) : xgo X i q = X q := by
  funext j
  unfold xgo
  rw [if_neg (by omega), if_neg (by omega), if_neg (by omega), xgP_lo (by omega)]
def xgn (X : Int → Int → Int) (i : Int) : Int := zsum (fun c => bI (¬ xlv X i c = X 69 c)) 12
theorem xgo_I {X : Int → Int → Int} (hI : xI X) {i : Int} (i1 : 0 ≤ i) (i2 : i < X 1 1) : xI (xgo X i) := by
  have hR := hI.1.1
  have hN := hI.1.2
  have e8 : xgo X i 67 8 = X 67 8 := by
    unfold xgo
    rw [if_neg (by decide), if_neg (by decide), if_neg (by decide), xgP_lo (by decide)]
  have hl := hI.2.2.2.2.2.2.2.2
  refine ⟨⟨?_, ?_⟩, ?_, ?_, ?_, ?_, ?_, ?_, ?_, ?_⟩
  · intro q j
    unfold xgo
    split
    · exact hR _ _
    · split
      · exact hR _ _
      · split
        · exact zw_R _
        · exact xgP_R hI i1 i2 12 (by decide) q j
  · rw [xgo_lo (show (1 : Int) < 67 by decide)]; exact hN
  · intro k h1 h2
    rw [xgo_lo (show (1 : Int) < 67 by decide)] at h2
    rw [xgo_lo (by omega)]; exact hI.2.1 k h1 h2
  · intro k j h1 h2 h3
    rw [xgo_lo (show (1 : Int) < 67 by decide)] at h3
    rw [xgo_lo (by omega), xgo_lo (by omega)]; exact hI.2.2.1 k j h1 h2 h3
  · intro k q h1 h2 h3 h4
    rw [xgo_lo (show (1 : Int) < 67 by decide)] at h2
    rw [xgo_lo (by omega), xgo_lo (by omega)]; exact hI.2.2.2.1 k q h1 h2 h3 h4
  · intro k c h1 h2 h3 h4
    rw [xgo_lo (show (1 : Int) < 67 by decide)] at h2
    rw [xgo_lo (by omega), xgo_lo (by omega)]; exact hI.2.2.2.2.1 k c h1 h2 h3 h4
  · intro q h1 h2
    rw [xgo_lo (show (1 : Int) < 67 by decide)] at h2
    rw [xgo_lo (show (5 : Int) < 67 by decide)]; exact hI.2.2.2.2.2.1 q h1 h2
  · intro c h1 h2
    rw [xgo_lo (show (3 : Int) < 67 by decide)]; exact hI.2.2.2.2.2.2.1 c h1 h2
  · intro c h1 h2
    rw [e8]
    have hc := hI.2.2.2.2.2.2.2.1 c h1 h2
    have hw := xnow_b (xI_ff hI h1 h2)
    have hv := xI_lv hI h1 h2 (i + 1).toNat (by omega)
    have hp := xpf_R hI i1 i2 h1 h2
    have hd := hI.2.2.2.1 i (xpf X i c) i1 i2 hp.1 (by omega)
    have e : ∀ q : Int, 68 ≤ q → xgo X i q c = xgP X i 12 q c := fun q hq => by
      unfold xgo
      rw [if_neg (by omega), if_neg (by omega), if_neg (by omega)]
    rw [e 68 (by decide), e 69 (by decide), e 70 (by decide), e 71 (by decide), e 72 (by decide)]
    by_cases g : xlv X i c = X 69 c
    · rw [xgP_z (fun z => z.2.2 g), xgP_z (fun z => z.2.2 g), xgP_z (fun z => z.2.2 g), xgP_z (fun z => z.2.2 g), xgP_z (fun z => z.2.2 g)]
      exact hc
    · have y : 0 ≤ c ∧ c < 12 := by omega
      rw [xgP_y (by decide) y g, xgP_y (by decide) y g, xgP_y (by decide) y g, xgP_y (by decide) y g, xgP_y (by decide) y g]
      refine ⟨hw, hv, ?_, hd.1, hd.2⟩
      show 0 ≤ X 67 8 ∧ X 67 8 ≤ X 67 8
      omega
  · have hk := hI.2.1 i i1 i2
    rw [e8]
    show (0 ≤ X (7 + 5 * i) 0 ∧ X (7 + 5 * i) 0 ≤ 99 ∧ 0 ≤ X 67 8 ∧ X 67 8 ≤ X 67 8 ∧ 0 ≤ X 67 8 ∧ X 67 8 ≤ 100000)
    omega
section cls
variable {en : pz_Env} {h : pz_H} {a : Int → Nat} {X : Int → Int → Int}
theorem xgo_e {X : Int → Int → Int} {i : Int} : zv (zv (xgP X i 12) 67 (zu (zu (X 67) 5 (X (7 + 5 * i) 0)) 6 (X 67 8))) 67 (zu (zu (zu (X 67) 5 (X (7 + 5 * i) 0)) 6 (X 67 8)) 7 (zw (X 67 7 + 1))) = xgo X i := by
  rw [zv_zv, ← xgP_lo (X := X) (i := i) (m := 12) (show (67 : Int) < 68 by decide)]
  funext q j
  unfold xgo
  rw [zv_app, zu_app, zu_app, zu_app]
  repeat' split
  all_goals first | rfl | omega | (subst_vars; rfl) | (exfalso; omega)
set_option maxRecDepth 100000 in
set_option maxHeartbeats 4000000 in
theorem kX4_letGo (hj : sj a) (hI : xI X)  {i : Int} (i1 : 0 ≤ i) (i2 : i < X 1 1) : pz_Cd en 4 60 [.ref (a 67), .ref (a 1), .int (zI i)] (sH h a (sq a) X) 0 0 (pz_ret (some (.int (zI (xgn X i)))) (sH h a (sq a) (xgo X i))) := by
  refine pz_in pzt_X4_letGo ?_
  have hX := hI.1
  obtain ⟨hR, hn0, hn1, hm0, hm1⟩ := id hX
  have loop : ∀ q1 q2 : Option Int, pz_WP 4 en (pz_Cd en (4 - 1)) 4 cX4_letGo 8 (some .int) [] false (pz_ret (some (.int (zI (xgn X i)))) (sH h a (sq a) (xgo X i))) 13 [some (.ref (a 67)), some (.ref (a 1)), some (.int (zI i)), some (.ref (a (7 + 5 * i))), some (.int (zI (zsum (fun c => bI (¬ xlv X i c = X 69 c)) (0 : Int).toNat))), some (.int (zI 0)), q1.map (fun z => Value.int (zI z)), q2.map (fun z => Value.int (zI z))] [] (sH h a (sq a) (xgP X i 0)) 0 0 := by
    refine zup (P := fun k => ∀ q1 q2 : Option Int, pz_WP 4 en (pz_Cd en (4 - 1)) 4 cX4_letGo 8 (some .int) [] false (pz_ret (some (.int (zI (xgn X i)))) (sH h a (sq a) (xgo X i))) 13 [some (.ref (a 67)), some (.ref (a 1)), some (.int (zI i)), some (.ref (a (7 + 5 * i))), some (.int (zI (zsum (fun c => bI (¬ xlv X i c = X 69 c)) (k : Int).toNat))), some (.int (zI k)), q1.map (fun z => Value.int (zI z)), q2.map (fun z => Value.int (zI z))] [] (sH h a (sq a) (xgP X i k)) 0 0) (lo := 0) (hi := 12) (by decide) ?_ ?_
    · intro q1 q2
      have hY := xgP_B hI i1 i2 12 (Int.le_refl 12)
      refine pr_iload dX4_letGo_13 rfl ?_
      refine zr_bipush dX4_letGo_15 (by decide) ?_
      refine zr_icmp_ge (tgt := 80) dX4_letGo_17 (by decide) (by first | exact hR _ _ | omega) (by first | exact hR _ _ | omega) (fun c17 => ?_) (fun c17 => by exfalso; omega)
      refine pr_aload_n dX4_letGo_80 rfl ?_
      refine pr_aload_n dX4_letGo_81 rfl ?_
      refine pr_getf dX4_letGo_82 pzf_4_63 (sH_C hj (by omega) (by omega)) rfl ?_
      rw [xgP_lo (show 7 + 5 * i < 68 by omega)]
      refine pr_putf dX4_letGo_85 pzf_4_27 (Or.inl rfl) (sH_67 hj) (Nat.le_of_ble_eq_true rfl) rfl rfl (sH_p67_5 hj) ?_
      refine pr_aload_n dX4_letGo_88 rfl ?_
      refine pr_aload_n dX4_letGo_89 rfl ?_
      refine pr_getf dX4_letGo_90 pzf_4_37 (sH_67 hj) rfl ?_
      rw [zv_at, zu_ne _ (show ¬ (8 : Int) = 5 by decide), xgP_lo (show (67 : Int) < 68 by decide)]
      refine pr_putf dX4_letGo_93 pzf_4_31 (Or.inl rfl) (sH_67 hj) (Nat.le_of_ble_eq_true rfl) rfl rfl (sH_p67_6 hj) ?_
      refine pr_aload_n dX4_letGo_96 rfl ?_
      refine pr_dup dX4_letGo_97 rfl ?_
      refine pr_getf dX4_letGo_98 pzf_4_34 (sH_67 hj) rfl ?_
      refine zr_iconst dX4_letGo_101 ?_
      refine zr_iadd dX4_letGo_102 ?_
      rw [zv_zv, zv_at, zv_at, zu_ne _ (show ¬ (7 : Int) = 6 by decide), zu_ne _ (show ¬ (7 : Int) = 5 by decide), ← zI_zw (X 67 7 + 1)]
      refine pr_putf dX4_letGo_103 pzf_4_34 (Or.inl rfl) (sH_67 hj) (Nat.le_of_ble_eq_true rfl) rfl rfl ((sH_p67_7 hj).trans (sH_eq xgo_e)) ?_
      refine pr_iload dX4_letGo_106 rfl ?_
      exact pr_iret dX4_letGo_108 rfl rfl (zret (by rfl))
    · intro k hk1 hk2 ih q1 q2
      rw [zsum_s hk1] at ih
      have hX := xgP_B hI i1 i2 k (by omega)
      have e0 : ∀ q : Int, q < 67 → xgP X i k q = X q := fun q hq => xgP_lo (by omega)
      have hp := xpf_R hI (c := k) i1 i2 hk1 (by omega)
      have ef : xff (xgP X i k) k := by
        have z := xI_ff hI hk1 (show k ≤ 11 by omega)
        unfold xff
        rw [xgP_hi (Int.le_refl k), xgP_hi (Int.le_refl k), xgP_hi (Int.le_refl k), xgP_hi (Int.le_refl k), xgP_hi (Int.le_refl k), xgP_lo (show (67 : Int) < 68 by decide)]
        exact z
      refine pr_iload dX4_letGo_13 rfl ?_
      refine zr_bipush dX4_letGo_15 (by decide) ?_
      refine zr_icmp_ge (tgt := 80) dX4_letGo_17 (by decide) (by first | exact hR _ _ | omega) (by first | exact hR _ _ | omega) (fun c17 => by exfalso; omega) (fun c17 => ?_)
      refine pr_aload_n dX4_letGo_20 rfl ?_
      refine pr_iload_n dX4_letGo_21 rfl ?_
      refine pr_iload dX4_letGo_22 rfl ?_
      refine zcv2i dX4_letGo_24 pzm_4_88 pzt_X1_levelIn (sH_1 hj) (kX1_levelIn hj hX (by omega) (by omega) (by omega) (by omega)) (by decide) (Nat.le_of_ble_eq_true rfl) (by decide) ?_
      rw [xlv_ext e0 (by omega)]
      refine pr_istore dX4_letGo_27 (by decide) (by cases q1 <;> rfl) ?_
      refine pr_iload dX4_letGo_29 rfl ?_
      refine pr_aload_n dX4_letGo_31 rfl ?_
      refine pr_getf dX4_letGo_32 pzf_4_15 (sH_67 hj) rfl ?_
      refine pr_iload dX4_letGo_35 rfl ?_
      refine zr_iald dX4_letGo_37 (sH_69 hj) (by omega) (by decide) ?_
      rw [xgP_hi (Int.le_refl k)]
      refine zr_icmp_eq (tgt := 74) dX4_letGo_38 (by decide) (xlv_R hR _ _) (hR _ _) (fun c38 => ?_) (fun c38 => ?_)
      · rw [xgP_n hk1 c38, show bI (¬ xlv X i k = X 69 k) = 0 from bI_f (fun z => z c38), Int.add_zero] at ih
        refine zr_iinc dX4_letGo_74 rfl (by decide) rfl ?_
        refine pr_goto (tgt := 13) dX4_letGo_77 (by decide) ?_
        first | exact ih q1 q2 | exact ih (some _) q2 | exact ih (some _) (some _)
      · rw [show bI (¬ xlv X i k = X 69 k) = 1 from bI_t c38] at ih
        refine pr_aload_n dX4_letGo_41 rfl ?_
        refine pr_iload dX4_letGo_42 rfl ?_
        refine zcv1i dX4_letGo_44 pzm_4_91 pzt_X0_partFor (sH_C hj (by omega) (by omega)) (kX0_partFor hj hX (by omega) (by omega) (by omega) (by omega)) (by decide) (Nat.le_of_ble_eq_true rfl) (by decide) ?_
        rw [xpf_ext e0 (by omega)]
        refine pr_istore dX4_letGo_47 (by decide) (by cases q2 <;> rfl) ?_
        refine pr_aload_n dX4_letGo_49 rfl ?_
        refine pr_iload dX4_letGo_50 rfl ?_
        refine pr_iload dX4_letGo_52 rfl ?_
        refine pr_aload_n dX4_letGo_54 rfl ?_
        refine pr_getf dX4_letGo_55 pzf_4_94 (sH_C hj (by omega) (by omega)) rfl ?_
        refine pr_iload dX4_letGo_58 rfl ?_
        refine zr_iald dX4_letGo_60 (sH_C1 hj (by omega) (by omega)) (by omega) (by decide) ?_
        refine pr_aload_n dX4_letGo_61 rfl ?_
        refine pr_getf dX4_letGo_62 pzf_4_95 (sH_C hj (by omega) (by omega)) rfl ?_
        refine pr_iload dX4_letGo_65 rfl ?_
        refine zr_iald dX4_letGo_67 (sH_C2 hj (by omega) (by omega)) (by omega) (by decide) ?_
        rw [e0 _ (show 7 + 5 * i + 1 < 67 by omega), e0 _ (show 7 + 5 * i + 2 < 67 by omega)]
        refine zcv4u dX4_letGo_68 pzm_4_96 pzt_X4_beginFade (sH_67 hj) (kX4_beginFade hj hX (by omega) (by omega) ef) (by decide) (Nat.le_of_ble_eq_true rfl) (by decide) ?_
        rw [xgP_s hk1 c38 rfl rfl]
        refine zr_iinc dX4_letGo_71 rfl (by decide) rfl ?_
        refine zr_iinc dX4_letGo_74 rfl (by decide) rfl ?_
        refine pr_goto (tgt := 13) dX4_letGo_77 (by decide) ?_
        first | exact ih q1 q2 | exact ih (some _) q2 | exact ih (some _) (some _)
  refine pr_aload_n dX4_letGo_0 rfl ?_
  refine pr_getf dX4_letGo_1 pzf_4_59 (sH_1 hj) rfl ?_
  refine pr_iload_n dX4_letGo_4 rfl ?_
  refine zr_crow hj dX4_letGo_5 (by omega) (by omega) ?_
  refine pr_astore_n dX4_letGo_6 (by decide) rfl ?_
  refine zr_iconst dX4_letGo_7 ?_
  refine pr_istore dX4_letGo_8 (by decide) rfl ?_
  refine zr_iconst dX4_letGo_10 ?_
  refine pr_istore dX4_letGo_11 (by decide) rfl ?_
  have z := loop none none
  rw [xgP_0] at z
  exact z
end cls
