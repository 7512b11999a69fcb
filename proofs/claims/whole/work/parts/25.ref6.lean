/-! the reference: cues go -/
def zw (z : Int) : Int := (zI z).toInt
theorem zw_R (z : Int) : zR (zw z) := ⟨Int32.le_toInt _, Int32.toInt_lt _⟩
theorem zI_zw (z : Int) : zI (zw z) = zI z := Int32.ofInt_toInt _
def rfr (t s : Int → Int) : Prop := ∀ i : Int, i < 402 → i ≠ 2 → i ≠ 3 → i ≠ 4 → i ≠ 5 → t i = s i
theorem zfst_congr {P Q : Int → Bool} : ∀ n : Nat, (∀ k : Int, 0 ≤ k → k < n → P k = Q k) → zfst P n = zfst Q n := by
  intro n h
  rcases zfst_spec Q n with ⟨g1, g2⟩ | ⟨g1, g2, g3, g4⟩
  · rw [g1]
    exact zfst_no (fun k h1 h2 => (h k h1 h2).trans (g2 k h1 h2))
  · exact zfst_eq g1 g2 ((h _ g1 g2).trans g3) (fun j h1 h2 => (h j h1 (by omega)).trans (g4 j h1 h2))
theorem rpl_fr {t s : Int → Int} (hs : rB s) (h : rfr t s) (cue : Int) : rpl t cue = rpl s cue := by
  obtain ⟨hR, h1, h2, h3, h4⟩ := hs
  unfold rpl
  rw [h 0 (by decide) (by decide) (by decide) (by decide) (by decide)]
  exact zfst_congr _ (fun k g1 g2 => by rw [h _ (by omega) (by omega) (by omega) (by omega) (by omega)])
theorem rgv_fr {t s : Int → Int} (hs : rB s) (h : rfr t s) (cue ch : Int) : rgv t cue ch = rgv s cue ch := by
  obtain ⟨hR, h1, h2, h3, h4⟩ := hs
  unfold rgv
  rw [h 1 (by decide) (by decide) (by decide) (by decide) (by decide)]
  exact zfst_congr _ (fun k g1 g2 => by rw [h _ (by omega) (by omega) (by omega) (by omega) (by omega), h (162 + 4 * k + 1) (by omega) (by omega) (by omega) (by omega) (by omega)])
theorem rlvF_fr {t s : Int → Int} (hs : rB s) (h : rfr t s) {ch : Int} (c1 : 0 ≤ ch) (c2 : ch ≤ 11) : ∀ n : Nat, n ≤ 12 → rlvF t ch n = rlvF s ch n
  | 0, _ => h _ (by omega) (by omega) (by omega) (by omega) (by omega)
  | n + 1, hn => by
    have hg := rgv_R hs (s (18 + 12 * n)) ch
    unfold rlvF
    rw [h (18 + 12 * n) (by omega) (by omega) (by omega) (by omega) (by omega), h (18 + 12 * n + 2) (by omega) (by omega) (by omega) (by omega) (by omega), h (6 + ch) (by omega) (by omega) (by omega) (by omega) (by omega), rgv_fr hs h, rlvF_fr hs h c1 c2 n (by omega)]
    split
    · rw [h _ (by omega) (by omega) (by omega) (by omega) (by omega)]
    · rfl
theorem rlv_fr {t s : Int → Int} (hs : rB s) (h : rfr t s) {pl ch : Int} (p2 : pl < 12) (c1 : 0 ≤ ch) (c2 : ch ≤ 11) : rlv t pl ch = rlv s pl ch := rlvF_fr hs h c1 c2 _ (by omega)
theorem rpo_fr {t s : Int → Int} (hs : rB s) (h : rfr t s) (cue ch : Int) : rpo t cue ch = rpo s cue ch := by
  have hg := rgv_R hs cue ch
  unfold rpo
  rw [rgv_fr hs h]
  split
  · rw [h _ (by omega) (by omega) (by omega) (by omega) (by omega)]
  · rfl
theorem rnk_fr {t s : Int → Int} (hs : rB s) (h : rfr t s) (n : Int) : rnk t n = rnk s n := by
  obtain ⟨hR, h1, h2, h3, h4⟩ := hs
  unfold rnk
  rw [h 0 (by decide) (by decide) (by decide) (by decide) (by decide)]
  exact zfst_congr _ (fun k g1 g2 => by rw [h _ (by omega) (by omega) (by omega) (by omega) (by omega)])
theorem rnk_R {s : Int → Int} (hs : rB s) (n : Int) : -1 ≤ rnk s n ∧ rnk s n < s 0 ∧ rnk s n < 12 := by
  obtain ⟨hR, h1, h2, h3, h4⟩ := hs
  unfold rnk
  rcases zfst_spec (fun k => decide (n < s (18 + 12 * k))) (s 0).toNat with ⟨g1, -⟩ | ⟨g1, g2, -⟩
  · rw [g1]; omega
  · omega
theorem rnx_fr {t s : Int → Int} (hs : rB s) (h : rfr t s) (n : Int) : rnx t n = rnx s n := by
  have hn := rnk_R hs n
  unfold rnx
  rw [rnk_fr hs h]
  split
  · rfl
  · rw [h _ (by omega) (by omega) (by omega) (by omega) (by omega)]
theorem rpl_at {s : Int → Int} (hs : rB s) {k : Int} (h1 : 0 ≤ k) (h2 : k < s 0) : 0 ≤ rpl s (s (18 + 12 * k)) := by
  unfold rpl
  rcases zfst_spec (fun j => s (18 + 12 * j) == s (18 + 12 * k)) (s 0).toNat with ⟨g1, g2⟩ | ⟨g1, -⟩
  · have := g2 k h1 (by omega)
    simp at this
  · exact g1
theorem rnx_in {s : Int → Int} (hs : rB s) {n : Int} (h : ¬ rnx s n = 0) : 0 ≤ rpl s (rnx s n) := by
  have hn := rnk_R hs n
  unfold rnx at h ⊢
  by_cases e : rnk s n = -1
  · rw [if_pos e] at h; exact absurd rfl h
  · rw [if_neg e]
    exact rpl_at hs (by omega) (by omega)
theorem rahF_in {s : Int → Int} (hs : rB s) {n : Int} : ∀ m : Nat, (m : Int) ≤ s 0 → ¬ rahF s n m = 0 → 0 ≤ rpl s (rahF s n m)
  | 0, _ => fun h => absurd rfl h
  | m + 1, hm => fun h => by
    unfold rahF at h ⊢
    split at h <;> rename_i g
    · rw [if_pos g]; exact rpl_at hs (by omega) (by omega)
    · rw [if_neg g]; exact rahF_in hs m (by omega) h
theorem rah_in {s : Int → Int} (hs : rB s) {n : Int} (h : ¬ rah s n = 0) : 0 ≤ rpl s (rah s n) := rahF_in hs _ (by have := hs.2.1; omega) h
abbrev rff (s : Int → Int) (c : Int) : Prop := (0 ≤ s (402 + 5 * c) ∧ s (402 + 5 * c) ≤ 100) ∧ (0 ≤ s (402 + 5 * c + 1) ∧ s (402 + 5 * c + 1) ≤ 100) ∧ (0 ≤ s (402 + 5 * c + 2) ∧ s (402 + 5 * c + 2) ≤ s 5) ∧ (0 ≤ s (402 + 5 * c + 3) ∧ s (402 + 5 * c + 3) ≤ 600) ∧ (0 ≤ s (402 + 5 * c + 4) ∧ s (402 + 5 * c + 4) ≤ 600)
theorem ztd {d x t : Int} (h1 : 0 ≤ x) (h2 : x ≤ t) (h3 : 0 < t) : (0 ≤ d → 0 ≤ (d * x).tdiv t ∧ (d * x).tdiv t ≤ d) ∧ (d ≤ 0 → d ≤ (d * x).tdiv t ∧ (d * x).tdiv t ≤ 0) := by
  have key : ∀ d : Int, 0 ≤ d → 0 ≤ (d * x).tdiv t ∧ (d * x).tdiv t ≤ d := by
    intro d hd
    have hm : 0 ≤ d * x := Int.mul_nonneg hd h1
    rw [Int.tdiv_eq_ediv_of_nonneg hm]
    refine ⟨Int.ediv_nonneg hm (by omega), ?_⟩
    have g : d * x ≤ d * t := Int.mul_le_mul_of_nonneg_left h2 hd
    have g2 : d * x / t ≤ d * t / t := Int.ediv_le_ediv h3 g
    rw [Int.mul_ediv_cancel _ (by omega)] at g2
    exact g2
  refine ⟨key d, fun hd => ?_⟩
  have g := key (-d) (by omega)
  rw [show -d * x = -(d * x) by rw [Int.neg_mul], Int.neg_tdiv] at g
  omega
theorem rnow_b {s : Int → Int} {c : Int} (hf : rff s c) : 0 ≤ rnow s c ∧ rnow s c ≤ 100 := by
  obtain ⟨f1, f2, f3, f4, f5⟩ := hf
  unfold rnow
  split
  · exact f2
  · split
    · exact f1
    · have g := ztd (d := s (402 + 5 * c + 1) - s (402 + 5 * c)) (x := s (402 + 5 * c + 2) - s (402 + 5 * c + 3)) (t := s (402 + 5 * c + 4)) (by omega) (by omega) (by omega)
      by_cases e : 0 ≤ s (402 + 5 * c + 1) - s (402 + 5 * c)
      · have := g.1 e; omega
      · have := g.2 (by omega); omega
theorem rlvF_b {s : Int → Int} (hi : rI s) {ch : Int} (c1 : 0 ≤ ch) (c2 : ch ≤ 11) : ∀ n : Nat, 0 ≤ rlvF s ch n ∧ rlvF s ch n ≤ 100
  | 0 => hi.2.2.2.2.2.2.1 ch c1 c2
  | n + 1 => by
    have hg := rgv_R hi.1 (s (18 + 12 * n)) ch
    have hh := hi.2.2.2.2.2.2.1 ch c1 c2
    unfold rlvF
    split
    · have h1 := (hi.2.2.2.2.1 (rgv s (s (18 + 12 * n)) ch) (by omega) (by omega)).2.2.1
      split <;> omega
    · split
      · exact hh
      · exact rlvF_b hi c1 c2 n
theorem rlv_b {s : Int → Int} (hi : rI s) {pl ch : Int} (c1 : 0 ≤ ch) (c2 : ch ≤ 11) : 0 ≤ rlv s pl ch ∧ rlv s pl ch ≤ 100 := rlvF_b hi c1 c2 _
def rfv (s : Int → Int) (pl cue i : Int) : Int := if rlv s pl ((i - 402) / 5) = s (402 + 5 * ((i - 402) / 5) + 1) then s i else if (i - 402) % 5 = 0 then rnow s ((i - 402) / 5) else if (i - 402) % 5 = 1 then rlv s pl ((i - 402) / 5) else if (i - 402) % 5 = 2 then 0 else if (i - 402) % 5 = 3 then s (18 + 12 * rpl s cue + 4 + 2 * rpo s cue ((i - 402) / 5) + 0) else s (18 + 12 * rpl s cue + 4 + 2 * rpo s cue ((i - 402) / 5) + 1)
def rgoP (s : Int → Int) (pl cue m : Int) : Int → Int := fun i => if 402 ≤ i ∧ i < 402 + 5 * m then rfv s pl cue i else s i
def rgo (s : Int → Int) (cue : Int) : Int → Int := zu (zu (zu (rgoP s (rpl s cue) cue 12) 2 cue) 3 0) 4 (zw (s 4 + 1))
def rgn (s : Int → Int) (cue : Int) : Int := zsum (fun c => bI (¬ rlv s (rpl s cue) c = s (402 + 5 * c + 1))) 12
theorem rgoP_0 (s : Int → Int) (pl cue : Int) : rgoP s pl cue 0 = s := by
  funext i
  unfold rgoP
  rw [if_neg (by omega)]
theorem rgoP_lo {s : Int → Int} {pl cue m i : Int} (h : i < 402) : rgoP s pl cue m i = s i := if_neg (by omega)
theorem rgoP_hi {s : Int → Int} {pl cue m i : Int} (h : 402 + 5 * m ≤ i) : rgoP s pl cue m i = s i := if_neg (by omega)
theorem rgoP_n {s : Int → Int} {pl cue k : Int} (h0 : 0 ≤ k) (h : rlv s pl k = s (402 + 5 * k + 1)) : rgoP s pl cue (k + 1) = rgoP s pl cue k := by
  funext i
  unfold rgoP
  by_cases g : 402 ≤ i ∧ i < 402 + 5 * k
  · rw [if_pos g, if_pos (by omega)]
  · rw [if_neg g]
    by_cases g2 : 402 ≤ i ∧ i < 402 + 5 * (k + 1)
    · rw [if_pos g2]
      unfold rfv
      rw [show (i - 402) / 5 = k by omega, if_pos h]
    · rw [if_neg g2]
theorem rgoP_s {s : Int → Int} {pl cue k x3 x4 : Int} (h0 : 0 ≤ k) (h : ¬ rlv s pl k = s (402 + 5 * k + 1)) (h3 : x3 = s (18 + 12 * rpl s cue + 4 + 2 * rpo s cue k + 0)) (h4 : x4 = s (18 + 12 * rpl s cue + 4 + 2 * rpo s cue k + 1)) : zu (zu (zu (zu (zu (rgoP s pl cue k) (402 + 5 * k) (rnow s k)) (402 + 5 * k + 1) (rlv s pl k)) (402 + 5 * k + 2) 0) (402 + 5 * k + 3) x3) (402 + 5 * k + 4) x4 = rgoP s pl cue (k + 1) := by
  funext i
  by_cases g : 402 + 5 * k ≤ i ∧ i < 402 + 5 * (k + 1)
  · have e : (i - 402) / 5 = k := by omega
    unfold rgoP
    rw [if_pos (show 402 ≤ i ∧ i < 402 + 5 * (k + 1) by omega)]
    unfold rfv
    rw [e, if_neg h]
    rcases (show (i - 402) % 5 = 0 ∨ (i - 402) % 5 = 1 ∨ (i - 402) % 5 = 2 ∨ (i - 402) % 5 = 3 ∨ (i - 402) % 5 = 4 by omega) with q | q | q | q | q
    · rw [if_pos q, zu_ne _ (by omega), zu_ne _ (by omega), zu_ne _ (by omega), zu_ne _ (by omega), show i = 402 + 5 * k by omega, zu_at]
    · rw [if_neg (by omega), if_pos q, zu_ne _ (by omega), zu_ne _ (by omega), zu_ne _ (by omega), show i = 402 + 5 * k + 1 by omega, zu_at]
    · rw [if_neg (by omega), if_neg (by omega), if_pos q, zu_ne _ (by omega), zu_ne _ (by omega), show i = 402 + 5 * k + 2 by omega, zu_at]
    · rw [if_neg (by omega), if_neg (by omega), if_neg (by omega), if_pos q, zu_ne _ (by omega), show i = 402 + 5 * k + 3 by omega, zu_at, h3]
    · rw [if_neg (by omega), if_neg (by omega), if_neg (by omega), if_neg (by omega), show i = 402 + 5 * k + 4 by omega, zu_at, h4]
  · rw [zu_ne _ (by omega), zu_ne _ (by omega), zu_ne _ (by omega), zu_ne _ (by omega), zu_ne _ (by omega)]
    unfold rgoP
    by_cases g1 : 402 ≤ i ∧ i < 402 + 5 * k
    · rw [if_pos g1, if_pos (by omega)]
    · rw [if_neg g1, if_neg (by omega)]
theorem rfv_R {s : Int → Int} (hi : rI s) (pl cue : Int) {i : Int} (h1 : 402 ≤ i) (h2 : i < 462) : zR (rfv s pl cue i) := by
  have hn := rnow_b (hi.2.2.2.2.2.2.2.1 ((i - 402) / 5) (by omega) (by omega))
  unfold rfv
  split
  · exact hi.1.1 _
  · split
    · omega
    · split
      · exact rlv_R hi.1 _ _
      · split
        · omega
        · split
          · exact hi.1.1 _
          · exact hi.1.1 _
theorem rgoP_B {s : Int → Int} (hi : rI s) (pl cue : Int) {m : Int} (h : m ≤ 12) : rB (rgoP s pl cue m) := by
  refine ⟨fun i => ?_, ?_⟩
  · unfold rgoP
    split
    · exact rfv_R hi pl cue (by omega) (by omega)
    · exact hi.1.1 i
  · rw [rgoP_lo (by decide), rgoP_lo (by decide)]
    exact hi.1.2
theorem rfr_zu {t s : Int → Int} {k v : Int} (h : rfr t s) (hk : 402 ≤ k) : rfr (zu t k v) s := fun i h1 h2 h3 h4 h5 => by
  rw [zu_ne _ (by omega)]
  exact h i h1 h2 h3 h4 h5
theorem rfr_P (s : Int → Int) (pl cue m : Int) : rfr (rgoP s pl cue m) s := fun i h1 _ _ _ _ => rgoP_lo h1
theorem zu_B {s : Int → Int} {k v : Int} (hs : rB s) (hk : 402 ≤ k) (hv : zR v) : rB (zu s k v) := by
  refine ⟨zu_R hs.1 hv, ?_⟩
  rw [zu_ne _ (by omega), zu_ne _ (by omega)]
  exact hs.2
theorem rH_eq {h0 : pz_H} {a : Nat → Nat} {f g lv : Int → Int} {A : Nat → Int → Int} {F : Nat → Int} (h : ∀ i, zI (f i) = zI (g i)) : rH h0 a f lv A F = rH h0 a g lv A F := by
  have e : zf f = zf g := by
    funext i
    exact h _
  refine ov_congr (fun i hi => ?_)
  rcases (show i = 0 ∨ i = 1 ∨ i = 2 ∨ i = 3 ∨ i = 4 ∨ i = 5 ∨ i = 6 ∨ i = 7 ∨ i = 8 by omega) with rfl | rfl | rfl | rfl | rfl | rfl | rfl | rfl | rfl <;> first | rfl | (unfold rcl; rw [e])
section ref
variable {en : pz_Env} {h0 : pz_H} {a : Nat → Nat} {s lv : Int → Int} {A : Nat → Int → Int} {F : Nat → Int}
set_option maxRecDepth 100000 in
set_option maxHeartbeats 4000000 in
theorem kX7_nowOf_f (hj : oj 9 a) (hs : rB s) {c : Int} (h1 : 0 ≤ c) (h2 : c ≤ 11) (h3 : rff s c) (h4 : s 5 ≤ 100000) : pz_Cd en 2 176 [.ref (a 0), .int (zI c)] (rH h0 a s lv A F) 0 0 (pz_ret (some (.int (zI (rnow s c)))) (rH h0 a s lv A F)) := by
  refine pz_in pzt_X7_nowOf ?_
  obtain ⟨hR, hs0, hs1, hs2, hs3⟩ := id hs
  obtain ⟨f1, f2, f3, f4, f5⟩ := h3
  refine pr_iload_n dX7_nowOf_0 rfl ?_
  refine zcs1i dX7_nowOf_1 pzm_7_162 pzt_X7_fade kX7_fade (by decide) (Nat.le_of_ble_eq_true rfl) ?_
  refine pr_istore_n dX7_nowOf_4 (by decide) rfl ?_
  refine pr_aload_n dX7_nowOf_5 rfl ?_
  refine pr_getf dX7_nowOf_6 pzf_7_9 (rH_0 hj) rfl ?_
  refine pr_iload_n dX7_nowOf_9 rfl ?_
  refine zr_iald dX7_nowOf_10 (rH_1 hj) (by omega) (by decide) ?_
  refine pr_istore_n dX7_nowOf_11 (by decide) rfl ?_
  refine pr_aload_n dX7_nowOf_12 rfl ?_
  refine pr_getf dX7_nowOf_13 pzf_7_9 (rH_0 hj) rfl ?_
  refine pr_iload_n dX7_nowOf_16 rfl ?_
  refine zr_iconst dX7_nowOf_17 ?_
  refine zr_iadd dX7_nowOf_18 ?_
  refine zr_iald dX7_nowOf_19 (rH_1 hj) (by omega) (by decide) ?_
  refine pr_istore dX7_nowOf_20 (by decide) rfl ?_
  refine pr_aload_n dX7_nowOf_22 rfl ?_
  refine pr_getf dX7_nowOf_23 pzf_7_9 (rH_0 hj) rfl ?_
  refine pr_iload_n dX7_nowOf_26 rfl ?_
  refine zr_iconst dX7_nowOf_27 ?_
  refine zr_iadd dX7_nowOf_28 ?_
  refine zr_iald dX7_nowOf_29 (rH_1 hj) (by omega) (by decide) ?_
  refine pr_istore dX7_nowOf_30 (by decide) rfl ?_
  refine pr_aload_n dX7_nowOf_32 rfl ?_
  refine pr_getf dX7_nowOf_33 pzf_7_9 (rH_0 hj) rfl ?_
  refine pr_iload_n dX7_nowOf_36 rfl ?_
  refine zr_iconst dX7_nowOf_37 ?_
  refine zr_iadd dX7_nowOf_38 ?_
  refine zr_iald dX7_nowOf_39 (rH_1 hj) (by omega) (by decide) ?_
  refine pr_istore dX7_nowOf_40 (by decide) rfl ?_
  refine pr_aload_n dX7_nowOf_42 rfl ?_
  refine pr_getf dX7_nowOf_43 pzf_7_9 (rH_0 hj) rfl ?_
  refine pr_iload_n dX7_nowOf_46 rfl ?_
  refine zr_iconst dX7_nowOf_47 ?_
  refine zr_iadd dX7_nowOf_48 ?_
  refine zr_iald dX7_nowOf_49 (rH_1 hj) (by omega) (by decide) ?_
  refine pr_istore dX7_nowOf_50 (by decide) rfl ?_
  refine pr_iload dX7_nowOf_52 rfl ?_
  refine pr_iload dX7_nowOf_54 rfl ?_
  refine pr_iload dX7_nowOf_56 rfl ?_
  refine zr_iadd dX7_nowOf_58 ?_
  refine zr_icmp_lt (tgt := 65) dX7_nowOf_59 (by decide) (by first | exact hR _ | omega) (by first | exact hR _ | omega) (fun c59 => ?_) (fun c59 => ?_)
  · refine pr_iload dX7_nowOf_65 rfl ?_
    refine pr_iload dX7_nowOf_67 rfl ?_
    refine zr_icmp_gt (tgt := 76) dX7_nowOf_69 (by decide) (by first | exact hR _ | omega) (by first | exact hR _ | omega) (fun c69 => ?_) (fun c69 => ?_)
    · refine pr_iload_n dX7_nowOf_76 rfl ?_
      refine pr_iload dX7_nowOf_77 rfl ?_
      refine pr_iload_n dX7_nowOf_79 rfl ?_
      refine zr_isub dX7_nowOf_80 ?_
      refine pr_iload dX7_nowOf_81 rfl ?_
      refine pr_iload dX7_nowOf_83 rfl ?_
      refine zr_isub dX7_nowOf_85 ?_
      refine zr_imul dX7_nowOf_86 ?_
      refine pr_iload dX7_nowOf_87 rfl ?_
      have hb : -10000000 ≤ (s (402 + 5 * c + 1) - s (402 + 5 * c)) * (s (402 + 5 * c + 2) - s (402 + 5 * c + 3)) ∧ (s (402 + 5 * c + 1) - s (402 + 5 * c)) * (s (402 + 5 * c + 2) - s (402 + 5 * c + 3)) ≤ 10000000 := rmul_b (by omega) (by omega) (by omega) (by omega)
      refine zr_idiv dX7_nowOf_89 (by omega) (by omega) (by omega) (by omega) ?_
      refine zr_iadd dX7_nowOf_90 ?_
      exact pr_iret dX7_nowOf_91 rfl rfl (zret (by unfold rnow; first | rw [if_pos (by omega)] | rw [if_neg (by omega), if_pos (by omega)] | rw [if_neg (by omega), if_neg (by omega)]))
    · refine pr_iload_n dX7_nowOf_72 rfl ?_
      refine pr_goto (tgt := 91) dX7_nowOf_73 (by decide) ?_
      exact pr_iret dX7_nowOf_91 rfl rfl (zret (by unfold rnow; first | rw [if_pos (by omega)] | rw [if_neg (by omega), if_pos (by omega)] | rw [if_neg (by omega), if_neg (by omega)]))
  · refine pr_iload dX7_nowOf_62 rfl ?_
    exact pr_iret dX7_nowOf_64 rfl rfl (zret (by unfold rnow; first | rw [if_pos (by omega)] | rw [if_neg (by omega), if_pos (by omega)] | rw [if_neg (by omega), if_neg (by omega)]))
set_option maxRecDepth 100000 in
set_option maxHeartbeats 4000000 in
theorem kX7_goes (hj : oj 9 a) (hi : rI s) {cue : Int} (h1 : zR cue) (h2 : 0 ≤ rpl s cue) : pz_Cd en 5 178 [.ref (a 0), .int (zI cue)] (rH h0 a s lv A F) 0 0 (pz_ret (some (.int (zI (rgn s cue)))) (rH h0 a (rgo s cue) lv A F)) := by
  refine pz_in pzt_X7_goes ?_
  have hs := rI_B hi
  obtain ⟨hR, hs0, hs1, hs2, hs3⟩ := id hs
  obtain ⟨-, hq1, hq2, hq3, hq4, hq5, hq6, hq7, hq8, hq9, hq10, hq11, hq12, hq13⟩ := id hi
  have hp := rpl_R hs cue
  have loop : ∀ t1 t2 t3 : Option Value, pz_WP 5 en (pz_Cd en (5 - 1)) 7 cX7_goes 8 (some .int) [] false (pz_ret (some (.int (zI (rgn s cue)))) (rH h0 a (rgo s cue) lv A F)) 11 [some (.ref (a 0)), some (.int (zI cue)), some (.int (zI (zsum (fun c => bI (¬ rlv s (rpl s cue) c = s (402 + 5 * c + 1))) (0 : Int).toNat))), some (.int (zI (rpl s cue))), some (.int (zI 0)), t1, t2, t3] [] (rH h0 a (rgoP s (rpl s cue) cue 0) lv A F) 0 0 := by
    refine zup (P := fun k => ∀ t1 t2 t3 : Option Value, pz_WP 5 en (pz_Cd en (5 - 1)) 7 cX7_goes 8 (some .int) [] false (pz_ret (some (.int (zI (rgn s cue)))) (rH h0 a (rgo s cue) lv A F)) 11 [some (.ref (a 0)), some (.int (zI cue)), some (.int (zI (zsum (fun c => bI (¬ rlv s (rpl s cue) c = s (402 + 5 * c + 1))) (k : Int).toNat))), some (.int (zI (rpl s cue))), some (.int (zI k)), t1, t2, t3] [] (rH h0 a (rgoP s (rpl s cue) cue k) lv A F) 0 0) (lo := 0) (hi := 12) (by decide) ?_ ?_
    · intro t1 t2 t3
      have e4 : zu (zu (rgoP s (rpl s cue) cue 12) 2 cue) 3 0 4 = s 4 := by
        rw [zu_ne _ (by decide), zu_ne _ (by decide), rgoP_lo (by decide)]
      refine pr_iload dX7_goes_11 rfl ?_
      refine zr_bipush dX7_goes_13 (by decide) ?_
      refine zr_icmp_ge (tgt := 144) dX7_goes_15 (by decide) (by first | exact hR _ | omega) (by first | exact hR _ | omega) (fun c15 => ?_) (fun c15 => by exfalso; omega)
      refine pr_aload_n dX7_goes_144 rfl ?_
      refine pr_getf dX7_goes_145 pzf_7_9 (rH_0 hj) rfl ?_
      refine zr_iconst dX7_goes_148 ?_
      refine pr_iload_n dX7_goes_149 rfl ?_
      refine zr_iast dX7_goes_150 (rH_1 hj) (by omega) (by decide) (rH_u1 hj) ?_
      refine pr_aload_n dX7_goes_151 rfl ?_
      refine pr_getf dX7_goes_152 pzf_7_9 (rH_0 hj) rfl ?_
      refine zr_iconst dX7_goes_155 ?_
      refine zr_iconst dX7_goes_156 ?_
      refine zr_iast dX7_goes_157 (rH_1 hj) (by omega) (by decide) (rH_u1 hj) ?_
      refine pr_aload_n dX7_goes_158 rfl ?_
      refine pr_getf dX7_goes_159 pzf_7_9 (rH_0 hj) rfl ?_
      refine zr_iconst dX7_goes_162 ?_
      refine pr_dup2 dX7_goes_163 rfl rfl ?_
      refine zr_iald dX7_goes_164 (rH_1 hj) (by omega) (by decide) ?_
      refine zr_iconst dX7_goes_165 ?_
      refine zr_iadd dX7_goes_166 ?_
      refine zr_iast dX7_goes_167 (rH_1 hj) (by omega) (by decide) (rH_u1 hj) ?_
      refine pr_iload_n dX7_goes_168 rfl ?_
      exact pr_iret dX7_goes_169 rfl rfl (zret rfl (by rw [e4]; exact rH_eq (fun i => by unfold rgo zu; split; exact (zI_zw _).symm; rfl)))
    · intro k hk1 hk2 ih t1 t2 t3
      rw [zsum_s hk1] at ih
      have hB := rgoP_B hi (rpl s cue) cue (m := k) (by omega)
      have hF := rfr_P s (rpl s cue) cue k
      have hf := hq7 k (by omega) (by omega)
      have hpo := rpo_R hi (cue := cue) (ch := k)
      have e1 : rgoP s (rpl s cue) cue k (402 + 5 * k + 1) = s (402 + 5 * k + 1) := rgoP_hi (by omega)
      have e5 : rgoP s (rpl s cue) cue k 5 = s 5 := rgoP_lo (by decide)
      have hfk : rff (rgoP s (rpl s cue) cue k) k := by
        unfold rff
        rw [e5, e1, rgoP_hi (m := k) (i := 402 + 5 * k) (by omega), rgoP_hi (m := k) (i := 402 + 5 * k + 2) (by omega), rgoP_hi (m := k) (i := 402 + 5 * k + 3) (by omega), rgoP_hi (m := k) (i := 402 + 5 * k + 4) (by omega)]
        exact hf
      have en : rnow (rgoP s (rpl s cue) cue k) k = rnow s k := by
        unfold rnow
        rw [e1, rgoP_hi (m := k) (i := 402 + 5 * k) (by omega), rgoP_hi (m := k) (i := 402 + 5 * k + 2) (by omega), rgoP_hi (m := k) (i := 402 + 5 * k + 3) (by omega), rgoP_hi (m := k) (i := 402 + 5 * k + 4) (by omega)]
      have hnb := rnow_b hf
      have hl := rlv_R hs (rpl s cue) k
      have hF3 : rfr (zu (zu (zu (rgoP s (rpl s cue) cue k) (402 + 5 * k) (rnow s k)) (402 + 5 * k + 1) (rlv s (rpl s cue) k)) (402 + 5 * k + 2) 0) s := rfr_zu (rfr_zu (rfr_zu hF (by omega)) (by omega)) (by omega)
      have hB3 : rB (zu (zu (zu (rgoP s (rpl s cue) cue k) (402 + 5 * k) (rnow s k)) (402 + 5 * k + 1) (rlv s (rpl s cue) k)) (402 + 5 * k + 2) 0) := zu_B (zu_B (zu_B hB (by omega) (by omega)) (by omega) hl) (by omega) (by omega)
      have hF4 : rfr (zu (zu (zu (zu (rgoP s (rpl s cue) cue k) (402 + 5 * k) (rnow s k)) (402 + 5 * k + 1) (rlv s (rpl s cue) k)) (402 + 5 * k + 2) 0) (402 + 5 * k + 3) (s (18 + 12 * rpl s cue + 4 + 2 * rpo s cue k + 0))) s := rfr_zu hF3 (by omega)
      have hB4 : rB (zu (zu (zu (zu (rgoP s (rpl s cue) cue k) (402 + 5 * k) (rnow s k)) (402 + 5 * k + 1) (rlv s (rpl s cue) k)) (402 + 5 * k + 2) 0) (402 + 5 * k + 3) (s (18 + 12 * rpl s cue + 4 + 2 * rpo s cue k + 0))) := zu_B hB3 (by omega) (hR _)
      refine pr_iload dX7_goes_11 rfl ?_
      refine zr_bipush dX7_goes_13 (by decide) ?_
      refine zr_icmp_ge (tgt := 144) dX7_goes_15 (by decide) (by first | exact hR _ | omega) (by first | exact hR _ | omega) (fun c15 => by exfalso; omega) (fun c15 => ?_)
      refine pr_aload_n dX7_goes_18 rfl ?_
      refine pr_iload_n dX7_goes_19 rfl ?_
      refine pr_iload dX7_goes_20 rfl ?_
      refine zcv2i dX7_goes_22 pzm_7_84 pzt_X7_levelIn (rH_0 hj) (kX7_levelIn hj hB (by omega) (by rw [rgoP_lo (by decide)]; omega) (by omega) (by omega)) (by decide) (Nat.le_of_ble_eq_true rfl) (by decide) ?_
      rw [rlv_fr hs hF (by omega) (by omega) (by omega)]
      refine pr_istore dX7_goes_25 (by decide) rfl ?_
      refine pr_iload dX7_goes_27 rfl ?_
      refine zcs1i dX7_goes_29 pzm_7_162 pzt_X7_fade kX7_fade (by decide) (Nat.le_of_ble_eq_true rfl) ?_
      refine pr_istore dX7_goes_32 (by decide) rfl ?_
      refine pr_iload dX7_goes_34 rfl ?_
      refine pr_aload_n dX7_goes_36 rfl ?_
      refine pr_getf dX7_goes_37 pzf_7_9 (rH_0 hj) rfl ?_
      refine pr_iload dX7_goes_40 rfl ?_
      refine zr_iconst dX7_goes_42 ?_
      refine zr_iadd dX7_goes_43 ?_
      refine zr_iald dX7_goes_44 (rH_1 hj) (by omega) (by decide) ?_
      rw [e1]
      refine zr_icmp_eq (tgt := 138) dX7_goes_45 (by decide) hl (hR _) (fun c45 => ?_) (fun c45 => ?_)
      · rw [show bI (¬ rlv s (rpl s cue) k = s (402 + 5 * k + 1)) = 0 from bI_f (not_not_intro c45), Int.add_zero, rgoP_n hk1 c45] at ih
        refine zr_iinc dX7_goes_138 rfl (by decide) rfl ?_
        refine pr_goto (tgt := 11) dX7_goes_141 (by decide) ?_
        exact ih _ _ _
      · rw [show bI (¬ rlv s (rpl s cue) k = s (402 + 5 * k + 1)) = 1 from bI_t c45] at ih
        refine pr_aload_n dX7_goes_48 rfl ?_
        refine pr_iload_n dX7_goes_49 rfl ?_
        refine pr_iload dX7_goes_50 rfl ?_
        refine zcv2i dX7_goes_52 pzm_7_104 pzt_X7_partOf (rH_0 hj) (kX7_partOf hj hB h1 (by omega)) (by decide) (Nat.le_of_ble_eq_true rfl) (by decide) ?_
        rw [rpo_fr hs hF]
        refine pr_istore dX7_goes_55 (by decide) rfl ?_
        refine pr_aload_n dX7_goes_57 rfl ?_
        refine pr_getf dX7_goes_58 pzf_7_9 (rH_0 hj) rfl ?_
        refine pr_iload dX7_goes_61 rfl ?_
        refine pr_aload_n dX7_goes_63 rfl ?_
        refine pr_iload dX7_goes_64 rfl ?_
        refine zcv1i dX7_goes_66 pzm_7_165 pzt_X7_nowOf (rH_0 hj) (kX7_nowOf_f hj hB (by omega) (by omega) hfk (by rw [e5]; omega)) (by decide) (Nat.le_of_ble_eq_true rfl) (by decide) ?_
        rw [en]
        refine zr_iast dX7_goes_69 (rH_1 hj) (by omega) (by decide) (rH_u1 hj) ?_
        refine pr_aload_n dX7_goes_70 rfl ?_
        refine pr_getf dX7_goes_71 pzf_7_9 (rH_0 hj) rfl ?_
        refine pr_iload dX7_goes_74 rfl ?_
        refine zr_iconst dX7_goes_76 ?_
        refine zr_iadd dX7_goes_77 ?_
        refine pr_iload dX7_goes_78 rfl ?_
        refine zr_iast dX7_goes_80 (rH_1 hj) (by omega) (by decide) (rH_u1 hj) ?_
        refine pr_aload_n dX7_goes_81 rfl ?_
        refine pr_getf dX7_goes_82 pzf_7_9 (rH_0 hj) rfl ?_
        refine pr_iload dX7_goes_85 rfl ?_
        refine zr_iconst dX7_goes_87 ?_
        refine zr_iadd dX7_goes_88 ?_
        refine zr_iconst dX7_goes_89 ?_
        refine zr_iast dX7_goes_90 (rH_1 hj) (by omega) (by decide) (rH_u1 hj) ?_
        refine pr_aload_n dX7_goes_91 rfl ?_
        refine pr_getf dX7_goes_92 pzf_7_9 (rH_0 hj) rfl ?_
        refine pr_iload dX7_goes_95 rfl ?_
        refine zr_iconst dX7_goes_97 ?_
        refine zr_iadd dX7_goes_98 ?_
        refine pr_aload_n dX7_goes_99 rfl ?_
        refine pr_getf dX7_goes_100 pzf_7_9 (rH_0 hj) rfl ?_
        refine pr_aload_n dX7_goes_103 rfl ?_
        refine pr_iload_n dX7_goes_104 rfl ?_
        refine pr_iload dX7_goes_105 rfl ?_
        refine zr_iconst dX7_goes_107 ?_
        refine zcv3i dX7_goes_108 pzm_7_94 pzt_X7_partAt (rH_0 hj) (kX7_partAt_1 hj hB3 h1) (by decide) (Nat.le_of_ble_eq_true rfl) (by decide) ?_
        rw [rpl_fr hs hF3]
        refine zr_iald dX7_goes_111 (rH_1 hj) (by omega) (by decide) ?_
        rw [hF3 _ (by omega) (by omega) (by omega) (by omega) (by omega)]
        refine zr_iast dX7_goes_112 (rH_1 hj) (by omega) (by decide) (rH_u1 hj) ?_
        refine pr_aload_n dX7_goes_113 rfl ?_
        refine pr_getf dX7_goes_114 pzf_7_9 (rH_0 hj) rfl ?_
        refine pr_iload dX7_goes_117 rfl ?_
        refine zr_iconst dX7_goes_119 ?_
        refine zr_iadd dX7_goes_120 ?_
        refine pr_aload_n dX7_goes_121 rfl ?_
        refine pr_getf dX7_goes_122 pzf_7_9 (rH_0 hj) rfl ?_
        refine pr_aload_n dX7_goes_125 rfl ?_
        refine pr_iload_n dX7_goes_126 rfl ?_
        refine pr_iload dX7_goes_127 rfl ?_
        refine zr_iconst dX7_goes_129 ?_
        refine zcv3i dX7_goes_130 pzm_7_94 pzt_X7_partAt (rH_0 hj) (kX7_partAt_0 hj hB4 h1) (by decide) (Nat.le_of_ble_eq_true rfl) (by decide) ?_
        rw [rpl_fr hs hF4]
        refine zr_iald dX7_goes_133 (rH_1 hj) (by omega) (by decide) ?_
        rw [hF4 _ (by omega) (by omega) (by omega) (by omega) (by omega)]
        refine zr_iast dX7_goes_134 (rH_1 hj) (by omega) (by decide) (rH_u1 hj) ?_
        rw [rgoP_s hk1 c45 rfl rfl]
        refine zr_iinc dX7_goes_135 rfl (by decide) rfl ?_
        refine zr_iinc dX7_goes_138 rfl (by decide) rfl ?_
        refine pr_goto (tgt := 11) dX7_goes_141 (by decide) ?_
        exact ih _ _ _
  rw [rgoP_0] at loop
  refine zr_iconst dX7_goes_0 ?_
  refine pr_istore_n dX7_goes_1 (by decide) rfl ?_
  refine pr_aload_n dX7_goes_2 rfl ?_
  refine pr_iload_n dX7_goes_3 rfl ?_
  refine zcv1i dX7_goes_4 pzm_7_67 pzt_X7_placeOf (rH_0 hj) (kX7_placeOf hj hs h1) (by decide) (Nat.le_of_ble_eq_true rfl) (by decide) ?_
  refine pr_istore_n dX7_goes_7 (by decide) rfl ?_
  refine zr_iconst dX7_goes_8 ?_
  refine pr_istore dX7_goes_9 (by decide) rfl ?_
  exact loop _ _ _
end ref
