/-! what a show says: a cue goes, time passes -/
section rel
variable {X Y : Int → Int → Int} {s t : Int → Int}
theorem cR_fr (hi : rI s) (hc : cR X s) (hX : ∀ q : Int, q < 67 → Y q = X q) (h : rfr t s) (h5 : Y 67 5 = t 2 ∧ xsi Y = t 3 ∧ Y 67 7 = t 4 ∧ Y 67 8 = t 5) (hf : ∀ c : Int, 0 ≤ c → c ≤ 11 → Y 68 c = t (402 + 5 * c) ∧ Y 69 c = t (402 + 5 * c + 1) ∧ Y 67 8 - Y 70 c = t (402 + 5 * c + 2) ∧ Y 71 c = t (402 + 5 * c + 3) ∧ Y 72 c = t (402 + 5 * c + 4)) : cR Y t := by
  have hb := hi.1.2
  have e0 := h 0 (by decide) (by decide) (by decide) (by decide) (by decide)
  have e1 := h 1 (by decide) (by decide) (by decide) (by decide) (by decide)
  have e : ∀ i : Int, 6 ≤ i → i < 402 → t i = s i := fun i i1 i2 => h i i2 (by omega) (by omega) (by omega) (by omega)
  have x1 := hX 1 (by decide)
  refine ⟨?_, ?_, ?_, ?_, ?_, ?_, hf⟩
  · rw [x1, e0, e1]
    exact ⟨hc.1.1, hc.1.2.1, h5.1, h5.2.1, h5.2.2.1, h5.2.2.2⟩
  · intro c c1 c2
    rw [hX 3 (by decide), e _ (by omega) (by omega)]; exact hc.2.1 c c1 c2
  · intro j j1 j2
    rw [e0] at j2
    rw [hX _ (by omega), e _ (by omega) (by omega), e _ (by omega) (by omega), e _ (by omega) (by omega), e _ (by omega) (by omega)]; exact hc.2.2.1 j j1 j2
  · intro j q j1 j2 q1 q2
    rw [e0] at j2
    rw [hX _ (by omega), hX _ (by omega), e _ (by omega) (by omega), e _ (by omega) (by omega)]; exact hc.2.2.2.1 j q j1 j2 q1 q2
  · intro q q1 q2
    rw [e1] at q2
    rw [hX 4 (by decide), hX 5 (by decide), e _ (by omega) (by omega), e _ (by omega) (by omega)]; exact hc.2.2.2.2.1 q q1 q2
  · intro j c j1 j2 c1 c2
    rw [e0] at j2
    have hg := rgv_R hi.1 (s (18 + 12 * j)) c
    rw [e (18 + 12 * j) (by omega) (by omega), rgv_fr hi.1 h, hX _ (by omega), hX _ (by omega)]
    rcases hc.2.2.2.2.2.1 j c j1 j2 c1 c2 with hd | hd
    · exact Or.inl hd
    · refine Or.inr ⟨hd.1, ?_, ?_⟩
      · rw [e _ (by omega) (by omega)]; exact hd.2.1
      · rw [e _ (by omega) (by omega)]; exact hd.2.2
theorem rfv_at {pl cue c r : Int} (r1 : 0 ≤ r) (r2 : r < 5) : rfv s pl cue (402 + 5 * c + r) = if rlv s pl c = s (402 + 5 * c + 1) then s (402 + 5 * c + r) else if r = 0 then rnow s c else if r = 1 then rlv s pl c else if r = 2 then 0 else if r = 3 then s (18 + 12 * rpl s cue + 4 + 2 * rpo s cue c + 0) else s (18 + 12 * rpl s cue + 4 + 2 * rpo s cue c + 1) := by
  unfold rfv
  rw [show (402 + 5 * c + r - 402) / 5 = c by omega, show (402 + 5 * c + r - 402) % 5 = r by omega]
theorem cS_go (h : cS X s) {k : Int} (k1 : 0 ≤ k) (k2 : k < s 0) : cS (xgo X k) (rgo s (s (18 + 12 * k))) := by
  have hI := cS_I h
  obtain ⟨hR, hi, hc, h6⟩ := h
  have hn := cR_n hc
  have hu := rpl_uq hi k1 k2
  have hnum := (hi.2.1 k k1 k2).1
  have hg := xgo_I hI k1 (by omega)
  have hl := hi.2.2.2.2.2.2.2.2
  obtain ⟨d0, d1, d2, d3, d4, d5⟩ := hc.1
  have g5 : xgo X k 67 5 = s (18 + 12 * k) := by
    rw [show xgo X k 67 5 = X (7 + 5 * k) 0 from if_pos ⟨rfl, rfl⟩]
    exact (hc.2.2.1 k k1 k2).1
  have g6 : xgo X k 67 6 = X 67 8 := by
    unfold xgo
    rw [if_neg (by decide), if_pos ⟨rfl, rfl⟩]
  have g7 : xgo X k 67 7 = zw (X 67 7 + 1) := by
    unfold xgo
    rw [if_neg (by decide), if_neg (by decide), if_pos ⟨rfl, rfl⟩]
  have g8 := xgo_8 (X := X) (i := k)
  refine ⟨hg.1.1, rgo_I hi (by rw [hu]; exact k1), cR_fr hi hc (fun q hq => xgo_lo hq) (rgo_fr s _) ⟨?_, ?_, ?_, ?_⟩ ?_, by rw [g6, g8]; omega⟩
  · rw [g5, rgo_2]
  · unfold xsi
    rw [g5, if_neg (by omega), g6, g8, show rgo s (s (18 + 12 * k)) 3 = 0 from rfl]
    omega
  · rw [g7, show rgo s (s (18 + 12 * k)) 4 = zw (s 4 + 1) from rfl, d4]
  · rw [g8, rgo_5, d5]
  · intro c c1 c2
    have f0 := rgo_f (s := s) (cue := s (18 + 12 * k)) (i := 402 + 5 * c + 0) (by omega) (by omega)
    have f1 := rgo_f (s := s) (cue := s (18 + 12 * k)) (i := 402 + 5 * c + 1) (by omega) (by omega)
    have f2 := rgo_f (s := s) (cue := s (18 + 12 * k)) (i := 402 + 5 * c + 2) (by omega) (by omega)
    have f3 := rgo_f (s := s) (cue := s (18 + 12 * k)) (i := 402 + 5 * c + 3) (by omega) (by omega)
    have f4 := rgo_f (s := s) (cue := s (18 + 12 * k)) (i := 402 + 5 * c + 4) (by omega) (by omega)
    rw [rfv_at (by decide) (by decide)] at f0 f1 f2 f3 f4
    rw [Int.add_zero] at f0
    have lv := cR_lv hi hc (i := k) (by omega) k2 c1 c2
    have hd := hc.2.2.2.2.2.2 c c1 c2
    have hP : ∀ q : Int, 68 ≤ q → xgo X k q c = xgP X k 12 q c := fun q hq => by
      unfold xgo
      rw [if_neg (by omega), if_neg (by omega), if_neg (by omega)]
    rw [f0, f1, f2, f3, f4, g8, hP 68 (by decide), hP 69 (by decide), hP 70 (by decide), hP 71 (by decide), hP 72 (by decide), hu]
    by_cases e : rlv s k c = s (402 + 5 * c + 1)
    · rw [if_pos e, if_pos e, if_pos e, if_pos e, if_pos e]
      have ez : ¬ ¬ xlv X k c = X 69 c := fun z => z (by rw [lv, hd.2.1]; exact e)
      rw [xgP_z (fun z => ez z.2.2), xgP_z (fun z => ez z.2.2), xgP_z (fun z => ez z.2.2), xgP_z (fun z => ez z.2.2), xgP_z (fun z => ez z.2.2)]
      exact hd
    · have ez : ¬ xlv X k c = X 69 c := fun z => e (by rw [← lv, ← hd.2.1]; exact z)
      rw [if_neg e, if_neg e, if_neg e, if_neg e, if_neg e, xgP_y (by decide) ⟨c1, by omega⟩ ez, xgP_y (by decide) ⟨c1, by omega⟩ ez, xgP_y (by decide) ⟨c1, by omega⟩ ez, xgP_y (by decide) ⟨c1, by omega⟩ ez, xgP_y (by decide) ⟨c1, by omega⟩ ez]
      have hp := cR_pf hi hc k1 k2 c1 c2
      have hr : 0 ≤ rpo s (s (18 + 12 * k)) c ∧ rpo s (s (18 + 12 * k)) c ≤ 3 := by
        unfold rpo
        split
        · rename_i g
          exact (hi.2.2.2.2.1 _ g (rgv_val g).2).2.2.2
        · decide
      have h4 := hc.2.2.2.1 k (rpo s (s (18 + 12 * k)) c) k1 k2 hr.1 hr.2
      refine ⟨?_, ?_, ?_, ?_, ?_⟩
      · rw [if_pos rfl]; exact cR_now hi hc c1 c2
      · rw [if_neg (by decide), if_pos rfl]; exact lv
      · rw [if_neg (by decide), if_neg (by decide), if_pos rfl]
        show X 67 8 - X 67 8 = 0
        omega
      · rw [if_neg (by decide), if_neg (by decide), if_neg (by decide), if_pos rfl]
        show X (7 + 5 * k + 1) (xpf X k c) = _
        rw [hp, h4.1, Int.add_zero]
      · rw [if_neg (by decide), if_neg (by decide), if_neg (by decide), if_neg (by decide)]
        show X (7 + 5 * k + 2) (xpf X k c) = _
        rw [hp, h4.2]
theorem cS_gn (h : cS X s) {k : Int} (k1 : 0 ≤ k) (k2 : k < s 0) : xgn X k = rgn s (s (18 + 12 * k)) := by
  obtain ⟨hR, hi, hc, h6⟩ := h
  unfold xgn rgn
  rw [rpl_uq hi k1 k2]
  exact zsum_congr 12 (fun c c1 c2 => by rw [cR_lv hi hc (by omega) k2 c1 (by omega), (hc.2.2.2.2.2.2 c c1 (by omega)).2.1])
/-- one tick -/
theorem xsi_pt {X : Int → Int → Int} {m : Int} (h : ¬ X 67 5 = 0) : xsi (xpt X m) = xsi X + m := by
  unfold xsi
  rw [xpt_n (j := 5) (by decide), xpt_n (j := 6) (by decide), xpt_8, if_neg h, if_neg h]
  omega
theorem cS_t1 (h : cS X s) (h8 : X 67 8 < 100000) : cS (xpt X 1) (rt1 s) := by
  have hI := cS_I h
  obtain ⟨hR, hi, hc, h6⟩ := h
  obtain ⟨d0, d1, d2, d3, d4, d5⟩ := hc.1
  have hl := hi.2.2.2.2.2.2.2.2
  have hI2 := xpt_I hI (t := 1) (by decide) (by omega)
  refine ⟨hI2.1.1, rt1_I hi (by omega), cR_fr hi hc (fun q hq => xpt_lo (by omega)) (rt1_fr s) ⟨?_, ?_, ?_, ?_⟩ ?_, by rw [xpt_n (by decide), xpt_8]; omega⟩
  · rw [xpt_n (by decide), d2]; rfl
  · show _ = s 3 + bI (0 < s 2)
    by_cases e : s 2 = 0
    · rw [bI_f (by omega), Int.add_zero, ← d3]
      unfold xsi
      rw [xpt_n (by decide), d2, if_pos e, if_pos e]
    · rw [bI_t (by omega), xsi_pt (by omega), d3]
  · rw [xpt_n (by decide), d4]; rfl
  · rw [xpt_8, d5]; rfl
  · intro c c1 c2
    have hd := hc.2.2.2.2.2.2 c c1 c2
    have hz : ∀ r : Int, 0 ≤ r → r < 5 → rt1 s (402 + 5 * c + r) = if r = 2 then s (402 + 5 * c + r) + 1 else s (402 + 5 * c + r) := fun r r1 r2 => by
      unfold rt1 rt1m
      rw [if_neg (by omega), if_neg (by omega), show (402 + 5 * c + r - 402) % 5 = r by omega]
      by_cases e : r = 2
      · rw [if_pos ⟨by omega, e⟩, if_pos e]
      · rw [if_neg (fun z => e z.2), if_neg e]
    have z0 := hz 0 (by decide) (by decide)
    rw [Int.add_zero] at z0
    rw [z0, hz 1 (by decide) (by decide), hz 2 (by decide) (by decide), hz 3 (by decide) (by decide), hz 4 (by decide) (by decide), xpt_8, xpt_lo (q := 68) (by decide), xpt_lo (q := 69) (by decide), xpt_lo (q := 70) (by decide), xpt_lo (q := 71) (by decide), xpt_lo (q := 72) (by decide)]
    rw [if_neg (by decide), if_neg (by decide), if_pos rfl, if_neg (by decide), if_neg (by decide)]
    omega
abbrev xC (X : Int → Int → Int) : Prop := ¬ (xix X (X 67 5) < 0 ∨ X 1 1 ≤ xix X (X 67 5) + 1) ∧ ¬ X (7 + 5 * xix X (X 67 5)) 1 = -1
def xD (X : Int → Int → Int) : Int := X (7 + 5 * xix X (X 67 5)) 1 - xsi X
theorem xtf_C (X : Int → Int → Int) : xtf X = if xC X then (if 1 < xD X then xD X else 1) else -1 := by
  unfold xtf xC xD
  by_cases e1 : xix X (X 67 5) < 0 ∨ X 1 1 ≤ xix X (X 67 5) + 1
  · rw [if_pos e1, if_neg (fun z => z.1 e1)]
  · rw [if_neg e1]
    by_cases e2 : X (7 + 5 * xix X (X 67 5)) 1 = -1
    · rw [if_pos e2, if_neg (fun z => z.2 e2)]
    · rw [if_neg e2]
      exact (if_pos ⟨e1, e2⟩).symm
theorem xix_pt (hn : X 1 1 ≤ 12) {m n : Int} : xix (xpt X m) n = xix X n := by
  unfold xix
  rw [xpt_lo (by decide)]
  apply zfst_congr
  intro k k1 k2
  rw [xpt_lo (by omega)]
theorem xnk_pt (hn : X 1 1 ≤ 12) {m : Int} : xnk (xpt X m) = xnk X := by
  unfold xnk
  rw [xpt_lo (q := 1) (by decide), xpt_n (j := 5) (by decide)]
  apply zfst_congr
  intro k k1 k2
  rw [xpt_lo (by omega)]
theorem xC_pt (hX : xB X) {m : Int} : xC (xpt X m) ↔ xC X := by
  have hn := hX.2.2.1
  have hp := xix_R hX (X 67 5)
  unfold xC
  rw [xpt_n (by decide), xix_pt hn, xpt_lo (by decide), xpt_lo (by omega)]
theorem xD_pt (hI : xI X) (hc : xC X) {m : Int} : xD (xpt X m) = xD X - m := by
  have hn := hI.1.2.2.1
  have hp := xix_R hI.1 (X 67 5)
  have h5 : ¬ X 67 5 = 0 := fun e => by
    have hz := hc.1
    rcases zfst_spec (fun k => X (7 + 5 * k) 0 == X 67 5) (X 1 1).toNat with ⟨g1, -⟩ | ⟨g1, g2, g3, -⟩
    · have : xix X (X 67 5) = -1 := g1
      omega
    · have g4 : X (7 + 5 * xix X (X 67 5)) 0 = X 67 5 := by
        show X (7 + 5 * zfst (fun k => X (7 + 5 * k) 0 == X 67 5) (X 1 1).toNat) 0 = X 67 5
        simpa using g3
      have := (hI.2.1 (xix X (X 67 5)) g1 (by omega)).1
      omega
  unfold xD
  rw [xpt_n (by decide), xix_pt hn, xpt_lo (by omega), xsi_pt h5]
  omega
theorem cR_fire (hi : rI s) (hc : cR X s) : (rfo s ∧ s (18 + 12 * rpl s (s 2) + 1) ≤ s 3) ↔ (xC X ∧ xD X ≤ 0) := by
  have hr := rpl_R hi.1 (s 2)
  rw [rfo_iff hi]
  unfold xC xD
  rw [cR_ix hc, hc.1.2.2.1, cR_n hc, hc.1.2.2.2.1]
  by_cases g : 0 ≤ rpl s (s 2)
  · rw [(hc.2.2.1 _ g hr.2.1).2.1]
    constructor
    · rintro ⟨⟨h1, h2, h3⟩, h4⟩; exact ⟨⟨by omega, h3⟩, by omega⟩
    · rintro ⟨⟨h1, h2⟩, h3⟩; exact ⟨⟨g, by omega, h2⟩, by omega⟩
  · constructor
    · rintro ⟨⟨h1, -⟩, -⟩; exact absurd h1 g
    · rintro ⟨⟨h1, -⟩, -⟩; exact absurd (Or.inl (by omega)) h1
theorem xnk_C (h : cS X s) (hC : xC X) : 0 ≤ xnk X ∧ xnk X < s 0 ∧ s (18 + 12 * xnk X) = rnx s (s 2) := by
  obtain ⟨hR, hi, hc, h6⟩ := h
  have hr := rpl_R hi.1 (s 2)
  have hx := hC.1
  rw [cR_ix hc, hc.1.2.2.1, cR_n hc] at hx
  have hv := rpl_val (s := s) (cue := s 2) (by omega)
  have hk := rnk_at hi (k := rpl s (s 2)) (by omega) hv.2
  have hn := rnx_at hi (k := rpl s (s 2)) (by omega) hv.2
  rw [hv.1, if_pos (by omega)] at hk hn
  rw [cR_nk hc, hk, hn]
  omega
theorem cS_tick (h : cS X s) (h8 : X 67 8 < 100000) : (xC X ∧ xD X ≤ 1 → cS (xgo (xpt X 1) (xnk X)) (rt2 s) ∧ rt2 s 4 = zw (s 4 + 1)) ∧ (¬ (xC X ∧ xD X ≤ 1) → cS (xpt X 1) (rt2 s) ∧ rt2 s 4 = s 4) := by
  have hI := cS_I h
  have h1 := cS_t1 h h8
  have hf := cR_fire h1.2.1 h1.2.2.1
  have hn := hI.1.2.2.1
  constructor
  · intro hC
    have e : rfo (rt1 s) ∧ rt1 s (18 + 12 * rpl (rt1 s) (rt1 s 2) + 1) ≤ rt1 s 3 := hf.mpr ⟨(xC_pt hI.1).mpr hC.1, by rw [xD_pt hI hC.1]; omega⟩
    have hk := xnk_C h1 ((xC_pt hI.1).mpr hC.1)
    rw [xnk_pt hn] at hk
    have e2 : rt2 s = rgo (rt1 s) (rnx (rt1 s) (rt1 s 2)) := if_pos e
    rw [e2, ← hk.2.2]
    exact ⟨cS_go h1 hk.1 hk.2.1, rfl⟩
  · intro hC
    have e : ¬ (rfo (rt1 s) ∧ rt1 s (18 + 12 * rpl (rt1 s) (rt1 s 2) + 1) ≤ rt1 s 3) := fun z => hC (by
      have y := hf.mp z
      have y1 := (xC_pt hI.1).mp y.1
      rw [xD_pt hI y1] at y
      exact ⟨y1, by omega⟩)
    have e2 : rt2 s = rt1 s := if_neg e
    rw [e2]
    exact ⟨h1, rfl⟩
theorem xpt_pt {X : Int → Int → Int} {a b : Int} : xpt (xpt X a) b = xpt X (a + b) := by
  unfold xpt
  rw [zv_zv, zv_at, zu_at, zu_zu, Int.add_assoc]
theorem xpsF_pt (h : cS X s) (n : Nat) {l : Int} (l0 : 0 ≤ l) (hC : ¬ (xC X ∧ xD X ≤ 1)) : xpsF (n + 1) X (l + 1) = xpsF (n + 1) (xpt X 1) l := by
  have hI := cS_I h
  have hn := hI.1.2.2.1
  have e0 := xtf_C X
  have e1 := xtf_C (xpt X 1)
  have hn2 := xnk_pt hn (m := 1)
  by_cases c : xC X
  · have d : 1 < xD X := by
      by_cases q : 1 < xD X
      · exact q
      · exact absurd ⟨c, by omega⟩ hC
    rw [if_pos c, if_pos d] at e0
    rw [if_pos ((xC_pt hI.1).mpr c), xD_pt hI c] at e1
    have hk := xnk_C h c
    unfold xpsF
    rw [if_neg (show ¬ l + 1 ≤ 0 by omega), hn2, e0, e1]
    by_cases q : l ≤ 0
    · rw [if_pos q, if_pos (by omega), show l = 0 by omega]; rfl
    · rw [if_neg q]
      by_cases q2 : l + 1 < xD X
      · rw [if_pos (by omega), if_pos (by split <;> omega), xpt_pt, Int.add_comm 1 l]
      · have q3 : (if 1 < xD X - 1 then xD X - 1 else 1) = xD X - 1 := by split <;> omega
        rw [q3, if_neg (by omega), if_neg (by omega), xpt_pt, show 1 + (xD X - 1) = xD X by omega, show l + 1 - xD X = l - (xD X - 1) by omega]
  · rw [if_neg c] at e0
    rw [if_neg (fun z => c ((xC_pt hI.1).mp z))] at e1
    unfold xpsF
    rw [if_neg (show ¬ l + 1 ≤ 0 by omega), e0, e1, if_pos (by omega)]
    by_cases q : l ≤ 0
    · rw [if_pos q, show l = 0 by omega]; rfl
    · rw [if_neg q, if_pos (by omega), xpt_pt, Int.add_comm 1 l]
theorem zI_zwa (a b : Int) : zI (zw a + b) = zI (a + b) := by
  rw [← zI_add, zI_zw, zI_add]
theorem cS_ps : ∀ (l : Nat) (n : Nat) (X : Int → Int → Int) (s : Int → Int), l ≤ n → cS X s → X 67 8 + l ≤ 100000 → cS (xpsF n X l).2 (rpsN l s) ∧ zI (rpsN l s 4) = zI (s 4 + (xpsF n X l).1)
  | 0, n, X, s, _, h, _ => by
    have e : xpsF n X ((0 : Nat) : Int) = (0, X) := by
      cases n with
      | zero => rfl
      | succ n => exact if_pos (Int.le_refl _)
    rw [e]
    exact ⟨h, by rw [Int.add_zero]; rfl⟩
  | l + 1, n, X, s, hn, h, h8 => by
    obtain ⟨n', rfl⟩ : ∃ n', n = n' + 1 := ⟨n - 1, by omega⟩
    have ht := cS_tick h (by omega)
    have hI := cS_I h
    have hs : rpsN (l + 1) s = rpsN l (rt2 s) := rfl
    have el : (((l + 1 : Nat) : Int)) = (l : Int) + 1 := by omega
    rw [hs, el]
    by_cases c : xC X ∧ xD X ≤ 1
    · obtain ⟨c1, c2⟩ := ht.1 c
      have hk := xnk_C h c.1
      have e0 := xtf_C X
      rw [if_pos c.1, if_neg (by omega)] at e0
      have e : xpsF (n' + 1) X ((l : Int) + 1) = (1 + (xpsF n' (xgo (xpt X 1) (xnk X)) l).1, (xpsF n' (xgo (xpt X 1) (xnk X)) l).2) := by
        show (if (l : Int) + 1 ≤ 0 then _ else _) = _
        rw [if_neg (by omega), e0, if_neg (by omega), show (l : Int) + 1 - 1 = l by omega]
      have ih := cS_ps l n' _ _ (by omega) c1 (by rw [xgo_8, xpt_8]; omega)
      rw [e]
      refine ⟨ih.1, ?_⟩
      rw [ih.2, c2, zI_zwa]
      show zI (s 4 + 1 + (xpsF n' (xgo (xpt X 1) (xnk X)) l).1) = zI (s 4 + (1 + (xpsF n' (xgo (xpt X 1) (xnk X)) l).1))
      rw [Int.add_assoc]
    · obtain ⟨c1, c2⟩ := ht.2 c
      have ih := cS_ps l (n' + 1) _ _ (by omega) c1 (by rw [xpt_8]; omega)
      rw [xpsF_pt h n' (by omega) c, ← c2]
      exact ih
end rel
