/-! what a show says: a cue is removed, whole -/
section rel
variable {X Y Z : Int → Int → Int} {s t u : Int → Int}
def xsh (Z : Int → Int → Int) (i : Int) : Int → Int → Int := zs (pD i (Z 1 1 - 1)) (zv Z 1 (zu (Z 1) 1 (Z 1 1 - 1)))
theorem xsh_lo {i q : Int} (h : ¬ (7 ≤ q ∧ q < 67)) (h1 : ¬ q = 1) : xsh Z i q = Z q := by
  unfold xsh zs
  rw [zp_lo h, zv_ne _ _ h1]
theorem xsh_1 {i j : Int} : xsh Z i 1 j = if j = 1 then Z 1 1 - 1 else Z 1 j := by
  unfold xsh zs
  rw [zp_lo (by omega), zv_at, zu_app]
theorem xsh_C {i k r : Int} (i0 : 0 ≤ i) (k1 : 0 ≤ k) (k2 : k < 12) (r1 : 0 ≤ r) (r2 : r < 5) : xsh Z i (7 + 5 * k + r) = if i ≤ k ∧ k < Z 1 1 - 1 then Z (7 + 5 * (k + 1) + r) else if k = Z 1 1 - 1 then Z (7 + 5 * i + r) else Z (7 + 5 * k + r) := by
  have e : xsh Z i (7 + 5 * k + r) = zv Z 1 (zu (Z 1) 1 (Z 1 1 - 1)) (7 + 5 * pD i (Z 1 1 - 1) k + r) := by
    unfold xsh zs
    rw [zp_C k1 k2 r1 r2]
  rw [e]
  unfold pD
  by_cases a : i ≤ k ∧ k < Z 1 1 - 1
  · rw [if_pos a, if_pos a, zv_ne _ _ (by omega)]
  · rw [if_neg a, if_neg a]
    by_cases b : k = Z 1 1 - 1
    · rw [if_pos b, if_pos b]
      by_cases c : 7 + 5 * i + r = 1
      · rw [c, zv_at]
        funext j
        rw [zu_app]
        exact absurd c (by omega)
      · rw [zv_ne _ _ c]
    · rw [if_neg b, if_neg b, zv_ne _ _ (by omega)]
theorem xsh_R (hR : ∀ i j, zR (Z i j)) {i : Int} (h1 : 0 ≤ Z 1 1) (h2 : Z 1 1 ≤ 12) : ∀ q j, zR (xsh Z i q j) := by
  intro q j
  unfold xsh zs
  rw [zv_app, zu_app]
  repeat' split
  all_goals first | exact hR _ _ | omega
theorem cS_sh (h : cS Z t) {i : Int} (i1 : 0 ≤ i) (i2 : i < t 0) (hno : ∀ p : Int, 0 ≤ p → p < t 1 → ¬ t (162 + 4 * p) = t (18 + 12 * i)) : cS (xsh Z i) (rsh t i) := by
  obtain ⟨hR, hi, hc, h6⟩ := h
  have hb := hi.1.2
  have hn := cR_n hc
  have e1 := cE_1 hi hc
  have e2 := cE_2 hi hc
  have hI2 := rsh_I hi i1 i2 hno
  have t0 := rsh_0 (s := t) i1
  have t1 := rsh_1 (s := t) i1
  have hlo : ∀ q : Int, q ≠ 0 → q < 18 + 12 * i → rsh t i q = t q := fun q a b => rsh_lo a b
  have hmv : ∀ j m : Int, i ≤ j → j < t 0 - 1 → 0 ≤ m → m ≤ 11 → rsh t i (18 + 12 * j + m) = t (18 + 12 * (j + 1) + m) := fun j m a b d e => rsh_mv i1 a b d e
  have hhi : ∀ q : Int, 162 ≤ q → rsh t i q = t q := fun q a => rsh_hi hi.1 i1 i2 a
  generalize ht : rsh t i = w at *
  have add0 : ∀ z : Int, z + 0 = z := fun z => Int.add_zero _
  have x67 : xsh Z i 67 = Z 67 := xsh_lo (by omega) (by decide)
  have hsi : xsi (xsh Z i) = xsi Z := by unfold xsi; rw [x67]
  have x15 : xsh Z i 1 5 = Z 1 5 := by rw [xsh_1, if_neg (by decide)]
  have x11 : xsh Z i 1 1 = Z 1 1 - 1 := by rw [xsh_1, if_pos rfl]
  have ca : ∀ k r : Int, 0 ≤ k → k < t 0 - 1 → i ≤ k → 0 ≤ r → r < 5 → xsh Z i (7 + 5 * k + r) = Z (7 + 5 * (k + 1) + r) := fun k r k1 k2 a r1 r2 => by
    rw [xsh_C i1 k1 (by omega) r1 r2, if_pos ⟨a, by omega⟩]
  have cb : ∀ k r : Int, 0 ≤ k → k < t 0 - 1 → k < i → 0 ≤ r → r < 5 → xsh Z i (7 + 5 * k + r) = Z (7 + 5 * k + r) := fun k r k1 k2 a r1 r2 => by
    rw [xsh_C i1 k1 (by omega) r1 r2, if_neg (by omega), if_neg (by omega)]
  refine ⟨xsh_R hR (by omega) (by omega), hI2, ⟨?_, ?_, ?_, ?_, ?_, cE_0 ?_ ?_, ?_⟩, by rw [x67]; exact h6⟩
  · rw [x11, x15, hsi, x67, t0, t1, hlo 2 (by decide) (by omega), hlo 3 (by decide) (by omega), hlo 4 (by decide) (by omega), hlo 5 (by decide) (by omega), hn]
    exact ⟨rfl, hc.1.2⟩
  · intro d d1 d2
    rw [xsh_lo (by omega) (by decide), hlo _ (by omega) (by omega)]; exact hc.2.1 d d1 d2
  · intro k k1 k2
    rw [t0] at k2
    by_cases a : i ≤ k
    · have z := ca k 0 k1 k2 a (by decide) (by decide)
      have m0 := hmv k 0 a k2 (by decide) (by decide)
      rw [add0, add0] at z m0
      rw [z, m0, hmv k 1 a k2 (by decide) (by decide), hmv k 2 a k2 (by decide) (by decide), hmv k 3 a k2 (by decide) (by decide)]; exact hc.2.2.1 (k + 1) (by omega) (by omega)
    · have z := cb k 0 k1 k2 (by omega) (by decide) (by decide)
      rw [add0] at z
      rw [z, hlo _ (by omega) (by omega), hlo _ (by omega) (by omega), hlo _ (by omega) (by omega), hlo _ (by omega) (by omega)]; exact hc.2.2.1 k k1 (by omega)
  · intro k p k1 k2 p1 p2
    rw [t0] at k2
    rw [show 18 + 12 * k + 4 + 2 * p = 18 + 12 * k + (4 + 2 * p) by omega, show 18 + 12 * k + (4 + 2 * p) + 1 = 18 + 12 * k + (4 + 2 * p + 1) by omega]
    by_cases a : i ≤ k
    · rw [ca k 1 k1 k2 a (by decide) (by decide), ca k 2 k1 k2 a (by decide) (by decide), hmv k _ a k2 (by omega) (by omega), hmv k _ a k2 (by omega) (by omega)]
      have := hc.2.2.2.1 (k + 1) p (by omega) (by omega) p1 p2
      rw [show 18 + 12 * (k + 1) + 4 + 2 * p = 18 + 12 * (k + 1) + (4 + 2 * p) by omega, show 18 + 12 * (k + 1) + (4 + 2 * p) + 1 = 18 + 12 * (k + 1) + (4 + 2 * p + 1) by omega] at this
      exact this
    · rw [cb k 1 k1 k2 (by omega) (by decide) (by decide), cb k 2 k1 k2 (by omega) (by decide) (by decide), hlo _ (by omega) (by omega), hlo _ (by omega) (by omega)]
      have := hc.2.2.2.1 k p k1 (by omega) p1 p2
      rw [show 18 + 12 * k + 4 + 2 * p = 18 + 12 * k + (4 + 2 * p) by omega, show 18 + 12 * k + (4 + 2 * p) + 1 = 18 + 12 * k + (4 + 2 * p + 1) by omega] at this
      exact this
  · intro p p1 p2
    rw [t1] at p2
    rw [xsh_lo (by omega) (by decide), xsh_lo (by omega) (by decide), hhi _ (by omega), hhi _ (by omega)]; exact hc.2.2.2.2.1 p p1 p2
  · intro p p1 p2 j j1 j2 e
    rw [t1] at p2
    rw [t0] at j2
    rw [hhi (162 + 4 * p) (by omega)] at e
    rw [hhi _ (by omega), hhi _ (by omega), hhi _ (by omega)]
    by_cases a : i ≤ j
    · have m0 := hmv j 0 a j2 (by decide) (by decide)
      rw [add0, add0] at m0
      rw [m0] at e
      rw [ca j 3 j1 j2 a (by decide) (by decide), ca j 4 j1 j2 a (by decide) (by decide)]
      exact e1 p p1 p2 (j + 1) (by omega) (by omega) e
    · rw [hlo (18 + 12 * j) (by omega) (by omega)] at e
      rw [cb j 3 j1 j2 (by omega) (by decide) (by decide), cb j 4 j1 j2 (by omega) (by decide) (by decide)]
      exact e1 p p1 p2 j j1 (by omega) e
  · intro j c j1 j2 c1 c2 hqq
    rw [t0] at j2
    rw [t1] at hqq
    by_cases a : i ≤ j
    · have m0 := hmv j 0 a j2 (by decide) (by decide)
      rw [add0, add0] at m0
      rw [ca j 3 j1 j2 a (by decide) (by decide)]
      refine e2 (j + 1) c (by omega) (by omega) c1 c2 (fun p p1 p2 y => hqq p p1 p2 ?_)
      rw [hhi (162 + 4 * p) (by omega), hhi (162 + 4 * p + 1) (by omega), m0]; exact y
    · rw [cb j 3 j1 j2 (by omega) (by decide) (by decide)]
      refine e2 j c j1 (by omega) c1 c2 (fun p p1 p2 y => hqq p p1 p2 ?_)
      rw [hhi (162 + 4 * p) (by omega), hhi (162 + 4 * p + 1) (by omega), hlo (18 + 12 * j) (by omega) (by omega)]; exact y
  · intro d d1 d2
    rw [x67, xsh_lo (by omega) (by omega), xsh_lo (by omega) (by omega), xsh_lo (by omega) (by omega), xsh_lo (by omega) (by omega), xsh_lo (by omega) (by omega), hhi _ (by omega), hhi _ (by omega), hhi _ (by omega), hhi _ (by omega), hhi _ (by omega)]
    exact hc.2.2.2.2.2.2 d d1 d2
/-- the row of levels to be held is no part of what is said -/
theorem cS_6 (h : cS X s) (hR : ∀ i j, zR (Z i j)) (e : ∀ q : Int, ¬ q = 6 → Z q = X q) : cS Z s := by
  have hb := h.2.1.1.2
  refine ⟨hR, h.2.1, ?_, by rw [e _ (by decide)]; exact h.2.2.2⟩
  have hc := h.2.2.1
  refine ⟨?_, ?_, ?_, ?_, ?_, ?_, ?_⟩
  · unfold xsi
    rw [e 1 (by decide), e 67 (by decide)]; exact hc.1
  · intro c c1 c2
    rw [e 3 (by decide)]; exact hc.2.1 c c1 c2
  · intro k k1 k2
    rw [e _ (by omega)]; exact hc.2.2.1 k k1 k2
  · intro k p k1 k2 p1 p2
    rw [e _ (by omega), e _ (by omega)]; exact hc.2.2.2.1 k p k1 k2 p1 p2
  · intro p p1 p2
    rw [e _ (by omega), e _ (by omega)]; exact hc.2.2.2.2.1 p p1 p2
  · intro k c k1 k2 c1 c2
    rw [e _ (by omega), e _ (by omega)]; exact hc.2.2.2.2.2.1 k c k1 k2 c1 c2
  · intro c c1 c2
    rw [e _ (by omega), e _ (by omega), e _ (by omega), e _ (by omega), e _ (by omega), e _ (by omega)]; exact hc.2.2.2.2.2.2 c c1 c2
theorem hN_sum (N : Int → Bool) : ∀ (n : Nat) (c : Int), 0 ≤ c → zsum (fun d => bI (N d = true)) (c + n).toNat = zsum (fun d => bI (N d = true)) c.toNat + hN N n c
  | 0, c, h => by
    show _ = _ + 0
    rw [show c + ((0 : Nat) : Int) = c by omega, Int.add_zero]
  | n + 1, c, h => by
    have ih := hN_sum N n (c + 1) (by omega)
    have e : hN N (n + 1) c = bI (N c = true) + hN N n (c + 1) := rfl
    rw [show c + ((n + 1 : Nat) : Int) = c + 1 + (n : Int) by omega, ih, zsum_s h, e]
    omega
theorem xhF_xdp {pl : Int} {L : Int → Int} {N : Int → Bool} (hN1 : ∀ d : Int, 0 ≤ d → d ≤ 11 → (N d = true ↔ ¬ Z 6 d = -2)) (hL : ∀ d : Int, 0 ≤ d → d ≤ 11 → N d = true → L d = Z 6 d) : ∀ (n : Nat) (c : Int), 0 ≤ c → c + n = 12 → xhF pl L N n c (xdp Z pl c.toNat) = xdp Z pl 12
  | 0, c, _, h => by
    show xdp Z pl c.toNat = _
    rw [show c.toNat = 12 by omega]
  | n + 1, c, h0, h => by
    have e : xhF pl L N (n + 1) c (xdp Z pl c.toNat) = xhF pl L N n (c + 1) (if N c = true then xpi (xdp Z pl c.toNat) pl c (L c) 0 else xdp Z pl c.toNat) := rfl
    have ih := xhF_xdp (pl := pl) hN1 hL n (c + 1) (by omega) (by omega)
    rw [xdp_s h0] at ih
    rw [e, ← ih]
    have q := hN1 c h0 (by omega)
    by_cases a : N c = true
    · rw [if_pos a, if_neg (q.mp a), hL c h0 (by omega) a]
    · rw [if_neg a, if_pos (by
        by_cases b : Z 6 c = -2
        · exact b
        · exact absurd (q.mpr b) a)]
theorem xdp_none {i : Int} (h : ∀ d : Int, 0 ≤ d → d ≤ 11 → Z 6 d = -2) : ∀ m : Nat, m ≤ 12 → xdp Z i m = Z
  | 0, _ => rfl
  | m + 1, hm => by
    have ih := xdp_none (i := i) h m (by omega)
    show (if Z 6 (m : Int) = -2 then xdp Z i m else _) = Z
    rw [if_pos (h m (by omega) (by omega)), ih]
theorem xdD_sh (hX : xB X) {i : Int} (i1 : 0 ≤ i) : xdD X i = xsh (xdc X i 12) i := by
  unfold xdD xdA xsh
  rw [(xdc_B hX i1 12).2]
theorem cS_rem (h : cS X s) {lv : Int → Int} {i : Int} (i1 : 0 ≤ i) (i2 : i < s 0) {hd : Prop} [Decidable hd] :
    (s (18 + 12 * i + 3) = 1 → xrD X i hd = 1) ∧ (¬ s (18 + 12 * i + 3) = 1 → (rRm s lv (s (18 + 12 * i)) hd).1 = xrD X i hd ∧ (xrD X i hd = 0 → cS (xdp (xdD (xhl X i hd 12) i) i 12) (rRm s lv (s (18 + 12 * i)) hd).2)) := by
  have hu := rpl_uq h.2.1 i1 i2
  have hn := cR_n h.2.2.1
  have hm := cR_m h.2.2.1
  have hb := h.2.1.1.2
  have hXB := (cS_I h).1
  have hp3 := (h.2.2.1.2.2.1 i i1 i2).2.2.2
  have hp01 := (h.2.1.2.1 i i1 i2).2.2.2
  have hicR := xic_R X i
  unfold xrD xrf
  constructor
  · intro e
    rw [if_pos (by omega)]
  intro e
  rw [if_neg (show ¬ ¬ X (7 + 5 * i) 3 = 0 by omega)]
  -- the show with its row of levels
  have hZ : cS (xhl X i hd 12) s := cS_6 h (xhl_B hXB).1 (fun q hq => xhl_ne hq)
  have hZ6 : ∀ d : Int, 0 ≤ d → d ≤ 11 → xhl X i hd 12 6 d = xhv X i hd d := fun d d1 d2 => by
    unfold xhl
    rw [zv_at, if_pos ⟨d1, by omega⟩]
  have hZq : ∀ q : Int, ¬ q = 6 → xhl X i hd 12 q = X q := fun q hq => xhl_ne hq
  have hZic : xic (xhl X i hd 12) i = xic X i := xic_e6 hZq i1
  generalize hZe : xhl X i hd 12 = Z at *
  obtain ⟨hrm, hcnt⟩ := cS_rm hZ i1 i2
  rw [hZic] at hcnt
  have hI := rrmF_I (s (18 + 12 * i)) (s 1).toNat s (by omega) h.2.1 (fun p p1 p2 => by omega)
  have hB := rrmF_bs (s (18 + 12 * i)) (s 1).toNat s (by omega) h.2.1.1
  have r0 : rrmF (s (18 + 12 * i)) (s 1).toNat s 0 = s 0 := hB.1 0 (by decide) (by decide)
  have rn : rrmF (s (18 + 12 * i)) (s 1).toNat s (18 + 12 * i) = s (18 + 12 * i) := hB.1 _ (by omega) (by omega)
  have hsh := cS_sh hrm i1 (by omega) (fun p p1 p2 => by rw [rn]; exact hI.2.1 p p1 p2)
  rw [← xdD_sh (cS_I hZ).1 i1] at hsh
  have w0 := rsh_0 (s := rrmF (s (18 + 12 * i)) (s 1).toNat s) i1
  have w1 := rsh_1 (s := rrmF (s (18 + 12 * i)) (s 1).toNat s) i1
  have wmv : ∀ m : Int, i + 1 < s 0 → 0 ≤ m → m ≤ 11 → rsh (rrmF (s (18 + 12 * i)) (s 1).toNat s) i (18 + 12 * i + m) = s (18 + 12 * (i + 1) + m) := fun m a m1 m2 => by
    rw [rsh_mv i1 (Int.le_refl _) (by omega) m1 m2, hB.1 _ (by omega) (by omega)]
  rw [r0] at w0
  rw [hcnt] at w1
  unfold rRm
  rw [hu]
  generalize hw : rsh (rrmF (s (18 + 12 * i)) (s 1).toNat s) i = w at *
  have h6 : ∀ d : Int, 0 ≤ d → d ≤ 11 → xdD Z i 6 d = xhv X i hd d := fun d d1 d2 => by
    rw [xdD_sh (cS_I hZ).1 i1, xsh_lo (by omega) (by decide), xdc_lo (by omega) (by decide) (by decide) (by decide), hZ6 d d1 d2]
  have w60 := hsh.2.1.1.2.2.2.2
  have hhs : xhs X i hd 12 = zsum (fun c => bI (hd ∧ xnh X (i + 1) c (xlv X (i - 1) c))) 12 := rfl
  have hcue : ∀ r j : Int, i + 1 < s 0 → 0 ≤ r → r < 5 → ¬ r = 4 → (r = 3 → True) → xdD Z i (7 + 5 * i + r) j = X (7 + 5 * (i + 1) + r) j := fun r j a r1 r2 _ _ => by
    have hZn := cR_n hZ.2.2.1
    have c11 := (xdc_B (cS_I hZ).1 i1 12).2
    rw [xdD_sh (cS_I hZ).1 i1, xsh_C i1 i1 (by omega) r1 r2, if_pos ⟨Int.le_refl _, by omega⟩, xdc_lo (by omega) (by omega) (by omega) (by omega), hZq _ (by omega)]
  by_cases d : hd
  · rw [if_pos d]
    by_cases g : i < w 0 ∧ ¬ w (18 + 12 * i + 2) = 1
    · have hr : rhd w (rkl s lv (12 * s 0)) i (i + 1) = rhF (rkl s lv (12 * s 0)) i (i + 1) 12 0 w := if_pos g
      have a1 : i + 1 < s 0 := by omega
      have hnb := h.2.1.2.1 (i + 1) (by omega) a1
      have hnx := h.2.2.1.2.2.1 (i + 1) (by omega) a1
      have g2 := g.2
      rw [wmv 2 a1 (by decide) (by decide)] at g2
      have z0 : X (7 + 5 * (i + 1)) 2 = 0 := by omega
      have L : ∀ c : Int, 0 ≤ c → c ≤ 11 → rkl s lv (12 * s 0) (12 * (i + 1) + c) = xlv X (i + 1) c := fun c c1 c2 => by
        rw [rkl_at (by omega) a1 c1 c2, cR_lv h.2.1 h.2.2.1 (by omega) a1 c1 c2]
      have Lb : ∀ c : Int, 0 ≤ c → c ≤ 11 → 0 ≤ xlv X (i + 1) c ∧ xlv X (i + 1) c ≤ 100 := fun c c1 c2 => xI_lv (cS_I h) c1 c2 _ (by omega)
      have NN : ∀ c : Int, (xnh X (i + 1) c (xlv X (i - 1) c)) ↔ (xtk X (i + 1) c ∧ ¬ xlv X (i + 1) c = xlv X (i - 1) c) := fun c => by
        unfold xnh
        rw [hn]
        exact ⟨fun z => z.2, fun z => ⟨a1, z⟩⟩
      have main := cS_hF (lv := rkl s lv (12 * s 0)) (pl := i) (was := i + 1) (fun c => decide (hd ∧ xnh X (i + 1) c (xlv X (i - 1) c))) i1 12 0 w (xdD Z i) (by decide) (by decide) hsh g.1 (fun c c1 c2 => by
        rw [L c c1 c2, hcue 3 c a1 (by decide) (by decide) (by decide) (fun _ => trivial)]
        have hb0 : xdD Z i (7 + 5 * i) 2 = 0 := by
          have := hcue 0 2 a1 (by decide) (by decide) (by decide) (fun _ => trivial)
          rw [Int.add_zero, Int.add_zero] at this
          rw [this]; exact z0
        have hlow : xlv (xdD Z i) (i - 1) c = xlv X (i - 1) c := by
          refine xlv_cong ?_ (fun j j1 j2 => ?_)
          · rw [xdD_sh (cS_I hZ).1 i1, xsh_lo (by omega) (by decide), xdc_lo (by omega) (by decide) (by decide) (by decide), hZq _ (by decide)]
          · have hZn := cR_n hZ.2.2.1
            have c11 := (xdc_B (cS_I hZ).1 i1 12).2
            have y0 := xsh_C (Z := xdc Z i 12) (i := i) (k := j) (r := 0) i1 j1 (by omega) (by decide) (by decide)
            rw [if_neg (by omega), if_neg (by omega), Int.add_zero] at y0
            have y3 := xsh_C (Z := xdc Z i 12) (i := i) (k := j) (r := 3) i1 j1 (by omega) (by decide) (by decide)
            rw [if_neg (by omega), if_neg (by omega)] at y3
            rw [xdD_sh (cS_I hZ).1 i1, y0, y3, xdc_lo (by omega) (by omega) (by omega) (by omega), xdc_lo (by omega) (by omega) (by omega) (by omega), hZq _ (by omega), hZq _ (by omega)]
            exact ⟨rfl, rfl⟩
        constructor
        · rintro ⟨y1, y2⟩
          have tk : xtk (xdD Z i) i c := ⟨hb0, by rw [hcue 3 c a1 (by decide) (by decide) (by decide) (fun _ => trivial)]; exact y1⟩
          rw [xlv_t i1 tk, hlow] at y2
          exact decide_eq_true ⟨d, (NN c).mpr ⟨⟨z0, y1⟩, fun z => y2 z.symm⟩⟩
        · intro y
          have y := (NN c).mp (of_decide_eq_true y).2
          have tk : xtk (xdD Z i) i c := ⟨hb0, by rw [hcue 3 c a1 (by decide) (by decide) (by decide) (fun _ => trivial)]; exact y.1.2⟩
          refine ⟨y.1.2, ?_⟩
          rw [xlv_t i1 tk, hlow]
          exact fun z => y.2 z.symm) (fun c c1 c2 => by rw [L c c1 c2]; exact Lb c c1 c2)
      have hsum := hN_sum (fun c => decide (hd ∧ xnh X (i + 1) c (xlv X (i - 1) c))) 12 0 (by decide)
      have hsum2 : hN (fun c => decide (hd ∧ xnh X (i + 1) c (xlv X (i - 1) c))) 12 0 = xhs X i hd 12 := by
        have e1 : zsum (fun c => bI (decide (hd ∧ xnh X (i + 1) c (xlv X (i - 1) c)) = true)) ((0 : Int) + ((12 : Nat) : Int)).toNat = xhs X i hd 12 := zsum_congr 12 (fun c _ _ => bI_iff ⟨fun z => of_decide_eq_true z, fun z => decide_eq_true z⟩)
        rw [← e1, hsum]
        show _ = 0 + _
        omega
      have hxd := xhF_xdp (Z := xdD Z i) (pl := i) (L := fun c => rkl s lv (12 * s 0) (12 * (i + 1) + c)) (N := fun c => decide (hd ∧ xnh X (i + 1) c (xlv X (i - 1) c))) (fun c c1 c2 => by
        rw [h6 c c1 c2]
        unfold xhv
        have := Lb c c1 c2
        by_cases y : hd ∧ xnh X (i + 1) c (xlv X (i - 1) c)
        · rw [if_pos y]
          exact ⟨fun _ => by omega, fun _ => decide_eq_true y⟩
        · rw [if_neg y]
          exact ⟨fun z => absurd (of_decide_eq_true z) y, fun z => absurd rfl z⟩) (fun c c1 c2 y => by
        show rkl s lv (12 * s 0) (12 * (i + 1) + c) = _
        rw [L c c1 c2, h6 c c1 c2]
        unfold xhv
        rw [if_pos (of_decide_eq_true y)]) 12 0 (by decide) (by decide)
      have hxd : xhF i (fun c => rkl s lv (12 * s 0) (12 * (i + 1) + c)) (fun c => decide (hd ∧ xnh X (i + 1) c (xlv X (i - 1) c))) 12 0 (xdD Z i) = xdp (xdD Z i) i 12 := hxd
      rw [hsum2, hxd, wmv 3 a1 (by decide) (by decide), w1] at main
      rw [hr]
      obtain ⟨m1, m2, m3, m4⟩ := main
      have hsR := xhs_R (X := X) i hd 12
      by_cases hz : xhs X i hd 12 = 0
      · rw [hz, if_neg (fun z => absurd z.1 (by decide)), if_neg (by omega), m1 hz]
        have m := m4 (Or.inl hz) (by omega)
        rw [m1 hz] at m
        exact ⟨rfl, fun _ => m.2⟩
      · by_cases pr : s (18 + 12 * (i + 1) + 3) = 1
        · rw [if_pos ⟨by omega, by omega, by omega⟩]
          exact ⟨m2 (by omega) pr, fun z => absurd z (by decide)⟩
        · rw [if_neg (fun z => by have := z.2.2; omega)]
          by_cases q : 60 < s 1 - xic X i + xhs X i hd 12
          · rw [if_pos (by omega)]
            exact ⟨m3 pr q, fun z => absurd z (by decide)⟩
          · rw [if_neg (by omega)]
            have m := m4 (Or.inr pr) (by omega)
            exact ⟨m.1, fun _ => m.2⟩
    · have hr : rhd w (rkl s lv (12 * s 0)) i (i + 1) = (0, w) := if_neg g
      have nh : ∀ c : Int, ¬ (hd ∧ xnh X (i + 1) c (xlv X (i - 1) c)) := fun c z => by
        have a1 : i + 1 < s 0 := by have := z.2.1; omega
        have hnx := h.2.2.1.2.2.1 (i + 1) (by omega) a1
        refine g ⟨by omega, fun y => ?_⟩
        rw [wmv 2 a1 (by decide) (by decide)] at y
        have := z.2.2.1.1
        omega
      have hz : xhs X i hd 12 = 0 := by
        rw [hhs]
        exact (zsum_congr 12 (fun c _ _ => bI_f (nh c))).trans (zsum_zero 12)
      rw [hr, hz, if_neg (fun z => absurd z.1 (by decide)), if_neg (by omega)]
      refine ⟨rfl, fun _ => ?_⟩
      rw [xdp_none (fun c c1 c2 => by
        rw [h6 c c1 c2]
        exact if_neg (nh c)) 12 (Nat.le_refl _)]
      exact hsh
  · have nh : ∀ c : Int, ¬ (hd ∧ xnh X (i + 1) c (xlv X (i - 1) c)) := fun c z => d z.1
    have hz : xhs X i hd 12 = 0 := by
      rw [hhs]
      exact (zsum_congr 12 (fun c _ _ => bI_f (nh c))).trans (zsum_zero 12)
    rw [if_neg d, hz, if_neg (fun z => absurd z.1 (by decide)), if_neg (by omega)]
    refine ⟨rfl, fun _ => ?_⟩
    rw [xdp_none (fun c c1 c2 => by
      rw [h6 c c1 c2]
      exact if_neg (nh c)) 12 (Nat.le_refl _)]
    exact hsh
end rel
