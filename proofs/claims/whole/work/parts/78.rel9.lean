/-! what a show says: give and take, whole -/
section rel
variable {X Y : Int → Int → Int} {s t : Int → Int}
theorem xpi_klv {k c v p : Int} (k1 : 0 ≤ k) (hv : ¬ v = -2) : xlv (xpi X k c v p) k c = xlm X v c := by
  rw [xlv_n k1 (fun z => by
    have := z.2
    rw [xpi_t3 k1, if_pos rfl] at this
    exact hv this), xpi_t3 k1, if_pos rfl]
  unfold xlm
  rw [xpi_h k1]
theorem cS_give (h : cS X s) {lv : Int → Int} {k c v p : Int} (k1 : 0 ≤ k) (k2 : k < s 0) (c1 : 0 ≤ c) (c2 : c ≤ 11) (v1 : -1 ≤ v) (v2 : v ≤ 100) (p1 : 0 ≤ p) (p2 : p ≤ 3) {hd : Prop} [Decidable hd] :
    (rGh s lv (s (18 + 12 * k)) c v p hd).1 = xrG X k c v hd ∧ (xrG X k c v hd = 0 → cS (xgi X k c v p hd) (rGh s lv (s (18 + 12 * k)) c v p hd).2.1 ∧ (rGh s lv (s (18 + 12 * k)) c v p hd).2.2 = rkl s lv (12 * s 0) ∧ (rGh s lv (s (18 + 12 * k)) c v p hd).2.1 0 = s 0) := by
  have hu := rpl_uq h.2.1 k1 k2
  have hn := cR_n h.2.2.1
  have hm := cR_m h.2.2.1
  have hb := h.2.1.1.2
  have hno := cR_no h.2.1 h.2.2.1 k1 k2 c1 c2
  have hp3 := (h.2.2.1.2.2.1 k k1 k2).2.2.2
  have hp01 := (h.2.1.2.1 k k1 k2).2.2.2
  have hnx : k + 1 < s 0 → X (7 + 5 * (k + 1)) 3 = s (18 + 12 * (k + 1) + 3) ∧ (s (18 + 12 * (k + 1) + 3) = 0 ∨ s (18 + 12 * (k + 1) + 3) = 1) := fun z => ⟨(h.2.2.1.2.2.1 (k + 1) (by omega) z).2.2.2, (h.2.1.2.1 (k + 1) (by omega) z).2.2.2⟩
  unfold rGh xrG xrf
  rw [hu]
  by_cases e : s (18 + 12 * k + 3) = 1
  · rw [if_pos e, if_pos (by omega)]
    exact ⟨rfl, fun z => absurd z (by decide)⟩
  rw [if_neg e, if_neg (show ¬ ¬ X (7 + 5 * k) 3 = 0 by omega)]
  have hxn : xnh X (k + 1) c (xlm X v c) ↔ (k + 1 < s 0 ∧ xtk X (k + 1) c ∧ ¬ xlv X (k + 1) c = xlm X v c) := by
    unfold xnh
    rw [hn]
  by_cases f : s 1 = 60 ∧ rgv s (s (18 + 12 * k)) c < 0
  · rw [if_pos f]
    have hlm : (if v = -1 then s (6 + c) else v) = xlm X v c := by
      unfold xlm
      by_cases q : v = -1
      · rw [if_pos q, if_neg (by omega), h.2.2.1.2.1 c c1 c2]
      · rw [if_neg q, if_pos (by omega)]
    have hw : rwh s k c v ↔ (xnh X (k + 1) c (xlm X v c) ∧ k + 1 < s 0 ∧ s (18 + 12 * (k + 1) + 3) = 1) := by
      unfold rwh
      rw [hlm, hxn, ← cR_lv h.2.1 h.2.2.1 (i := k) (by omega) k2 c1 c2]
      constructor
      · rintro ⟨⟨a1, a2, a3, a4⟩, a5⟩
        have tk := (cR_tk h.2.1 h.2.2.1 (k := k + 1) (by omega) a1 c1 c2).mpr ⟨a4, a3⟩
        refine ⟨⟨a1, tk, ?_⟩, a1, a2⟩
        rw [xlv_t (by omega) tk, show k + 1 - 1 = k by omega]
        exact fun z => a5 z.symm
      · rintro ⟨⟨a1, a2, a3⟩, -, a5⟩
        have tk := (cR_tk h.2.1 h.2.2.1 (k := k + 1) (by omega) a1 c1 c2).mp a2
        rw [xlv_t (by omega) a2, show k + 1 - 1 = k by omega] at a3
        exact ⟨⟨a1, a5, tk.2, tk.1⟩, fun z => a3 z.symm⟩
    rw [bI_t (hno.mpr f.2)]
    by_cases g : hd ∧ rwh s k c v
    · have y := hw.mp g.2
      rw [if_pos g, bI_t (show hd ∧ xnh X (k + 1) c (xlm X v c) from ⟨g.1, y.1⟩), if_pos ⟨by decide, by omega, by have := hnx y.2.1; omega⟩]
      exact ⟨rfl, fun z => absurd z (by decide)⟩
    · rw [if_neg g]
      have hb0 := bI_01 (hd ∧ xnh X (k + 1) c (xlm X v c))
      rw [if_neg (fun z => g (by
        have z1 : hd ∧ xnh X (k + 1) c (xlm X v c) := bI_ne (by omega)
        have := hnx (by omega)
        exact ⟨z1.1, hw.mpr ⟨z1.2, by omega, by omega⟩⟩)), if_pos (by omega)]
      exact ⟨rfl, fun z => absurd z (by decide)⟩
  · rw [if_neg f]
    have h5 : 0 ≤ rgv s (s (18 + 12 * k)) c ∨ s 1 < 60 := by omega
    have hY := cS_gi h k1 k2 c1 c2 v1 v2 p1 p2 h5
    have t0 := rgi_0 h.2.1.1 (s (18 + 12 * k)) c v p
    have t1 := rgi_1 h.2.1.1 (s (18 + 12 * k)) c v p
    have tcg : rgi s (s (18 + 12 * k)) c v p 1 = s 1 + bI (X (7 + 5 * k + 3) c = -2) := by
      rw [t1]
      by_cases q : rgv s (s (18 + 12 * k)) c < 0
      · rw [if_pos q, bI_t (hno.mpr q)]
      · rw [if_neg q, bI_f (fun z => q (hno.mp z)), Int.add_zero]
    have ht60 := hY.2.1.1.2.2.2.2
    by_cases d : hd
    · rw [if_pos d]
      have tp : k + 1 < s 0 → rgi s (s (18 + 12 * k)) c v p (18 + 12 * (k + 1) + 3) = s (18 + 12 * (k + 1) + 3) := fun z => rgi_ne h.2.1.1 h5 (by omega) (by
        have := rgv_R h.2.1.1 (s (18 + 12 * k)) c
        unfold rgk
        split <;> omega)
      have hh := cS_hold1 h hY (lv := lv) k1 k2 t0 c1 c2 (fun j j1 => xpi_b k1 j1) (xpi_h k1) (fun j d j1 hq => xpi_o k1 j1 hq) (H := xnh X (k + 1) c (xlm X v c)) (by rw [xpi_klv k1 (by omega)]; exact hxn)
      obtain ⟨w1, w2, w3, w4⟩ := hh
      by_cases P : xnh X (k + 1) c (xlm X v c)
      · have y := hxn.mp P
        have hx3 := hnx y.1
        have tp := tp y.1
        rw [tp] at w1 w3 w4
        rw [bI_t (show hd ∧ xnh X (k + 1) c (xlm X v c) from ⟨d, P⟩)]
        by_cases pr : s (18 + 12 * (k + 1) + 3) = 1
        · rw [if_pos ⟨by decide, by omega, by omega⟩]
          exact ⟨w1 P pr, fun z => absurd z (by decide)⟩
        · rw [if_neg (fun z => by have := z.2.2; omega)]
          by_cases q : 60 < rgi s (s (18 + 12 * k)) c v p 1 + 1
          · rw [if_pos (by omega)]
            exact ⟨w3 P pr q, fun z => absurd z (by decide)⟩
          · rw [if_neg (by omega)]
            have w := w4 P pr (by omega)
            refine ⟨w.1, fun _ => ⟨?_, rfl, ?_⟩⟩
            · rw [← xgi_y (show hd ∧ xnh X (k + 1) c (xlm X v c) from ⟨d, P⟩)]
              exact w.2
            · have z1 := cR_n w.2.2.2.1
              rw [xpi_N (by omega), xpi_N k1, hn] at z1
              exact z1.symm
      · rw [bI_f (fun z => P z.2), if_neg (fun z => absurd z.1 (by decide)), if_neg (by omega), w2 P]
        exact ⟨rfl, fun _ => ⟨by rw [← xgi_n (fun z => P z.2)]; exact hY, rfl, t0⟩⟩
    · rw [if_neg d, bI_f (fun z => d z.1), if_neg (fun z => absurd z.1 (by decide)), if_neg (by omega)]
      exact ⟨rfl, fun _ => ⟨by rw [← xgi_n (fun z => d z.1)]; exact hY, rfl, t0⟩⟩
theorem xde_klv {k c : Int} (k1 : 0 ≤ k) (hb : X (7 + 5 * k) 2 = 0 ∨ X (7 + 5 * k) 2 = 1) : xlv (xde X k c) k c = xlw X k c := by
  unfold xlw
  have hbl : xde X k c (7 + 5 * k) = X (7 + 5 * k) := xde_q (by omega) (by omega) (by omega) (by omega)
  by_cases e : X (7 + 5 * k) 2 = 0
  · rw [if_pos e, xlv_t k1 ⟨by rw [hbl]; exact e, by rw [xde_3 k1, if_pos rfl]⟩]
    refine xlv_cong (by rw [xde_q (by omega) (by omega) (by omega) (by omega)]) (fun j j1 j2 => ⟨by rw [xde_q (by omega) (by omega) (by omega) (by omega)], by rw [xde_q (by omega) (by omega) (by omega) (by omega)]⟩)
  · rw [if_neg e, xlv_n k1 (fun z => e (by have := z.1; rw [hbl] at this; exact this)), xde_3 k1, if_pos rfl]
    unfold xlm
    rw [if_neg (by decide), xde_q (by omega) (by omega) (by omega) (by omega)]
theorem xlw_none {k c : Int} (k1 : 0 ≤ k) (h : X (7 + 5 * k + 3) c = -2) : xlv X k c = xlw X k c := by
  unfold xlw
  by_cases e : X (7 + 5 * k) 2 = 0
  · rw [if_pos e, xlv_t k1 ⟨e, h⟩]
  · rw [if_neg e, xlv_n k1 (fun z => e z.1), h]
    rfl
theorem cS_take (h : cS X s) {lv : Int → Int} {k c : Int} (k1 : 0 ≤ k) (k2 : k < s 0) (c1 : 0 ≤ c) (c2 : c ≤ 11) {hd : Prop} [Decidable hd] :
    (rTh s lv (s (18 + 12 * k)) c hd).1 = xrT X k c hd ∧ (xrT X k c hd = 0 → cS (xta X k c hd) (rTh s lv (s (18 + 12 * k)) c hd).2.1 ∧ (rTh s lv (s (18 + 12 * k)) c hd).2.2 = rkl s lv (12 * s 0) ∧ (rTh s lv (s (18 + 12 * k)) c hd).2.1 0 = s 0) := by
  have hu := rpl_uq h.2.1 k1 k2
  have hn := cR_n h.2.2.1
  have hm := cR_m h.2.2.1
  have hb := h.2.1.1.2
  have hno := cR_no h.2.1 h.2.2.1 k1 k2 c1 c2
  have hp3 := (h.2.2.1.2.2.1 k k1 k2).2.2
  have hp01 := (h.2.1.2.1 k k1 k2).2.2
  have hnx : k + 1 < s 0 → X (7 + 5 * (k + 1)) 3 = s (18 + 12 * (k + 1) + 3) ∧ (s (18 + 12 * (k + 1) + 3) = 0 ∨ s (18 + 12 * (k + 1) + 3) = 1) := fun z => ⟨(h.2.2.1.2.2.1 (k + 1) (by omega) z).2.2.2, (h.2.1.2.1 (k + 1) (by omega) z).2.2.2⟩
  have hxn : xnh X (k + 1) c (xlw X k c) ↔ (k + 1 < s 0 ∧ xtk X (k + 1) c ∧ ¬ xlv X (k + 1) c = xlw X k c) := by
    unfold xnh
    rw [hn]
  unfold rTh xrT xrf
  rw [hu]
  by_cases e : s (18 + 12 * k + 3) = 1
  · rw [if_pos e, if_pos (show ¬ X (7 + 5 * k) 3 = 0 by omega), if_pos (by decide)]
    exact ⟨rfl, fun z => absurd z (by decide)⟩
  rw [if_neg e, if_neg (show ¬ ¬ X (7 + 5 * k) 3 = 0 by omega)]
  by_cases f : rgv s (s (18 + 12 * k)) c < 0
  · have f2 := hno.mpr f
    have P : ¬ xnh X (k + 1) c (xlw X k c) := fun z => by
      have y := hxn.mp z
      refine y.2.2 ?_
      rw [xlv_t (by omega) y.2.1, show k + 1 - 1 = k by omega]
      exact xlw_none k1 f2
    rw [if_pos f, bI_f (fun z => P z.2), if_pos f2, if_neg (show ¬ (0 < (0 : Int) ∧ k + 1 < X 1 1 ∧ ¬ X (7 + 5 * (k + 1)) 3 = 0) from fun z => absurd z.1 (by decide)), if_neg (show ¬ 60 < X 1 5 + 0 + 0 by omega), if_neg (show ¬ ¬ (0 : Int) = 0 by decide), if_pos f2]
    exact ⟨rfl, fun z => absurd z (by decide)⟩
  · have f2 : ¬ X (7 + 5 * k + 3) c = -2 := fun z => f (hno.mp z)
    rw [if_neg f, if_neg f2, if_neg f2]
    have hv := rgv_val (s := s) (cue := s (18 + 12 * k)) (ch := c) (by omega)
    have hY := cS_ta h k1 k2 c1 c2 (by omega)
    have t0 := rta_0 (s := s) (k := rgv s (s (18 + 12 * k)) c) (by omega)
    have t1 := rta_1 (s := s) (k := rgv s (s (18 + 12 * k)) c) (by omega)
    by_cases d : hd
    · rw [if_pos d]
      have hh := cS_hold1 h hY (lv := lv) k1 k2 t0 c1 c2 (fun j j1 => by rw [xde_q (by omega) (by omega) (by omega) (by omega)]) (xde_q (by omega) (by omega) (by omega) (by omega)) (fun j d j1 hq => by
        by_cases q : j = k
        · subst q
          rw [xde_3 k1, if_neg (by omega)]
        · rw [xde_q (by omega) (by omega) (by omega) (by omega)]) (H := xnh X (k + 1) c (xlw X k c)) (by rw [xde_klv k1 (by omega)]; exact hxn)
      obtain ⟨w1, w2, w3, w4⟩ := hh
      by_cases P : xnh X (k + 1) c (xlw X k c)
      · have y := hxn.mp P
        have hx3 := hnx y.1
        have tp : rta s (rgv s (s (18 + 12 * k)) c) (18 + 12 * (k + 1) + 3) = s (18 + 12 * (k + 1) + 3) := rta_lo (by omega) (by omega)
        rw [tp] at w1 w3 w4
        rw [bI_t (show hd ∧ xnh X (k + 1) c (xlw X k c) from ⟨d, P⟩)]
        by_cases pr : s (18 + 12 * (k + 1) + 3) = 1
        · rw [if_pos (show 0 < (1 : Int) ∧ k + 1 < X 1 1 ∧ ¬ X (7 + 5 * (k + 1)) 3 = 0 from ⟨by decide, by omega, by omega⟩), if_pos (by decide)]
          exact ⟨w1 P pr, fun z => absurd z (by decide)⟩
        · rw [if_neg (show ¬ (0 < (1 : Int) ∧ k + 1 < X 1 1 ∧ ¬ X (7 + 5 * (k + 1)) 3 = 0) from fun z => by have := z.2.2; omega), if_neg (show ¬ 60 < X 1 5 + -1 + 1 by omega), if_neg (by decide)]
          have w := w4 P pr (by omega)
          refine ⟨w.1, fun _ => ⟨?_, rfl, ?_⟩⟩
          · rw [← xta_y (show hd ∧ xnh X (k + 1) c (xlw X k c) from ⟨d, P⟩)]
            exact w.2
          · have z1 := cR_n w.2.2.2.1
            rw [xpi_N (by omega), xde_N, hn] at z1
            exact z1.symm
      · rw [bI_f (fun z => P z.2), if_neg (show ¬ (0 < (0 : Int) ∧ k + 1 < X 1 1 ∧ ¬ X (7 + 5 * (k + 1)) 3 = 0) from fun z => absurd z.1 (by decide)), if_neg (show ¬ 60 < X 1 5 + -1 + 0 by omega), if_neg (by decide), w2 P]
        exact ⟨rfl, fun _ => ⟨by rw [← xta_n (fun z => P z.2)]; exact hY, rfl, t0⟩⟩
    · rw [if_neg d, bI_f (fun z => d z.1), if_neg (show ¬ (0 < (0 : Int) ∧ k + 1 < X 1 1 ∧ ¬ X (7 + 5 * (k + 1)) 3 = 0) from fun z => absurd z.1 (by decide)), if_neg (show ¬ 60 < X 1 5 + -1 + 0 by omega), if_neg (by decide)]
      exact ⟨rfl, fun _ => ⟨by rw [← xta_n (fun z => d z.1)]; exact hY, rfl, t0⟩⟩
/-- in how many cues the level is changed -/
theorem cf_run {c N : Int} : ∀ (m : Nat) (k : Int), 1 ≤ k → (m : Int) = N - k → (¬ xlv Y (k - 1) c = xlv X (k - 1) c) →
    (∀ j : Int, k ≤ j → j < N → (xtk Y j c ∧ xlv X j c = xlv X (j - 1) c) ∨ (¬ xtk Y j c ∧ xlv Y j c = xlv X j c)) →
    zsum (fun j => bI (¬ xlv Y j c = xlv X j c)) N.toNat = zsum (fun j => bI (¬ xlv Y j c = xlv X j c)) k.toNat + xrun Y c m k
  | 0, k, k1, hm, _, _ => by
    show _ = _ + 0
    rw [Int.add_zero, show N.toNat = k.toNat by omega]
  | m + 1, k, k1, hm, hne, h => by
    have e : xrun Y c (m + 1) k = if xtk Y k c then 1 + xrun Y c m (k + 1) else 0 := rfl
    rw [e]
    rcases h k (Int.le_refl _) (by omega) with ⟨a1, a2⟩ | ⟨a1, a2⟩
    · rw [if_pos a1]
      have hne2 : ¬ xlv Y k c = xlv X k c := by rw [xlv_t (by omega) a1, a2]; exact hne
      have ih := cf_run m (k + 1) (by omega) (by omega) (by rw [show k + 1 - 1 = k by omega]; exact hne2) (fun j j1 j2 => h j (by omega) j2)
      rw [ih, zsum_s (by omega), bI_t hne2]
      omega
    · rw [if_neg a1, Int.add_zero]
      -- from here on all are equal
      have all : ∀ (q : Nat), k + q < N → xlv Y (k + q) c = xlv X (k + q) c := by
        intro q
        induction q with
        | zero => intro _; rw [show k + ((0 : Nat) : Int) = k by omega]; exact a2
        | succ q ih =>
          intro hq
          have ih := ih (by omega)
          rcases h (k + ((q + 1 : Nat) : Int)) (by omega) hq with ⟨b1, b2⟩ | ⟨b1, b2⟩
          · rw [xlv_t (by omega) b1, b2, show k + ((q + 1 : Nat) : Int) - 1 = k + (q : Int) by omega]; exact ih
          · exact b2
      have sum : ∀ (q : Nat), k + q ≤ N → zsum (fun j => bI (¬ xlv Y j c = xlv X j c)) (k + q).toNat = zsum (fun j => bI (¬ xlv Y j c = xlv X j c)) k.toNat := by
        intro q
        induction q with
        | zero => intro _; rw [show k + ((0 : Nat) : Int) = k by omega]
        | succ q ih =>
          intro hq
          have ih := ih (by omega)
          rw [show k + ((q + 1 : Nat) : Int) = k + (q : Int) + 1 by omega, zsum_s (by omega), ih, bI_f (fun z => z (all q (by omega))), Int.add_zero]
      have := sum (m + 1) (by omega)
      rw [show k + ((m + 1 : Nat) : Int) = N by omega] at this
      exact this
theorem cf_sum {c N i : Int} (i0 : 0 ≤ i) (i2 : i < N) (hY : Y 1 1 = N) (hA : ∀ k : Int, 0 ≤ k → k < i → xlv Y k c = xlv X k c)
    (hB : ∀ j : Int, i < j → j < N → (xtk Y j c ∧ xlv X j c = xlv X (j - 1) c) ∨ (¬ xtk Y j c ∧ xlv Y j c = xlv X j c)) : zsum (fun j => bI (¬ xlv Y j c = xlv X j c)) N.toNat = xcf Y (xlv X i c) i c := by
  have h0 : zsum (fun j => bI (¬ xlv Y j c = xlv X j c)) i.toNat = 0 := (zsum_congr i.toNat (fun k k1 k2 => bI_f (fun z => z (hA k k1 (by omega))))).trans (zsum_zero _)
  unfold xcf
  rw [hY]
  by_cases e : xlv Y i c = xlv X i c
  · rw [if_pos e]
    have all : ∀ (q : Nat), i + q < N → xlv Y (i + q) c = xlv X (i + q) c := by
      intro q
      induction q with
      | zero => intro _; rw [show i + ((0 : Nat) : Int) = i by omega]; exact e
      | succ q ih =>
        intro hq
        have ih := ih (by omega)
        rcases hB (i + ((q + 1 : Nat) : Int)) (by omega) hq with ⟨b1, b2⟩ | ⟨b1, b2⟩
        · rw [xlv_t (by omega) b1, b2, show i + ((q + 1 : Nat) : Int) - 1 = i + (q : Int) by omega]; exact ih
        · exact b2
    refine (zsum_congr N.toNat (fun k k1 k2 => bI_f (fun z => z ?_))).trans (zsum_zero _)
    by_cases q : k < i
    · exact hA k k1 q
    · have := all (k - i).toNat (by omega)
      rw [show i + (((k - i).toNat : Nat) : Int) = k by omega] at this
      exact this
  · rw [if_neg e]
    have r := cf_run (X := X) (Y := Y) (c := c) (N := N) (N - (i + 1)).toNat (i + 1) (by omega) (by omega) (by rw [show i + 1 - 1 = i by omega]; exact e) (fun j j1 j2 => hB j (by omega) j2)
    rw [r, zsum_s i0, h0, bI_t e]
    omega
end rel
