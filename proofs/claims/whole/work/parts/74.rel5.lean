/-! what a show says: instructions come and go -/
section rel
variable {X Y : Int → Int → Int} {s t : Int → Int}
abbrev cE1 (Y : Int → Int → Int) (t : Int → Int) : Prop := ∀ q : Int, 0 ≤ q → q < t 1 → ∀ j : Int, 0 ≤ j → j < t 0 → t (18 + 12 * j) = t (162 + 4 * q) → Y (7 + 5 * j + 3) (t (162 + 4 * q + 1)) = t (162 + 4 * q + 2) ∧ Y (7 + 5 * j + 4) (t (162 + 4 * q + 1)) = t (162 + 4 * q + 3)
abbrev cE2 (Y : Int → Int → Int) (t : Int → Int) : Prop := ∀ j c : Int, 0 ≤ j → j < t 0 → 0 ≤ c → c ≤ 11 → (∀ q : Int, 0 ≤ q → q < t 1 → ¬ (t (162 + 4 * q) = t (18 + 12 * j) ∧ t (162 + 4 * q + 1) = c)) → Y (7 + 5 * j + 3) c = -2
abbrev cE0 (Y : Int → Int → Int) (t : Int → Int) : Prop := ∀ k c : Int, 0 ≤ k → k < t 0 → 0 ≤ c → c ≤ 11 → (rgv t (t (18 + 12 * k)) c < 0 ∧ Y (7 + 5 * k + 3) c = -2) ∨ (0 ≤ rgv t (t (18 + 12 * k)) c ∧ Y (7 + 5 * k + 3) c = t (162 + 4 * rgv t (t (18 + 12 * k)) c + 2) ∧ Y (7 + 5 * k + 4) c = t (162 + 4 * rgv t (t (18 + 12 * k)) c + 3))
theorem cE_0 (h1 : cE1 Y t) (h2 : cE2 Y t) : cE0 Y t := by
  intro k c k1 k2 c1 c2
  by_cases g : 0 ≤ rgv t (t (18 + 12 * k)) c
  · have hv := rgv_val g
    have := h1 _ g hv.2 k k1 k2 hv.1.1.symm
    rw [hv.1.2] at this
    exact Or.inr ⟨g, this⟩
  · exact Or.inl ⟨by omega, h2 k c k1 k2 c1 c2 (fun q q1 q2 z => rgv_no (by omega) q1 q2 z)⟩
theorem cE_1 (hi : rI s) (hc : cR X s) : cE1 X s := by
  intro q q1 q2 j j1 j2 e
  have hl := hi.2.2.2.2.1 q q1 q2
  have hg := rgv_at hi q1 q2
  rcases hc.2.2.2.2.2.1 j (s (162 + 4 * q + 1)) j1 j2 hl.2.1.1 hl.2.1.2 with hd | hd
  · rw [e, hg] at hd; omega
  · rw [e, hg] at hd; exact hd.2
theorem cE_2 (hi : rI s) (hc : cR X s) : cE2 X s := by
  intro j c j1 j2 c1 c2 h
  rcases hc.2.2.2.2.2.1 j c j1 j2 c1 c2 with hd | hd
  · exact hd.2
  · have hv := rgv_val hd.1
    exact absurd hv.1 (h _ hd.1 hv.2)
theorem rnum_in (hi : rI s) {j k : Int} (j1 : 0 ≤ j) (j2 : j < s 0) (k1 : 0 ≤ k) (k2 : k < s 0) (e : s (18 + 12 * j) = s (18 + 12 * k)) : j = k := by
  have h1 := rpl_uq hi j1 j2
  have h2 := rpl_uq hi k1 k2
  rw [e] at h1
  omega
/-- a give -/
theorem xpi_1 {k c v p q : Int} (k1 : 0 ≤ k) (h1 : ¬ q = 7 + 5 * k + 3) (h2 : ¬ q = 7 + 5 * k + 4) (h3 : ¬ q = 1) (h4 : ¬ q = 4) (h5 : ¬ q = 5) : xpi X k c v p q = X q := by
  funext j
  unfold xpi
  rw [if_neg (by omega), if_neg (by omega)]
  split
  · rw [if_neg (by omega), if_neg (by omega), if_neg (by omega)]
  · rfl
theorem xpi_c3 {k c v p j : Int} : xpi X k c v p (7 + 5 * k + 3) j = if j = c then v else if X (7 + 5 * k + 3) c = -2 ∧ X 1 5 < 60 then (if 7 + 5 * k + 3 = 4 ∧ j = X 1 5 then X (7 + 5 * k) 0 else if 7 + 5 * k + 3 = 5 ∧ j = X 1 5 then c else if 7 + 5 * k + 3 = 1 ∧ j = 5 then X 1 5 + 1 else X (7 + 5 * k + 3) j) else X (7 + 5 * k + 3) j := by
  unfold xpi
  by_cases e : j = c
  · rw [if_pos ⟨rfl, e⟩, if_pos e]
  · rw [if_neg (fun z => e z.2), if_neg e, if_neg (by omega)]
theorem xpi_t3 {k c v p j : Int} (k1 : 0 ≤ k) : xpi X k c v p (7 + 5 * k + 3) j = if j = c then v else X (7 + 5 * k + 3) j := by
  rw [xpi_c3]
  by_cases e : j = c
  · rw [if_pos e, if_pos e]
  · rw [if_neg e, if_neg e]
    split
    · rw [if_neg (by omega), if_neg (by omega), if_neg (by omega)]
    · rfl
theorem xpi_t4 {k c v p j : Int} (k1 : 0 ≤ k) : xpi X k c v p (7 + 5 * k + 4) j = if j = c then p else X (7 + 5 * k + 4) j := by
  unfold xpi
  rw [if_neg (by omega)]
  by_cases e : j = c
  · rw [if_pos ⟨rfl, e⟩, if_pos e]
  · rw [if_neg (fun z => e z.2), if_neg e]
    split
    · rw [if_neg (by omega), if_neg (by omega), if_neg (by omega)]
    · rfl
theorem xpi_old {k c v p q j : Int} (h : ¬ X (7 + 5 * k + 3) c = -2) (h1 : ¬ q = 7 + 5 * k + 3) (h2 : ¬ q = 7 + 5 * k + 4) : xpi X k c v p q j = X q j := by
  unfold xpi
  rw [if_neg (by omega), if_neg (by omega), if_neg (fun z => h z.1)]
theorem xpi_new {k c v p : Int} (k1 : 0 ≤ k) (h : X (7 + 5 * k + 3) c = -2) (h60 : X 1 5 < 60) : (∀ j, xpi X k c v p 4 j = if j = X 1 5 then X (7 + 5 * k) 0 else X 4 j) ∧ (∀ j, xpi X k c v p 5 j = if j = X 1 5 then c else X 5 j) ∧ xpi X k c v p 1 5 = X 1 5 + 1 := by
  refine ⟨fun j => ?_, fun j => ?_, ?_⟩
  · unfold xpi
    rw [if_neg (by omega), if_neg (by omega), if_pos ⟨h, h60⟩]
    by_cases e : j = X 1 5
    · rw [if_pos ⟨rfl, e⟩, if_pos e]
    · rw [if_neg (fun z => e z.2), if_neg (by omega), if_neg (by omega), if_neg e]
  · unfold xpi
    rw [if_neg (by omega), if_neg (by omega), if_pos ⟨h, h60⟩]
    by_cases e : j = X 1 5
    · rw [if_neg (by omega), if_pos ⟨rfl, e⟩, if_pos e]
    · rw [if_neg (by omega), if_neg (fun z => e z.2), if_neg (by omega), if_neg e]
  · unfold xpi
    rw [if_neg (by omega), if_neg (by omega), if_pos ⟨h, h60⟩, if_neg (by omega), if_neg (by omega), if_pos ⟨rfl, rfl⟩]
theorem cS_gi (h : cS X s) {k c v p : Int} (k1 : 0 ≤ k) (k2 : k < s 0) (c1 : 0 ≤ c) (c2 : c ≤ 11) (v1 : -1 ≤ v) (v2 : v ≤ 100) (p1 : 0 ≤ p) (p2 : p ≤ 3) (h5 : 0 ≤ rgv s (s (18 + 12 * k)) c ∨ s 1 < 60) : cS (xpi X k c v p) (rgi s (s (18 + 12 * k)) c v p) := by
  obtain ⟨hR, hi, hc, h6⟩ := h
  have hb := hi.1.2
  have hn := cR_n hc
  have hm := cR_m hc
  have hg := rgv_R hi.1 (s (18 + 12 * k)) c
  have hu := rpl_uq hi k1 k2
  have hI2 := rgi_I hi (cue := s (18 + 12 * k)) (by rw [hu]; exact k1) c1 c2 v1 v2 p1 p2 h5
  have hno := cR_no hi hc k1 k2 c1 c2
  have hnum := (hc.2.2.1 k k1 k2).1
  have e1 := cE_1 hi hc
  have e2 := cE_2 hi hc
  have ha := rgi_at (s := s) (cue := s (18 + 12 * k)) (ch := c) (lev := v) (part := p)
  have hne : ∀ i : Int, i ≠ 1 → ¬ (162 + 4 * rgk s (s (18 + 12 * k)) c ≤ i ∧ i < 162 + 4 * rgk s (s (18 + 12 * k)) c + 4) → rgi s (s (18 + 12 * k)) c v p i = s i := fun i i1 i2 => rgi_ne hi.1 h5 i1 i2
  have h1t := rgi_1 hi.1 (s (18 + 12 * k)) c v p
  have hR2 : ∀ i j, zR (xpi X k c v p i j) := xpi_R hR (by omega) (by omega) (by omega) (by omega)
  generalize ht : rgi s (s (18 + 12 * k)) c v p = t at *
  have hx : ∀ q : Int, ¬ q = 7 + 5 * k + 3 → ¬ q = 7 + 5 * k + 4 → ¬ q = 1 → ¬ q = 4 → ¬ q = 5 → xpi X k c v p q = X q := fun q a b d e f => xpi_1 k1 a b d e f
  have hx11 : xpi X k c v p 1 1 = X 1 1 := xpi_N k1
  have x67 := hx 67 (by omega) (by omega) (by decide) (by decide) (by decide)
  have hsi : xsi (xpi X k c v p) = xsi X := by unfold xsi; rw [x67]
  by_cases g : 0 ≤ rgv s (s (18 + 12 * k)) c
  · -- there already
    have hk : rgk s (s (18 + 12 * k)) c = rgv s (s (18 + 12 * k)) c := if_neg (by omega)
    have hv := rgv_val g
    rw [hk] at ha hne
    rw [if_neg (by omega)] at h1t
    have hold : ∀ q j : Int, ¬ q = 7 + 5 * k + 3 → ¬ q = 7 + 5 * k + 4 → xpi X k c v p q j = X q j := fun q j a b => xpi_old (fun z => by have := hno.mp z; omega) a b
    have hl : ∀ q : Int, 0 ≤ q → q < s 1 → t (162 + 4 * q) = s (162 + 4 * q) ∧ t (162 + 4 * q + 1) = s (162 + 4 * q + 1) := fun q q1 q2 => by
      by_cases e : q = rgv s (s (18 + 12 * k)) c
      · rw [e, ha.1, ha.2.1, hv.1.1, hv.1.2]; exact ⟨rfl, rfl⟩
      · rw [hne _ (by omega) (by omega), hne _ (by omega) (by omega)]; exact ⟨rfl, rfl⟩
    have t0 := hne 0 (by decide) (by omega)
    refine ⟨hR2, hI2, ⟨?_, ?_, ?_, ?_, ?_, cE_0 ?_ ?_, ?_⟩, by rw [x67]; exact h6⟩
    · rw [hx11, hold 1 5 (by omega) (by omega), hsi, x67, t0, h1t, hne 2 (by decide) (by omega), hne 3 (by decide) (by omega), hne 4 (by decide) (by omega), hne 5 (by decide) (by omega)]
      exact hc.1
    · intro d d1 d2
      rw [hx 3 (by omega) (by omega) (by decide) (by decide) (by decide), hne _ (by omega) (by omega)]; exact hc.2.1 d d1 d2
    · intro j j1 j2
      rw [t0] at j2
      rw [hx _ (by omega) (by omega) (by omega) (by omega) (by omega), hne _ (by omega) (by omega), hne _ (by omega) (by omega), hne _ (by omega) (by omega), hne _ (by omega) (by omega)]; exact hc.2.2.1 j j1 j2
    · intro j q j1 j2 q1 q2
      rw [t0] at j2
      rw [hx _ (by omega) (by omega) (by omega) (by omega) (by omega), hx _ (by omega) (by omega) (by omega) (by omega) (by omega), hne _ (by omega) (by omega), hne _ (by omega) (by omega)]; exact hc.2.2.2.1 j q j1 j2 q1 q2
    · intro q q1 q2
      rw [h1t] at q2
      rw [hold 4 q (by omega) (by omega), hold 5 q (by omega) (by omega), (hl q q1 q2).1, (hl q q1 q2).2]; exact hc.2.2.2.2.1 q q1 q2
    · intro q q1 q2 j j1 j2 e
      rw [h1t] at q2
      rw [t0] at j2
      rw [hne (18 + 12 * j) (by omega) (by omega), (hl q q1 q2).1] at e
      rw [(hl q q1 q2).2]
      by_cases eq : q = rgv s (s (18 + 12 * k)) c
      · have ej : j = k := rnum_in hi j1 j2 k1 k2 (by rw [e, eq, hv.1.1])
        subst ej
        rw [eq, ha.2.2.1, ha.2.2.2, hv.1.2, xpi_t3 k1, xpi_t4 k1, if_pos rfl, if_pos rfl]
        exact ⟨rfl, rfl⟩
      · rw [hne _ (by omega) (by omega), hne _ (by omega) (by omega)]
        have z := e1 q q1 q2 j j1 j2 e
        by_cases ej : j = k
        · subst ej
          have ec : ¬ s (162 + 4 * q + 1) = c := fun y => by
            have w := rgv_at hi q1 q2
            rw [← e, y] at w
            exact eq w.symm
          rw [xpi_t3 k1, xpi_t4 k1, if_neg ec, if_neg ec]; exact z
        · rw [hx _ (by omega) (by omega) (by omega) (by omega) (by omega), hx _ (by omega) (by omega) (by omega) (by omega) (by omega)]; exact z
    · intro j d j1 j2 d1 d2 hq
      rw [t0] at j2
      rw [h1t, hne (18 + 12 * j) (by omega) (by omega)] at hq
      have z := e2 j d j1 j2 d1 d2 (fun q q1 q2 y => hq q q1 q2 (by rw [(hl q q1 q2).1, (hl q q1 q2).2]; exact y))
      by_cases ej : j = k
      · subst ej
        have ed : ¬ d = c := fun y => hq _ g hv.2 (by rw [(hl _ g hv.2).1, (hl _ g hv.2).2, hv.1.1, hv.1.2, y]; exact ⟨rfl, rfl⟩)
        rw [xpi_t3 k1, if_neg ed]; exact z
      · rw [hx _ (by omega) (by omega) (by omega) (by omega) (by omega)]; exact z
    · intro d d1 d2
      rw [x67, hx _ (by omega) (by omega) (by omega) (by omega) (by omega), hx _ (by omega) (by omega) (by omega) (by omega) (by omega), hx _ (by omega) (by omega) (by omega) (by omega) (by omega), hx _ (by omega) (by omega) (by omega) (by omega) (by omega), hx _ (by omega) (by omega) (by omega) (by omega) (by omega), hne _ (by omega) (by omega), hne _ (by omega) (by omega), hne _ (by omega) (by omega), hne _ (by omega) (by omega), hne _ (by omega) (by omega)]
      exact hc.2.2.2.2.2.2 d d1 d2
  · -- a new one
    have hk : rgk s (s (18 + 12 * k)) c = s 1 := if_pos (by omega)
    have h60 : s 1 < 60 := by omega
    rw [hk] at ha hne
    rw [if_pos (by omega)] at h1t
    obtain ⟨n4, n5, n1⟩ := xpi_new (X := X) (c := c) (v := v) (p := p) k1 (hno.mpr (by omega)) (by omega)
    have t0 := hne 0 (by decide) (by omega)
    have hl : ∀ q r : Int, 0 ≤ q → q < s 1 → 0 ≤ r → r ≤ 3 → t (162 + 4 * q + r) = s (162 + 4 * q + r) := fun q r q1 q2 r1 r2 => hne _ (by omega) (by omega)
    have hl0 : ∀ q : Int, 0 ≤ q → q < s 1 → t (162 + 4 * q) = s (162 + 4 * q) := fun q q1 q2 => hne _ (by omega) (by omega)
    refine ⟨hR2, hI2, ⟨?_, ?_, ?_, ?_, ?_, cE_0 ?_ ?_, ?_⟩, by rw [x67]; exact h6⟩
    · rw [hx11, n1, hsi, x67, t0, h1t, hne 2 (by decide) (by omega), hne 3 (by decide) (by omega), hne 4 (by decide) (by omega), hne 5 (by decide) (by omega), hm]
      exact ⟨hc.1.1, rfl, hc.1.2.2⟩
    · intro d d1 d2
      rw [hx 3 (by omega) (by omega) (by decide) (by decide) (by decide), hne _ (by omega) (by omega)]; exact hc.2.1 d d1 d2
    · intro j j1 j2
      rw [t0] at j2
      rw [hx _ (by omega) (by omega) (by omega) (by omega) (by omega), hne _ (by omega) (by omega), hne _ (by omega) (by omega), hne _ (by omega) (by omega), hne _ (by omega) (by omega)]; exact hc.2.2.1 j j1 j2
    · intro j q j1 j2 q1 q2
      rw [t0] at j2
      rw [hx _ (by omega) (by omega) (by omega) (by omega) (by omega), hx _ (by omega) (by omega) (by omega) (by omega) (by omega), hne _ (by omega) (by omega), hne _ (by omega) (by omega)]; exact hc.2.2.2.1 j q j1 j2 q1 q2
    · intro q q1 q2
      rw [h1t] at q2
      rw [n4, n5, hm]
      by_cases e : q = s 1
      · rw [if_pos e, if_pos e, e, ha.1, ha.2.1, hnum]; exact ⟨rfl, rfl⟩
      · rw [if_neg e, if_neg e, hl0 q q1 (by omega), hl q 1 q1 (by omega) (by decide) (by decide)]; exact hc.2.2.2.2.1 q q1 (by omega)
    · intro q q1 q2 j j1 j2 e
      rw [h1t] at q2
      rw [t0] at j2
      rw [hne (18 + 12 * j) (by omega) (by omega)] at e
      by_cases eq : q = s 1
      · subst eq
        rw [ha.1] at e
        have ej : j = k := rnum_in hi j1 j2 k1 k2 e
        subst ej
        rw [ha.2.1, ha.2.2.1, ha.2.2.2, xpi_t3 k1, xpi_t4 k1, if_pos rfl, if_pos rfl]
        exact ⟨rfl, rfl⟩
      · have q3 : q < s 1 := by omega
        rw [hl0 q q1 q3] at e
        rw [hl q 1 q1 q3 (by decide) (by decide), hl q 2 q1 q3 (by decide) (by decide), hl q 3 q1 q3 (by decide) (by decide)]
        have z := e1 q q1 q3 j j1 j2 e
        by_cases ej : j = k
        · subst ej
          have ec : ¬ s (162 + 4 * q + 1) = c := fun y => rgv_no (s := s) (cue := s (18 + 12 * j)) (ch := c) (by omega) q1 q3 ⟨e.symm, y⟩
          rw [xpi_t3 k1, xpi_t4 k1, if_neg ec, if_neg ec]; exact z
        · rw [hx _ (by omega) (by omega) (by omega) (by omega) (by omega), hx _ (by omega) (by omega) (by omega) (by omega) (by omega)]; exact z
    · intro j d j1 j2 d1 d2 hq
      rw [t0] at j2
      rw [h1t, hne (18 + 12 * j) (by omega) (by omega)] at hq
      have z := e2 j d j1 j2 d1 d2 (fun q q1 q2 y => hq q q1 (by omega) (by rw [hl0 q q1 q2, hl q 1 q1 q2 (by decide) (by decide)]; exact y))
      by_cases ej : j = k
      · subst ej
        have ed : ¬ d = c := fun y => hq (s 1) (by omega) (by omega) (by rw [ha.1, ha.2.1, y]; exact ⟨rfl, rfl⟩)
        rw [xpi_t3 k1, if_neg ed]; exact z
      · rw [hx _ (by omega) (by omega) (by omega) (by omega) (by omega)]; exact z
    · intro d d1 d2
      rw [x67, hx _ (by omega) (by omega) (by omega) (by omega) (by omega), hx _ (by omega) (by omega) (by omega) (by omega) (by omega), hx _ (by omega) (by omega) (by omega) (by omega) (by omega), hx _ (by omega) (by omega) (by omega) (by omega) (by omega), hx _ (by omega) (by omega) (by omega) (by omega) (by omega), hne _ (by omega) (by omega), hne _ (by omega) (by omega), hne _ (by omega) (by omega), hne _ (by omega) (by omega), hne _ (by omega) (by omega)]
      exact hc.2.2.2.2.2.2 d d1 d2
/-- a take -/
theorem xdl_one {A B : Int → Int} {n c g : Int} {L : Int} (g0 : 0 ≤ g) (hg : ∀ p : Int, 0 ≤ p → p < L → ((A p = n ∧ B p = c) ↔ p = g)) : ∀ m : Nat, (m : Int) ≤ L → ((m : Int) ≤ g → xdl A B n c m = ((m : Int), A, B)) ∧ (g < (m : Int) → (xdl A B n c m).1 = (m : Int) - 1 ∧ (∀ j, (xdl A B n c m).2.1 j = if g ≤ j ∧ j < (m : Int) - 1 then A (j + 1) else A j) ∧ (∀ j, (xdl A B n c m).2.2 j = if g ≤ j ∧ j < (m : Int) - 1 then B (j + 1) else B j))
  | 0, _ => ⟨fun _ => rfl, fun z => by omega⟩
  | m + 1, hm => by
    obtain ⟨i1, i2⟩ := xdl_one g0 hg m (by omega)
    have hz := hg (m : Int) (by omega) (by omega)
    by_cases e : (m : Int) < g
    · have i := i1 (by omega)
      have hn : ¬ ((m : Int) = g) := by omega
      refine ⟨fun _ => ?_, fun z => by omega⟩
      unfold xdl
      rw [i]
      show (if ¬ A (m : Int) = n ∨ ¬ B (m : Int) = c then _ else _) = _
      rw [if_pos (by
        by_cases a : A (m : Int) = n
        · by_cases b : B (m : Int) = c
          · exact absurd (hz.mp ⟨a, b⟩) hn
          · exact Or.inr b
        · exact Or.inl a)]
      show ((m : Int) + 1, zu A (m : Int) (A (m : Int)), zu B (m : Int) (B (m : Int))) = _
      rw [zu_id, zu_id]
      rfl
    · by_cases e2 : (m : Int) = g
      · have i := i1 (by omega)
        have hy := hz.mpr e2
        refine ⟨fun z => by omega, fun _ => ?_⟩
        have : xdl A B n c (m + 1) = ((m : Int), A, B) := by
          unfold xdl
          rw [i]
          show (if ¬ A (m : Int) = n ∨ ¬ B (m : Int) = c then _ else _) = _
          rw [if_neg (fun z => by rcases z with z | z; exact z hy.1; exact z hy.2)]
        rw [this]
        refine ⟨by show (m : Int) = _; omega, fun j => ?_, fun j => ?_⟩
        · show A j = _
          rw [if_neg (by omega)]
        · show B j = _
          rw [if_neg (by omega)]
      · obtain ⟨j1, j2, j3⟩ := i2 (by omega)
        refine ⟨fun z => by omega, fun _ => ?_⟩
        have hA : (xdl A B n c m).2.1 (m : Int) = A (m : Int) := by rw [j2, if_neg (by omega)]
        have hB : (xdl A B n c m).2.2 (m : Int) = B (m : Int) := by rw [j3, if_neg (by omega)]
        have : xdl A B n c (m + 1) = ((xdl A B n c m).1 + 1, zu (xdl A B n c m).2.1 (xdl A B n c m).1 ((xdl A B n c m).2.1 m), zu (xdl A B n c m).2.2 (xdl A B n c m).1 ((xdl A B n c m).2.2 m)) := by
          show (if ¬ (xdl A B n c m).2.1 m = n ∨ ¬ (xdl A B n c m).2.2 m = c then _ else _) = _
          rw [if_pos (by
            rw [hA, hB]
            by_cases a : A (m : Int) = n
            · by_cases b : B (m : Int) = c
              · exact absurd (hz.mp ⟨a, b⟩) e2
              · exact Or.inr b
            · exact Or.inl a)]
        rw [this, hA, hB, j1]
        refine ⟨by show (m : Int) - 1 + 1 = _; omega, fun j => ?_, fun j => ?_⟩
        · show zu _ _ _ j = _
          rw [zu_app, j2]
          by_cases q : j = (m : Int) - 1
          · rw [if_pos q, if_pos (by omega), q]
            congr 1
            omega
          · rw [if_neg q]
            by_cases q2 : g ≤ j ∧ j < (m : Int) - 1
            · rw [if_pos q2, if_pos (by omega)]
            · rw [if_neg q2, if_neg (by omega)]
        · show zu _ _ _ j = _
          rw [zu_app, j3]
          by_cases q : j = (m : Int) - 1
          · rw [if_pos q, if_pos (by omega), q]
            congr 1
            omega
          · rw [if_neg q]
            by_cases q2 : g ≤ j ∧ j < (m : Int) - 1
            · rw [if_pos q2, if_pos (by omega)]
            · rw [if_neg q2, if_neg (by omega)]
end rel
