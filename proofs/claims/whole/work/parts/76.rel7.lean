/-! what a show says: a cue is added -/
section rel
variable {X Y : Int → Int → Int} {s t : Int → Int}
theorem cR_ip (hi : rI s) (hc : cR X s) {n : Int} (hno : ¬ 0 ≤ rpl s n) : ∀ m : Nat, (m : Int) ≤ s 0 → xip X n m = if (m : Int) ≤ rap s n then (m : Int) else rap s n
  | 0, _ => by
    have := (rap_R hi.1 n).1
    show (0 : Int) = _
    rw [if_pos (by omega)]; rfl
  | m + 1, hm => by
    have ih := cR_ip hi hc hno m (by omega)
    have hp := rap_spec hi.1 n
    have hr := rap_R hi.1 n
    have h0 := (hc.2.2.1 (m : Int) (by omega) (by omega)).1
    have hne : ¬ s (18 + 12 * (m : Int)) = n := fun e => hno (rpl_of (by omega) (by omega) e)
    show (if n < X (7 + 5 * (m : Int)) 0 then xip X n m else (m : Int) + 1) = _
    rw [h0]
    by_cases e : (m : Int) < rap s n
    · have := hp.1 (m : Int) (by omega) e
      rw [if_neg (by omega), if_pos (by omega)]
      omega
    · have h1 := hp.2 (by omega)
      have h2 : ¬ s (18 + 12 * (m : Int)) < n := by
        by_cases e2 : (m : Int) = rap s n
        · rw [e2]; exact h1
        · have := hi.2.2.1 (rap s n) (m : Int) hr.1 (by omega) (by omega)
          omega
      rw [if_pos (by omega), ih]
      by_cases e2 : (m : Int) ≤ rap s n
      · rw [if_pos e2, if_neg (by omega)]; omega
      · rw [if_neg e2, if_neg (by omega)]
theorem xin_lo {n q i : Int} (hq : ¬ (7 ≤ i ∧ i < 67)) (h1 : ¬ i = 1) (n0 : 0 ≤ X 1 1) (n1 : X 1 1 < 12) : xin X n q i = X i := by
  unfold xin zs
  rw [zp_lo hq]
  unfold xinA
  rw [zv_ne _ _ h1, xnw_ne (by omega)]
theorem xin_C {n q k r : Int} (k1 : 0 ≤ k) (k2 : k < 12) (r1 : 0 ≤ r) (r2 : r < 5) : xin X n q (7 + 5 * k + r) = xinA X n (7 + 5 * pI q (X 1 1) k + r) := by
  unfold xin zs
  rw [zp_C k1 k2 r1 r2]
theorem xin_old {n q k r : Int} (k1 : 0 ≤ k) (k2 : k < q) (q2 : q ≤ X 1 1) (n1 : X 1 1 < 12) (r1 : 0 ≤ r) (r2 : r < 5) : xin X n q (7 + 5 * k + r) = X (7 + 5 * k + r) := by
  rw [xin_C k1 (by omega) r1 r2]
  unfold pI xinA
  rw [if_neg (by omega), if_neg (by omega), zv_ne _ _ (by omega), xnw_ne (by omega)]
theorem xin_mv {n q k r : Int} (q1 : 0 ≤ q) (k1 : q < k) (k2 : k ≤ X 1 1) (n1 : X 1 1 < 12) (r1 : 0 ≤ r) (r2 : r < 5) : xin X n q (7 + 5 * k + r) = X (7 + 5 * (k - 1) + r) := by
  rw [xin_C (by omega) (by omega) r1 r2]
  unfold pI xinA
  rw [if_pos ⟨k1, k2⟩, zv_ne _ _ (by omega), xnw_ne (by omega)]
theorem xin_new {n q r : Int} (q1 : 0 ≤ q) (q2 : q ≤ X 1 1) (n1 : X 1 1 < 12) (r1 : 0 ≤ r) (r2 : r < 5) : xin X n q (7 + 5 * q + r) = xnw X (X 1 1) n (7 + 5 * X 1 1 + r) := by
  rw [xin_C q1 (by omega) r1 r2]
  unfold pI xinA
  rw [if_neg (by omega), if_pos rfl, zv_ne _ _ (by omega)]
theorem xnw_0 {k n : Int} : xnw X k n (7 + 5 * k) 0 = n ∧ xnw X k n (7 + 5 * k) 1 = -1 ∧ xnw X k n (7 + 5 * k) 2 = 0 ∧ xnw X k n (7 + 5 * k) 3 = 0 := by
  unfold xnw xnwQ xnwP
  refine ⟨?_, ?_, ?_, ?_⟩
  all_goals rw [if_neg (by omega), if_neg (by omega), if_pos rfl]
  · rw [if_pos rfl]
  · rw [if_neg (by decide), if_pos rfl]
  · rw [if_neg (by decide), if_neg (by decide), if_pos rfl]
  · rw [if_neg (by decide), if_neg (by decide), if_neg (by decide), if_pos rfl]
theorem xnw_12 {k n p : Int} (p1 : 0 ≤ p) (p2 : p ≤ 3) : xnw X k n (7 + 5 * k + 1) p = 0 ∧ xnw X k n (7 + 5 * k + 2) p = 0 := by
  unfold xnw xnwQ xnwP
  refine ⟨?_, ?_⟩
  · rw [if_neg (by omega), if_neg (by omega), if_neg (by omega), if_pos (by omega)]
  · rw [if_neg (by omega), if_neg (by omega), if_neg (by omega), if_pos (by omega)]
theorem xnw_3 {k n c : Int} (c1 : 0 ≤ c) (c2 : c ≤ 11) : xnw X k n (7 + 5 * k + 3) c = -2 := by
  unfold xnw xnwQ
  rw [if_pos ⟨rfl, c1, by omega⟩]
theorem xnw_R {X : Int → Int → Int} (hR : ∀ i j, zR (X i j)) {k n : Int} (hn : zR n) : ∀ i j, zR (xnw X k n i j) := by
  intro i j
  unfold xnw xnwQ xnwP
  repeat' split
  all_goals first | exact hn | exact hR _ _ | exact ⟨by decide, by decide⟩
theorem xin_R {X : Int → Int → Int} (hX : xB X) {n q : Int} (hn : zR n) : ∀ i j, zR (xin X n q i j) := by
  intro i j
  obtain ⟨hR, h⟩ := hX
  unfold xin zs xinA
  rw [zv_app, zu_app]
  split
  · split
    · omega
    · exact hR _ _
  · exact xnw_R hR hn _ _
theorem cS_in (h : cS X s) {n : Int} (n1 : 1 ≤ n) (n2 : n ≤ 99) (hno : ¬ 0 ≤ rpl s n) (h12 : s 0 < 12) : cS (xin X n (xip X n (X 1 1).toNat)) (rAs s n) := by
  have hXB := (cS_I h).1
  obtain ⟨hR, hi, hc, h6⟩ := h
  have hb := hi.1.2
  have hn := cR_n hc
  have hm := cR_m hc
  have hr := rap_R hi.1 n
  have hip := cR_ip hi hc hno (X 1 1).toNat (by omega)
  rw [hip]
  have eN : (((X 1 1).toNat : Nat) : Int) = s 0 := by omega
  have hq : (if (((X 1 1).toNat : Nat) : Int) ≤ rap s n then (((X 1 1).toNat : Nat) : Int) else rap s n) = rap s n := by
    rw [eN]; split <;> omega
  rw [hq]
  have hI2 := rAs_I hi n1 n2 hno h12
  have e1 := cE_1 hi hc
  have e2 := cE_2 hi hc
  have hlo : ∀ i : Int, i ≠ 0 → i < 18 + 12 * rap s n → rAs s n i = s i := fun i a b => rAs_lo a b
  have hmv : ∀ j m : Int, rap s n < j → j ≤ s 0 → 0 ≤ m → m ≤ 11 → rAs s n (18 + 12 * j + m) = s (18 + 12 * (j - 1) + m) := fun j m a b d e => by
    have := rAs_mv (s := s) (n := n) (j := j - 1) (m := m) hr.1 (by omega) (by omega) d e
    rw [show j - 1 + 1 = j by omega] at this
    exact this
  have hnw := rAs_new (s := s) (n := n) hr.1
  have hhi : ∀ i : Int, 162 ≤ i → rAs s n i = s i := fun i a => rAs_hi hi.1 h12 a
  have t0 := rAs_0 (s := s) (n := n)
  have t1 := hlo 1 (by decide) (by omega)
  generalize ht : rAs s n = t at *
  generalize hgq : rap s n = q at *
  have add0 : ∀ z : Int, z + 0 = z := fun z => Int.add_zero _
  have x67 : xin X n q 67 = X 67 := xin_lo (by omega) (by decide) (by omega) (by omega)
  have hsi : xsi (xin X n q) = xsi X := by unfold xsi; rw [x67]
  have x1 : xin X n q 1 5 = X 1 5 := by
    unfold xin zs
    rw [zp_lo (by omega), xinA_1, zu_ne _ (by decide)]
  have hcell : ∀ k r : Int, 0 ≤ k → k ≤ s 0 → 0 ≤ r → r < 5 → (k < q ∧ xin X n q (7 + 5 * k + r) = X (7 + 5 * k + r)) ∨ (k = q ∧ xin X n q (7 + 5 * k + r) = xnw X (X 1 1) n (7 + 5 * X 1 1 + r)) ∨ (q < k ∧ xin X n q (7 + 5 * k + r) = X (7 + 5 * (k - 1) + r)) := fun k r k1 k2 r1 r2 => by
    by_cases a : k < q
    · exact Or.inl ⟨a, xin_old k1 a (by omega) (by omega) r1 r2⟩
    · by_cases b : k = q
      · refine Or.inr (Or.inl ⟨b, ?_⟩)
        rw [b]; exact xin_new hr.1 (by omega) (by omega) r1 r2
      · exact Or.inr (Or.inr ⟨by omega, xin_mv hr.1 (by omega) (by omega) (by omega) r1 r2⟩)
  refine ⟨xin_R hXB (by omega), hI2, ⟨?_, ?_, ?_, ?_, ?_, cE_0 ?_ ?_, ?_⟩, by rw [x67]; exact h6⟩
  · rw [xin_1, x1, hsi, x67, t0, t1, hlo 2 (by decide) (by omega), hlo 3 (by decide) (by omega), hlo 4 (by decide) (by omega), hlo 5 (by decide) (by omega), hn]
    exact ⟨rfl, hc.1.2⟩
  · intro d d1 d2
    rw [xin_lo (by omega) (by decide) (by omega) (by omega), hlo _ (by omega) (by omega)]; exact hc.2.1 d d1 d2
  · intro k k1 k2
    rw [t0] at k2
    have z := hcell k 0 k1 (by omega) (by decide) (by decide)
    rw [add0, add0, add0] at z
    rcases z with ⟨a, b⟩ | ⟨a, b⟩ | ⟨a, b⟩
    · rw [b, hlo _ (by omega) (by omega), hlo _ (by omega) (by omega), hlo _ (by omega) (by omega), hlo _ (by omega) (by omega)]; exact hc.2.2.1 k k1 (by omega)
    · subst a
      have w := xnw_0 (X := X) (k := X 1 1) (n := n)
      rw [b, hnw.1, hnw.2.1, hnw.2.2 2 (by decide) (by decide), hnw.2.2 3 (by decide) (by decide)]
      exact w
    · have m0 := hmv k 0 a (by omega) (by decide) (by decide)
      rw [add0, add0] at m0
      rw [b, m0, hmv k 1 a (by omega) (by decide) (by decide), hmv k 2 a (by omega) (by decide) (by decide), hmv k 3 a (by omega) (by decide) (by decide)]; exact hc.2.2.1 (k - 1) (by omega) (by omega)
  · intro k p k1 k2 p1 p2
    rw [t0] at k2
    rw [show 18 + 12 * k + 4 + 2 * p = 18 + 12 * k + (4 + 2 * p) by omega, show 18 + 12 * k + (4 + 2 * p) + 1 = 18 + 12 * k + (4 + 2 * p + 1) by omega]
    have z1 := hcell k 1 k1 (by omega) (by decide) (by decide)
    have z2 := hcell k 2 k1 (by omega) (by decide) (by decide)
    by_cases a : k < q
    · have b1 : xin X n q (7 + 5 * k + 1) = X (7 + 5 * k + 1) := by rcases z1 with ⟨_, b⟩ | ⟨a2, _⟩ | ⟨a2, _⟩; exact b; omega; omega
      have b2 : xin X n q (7 + 5 * k + 2) = X (7 + 5 * k + 2) := by rcases z2 with ⟨_, b⟩ | ⟨a2, _⟩ | ⟨a2, _⟩; exact b; omega; omega
      rw [b1, b2, hlo _ (by omega) (by omega), hlo _ (by omega) (by omega)]
      have := hc.2.2.2.1 k p k1 (by omega) p1 p2
      rw [show 18 + 12 * k + 4 + 2 * p = 18 + 12 * k + (4 + 2 * p) by omega, show 18 + 12 * k + (4 + 2 * p) + 1 = 18 + 12 * k + (4 + 2 * p + 1) by omega] at this
      exact this
    · by_cases a2 : k = q
      · have b1 : xin X n q (7 + 5 * k + 1) = xnw X (X 1 1) n (7 + 5 * X 1 1 + 1) := by rcases z1 with ⟨_, b⟩ | ⟨_, b⟩ | ⟨a2, _⟩; omega; exact b; omega
        have b2 : xin X n q (7 + 5 * k + 2) = xnw X (X 1 1) n (7 + 5 * X 1 1 + 2) := by rcases z2 with ⟨_, b⟩ | ⟨_, b⟩ | ⟨a2, _⟩; omega; exact b; omega
        have w := xnw_12 (X := X) (k := X 1 1) (n := n) p1 p2
        rw [b1, b2, w.1, w.2, a2, hnw.2.2 _ (by omega) (by omega), hnw.2.2 _ (by omega) (by omega)]
        exact ⟨rfl, rfl⟩
      · have b1 : xin X n q (7 + 5 * k + 1) = X (7 + 5 * (k - 1) + 1) := by rcases z1 with ⟨_, b⟩ | ⟨_, b⟩ | ⟨_, b⟩; omega; omega; exact b
        have b2 : xin X n q (7 + 5 * k + 2) = X (7 + 5 * (k - 1) + 2) := by rcases z2 with ⟨_, b⟩ | ⟨_, b⟩ | ⟨_, b⟩; omega; omega; exact b
        rw [b1, b2, hmv k _ (by omega) (by omega) (by omega) (by omega), hmv k _ (by omega) (by omega) (by omega) (by omega)]
        have := hc.2.2.2.1 (k - 1) p (by omega) (by omega) p1 p2
        rw [show 18 + 12 * (k - 1) + 4 + 2 * p = 18 + 12 * (k - 1) + (4 + 2 * p) by omega, show 18 + 12 * (k - 1) + (4 + 2 * p) + 1 = 18 + 12 * (k - 1) + (4 + 2 * p + 1) by omega] at this
        exact this
  · intro p p1 p2
    rw [t1] at p2
    rw [xin_lo (by omega) (by decide) (by omega) (by omega), xin_lo (by omega) (by decide) (by omega) (by omega), hhi _ (by omega), hhi _ (by omega)]; exact hc.2.2.2.2.1 p p1 p2
  · intro p p1 p2 j j1 j2 e
    rw [t1] at p2
    rw [t0] at j2
    rw [hhi (162 + 4 * p) (by omega)] at e
    rw [hhi _ (by omega), hhi _ (by omega), hhi _ (by omega)]
    have z3 := hcell j 3 j1 (by omega) (by decide) (by decide)
    have z4 := hcell j 4 j1 (by omega) (by decide) (by decide)
    by_cases a : j < q
    · have b1 : xin X n q (7 + 5 * j + 3) = X (7 + 5 * j + 3) := by rcases z3 with ⟨_, b⟩ | ⟨a2, _⟩ | ⟨a2, _⟩; exact b; omega; omega
      have b2 : xin X n q (7 + 5 * j + 4) = X (7 + 5 * j + 4) := by rcases z4 with ⟨_, b⟩ | ⟨a2, _⟩ | ⟨a2, _⟩; exact b; omega; omega
      rw [hlo (18 + 12 * j) (by omega) (by omega)] at e
      rw [b1, b2]; exact e1 p p1 p2 j j1 (by omega) e
    · by_cases a2 : j = q
      · rw [a2, hnw.1] at e
        exact absurd (by rw [e]; exact (hi.2.2.2.2.1 p p1 p2).1) hno
      · have b1 : xin X n q (7 + 5 * j + 3) = X (7 + 5 * (j - 1) + 3) := by rcases z3 with ⟨_, b⟩ | ⟨_, b⟩ | ⟨_, b⟩; omega; omega; exact b
        have b2 : xin X n q (7 + 5 * j + 4) = X (7 + 5 * (j - 1) + 4) := by rcases z4 with ⟨_, b⟩ | ⟨_, b⟩ | ⟨_, b⟩; omega; omega; exact b
        have m0 := hmv j 0 (by omega) (by omega) (by decide) (by decide)
        rw [add0, add0] at m0
        rw [m0] at e
        rw [b1, b2]; exact e1 p p1 p2 (j - 1) (by omega) (by omega) e
  · intro j c j1 j2 c1 c2 hqq
    rw [t0] at j2
    rw [t1] at hqq
    have z3 := hcell j 3 j1 (by omega) (by decide) (by decide)
    by_cases a : j < q
    · have b1 : xin X n q (7 + 5 * j + 3) = X (7 + 5 * j + 3) := by rcases z3 with ⟨_, b⟩ | ⟨a2, _⟩ | ⟨a2, _⟩; exact b; omega; omega
      rw [b1]
      refine e2 j c j1 (by omega) c1 c2 (fun p p1 p2 y => hqq p p1 p2 ?_)
      rw [hhi (162 + 4 * p) (by omega), hhi (162 + 4 * p + 1) (by omega), hlo (18 + 12 * j) (by omega) (by omega)]; exact y
    · by_cases a2 : j = q
      · have b1 : xin X n q (7 + 5 * j + 3) = xnw X (X 1 1) n (7 + 5 * X 1 1 + 3) := by rcases z3 with ⟨_, b⟩ | ⟨_, b⟩ | ⟨a2, _⟩; omega; exact b; omega
        rw [b1, xnw_3 c1 c2]
      · have b1 : xin X n q (7 + 5 * j + 3) = X (7 + 5 * (j - 1) + 3) := by rcases z3 with ⟨_, b⟩ | ⟨_, b⟩ | ⟨_, b⟩; omega; omega; exact b
        have m0 := hmv j 0 (by omega) (by omega) (by decide) (by decide)
        rw [add0, add0] at m0
        rw [b1]
        refine e2 (j - 1) c (by omega) (by omega) c1 c2 (fun p p1 p2 y => hqq p p1 p2 ?_)
        rw [hhi (162 + 4 * p) (by omega), hhi (162 + 4 * p + 1) (by omega), m0]; exact y
  · intro d d1 d2
    rw [x67, xin_lo (by omega) (by omega) (by omega) (by omega), xin_lo (by omega) (by omega) (by omega) (by omega), xin_lo (by omega) (by omega) (by omega) (by omega), xin_lo (by omega) (by omega) (by omega) (by omega), xin_lo (by omega) (by omega) (by omega) (by omega), hhi _ (by omega), hhi _ (by omega), hhi _ (by omega), hhi _ (by omega), hhi _ (by omega)]
    exact hc.2.2.2.2.2.2 d d1 d2
end rel
