/-! what a show says: an instruction is taken away -/
section rel
variable {X Y : Int → Int → Int} {s t : Int → Int}
theorem xde_q {k c q : Int} (h1 : ¬ q = 7 + 5 * k + 3) (h2 : ¬ q = 4) (h3 : ¬ q = 5) (h4 : ¬ q = 1) : xde X k c q = X q := by
  unfold xde
  rw [zv_ne _ _ h4, xdm_lo h1 h2 h3]
theorem xde_3 {k c j : Int} (k1 : 0 ≤ k) : xde X k c (7 + 5 * k + 3) j = if j = c then -2 else X (7 + 5 * k + 3) j := by
  unfold xde xdm
  rw [zv_ne _ _ (by omega), zv_ne _ _ (by omega), zv_ne _ _ (by omega), zv_at, zu_app]
theorem xde_45 (h : cS X s) {k c : Int} (k1 : 0 ≤ k) (k2 : k < s 0) (g : 0 ≤ rgv s (s (18 + 12 * k)) c) : xde X k c 1 5 = s 1 - 1 ∧ (∀ j, xde X k c 4 j = if rgv s (s (18 + 12 * k)) c ≤ j ∧ j < s 1 - 1 then X 4 (j + 1) else X 4 j) ∧ (∀ j, xde X k c 5 j = if rgv s (s (18 + 12 * k)) c ≤ j ∧ j < s 1 - 1 then X 5 (j + 1) else X 5 j) := by
  obtain ⟨hR, hi, hc, h6⟩ := h
  have hb := hi.1.2
  have hm := cR_m hc
  have hv := rgv_val g
  have hnum := (hc.2.2.1 k k1 k2).1
  have hz := xdl_one (A := X 4) (B := X 5) (n := X (7 + 5 * k) 0) (c := c) (g := rgv s (s (18 + 12 * k)) c) (L := s 1) g (fun p p1 p2 => by
    have hp := hc.2.2.2.2.1 p p1 p2
    rw [hp.1, hp.2, hnum]
    constructor
    · rintro ⟨a1, a2⟩
      have w := rgv_at hi p1 p2
      rw [a1, a2] at w
      exact w.symm
    · intro e
      rw [e]; exact hv.1) (X 1 5).toNat (by omega)
  obtain ⟨z1, z2, z3⟩ := hz.2 (by omega)
  have em : (((X 1 5).toNat : Nat) : Int) = s 1 := by omega
  rw [em] at z1 z2 z3
  refine ⟨?_, fun j => ?_, fun j => ?_⟩
  · unfold xde
    rw [zv_at, zu_at, z1]
  · unfold xde
    rw [zv_ne _ _ (by decide), xdm_4, z2]
  · unfold xde
    rw [zv_ne _ _ (by decide), xdm_5, z3]
theorem cS_ta (h : cS X s) {k c : Int} (k1 : 0 ≤ k) (k2 : k < s 0) (c1 : 0 ≤ c) (c2 : c ≤ 11) (g : 0 ≤ rgv s (s (18 + 12 * k)) c) : cS (xde X k c) (rta s (rgv s (s (18 + 12 * k)) c)) := by
  obtain ⟨d15, d4, d5⟩ := xde_45 h k1 k2 g
  have hXB := (cS_I h).1
  obtain ⟨hR, hi, hc, h6⟩ := h
  have hb := hi.1.2
  have hn := cR_n hc
  have hm := cR_m hc
  have hv := rgv_val g
  have hI2 := rta_I hi g hv.2
  have e1 := cE_1 hi hc
  have e2 := cE_2 hi hc
  have hnum := (hc.2.2.1 k k1 k2).1
  have hlo : ∀ i : Int, i ≠ 1 → i < 162 + 4 * rgv s (s (18 + 12 * k)) c → rta s (rgv s (s (18 + 12 * k)) c) i = s i := fun i a b => rta_lo a b
  have hhi : ∀ i : Int, 402 ≤ i → rta s (rgv s (s (18 + 12 * k)) c) i = s i := fun i a => rta_hi hi.1 g hv.2 a
  have hmv : ∀ j r : Int, rgv s (s (18 + 12 * k)) c ≤ j → j < s 1 - 1 → 0 ≤ r → r ≤ 3 → rta s (rgv s (s (18 + 12 * k)) c) (162 + 4 * j + r) = s (162 + 4 * (j + 1) + r) := fun j r a b d e => rta_mv g a b d e
  have h1t := rta_1 (s := s) g
  have t0 := rta_0 (s := s) g
  generalize ht : rta s (rgv s (s (18 + 12 * k)) c) = t at *
  generalize hgg : rgv s (s (18 + 12 * k)) c = G at *
  have hx : ∀ q : Int, ¬ q = 7 + 5 * k + 3 → ¬ q = 4 → ¬ q = 5 → ¬ q = 1 → xde X k c q = X q := fun q a b d e => xde_q a b d e
  have x67 := hx 67 (by omega) (by decide) (by decide) (by decide)
  have hsi : xsi (xde X k c) = xsi X := by unfold xsi; rw [x67]
  -- an entry of t is one of s
  have hl : ∀ q : Int, 0 ≤ q → q < s 1 - 1 → ∃ p : Int, 0 ≤ p ∧ p < s 1 ∧ ¬ p = G ∧ (∀ r : Int, 0 ≤ r → r ≤ 3 → t (162 + 4 * q + r) = s (162 + 4 * p + r)) ∧ xde X k c 4 q = X 4 p ∧ xde X k c 5 q = X 5 p := fun q q1 q2 => by
    by_cases e : G ≤ q
    · refine ⟨q + 1, by omega, by omega, by omega, fun r r1 r2 => hmv q r e q2 r1 r2, ?_, ?_⟩
      · rw [d4, if_pos ⟨e, q2⟩]
      · rw [d5, if_pos ⟨e, q2⟩]
    · refine ⟨q, q1, by omega, by omega, fun r r1 r2 => hlo _ (by omega) (by omega), ?_, ?_⟩
      · rw [d4, if_neg (by omega)]
      · rw [d5, if_neg (by omega)]
  -- an entry of s but that one is one of t
  have hl2 : ∀ p : Int, 0 ≤ p → p < s 1 → ¬ p = G → ∃ q : Int, 0 ≤ q ∧ q < s 1 - 1 ∧ (∀ r : Int, 0 ≤ r → r ≤ 3 → t (162 + 4 * q + r) = s (162 + 4 * p + r)) := fun p p1 p2 p3 => by
    by_cases e : G < p
    · refine ⟨p - 1, by omega, by omega, fun r r1 r2 => ?_⟩
      rw [hmv (p - 1) r (by omega) (by omega) r1 r2, show p - 1 + 1 = p by omega]
    · exact ⟨p, p1, by omega, fun r r1 r2 => hlo _ (by omega) (by omega)⟩
  have add0 : ∀ z : Int, 162 + 4 * z + 0 = 162 + 4 * z := fun z => Int.add_zero _
  refine ⟨(xde_B hXB k1).1, hI2, ⟨?_, ?_, ?_, ?_, ?_, cE_0 ?_ ?_, ?_⟩, by rw [x67]; exact h6⟩
  · rw [xde_N, d15, hsi, x67, t0, h1t, hlo 2 (by decide) (by omega), hlo 3 (by decide) (by omega), hlo 4 (by decide) (by omega), hlo 5 (by decide) (by omega)]
    exact ⟨hc.1.1, rfl, hc.1.2.2⟩
  · intro d d1 d2
    rw [hx 3 (by omega) (by decide) (by decide) (by decide), hlo _ (by omega) (by omega)]; exact hc.2.1 d d1 d2
  · intro j j1 j2
    rw [t0] at j2
    rw [hx _ (by omega) (by omega) (by omega) (by omega), hlo _ (by omega) (by omega), hlo _ (by omega) (by omega), hlo _ (by omega) (by omega), hlo _ (by omega) (by omega)]; exact hc.2.2.1 j j1 j2
  · intro j q j1 j2 q1 q2
    rw [t0] at j2
    rw [hx _ (by omega) (by omega) (by omega) (by omega), hx _ (by omega) (by omega) (by omega) (by omega), hlo _ (by omega) (by omega), hlo _ (by omega) (by omega)]; exact hc.2.2.2.1 j q j1 j2 q1 q2
  · intro q q1 q2
    rw [h1t] at q2
    obtain ⟨p, p1, p2, p3, p4, p5, p6⟩ := hl q q1 q2
    have a0 := p4 0 (by decide) (by decide)
    rw [add0, add0] at a0
    rw [p5, p6, a0, p4 1 (by decide) (by decide)]
    exact hc.2.2.2.2.1 p p1 p2
  · intro q q1 q2 j j1 j2 e
    rw [h1t] at q2
    rw [t0] at j2
    obtain ⟨p, p1, p2, p3, p4, -, -⟩ := hl q q1 q2
    have a0 := p4 0 (by decide) (by decide)
    rw [add0, add0] at a0
    rw [hlo (18 + 12 * j) (by omega) (by omega), a0] at e
    rw [p4 1 (by decide) (by decide), p4 2 (by decide) (by decide), p4 3 (by decide) (by decide)]
    have z := e1 p p1 p2 j j1 j2 e
    rw [hx (7 + 5 * j + 4) (by omega) (by omega) (by omega) (by omega)]
    by_cases ej : j = k
    · subst ej
      have ec : ¬ s (162 + 4 * p + 1) = c := fun y => by
        have w := rgv_at hi p1 p2
        rw [← e, y, hgg] at w
        exact p3 w.symm
      rw [xde_3 k1, if_neg ec]; exact z
    · rw [hx (7 + 5 * j + 3) (by omega) (by omega) (by omega) (by omega)]; exact z
  · intro j d j1 j2 d1 d2 hq
    rw [t0] at j2
    rw [h1t, hlo (18 + 12 * j) (by omega) (by omega)] at hq
    by_cases ed : j = k ∧ d = c
    · obtain ⟨rfl, rfl⟩ := ed
      rw [xde_3 k1, if_pos rfl]
    · have z := e2 j d j1 j2 d1 d2 (fun p p1 p2 y => by
        by_cases pg : p = G
        · rw [pg] at y
          refine ed ⟨rnum_in hi j1 j2 k1 k2 (by rw [← y.1]; exact hv.1.1), ?_⟩
          rw [← y.2]; exact hv.1.2
        · obtain ⟨q, q1, q2, q3⟩ := hl2 p p1 p2 pg
          have a0 := q3 0 (by decide) (by decide)
          rw [add0, add0] at a0
          exact hq q q1 q2 (by rw [a0, q3 1 (by decide) (by decide)]; exact y))
      by_cases ej : j = k
      · subst ej
        rw [xde_3 k1, if_neg (fun y => ed ⟨rfl, y⟩)]; exact z
      · rw [hx _ (by omega) (by omega) (by omega) (by omega)]; exact z
  · intro d d1 d2
    rw [x67, hx _ (by omega) (by omega) (by omega) (by omega), hx _ (by omega) (by omega) (by omega) (by omega), hx _ (by omega) (by omega) (by omega) (by omega), hx _ (by omega) (by omega) (by omega) (by omega), hx _ (by omega) (by omega) (by omega) (by omega), hhi _ (by omega), hhi _ (by omega), hhi _ (by omega), hhi _ (by omega), hhi _ (by omega)]
    exact hc.2.2.2.2.2.2 d d1 d2
end rel
