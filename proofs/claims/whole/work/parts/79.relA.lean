/-! what a show says: changed levels of give, take and block; lists with entries left out -/
section rel
variable {X Y : Int → Int → Int} {s t u : Int → Int}
theorem cf_same {c j : Int} (j0 : 0 ≤ j) (h3 : Y 3 c = X 3 c) (h : Y (7 + 5 * j) 2 = X (7 + 5 * j) 2 ∧ Y (7 + 5 * j + 3) c = X (7 + 5 * j + 3) c) : (xtk Y j c ∧ xlv X j c = xlv X (j - 1) c) ∨ (¬ xtk Y j c ∧ xlv Y j c = xlv X j c) := by
  by_cases e : xtk Y j c
  · exact Or.inl ⟨e, xlv_t j0 ⟨by rw [← h.1]; exact e.1, by rw [← h.2]; exact e.2⟩⟩
  · refine Or.inr ⟨e, ?_⟩
    rw [xlv_n j0 e, xlv_n j0 (fun z => e ⟨by rw [h.1]; exact z.1, by rw [h.2]; exact z.2⟩), h.2]
    unfold xlm
    rw [h3]
theorem cf_held {c k b : Int} (k0 : 0 ≤ k) (b0 : 0 ≤ b) (hb : b = xlv X k c) (h : xtk X (k + 1) c) (hY : Y (7 + 5 * (k + 1) + 3) c = b) : (xtk Y (k + 1) c ∧ xlv X (k + 1) c = xlv X (k + 1 - 1) c) ∨ (¬ xtk Y (k + 1) c ∧ xlv Y (k + 1) c = xlv X (k + 1) c) := by
  have e : ¬ xtk Y (k + 1) c := fun z => by
    have := z.2
    omega
  refine Or.inr ⟨e, ?_⟩
  rw [xlv_n (by omega) e, xlv_t (by omega) h, show k + 1 - 1 = k by omega, hY]
  unfold xlm
  rw [if_pos b0, hb]
/-- a sum over the reference's levels is one over the show's -/
theorem cf_ref (hX : cS X s) (hY : cS Y t) {lv : Int → Int} {c : Int} (e0 : t 0 = s 0) (c1 : 0 ≤ c) (c2 : c ≤ 11) : zsum (fun k => bI (¬ rlv t k c = rkl s lv (12 * s 0) (12 * k + c))) (t 0).toNat = zsum (fun k => bI (¬ xlv Y k c = xlv X k c)) (s 0).toNat := by
  have hb := hX.2.1.1.2
  rw [e0]
  exact zsum_congr _ (fun k k1 k2 => by rw [rkl_at k1 (by omega) c1 c2, cR_lv hY.2.1 hY.2.2.1 (by omega) (by omega) c1 c2, cR_lv hX.2.1 hX.2.2.1 (by omega) (by omega) c1 c2])
theorem cS_gcf (h : cS X s) {lv : Int → Int} {k c v p : Int} (k1 : 0 ≤ k) (k2 : k < s 0) (c1 : 0 ≤ c) (c2 : c ≤ 11) (v1 : -1 ≤ v) (v2 : v ≤ 100) (p1 : 0 ≤ p) (p2 : p ≤ 3) {hd : Prop} [Decidable hd] (hz : xrG X k c v hd = 0) :
    zsum (fun j => bI (¬ rlv (rGh s lv (s (18 + 12 * k)) c v p hd).2.1 j c = (rGh s lv (s (18 + 12 * k)) c v p hd).2.2 (12 * j + c))) ((rGh s lv (s (18 + 12 * k)) c v p hd).2.1 0).toNat = xcf (xgi X k c v p hd) (xlv X k c) k c := by
  obtain ⟨-, g⟩ := cS_give h (lv := lv) k1 k2 c1 c2 v1 v2 p1 p2 (hd := hd)
  obtain ⟨g1, g2, g3⟩ := g hz
  have hN := cR_n h.2.2.1
  have hlv := xI_lv (cS_I h) c1 c2 (k + 1).toNat (by rw [hN]; omega)
  have hlv : 0 ≤ xlv X k c ∧ xlv X k c ≤ 100 := hlv
  rw [g2, cf_ref h g1 g3 c1 c2]
  have hG := (xgi_B (cS_I h).1 (c := c) (t := v) (pt := p) (hd := hd) k1 (by omega) (by omega) (by omega)).2
  have h3 : xgi X k c v p hd 3 = X 3 := by
    unfold xgi
    split
    · rw [xpi_h (by omega), xpi_h k1]
    · exact xpi_h k1
  have hb : ∀ j : Int, 0 ≤ j → xgi X k c v p hd (7 + 5 * j) 2 = X (7 + 5 * j) 2 := fun j j1 => by
    unfold xgi
    split
    · rw [xpi_b (by omega) j1, xpi_b k1 j1]
    · exact xpi_b k1 j1
  refine cf_sum k1 k2 (by rw [hG, hN]) (fun j j1 j2 => ?_) (fun j j1 j2 => ?_)
  · refine xlv_cong (by rw [h3]) (fun q q1 q2 => ⟨hb q q1, ?_⟩)
    unfold xgi
    split
    · rw [xpi_o (by omega) q1 (by omega), xpi_o k1 q1 (by omega)]
    · rw [xpi_o k1 q1 (by omega)]
  · by_cases P : hd ∧ xnh X (k + 1) c (xlm X v c)
    · by_cases e : j = k + 1
      · subst e
        refine cf_held k1 hlv.1 rfl P.2.2.1 ?_
        rw [← xgi_y P, xpi_t3 (by omega), if_pos rfl]
      · refine cf_same (by omega) (by rw [h3]) ⟨hb j (by omega), ?_⟩
        rw [← xgi_y P, xpi_o (by omega) (by omega) (by omega), xpi_o k1 (by omega) (by omega)]
    · refine cf_same (by omega) (by rw [h3]) ⟨hb j (by omega), ?_⟩
      rw [← xgi_n P, xpi_o k1 (by omega) (by omega)]
theorem cS_tcf (h : cS X s) {lv : Int → Int} {k c : Int} (k1 : 0 ≤ k) (k2 : k < s 0) (c1 : 0 ≤ c) (c2 : c ≤ 11) {hd : Prop} [Decidable hd] (hz : xrT X k c hd = 0) :
    zsum (fun j => bI (¬ rlv (rTh s lv (s (18 + 12 * k)) c hd).2.1 j c = (rTh s lv (s (18 + 12 * k)) c hd).2.2 (12 * j + c))) ((rTh s lv (s (18 + 12 * k)) c hd).2.1 0).toNat = xcf (xta X k c hd) (xlv X k c) k c := by
  obtain ⟨-, g⟩ := cS_take h (lv := lv) k1 k2 c1 c2 (hd := hd)
  obtain ⟨g1, g2, g3⟩ := g hz
  have hN := cR_n h.2.2.1
  have hlv := xI_lv (cS_I h) c1 c2 (k + 1).toNat (by rw [hN]; omega)
  have hlv : 0 ≤ xlv X k c ∧ xlv X k c ≤ 100 := hlv
  rw [g2, cf_ref h g1 g3 c1 c2]
  have hG := (xta_B (cS_I h).1 (c := c) (hd := hd) k1 (by omega)).2
  have hq : ∀ q : Int, ¬ q = 7 + 5 * k + 3 → ¬ q = 4 → ¬ q = 5 → ¬ q = 1 → xde X k c q = X q := fun q a b d e => xde_q a b d e
  have h3 : xta X k c hd 3 = X 3 := by
    unfold xta
    split
    · rw [xpi_h (by omega), hq _ (by omega) (by omega) (by omega) (by omega)]
    · exact hq _ (by omega) (by omega) (by omega) (by omega)
  have hb : ∀ j : Int, 0 ≤ j → xta X k c hd (7 + 5 * j) 2 = X (7 + 5 * j) 2 := fun j j1 => by
    unfold xta
    split
    · rw [xpi_b (by omega) j1, hq _ (by omega) (by omega) (by omega) (by omega)]
    · rw [hq _ (by omega) (by omega) (by omega) (by omega)]
  refine cf_sum k1 k2 (by rw [hG, hN]) (fun j j1 j2 => ?_) (fun j j1 j2 => ?_)
  · refine xlv_cong (by rw [h3]) (fun q q1 q2 => ⟨hb q q1, ?_⟩)
    unfold xta
    split
    · rw [xpi_o (by omega) q1 (by omega), hq _ (by omega) (by omega) (by omega) (by omega)]
    · rw [hq _ (by omega) (by omega) (by omega) (by omega)]
  · by_cases P : hd ∧ xnh X (k + 1) c (xlw X k c)
    · by_cases e : j = k + 1
      · subst e
        refine cf_held k1 hlv.1 rfl P.2.2.1 ?_
        rw [← xta_y P, xpi_t3 (by omega), if_pos rfl]
      · refine cf_same (by omega) (by rw [h3]) ⟨hb j (by omega), ?_⟩
        rw [← xta_y P, xpi_o (by omega) (by omega) (by omega), hq _ (by omega) (by omega) (by omega) (by omega)]
    · refine cf_same (by omega) (by rw [h3]) ⟨hb j (by omega), ?_⟩
      rw [← xta_n P, hq _ (by omega) (by omega) (by omega) (by omega)]
theorem cS_blk (h : cS X s) {lv : Int → Int} {k : Int} (k1 : 0 ≤ k) (k2 : k < s 0) {v : Prop} [Decidable v] : cS (zv X (7 + 5 * k) (zu (X (7 + 5 * k)) 2 (bI v))) (zu s (18 + 12 * k + 2) (bI v)) ∧ zsum (fun c => bI (¬ rlv (zu s (18 + 12 * k + 2) (bI v)) k c = rkl s lv (12 * s 0) (12 * k + c))) 12 = if X (7 + 5 * k) 2 = bI v then 0 else zsum (xmbF X k) 12 := by
  have hv := bI_01 v
  have hb0 := h.2.1.1.2
  have hi2 := rI_set h.2.1 (k := k) (m := 2) (v := bI v) k1 k2 (by decide) (by decide) (by omega)
  have h2 : cS (zv X (7 + 5 * k) (zu (X (7 + 5 * k)) 2 (bI v))) (zu s (18 + 12 * k + 2) (bI v)) := ⟨zv_R h.1 (bI_R _), hi2, cR_set h.2.1 h.2.2.1 k1 k2 (by decide) (by decide), by rw [zv_ne _ _ (by omega)]; exact h.2.2.2⟩
  have e0 : zu s (18 + 12 * k + 2) (bI v) 0 = s 0 := zu_ne _ (by omega)
  have hb := (cS_I h).2.1 k k1 (by rw [cR_n h.2.2.1]; exact k2)
  have hYb : zv X (7 + 5 * k) (zu (X (7 + 5 * k)) 2 (bI v)) (7 + 5 * k) 2 = bI v := by rw [zv_at, zu_at]
  have hYt : ∀ c, zv X (7 + 5 * k) (zu (X (7 + 5 * k)) 2 (bI v)) (7 + 5 * k + 3) c = X (7 + 5 * k + 3) c := fun c => by rw [zv_ne _ _ (by omega)]
  have hY3 : zv X (7 + 5 * k) (zu (X (7 + 5 * k)) 2 (bI v)) 3 = X 3 := zv_ne _ _ (by omega)
  have hYl : ∀ c, xlv (zv X (7 + 5 * k) (zu (X (7 + 5 * k)) 2 (bI v))) (k - 1) c = xlv X (k - 1) c := fun c => xlv_cong (by rw [hY3]) (fun j j1 j2 => ⟨by rw [zv_ne _ _ (by omega)], by rw [zv_ne _ _ (by omega)]⟩)
  refine ⟨h2, ?_⟩
  have e1 : zsum (fun c => bI (¬ rlv (zu s (18 + 12 * k + 2) (bI v)) k c = rkl s lv (12 * s 0) (12 * k + c))) 12 = zsum (fun c => bI (¬ xlv (zv X (7 + 5 * k) (zu (X (7 + 5 * k)) 2 (bI v))) k c = xlv X k c)) 12 :=
    zsum_congr 12 (fun c c1 c2 => by rw [rkl_at k1 k2 c1 (by omega), cR_lv h2.2.1 h2.2.2.1 (by omega) (by omega) c1 (by omega), cR_lv h.2.1 h.2.2.1 (by omega) k2 c1 (by omega)])
  rw [e1]
  generalize hY : zv X (7 + 5 * k) (zu (X (7 + 5 * k)) 2 (bI v)) = Y at *
  by_cases e : X (7 + 5 * k) 2 = bI v
  · rw [if_pos e]
    refine (zsum_congr 12 (fun c c1 c2 => bI_f (fun z => z ?_))).trans (zsum_zero 12)
    by_cases q : xtk X k c
    · rw [xlv_t k1 q, xlv_t k1 ⟨by rw [hYb, ← e]; exact q.1, by rw [hYt]; exact q.2⟩, hYl]
    · rw [xlv_n k1 q, xlv_n k1 (fun z => q ⟨by rw [e, ← hYb]; exact z.1, by rw [← hYt]; exact z.2⟩), hYt]
      unfold xlm
      rw [hY3]
  · rw [if_neg e]
    apply zsum_congr
    intro c c1 c2
    apply bI_iff
    by_cases q : X (7 + 5 * k + 3) c = -2
    · by_cases b0 : X (7 + 5 * k) 2 = 0
      · rw [xlv_t k1 ⟨b0, q⟩, xlv_n k1 (fun z => e (by have := z.1; rw [hYb] at this; omega)), hYt, q]
        unfold xlm
        rw [if_neg (by decide), hY3]
        exact ⟨fun z => ⟨rfl, z⟩, fun z => z.2⟩
      · rw [xlv_n k1 (fun z => b0 z.1), xlv_t k1 ⟨by rw [hYb]; omega, by rw [hYt]; exact q⟩, hYl, q]
        unfold xlm
        rw [if_neg (by decide)]
        exact ⟨fun z => ⟨rfl, fun y => z y.symm⟩, fun z y => z.2 y.symm⟩
    · rw [xlv_n k1 (fun z => q z.2), xlv_n k1 (fun z => q (by rw [← hYt]; exact z.2)), hYt]
      unfold xlm
      rw [hY3]
      exact ⟨fun z => absurd rfl z, fun z => absurd z.1 q⟩
/-- how many are kept before one -/
def cn (P : Int → Bool) (p : Int) : Int := zsum (fun q => bI (P q = true)) p.toNat
theorem cn_s {P : Int → Bool} {p : Int} (h : 0 ≤ p) : cn P (p + 1) = cn P p + bI (P p = true) := zsum_s h
theorem cn_mono {P : Int → Bool} : ∀ (n : Nat) (p : Int), 0 ≤ p → cn P p ≤ cn P (p + n)
  | 0, p, _ => by rw [show p + ((0 : Nat) : Int) = p by omega]; omega
  | n + 1, p, h => by
    have ih := cn_mono (P := P) n p h
    have := bI_01 (P (p + (n : Int)) = true)
    rw [show p + ((n + 1 : Nat) : Int) = p + (n : Int) + 1 by omega, cn_s (by omega)]
    omega
theorem cn_le {P : Int → Bool} {p q : Int} (h : 0 ≤ p) (h2 : p ≤ q) : cn P p ≤ cn P q := by
  have := cn_mono (P := P) (q - p).toNat p h
  rw [show p + (((q - p).toNat : Nat) : Int) = q by omega] at this
  exact this
theorem cn_lt {P : Int → Bool} {p q : Int} (h : 0 ≤ p) (h2 : p < q) (hp : P p = true) : cn P p + 1 ≤ cn P q := by
  have := cn_le (P := P) (p := p + 1) (q := q) (by omega) (by omega)
  rw [cn_s h, bI_t hp] at this
  exact this
theorem cn_0 {P : Int → Bool} : cn P 0 = 0 := rfl
theorem cn_pos {P : Int → Bool} {p : Int} (h : 0 ≤ p) : 0 ≤ cn P p := by
  have := cn_le (P := P) (p := 0) (q := p) (by omega) h
  rw [cn_0] at this
  exact this
theorem cn_all {P : Int → Bool} : ∀ n : Nat, (∀ q : Int, 0 ≤ q → q < n → P q = true) → cn P n = n
  | 0, _ => rfl
  | n + 1, h => by
    have ih := cn_all n (fun q q1 q2 => h q q1 (by omega))
    rw [show ((n + 1 : Nat) : Int) = (n : Int) + 1 by omega, cn_s (by omega), ih, bI_t (h n (by omega) (by omega))]
theorem cn_onto {P : Int → Bool} : ∀ (n : Nat) (q : Int), 0 ≤ q → q < cn P n → ∃ p : Int, 0 ≤ p ∧ p < n ∧ P p = true ∧ cn P p = q
  | 0, q, h1, h2 => by
    have : cn P ((0 : Nat) : Int) = 0 := rfl
    omega
  | n + 1, q, h1, h2 => by
    rw [show ((n + 1 : Nat) : Int) = (n : Int) + 1 by omega, cn_s (by omega)] at h2
    by_cases e : q < cn P n
    · obtain ⟨p, p1, p2, p3, p4⟩ := cn_onto n q h1 e
      exact ⟨p, p1, by omega, p3, p4⟩
    · have hb := bI_01 (P (n : Int) = true)
      have h3 : P (n : Int) = true := bI_ne (by omega)
      rw [bI_t h3] at h2
      exact ⟨n, by omega, by omega, h3, by omega⟩
theorem cn_cong {P Q : Int → Bool} {m : Int} (h : ∀ p : Int, 0 ≤ p → p < m → P p = Q p) {p : Int} (p1 : p ≤ m) : cn P p = cn Q p := zsum_congr _ (fun q q1 q2 => by rw [h q q1 (by omega)])
theorem cn_but {P : Int → Bool} {g p : Int} (g0 : 0 ≤ g) (hg : P g = true) (p0 : 0 ≤ p) : cn P p = cn (fun q => P q && !decide (q = g)) p + (if g < p then 1 else 0) := by
  have h := zsum_one (f := fun q => bI ((P q && !decide (q = g)) = true)) (g := fun q => bI (P q = true)) (c := g) (by
    show bI (P g = true) = bI ((P g && !decide (g = g)) = true) + 1
    rw [bI_t hg, bI_f (by simp)]
    rfl) (fun j hj => by
    apply bI_iff
    simp [hj]) p.toNat
  unfold cn
  rw [h]
  by_cases e : g < p
  · rw [if_pos e, if_pos (by omega)]
  · rw [if_neg e, if_neg (by omega)]
def fL (s t : Int → Int) (P : Int → Bool) : Prop := t 1 = cn P (s 1) ∧ ∀ p : Int, 0 ≤ p → p < s 1 → P p = true → ∀ r : Int, 0 ≤ r → r ≤ 3 → t (162 + 4 * cn P p + r) = s (162 + 4 * p + r)
theorem fL_id (h0 : 0 ≤ s 1) : fL s s (fun _ => true) := by
  have e : ∀ p : Int, 0 ≤ p → cn (fun _ => true) p = p := fun p hp => by
    have := cn_all (P := fun _ => true) p.toNat (fun _ _ _ => rfl)
    rw [show ((p.toNat : Nat) : Int) = p by omega] at this
    exact this
  exact ⟨(e _ h0).symm, fun p p1 p2 _ r r1 r2 => by rw [e p p1]⟩
theorem fL_cong {P Q : Int → Bool} (h : fL s t P) (e : ∀ p : Int, 0 ≤ p → p < s 1 → P p = Q p) : fL s t Q :=
  ⟨by rw [← cn_cong e (Int.le_refl _)]; exact h.1, fun p p1 p2 hp r r1 r2 => by rw [← cn_cong e (by omega)]; exact h.2 p p1 p2 (by rw [e p p1 p2]; exact hp) r r1 r2⟩
theorem fL_step {P : Int → Bool} (h : fL s t P) {g : Int} (g0 : 0 ≤ g) (g1 : g < s 1) (hg : P g = true) : fL s (rta t (cn P g)) (fun q => P q && !decide (q = g)) := by
  have gp := cn_pos (P := P) g0
  have b1 := cn_but (P := P) (g := g) (p := s 1) g0 hg (by omega)
  rw [if_pos g1] at b1
  refine ⟨by rw [rta_1 gp, h.1]; omega, fun p p1 p2 hp r r1 r2 => ?_⟩
  have hp2 : P p = true ∧ ¬ p = g := by simpa using hp
  have b := cn_but (P := P) (g := g) (p := p) g0 hg p1
  have w := h.2 p p1 p2 hp2.1 r r1 r2
  by_cases e : p < g
  · rw [if_neg (by omega), Int.add_zero] at b
    have l := cn_lt (P := P) p1 e hp2.1
    have pp := cn_pos (P := P) p1
    rw [← b, rta_lo (by omega) (by omega)]
    exact w
  · rw [if_pos (by omega)] at b
    have l := cn_lt (P := P) (p := g) (q := p) g0 (by omega) hg
    have l2 := cn_lt (P := P) (p := p) (q := s 1) p1 p2 hp2.1
    have := rta_mv (s := t) (k := cn P g) (j := cn P p - 1) (m := r) gp (by omega) (by rw [h.1]; omega) r1 r2
    rw [show cn P p - 1 + 1 = cn P p by omega] at this
    rw [show cn (fun q => P q && !decide (q = g)) p = cn P p - 1 by omega, this]
    exact w
theorem fL_uniq {P : Int → Bool} (h1 : fL s t P) (h2 : fL s u P) (h0 : 0 ≤ s 1) : t 1 = u 1 ∧ ∀ i : Int, 162 ≤ i → i < 162 + 4 * u 1 → t i = u i := by
  refine ⟨by rw [h1.1, h2.1], fun i i1 i2 => ?_⟩
  obtain ⟨p, p1, p2, p3, p4⟩ := cn_onto (P := P) (s 1).toNat ((i - 162) / 4) (by omega) (by
    have := h2.1
    rw [show (((s 1).toNat : Nat) : Int) = s 1 by omega]
    omega)
  have w1 := h1.2 p p1 (by omega) p3 ((i - 162) % 4) (by omega) (by omega)
  have w2 := h2.2 p p1 (by omega) p3 ((i - 162) % 4) (by omega) (by omega)
  rw [p4, show 162 + 4 * ((i - 162) / 4) + (i - 162) % 4 = i by omega] at w1 w2
  rw [w1, w2]
end rel
