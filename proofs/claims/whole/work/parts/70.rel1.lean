/-! what a show says is what a row of the reference says: reading -/
def cR (X : Int → Int → Int) (s : Int → Int) : Prop :=
  (X 1 1 = s 0 ∧ X 1 5 = s 1 ∧ X 67 5 = s 2 ∧ xsi X = s 3 ∧ X 67 7 = s 4 ∧ X 67 8 = s 5) ∧
  (∀ c : Int, 0 ≤ c → c ≤ 11 → X 3 c = s (6 + c)) ∧
  (∀ k : Int, 0 ≤ k → k < s 0 → X (7 + 5 * k) 0 = s (18 + 12 * k) ∧ X (7 + 5 * k) 1 = s (18 + 12 * k + 1) ∧ X (7 + 5 * k) 2 = s (18 + 12 * k + 2) ∧ X (7 + 5 * k) 3 = s (18 + 12 * k + 3)) ∧
  (∀ k p : Int, 0 ≤ k → k < s 0 → 0 ≤ p → p ≤ 3 → X (7 + 5 * k + 1) p = s (18 + 12 * k + 4 + 2 * p) ∧ X (7 + 5 * k + 2) p = s (18 + 12 * k + 4 + 2 * p + 1)) ∧
  (∀ p : Int, 0 ≤ p → p < s 1 → X 4 p = s (162 + 4 * p) ∧ X 5 p = s (162 + 4 * p + 1)) ∧
  (∀ k c : Int, 0 ≤ k → k < s 0 → 0 ≤ c → c ≤ 11 → (rgv s (s (18 + 12 * k)) c < 0 ∧ X (7 + 5 * k + 3) c = -2) ∨ (0 ≤ rgv s (s (18 + 12 * k)) c ∧ X (7 + 5 * k + 3) c = s (162 + 4 * rgv s (s (18 + 12 * k)) c + 2) ∧ X (7 + 5 * k + 4) c = s (162 + 4 * rgv s (s (18 + 12 * k)) c + 3))) ∧
  (∀ c : Int, 0 ≤ c → c ≤ 11 → X 68 c = s (402 + 5 * c) ∧ X 69 c = s (402 + 5 * c + 1) ∧ X 67 8 - X 70 c = s (402 + 5 * c + 2) ∧ X 71 c = s (402 + 5 * c + 3) ∧ X 72 c = s (402 + 5 * c + 4))
section rel
variable {X : Int → Int → Int} {s : Int → Int}
theorem cR_n (hc : cR X s) : X 1 1 = s 0 := hc.1.1
theorem cR_m (hc : cR X s) : X 1 5 = s 1 := hc.1.2.1
theorem cR_ix (hc : cR X s) (n : Int) : xix X n = rpl s n := by
  unfold xix rpl
  rw [cR_n hc]
  apply zfst_congr
  intro k h1 h2
  rw [(hc.2.2.1 k h1 (by omega)).1]
/-- what an instruction says -/
theorem cR_no (hi : rI s) (hc : cR X s) {k c : Int} (k1 : 0 ≤ k) (k2 : k < s 0) (c1 : 0 ≤ c) (c2 : c ≤ 11) : X (7 + 5 * k + 3) c = -2 ↔ rgv s (s (18 + 12 * k)) c < 0 := by
  rcases hc.2.2.2.2.2.1 k c k1 k2 c1 c2 with h | h
  · exact ⟨fun _ => h.1, fun _ => h.2⟩
  · have z := hi.2.2.2.2.1 (rgv s (s (18 + 12 * k)) c) h.1 (rgv_val h.1).2
    constructor
    · intro e; rw [h.2.1] at e; omega
    · intro e; omega
theorem cR_tk (hi : rI s) (hc : cR X s) {k c : Int} (k1 : 0 ≤ k) (k2 : k < s 0) (c1 : 0 ≤ c) (c2 : c ≤ 11) : xtk X k c ↔ (rgv s (s (18 + 12 * k)) c < 0 ∧ ¬ s (18 + 12 * k + 2) = 1) := by
  have h1 := cR_no hi hc k1 k2 c1 c2
  have h2 := (hc.2.2.1 k k1 k2).2.2.1
  have h3 := (hi.2.1 k k1 k2).2.2.1
  unfold xtk
  rw [h1, h2]
  constructor
  · rintro ⟨e1, e2⟩; exact ⟨e2, by omega⟩
  · rintro ⟨e1, e2⟩; exact ⟨by omega, e1⟩
theorem cR_lvF (hi : rI s) (hc : cR X s) {c : Int} (c1 : 0 ≤ c) (c2 : c ≤ 11) : ∀ n : Nat, (n : Int) ≤ s 0 → xlvF X c n = rlvF s c n
  | 0, _ => hc.2.1 c c1 c2
  | n + 1, hn => by
    have ih := cR_lvF hi hc c1 c2 n (by omega)
    have ht := cR_tk hi hc (k := (n : Int)) (by omega) (by omega) c1 c2
    have hh := hc.2.1 c c1 c2
    have hd := hc.2.2.2.2.2.1 (n : Int) c (by omega) (by omega) c1 c2
    have hb := hi.2.1 (n : Int) (by omega) (by omega)
    unfold xlvF rlvF xlm
    by_cases g : 0 ≤ rgv s (s (18 + 12 * (n : Int))) c
    · have z := hi.2.2.2.2.1 (rgv s (s (18 + 12 * (n : Int))) c) g (rgv_val g).2
      rw [if_neg (fun e => by have := (ht.mp e).1; omega), if_pos g]
      rcases hd with hd | hd
      · omega
      · rw [hd.2.1]
        by_cases e : s (162 + 4 * rgv s (s (18 + 12 * (n : Int))) c + 2) = -1
        · rw [if_neg (by omega), if_pos e, hh]
        · rw [if_pos (by omega), if_neg e]
    · rw [if_neg g]
      by_cases e : s (18 + 12 * (n : Int) + 2) = 1
      · rw [if_neg (fun q => (ht.mp q).2 e), if_pos e]
        rcases hd with hd | hd
        · rw [if_neg (by omega), hh]
        · omega
      · rw [if_pos (ht.mpr ⟨by omega, e⟩), if_neg e, ih]
theorem cR_lv (hi : rI s) (hc : cR X s) {i c : Int} (i1 : -1 ≤ i) (i2 : i < s 0) (c1 : 0 ≤ c) (c2 : c ≤ 11) : xlv X i c = rlv s i c := cR_lvF hi hc c1 c2 _ (by omega)
theorem cR_pf (hi : rI s) (hc : cR X s) {k c : Int} (k1 : 0 ≤ k) (k2 : k < s 0) (c1 : 0 ≤ c) (c2 : c ≤ 11) : xpf X k c = rpo s (s (18 + 12 * k)) c := by
  have h := cR_no hi hc k1 k2 c1 c2
  unfold xpf rpo
  by_cases g : 0 ≤ rgv s (s (18 + 12 * k)) c
  · rw [if_neg (fun e => by have := h.mp e; omega), if_pos g]
    rcases hc.2.2.2.2.2.1 k c k1 k2 c1 c2 with hd | hd
    · omega
    · exact hd.2.2
  · rw [if_pos (h.mpr (by omega)), if_neg g]
theorem cR_sr (hi : rI s) (hc : cR X s) {c : Int} (c1 : 0 ≤ c) (c2 : c ≤ 11) (h0 : 0 < s 0) : ∀ n : Nat, (n : Int) < s 0 → X (7 + 5 * xsr X c n) 0 = rsrF s c n
  | 0, _ => (hc.2.2.1 0 (Int.le_refl _) h0).1
  | n + 1, hn => by
    have ih := cR_sr hi hc c1 c2 h0 n (by omega)
    have ht := cR_tk hi hc (k := (n : Int) + 1) (by omega) (by omega) c1 c2
    have e1 := xsr_s (X := X) (c := c) (k := (n : Int) + 1) (by omega)
    have e2 := rsrF_s (s := s) (ch := c) (k := (n : Int) + 1) (by omega)
    rw [show ((n : Int) + 1).toNat = n + 1 by omega, show ((n : Int) + 1 - 1).toNat = n by omega] at e1 e2
    rw [e1, e2]
    by_cases g : xtk X ((n : Int) + 1) c
    · rw [if_pos g, if_pos (ht.mp g), ih]
    · rw [if_neg g, if_neg (fun q => g (ht.mpr q))]
      exact (hc.2.2.1 ((n : Int) + 1) (by omega) (by omega)).1
/-- an entry of the list is what is given -/
theorem rgv_at (hi : rI s) {p : Int} (p1 : 0 ≤ p) (p2 : p < s 1) : rgv s (s (162 + 4 * p)) (s (162 + 4 * p + 1)) = p := by
  unfold rgv
  apply zfst_eq p1 (by have := hi.1.2.2.2.1; omega)
  · simp
  · intro j h1 h2
    have := hi.2.2.2.2.2.1 j p h1 h2 p2
    simp only [Bool.and_eq_false_iff, beq_eq_false_iff_ne, ne_eq]
    by_cases e : s (162 + 4 * j) = s (162 + 4 * p)
    · exact Or.inr (fun z => this ⟨e, z⟩)
    · exact Or.inl e
theorem cR_ll (hi : rI s) (hc : cR X s) {p : Int} (p1 : 0 ≤ p) (p2 : p < s 1) : xll X p = s (162 + 4 * p + 2) ∧ xlp X p = s (162 + 4 * p + 3) := by
  have hp := hc.2.2.2.2.1 p p1 p2
  have hl := hi.2.2.2.2.1 p p1 p2
  have hv := rpl_val hl.1
  have hg := rgv_at hi p1 p2
  have hx := cR_ix hc (s (162 + 4 * p))
  unfold xll xlp
  rw [hp.1, hp.2, hx, if_neg (by omega), if_neg (by omega)]
  rcases hc.2.2.2.2.2.1 (rpl s (s (162 + 4 * p))) (s (162 + 4 * p + 1)) hl.1 hv.2 hl.2.1.1 hl.2.1.2 with hd | hd
  · rw [hv.1, hg] at hd; omega
  · rw [hv.1, hg] at hd; exact ⟨hd.2.1, hd.2.2⟩
theorem cR_mv (hi : rI s) (hc : cR X s) {k : Int} (k1 : 0 ≤ k) (k2 : k < s 0) : ∀ c : Int, 0 ≤ c → c < 12 → ((¬ xlv X k c = xlv X (k - 1) c) ↔ ¬ rlv s k c = rlv s (k - 1) c) := by
  intro c c1 c2
  rw [cR_lv hi hc (by omega) k2 c1 (by omega), cR_lv hi hc (by omega) (by omega) c1 (by omega)]
theorem rmk_congr {p q : Int → Bool} : ∀ n : Nat, (∀ k : Int, 0 ≤ k → k < n → p k = q k) → rmk p n = rmk q n
  | 0, _ => rfl
  | n + 1, h => by
    have ih := rmk_congr n (fun k h1 h2 => h k h1 (by omega))
    have e1 := rmk_s (p := p) (k := (n : Int)) (by omega)
    have e2 := rmk_s (p := q) (k := (n : Int)) (by omega)
    rw [show ((n : Int) + 1).toNat = n + 1 by omega, show ((n : Int)).toNat = n by omega] at e1 e2
    rw [e1, e2, ih, h (n : Int) (by omega) (by omega)]
theorem bI_iff {p q : Prop} [Decidable p] [Decidable q] (h : p ↔ q) : bI p = bI q := by
  by_cases e : p
  · rw [bI_t e, bI_t (h.mp e)]
  · rw [bI_f e, bI_f (fun z => e (h.mpr z))]
theorem cR_xmv (hi : rI s) (hc : cR X s) {k : Int} (k1 : 0 ≤ k) (k2 : k < s 0) : xmv X k = rmk (fun c => decide (¬ rlv s k c = rlv s (k - 1) c)) 12 :=
  rmk_congr 12 (fun c c1 c2 => decide_eq_decide.mpr (cR_mv hi hc k1 k2 c c1 (by omega)))
theorem cR_xmc (hi : rI s) (hc : cR X s) : zsum (fun k => xmc X k) (X 1 1).toNat = zsum (fun k => rmc s k) (s 0).toNat := by
  rw [cR_n hc]
  apply zsum_congr
  intro k k1 k2
  exact zsum_congr 12 (fun c c1 c2 => bI_iff (cR_mv hi hc k1 (by have := hi.1.2.1; omega) c c1 (by omega)))
theorem cR_ln (hi : rI s) (hc : cR X s) {k c : Int} (k1 : 0 ≤ k) (k2 : k < s 0) (c1 : 0 ≤ c) (c2 : c ≤ 11) : X (7 + 5 * k + 1) (xpf X k c) + X (7 + 5 * k + 2) (xpf X k c) = rln s (s (18 + 12 * k)) c := by
  have hp := cR_pf hi hc k1 k2 c1 c2
  have hr : 0 ≤ rpo s (s (18 + 12 * k)) c ∧ rpo s (s (18 + 12 * k)) c ≤ 3 := by
    unfold rpo
    split
    · rename_i g
      exact (hi.2.2.2.2.1 _ g (rgv_val g).2).2.2.2
    · decide
  have h4 := hc.2.2.2.1 k (rpo s (s (18 + 12 * k)) c) k1 k2 hr.1 hr.2
  unfold rln
  rw [hp, rpl_uq hi k1 k2, h4.1, h4.2, Int.add_zero]
theorem cR_lgF (hi : rI s) (hc : cR X s) {k : Int} (k1 : 0 ≤ k) (k2 : k < s 0) : ∀ n : Nat, n ≤ 12 → xlgF X k n = rlgF s (s (18 + 12 * k)) n
  | 0, _ => rfl
  | n + 1, hn => by
    have ih := cR_lgF hi hc k1 k2 n (by omega)
    have e1 := xlgF_s (X := X) (k := k) (m := (n : Int)) (by omega)
    have e2 := rlgF_s (s := s) (cue := s (18 + 12 * k)) (k := (n : Int)) (by omega)
    rw [show ((n : Int) + 1).toNat = n + 1 by omega, show ((n : Int)).toNat = n by omega] at e1 e2
    rw [e1, e2, ih, cR_ln hi hc k1 k2 (by omega) (by omega), rpl_uq hi k1 k2, cR_lv hi hc (by omega) k2 (by omega) (by omega), cR_lv hi hc (by omega) (by omega) (by omega) (by omega)]
theorem cR_nk (hc : cR X s) : xnk X = rnk s (s 2) := by
  unfold xnk rnk
  rw [cR_n hc]
  apply zfst_congr
  intro k h1 h2
  rw [(hc.2.2.1 k h1 (by omega)).1, hc.1.2.2.1]
theorem cR_nx (hi : rI s) (hc : cR X s) : xnx X = rnx s (s 2) := by
  have hr := rnk_R hi.1 (s 2)
  unfold xnx rnx
  rw [cR_nk hc]
  by_cases e : rnk s (s 2) = -1
  · rw [if_pos (by omega), if_pos e]
  · rw [if_neg (by omega), if_neg e, (hc.2.2.1 (rnk s (s 2)) (by omega) hr.2.1).1]
theorem cR_lk (hc : cR X s) : ∀ n : Nat, (n : Int) ≤ s 0 → (xlkF X n = -1 ∧ rahF s (s 2) n = 0) ∨ (0 ≤ xlkF X n ∧ xlkF X n < n ∧ s (18 + 12 * xlkF X n) = rahF s (s 2) n)
  | 0, _ => Or.inl ⟨rfl, rfl⟩
  | n + 1, hn => by
    have ih := cR_lk hc n (by omega)
    have e1 := xlkF_s (X := X) (k := (n : Int)) (by omega)
    have e2 := rahF_s (s := s) (num := s 2) (k := (n : Int)) (by omega)
    rw [show ((n : Int) + 1).toNat = n + 1 by omega] at e1 e2
    rw [show ((n : Int) - 1 + 1).toNat = n by omega] at e1
    rw [show ((n : Int)).toNat = n by omega] at e2
    have h0 := (hc.2.2.1 (n : Int) (by omega) (by omega)).1
    rw [e1, e2, h0, hc.1.2.2.1]
    by_cases g : s (18 + 12 * (n : Int)) < s 2
    · rw [if_pos g, if_pos g]
      exact Or.inr ⟨by omega, by omega, rfl⟩
    · rw [if_neg g, if_neg g]
      rcases ih with h | h
      · exact Or.inl h
      · exact Or.inr ⟨h.1, by omega, h.2.2⟩
theorem cR_now (hi : rI s) (hc : cR X s) {c : Int} (c1 : 0 ≤ c) (c2 : c ≤ 11) : xnow X c = rnow s c := by
  have hd := hc.2.2.2.2.2.2 c c1 c2
  have hf := hi.2.2.2.2.2.2.2.1 c c1 c2
  unfold xnow rnow
  rw [hd.1, hd.2.1, hd.2.2.1, hd.2.2.2.1, hd.2.2.2.2]
  by_cases e : s (402 + 5 * c + 3) + s (402 + 5 * c + 4) ≤ s (402 + 5 * c + 2)
  · rw [if_pos (by omega), if_pos e]
  · rw [if_neg (by omega), if_neg e]
    by_cases e2 : s (402 + 5 * c + 2) ≤ s (402 + 5 * c + 3)
    · rw [if_pos (by omega), if_pos e2]
    · rw [if_neg (by omega), if_neg e2]
theorem cR_fd (hc : cR X s) {c : Int} (c1 : 0 ≤ c) (c2 : c ≤ 11) : xfd X c ↔ rfa s c := by
  have hd := hc.2.2.2.2.2.2 c c1 c2
  unfold xfd rfa
  rw [hd.2.2.1, hd.2.2.2.1, hd.2.2.2.2]
theorem cR_fds (hc : cR X s) : rmk (fun c => decide (xfd X c)) 12 = rmk (fun c => decide (rfa s c)) 12 := rmk_congr 12 (fun c c1 c2 => decide_eq_decide.mpr (cR_fd hc c1 (by omega)))
theorem cR_sfd (hc : cR X s) : zsum (fun c => bI (xfd X c)) 12 = zsum (fun c => bI (rfa s c)) 12 := zsum_congr 12 (fun c c1 c2 => bI_iff (cR_fd hc c1 (by omega)))
theorem cR_snow (hi : rI s) (hc : cR X s) : zsum (fun c => xnow X c) 12 = zsum (fun c => rnow s c) 12 := zsum_congr 12 (fun c c1 c2 => cR_now hi hc c1 (by omega))
theorem cR_stg (hc : cR X s) : zsum (fun c => X 69 c) 12 = zsum (fun c => s (402 + 5 * c + 1)) 12 := zsum_congr 12 (fun c c1 c2 => (hc.2.2.2.2.2.2 c c1 (by omega)).2.1)
theorem bI_nz {v : Int} (h : v = 0 ∨ v = 1) : bI (¬ v = 0) = v := by
  rcases h with e | e
  · rw [e]; rfl
  · rw [e]; rfl
theorem cR_prt (hi : rI s) (hc : cR X s) : zsum (fun k => bI (¬ X (7 + 5 * k) 3 = 0)) (X 1 1).toNat = zsum (fun k => s (18 + 12 * k + 3)) (s 0).toNat := by
  have h0 := hi.1.2.1
  rw [cR_n hc]
  exact zsum_congr _ (fun k k1 k2 => by rw [(hc.2.2.1 k k1 (by omega)).2.2.2]; exact bI_nz (hi.2.1 k k1 (by omega)).2.2.2)
theorem cR_blk (hi : rI s) (hc : cR X s) : zsum (fun k => bI (¬ X (7 + 5 * k) 2 = 0)) (X 1 1).toNat = zsum (fun k => s (18 + 12 * k + 2)) (s 0).toNat := by
  have h0 := hi.1.2.1
  rw [cR_n hc]
  exact zsum_congr _ (fun k k1 k2 => by rw [(hc.2.2.1 k k1 (by omega)).2.2.1]; exact bI_nz (hi.2.1 k k1 (by omega)).2.2.1)
theorem cR_rel (hi : rI s) (hc : cR X s) : zsum (fun k => bI (xll X k = -1)) (X 1 5).toNat = zsum (fun k => bI (s (162 + 4 * k + 2) = -1)) (s 1).toNat := by
  have h0 := hi.1.2.2.2.1
  rw [cR_m hc]
  exact zsum_congr _ (fun k k1 k2 => by rw [(cR_ll hi hc k1 (by omega)).1])
theorem cR_slv (hi : rI s) (hc : cR X s) {i : Int} (i1 : 0 ≤ i) (i2 : i < s 0) : zsum (fun c => xlv X i c) 12 = zsum (fun c => rlv s i c) 12 := zsum_congr 12 (fun c c1 c2 => cR_lv hi hc (by omega) i2 c1 (by omega))
theorem cR_apt (hi : rI s) (hc : cR X s) {i j : Int} (i1 : 0 ≤ i) (i2 : i < s 0) (j1 : 0 ≤ j) (j2 : j < s 0) : zsum (fun c => bI (¬ xlv X i c = xlv X j c)) 12 = zsum (fun c => bI (¬ rlv s i c = rlv s j c)) 12 :=
  zsum_congr 12 (fun c c1 c2 => by rw [cR_lv hi hc (by omega) i2 c1 (by omega), cR_lv hi hc (by omega) j2 c1 (by omega)])
end rel
