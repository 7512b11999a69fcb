/-! what a show says: levels that are held -/
section rel
variable {X Y : Int → Int → Int} {s t : Int → Int}
theorem xlvF_cong {c : Int} (h3 : Y 3 c = X 3 c) : ∀ n : Nat, (∀ k : Int, 0 ≤ k → k < n → Y (7 + 5 * k) 2 = X (7 + 5 * k) 2 ∧ Y (7 + 5 * k + 3) c = X (7 + 5 * k + 3) c) → xlvF Y c n = xlvF X c n
  | 0, _ => h3
  | n + 1, h => by
    have ih := xlvF_cong h3 n (fun k k1 k2 => h k k1 (by omega))
    have hn := h (n : Int) (by omega) (by omega)
    unfold xlvF xlm xtk
    rw [hn.1, hn.2, ih, h3]
theorem xlv_cong {i c : Int} (h3 : Y 3 c = X 3 c) (h : ∀ k : Int, 0 ≤ k → k ≤ i → Y (7 + 5 * k) 2 = X (7 + 5 * k) 2 ∧ Y (7 + 5 * k + 3) c = X (7 + 5 * k + 3) c) : xlv Y i c = xlv X i c := xlvF_cong h3 _ (fun k k1 k2 => h k k1 (by omega))
theorem xlv_t {i c : Int} (i0 : 0 ≤ i) (h : xtk X i c) : xlv X i c = xlv X (i - 1) c := by
  unfold xlv
  rw [xlvF_s i0, if_pos h, show i - 1 + 1 = i by omega]
theorem xlv_n {i c : Int} (i0 : 0 ≤ i) (h : ¬ xtk X i c) : xlv X i c = xlm X (X (7 + 5 * i + 3) c) c := by
  unfold xlv
  rw [xlvF_s i0, if_neg h]
def xhF (pl : Int) (L : Int → Int) (N : Int → Bool) : Nat → Int → (Int → Int → Int) → (Int → Int → Int)
  | 0, _, Y => Y
  | n + 1, c, Y => xhF pl L N n (c + 1) (if N c = true then xpi Y pl c (L c) 0 else Y)
def hN (N : Int → Bool) : Nat → Int → Int
  | 0, _ => 0
  | n + 1, c => bI (N c = true) + hN N n (c + 1)
theorem hN_R (N : Int → Bool) : ∀ (n : Nat) (c : Int), 0 ≤ hN N n c ∧ hN N n c ≤ n
  | 0, _ => ⟨Int.le_refl _, Int.le_refl _⟩
  | n + 1, c => by
    have ih := hN_R N n (c + 1)
    have := bI_01 (N c = true)
    show 0 ≤ bI (N c = true) + hN N n (c + 1) ∧ bI (N c = true) + hN N n (c + 1) ≤ ((n + 1 : Nat) : Int)
    omega
theorem xpi_o {k c v p j d : Int} (k1 : 0 ≤ k) (j1 : 0 ≤ j) (hd : ¬ d = c ∨ ¬ j = k) : xpi X k c v p (7 + 5 * j + 3) d = X (7 + 5 * j + 3) d := by
  by_cases e : j = k
  · subst e
    rw [xpi_t3 k1, if_neg (by omega)]
  · rw [xpi_1 k1 (by omega) (by omega) (by omega) (by omega) (by omega)]
theorem xpi_b {k c v p j r : Int} (k1 : 0 ≤ k) (j1 : 0 ≤ j) : xpi X k c v p (7 + 5 * j) r = X (7 + 5 * j) r := by
  rw [xpi_1 k1 (by omega) (by omega) (by omega) (by omega) (by omega)]
theorem xpi_h {k c v p : Int} (k1 : 0 ≤ k) : xpi X k c v p 3 = X 3 := xpi_1 k1 (by omega) (by omega) (by omega) (by omega) (by omega)
theorem xpi_lv {k c v p i d : Int} (k1 : 0 ≤ k) (hd : ¬ d = c ∨ i < k) : xlv (xpi X k c v p) i d = xlv X i d :=
  xlv_cong (by rw [xpi_h k1]) (fun j j1 j2 => ⟨xpi_b k1 j1, xpi_o k1 j1 (by omega)⟩)
theorem cS_hF {lv : Int → Int} {pl was : Int} (N : Int → Bool) (p0 : 0 ≤ pl) : ∀ (n : Nat) (c : Int) (u : Int → Int) (Y : Int → Int → Int), 0 ≤ c → c + n = 12 → cS Y u → pl < u 0 →
    (∀ d : Int, c ≤ d → d ≤ 11 → ((Y (7 + 5 * pl + 3) d = -2 ∧ ¬ xlv Y pl d = lv (12 * was + d)) ↔ N d = true)) →
    (∀ d : Int, c ≤ d → d ≤ 11 → 0 ≤ lv (12 * was + d) ∧ lv (12 * was + d) ≤ 100) →
    (hN N n c = 0 → rhF lv pl was n c u = (0, u)) ∧ (0 < hN N n c → u (18 + 12 * pl + 3) = 1 → (rhF lv pl was n c u).1 = 1) ∧ (¬ u (18 + 12 * pl + 3) = 1 → 60 < u 1 + hN N n c → (rhF lv pl was n c u).1 = 2) ∧ (hN N n c = 0 ∨ ¬ u (18 + 12 * pl + 3) = 1 → u 1 + hN N n c ≤ 60 → (rhF lv pl was n c u).1 = 0 ∧ cS (xhF pl (fun d => lv (12 * was + d)) N n c Y) (rhF lv pl was n c u).2)
  | 0, c, u, Y, _, _, h, _, _, _ => by
    have := h.2.1.1.2.2.2.2
    refine ⟨fun _ => rfl, fun z => absurd z (by show ¬ (0 : Int) < 0; decide), fun _ z => ?_, fun _ _ => ⟨rfl, h⟩⟩
    have z2 : 60 < u 1 + 0 := z
    omega
  | n + 1, c, u, Y, c0, hn, h, hp, hN2, hL => by
    have hcn := cR_no h.2.1 h.2.2.1 p0 hp c0 (show c ≤ 11 by omega)
    have hlv := cR_lv h.2.1 h.2.2.1 (i := pl) (by omega) hp c0 (show c ≤ 11 by omega)
    have hc := hN2 c (Int.le_refl _) (by omega)
    have hLc := hL c (Int.le_refl _) (by omega)
    have h60 := h.2.1.1.2.2.2.2
    have hR := hN_R N n (c + 1)
    have hbI := bI_01 (N c = true)
    have hH : hN N (n + 1) c = bI (N c = true) + hN N n (c + 1) := rfl
    have hx : xhF pl (fun d => lv (12 * was + d)) N (n + 1) c Y = xhF pl (fun d => lv (12 * was + d)) N n (c + 1) (if N c = true then xpi Y pl c (lv (12 * was + c)) 0 else Y) := rfl
    have hr : rhF lv pl was (n + 1) c u = if rgv u (u (18 + 12 * pl)) c < 0 ∧ ¬ rlv u pl c = lv (12 * was + c) then (if u (18 + 12 * pl + 3) = 1 then (1, u) else if u 1 = 60 then (2, u) else rhF lv pl was n (c + 1) (rgi u (u (18 + 12 * pl)) c (lv (12 * was + c)) 0)) else rhF lv pl was n (c + 1) u := rfl
    have hcond : (rgv u (u (18 + 12 * pl)) c < 0 ∧ ¬ rlv u pl c = lv (12 * was + c)) ↔ N c = true := by
      rw [← hlv, ← hcn]; exact hc
    rw [hx, hr, hH]
    by_cases e : N c = true
    · rw [if_pos e, bI_t e, if_pos (hcond.mpr e)]
      by_cases ep : u (18 + 12 * pl + 3) = 1
      · rw [if_pos ep]
        exact ⟨fun z => by omega, fun _ _ => rfl, fun z _ => absurd ep z, fun z _ => by rcases z with z | z; omega; exact absurd ep z⟩
      · rw [if_neg ep]
        by_cases e6 : u 1 = 60
        · rw [if_pos e6]
          exact ⟨fun z => by omega, fun _ z => absurd z ep, fun _ _ => rfl, fun _ z => by omega⟩
        · rw [if_neg e6]
          have hg : rgv u (u (18 + 12 * pl)) c < 0 := hcn.mp (hc.mpr e).1
          have h2 := cS_gi h (c := c) (v := lv (12 * was + c)) (p := 0) p0 hp c0 (by omega) (by omega) hLc.2 (by decide) (by decide) (Or.inr (by omega))
          have t0 := rgi_0 h.2.1.1 (u (18 + 12 * pl)) c (lv (12 * was + c)) 0
          have t1 := rgi_1 h.2.1.1 (u (18 + 12 * pl)) c (lv (12 * was + c)) 0
          rw [if_pos hg] at t1
          have tp := rgi_ne h.2.1.1 (cue := u (18 + 12 * pl)) (ch := c) (lev := lv (12 * was + c)) (part := 0) (i := 18 + 12 * pl + 3) (Or.inr (by omega)) (by omega) (by
            have := h.2.1.1.2
            unfold rgk
            rw [if_pos hg]; omega)
          have ih := cS_hF N p0 n (c + 1) _ _ (by omega) (by omega) h2 (by rw [t0]; exact hp) (fun d d1 d2 => by
            rw [xpi_o p0 p0 (by omega), xpi_lv p0 (by omega)]
            exact hN2 d (by omega) d2) (fun d d1 d2 => hL d (by omega) d2)
          rw [tp, t1] at ih
          obtain ⟨i1, i2, i3, i4⟩ := ih
          refine ⟨fun z => by omega, fun _ z => absurd z ep, fun z1 z2 => i3 z1 (by omega), fun _ z => i4 (Or.inr ep) (by omega)⟩
    · rw [if_neg e, bI_f e, if_neg (fun z => e (hcond.mp z)), Int.zero_add]
      exact cS_hF N p0 n (c + 1) u Y (by omega) (by omega) h hp (fun d d1 d2 => hN2 d (by omega) d2) (fun d d1 d2 => hL d (by omega) d2)
theorem xhF_one {pl c : Int} {L : Int → Int} {P : Prop} [Decidable P] : ∀ (n : Nat) (c0 : Int) (Y : Int → Int → Int), xhF pl L (fun d => decide (d = c ∧ P)) n c0 Y = if P ∧ c0 ≤ c ∧ c < c0 + n then xpi Y pl c (L c) 0 else Y
  | 0, c0, Y => by
    rw [if_neg (by omega)]; rfl
  | n + 1, c0, Y => by
    show xhF pl L _ n (c0 + 1) (if decide (c0 = c ∧ P) = true then xpi Y pl c0 (L c0) 0 else Y) = _
    rw [xhF_one n (c0 + 1)]
    by_cases e : c0 = c
    · subst e
      rw [if_neg (by omega)]
      by_cases p : P
      · rw [if_pos (decide_eq_true ⟨rfl, p⟩), if_pos ⟨p, by omega, by omega⟩]
      · rw [if_neg (fun z => p (of_decide_eq_true z).2), if_neg (fun z => p z.1)]
    · rw [if_neg (show ¬ (decide (c0 = c ∧ P) = true) from fun z => e (of_decide_eq_true z).1)]
      by_cases q : P ∧ c0 + 1 ≤ c ∧ c < c0 + 1 + n
      · rw [if_pos q, if_pos ⟨q.1, by omega, by omega⟩]
      · rw [if_neg q, if_neg (fun z => q ⟨z.1, by omega, by omega⟩)]
theorem hN_one {c : Int} {P : Prop} [Decidable P] : ∀ (n : Nat) (c0 : Int), hN (fun d => decide (d = c ∧ P)) n c0 = bI (P ∧ c0 ≤ c ∧ c < c0 + n)
  | 0, c0 => (bI_f (by omega)).symm
  | n + 1, c0 => by
    show bI (decide (c0 = c ∧ P) = true) + hN _ n (c0 + 1) = _
    rw [hN_one n (c0 + 1)]
    by_cases e : c0 = c
    · subst e
      rw [bI_f (show ¬ (P ∧ c0 + 1 ≤ c0 ∧ c0 < c0 + 1 + n) by omega), Int.add_zero]
      apply bI_iff
      constructor
      · intro z; exact ⟨(of_decide_eq_true z).2, by omega, by omega⟩
      · intro z; exact decide_eq_true ⟨rfl, z.1⟩
    · rw [bI_f (fun z => e (of_decide_eq_true z).1), Int.zero_add]
      apply bI_iff
      constructor
      · intro z; exact ⟨z.1, by omega, by omega⟩
      · intro z; exact ⟨z.1, by omega, by omega⟩
theorem rkl_at {lv : Int → Int} {m k c : Int} (k1 : 0 ≤ k) (k2 : k < m) (c1 : 0 ≤ c) (c2 : c ≤ 11) : rkl s lv (12 * m) (12 * k + c) = rlv s k c := by
  unfold rkl
  rw [if_pos (by omega), show (12 * k + c) / 12 = k by omega, show (12 * k + c) % 12 = c by omega]
/-- the hold behind a change in one channel: Y the show after it, X before -/
theorem cS_hold1 (hX : cS X s) (hY : cS Y t) {lv : Int → Int} {k c : Int} (k1 : 0 ≤ k) (k2 : k < s 0) (e0 : t 0 = s 0) (c1 : 0 ≤ c) (c2 : c ≤ 11)
    (hblk : ∀ j : Int, 0 ≤ j → Y (7 + 5 * j) 2 = X (7 + 5 * j) 2) (h3 : Y 3 = X 3) (hc3 : ∀ j d : Int, 0 ≤ j → (¬ d = c ∨ ¬ j = k) → Y (7 + 5 * j + 3) d = X (7 + 5 * j + 3) d) {H : Prop} [Decidable H]
    (hH : H ↔ (k + 1 < s 0 ∧ xtk X (k + 1) c ∧ ¬ xlv X (k + 1) c = xlv Y k c)) :
    let r := rhd t (rkl s lv (12 * s 0)) (k + 1) (k + 1)
    (H → t (18 + 12 * (k + 1) + 3) = 1 → r.1 = 1) ∧ (¬ H → r = (0, t)) ∧ (H → ¬ t (18 + 12 * (k + 1) + 3) = 1 → 60 < t 1 + 1 → r.1 = 2) ∧ (H → ¬ t (18 + 12 * (k + 1) + 3) = 1 → t 1 + 1 ≤ 60 → r.1 = 0 ∧ cS (xpi Y (k + 1) c (xlv X k c) 0) r.2) := by
  intro r
  have hbt : ∀ j : Int, 0 ≤ j → j < s 0 → t (18 + 12 * j + 2) = s (18 + 12 * j + 2) := fun j j1 j2 => by
    rw [← (hY.2.2.1.2.2.1 j j1 (by omega)).2.2.1, ← (hX.2.2.1.2.2.1 j j1 j2).2.2.1, hblk j j1]
  by_cases g : k + 1 < t 0 ∧ ¬ t (18 + 12 * (k + 1) + 2) = 1
  · have hr : r = rhF (rkl s lv (12 * s 0)) (k + 1) (k + 1) 12 0 t := if_pos g
    have hb := hX.2.1.2.1 (k + 1) (by omega) (by omega)
    have hxb := (hX.2.2.1.2.2.1 (k + 1) (by omega) (by omega)).2.2.1
    have z0 : X (7 + 5 * (k + 1)) 2 = 0 := by
      have := hbt (k + 1) (by omega) (by omega)
      omega
    have L : ∀ d : Int, 0 ≤ d → d ≤ 11 → rkl s lv (12 * s 0) (12 * (k + 1) + d) = xlv X (k + 1) d := fun d d1 d2 => by
      rw [rkl_at (by omega) (by omega) d1 d2, cR_lv hX.2.1 hX.2.2.1 (by omega) (by omega) d1 d2]
    have main := cS_hF (lv := rkl s lv (12 * s 0)) (pl := k + 1) (was := k + 1) (fun d => decide (d = c ∧ H)) (by omega) 12 0 t Y (by decide) (by decide) hY g.1 (fun d d1 d2 => by
      rw [L d d1 d2, hc3 (k + 1) d (by omega) (by omega)]
      by_cases e : d = c
      · subst e
        constructor
        · rintro ⟨a1, a2⟩
          have tk : xtk X (k + 1) d := ⟨z0, a1⟩
          have tkY : xtk Y (k + 1) d := ⟨by rw [hblk _ (by omega)]; exact z0, by rw [hc3 (k + 1) d (by omega) (by omega)]; exact a1⟩
          rw [xlv_t (by omega) tkY, show k + 1 - 1 = k by omega] at a2
          exact decide_eq_true ⟨rfl, hH.mpr ⟨by omega, tk, fun z => a2 z.symm⟩⟩
        · intro z
          have hh := hH.mp (of_decide_eq_true z).2
          have tkY : xtk Y (k + 1) d := ⟨by rw [hblk _ (by omega)]; exact z0, by rw [hc3 (k + 1) d (by omega) (by omega)]; exact hh.2.1.2⟩
          refine ⟨hh.2.1.2, ?_⟩
          rw [xlv_t (by omega) tkY, show k + 1 - 1 = k by omega]
          exact fun z => hh.2.2 z.symm
      · constructor
        · rintro ⟨-, a2⟩
          exact absurd (xlv_cong (by rw [h3]) (fun j j1 j2 => ⟨hblk j j1, hc3 j d j1 (Or.inl e)⟩)) a2
        · intro z; exact absurd (of_decide_eq_true z).1 e) (fun d d1 d2 => by
      rw [L d d1 d2]
      have := hX.2.1.1.2
      exact xI_lv (cS_I hX) d1 d2 _ (by rw [cR_n hX.2.2.1]; omega))
    rw [hN_one, xhF_one] at main
    rw [hr]
    obtain ⟨m1, m2, m3, m4⟩ := main
    by_cases hh : H
    · have b1 : bI (H ∧ (0 : Int) ≤ c ∧ c < 0 + ((12 : Nat) : Int)) = 1 := bI_t ⟨hh, c1, by omega⟩
      rw [b1] at m1 m2 m3 m4
      rw [if_pos ⟨hh, c1, by omega⟩] at m4
      have ht := (hH.mp hh).2.1
      have lk := xlv_t (X := X) (i := k + 1) (by omega) ht
      rw [show k + 1 - 1 = k by omega] at lk
      refine ⟨fun _ z => m2 (by decide) z, fun z => absurd hh z, fun _ z1 z2 => m3 z1 z2, fun _ z1 z2 => ?_⟩
      have w := m4 (Or.inr z1) z2
      rw [← lk, ← L c c1 c2]
      exact w
    · have b0 : bI (H ∧ (0 : Int) ≤ c ∧ c < 0 + ((12 : Nat) : Int)) = 0 := bI_f (fun z => hh z.1)
      rw [b0] at m1
      exact ⟨fun z => absurd z hh, fun _ => m1 rfl, fun z => absurd z hh, fun z => absurd z hh⟩
  · have hr : r = (0, t) := if_neg g
    have hh : ¬ H := fun z => by
      have w := hH.mp z
      refine g ⟨by omega, fun y => ?_⟩
      have hxb := (hX.2.2.1.2.2.1 (k + 1) (by omega) (by omega)).2.2.1
      have hz := w.2.1.1
      have := hbt (k + 1) (by omega) (by omega)
      omega
    exact ⟨fun z => absurd z hh, fun _ => hr, fun z => absurd z hh, fun z => absurd z hh⟩
end rel
