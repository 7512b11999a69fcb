/-! the reference's rows stay good: cues come and go -/
theorem rsh_mv {s : Int → Int} {p j m : Int} (h0 : 0 ≤ p) (h1 : p ≤ j) (h2 : j < s 0 - 1) (h3 : 0 ≤ m) (h4 : m ≤ 11) : rsh s p (18 + 12 * j + m) = s (18 + 12 * (j + 1) + m) := by
  unfold rsh
  rw [zcpy_in (by omega), zu_ne _ (by omega)]
  exact congrArg s (by omega)
theorem rsh_lo {s : Int → Int} {p i : Int} (h0 : i ≠ 0) (h : i < 18 + 12 * p) : rsh s p i = s i := by
  unfold rsh
  rw [zcpy_out (by omega), zu_ne _ h0]
theorem rsh_hi {s : Int → Int} (hs : rB s) {p i : Int} (h0 : 0 ≤ p) (h : p < s 0) (h2 : 162 ≤ i) : rsh s p i = s i := by
  have := hs.2
  unfold rsh
  rw [zcpy_out (by omega), zu_ne _ (by omega)]
theorem rsh_I {s : Int → Int} (hi : rI s) {p : Int} (h1 : 0 ≤ p) (h2 : p < s 0) (hno : ∀ k : Int, 0 ≤ k → k < s 1 → ¬ s (162 + 4 * k) = s (18 + 12 * p)) : rI (rsh s p) := by
  have hs := rI_B hi
  have hB := rsh_B hs h1 h2
  have e0 := rsh_0 (s := s) h1
  have key : ∀ j : Int, 0 ≤ j → j < s 0 - 1 → ∃ q : Int, (q = j ∧ j < p ∨ q = j + 1 ∧ p ≤ j) ∧ (∀ m : Int, 0 ≤ m → m ≤ 11 → rsh s p (18 + 12 * j + m) = s (18 + 12 * q + m)) := by
    intro j j1 j2
    by_cases g : j < p
    · exact ⟨j, Or.inl ⟨rfl, g⟩, fun m m1 m2 => rsh_lo (by omega) (by omega)⟩
    · exact ⟨j + 1, Or.inr ⟨rfl, by omega⟩, fun m m1 m2 => rsh_mv h1 (by omega) j2 m1 m2⟩
  have key0 : ∀ j : Int, 0 ≤ j → j < s 0 - 1 → ∀ q : Int, (∀ m : Int, 0 ≤ m → m ≤ 11 → rsh s p (18 + 12 * j + m) = s (18 + 12 * q + m)) → rsh s p (18 + 12 * j) = s (18 + 12 * q) := by
    intro j _ _ q hq
    have z := hq 0 (by decide) (by decide)
    rwa [Int.add_zero, Int.add_zero] at z
  refine rI_cue hi hB.1 (fun i a b => rsh_lo (by omega) (by omega)) (fun i a => rsh_hi hs h1 h2 a) ⟨hB.2.1, hB.2.2.1⟩ ?_ ?_ ?_ ?_
  · intro j j1 j2
    obtain ⟨q, q1, q2⟩ := key j j1 (by omega)
    rw [key0 j j1 (by omega) q q2, q2 1 (by decide) (by decide), q2 2 (by decide) (by decide), q2 3 (by decide) (by decide)]
    exact hi.2.1 q (by omega) (by omega)
  · intro i j i1 i2 i3
    obtain ⟨q, q1, q2⟩ := key i i1 (by omega)
    obtain ⟨r, r1, r2⟩ := key j (by omega) (by omega)
    rw [key0 i i1 (by omega) q q2, key0 j (by omega) (by omega) r r2]
    exact hi.2.2.1 q r (by omega) (by omega) (by omega)
  · intro i j i1 i2 j1 j2
    obtain ⟨q, q1, q2⟩ := key i i1 (by omega)
    rw [q2 j (by omega) (by omega)]
    exact hi.2.2.2.1 q j (by omega) (by omega) j1 j2
  · intro k k1 k2
    have hv := rpl_val (hi.2.2.2.2.1 k k1 k2).1
    have hp := (hi.2.2.2.2.1 k k1 k2).1
    by_cases g : rpl s (s (162 + 4 * k)) < p
    · refine rpl_of hp (by omega) ?_
      rw [rsh_lo (by omega) (by omega)]
      exact hv.1
    · by_cases g2 : rpl s (s (162 + 4 * k)) = p
      · rw [g2] at hv
        exact absurd hv.1.symm (hno k k1 k2)
      · refine rpl_of (k := rpl s (s (162 + 4 * k)) - 1) (by omega) (by omega) ?_
        have z := rsh_mv (s := s) (p := p) (j := rpl s (s (162 + 4 * k)) - 1) (m := 0) h1 (by omega) (by omega) (by decide) (by decide)
        rw [Int.add_zero, Int.add_zero, show rpl s (s (162 + 4 * k)) - 1 + 1 = rpl s (s (162 + 4 * k)) by omega] at z
        exact z.trans hv.1
theorem rap_spec {s : Int → Int} (hs : rB s) (n : Int) : (∀ j : Int, 0 ≤ j → j < rap s n → s (18 + 12 * j) < n) ∧ (rap s n < s 0 → ¬ s (18 + 12 * rap s n) < n) := by
  have h1 := hs.2.1
  unfold rap
  rcases zfst_spec (fun k => !decide (s (18 + 12 * k) < n)) (s 0).toNat with ⟨g1, g2⟩ | ⟨g1, g2, g3, g4⟩
  · rw [if_pos g1]
    refine ⟨fun j j1 j2 => ?_, fun h => absurd h (by omega)⟩
    have := g2 j j1 (by omega)
    simpa using this
  · rw [if_neg (by omega)]
    refine ⟨fun j j1 j2 => ?_, fun _ => ?_⟩
    · have := g4 j j1 j2
      simpa using this
    · simpa using g3
theorem rAs_at {s : Int → Int} {n i : Int} (h0 : i ≠ 0) (h1 : i ≠ 18 + 12 * rap s n) (h2 : i ≠ 18 + 12 * rap s n + 1) (h3 : ¬ (18 + 12 * rap s n ≤ i ∧ i < 18 + 12 * rap s n + 12)) : rAs s n i = rAm s (rap s n) i := by
  unfold rAs
  rw [zu_ne _ h0, zu_ne _ h2, zu_ne _ h1]
  exact if_neg h3
theorem rAs_lo {s : Int → Int} {n i : Int} (h0 : i ≠ 0) (h : i < 18 + 12 * rap s n) : rAs s n i = s i := by
  rw [rAs_at h0 (by omega) (by omega) (by omega)]
  unfold rAm
  rw [zcpy_out (by omega)]
theorem rAs_mv {s : Int → Int} {n j m : Int} (h0 : 0 ≤ rap s n) (h1 : rap s n ≤ j) (h2 : j < s 0) (h3 : 0 ≤ m) (h4 : m ≤ 11) : rAs s n (18 + 12 * (j + 1) + m) = s (18 + 12 * j + m) := by
  rw [rAs_at (by omega) (by omega) (by omega) (by omega)]
  unfold rAm
  rw [zcpy_in (by omega)]
  exact congrArg s (by omega)
theorem rAs_new {s : Int → Int} {n : Int} (h0 : 0 ≤ rap s n) : rAs s n (18 + 12 * rap s n) = n ∧ rAs s n (18 + 12 * rap s n + 1) = -1 ∧ ∀ m : Int, 2 ≤ m → m ≤ 11 → rAs s n (18 + 12 * rap s n + m) = 0 := by
  unfold rAs
  refine ⟨?_, ?_, fun m m1 m2 => ?_⟩
  · rw [zu_ne _ (by omega), zu_ne _ (by omega), zu_at]
  · rw [zu_ne _ (by omega), zu_at]
  · rw [zu_ne _ (by omega), zu_ne _ (by omega), zu_ne _ (by omega)]
    exact if_pos (by omega)
theorem rAs_hi {s : Int → Int} (hs : rB s) {n i : Int} (h : s 0 < 12) (h2 : 162 ≤ i) : rAs s n i = s i := by
  have hp := rap_R hs n
  rw [rAs_at (by omega) (by omega) (by omega) (by omega)]
  unfold rAm
  rw [zcpy_out (by omega)]
theorem rAs_0 {s : Int → Int} {n : Int} : rAs s n 0 = s 0 + 1 := zu_at _ _ _
theorem rAs_B {s : Int → Int} (hs : rB s) {n : Int} (hn : zR n) (h : s 0 < 12) : rB (rAs s n) := by
  have e0 := rAs_0 (s := s) (n := n)
  have hp := rap_R hs n
  have e1 := rAs_lo (s := s) (n := n) (i := 1) (by decide) (by omega)
  obtain ⟨hR, b1, b2, b3, b4⟩ := hs
  refine ⟨?_, by omega, by omega, by omega, by omega⟩
  unfold rAs
  refine zu_R (zu_R (zu_R (fun i => ?_) hn) ⟨by decide, by decide⟩) ⟨by omega, by omega⟩
  unfold zfil
  split
  · exact ⟨by decide, by decide⟩
  · exact zcpy_R hR hR i
theorem rAs_I {s : Int → Int} (hi : rI s) {n : Int} (n1 : 1 ≤ n) (n2 : n ≤ 99) (hno : ¬ 0 ≤ rpl s n) (h : s 0 < 12) : rI (rAs s n) := by
  have hs := rI_B hi
  have hB := rAs_B hs (n := n) (by omega) h
  have e0 := rAs_0 (s := s) (n := n)
  have hp := rap_R hs n
  obtain ⟨hlt, hge⟩ := rap_spec hs n
  have hw := rAs_new (s := s) (n := n) hp.1
  have hge2 : ∀ j : Int, rap s n ≤ j → j < s 0 → n < s (18 + 12 * j) := by
    intro j j1 j2
    have h1 := hge (by omega)
    have h2 : ¬ s (18 + 12 * j) = n := fun z => hno (rpl_of (by omega) j2 z)
    rcases (show j = rap s n ∨ rap s n < j by omega) with q | q
    · rw [q] at h2 ⊢; omega
    · have h3 := hi.2.2.1 (rap s n) j hp.1 q j2
      omega
  have key : ∀ j : Int, 0 ≤ j → j < s 0 + 1 → j ≠ rap s n → ∃ q : Int, (q = j ∧ j < rap s n ∨ q = j - 1 ∧ rap s n < j) ∧ rAs s n (18 + 12 * j) = s (18 + 12 * q) ∧ (∀ m : Int, 0 ≤ m → m ≤ 11 → rAs s n (18 + 12 * j + m) = s (18 + 12 * q + m)) := by
    intro j j1 j2 j3
    by_cases g : j < rap s n
    · exact ⟨j, Or.inl ⟨rfl, g⟩, rAs_lo (by omega) (by omega), fun m m1 m2 => rAs_lo (by omega) (by omega)⟩
    · have hm : ∀ m : Int, 0 ≤ m → m ≤ 11 → rAs s n (18 + 12 * j + m) = s (18 + 12 * (j - 1) + m) := fun m m1 m2 => by
        have z := rAs_mv (s := s) (n := n) (j := j - 1) (m := m) hp.1 (by omega) (by omega) m1 m2
        rwa [show j - 1 + 1 = j by omega] at z
      have z := hm 0 (by decide) (by decide)
      rw [Int.add_zero, Int.add_zero] at z
      exact ⟨j - 1, Or.inr ⟨rfl, by omega⟩, z, hm⟩
  refine rI_cue hi hB.1 (fun i a b => rAs_lo (by omega) (by omega)) (fun i a => rAs_hi hs h a) ⟨hB.2.1, hB.2.2.1⟩ ?_ ?_ ?_ ?_
  · intro j j1 j2
    by_cases g : j = rap s n
    · rw [g, hw.1, hw.2.1, hw.2.2 2 (by decide) (by decide), hw.2.2 3 (by decide) (by decide)]
      omega
    · obtain ⟨q, q1, q0, q2⟩ := key j j1 (by omega) g
      rw [q0, q2 1 (by decide) (by decide), q2 2 (by decide) (by decide), q2 3 (by decide) (by decide)]
      exact hi.2.1 q (by omega) (by omega)
  · intro i j i1 i2 i3
    by_cases g : i = rap s n
    · obtain ⟨r, r1, r0, r2⟩ := key j (by omega) (by omega) (by omega)
      rw [r0, g, hw.1]
      exact hge2 r (by omega) (by omega)
    · obtain ⟨q, q1, q0, q2⟩ := key i i1 (by omega) g
      by_cases g2 : j = rap s n
      · rw [q0, g2, hw.1]
        exact hlt q (by omega) (by omega)
      · obtain ⟨r, r1, r0, r2⟩ := key j (by omega) (by omega) g2
        rw [q0, r0]
        exact hi.2.2.1 q r (by omega) (by omega) (by omega)
  · intro i j i1 i2 j1 j2
    by_cases g : i = rap s n
    · rw [g, hw.2.2 j (by omega) (by omega)]
      omega
    · obtain ⟨q, q1, q0, q2⟩ := key i i1 (by omega) g
      rw [q2 j (by omega) (by omega)]
      exact hi.2.2.2.1 q j (by omega) (by omega) j1 j2
  · intro k k1 k2
    have hq := (hi.2.2.2.2.1 k k1 k2).1
    have hv := rpl_val hq
    by_cases g : rpl s (s (162 + 4 * k)) < rap s n
    · refine rpl_of hq (by omega) ?_
      rw [rAs_lo (by omega) (by omega)]
      exact hv.1
    · refine rpl_of (k := rpl s (s (162 + 4 * k)) + 1) (by omega) (by omega) ?_
      have z := rAs_mv (s := s) (n := n) (j := rpl s (s (162 + 4 * k))) (m := 0) hp.1 (by omega) hv.2 (by decide) (by decide)
      rw [Int.add_zero, Int.add_zero] at z
      exact z.trans hv.1
theorem rrmF_I (cue : Int) : ∀ (n : Nat) (s : Int → Int), (n : Int) ≤ s 1 → rI s → (∀ k : Int, (n : Int) ≤ k → k < s 1 → ¬ s (162 + 4 * k) = cue) →
    rI (rrmF cue n s) ∧ (∀ k : Int, 0 ≤ k → k < rrmF cue n s 1 → ¬ rrmF cue n s (162 + 4 * k) = cue) ∧ (∀ i : Int, i < 162 → i ≠ 1 → rrmF cue n s i = s i)
  | 0, s => fun _ hi h => ⟨hi, fun k k1 k2 => h k (by omega) k2, fun _ _ _ => rfl⟩
  | n + 1, s => fun hn hi h => by
    have e1 := rta_1 (s := s) (k := n) (by omega)
    unfold rrmF
    split <;> rename_i g
    · have ih := rrmF_I cue n (rta s n) (by omega) (rta_I hi (by omega) (by omega)) (fun k k1 k2 => by
        have z := rta_mv (s := s) (k := n) (j := k) (m := 0) (by omega) k1 (by omega) (by decide) (by decide)
        rw [Int.add_zero, Int.add_zero] at z
        rw [z]
        exact h (k + 1) (by omega) (by omega))
      exact ⟨ih.1, ih.2.1, fun i a b => (ih.2.2 i a b).trans (rta_lo b (by omega))⟩
    · exact rrmF_I cue n s (by omega) hi (fun k k1 k2 => by
        by_cases e : k = n
        · rw [e]; exact g
        · exact h k (by omega) k2)
theorem rhF_I {lv : Int → Int} {pl was : Int} (hl : ∀ c : Int, 0 ≤ c → c ≤ 11 → 0 ≤ lv (12 * was + c) ∧ lv (12 * was + c) ≤ 100) (hp : 0 ≤ pl) : ∀ (n : Nat) (c : Int) (s : Int → Int), 0 ≤ c → c + n ≤ 12 → rI s → pl < s 0 → rI (rhF lv pl was n c s).2
  | 0, _, _ => fun _ _ hi _ => hi
  | n + 1, c, s => fun hc hn hi h => by
    unfold rhF
    split
    · split
      · exact hi
      · split
        · exact hi
        · have hq := rI_B hi
          have hlc := hl c hc (by omega)
          have e0 := rgi_0 hq (s (18 + 12 * pl)) c (lv (12 * was + c)) 0
          exact rhF_I hl hp n (c + 1) _ (by omega) (by omega) (rgi_I hi (rpl_of hp h rfl) hc (by omega) (by omega) (by omega) (by decide) (by decide) (Or.inr (by have := hq.2.2.2.2; omega))) (by omega)
    · exact rhF_I hl hp n (c + 1) s (by omega) (by omega) hi h
theorem rhd_I {s lv : Int → Int} {pl was : Int} (hi : rI s) (hl : ∀ c : Int, 0 ≤ c → c ≤ 11 → 0 ≤ lv (12 * was + c) ∧ lv (12 * was + c) ≤ 100) (hp : 0 ≤ pl) : rI (rhd s lv pl was).2 := by
  unfold rhd
  split <;> rename_i g
  · exact rhF_I hl hp 12 0 s (by decide) (by decide) hi g.1
  · exact hi
theorem rI_ext {t s : Int → Int} (hi : rI s) (hR : ∀ i, zR (t i)) (h : ∀ i : Int, 0 ≤ i → i < 462 → t i = s i) : rI t := by
  obtain ⟨hs, c1, c2, c3, c4, c5, c6, c7, c8⟩ := hi
  obtain ⟨hR', b1, b2, b3, b4⟩ := id hs
  have e0 := h 0 (by decide) (by decide)
  have e1 := h 1 (by decide) (by decide)
  refine ⟨⟨hR, by omega, by omega, by omega, by omega⟩, ?_, ?_, ?_, ?_, ?_, ?_, ?_, ?_⟩
  · intro k k1 k2
    rw [h (18 + 12 * k) (by omega) (by omega), h (18 + 12 * k + 1) (by omega) (by omega), h (18 + 12 * k + 2) (by omega) (by omega), h (18 + 12 * k + 3) (by omega) (by omega)]
    exact c1 k k1 (by omega)
  · intro k j k1 k2 k3
    rw [h (18 + 12 * k) (by omega) (by omega), h (18 + 12 * j) (by omega) (by omega)]
    exact c2 k j k1 k2 (by omega)
  · intro k j k1 k2 k3 k4
    rw [h (18 + 12 * k + j) (by omega) (by omega)]
    exact c3 k j k1 (by omega) k3 k4
  · intro k k1 k2
    rw [rpl_eq e0 (fun k g1 g2 => h _ (by omega) (by omega)), h (162 + 4 * k) (by omega) (by omega), h (162 + 4 * k + 1) (by omega) (by omega), h (162 + 4 * k + 2) (by omega) (by omega), h (162 + 4 * k + 3) (by omega) (by omega)]
    exact c4 k k1 (by omega)
  · intro k j k1 k2 k3
    rw [h (162 + 4 * k) (by omega) (by omega), h (162 + 4 * k + 1) (by omega) (by omega), h (162 + 4 * j) (by omega) (by omega), h (162 + 4 * j + 1) (by omega) (by omega)]
    exact c5 k j k1 k2 (by omega)
  · intro c z1 z2
    rw [h (6 + c) (by omega) (by omega)]
    exact c6 c z1 z2
  · intro c z1 z2
    rw [h 5 (by decide) (by decide), h (402 + 5 * c) (by omega) (by omega), h (402 + 5 * c + 1) (by omega) (by omega), h (402 + 5 * c + 2) (by omega) (by omega), h (402 + 5 * c + 3) (by omega) (by omega), h (402 + 5 * c + 4) (by omega) (by omega)]
    exact c7 c z1 z2
  · rw [h 5 (by decide) (by decide), h 2 (by decide) (by decide), h 3 (by decide) (by decide)]
    exact c8
theorem rI_zero {t : Int → Int} (hR : ∀ i, zR (t i)) (h : ∀ i : Int, 0 ≤ i → i < 462 → t i = 0) : rI t := by
  have e0 := h 0 (by decide) (by decide)
  have e1 := h 1 (by decide) (by decide)
  refine ⟨⟨hR, by omega, by omega, by omega, by omega⟩, ?_, ?_, ?_, ?_, ?_, ?_, ?_, ?_⟩
  · intro k k1 k2; omega
  · intro k j k1 k2 k3; omega
  · intro k j k1 k2 k3 k4; omega
  · intro k k1 k2; omega
  · intro k j k1 k2 k3; omega
  · intro c z1 z2
    rw [h (6 + c) (by omega) (by omega)]; omega
  · intro c z1 z2
    rw [h 5 (by decide) (by decide), h (402 + 5 * c) (by omega) (by omega), h (402 + 5 * c + 1) (by omega) (by omega), h (402 + 5 * c + 2) (by omega) (by omega), h (402 + 5 * c + 3) (by omega) (by omega), h (402 + 5 * c + 4) (by omega) (by omega)]
    omega
  · rw [h 5 (by decide) (by decide), h 2 (by decide) (by decide), h 3 (by decide) (by decide)]
    omega
/-- one field of one cue is set -/
theorem rI_set {s : Int → Int} (hi : rI s) {k m v : Int} (k1 : 0 ≤ k) (k2 : k < s 0) (m1 : 1 ≤ m) (m2 : m ≤ 11) (hv : m = 1 ∧ (v = -1 ∨ (1 ≤ v ∧ v ≤ 6000)) ∨ (m = 2 ∨ m = 3) ∧ (v = 0 ∨ v = 1) ∨ 4 ≤ m ∧ 0 ≤ v ∧ v ≤ 600) : rI (zu s (18 + 12 * k + m) v) := by
  have hs := rI_B hi
  obtain ⟨hR, b1, b2, b3, b4⟩ := id hs
  have e0 : zu s (18 + 12 * k + m) v 0 = s 0 := zu_ne _ (by omega)
  have hn : ∀ j : Int, zu s (18 + 12 * k + m) v (18 + 12 * j) = s (18 + 12 * j) := fun j => zu_ne _ (by omega)
  refine rI_cue hi (zu_R hR (by omega)) (fun i a b => zu_ne _ (by omega)) (fun i a => zu_ne _ (by omega)) (by omega) ?_ ?_ ?_ ?_
  · intro j j1 j2
    have g := hi.2.1 j j1 (by omega)
    rw [hn]
    unfold zu
    refine ⟨g.1, ?_, ?_, ?_⟩
    · split
      · omega
      · exact g.2.1
    · split
      · omega
      · exact g.2.2.1
    · split
      · omega
      · exact g.2.2.2
  · intro i j i1 i2 i3
    rw [hn, hn]
    exact hi.2.2.1 i j i1 i2 (by omega)
  · intro i j i1 i2 j1 j2
    have g := hi.2.2.2.1 i j i1 (by omega) j1 j2
    unfold zu
    split
    · omega
    · exact g
  · intro j j1 j2
    rw [rpl_eq e0 (fun k g1 g2 => hn k)]
    exact (hi.2.2.2.2.1 j j1 j2).1
theorem rI_home {s : Int → Int} (hi : rI s) {c v : Int} (c1 : 0 ≤ c) (c2 : c ≤ 11) (v1 : 0 ≤ v) (v2 : v ≤ 100) : rI (zu s (6 + c) v) := by
  obtain ⟨hs, q1, q2, q3, q4, q5, q6, q7, q8⟩ := hi
  obtain ⟨hR, b1, b2, b3, b4⟩ := id hs
  have hn : ∀ i : Int, i ≠ 6 + c → zu s (6 + c) v i = s i := fun i h => zu_ne _ h
  refine ⟨⟨zu_R hR (by omega), ?_⟩, ?_, ?_, ?_, ?_, ?_, ?_, ?_, ?_⟩
  · rw [hn 0 (by omega), hn 1 (by omega)]; exact ⟨b1, b2, b3, b4⟩
  · intro k k1 k2
    rw [hn 0 (by omega)] at k2
    rw [hn (18 + 12 * k) (by omega), hn (18 + 12 * k + 1) (by omega), hn (18 + 12 * k + 2) (by omega), hn (18 + 12 * k + 3) (by omega)]
    exact q1 k k1 k2
  · intro k j k1 k2 k3
    rw [hn 0 (by omega)] at k3
    rw [hn (18 + 12 * k) (by omega), hn (18 + 12 * j) (by omega)]
    exact q2 k j k1 k2 k3
  · intro k j k1 k2 k3 k4
    rw [hn 0 (by omega)] at k2
    rw [hn (18 + 12 * k + j) (by omega)]
    exact q3 k j k1 k2 k3 k4
  · intro k k1 k2
    rw [hn 1 (by omega)] at k2
    rw [rpl_eq (hn 0 (by omega)) (fun k g1 g2 => hn _ (by omega)), hn (162 + 4 * k) (by omega), hn (162 + 4 * k + 1) (by omega), hn (162 + 4 * k + 2) (by omega), hn (162 + 4 * k + 3) (by omega)]
    exact q4 k k1 k2
  · intro k j k1 k2 k3
    rw [hn 1 (by omega)] at k3
    rw [hn (162 + 4 * k) (by omega), hn (162 + 4 * k + 1) (by omega), hn (162 + 4 * j) (by omega), hn (162 + 4 * j + 1) (by omega)]
    exact q5 k j k1 k2 k3
  · intro d z1 z2
    by_cases e : d = c
    · rw [e, zu_at]; exact ⟨v1, v2⟩
    · rw [hn (6 + d) (by omega)]; exact q6 d z1 z2
  · intro d z1 z2
    rw [hn 5 (by omega), hn (402 + 5 * d) (by omega), hn (402 + 5 * d + 1) (by omega), hn (402 + 5 * d + 2) (by omega), hn (402 + 5 * d + 3) (by omega), hn (402 + 5 * d + 4) (by omega)]
    exact q7 d z1 z2
  · rw [hn 5 (by omega), hn 2 (by omega), hn 3 (by omega)]
    exact q8
