/-! the reference's rows stay good -/
theorem rpl_eq {t s : Int → Int} (h0 : t 0 = s 0) (h : ∀ k : Int, 0 ≤ k → k < s 0 → t (18 + 12 * k) = s (18 + 12 * k)) (c : Int) : rpl t c = rpl s c := by
  unfold rpl
  rw [h0]
  exact zfst_congr _ (fun k g1 g2 => by rw [h k g1 (by omega)])
theorem rpl_of {s : Int → Int} {k x : Int} (h1 : 0 ≤ k) (h2 : k < s 0) (h3 : s (18 + 12 * k) = x) : 0 ≤ rpl s x := by
  unfold rpl
  rcases zfst_spec (fun j => s (18 + 12 * j) == x) (s 0).toNat with ⟨g1, g2⟩ | ⟨g1, -⟩
  · have := g2 k h1 (by omega)
    simp [h3] at this
  · exact g1
theorem rgv_val {s : Int → Int} {cue ch : Int} (h : 0 ≤ rgv s cue ch) : (s (162 + 4 * rgv s cue ch) = cue ∧ s (162 + 4 * rgv s cue ch + 1) = ch) ∧ rgv s cue ch < s 1 := by
  unfold rgv at h ⊢
  rcases zfst_spec (fun k => s (162 + 4 * k) == cue && s (162 + 4 * k + 1) == ch) (s 1).toNat with ⟨g1, -⟩ | ⟨g1, g2, g3, -⟩
  · omega
  · exact ⟨by simpa using g3, by omega⟩
theorem rgv_no {s : Int → Int} {cue ch : Int} (h : rgv s cue ch < 0) {k : Int} (h1 : 0 ≤ k) (h2 : k < s 1) : ¬ (s (162 + 4 * k) = cue ∧ s (162 + 4 * k + 1) = ch) := by
  unfold rgv at h
  rcases zfst_spec (fun k => s (162 + 4 * k) == cue && s (162 + 4 * k + 1) == ch) (s 1).toNat with ⟨-, g2⟩ | ⟨g1, g2, -⟩
  · have := g2 k h1 (by omega)
    simpa using this
  · omega
theorem rI_lst {t s : Int → Int} (hi : rI s) (hR : ∀ i, zR (t i)) (h0 : ∀ i : Int, i < 162 → i ≠ 1 → t i = s i) (h1 : ∀ i : Int, 402 ≤ i → t i = s i) (hm : 0 ≤ t 1 ∧ t 1 ≤ 60)
    (g4 : ∀ k : Int, 0 ≤ k → k < t 1 → 0 ≤ rpl s (t (162 + 4 * k)) ∧ (0 ≤ t (162 + 4 * k + 1) ∧ t (162 + 4 * k + 1) ≤ 11) ∧ (-1 ≤ t (162 + 4 * k + 2) ∧ t (162 + 4 * k + 2) ≤ 100) ∧ (0 ≤ t (162 + 4 * k + 3) ∧ t (162 + 4 * k + 3) ≤ 3))
    (g5 : ∀ k j : Int, 0 ≤ k → k < j → j < t 1 → ¬ (t (162 + 4 * k) = t (162 + 4 * j) ∧ t (162 + 4 * k + 1) = t (162 + 4 * j + 1))) : rI t := by
  obtain ⟨hs, c1, c2, c3, c4, c5, c6, c7, c8⟩ := hi
  obtain ⟨hR', b1, b2, b3, b4⟩ := id hs
  have e0 := h0 0 (by decide) (by decide)
  have e5 := h0 5 (by decide) (by decide)
  refine ⟨⟨hR, by omega, by omega, hm.1, hm.2⟩, ?_, ?_, ?_, ?_, g5, ?_, ?_, ?_⟩
  · intro k k1 k2
    rw [h0 (18 + 12 * k) (by omega) (by omega), h0 (18 + 12 * k + 1) (by omega) (by omega), h0 (18 + 12 * k + 2) (by omega) (by omega), h0 (18 + 12 * k + 3) (by omega) (by omega)]
    exact c1 k k1 (by omega)
  · intro k j k1 k2 k3
    rw [h0 (18 + 12 * k) (by omega) (by omega), h0 (18 + 12 * j) (by omega) (by omega)]
    exact c2 k j k1 k2 (by omega)
  · intro k j k1 k2 k3 k4
    rw [h0 (18 + 12 * k + j) (by omega) (by omega)]
    exact c3 k j k1 (by omega) k3 k4
  · intro k k1 k2
    rw [rpl_eq e0 (fun k g1 g2 => h0 _ (by omega) (by omega))]
    exact g4 k k1 k2
  · intro c z1 z2
    rw [h0 (6 + c) (by omega) (by omega)]
    exact c6 c z1 z2
  · intro c z1 z2
    rw [e5, h1 (402 + 5 * c) (by omega), h1 (402 + 5 * c + 1) (by omega), h1 (402 + 5 * c + 2) (by omega), h1 (402 + 5 * c + 3) (by omega), h1 (402 + 5 * c + 4) (by omega)]
    exact c7 c z1 z2
  · rw [e5, h0 2 (by decide) (by decide), h0 3 (by decide) (by decide)]
    exact c8
theorem rI_cue {t s : Int → Int} (hi : rI s) (hR : ∀ i, zR (t i)) (h0 : ∀ i : Int, 1 ≤ i → i < 18 → t i = s i) (h1 : ∀ i : Int, 162 ≤ i → t i = s i) (hm : 0 ≤ t 0 ∧ t 0 ≤ 12)
    (g1 : ∀ k : Int, 0 ≤ k → k < t 0 → (1 ≤ t (18 + 12 * k) ∧ t (18 + 12 * k) ≤ 99) ∧ (t (18 + 12 * k + 1) = -1 ∨ (1 ≤ t (18 + 12 * k + 1) ∧ t (18 + 12 * k + 1) ≤ 6000)) ∧ (t (18 + 12 * k + 2) = 0 ∨ t (18 + 12 * k + 2) = 1) ∧ (t (18 + 12 * k + 3) = 0 ∨ t (18 + 12 * k + 3) = 1))
    (g2 : ∀ k j : Int, 0 ≤ k → k < j → j < t 0 → t (18 + 12 * k) < t (18 + 12 * j))
    (g3 : ∀ k j : Int, 0 ≤ k → k < t 0 → 4 ≤ j → j < 12 → 0 ≤ t (18 + 12 * k + j) ∧ t (18 + 12 * k + j) ≤ 600)
    (hin : ∀ k : Int, 0 ≤ k → k < s 1 → 0 ≤ rpl t (s (162 + 4 * k))) : rI t := by
  obtain ⟨hs, c1, c2, c3, c4, c5, c6, c7, c8⟩ := hi
  obtain ⟨hR', b1, b2, b3, b4⟩ := id hs
  have e1 := h0 1 (by decide) (by decide)
  have e5 := h0 5 (by decide) (by decide)
  refine ⟨⟨hR, hm.1, hm.2, by omega, by omega⟩, g1, g2, g3, ?_, ?_, ?_, ?_, ?_⟩
  · intro k k1 k2
    rw [h1 (162 + 4 * k) (by omega), h1 (162 + 4 * k + 1) (by omega), h1 (162 + 4 * k + 2) (by omega), h1 (162 + 4 * k + 3) (by omega)]
    exact ⟨hin k k1 (by omega), (c4 k k1 (by omega)).2⟩
  · intro k j k1 k2 k3
    rw [h1 (162 + 4 * k) (by omega), h1 (162 + 4 * k + 1) (by omega), h1 (162 + 4 * j) (by omega), h1 (162 + 4 * j + 1) (by omega)]
    exact c5 k j k1 k2 (by omega)
  · intro c z1 z2
    rw [h0 (6 + c) (by omega) (by omega)]
    exact c6 c z1 z2
  · intro c z1 z2
    rw [e5, h1 (402 + 5 * c) (by omega), h1 (402 + 5 * c + 1) (by omega), h1 (402 + 5 * c + 2) (by omega), h1 (402 + 5 * c + 3) (by omega), h1 (402 + 5 * c + 4) (by omega)]
    exact c7 c z1 z2
  · rw [e5, h0 2 (by decide) (by decide), h0 3 (by decide) (by decide)]
    exact c8
theorem rgk_R {s : Int → Int} (hs : rB s) {cue ch : Int} (h5 : 0 ≤ rgv s cue ch ∨ s 1 < 60) : 0 ≤ rgk s cue ch ∧ rgk s cue ch < 60 ∧ rgk s cue ch ≤ s 1 := by
  have hg := rgv_R hs cue ch
  obtain ⟨hR, b1, b2, b3, b4⟩ := hs
  unfold rgk
  split <;> omega
theorem rgi_ne {s : Int → Int} (hs : rB s) {cue ch lev part i : Int} (h5 : 0 ≤ rgv s cue ch ∨ s 1 < 60) (h : i ≠ 1) (h2 : ¬ (162 + 4 * rgk s cue ch ≤ i ∧ i < 162 + 4 * rgk s cue ch + 4)) : rgi s cue ch lev part i = s i := by
  unfold rgi rgs
  rw [zu_ne _ (by omega), zu_ne _ (by omega), zu_ne _ (by omega), zu_ne _ (by omega)]
  split
  · rw [zu_ne _ h]
  · rfl
theorem rgi_at {s : Int → Int} {cue ch lev part : Int} : rgi s cue ch lev part (162 + 4 * rgk s cue ch) = cue ∧ rgi s cue ch lev part (162 + 4 * rgk s cue ch + 1) = ch ∧ rgi s cue ch lev part (162 + 4 * rgk s cue ch + 2) = lev ∧ rgi s cue ch lev part (162 + 4 * rgk s cue ch + 3) = part := by
  unfold rgi
  refine ⟨?_, ?_, ?_, zu_at _ _ _⟩
  · rw [zu_ne _ (by omega), zu_ne _ (by omega), zu_ne _ (by omega), zu_at]
  · rw [zu_ne _ (by omega), zu_ne _ (by omega), zu_at]
  · rw [zu_ne _ (by omega), zu_at]
theorem rgi_I {s : Int → Int} (hi : rI s) {cue ch lev part : Int} (hp : 0 ≤ rpl s cue) (c1 : 0 ≤ ch) (c2 : ch ≤ 11) (l1 : -1 ≤ lev) (l2 : lev ≤ 100) (p1 : 0 ≤ part) (p2 : part ≤ 3) (h5 : 0 ≤ rgv s cue ch ∨ s 1 < 60) : rI (rgi s cue ch lev part) := by
  have hs := rI_B hi
  have hv := rpl_val hp
  have hcz : zR cue := by rw [← hv.1]; exact hs.1 _
  have hB := rgi_B hs (cue := cue) (ch := ch) (lev := lev) (part := part) hcz (by omega) (by omega) (by omega) h5
  have hk := rgk_R hs h5
  have e1 := rgi_1 hs cue ch lev part
  have hat := rgi_at (s := s) (cue := cue) (ch := ch) (lev := lev) (part := part)
  have hne : ∀ i : Int, i ≠ 1 → ¬ (162 + 4 * rgk s cue ch ≤ i ∧ i < 162 + 4 * rgk s cue ch + 4) → rgi s cue ch lev part i = s i := fun i a b => rgi_ne hs h5 a b
  have hold : ∀ k : Int, 0 ≤ k → k < rgi s cue ch lev part 1 → k ≠ rgk s cue ch → k < s 1 := by
    intro k k1 k2 k3
    rw [e1] at k2
    unfold rgk at k3
    split at k2
    · rw [if_pos (by assumption)] at k3; omega
    · exact k2
  have huq : ∀ k : Int, 0 ≤ k → k < s 1 → k ≠ rgk s cue ch → ¬ (s (162 + 4 * k) = cue ∧ s (162 + 4 * k + 1) = ch) := by
    intro k k1 k2 k3
    by_cases g : rgv s cue ch < 0
    · exact rgv_no g k1 k2
    · have ek : rgk s cue ch = rgv s cue ch := if_neg g
      obtain ⟨⟨v1, v2⟩, v3⟩ := rgv_val (show 0 ≤ rgv s cue ch by omega)
      rw [ek] at k3
      intro z
      rcases (show k < rgv s cue ch ∨ rgv s cue ch < k by omega) with q | q
      · exact hi.2.2.2.2.2.1 k _ k1 q v3 ⟨z.1.trans v1.symm, z.2.trans v2.symm⟩
      · exact hi.2.2.2.2.2.1 _ k (by omega) q k2 ⟨v1.trans z.1.symm, v2.trans z.2.symm⟩
  refine rI_lst hi hB.1 (fun i a b => hne i b (by omega)) (fun i a => hne i (by omega) (by omega)) ⟨hB.2.2.2.1, hB.2.2.2.2⟩ ?_ ?_
  · intro k k1 k2
    by_cases g : k = rgk s cue ch
    · rw [g, hat.1, hat.2.1, hat.2.2.1, hat.2.2.2]
      exact ⟨hp, ⟨c1, c2⟩, ⟨l1, l2⟩, ⟨p1, p2⟩⟩
    · rw [hne (162 + 4 * k) (by omega) (by omega), hne (162 + 4 * k + 1) (by omega) (by omega), hne (162 + 4 * k + 2) (by omega) (by omega), hne (162 + 4 * k + 3) (by omega) (by omega)]
      exact hi.2.2.2.2.1 k k1 (hold k k1 k2 g)
  · intro k j k1 k2 k3
    by_cases g : k = rgk s cue ch
    · rw [g, hat.1, hat.2.1, hne (162 + 4 * j) (by omega) (by omega), hne (162 + 4 * j + 1) (by omega) (by omega)]
      exact fun z => huq j (by omega) (hold j (by omega) k3 (by omega)) (by omega) ⟨z.1.symm, z.2.symm⟩
    · by_cases g2 : j = rgk s cue ch
      · rw [g2, hat.1, hat.2.1, hne (162 + 4 * k) (by omega) (by omega), hne (162 + 4 * k + 1) (by omega) (by omega)]
        exact huq k k1 (hold k k1 (by omega) g) g
      · rw [hne (162 + 4 * k) (by omega) (by omega), hne (162 + 4 * k + 1) (by omega) (by omega), hne (162 + 4 * j) (by omega) (by omega), hne (162 + 4 * j + 1) (by omega) (by omega)]
        exact hi.2.2.2.2.2.1 k j k1 k2 (hold j (by omega) k3 g2)
theorem zcpy_in {f g : Int → Int} {sp dp n i : Int} (h : dp ≤ i ∧ i < dp + n) : zcpy f g sp dp n i = f (sp + (i - dp)) := if_pos h
theorem zcpy_out {f g : Int → Int} {sp dp n i : Int} (h : ¬ (dp ≤ i ∧ i < dp + n)) : zcpy f g sp dp n i = g i := if_neg h
theorem rta_lo {s : Int → Int} {k i : Int} (h0 : i ≠ 1) (h : i < 162 + 4 * k) : rta s k i = s i := by
  unfold rta
  rw [zcpy_out (by omega), zu_ne _ h0]
theorem rta_hi {s : Int → Int} (hs : rB s) {k i : Int} (h0 : 0 ≤ k) (h : k < s 1) (h2 : 402 ≤ i) : rta s k i = s i := by
  have := hs.2
  have e : zu s 1 (s 1 - 1) 1 = s 1 - 1 := zu_at _ _ _
  unfold rta
  rw [zcpy_out (by omega), zu_ne _ (by omega)]
theorem rta_mv {s : Int → Int} {k j m : Int} (h0 : 0 ≤ k) (h1 : k ≤ j) (h2 : j < s 1 - 1) (h3 : 0 ≤ m) (h4 : m ≤ 3) : rta s k (162 + 4 * j + m) = s (162 + 4 * (j + 1) + m) := by
  unfold rta
  rw [zcpy_in (by omega), zu_ne _ (by omega)]
  exact congrArg s (by omega)
theorem rta_I {s : Int → Int} (hi : rI s) {k : Int} (h1 : 0 ≤ k) (h2 : k < s 1) : rI (rta s k) := by
  have hs := rI_B hi
  have hB := rta_B hs h1 h2
  have e1 := rta_1 (s := s) h1
  have key : ∀ j : Int, 0 ≤ j → j < s 1 - 1 → ∃ q : Int, (q = j ∧ j < k ∨ q = j + 1 ∧ k ≤ j) ∧ (∀ m : Int, 0 ≤ m → m ≤ 3 → rta s k (162 + 4 * j + m) = s (162 + 4 * q + m)) := by
    intro j j1 j2
    by_cases g : j < k
    · exact ⟨j, Or.inl ⟨rfl, g⟩, fun m m1 m2 => rta_lo (by omega) (by omega)⟩
    · exact ⟨j + 1, Or.inr ⟨rfl, by omega⟩, fun m m1 m2 => rta_mv h1 (by omega) j2 m1 m2⟩
  refine rI_lst hi hB.1 (fun i a b => rta_lo b (by omega)) (fun i a => rta_hi hs h1 h2 a) ⟨hB.2.2.2.1, hB.2.2.2.2⟩ ?_ ?_
  · intro j j1 j2
    obtain ⟨q, q1, q2⟩ := key j j1 (by omega)
    have z0 := q2 0 (by decide) (by decide)
    rw [Int.add_zero, Int.add_zero] at z0
    rw [z0, q2 1 (by decide) (by decide), q2 2 (by decide) (by decide), q2 3 (by decide) (by decide)]
    exact hi.2.2.2.2.1 q (by omega) (by omega)
  · intro i j i1 i2 i3
    obtain ⟨q, q1, q2⟩ := key i i1 (by omega)
    obtain ⟨r, r1, r2⟩ := key j (by omega) (by omega)
    have z0 := q2 0 (by decide) (by decide)
    have y0 := r2 0 (by decide) (by decide)
    rw [Int.add_zero, Int.add_zero] at z0 y0
    rw [z0, y0, q2 1 (by decide) (by decide), r2 1 (by decide) (by decide)]
    exact hi.2.2.2.2.2.1 q r (by omega) (by omega) (by omega)
