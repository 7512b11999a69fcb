/-! what a show says: a cue is removed -/
section rel
variable {X Y : Int → Int → Int} {s t u : Int → Int}
theorem cR_mx (hi : rI u) (ht : rB t) (hc : cR X u) (e : ∀ i : Int, 0 ≤ i → (i < 162 + 4 * u 1 ∨ 402 ≤ i) → i < 462 → t i = u i) : cR X t := by
  have hb := hi.1.2
  have h0 := e 0 (by decide) (Or.inl (by omega)) (by decide)
  have h1 := e 1 (by decide) (Or.inl (by omega)) (by decide)
  have gv : ∀ n c : Int, rgv t n c = rgv u n c := fun n c => by
    unfold rgv
    rw [h1]
    apply zfst_congr
    intro k k1 k2
    rw [e _ (by omega) (Or.inl (by omega)) (by omega), e _ (by omega) (Or.inl (by omega)) (by omega)]
  have lo : ∀ i : Int, 0 ≤ i → i < 162 → t i = u i := fun i i1 i2 => e i i1 (Or.inl (by omega)) (by omega)
  refine ⟨?_, ?_, ?_, ?_, ?_, ?_, ?_⟩
  · rw [h0, h1, lo 2 (by decide) (by decide), lo 3 (by decide) (by decide), lo 4 (by decide) (by decide), lo 5 (by decide) (by decide)]
    exact hc.1
  · intro c c1 c2
    rw [lo _ (by omega) (by omega)]; exact hc.2.1 c c1 c2
  · intro k k1 k2
    rw [h0] at k2
    rw [lo _ (by omega) (by omega), lo _ (by omega) (by omega), lo _ (by omega) (by omega), lo _ (by omega) (by omega)]; exact hc.2.2.1 k k1 k2
  · intro k p k1 k2 p1 p2
    rw [h0] at k2
    rw [lo _ (by omega) (by omega), lo _ (by omega) (by omega)]; exact hc.2.2.2.1 k p k1 k2 p1 p2
  · intro p p1 p2
    rw [h1] at p2
    rw [e _ (by omega) (Or.inl (by omega)) (by omega), e _ (by omega) (Or.inl (by omega)) (by omega)]; exact hc.2.2.2.2.1 p p1 p2
  · intro k c k1 k2 c1 c2
    rw [h0] at k2
    rw [lo (18 + 12 * k) (by omega) (by omega), gv]
    rcases hc.2.2.2.2.2.1 k c k1 k2 c1 c2 with hd | hd
    · exact Or.inl hd
    · have hg := (rgv_val hd.1).2
      refine Or.inr ⟨hd.1, ?_, ?_⟩
      · rw [e _ (by omega) (Or.inl (by omega)) (by omega)]; exact hd.2.1
      · rw [e _ (by omega) (Or.inl (by omega)) (by omega)]; exact hd.2.2
  · intro c c1 c2
    rw [e _ (by omega) (Or.inr (by omega)) (by omega), e _ (by omega) (Or.inr (by omega)) (by omega), e _ (by omega) (Or.inr (by omega)) (by omega), e _ (by omega) (Or.inr (by omega)) (by omega), e _ (by omega) (Or.inr (by omega)) (by omega)]; exact hc.2.2.2.2.2.2 c c1 c2
/-- the cells beside the list stay -/
abbrev bs (s t : Int → Int) : Prop := (∀ i : Int, i < 162 → i ≠ 1 → t i = s i) ∧ (∀ i : Int, 402 ≤ i → t i = s i)
theorem rrmF_bs (n : Int) : ∀ (m : Nat) (t : Int → Int), (m : Int) ≤ t 1 → rB t → bs t (rrmF n m t)
  | 0, t, _, _ => ⟨fun _ _ _ => rfl, fun _ _ => rfl⟩
  | m + 1, t, hm, hb => by
    have e : rrmF n (m + 1) t = if t (162 + 4 * (m : Int)) = n then rrmF n m (rta t m) else rrmF n m t := rfl
    rw [e]
    split
    · have h := rrmF_bs n m (rta t m) (by rw [rta_1 (by omega)]; omega) (rta_B hb (by omega) (by omega))
      exact ⟨fun i i1 i2 => (h.1 i i1 i2).trans (rta_lo i2 (by omega)), fun i i1 => (h.2 i i1).trans (rta_hi hb (by omega) (by omega) i1)⟩
    · exact rrmF_bs n m t (by omega) hb
theorem rrmF_fL (n : Int) (h0 : 0 ≤ s 1) : ∀ (m : Nat) (t : Int → Int), (m : Int) ≤ s 1 → fL s t (fun p => decide (p < m) || !decide (s (162 + 4 * p) = n)) → fL s (rrmF n m t) (fun p => !decide (s (162 + 4 * p) = n))
  | 0, t, _, h => fL_cong h (fun p p1 p2 => by
      have : decide (p < ((0 : Nat) : Int)) = false := decide_eq_false (by omega)
      simp only [this]
      rfl)
  | m + 1, t, hm, h => by
    have e : rrmF n (m + 1) t = if t (162 + 4 * (m : Int)) = n then rrmF n m (rta t m) else rrmF n m t := rfl
    have hall : cn (fun p => decide (p < ((m + 1 : Nat) : Int)) || !decide (s (162 + 4 * p) = n)) m = m := cn_all m (fun q q1 q2 => by
      have : decide (q < ((m + 1 : Nat) : Int)) = true := decide_eq_true (by omega)
      simp only [this, Bool.true_or])
    have hpm : (decide ((m : Int) < ((m + 1 : Nat) : Int)) || !decide (s (162 + 4 * (m : Int)) = n)) = true := by
      have : decide ((m : Int) < ((m + 1 : Nat) : Int)) = true := decide_eq_true (by omega)
      simp only [this, Bool.true_or]
    have w := h.2 m (by omega) (by omega) hpm 0 (by decide) (by decide)
    rw [hall, Int.add_zero] at w
    rw [e, w]
    by_cases q : s (162 + 4 * (m : Int)) = n
    · rw [if_pos q]
      have st := fL_step h (g := (m : Int)) (by omega) (by omega) hpm
      rw [hall] at st
      refine rrmF_fL n h0 m _ (by omega) (fL_cong st (fun p p1 p2 => ?_))
      by_cases e1 : p = (m : Int)
      · subst e1
        simp [q]
      · have : decide (p < ((m + 1 : Nat) : Int)) = decide (p < (m : Int)) := decide_eq_decide.mpr (by omega)
        rw [this]
        simp [e1]
    · rw [if_neg q]
      refine rrmF_fL n h0 m _ (by omega) (fL_cong h (fun p p1 p2 => ?_))
      by_cases e1 : p = (m : Int)
      · subst e1
        simp [q]
      · have : decide (p < ((m + 1 : Nat) : Int)) = decide (p < (m : Int)) := decide_eq_decide.mpr (by omega)
        rw [this]
theorem cS_xdc (h : cS X s) {k : Int} (k1 : 0 ≤ k) (k2 : k < s 0) : ∀ m : Nat, m ≤ 12 → ∃ u, cS (xdc X k m) u ∧ bs s u ∧ fL s u (fun p => !decide (s (162 + 4 * p) = s (18 + 12 * k) ∧ s (162 + 4 * p + 1) < m))
  | 0, _ => ⟨s, h, ⟨fun _ _ _ => rfl, fun _ _ => rfl⟩, fL_cong (fL_id h.2.1.1.2.2.2.1) (fun p p1 p2 => by
      have hl := (h.2.1.2.2.2.2.1 p p1 p2).2.1.1
      have : decide (s (162 + 4 * p) = s (18 + 12 * k) ∧ s (162 + 4 * p + 1) < ((0 : Nat) : Int)) = false := decide_eq_false (by omega)
      simp only [this]
      rfl)⟩
  | m + 1, hm => by
    obtain ⟨u, h1, h2, h3⟩ := cS_xdc h k1 k2 m (by omega)
    have hb := h.2.1.1.2
    have hno := cR_no h.2.1 h.2.2.1 (c := (m : Int)) k1 k2 (by omega) (by omega)
    have hs := xdc_s (X := X) (i := k) (m := (m : Int)) (by omega)
    rw [show ((m : Int) + 1).toNat = m + 1 by omega, show ((m : Int)).toNat = m by omega] at hs
    rw [hs]
    by_cases e : X (7 + 5 * k + 3) (m : Int) = -2
    · rw [if_pos e]
      refine ⟨u, h1, h2, fL_cong h3 (fun p p1 p2 => ?_)⟩
      have hn := rgv_no (hno.mp e) p1 p2
      congr 1
      exact decide_eq_decide.mpr (by
        constructor
        · rintro ⟨a, b⟩; exact ⟨a, by omega⟩
        · rintro ⟨a, b⟩
          refine ⟨a, ?_⟩
          by_cases q : s (162 + 4 * p + 1) = (m : Int)
          · exact absurd ⟨a, q⟩ hn
          · omega)
    · rw [if_neg e]
      have hg : 0 ≤ rgv s (s (18 + 12 * k)) m := by
        by_cases q : 0 ≤ rgv s (s (18 + 12 * k)) m
        · exact q
        · exact absurd (hno.mpr (by omega)) e
      have hv := rgv_val hg
      have u0 : u 0 = s 0 := h2.1 0 (by decide) (by decide)
      have un : u (18 + 12 * k) = s (18 + 12 * k) := h2.1 _ (by omega) (by omega)
      generalize hG : rgv s (s (18 + 12 * k)) (m : Int) = g at *
      have hpg : (!decide (s (162 + 4 * g) = s (18 + 12 * k) ∧ s (162 + 4 * g + 1) < (m : Int))) = true := by
        have : decide (s (162 + 4 * g) = s (18 + 12 * k) ∧ s (162 + 4 * g + 1) < (m : Int)) = false := decide_eq_false (by omega)
        simp only [this]
        rfl
      have w0 := h3.2 g hg hv.2 hpg 0 (by decide) (by decide)
      have w1 := h3.2 g hg hv.2 hpg 1 (by decide) (by decide)
      rw [Int.add_zero, Int.add_zero, hv.1.1] at w0
      rw [hv.1.2] at w1
      have cp := cn_pos (P := fun p => !decide (s (162 + 4 * p) = s (18 + 12 * k) ∧ s (162 + 4 * p + 1) < (m : Int))) hg
      have cl := cn_lt (P := fun p => !decide (s (162 + 4 * p) = s (18 + 12 * k) ∧ s (162 + 4 * p + 1) < (m : Int))) hg hv.2 hpg
      have ga := rgv_at h1.2.1 cp (by rw [h3.1]; omega)
      rw [w0, w1] at ga
      have hta := cS_ta h1 (k := k) (c := (m : Int)) k1 (by omega) (by omega) (by omega) (by rw [un, ga]; exact cp)
      rw [un, ga] at hta
      have st := fL_step h3 hg hv.2 hpg
      refine ⟨_, hta, ⟨fun i i1 i2 => (rta_lo i2 (by omega)).trans (h2.1 i i1 i2), fun i i1 => (rta_hi h1.2.1.1 cp (by rw [h3.1]; omega) i1).trans (h2.2 i i1)⟩, fL_cong st (fun p p1 p2 => ?_)⟩
      have hq : (s (162 + 4 * p) = s (18 + 12 * k) ∧ s (162 + 4 * p + 1) < (((m + 1 : Nat)) : Int)) ↔ ((s (162 + 4 * p) = s (18 + 12 * k) ∧ s (162 + 4 * p + 1) < (m : Int)) ∨ p = g) := by
        constructor
        · rintro ⟨a, b⟩
          by_cases q : s (162 + 4 * p + 1) < (m : Int)
          · exact Or.inl ⟨a, q⟩
          · refine Or.inr ?_
            have z := rgv_at h.2.1 p1 p2
            rw [a, show s (162 + 4 * p + 1) = (m : Int) by omega, hG] at z
            exact z.symm
        · rintro (⟨a, b⟩ | a)
          · exact ⟨a, by omega⟩
          · rw [a, hv.1.1, hv.1.2]; exact ⟨rfl, by omega⟩
      by_cases a : s (162 + 4 * p) = s (18 + 12 * k) ∧ s (162 + 4 * p + 1) < (m : Int)
      · simp only [decide_eq_true a, decide_eq_true (hq.mpr (Or.inl a))]
        rfl
      · by_cases b : p = g
        · simp only [decide_eq_true b, decide_eq_true (hq.mpr (Or.inr b)), decide_eq_false a]
          rfl
        · simp only [decide_eq_false b, decide_eq_false a, decide_eq_false (fun z => by rcases hq.mp z with z | z; exact a z; exact b z)]
          rfl
theorem cS_rm (h : cS X s) {k : Int} (k1 : 0 ≤ k) (k2 : k < s 0) : cS (xdc X k 12) (rrmF (s (18 + 12 * k)) (s 1).toNat s) ∧ rrmF (s (18 + 12 * k)) (s 1).toNat s 1 = s 1 - xic X k := by
  obtain ⟨u, h1, h2, h3⟩ := cS_xdc h k1 k2 12 (Nat.le_refl _)
  have hb := h.2.1.1.2
  have e1 : (((s 1).toNat : Nat) : Int) = s 1 := by omega
  have hI := rrmF_I (s (18 + 12 * k)) (s 1).toNat s (by omega) h.2.1 (fun p p1 p2 => by omega)
  have hB := rrmF_bs (s (18 + 12 * k)) (s 1).toNat s (by omega) h.2.1.1
  have hF := rrmF_fL (s := s) (s (18 + 12 * k)) hb.2.2.1 (s 1).toNat s (by omega) (fL_cong (fL_id hb.2.2.1) (fun p p1 p2 => by
    have : decide (p < (((s 1).toNat : Nat) : Int)) = true := decide_eq_true (by omega)
    simp only [this]
    rfl))
  have h3' := fL_cong (Q := fun p => !decide (s (162 + 4 * p) = s (18 + 12 * k))) h3 (fun p p1 p2 => by
    have hl := (h.2.1.2.2.2.2.1 p p1 p2).2.1
    congr 1
    exact decide_eq_decide.mpr ⟨fun z => z.1, fun z => ⟨z, by omega⟩⟩)
  have un := fL_uniq hF h3' hb.2.2.1
  refine ⟨⟨h1.1, hI.1, cR_mx h1.2.1 hI.1.1 h1.2.2.1 (fun i i1 i2 i3 => ?_), h1.2.2.2⟩, ?_⟩
  · by_cases a : i = 1
    · rw [a]; exact un.1
    · by_cases b : i < 162
      · rw [hB.1 i b a, h2.1 i b a]
      · by_cases c : 402 ≤ i
        · rw [hB.2 i c, h2.2 i c]
        · exact un.2 i (by omega) (by omega)
  · rw [hF.1, cR_ic h.2.1 h.2.2.1 k1 k2]
    have cnt : ∀ m : Nat, zsum (fun q => bI ((!decide (s (162 + 4 * q) = s (18 + 12 * k))) = true)) m + zsum (fun q => bI (s (162 + 4 * q) = s (18 + 12 * k))) m = (m : Int) := by
      intro m
      induction m with
      | zero => rfl
      | succ m ih =>
        show zsum _ m + bI _ + (zsum _ m + bI _) = _
        by_cases q : s (162 + 4 * (m : Int)) = s (18 + 12 * k)
        · rw [bI_t q, bI_f (by simp [q])]; omega
        · rw [bI_f q, bI_t (by simp [q])]; omega
    have := cnt (s 1).toNat
    unfold cn rco
    show zsum (fun q => bI ((!decide (s (162 + 4 * q) = s (18 + 12 * k))) = true)) (s 1).toNat = s 1 - zsum (fun q => bI (s (162 + 4 * q) = s (18 + 12 * k))) (s 1).toNat
    omega
end rel
