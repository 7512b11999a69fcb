/-! the whole heap between two calls: the class's cells, the reference's, the answer's cell -/
def gu {α : Type} (f : Int → α) (k : Int) (v : α) : Int → α := fun j => if j = k then v else f j
theorem gu_at {α : Type} (f : Int → α) (k : Int) (v : α) : gu f k v k = v := if_pos rfl
theorem gu_ne {α : Type} (f : Int → α) {k j : Int} (v : α) (h : ¬ j = k) : gu f k v j = f j := if_neg h
def aD (t : Int → Nat) (B : Int → Int → Nat) (r : Nat → Nat) (o : Nat) : Prop :=
  (tj t ∧ (∀ k : Int, 0 ≤ k → k < 9 → sj (B k)) ∧ oj 9 r) ∧
  (∀ k : Int, 0 ≤ k → k < 9 → tD t (B k)) ∧
  (∀ k l i j : Int, 0 ≤ k → k < 9 → 0 ≤ l → l < 9 → ¬ k = l → 0 ≤ i → i < 73 → 0 ≤ j → j < 73 → ¬ B k i = B l j) ∧
  (∀ (i : Nat) (j : Int), i < 9 → 0 ≤ j → j < 6 → ¬ r i = t j) ∧
  (∀ (i : Nat) (k j : Int), i < 9 → 0 ≤ k → k < 9 → 0 ≤ j → j < 73 → ¬ r i = B k j) ∧
  ((∀ i : Nat, i < 9 → ¬ r i = o) ∧ (∀ j : Int, 0 ≤ j → j < 6 → ¬ t j = o) ∧ (∀ k j : Int, 0 ≤ k → k < 9 → 0 ≤ j → j < 73 → ¬ B k j = o))
def gH (g : pz_H) (t u : Int → Nat) (B : Int → Int → Nat) (r : Nat → Nat) (o : Nat) (K : Int → Int → Int) (Z : Int → Int → Int → Int) (s lv : Int → Int) (A : Nat → Int → Int) (F : Nat → Int) : Prop :=
  aD t B r o ∧ (∀ k : Int, 0 ≤ k → k < 9 → u k = B k 0) ∧
  (∀ i : Int, 0 ≤ i → i < 6 → g (t i) = some (tcl t u K i)) ∧
  (∀ k j : Int, 0 ≤ k → k < 9 → 0 ≤ j → j < 73 → g (B k j) = some (scl (B k) (sq (B k)) (Z k) j)) ∧
  (∀ i : Nat, i < 9 → g (r i) = some (rcl r s lv A F i)) ∧
  (∃ w : Nat → Int64, g o = some (.inl (2, 1, .inr (.inl w))))
theorem tH_id {g : pz_H} {t u : Int → Nat} {K : Int → Int → Int} (hj : tj t) (h : ∀ i : Int, 0 ≤ i → i < 6 → g (t i) = some (tcl t u K i)) : tH g t u K = g := (tH_ext hj h (fun _ _ => rfl)).symm
section glob
variable {g : pz_H} {t u : Int → Nat} {B : Int → Int → Nat} {r : Nat → Nat} {o : Nat} {K K2 : Int → Int → Int} {Z : Int → Int → Int → Int} {s lv s2 lv2 : Int → Int} {A A2 : Nat → Int → Int} {F F2 : Nat → Int} {a2 : Int → Nat} {X2 Y2 : Int → Int → Int}
theorem gu_pA (hp : pA (B 0) a2) (k j : Int) (j1 : 0 ≤ j) (j2 : j < 73) : ∃ i : Int, 0 ≤ i ∧ i < 73 ∧ gu B 0 a2 k j = B k i := by
  by_cases e : k = 0
  · subst e
    obtain ⟨i, i1, i2, q⟩ := hp.2.2 j j1 j2
    exact ⟨i, i1, i2, by rw [gu_at]; exact q⟩
  · exact ⟨j, j1, j2, by rw [gu_ne _ _ e]⟩
theorem aD_pA (h : aD t B r o) (hp : pA (B 0) a2) : aD t (gu B 0 a2) r o := by
  obtain ⟨⟨h1, h2, h3⟩, h4, h5, h6, h7, h8, h9, h10⟩ := h
  refine ⟨⟨h1, fun k k1 k2 => ?_, h3⟩, fun k k1 k2 => ?_, fun k l i j k1 k2 l1 l2 n i1 i2 j1 j2 => ?_, h6, fun i k j i1 k1 k2 j1 j2 => ?_, h8, h9, fun k j k1 k2 j1 j2 => ?_⟩
  · by_cases e : k = 0
    · subst e; rw [gu_at]; exact hp.1
    · rw [gu_ne _ _ e]; exact h2 k k1 k2
  · intro i j i1 i2 j1 j2
    obtain ⟨q, q1, q2, e⟩ := gu_pA hp k j j1 j2
    rw [e]; exact h4 k k1 k2 i q i1 i2 q1 q2
  · obtain ⟨q, q1, q2, e⟩ := gu_pA hp k i i1 i2
    obtain ⟨p, p1, p2, e2⟩ := gu_pA hp l j j1 j2
    rw [e, e2]; exact h5 k l q p k1 k2 l1 l2 n q1 q2 p1 p2
  · obtain ⟨q, q1, q2, e⟩ := gu_pA hp k j j1 j2
    rw [e]; exact h7 i k q i1 k1 k2 q1 q2
  · obtain ⟨q, q1, q2, e⟩ := gu_pA hp k j j1 j2
    rw [e]; exact h10 k q k1 k2 q1 q2
theorem gH_id (h : gH g t u B r o K Z s lv A F) : sH (tH g t u K) (B 0) (sq (B 0)) (Z 0) = g := by
  obtain ⟨⟨⟨h1, h2, h3⟩, -⟩, -, h5, h6, -⟩ := h
  rw [tH_id h1 h5]
  exact sH_id (h2 0 (by decide) (by decide)) (fun j j1 j2 => h6 0 j (by decide) (by decide) j1 j2)
theorem gH_rid (h : gH g t u B r o K Z s lv A F) : rH g r s lv A F = g := (ov_ext h.1.1.2.2 h.2.2.2.2.1 (fun _ _ => rfl)).symm
theorem gH_bO (h : gH g t u B r o K Z s lv A F) {k : Int} (k1 : 1 ≤ k) (k2 : k < 9) : bO g t (B 0) (B k) (Z k) :=
  ⟨h.1.1.2.1 k (by omega) k2, h.1.2.1 k (by omega) k2, fun i j i1 i2 j1 j2 => h.1.2.2.1 0 k i j (by decide) (by decide) (by omega) k2 (by omega) i1 i2 j1 j2, fun j j1 j2 => h.2.2.2.1 k j (by omega) k2 j1 j2⟩
theorem gH_c (h : gH g t u B r o K Z s lv A F) (hp : pA (B 0) a2) {kb : Int} (k1 : 1 ≤ kb) (k2 : kb < 9) : gH (sH (tH (sH g (B kb) (sq (B kb)) Y2) t u K2) a2 (sq a2) X2) t u (gu B 0 a2) r o K2 (gu (gu Z kb Y2) 0 X2) s lv A F := by
  have hd := aD_pA h.1 hp
  obtain ⟨h1, h4, h5, h6, h7, w, h8⟩ := h
  have hb := h1.1.2.1 kb (by omega) k2
  have out : ∀ q : Nat, (∀ i : Int, 0 ≤ i → i < 73 → ¬ B 0 i = q) → (∀ i : Int, 0 ≤ i → i < 6 → ¬ t i = q) → (∀ i : Int, 0 ≤ i → i < 73 → ¬ B kb i = q) → sH (tH (sH g (B kb) (sq (B kb)) Y2) t u K2) a2 (sq a2) X2 q = g q := by
    intro q q1 q2 q3
    rw [sH_out (fun i i1 i2 e => by
      obtain ⟨j, j1, j2, e2⟩ := hp.2.2 i i1 i2
      exact q1 j j1 j2 (e2.symm.trans e)), tH_out q2, sH_out q3]
  have a0 : ∀ i : Int, 0 ≤ i → i < 73 → ∃ j : Int, 0 ≤ j ∧ j < 73 ∧ a2 i = B 0 j := hp.2.2
  refine ⟨hd, fun k g1 g2 => ?_, fun i i1 i2 => ?_, fun k j g1 g2 j1 j2 => ?_, fun i i1 => ?_, w, ?_⟩
  · by_cases e : k = 0
    · subst e; rw [gu_at, h4 0 g1 g2, hp.2.1]
    · rw [gu_ne _ _ e, h4 k g1 g2]
  · rw [sH_out (fun j j1 j2 e => by
      obtain ⟨q, q1, q2, e2⟩ := a0 j j1 j2
      exact h1.2.1 0 (by decide) (by decide) i q i1 i2 q1 q2 (e.symm.trans e2)), tH_at h1.1.1 i1 i2]
  · by_cases e : k = 0
    · subst e
      rw [gu_at, gu_at, sH_at hp.1 j1 j2]
    · rw [gu_ne _ _ e, gu_ne _ _ e]
      have o1 : ∀ i : Int, 0 ≤ i → i < 73 → ¬ a2 i = B k j := fun i i1 i2 z => by
        obtain ⟨q, q1, q2, e2⟩ := a0 i i1 i2
        exact h1.2.2.1 0 k q j (by decide) (by decide) g1 g2 (fun y => e y.symm) q1 q2 j1 j2 (e2.symm.trans z)
      have o2 : ∀ i : Int, 0 ≤ i → i < 6 → ¬ t i = B k j := fun i i1 i2 => h1.2.1 k g1 g2 i j i1 i2 j1 j2
      by_cases e2 : k = kb
      · subst e2
        rw [gu_at, sH_out o1, tH_out o2, sH_at hb j1 j2]
      · rw [gu_ne _ _ e2, sH_out o1, tH_out o2, sH_out (fun i i1 i2 => h1.2.2.1 kb k i j (by omega) k2 g1 g2 (fun y => e2 y.symm) i1 i2 j1 j2), h6 k j g1 g2 j1 j2]
  · rw [out _ (fun j j1 j2 e => h1.2.2.2.2.1 i 0 j i1 (by decide) (by decide) j1 j2 e.symm) (fun j j1 j2 e => h1.2.2.2.1 i j i1 j1 j2 e.symm) (fun j j1 j2 e => h1.2.2.2.2.1 i kb j i1 (by omega) k2 j1 j2 e.symm), h7 i i1]
  · rw [out _ (fun j j1 j2 => h1.2.2.2.2.2.2.2 0 j (by decide) (by decide) j1 j2) h1.2.2.2.2.2.2.1 (fun j j1 j2 => h1.2.2.2.2.2.2.2 kb j (by omega) k2 j1 j2), h8]
theorem gH_c0 (h : gH g t u B r o K Z s lv A F) (hp : pA (B 0) a2) : gH (sH (tH g t u K2) a2 (sq a2) X2) t u (gu B 0 a2) r o K2 (gu (gu Z 1 (Z 1)) 0 X2) s lv A F := by
  have e := gH_c (K2 := K2) (X2 := X2) (Y2 := Z 1) h hp (kb := 1) (by decide) (by decide)
  rw [sH_id (h.1.1.2.1 1 (by decide) (by decide)) (fun j j1 j2 => h.2.2.2.1 1 j (by decide) (by decide) j1 j2)] at e
  exact e
theorem gH_r (h : gH g t u B r o K Z s lv A F) : gH (rH g r s2 lv2 A2 F2) t u B r o K Z s2 lv2 A2 F2 := by
  obtain ⟨h1, h4, h5, h6, h7, w, h8⟩ := h
  refine ⟨h1, h4, fun i i1 i2 => ?_, fun k j g1 g2 j1 j2 => ?_, fun i i1 => ov_at h1.1.2.2 i1, w, ?_⟩
  · rw [← h5 i i1 i2]; exact ov_ne (fun q q1 => h1.2.2.2.1 q i q1 i1 i2)
  · rw [← h6 k j g1 g2 j1 j2]; exact ov_ne (fun q q1 => h1.2.2.2.2.1 q k j q1 g1 g2 j1 j2)
  · rw [← h8]; exact ov_ne (fun q q1 => h1.2.2.2.2.2.1 q q1)
theorem gH_o (h : gH g t u B r o K Z s lv A F) {w : Nat → Int64} : gH (va_up g o (some (.inl (2, 1, .inr (.inl w))))) t u B r o K Z s lv A F := by
  obtain ⟨h1, h4, h5, h6, h7, -⟩ := h
  have ne : ∀ q : Nat, ¬ q = o → va_up g o (some (.inl (2, 1, .inr (.inl w)) : pz_E)) q = g q := fun q hq => if_neg hq
  refine ⟨h1, h4, fun i i1 i2 => ?_, fun k j g1 g2 j1 j2 => ?_, fun i i1 => ?_, w, if_pos rfl⟩
  · rw [ne _ (h1.2.2.2.2.2.2.1 i i1 i2)]; exact h5 i i1 i2
  · rw [ne _ (h1.2.2.2.2.2.2.2 k j g1 g2 j1 j2)]; exact h6 k j g1 g2 j1 j2
  · rw [ne _ (h1.2.2.2.2.2.1 i i1)]; exact h7 i i1
/-- what the numbers say -/
def hiS (K : Int → Int → Int) (Z : Int → Int → Int → Int) (A : Nat → Int → Int) (m : Int) : Prop := ∀ i : Int, 0 ≤ i → i < m → cS (Z (2 + (K 1 1 + 7 - m + i) % 7)) (fun j => A 4 (462 * i + j))
def gM (K : Int → Int → Int) (Z : Int → Int → Int → Int) (s lv : Int → Int) (A : Nat → Int → Int) (F : Nat → Int) : Prop :=
  ((∀ i j, zR (K i j)) ∧ (0 ≤ K 1 1 ∧ K 1 1 < 7) ∧ (0 ≤ F 5 ∧ F 5 ≤ 6) ∧ (0 ≤ F 10 ∧ F 10 ≤ 60) ∧ (∀ i, 0 ≤ A 6 i ∧ A 6 i < 65536)) ∧
  cS (Z 0) s ∧ (∀ k i j, zR (Z k i j)) ∧
  (K 4 = A 6 ∧ K 3 1 = F 10 ∧ K 0 5 = F 6 ∧ K 0 6 = F 13 ∧ K 0 4 = F 3 ∧ K 1 2 = F 5) ∧
  ((0 ≤ F 6 ∧ F 6 ≤ 5) ∧ (-1 ≤ F 13 ∧ F 13 ≤ 60)) ∧
  (F 3 = 0 ∨ (F 3 = 1 ∧ cS (Z 1) (A 3))) ∧
  hiS K Z A (F 5) ∧
  ((∀ i, zR (lv i)) ∧ (∀ i, zR (A 2 i)) ∧ (∀ i, zR (A 3 i)) ∧ (∀ i, zR (A 4 i)) ∧ (∀ i, 0 ≤ A 8 i ∧ A 8 i < 10000))
theorem gH_cV (h : gH g t u B r o K Z s lv A F) (hM : gM K Z s lv A F) : cV t u (B 0) K (Z 0) := by
  obtain ⟨⟨m1, m2, m3, m4, m5⟩, m6, m7, ⟨e4, e31, e05, e06, e04, e12⟩, -⟩ := hM
  exact ⟨h.1.1.2.1 0 (by decide) (by decide), h.1.1.1, h.1.2.1 0 (by decide) (by decide), h.2.1 0 (by decide) (by decide), cS_I m6, m1, m2, by rw [e12]; exact m3, by rw [e31]; exact m4, fun i => by rw [e4]; exact m5 i⟩
theorem gM_F (h : gM K Z s lv A F) (e : F2 3 = F 3 ∧ F2 5 = F 5 ∧ F2 6 = F 6 ∧ F2 10 = F 10 ∧ F2 13 = F 13) : gM K Z s lv A F2 := by
  unfold gM
  rw [e.1, e.2.1, e.2.2.1, e.2.2.2.1, e.2.2.2.2]
  exact h
theorem gM_A2 {b : Int → Int} (h : gM K Z s lv A F) (hb : ∀ i, zR (b i)) : gM K Z s lv (va_up A 2 b) F := by
  obtain ⟨m1, m2, m3, m4, m5, m6, m7, p1, p2, p3⟩ := h
  exact ⟨m1, m2, m3, m4, m5, m6, m7, p1, hb, p3⟩
theorem gM_lv (h : gM K Z s lv A F) (hb : ∀ i, zR (lv2 i)) : gM K Z s lv2 A F := by
  obtain ⟨m1, m2, m3, m4, m5, m6, m7, p1, p3⟩ := h
  exact ⟨m1, m2, m3, m4, m5, m6, m7, hb, p3⟩
theorem gM_s (h : gM K Z s lv A F) (hs : cS (Z 0) s2) : gM K Z s2 lv A F := ⟨h.1, hs, h.2.2⟩
theorem gM_Z {k : Int} {Y : Int → Int → Int} (h : gM K Z s lv A F) : gM K (gu Z k (Z k)) s lv A F := by
  have e : gu Z k (Z k) = Z := by
    funext j
    unfold gu
    split
    · rename_i q; rw [q]
    · rfl
  rw [e]; exact h
theorem rcB_R (h : gM K Z s lv A F) : ∀ i, zR (rcB s A i) := fun i => zcpy_R h.2.1.2.1.1.1 h.2.2.2.2.2.2.2.2.1 i
theorem rcB_at {i : Int} (i1 : 0 ≤ i) (i2 : i < 462) : rcB s A i = s i := by
  unfold rcB
  rw [zcpy0, if_pos ⟨i1, i2⟩]
/-- a refused call: the reference puts back what it kept -/
theorem cS_back (h : gM K Z s lv A F) {s1 : Int → Int} (h1 : ∀ i, zR (s1 i)) : cS (Z 0) (zcpy (rcB s A) s1 0 0 462) := cS_ext h.2.1 (zcpy_R (rcB_R h) h1) (fun i i1 i2 => by rw [zcpy0, if_pos ⟨i1, i2⟩, rcB_at i1 i2])
theorem gM_5 (h : gM K Z s lv A F) {v : Int} (v1 : 0 ≤ v) (v2 : v ≤ 5) (e : F2 3 = F 3 ∧ F2 5 = F 5 ∧ F2 6 = v ∧ F2 10 = F 10 ∧ F2 13 = F 13) : gM (k5 K v) Z s lv A F2 := by
  obtain ⟨⟨m1, m2, m3, m4, m5⟩, m6, m7, ⟨e4, e31, e05, e06, e04, e12⟩, ⟨n1, n2⟩, m8, m9, m10⟩ := h
  have k1 : k5 K v 1 = K 1 := zv_ne _ _ (by decide)
  have k3 : k5 K v 3 = K 3 := zv_ne _ _ (by decide)
  have k4 : k5 K v 4 = K 4 := zv_ne _ _ (by decide)
  have k0 : ∀ j, ¬ j = 5 → k5 K v 0 j = K 0 j := fun j hj => by
    show zv K 0 (zu (K 0) 5 v) 0 j = _
    rw [zv_at, zu_ne _ hj]
  have k05 : k5 K v 0 5 = v := by
    show zv K 0 (zu (K 0) 5 v) 0 5 = _
    rw [zv_at, zu_at]
  unfold gM hiS
  rw [e.1, e.2.1, e.2.2.1, e.2.2.2.1, e.2.2.2.2, k1, k3, k4, k0 6 (by decide), k0 4 (by decide), k05]
  refine ⟨⟨fun i j => ?_, m2, m3, m4, m5⟩, m6, m7, ⟨e4, e31, rfl, e06, e04, e12⟩, ⟨⟨v1, v2⟩, n2⟩, m8, m9, m10⟩
  show zR (zv K 0 (zu (K 0) 5 v) i j)
  rw [zv_app, zu_app]
  repeat' split
  all_goals first | exact m1 _ _ | omega
theorem hPs_R {p b : Int → Int} (h1 : ∀ i, zR (p i)) (h2 : ∀ i, zR (b i)) (m : Int) : ∀ i, zR (hPs p b m i) := by
  intro i
  unfold hPs
  split
  · exact zcpy_R h2 (zcpy_R h1 h1) i
  · exact zcpy_R h2 h1 i
/-- a change: what was is remembered -/
theorem gM_chg (h : gM K Z s lv A F) (hX : cS X2 s2) (hlv : ∀ i, zR (lv2 i)) (e : F2 3 = F 3 ∧ F2 5 = hPn (F 5) ∧ F2 6 = F 6 ∧ F2 10 = F 10 ∧ F2 13 = F 13) : gM (kR K) (gu (gu Z (2 + K 1 1) (xcp (Z (2 + K 1 1)) (Z 0))) 0 X2) s2 lv2 (rcA s A F) F2 := by
  have hB := rcB_R h
  obtain ⟨⟨m1, m2, m3, m4, m5⟩, m6, m7, ⟨e4, e31, e05, e06, e04, e12⟩, ⟨n1, n2⟩, m8, m9, p1, p2, p3, p4, p5⟩ := h
  have k0 : kR K 0 = K 0 := zv_ne _ _ (by decide)
  have k3 : kR K 3 = K 3 := zv_ne _ _ (by decide)
  have k4 : kR K 4 = K 4 := zv_ne _ _ (by decide)
  have k11 : kR K 1 1 = (K 1 1 + 1) % 7 := by
    unfold kR
    rw [zv_at, zu_ne _ (by decide), zu_at]
  have k12 : kR K 1 2 = hPn (F 5) := by
    unfold kR hPn
    rw [zv_at, zu_at, e12]
    by_cases q : F 5 = 6
    · rw [if_pos (by omega), if_pos q]
    · rw [if_neg (by omega), if_neg q]
  have hn : 0 ≤ hPn (F 5) ∧ hPn (F 5) ≤ 6 := by
    unfold hPn
    split <;> omega
  have a3 : rcA s A F 3 = A 3 := rfl
  have a4 : rcA s A F 4 = hPs (A 4) (rcB s A) (F 5) := rfl
  have a6 : rcA s A F 6 = A 6 := rfl
  have a8 : rcA s A F 8 = A 8 := rfl
  have a2 : rcA s A F 2 = rcB s A := rfl
  have z0 : gu (gu Z (2 + K 1 1) (xcp (Z (2 + K 1 1)) (Z 0))) 0 X2 0 = X2 := gu_at _ _ _
  have z1 : gu (gu Z (2 + K 1 1) (xcp (Z (2 + K 1 1)) (Z 0))) 0 X2 1 = Z 1 := by
    rw [gu_ne _ _ (by decide), gu_ne _ _ (by omega)]
  have zf : gu (gu Z (2 + K 1 1) (xcp (Z (2 + K 1 1)) (Z 0))) 0 X2 (2 + K 1 1) = xcp (Z (2 + K 1 1)) (Z 0) := by
    rw [gu_ne _ _ (by omega), gu_at]
  have zn : ∀ k : Int, ¬ k = 0 → ¬ k = 2 + K 1 1 → gu (gu Z (2 + K 1 1) (xcp (Z (2 + K 1 1)) (Z 0))) 0 X2 k = Z k := fun k q1 q2 => by
    rw [gu_ne _ _ q1, gu_ne _ _ q2]
  have hcp : cS (xcp (Z (2 + K 1 1)) (Z 0)) s := cS_cp (m7 _) m6
  unfold gM hiS
  rw [e.1, e.2.1, e.2.2.1, e.2.2.2.1, e.2.2.2.2, k0, k3, k4, k11, k12, a2, a3, a4, a6, a8, z0, z1]
  refine ⟨⟨fun i j => ?_, by omega, hn, m4, m5⟩, hX, fun k i j => ?_, ⟨e4, e31, e05, e06, e04, rfl⟩, ⟨n1, n2⟩, m8, fun i i1 i2 => ?_, hlv, hB, p3, hPs_R p4 hB _, p5⟩
  · unfold kR
    rw [zv_app]
    split
    · rw [zu_app, zu_app]
      repeat' split
      all_goals first | exact m1 _ _ | omega
    · exact m1 _ _
  · by_cases q : k = 0
    · subst q; rw [z0]; exact hX.1 i j
    · by_cases q2 : k = 2 + K 1 1
      · subst q2; rw [zf]; exact hcp.1 i j
      · rw [zn k q q2]; exact m7 k i j
  · have hR2 : ∀ j : Int, zR ((fun j => hPs (A 4) (rcB s A) (F 5) (462 * i + j)) j) := fun j => hPs_R p4 hB _ _
    by_cases q : F 5 = 6
    · have hp : hPn (F 5) = 6 := if_pos q
      rw [hp] at i2 ⊢
      by_cases qi : i = 5
      · subst qi
        rw [show 2 + ((K 1 1 + 1) % 7 + 7 - 6 + 5) % 7 = 2 + K 1 1 by omega, zf]
        refine cS_ext hcp hR2 (fun j j1 j2 => ?_)
        show hPs (A 4) (rcB s A) (F 5) (462 * 5 + j) = s j
        unfold hPs
        rw [if_pos q]
        unfold zcpy
        rw [if_pos (by omega), show 0 + (462 * 5 + j - 2310) = j by omega, rcB_at j1 j2]
      · rw [show 2 + ((K 1 1 + 1) % 7 + 7 - 6 + i) % 7 = 2 + (K 1 1 + 7 - F 5 + (i + 1)) % 7 by omega, zn _ (by omega) (by omega)]
        refine cS_ext (m9 (i + 1) (by omega) (by omega)) hR2 (fun j j1 j2 => ?_)
        show hPs (A 4) (rcB s A) (F 5) (462 * i + j) = A 4 (462 * (i + 1) + j)
        unfold hPs
        rw [if_pos q]
        unfold zcpy
        rw [if_neg (by omega), if_pos (by omega), show 462 + (462 * i + j - 0) = 462 * (i + 1) + j by omega]
    · have hp : hPn (F 5) = F 5 + 1 := if_neg q
      rw [hp] at i2 ⊢
      by_cases qi : i = F 5
      · subst qi
        rw [show 2 + ((K 1 1 + 1) % 7 + 7 - (F 5 + 1) + F 5) % 7 = 2 + K 1 1 by omega, zf]
        refine cS_ext hcp hR2 (fun j j1 j2 => ?_)
        show hPs (A 4) (rcB s A) (F 5) (462 * F 5 + j) = s j
        unfold hPs
        rw [if_neg q]
        unfold zcpy
        rw [if_pos (by omega), show 0 + (462 * F 5 + j - 462 * F 5) = j by omega, rcB_at j1 j2]
      · rw [show 2 + ((K 1 1 + 1) % 7 + 7 - (F 5 + 1) + i) % 7 = 2 + (K 1 1 + 7 - F 5 + i) % 7 by omega, zn _ (by omega) (by omega)]
        refine cS_ext (m9 i i1 (by omega)) hR2 (fun j j1 j2 => ?_)
        show hPs (A 4) (rcB s A) (F 5) (462 * i + j) = A 4 (462 * i + j)
        unfold hPs
        rw [if_neg q]
        unfold zcpy
        rw [if_neg (by omega)]
end glob
