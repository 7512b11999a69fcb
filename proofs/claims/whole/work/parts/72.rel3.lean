/-! what a show says: what keeps it: copies, single cells -/
abbrev cS (X : Int → Int → Int) (s : Int → Int) : Prop := (∀ i j, zR (X i j)) ∧ rI s ∧ cR X s ∧ (0 ≤ X 67 6 ∧ X 67 6 ≤ X 67 8)
section rel
variable {X Y : Int → Int → Int} {s t : Int → Int}
theorem cS_I (h : cS X s) : xI X := by
  obtain ⟨hR, hi, hc, h6⟩ := h
  have hn := hi.1.2
  have h0 := cR_n hc
  have h1 := cR_m hc
  have hl := hi.2.2.2.2.2.2.2.2
  obtain ⟨c0, c1, c2, c3, c4, c5⟩ := hc.1
  refine ⟨⟨hR, by omega⟩, ?_, ?_, ?_, ?_, ?_, ?_, ?_, by omega⟩
  · intro k k1 k2
    have := hi.2.1 k k1 (by omega)
    have hk := hc.2.2.1 k k1 (by omega)
    rw [hk.1, hk.2.1, hk.2.2.1, hk.2.2.2]
    exact this
  · intro k j k1 k2 k3
    rw [(hc.2.2.1 k k1 (by omega)).1, (hc.2.2.1 j (by omega) (by omega)).1]
    exact hi.2.2.1 k j k1 k2 (by omega)
  · intro k p k1 k2 p1 p2
    have hk := hc.2.2.2.1 k p k1 (by omega) p1 (by omega)
    rw [hk.1, hk.2]
    have e1 := hi.2.2.2.1 k (4 + 2 * p) k1 (by omega) (by omega) (by omega)
    have e2 := hi.2.2.2.1 k (4 + 2 * p + 1) k1 (by omega) (by omega) (by omega)
    rw [show 18 + 12 * k + (4 + 2 * p) = 18 + 12 * k + 4 + 2 * p by omega] at e1
    rw [show 18 + 12 * k + (4 + 2 * p + 1) = 18 + 12 * k + 4 + 2 * p + 1 by omega] at e2
    exact ⟨e1, e2⟩
  · intro k c k1 k2 d1 d2
    rcases hc.2.2.2.2.2.1 k c k1 (by omega) d1 d2 with hd | hd
    · exact ⟨by omega, fun z => absurd hd.2 z⟩
    · have := hi.2.2.2.2.1 _ hd.1 (rgv_val hd.1).2
      exact ⟨by omega, fun _ => by omega⟩
  · intro p p1 p2
    rw [(hc.2.2.2.2.1 p p1 (by omega)).2]
    exact (hi.2.2.2.2.1 p p1 (by omega)).2.1
  · intro c d1 d2
    rw [hc.2.1 c d1 d2]
    exact hi.2.2.2.2.2.2.1 c d1 d2
  · intro c d1 d2
    have hd := hc.2.2.2.2.2.2 c d1 d2
    have := hi.2.2.2.2.2.2.2.1 c d1 d2
    omega
theorem rpl_ext (hs : rB s) (h : ∀ i : Int, 0 ≤ i → i < 462 → t i = s i) (n : Int) : rpl t n = rpl s n := by
  obtain ⟨-, h1, h2, h3, h4⟩ := hs
  exact rpl_eq (h 0 (by decide) (by decide)) (fun k k1 k2 => h _ (by omega) (by omega)) n
theorem rgv_ext (hs : rB s) (h : ∀ i : Int, 0 ≤ i → i < 462 → t i = s i) (n c : Int) : rgv t n c = rgv s n c := by
  obtain ⟨-, h1, h2, h3, h4⟩ := hs
  unfold rgv
  rw [h 1 (by decide) (by decide)]
  apply zfst_congr
  intro k k1 k2
  rw [h _ (by omega) (by omega), h _ (by omega) (by omega)]
theorem cR_ext (hi : rI s) (h : ∀ i : Int, 0 ≤ i → i < 462 → t i = s i) (hc : cR X s) : cR X t := by
  have hb := hi.1.2
  have h0 := h 0 (by decide) (by decide)
  have h1 := h 1 (by decide) (by decide)
  refine ⟨?_, ?_, ?_, ?_, ?_, ?_, ?_⟩
  · rw [h0, h1, h 2 (by decide) (by decide), h 3 (by decide) (by decide), h 4 (by decide) (by decide), h 5 (by decide) (by decide)]
    exact hc.1
  · intro c c1 c2
    rw [h _ (by omega) (by omega)]; exact hc.2.1 c c1 c2
  · intro k k1 k2
    rw [h0] at k2
    rw [h _ (by omega) (by omega), h _ (by omega) (by omega), h _ (by omega) (by omega), h _ (by omega) (by omega)]; exact hc.2.2.1 k k1 k2
  · intro k p k1 k2 p1 p2
    rw [h0] at k2
    rw [h _ (by omega) (by omega), h _ (by omega) (by omega)]; exact hc.2.2.2.1 k p k1 k2 p1 p2
  · intro p p1 p2
    rw [h1] at p2
    rw [h _ (by omega) (by omega), h _ (by omega) (by omega)]; exact hc.2.2.2.2.1 p p1 p2
  · intro k c k1 k2 c1 c2
    rw [h0] at k2
    have hg := rgv_R hi.1 (s (18 + 12 * k)) c
    rw [h (18 + 12 * k) (by omega) (by omega), rgv_ext hi.1 h]
    rcases hc.2.2.2.2.2.1 k c k1 k2 c1 c2 with hd | hd
    · exact Or.inl hd
    · refine Or.inr ⟨hd.1, ?_, ?_⟩
      · rw [h _ (by omega) (by omega)]; exact hd.2.1
      · rw [h _ (by omega) (by omega)]; exact hd.2.2
  · intro c c1 c2
    rw [h _ (by omega) (by omega), h _ (by omega) (by omega), h _ (by omega) (by omega), h _ (by omega) (by omega), h _ (by omega) (by omega)]; exact hc.2.2.2.2.2.2 c c1 c2
theorem cS_ext (h : cS X s) (hR : ∀ i, zR (t i)) (e : ∀ i : Int, 0 ≤ i → i < 462 → t i = s i) : cS X t := ⟨h.1, rI_ext h.2.1 hR e, cR_ext h.2.1 e h.2.2.1, h.2.2.2⟩
theorem xcp_at {q j : Int} (h : xkP q j ∨ xkA (Y 1 1) q j) : xcp X Y q j = Y q j := if_pos h
theorem xcp_R (h1 : ∀ i j, zR (X i j)) (h2 : ∀ i j, zR (Y i j)) : ∀ i j, zR (xcp X Y i j) := by
  intro i j
  unfold xcp
  split
  · exact h2 _ _
  · exact h1 _ _
theorem cR_cp (hi : rI s) (hc : cR Y s) : cR (xcp X Y) s := by
  have hb := hi.1.2
  have hn := cR_n hc
  have hm := cR_m hc
  refine ⟨?_, ?_, ?_, ?_, ?_, ?_, ?_⟩
  · unfold xsi
    rw [xcp_at (by omega), xcp_at (by omega), xcp_at (by omega), xcp_at (by omega), xcp_at (by omega), xcp_at (by omega)]
    exact hc.1
  · intro c c1 c2
    rw [xcp_at (by omega)]; exact hc.2.1 c c1 c2
  · intro k k1 k2
    rw [xcp_at (by omega), xcp_at (by omega), xcp_at (by omega), xcp_at (by omega)]; exact hc.2.2.1 k k1 k2
  · intro k p k1 k2 p1 p2
    rw [xcp_at (by omega), xcp_at (by omega)]; exact hc.2.2.2.1 k p k1 k2 p1 p2
  · intro p p1 p2
    rw [xcp_at (by omega), xcp_at (by omega)]; exact hc.2.2.2.2.1 p p1 p2
  · intro k c k1 k2 c1 c2
    rw [xcp_at (by omega), xcp_at (by omega)]; exact hc.2.2.2.2.2.1 k c k1 k2 c1 c2
  · intro c c1 c2
    rw [xcp_at (by omega), xcp_at (by omega), xcp_at (by omega), xcp_at (by omega), xcp_at (by omega), xcp_at (by omega)]; exact hc.2.2.2.2.2.2 c c1 c2
theorem cS_cp (h1 : ∀ i j, zR (X i j)) (h : cS Y s) : cS (xcp X Y) s := ⟨xcp_R h1 h.1, h.2.1, cR_cp h.2.1 h.2.2.1, by rw [xcp_at (by omega), xcp_at (by omega)]; exact h.2.2.2⟩
theorem cS_zero (hR : ∀ i j, zR (X i j)) (hs : ∀ i, zR (s i)) (h0 : ∀ i : Int, 0 ≤ i → i < 462 → s i = 0) (h1 : X 1 1 = 0 ∧ X 1 5 = 0) (h2 : ∀ c : Int, 0 ≤ c → c ≤ 11 → X 3 c = 0) (h3 : X 67 5 = 0 ∧ X 67 6 = 0 ∧ X 67 7 = 0 ∧ X 67 8 = 0) (h4 : ∀ c : Int, 0 ≤ c → c ≤ 11 → X 68 c = 0 ∧ X 69 c = 0 ∧ X 70 c = 0 ∧ X 71 c = 0 ∧ X 72 c = 0) : cS X s := by
  have e0 := h0 0 (by decide) (by decide)
  have e1 := h0 1 (by decide) (by decide)
  refine ⟨hR, rI_zero hs h0, ⟨?_, ?_, ?_, ?_, ?_, ?_, ?_⟩, by omega⟩
  · unfold xsi
    rw [if_pos h3.1, e0, e1, h0 2 (by decide) (by decide), h0 3 (by decide) (by decide), h0 4 (by decide) (by decide), h0 5 (by decide) (by decide)]
    omega
  · intro c c1 c2
    rw [h2 c c1 c2, h0 _ (by omega) (by omega)]
  · intro k k1 k2; omega
  · intro k p k1 k2; omega
  · intro p p1 p2; omega
  · intro k c k1 k2; omega
  · intro c c1 c2
    have := h4 c c1 c2
    rw [h0 _ (by omega) (by omega), h0 _ (by omega) (by omega), h0 _ (by omega) (by omega), h0 _ (by omega) (by omega), h0 _ (by omega) (by omega)]
    omega
/-- a new show: nothing said -/
theorem cS_new (h : cS X s) : cS (xmQ (xmL X 12)) (zfil s 0 462 0) := by
  have hR := h.1
  have hR1 : ∀ i j, zR (xmQ (xmL X 12) i j) := by
    intro i j
    unfold xmQ xmP xmL
    repeat' split
    all_goals first | exact hR _ _ | exact ⟨by decide, by decide⟩
  have hR2 : ∀ i, zR (zfil s 0 462 0 i) := by
    intro i
    unfold zfil
    split
    · exact ⟨by decide, by decide⟩
    · exact h.2.1.1.1 i
  have a1 : ∀ q j : Int, (¬ q = 67 ∧ (q < 68)) → xmQ (xmL X 12) q j = xmL X 12 q j := fun q j hq => by
    unfold xmQ xmP
    rw [if_neg (by omega), if_neg (by omega)]
  have a2 : ∀ q j : Int, (68 ≤ q ∧ q ≤ 72) → (0 ≤ j ∧ j < 12) → xmQ (xmL X 12) q j = 0 := fun q j hq hj => by
    unfold xmQ xmP
    rw [if_neg (by omega), if_pos ⟨hq, hj⟩]
  refine cS_zero hR1 hR2 (fun i i1 i2 => if_pos ⟨i1, by omega⟩) ?_ ?_ ?_ ?_
  · rw [a1 1 1 (by decide), a1 1 5 (by decide)]
    exact ⟨if_pos (by decide), if_pos (by decide)⟩
  · intro c c1 c2
    rw [a1 3 c (by decide)]
    unfold xmL
    rw [if_neg (by omega), if_pos ⟨rfl, c1, by omega⟩]
  · exact ⟨if_pos (by decide), if_pos (by decide), if_pos (by decide), if_pos (by decide)⟩
  · intro c c1 c2
    exact ⟨a2 _ _ (by decide) ⟨c1, by omega⟩, a2 _ _ (by decide) ⟨c1, by omega⟩, a2 _ _ (by decide) ⟨c1, by omega⟩, a2 _ _ (by decide) ⟨c1, by omega⟩, a2 _ _ (by decide) ⟨c1, by omega⟩⟩
/-- one number of a cue -/
theorem zv_R {i k v : Int} (hR : ∀ i j, zR (X i j)) (hv : zR v) : ∀ p q, zR (zv X i (zu (X i) k v) p q) := by
  intro p q
  rw [zv_app, zu_app]
  repeat' split
  all_goals first | exact hv | exact hR _ _
theorem rgv_cell {i v : Int} (h : i < 162 ∨ 402 ≤ i) (h1 : ¬ i = 1) (hs : rB s) (n c : Int) : rgv (zu s i v) n c = rgv s n c := by
  obtain ⟨-, g1, g2, g3, g4⟩ := hs
  unfold rgv
  rw [zu_ne _ (show ¬ (1 : Int) = i by omega)]
  apply zfst_congr
  intro k k1 k2
  rw [zu_ne _ (by omega), zu_ne _ (by omega)]
theorem cR_set (hi : rI s) (hc : cR X s) {k m v : Int} (k1 : 0 ≤ k) (k2 : k < s 0) (m1 : 1 ≤ m) (m2 : m ≤ 3) : cR (zv X (7 + 5 * k) (zu (X (7 + 5 * k)) m v)) (zu s (18 + 12 * k + m) v) := by
  have hb := hi.1.2
  have z : ∀ q : Int, ¬ q = 7 + 5 * k → zv X (7 + 5 * k) (zu (X (7 + 5 * k)) m v) q = X q := fun q hq => zv_ne _ _ hq
  have y : ∀ i : Int, ¬ i = 18 + 12 * k + m → zu s (18 + 12 * k + m) v i = s i := fun i hq => zu_ne _ hq
  have gv : ∀ n c : Int, rgv (zu s (18 + 12 * k + m) v) n c = rgv s n c := fun n c => rgv_cell (by omega) (by omega) hi.1 n c
  have y0 := y 0 (by omega)
  have y1 := y 1 (by omega)
  refine ⟨?_, ?_, ?_, ?_, ?_, ?_, ?_⟩
  · unfold xsi
    rw [z 1 (by omega), z 67 (by omega), y0, y1, y 2 (by omega), y 3 (by omega), y 4 (by omega), y 5 (by omega)]
    exact hc.1
  · intro c c1 c2
    rw [z 3 (by omega), y _ (by omega)]; exact hc.2.1 c c1 c2
  · intro j j1 j2
    rw [y0] at j2
    have hj := hc.2.2.1 j j1 j2
    by_cases e : j = k
    · subst e
      rw [zv_at, zu_app, zu_app, zu_app, zu_app, zu_app, zu_app, zu_app, zu_app]
      rw [if_neg (by omega), if_neg (by omega)]
      refine ⟨hj.1, ?_, ?_, ?_⟩
      · by_cases q : m = 1
        · rw [if_pos (by omega), if_pos (by omega)]
        · rw [if_neg (by omega), if_neg (by omega)]; exact hj.2.1
      · by_cases q : m = 2
        · rw [if_pos (by omega), if_pos (by omega)]
        · rw [if_neg (by omega), if_neg (by omega)]; exact hj.2.2.1
      · by_cases q : m = 3
        · rw [if_pos (by omega), if_pos (by omega)]
        · rw [if_neg (by omega), if_neg (by omega)]; exact hj.2.2.2
    · rw [z _ (by omega), y _ (by omega), y _ (by omega), y _ (by omega), y _ (by omega)]; exact hj
  · intro j p j1 j2 p1 p2
    rw [y0] at j2
    rw [z _ (by omega), z _ (by omega), y _ (by omega), y _ (by omega)]; exact hc.2.2.2.1 j p j1 j2 p1 p2
  · intro p p1 p2
    rw [y1] at p2
    rw [z _ (by omega), z _ (by omega), y _ (by omega), y _ (by omega)]; exact hc.2.2.2.2.1 p p1 p2
  · intro j c j1 j2 c1 c2
    rw [y0] at j2
    have hg := rgv_R hi.1 (s (18 + 12 * j)) c
    rw [y (18 + 12 * j) (by omega), gv, z _ (by omega), z _ (by omega)]
    rcases hc.2.2.2.2.2.1 j c j1 j2 c1 c2 with hd | hd
    · exact Or.inl hd
    · refine Or.inr ⟨hd.1, ?_, ?_⟩
      · rw [y _ (by omega)]; exact hd.2.1
      · rw [y _ (by omega)]; exact hd.2.2
  · intro c c1 c2
    rw [z _ (by omega), z _ (by omega), z _ (by omega), z _ (by omega), z _ (by omega), z _ (by omega), y _ (by omega), y _ (by omega), y _ (by omega), y _ (by omega), y _ (by omega)]; exact hc.2.2.2.2.2.2 c c1 c2
theorem cR_part (hi : rI s) (hc : cR X s) {k p r v : Int} (k1 : 0 ≤ k) (k2 : k < s 0) (p1 : 0 ≤ p) (p2 : p ≤ 3) (r1 : r = 1 ∨ r = 2) : cR (zv X (7 + 5 * k + r) (zu (X (7 + 5 * k + r)) p v)) (zu s (18 + 12 * k + 4 + 2 * p + (r - 1)) v) := by
  have hb := hi.1.2
  have z : ∀ q : Int, ¬ q = 7 + 5 * k + r → zv X (7 + 5 * k + r) (zu (X (7 + 5 * k + r)) p v) q = X q := fun q hq => zv_ne _ _ hq
  have y : ∀ i : Int, ¬ i = 18 + 12 * k + 4 + 2 * p + (r - 1) → zu s (18 + 12 * k + 4 + 2 * p + (r - 1)) v i = s i := fun i hq => zu_ne _ hq
  have gv : ∀ n c : Int, rgv (zu s (18 + 12 * k + 4 + 2 * p + (r - 1)) v) n c = rgv s n c := fun n c => rgv_cell (by omega) (by omega) hi.1 n c
  have y0 := y 0 (by omega)
  have y1 := y 1 (by omega)
  refine ⟨?_, ?_, ?_, ?_, ?_, ?_, ?_⟩
  · unfold xsi
    rw [z 1 (by omega), z 67 (by omega), y0, y1, y 2 (by omega), y 3 (by omega), y 4 (by omega), y 5 (by omega)]
    exact hc.1
  · intro c c1 c2
    rw [z 3 (by omega), y _ (by omega)]; exact hc.2.1 c c1 c2
  · intro j j1 j2
    rw [y0] at j2
    rw [z _ (by omega), y _ (by omega), y _ (by omega), y _ (by omega), y _ (by omega)]; exact hc.2.2.1 j j1 j2
  · intro j q j1 j2 q1 q2
    rw [y0] at j2
    have hj := hc.2.2.2.1 j q j1 j2 q1 q2
    by_cases e : j = k
    · subst e
      by_cases e2 : q = p
      · subst e2
        rcases r1 with rfl | rfl
        · rw [zv_at, zu_at, z _ (by omega), show 18 + 12 * j + 4 + 2 * q + (1 - 1) = 18 + 12 * j + 4 + 2 * q by omega, zu_at, zu_ne _ (by omega)]
          exact ⟨rfl, hj.2⟩
        · rw [zv_at, zu_at, z _ (by omega), show 18 + 12 * j + 4 + 2 * q + (2 - 1) = 18 + 12 * j + 4 + 2 * q + 1 by omega, zu_at, zu_ne _ (by omega)]
          exact ⟨hj.1, rfl⟩
      · rw [y _ (by omega), y _ (by omega)]
        rcases r1 with rfl | rfl
        · rw [zv_at, zu_ne _ e2, z _ (by omega)]; exact hj
        · rw [zv_at, zu_ne _ e2, z _ (by omega)]; exact hj
    · rw [z _ (by omega), z _ (by omega), y _ (by omega), y _ (by omega)]; exact hj
  · intro q q1 q2
    rw [y1] at q2
    rw [z _ (by omega), z _ (by omega), y _ (by omega), y _ (by omega)]; exact hc.2.2.2.2.1 q q1 q2
  · intro j c j1 j2 c1 c2
    rw [y0] at j2
    have hg := rgv_R hi.1 (s (18 + 12 * j)) c
    rw [y (18 + 12 * j) (by omega), gv, z _ (by omega), z _ (by omega)]
    rcases hc.2.2.2.2.2.1 j c j1 j2 c1 c2 with hd | hd
    · exact Or.inl hd
    · refine Or.inr ⟨hd.1, ?_, ?_⟩
      · rw [y _ (by omega)]; exact hd.2.1
      · rw [y _ (by omega)]; exact hd.2.2
  · intro c c1 c2
    rw [z _ (by omega), z _ (by omega), z _ (by omega), z _ (by omega), z _ (by omega), z _ (by omega), y _ (by omega), y _ (by omega), y _ (by omega), y _ (by omega), y _ (by omega)]; exact hc.2.2.2.2.2.2 c c1 c2
theorem cR_home (hi : rI s) (hc : cR X s) {d v : Int} (d1 : 0 ≤ d) (d2 : d ≤ 11) : cR (zv X 3 (zu (X 3) d v)) (zu s (6 + d) v) := by
  have hb := hi.1.2
  have z : ∀ q : Int, ¬ q = 3 → zv X 3 (zu (X 3) d v) q = X q := fun q hq => zv_ne _ _ hq
  have y : ∀ i : Int, ¬ i = 6 + d → zu s (6 + d) v i = s i := fun i hq => zu_ne _ hq
  have gv : ∀ n c : Int, rgv (zu s (6 + d) v) n c = rgv s n c := fun n c => rgv_cell (by omega) (by omega) hi.1 n c
  have y0 := y 0 (by omega)
  have y1 := y 1 (by omega)
  refine ⟨?_, ?_, ?_, ?_, ?_, ?_, ?_⟩
  · unfold xsi
    rw [z 1 (by omega), z 67 (by omega), y0, y1, y 2 (by omega), y 3 (by omega), y 4 (by omega), y 5 (by omega)]
    exact hc.1
  · intro c c1 c2
    rw [zv_at]
    by_cases e : c = d
    · subst e
      rw [zu_at, zu_at]
    · rw [zu_ne _ e, y _ (by omega)]; exact hc.2.1 c c1 c2
  · intro j j1 j2
    rw [y0] at j2
    rw [z _ (by omega), y _ (by omega), y _ (by omega), y _ (by omega), y _ (by omega)]; exact hc.2.2.1 j j1 j2
  · intro j q j1 j2 q1 q2
    rw [y0] at j2
    rw [z _ (by omega), z _ (by omega), y _ (by omega), y _ (by omega)]; exact hc.2.2.2.1 j q j1 j2 q1 q2
  · intro q q1 q2
    rw [y1] at q2
    rw [z _ (by omega), z _ (by omega), y _ (by omega), y _ (by omega)]; exact hc.2.2.2.2.1 q q1 q2
  · intro j c j1 j2 c1 c2
    rw [y0] at j2
    have hg := rgv_R hi.1 (s (18 + 12 * j)) c
    rw [y (18 + 12 * j) (by omega), gv, z _ (by omega), z _ (by omega)]
    rcases hc.2.2.2.2.2.1 j c j1 j2 c1 c2 with hd | hd
    · exact Or.inl hd
    · refine Or.inr ⟨hd.1, ?_, ?_⟩
      · rw [y _ (by omega)]; exact hd.2.1
      · rw [y _ (by omega)]; exact hd.2.2
  · intro c c1 c2
    rw [z _ (by omega), z _ (by omega), z _ (by omega), z _ (by omega), z _ (by omega), z _ (by omega), y _ (by omega), y _ (by omega), y _ (by omega), y _ (by omega), y _ (by omega)]; exact hc.2.2.2.2.2.2 c c1 c2
end rel
