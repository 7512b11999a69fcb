/-! the reference's rows stay good: what an entry does -/
theorem rRm_I {s : Int → Int} (hi : rI s) {cue : Int} (hp : 0 ≤ rpl s cue) : rI (rsh (rrmF cue (s 1).toNat s) (rpl s cue)) := by
  have hs := rI_B hi
  have hv := rpl_val hp
  obtain ⟨g1, g2, g3⟩ := rrmF_I cue (s 1).toNat s (by have := hs.2.2.2.1; omega) hi (fun k k1 k2 => absurd k2 (by omega))
  have e0 := g3 0 (by decide) (by decide)
  have hlt := rpl_R hs cue
  have ep := g3 (18 + 12 * rpl s cue) (by omega) (by omega)
  refine rsh_I g1 hp (by omega) (fun k k1 k2 => ?_)
  rw [ep, hv.1]
  exact g2 k k1 k2
theorem rFl_ok {s lv b : Int → Int} {F : Nat → Int} (hi : rI s) (hL : ∀ i, zR (lv i)) (hb : ∀ i, zR (b i)) {k x y z : Int} (x1 : 0 ≤ x) (x2 : x < 10000) (y1 : zR y) (z1 : 0 ≤ z) (z2 : z < 10000) :
    (∀ i, zR ((rFl s lv b F k x y z).2.1 i)) ∧ (∀ i, zR ((rFl s lv b F k x y z).2.2.1 i)) ∧ ((rFl s lv b F k x y z).1 = 0 ∨ (rFl s lv b F k x y z).1 = 1) ∧ ((rFl s lv b F k x y z).1 = 0 → rI (rFl s lv b F k x y z).2.1) ∧ (∀ j, j ≠ 6 → (rFl s lv b F k x y z).2.2.2 j = F j) := by
  have hs := rI_B hi
  have hR := hs.1
  have hK := rkl_R hs hL (12 * s 0)
  have h5 := hi.2.2.2.2.2.2.2.2
  have gd : ∀ w : Int, -1 ≤ w → w ≤ 100 → (0 ≤ rpl s x ∧ 0 ≤ y ∧ y ≤ 11) → (∀ i, zR ((rGd s lv b F x y w).2.1 i)) ∧ (∀ i, zR ((rGd s lv b F x y w).2.2.1 i)) ∧ ((rGd s lv b F x y w).1 = 0 ∨ (rGd s lv b F x y w).1 = 1) ∧ ((rGd s lv b F x y w).1 = 0 → rI (rGd s lv b F x y w).2.1) ∧ (∀ j, j ≠ 6 → (rGd s lv b F x y w).2.2.2 j = F j) := by
    intro w w1 w2 hw
    have e : rGh s lv x y w 0 False = if s (18 + 12 * rpl s x + 3) = 1 then (1, s, lv) else if s 1 = 60 ∧ rgv s x y < 0 then (2, s, rkl s lv (12 * s 0)) else (0, rgi s x y w 0, rkl s lv (12 * s 0)) := by
      unfold rGh
      rw [if_neg (fun q => q.1 : ¬ (False ∧ rwh s (rpl s x) y w)), if_neg (fun q => q : ¬ False)]
    unfold rGd
    rw [e]
    split
    · exact ⟨fun i => zcpy_R hb hR i, hL, Or.inr (bI_t (by decide : (0 : Int) < 1)), fun q => absurd ((bI_t (by decide : (0 : Int) < 1)).symm.trans q) (by decide), fun j hj => vu_ne _ _ hj⟩
    · split <;> rename_i g
      · exact ⟨fun i => zcpy_R hb hR i, hK, Or.inr (bI_t (by decide : (0 : Int) < 2)), fun q => absurd ((bI_t (by decide : (0 : Int) < 2)).symm.trans q) (by decide), fun j hj => vu_ne _ _ hj⟩
      · have hI := rgi_I hi (lev := w) (part := 0) hw.1 hw.2.1 hw.2.2 w1 w2 (by decide) (by decide) (by have := hs.2.2.2.2; omega)
        exact ⟨(rI_B hI).1, hK, Or.inl (bI_f (by decide : ¬ (0 : Int) < 0)), fun _ => hI, fun j _ => rfl⟩
  unfold rFl
  split
  · rename_i g
    unfold rAd
    split <;> rename_i g1
    · split <;> rename_i g2
      · exact ⟨hR, hL, Or.inr (bI_t (by decide : (0 : Int) < 2)), fun q => hi, fun _ _ => rfl⟩
      · have hI := rAs_I hi g1.1.1 g1.1.2 g1.2 (by have := hs.2.2.1; omega)
        exact ⟨(rI_B hI).1, hL, Or.inl (bI_f (by decide : ¬ (0 : Int) < 0)), fun _ => hI, fun _ _ => rfl⟩
    · exact ⟨hR, hL, Or.inr (bI_t (by decide : (0 : Int) < 1)), fun q => hi, fun _ _ => rfl⟩
  · split
    · have e : rRm s lv x False = (0, rsh (rrmF x (s 1).toNat s) (rpl s x)) := if_neg (fun q => q)
      unfold rRX
      rw [e]
      split <;> rename_i g1
      · split
        · exact ⟨fun i => zcpy_R hb hR i, hL, Or.inr (bI_t (by decide : (0 : Int) < 2)), fun q => absurd ((bI_t (by decide : (0 : Int) < 2)).symm.trans q) (by decide), fun j hj => vu_ne _ _ hj⟩
        · have hI := rRm_I hi g1
          rw [if_neg (by simp : ¬ 0 < ((0 : Int), rsh (rrmF x (s 1).toNat s) (rpl s x)).1)]
          exact ⟨(rI_B hI).1, hK, Or.inl (bI_f (by decide : ¬ (0 : Int) < 0)), fun _ => hI, fun _ _ => rfl⟩
      · exact ⟨hR, hL, Or.inr (bI_t (by decide : (0 : Int) < 1)), fun q => hi, fun _ _ => rfl⟩
    · split
      · split <;> rename_i g1
        · exact gd z (by omega) g1.2 g1.1
        · exact ⟨hR, hL, Or.inr rfl, fun q => hi, fun _ _ => rfl⟩
      · split
        · split <;> rename_i g1
          · exact gd (-1) (by decide) (by decide) g1
          · exact ⟨hR, hL, Or.inr rfl, fun q => hi, fun _ _ => rfl⟩
        · split
          · split <;> rename_i g1
            · exact ⟨fun i => zcpy_R hb hR i, hL, Or.inr rfl, fun q => absurd q (by simp), fun j hj => vu_ne _ _ hj⟩
            · have hI := rgo_I hi (rnx_in hs g1)
              exact ⟨(rI_B hI).1, hL, Or.inl rfl, fun _ => hI, fun _ _ => rfl⟩
          · split
            · split <;> rename_i g1
              · have hI := rgo_I hi g1
                exact ⟨(rI_B hI).1, hL, Or.inl rfl, fun _ => hI, fun _ _ => rfl⟩
              · exact ⟨hR, hL, Or.inr rfl, fun q => hi, fun _ _ => rfl⟩
            · unfold rPs
              split <;> rename_i g1
              · split <;> rename_i g2
                · have hI := (rpsN_I x.toNat s hi (by omega)).1
                  exact ⟨(rI_B hI).1, hL, Or.inl (bI_f (by decide : ¬ (0 : Int) < 0)), fun _ => hI, fun _ _ => rfl⟩
                · exact ⟨hR, hL, Or.inr (bI_t (by decide : (0 : Int) < 2)), fun _ => hi, fun _ _ => rfl⟩
              · exact ⟨hR, hL, Or.inr (bI_t (by decide : (0 : Int) < 1)), fun _ => hi, fun _ _ => rfl⟩
