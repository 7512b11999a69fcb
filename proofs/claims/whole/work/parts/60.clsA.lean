/-! the class: copies of a show -/
/-- another show, b, beside that at a -/
def sO (h : pz_H) (a b : Int → Nat) (Y : Int → Int → Int) : Prop := (∀ i j : Int, 0 ≤ i → i < 73 → 0 ≤ j → j < 73 → ¬ a i = b j) ∧ (∀ j : Int, 0 ≤ j → j < 73 → h (b j) = some (scl b (sq b) Y j))
theorem sO_at {h : pz_H} {a b : Int → Nat} {Y X : Int → Int → Int} {f : Nat → Option Nat} (ho : sO h a b Y) {j : Int} (h1 : 0 ≤ j) (h2 : j < 73) : sH h a f X (b j) = some (scl b (sq b) Y j) := by
  rw [sH_out (fun i i1 i2 => ho.1 i j i1 i2 h1 h2)]
  exact ho.2 j h1 h2
theorem nar01 {v : Int} (h : v = 0 ∨ v = 1) : narrow .boolean (.int (zI v)) = .int (zI v) := by rcases h with e | e <;> rw [e] <;> rfl
section clsother
variable {h : pz_H} {a b : Int → Nat} {f : Nat → Option Nat} {X Y : Int → Int → Int}
theorem oH_0 (ho : sO h a b Y) : sH h a f X (b 0) = some (.inr (5, [.ref (b 1), .ref (b 67)]) : pz_E) := sO_at ho (by decide) (by decide)
theorem oH_1 (ho : sO h a b Y) : sH h a f X (b 1) = some (.inr (1, [.ref (b 2), .int (zI (Y 1 1)), .ref (b 3), .ref (b 4), .ref (b 5), .int (zI (Y 1 5)), .ref (b 6)]) : pz_E) := sO_at ho (by decide) (by decide)
theorem oH_2 (ho : sO h a b Y) : sH h a f X (b 2) = some (.inl (3, 12, .inr (.inr (.inr (.inr (sq b))))) : pz_E) := sO_at ho (by decide) (by decide)
theorem oH_3 (ho : sO h a b Y) : sH h a f X (b 3) = some (.inl (0, 12, .inl (zf (Y 3))) : pz_E) := sO_at ho (by decide) (by decide)
theorem oH_4 (ho : sO h a b Y) : sH h a f X (b 4) = some (.inl (0, 60, .inl (zf (Y 4))) : pz_E) := sO_at ho (by decide) (by decide)
theorem oH_5 (ho : sO h a b Y) : sH h a f X (b 5) = some (.inl (0, 60, .inl (zf (Y 5))) : pz_E) := sO_at ho (by decide) (by decide)
theorem oH_6 (ho : sO h a b Y) : sH h a f X (b 6) = some (.inl (0, 12, .inl (zf (Y 6))) : pz_E) := sO_at ho (by decide) (by decide)
theorem oH_67 (ho : sO h a b Y) : sH h a f X (b 67) = some (.inr (4, [.ref (b 68), .ref (b 69), .ref (b 70), .ref (b 71), .ref (b 72), .int (zI (Y 67 5)), .int (zI (Y 67 6)), .int (zI (Y 67 7)), .int (zI (Y 67 8))]) : pz_E) := sO_at ho (by decide) (by decide)
theorem oH_68 (ho : sO h a b Y) : sH h a f X (b 68) = some (.inl (0, 12, .inl (zf (Y 68))) : pz_E) := sO_at ho (by decide) (by decide)
theorem oH_69 (ho : sO h a b Y) : sH h a f X (b 69) = some (.inl (0, 12, .inl (zf (Y 69))) : pz_E) := sO_at ho (by decide) (by decide)
theorem oH_70 (ho : sO h a b Y) : sH h a f X (b 70) = some (.inl (0, 12, .inl (zf (Y 70))) : pz_E) := sO_at ho (by decide) (by decide)
theorem oH_71 (ho : sO h a b Y) : sH h a f X (b 71) = some (.inl (0, 12, .inl (zf (Y 71))) : pz_E) := sO_at ho (by decide) (by decide)
theorem oH_72 (ho : sO h a b Y) : sH h a f X (b 72) = some (.inl (0, 12, .inl (zf (Y 72))) : pz_E) := sO_at ho (by decide) (by decide)
theorem oH_C (ho : sO h a b Y) {k : Int} (h1 : 0 ≤ k) (h2 : k < 12) : sH h a f X (b (7 + 5 * k)) = some (.inr (0, [.int (zI (Y (7 + 5 * k) 0)), .int (zI (Y (7 + 5 * k) 1)), .int (zI (Y (7 + 5 * k) 2)), .int (zI (Y (7 + 5 * k) 3)), .ref (b (7 + 5 * k + 1)), .ref (b (7 + 5 * k + 2)), .ref (b (7 + 5 * k + 3)), .ref (b (7 + 5 * k + 4))]) : pz_E) := by
  rw [sO_at ho (by omega) (by omega), scl_C h1 h2]
theorem oH_C1 (ho : sO h a b Y) {k : Int} (h1 : 0 ≤ k) (h2 : k < 12) : sH h a f X (b (7 + 5 * k + 1)) = some (.inl (0, 4, .inl (zf (Y (7 + 5 * k + 1))))) := by
  rw [sO_at ho (by omega) (by omega), scl_C1 h1 h2]
theorem oH_C2 (ho : sO h a b Y) {k : Int} (h1 : 0 ≤ k) (h2 : k < 12) : sH h a f X (b (7 + 5 * k + 2)) = some (.inl (0, 4, .inl (zf (Y (7 + 5 * k + 2))))) := by
  rw [sO_at ho (by omega) (by omega), scl_C2 h1 h2]
theorem oH_C3 (ho : sO h a b Y) {k : Int} (h1 : 0 ≤ k) (h2 : k < 12) : sH h a f X (b (7 + 5 * k + 3)) = some (.inl (0, 12, .inl (zf (Y (7 + 5 * k + 3))))) := by
  rw [sO_at ho (by omega) (by omega), scl_C3 h1 h2]
theorem oH_C4 (ho : sO h a b Y) {k : Int} (h1 : 0 ≤ k) (h2 : k < 12) : sH h a f X (b (7 + 5 * k + 4)) = some (.inl (0, 12, .inl (zf (Y (7 + 5 * k + 4))))) := by
  rw [sO_at ho (by omega) (by omega), scl_C4 h1 h2]
theorem zr_orow {d : Nat} {en : pz_Env} {C : pz_C} {own : Nat} {cc : ByteArray} {nL : Nat} {rt : Option FieldType} {hh : List (Nat × Nat × Nat × Nat)} {ini : Bool} {Q : pz_Q} {pc : Nat} {ls : List (Option Value)} {st : List Value} {nc ns : Nat} {i : Int} (ho : sO h a b Y) (hd : decode cc pc = .ok (.aaload, 1)) (h1 : 0 ≤ i) (h2 : i < 12) (kk : pz_WP d en C own cc nL rt hh ini Q (pc + 1) ls (.ref (b (7 + 5 * i)) :: st) (sH h a f X) nc ns) : pz_WP d en C own cc nL rt hh ini Q pc ls (.int (zI i) :: .ref (b 2) :: st) (sH h a f X) nc ns :=
  pr_aald hd (oH_2 ho) (Or.inl rfl) (zk ⟨h1, (show i < ((12 : Nat) : Int) by omega)⟩ (by decide)).1 (zk ⟨h1, (show i < ((12 : Nat) : Int) by omega)⟩ (by decide)).2 (sq_at h1 h2) kk
end clsother

abbrev xkC (k q j : Int) : Prop := ((q = 7 + 5 * k ∨ q = 7 + 5 * k + 1 ∨ q = 7 + 5 * k + 2) ∧ 0 ≤ j ∧ j < 4) ∨ ((q = 7 + 5 * k + 3 ∨ q = 7 + 5 * k + 4) ∧ 0 ≤ j ∧ j < 12)
def xcC (X Y : Int → Int → Int) (k : Int) : Int → Int → Int := fun q j => if xkC k q j then Y q j else X q j
theorem xcC_1 {X Y : Int → Int → Int} {k : Int} {X1 X2 X3 X4 X5 X6 X7 : Int → Int → Int} (e1 : X1 = zv X (7 + 5 * k) (zu (X (7 + 5 * k)) 0 (Y (7 + 5 * k) 0))) (e2 : X2 = zv X1 (7 + 5 * k) (zu (X1 (7 + 5 * k)) 1 (Y (7 + 5 * k) 1))) (e3 : X3 = zv X2 (7 + 5 * k) (zu (X2 (7 + 5 * k)) 2 (Y (7 + 5 * k) 2))) (e4 : X4 = zv X3 (7 + 5 * k) (zu (X3 (7 + 5 * k)) 3 (Y (7 + 5 * k) 3)))
    (e5 : X5 = zv X4 (7 + 5 * k + 1) (zcpy (Y (7 + 5 * k + 1)) (X4 (7 + 5 * k + 1)) 0 0 4)) (e6 : X6 = zv X5 (7 + 5 * k + 2) (zcpy (Y (7 + 5 * k + 2)) (X5 (7 + 5 * k + 2)) 0 0 4)) (e7 : X7 = zv X6 (7 + 5 * k + 3) (zcpy (Y (7 + 5 * k + 3)) (X6 (7 + 5 * k + 3)) 0 0 12)) : zv X7 (7 + 5 * k + 4) (zcpy (Y (7 + 5 * k + 4)) (X7 (7 + 5 * k + 4)) 0 0 12) = xcC X Y k := by
  have h4 : X4 = zv X (7 + 5 * k) (fun j => if 0 ≤ j ∧ j < 4 then Y (7 + 5 * k) j else X (7 + 5 * k) j) := by
    rw [e4, e3, e2, e1, zv_zv, zv_zv, zv_zv, zv_at, zv_at, zv_at]
    congr 1
    funext j
    rw [zu_app, zu_app, zu_app, zu_app]
    by_cases c0 : j = 0
    · subst c0; rfl
    by_cases c1 : j = 1
    · subst c1; rfl
    by_cases c2 : j = 2
    · subst c2; rfl
    by_cases c3 : j = 3
    · subst c3; rfl
    rw [if_neg c3, if_neg c2, if_neg c1, if_neg c0, if_neg (by omega)]
  have z4 : ∀ r : Int, 0 < r → X4 (7 + 5 * k + r) = X (7 + 5 * k + r) := fun r hr => by rw [h4, zv_ne _ _ (by omega)]
  rw [e7, e6, e5]
  rw [zv_ne _ _ (show ¬ 7 + 5 * k + 4 = 7 + 5 * k + 3 by omega), zv_ne _ _ (show ¬ 7 + 5 * k + 4 = 7 + 5 * k + 2 by omega), zv_ne _ _ (show ¬ 7 + 5 * k + 4 = 7 + 5 * k + 1 by omega), zv_ne _ _ (show ¬ 7 + 5 * k + 3 = 7 + 5 * k + 2 by omega), zv_ne _ _ (show ¬ 7 + 5 * k + 3 = 7 + 5 * k + 1 by omega), zv_ne _ _ (show ¬ 7 + 5 * k + 2 = 7 + 5 * k + 1 by omega), z4 1 (by decide), z4 2 (by decide), z4 3 (by decide), z4 4 (by decide), h4]
  have zc : ∀ (f g : Int → Int) (n j : Int), zcpy f g 0 0 n j = if 0 ≤ j ∧ j < n then f j else g j := fun f g n j => by
    unfold zcpy
    by_cases q : 0 ≤ j ∧ j < n
    · rw [if_pos q, if_pos (by omega)]
      congr 1
      omega
    · rw [if_neg q, if_neg (by omega)]
  funext q j
  unfold xcC
  by_cases r4 : q = 7 + 5 * k + 4
  · subst r4
    rw [zv_at, zc]
    by_cases c : 0 ≤ j ∧ j < 12
    · rw [if_pos c, if_pos (by omega)]
    · rw [if_neg c, if_neg (by omega)]
  rw [zv_ne _ _ r4]
  by_cases r3 : q = 7 + 5 * k + 3
  · subst r3
    rw [zv_at, zc]
    by_cases c : 0 ≤ j ∧ j < 12
    · rw [if_pos c, if_pos (by omega)]
    · rw [if_neg c, if_neg (by omega)]
  rw [zv_ne _ _ r3]
  by_cases r2 : q = 7 + 5 * k + 2
  · subst r2
    rw [zv_at, zc]
    by_cases c : 0 ≤ j ∧ j < 4
    · rw [if_pos c, if_pos (by omega)]
    · rw [if_neg c, if_neg (by omega)]
  rw [zv_ne _ _ r2]
  by_cases r1 : q = 7 + 5 * k + 1
  · subst r1
    rw [zv_at, zc]
    by_cases c : 0 ≤ j ∧ j < 4
    · rw [if_pos c, if_pos (by omega)]
    · rw [if_neg c, if_neg (by omega)]
  rw [zv_ne _ _ r1]
  by_cases r0 : q = 7 + 5 * k
  · subst r0
    rw [zv_at]
    by_cases c : 0 ≤ j ∧ j < 4
    · rw [if_pos c, if_pos (by omega)]
    · rw [if_neg c, if_neg (by omega)]
  rw [zv_ne _ _ r0, if_neg (by omega)]
theorem zcpy0 (f g : Int → Int) (n j : Int) : zcpy f g 0 0 n j = if 0 ≤ j ∧ j < n then f j else g j := by
  unfold zcpy
  by_cases q : 0 ≤ j ∧ j < n
  · rw [if_pos q, if_pos (by omega)]
    congr 1
    omega
  · rw [if_neg q, if_neg (by omega)]
/-- the first m cues, and the number of cues -/
abbrev xkL (m q j : Int) : Prop := (7 ≤ q ∧ q < 7 + 5 * m) ∧ (0 ≤ j ∧ j < 12) ∧ ((q - 7) % 5 < 3 → j < 4)
def xcL (X Y : Int → Int → Int) (m : Int) : Int → Int → Int := fun q j => if (q = 1 ∧ j = 1) ∨ xkL m q j then Y q j else X q j
theorem xcL_0 {X Y : Int → Int → Int} : zv X 1 (zu (X 1) 1 (Y 1 1)) = xcL X Y 0 := by
  funext q j
  unfold xcL
  rw [zv_app, zu_app]
  by_cases e : q = 1 ∧ j = 1
  · obtain ⟨rfl, rfl⟩ := e; rfl
  · rw [if_neg (show ¬ ((q = 1 ∧ j = 1) ∨ xkL 0 q j) by omega)]
    by_cases e2 : q = 1
    · rw [if_pos e2, if_neg (fun z => e ⟨e2, z⟩), e2]
    · rw [if_neg e2]
theorem xcL_s {X Y : Int → Int → Int} {m : Int} (hm : 0 ≤ m) : xcC (xcL X Y m) Y m = xcL X Y (m + 1) := by
  funext q j
  unfold xcC xcL
  by_cases c : xkC m q j
  · rw [if_pos c, if_pos (by omega)]
  · rw [if_neg c]
    by_cases d : (q = 1 ∧ j = 1) ∨ xkL m q j
    · rw [if_pos d, if_pos (by omega)]
    · rw [if_neg d, if_neg (by omega)]
abbrev xkA (m q j : Int) : Prop := (q = 1 ∧ (j = 1 ∨ j = 5)) ∨ (q = 3 ∧ 0 ≤ j ∧ j < 12) ∨ ((q = 4 ∨ q = 5) ∧ 0 ≤ j ∧ j < 60) ∨ xkL m q j
def xcA (X Y : Int → Int → Int) : Int → Int → Int := fun q j => if xkA (Y 1 1) q j then Y q j else X q j
theorem xcA_e {X Y : Int → Int → Int} {m : Int} {X1 X2 X3 : Int → Int → Int} (hm : m = Y 1 1) (e1 : X1 = zv (xcL X Y m) 3 (zcpy (Y 3) (xcL X Y m 3) 0 0 12)) (e2 : X2 = zv X1 4 (zcpy (Y 4) (X1 4) 0 0 60)) (e3 : X3 = zv X2 5 (zcpy (Y 5) (X2 5) 0 0 60)) : zv X3 1 (zu (X3 1) 5 (Y 1 5)) = xcA X Y := by
  subst hm
  funext q j
  unfold xcA
  by_cases r1 : q = 1
  · subst r1
    rw [zv_at, zu_app, e3, zv_ne _ _ (by decide), e2, zv_ne _ _ (by decide), e1, zv_ne _ _ (by decide)]
    unfold xcL
    by_cases c : j = 5
    · rw [if_pos c, if_pos (by omega), c]
    · rw [if_neg c]
      by_cases c1 : j = 1
      · rw [if_pos (by omega), if_pos (by omega)]
      · rw [if_neg (by omega), if_neg (by omega)]
  rw [zv_ne _ _ r1]
  by_cases r5 : q = 5
  · subst r5
    rw [e3, zv_at, zcpy0, e2, zv_ne _ _ (by decide), e1, zv_ne _ _ (by decide)]
    unfold xcL
    by_cases c : 0 ≤ j ∧ j < 60
    · rw [if_pos c, if_pos (by omega)]
    · rw [if_neg c, if_neg (by omega), if_neg (by omega)]
  rw [e3, zv_ne _ _ r5]
  by_cases r4 : q = 4
  · subst r4
    rw [e2, zv_at, zcpy0, e1, zv_ne _ _ (by decide)]
    unfold xcL
    by_cases c : 0 ≤ j ∧ j < 60
    · rw [if_pos c, if_pos (by omega)]
    · rw [if_neg c, if_neg (by omega), if_neg (by omega)]
  rw [e2, zv_ne _ _ r4]
  by_cases r3 : q = 3
  · subst r3
    rw [e1, zv_at, zcpy0]
    unfold xcL
    by_cases c : 0 ≤ j ∧ j < 12
    · rw [if_pos c, if_pos (by omega)]
    · rw [if_neg c, if_neg (by omega), if_neg (by omega)]
  rw [e1, zv_ne _ _ r3]
  unfold xcL
  by_cases c : xkL (Y 1 1) q j
  · rw [if_pos (by omega), if_pos (by omega)]
  · rw [if_neg (by omega), if_neg (by omega)]
abbrev xkP (q j : Int) : Prop := ((68 ≤ q ∧ q ≤ 72) ∧ 0 ≤ j ∧ j < 12) ∨ (q = 67 ∧ 5 ≤ j ∧ j ≤ 8)
def xcP (X Y : Int → Int → Int) : Int → Int → Int := fun q j => if xkP q j then Y q j else X q j
theorem xcP_e {X Y : Int → Int → Int} {X1 X2 X3 X4 X5 X6 X7 X8 : Int → Int → Int} (e1 : X1 = zv X 68 (zcpy (Y 68) (X 68) 0 0 12)) (e2 : X2 = zv X1 69 (zcpy (Y 69) (X1 69) 0 0 12)) (e3 : X3 = zv X2 70 (zcpy (Y 70) (X2 70) 0 0 12)) (e4 : X4 = zv X3 71 (zcpy (Y 71) (X3 71) 0 0 12)) (e5 : X5 = zv X4 72 (zcpy (Y 72) (X4 72) 0 0 12)) (e6 : X6 = zv X5 67 (zu (X5 67) 5 (Y 67 5))) (e7 : X7 = zv X6 67 (zu (X6 67) 6 (Y 67 6))) (e8 : X8 = zv X7 67 (zu (X7 67) 7 (Y 67 7))) : zv X8 67 (zu (X8 67) 8 (Y 67 8)) = xcP X Y := by
  have h5 : X5 67 = X 67 := by rw [e5, zv_ne _ _ (by decide), e4, zv_ne _ _ (by decide), e3, zv_ne _ _ (by decide), e2, zv_ne _ _ (by decide), e1, zv_ne _ _ (by decide)]
  funext q j
  unfold xcP
  rw [e8, e7, e6, zv_zv, zv_zv, zv_zv, zv_at, zv_at, zv_at, h5]
  by_cases r : q = 67
  · subst r
    rw [zv_at, zu_app, zu_app, zu_app, zu_app]
    by_cases c5 : j = 5
    · subst c5; rfl
    by_cases c6 : j = 6
    · subst c6; rfl
    by_cases c7 : j = 7
    · subst c7; rfl
    by_cases c8 : j = 8
    · subst c8; rfl
    rw [if_neg c8, if_neg c7, if_neg c6, if_neg c5, if_neg (by omega)]
  rw [zv_ne _ _ r, e5]
  by_cases r5 : q = 72
  · subst r5
    rw [zv_at, zcpy0, e4, zv_ne _ _ (by decide), e3, zv_ne _ _ (by decide), e2, zv_ne _ _ (by decide), e1, zv_ne _ _ (by decide)]
    by_cases c : 0 ≤ j ∧ j < 12
    · rw [if_pos c, if_pos (by omega)]
    · rw [if_neg c, if_neg (by omega)]
  rw [zv_ne _ _ r5, e4]
  by_cases r4 : q = 71
  · subst r4
    rw [zv_at, zcpy0, e3, zv_ne _ _ (by decide), e2, zv_ne _ _ (by decide), e1, zv_ne _ _ (by decide)]
    by_cases c : 0 ≤ j ∧ j < 12
    · rw [if_pos c, if_pos (by omega)]
    · rw [if_neg c, if_neg (by omega)]
  rw [zv_ne _ _ r4, e3]
  by_cases r3 : q = 70
  · subst r3
    rw [zv_at, zcpy0, e2, zv_ne _ _ (by decide), e1, zv_ne _ _ (by decide)]
    by_cases c : 0 ≤ j ∧ j < 12
    · rw [if_pos c, if_pos (by omega)]
    · rw [if_neg c, if_neg (by omega)]
  rw [zv_ne _ _ r3, e2]
  by_cases r2 : q = 69
  · subst r2
    rw [zv_at, zcpy0, e1, zv_ne _ _ (by decide)]
    by_cases c : 0 ≤ j ∧ j < 12
    · rw [if_pos c, if_pos (by omega)]
    · rw [if_neg c, if_neg (by omega)]
  rw [zv_ne _ _ r2, e1]
  by_cases r1 : q = 68
  · subst r1
    rw [zv_at, zcpy0]
    by_cases c : 0 ≤ j ∧ j < 12
    · rw [if_pos c, if_pos (by omega)]
    · rw [if_neg c, if_neg (by omega)]
  rw [zv_ne _ _ r1, if_neg (by omega)]
def xcp (X Y : Int → Int → Int) : Int → Int → Int := fun q j => if xkP q j ∨ xkA (Y 1 1) q j then Y q j else X q j
theorem xcp_e {X Y : Int → Int → Int} : xcP (xcA X Y) Y = xcp X Y := by
  funext q j
  unfold xcP xcA xcp
  by_cases c : xkP q j
  · rw [if_pos c, if_pos (Or.inl c)]
  · rw [if_neg c]
    by_cases d : xkA (Y 1 1) q j
    · rw [if_pos d, if_pos (Or.inr d)]
    · rw [if_neg d, if_neg (fun z => by rcases z with z | z; exact c z; exact d z)]
section cls
variable {en : pz_Env} {h : pz_H} {a b : Int → Nat} {X Y : Int → Int → Int}
set_option maxRecDepth 100000 in
set_option maxHeartbeats 4000000 in
theorem kX0_copyFrom (hj : sj a) (ho : sO h a b Y)  {k : Int} (k1 : 0 ≤ k) (k2 : k < 12) (hb2 : Y (7 + 5 * k) 2 = 0 ∨ Y (7 + 5 * k) 2 = 1) (hb3 : Y (7 + 5 * k) 3 = 0 ∨ Y (7 + 5 * k) 3 = 1) : pz_Cd en 1 2 [.ref (a (7 + 5 * k)), .ref (b (7 + 5 * k))] (sH h a (sq a) X) 0 0 (pz_ret (none) (sH h a (sq a) (xcC X Y k))) := by
  refine pz_in pzt_X0_copyFrom ?_
  refine pr_aload_n dX0_copyFrom_0 rfl ?_
  refine pr_aload_n dX0_copyFrom_1 rfl ?_
  refine pr_getf dX0_copyFrom_2 pzf_0_24 (oH_C ho (by omega) (by omega)) rfl ?_
  refine pr_putf dX0_copyFrom_5 pzf_0_24 (Or.inl rfl) (sH_C hj (by omega) (by omega)) (Nat.le_of_ble_eq_true rfl) rfl rfl (sH_pC_0 hj (by omega) (by omega)) ?_
  refine pr_aload_n dX0_copyFrom_8 rfl ?_
  refine pr_aload_n dX0_copyFrom_9 rfl ?_
  refine pr_getf dX0_copyFrom_10 pzf_0_28 (oH_C ho (by omega) (by omega)) rfl ?_
  refine pr_putf dX0_copyFrom_13 pzf_0_28 (Or.inl rfl) (sH_C hj (by omega) (by omega)) (Nat.le_of_ble_eq_true rfl) rfl rfl (sH_pC_1 hj (by omega) (by omega)) ?_
  refine pr_aload_n dX0_copyFrom_16 rfl ?_
  refine pr_aload_n dX0_copyFrom_17 rfl ?_
  refine pr_getf dX0_copyFrom_18 pzf_0_31 (oH_C ho (by omega) (by omega)) rfl ?_
  refine pr_putf dX0_copyFrom_21 pzf_0_31 (Or.inl rfl) (sH_C hj (by omega) (by omega)) (Nat.le_of_ble_eq_true rfl) (nar01 hb2) (by rcases hb2 with e | e <;> rw [e] <;> rfl) (sH_pC_2 hj (by omega) (by omega)) ?_
  refine pr_aload_n dX0_copyFrom_24 rfl ?_
  refine pr_aload_n dX0_copyFrom_25 rfl ?_
  refine pr_getf dX0_copyFrom_26 pzf_0_35 (oH_C ho (by omega) (by omega)) rfl ?_
  refine pr_putf dX0_copyFrom_29 pzf_0_35 (Or.inl rfl) (sH_C hj (by omega) (by omega)) (Nat.le_of_ble_eq_true rfl) (nar01 hb3) (by rcases hb3 with e | e <;> rw [e] <;> rfl) (sH_pC_3 hj (by omega) (by omega)) ?_
  refine pr_aload_n dX0_copyFrom_32 rfl ?_
  refine pr_getf dX0_copyFrom_33 pzf_0_9 (oH_C ho (by omega) (by omega)) rfl ?_
  refine zr_iconst dX0_copyFrom_36 ?_
  refine pr_aload_n dX0_copyFrom_37 rfl ?_
  refine pr_getf dX0_copyFrom_38 pzf_0_9 (sH_C hj (by omega) (by omega)) rfl ?_
  refine zr_iconst dX0_copyFrom_41 ?_
  refine zr_iconst dX0_copyFrom_42 ?_
  refine zr_copy dX0_copyFrom_43 pzx_0_38 (by decide) (oH_C1 ho (by omega) (by omega)) (sH_C1 hj (by omega) (by omega)) (by omega) (by omega) (by omega) (by decide) (Nat.le_of_ble_eq_true rfl) (sH_uC1 hj (by omega) (by omega)) ?_
  refine pr_aload_n dX0_copyFrom_46 rfl ?_
  refine pr_getf dX0_copyFrom_47 pzf_0_15 (oH_C ho (by omega) (by omega)) rfl ?_
  refine zr_iconst dX0_copyFrom_50 ?_
  refine pr_aload_n dX0_copyFrom_51 rfl ?_
  refine pr_getf dX0_copyFrom_52 pzf_0_15 (sH_C hj (by omega) (by omega)) rfl ?_
  refine zr_iconst dX0_copyFrom_55 ?_
  refine zr_iconst dX0_copyFrom_56 ?_
  refine zr_copy dX0_copyFrom_57 pzx_0_38 (by decide) (oH_C2 ho (by omega) (by omega)) (sH_C2 hj (by omega) (by omega)) (by omega) (by omega) (by omega) (by decide) (Nat.le_of_ble_eq_true rfl) (sH_uC2 hj (by omega) (by omega)) ?_
  refine pr_aload_n dX0_copyFrom_60 rfl ?_
  refine pr_getf dX0_copyFrom_61 pzf_0_18 (oH_C ho (by omega) (by omega)) rfl ?_
  refine zr_iconst dX0_copyFrom_64 ?_
  refine pr_aload_n dX0_copyFrom_65 rfl ?_
  refine pr_getf dX0_copyFrom_66 pzf_0_18 (sH_C hj (by omega) (by omega)) rfl ?_
  refine zr_iconst dX0_copyFrom_69 ?_
  refine zr_bipush dX0_copyFrom_70 (by decide) ?_
  refine zr_copy dX0_copyFrom_72 pzx_0_38 (by decide) (oH_C3 ho (by omega) (by omega)) (sH_C3 hj (by omega) (by omega)) (by omega) (by omega) (by omega) (by decide) (Nat.le_of_ble_eq_true rfl) (sH_uC3 hj (by omega) (by omega)) ?_
  refine pr_aload_n dX0_copyFrom_75 rfl ?_
  refine pr_getf dX0_copyFrom_76 pzf_0_21 (oH_C ho (by omega) (by omega)) rfl ?_
  refine zr_iconst dX0_copyFrom_79 ?_
  refine pr_aload_n dX0_copyFrom_80 rfl ?_
  refine pr_getf dX0_copyFrom_81 pzf_0_21 (sH_C hj (by omega) (by omega)) rfl ?_
  refine zr_iconst dX0_copyFrom_84 ?_
  refine zr_bipush dX0_copyFrom_85 (by decide) ?_
  refine zr_copy dX0_copyFrom_87 pzx_0_38 (by decide) (oH_C4 ho (by omega) (by omega)) (sH_C4 hj (by omega) (by omega)) (by omega) (by omega) (by omega) (by decide) (Nat.le_of_ble_eq_true rfl) ((sH_uC4 hj (by omega) (by omega)).trans (sH_eq (xcC_1 rfl rfl rfl rfl rfl rfl rfl))) ?_
  exact pr_vret dX0_copyFrom_90 rfl (zretv)
theorem xcL_N {X Y : Int → Int → Int} {m : Int} : xcL X Y m 1 1 = Y 1 1 := if_pos (Or.inl ⟨rfl, rfl⟩)
set_option maxRecDepth 100000 in
set_option maxHeartbeats 4000000 in
theorem kX1_copyFrom (hj : sj a) (ho : sO h a b Y) (hn0 : 0 ≤ Y 1 1) (hn1 : Y 1 1 ≤ 12) (hb : ∀ k : Int, 0 ≤ k → k < Y 1 1 → (Y (7 + 5 * k) 2 = 0 ∨ Y (7 + 5 * k) 2 = 1) ∧ (Y (7 + 5 * k) 3 = 0 ∨ Y (7 + 5 * k) 3 = 1))  : pz_Cd en 2 34 [.ref (a 1), .ref (b 1)] (sH h a (sq a) X) 0 0 (pz_ret (none) (sH h a (sq a) (xcA X Y))) := by
  refine pz_in pzt_X1_copyFrom ?_
  have loop : pz_WP 2 en (pz_Cd en (2 - 1)) 1 cX1_copyFrom 3 none [] false (pz_ret (none) (sH h a (sq a) (xcA X Y))) 10 [some (.ref (a 1)), some (.ref (b 1)), some (.int (zI 0))] [] (sH h a (sq a) (xcL X Y 0)) 0 0 := by
    refine zup (P := fun m => pz_WP 2 en (pz_Cd en (2 - 1)) 1 cX1_copyFrom 3 none [] false (pz_ret (none) (sH h a (sq a) (xcA X Y))) 10 [some (.ref (a 1)), some (.ref (b 1)), some (.int (zI m))] [] (sH h a (sq a) (xcL X Y m)) 0 0) (lo := 0) (hi := Y 1 1) hn0 ?_ ?_
    · skip
      refine pr_iload_n dX1_copyFrom_10 rfl ?_
      refine pr_aload_n dX1_copyFrom_11 rfl ?_
      refine pr_getf dX1_copyFrom_12 pzf_1_31 (sH_1 hj) rfl ?_
      rw [xcL_N]
      refine zr_icmp_ge (tgt := 39) dX1_copyFrom_15 (by decide) (by omega) (by omega) (fun c15 => ?_) (fun c15 => by exfalso; omega)
      refine pr_aload_n dX1_copyFrom_39 rfl ?_
      refine pr_getf dX1_copyFrom_40 pzf_1_17 (oH_1 ho) rfl ?_
      refine zr_iconst dX1_copyFrom_43 ?_
      refine pr_aload_n dX1_copyFrom_44 rfl ?_
      refine pr_getf dX1_copyFrom_45 pzf_1_17 (sH_1 hj) rfl ?_
      refine zr_iconst dX1_copyFrom_48 ?_
      refine zr_bipush dX1_copyFrom_49 (by decide) ?_
      refine zr_copy dX1_copyFrom_51 pzx_1_42 (by decide) (oH_3 ho) (sH_3 hj) (by omega) (by omega) (by omega) (by decide) (Nat.le_of_ble_eq_true rfl) (sH_u3 hj) ?_
      refine pr_aload_n dX1_copyFrom_54 rfl ?_
      refine pr_getf dX1_copyFrom_55 pzf_1_21 (oH_1 ho) rfl ?_
      refine zr_iconst dX1_copyFrom_58 ?_
      refine pr_aload_n dX1_copyFrom_59 rfl ?_
      refine pr_getf dX1_copyFrom_60 pzf_1_21 (sH_1 hj) rfl ?_
      refine zr_iconst dX1_copyFrom_63 ?_
      refine zr_bipush dX1_copyFrom_64 (by decide) ?_
      refine zr_copy dX1_copyFrom_66 pzx_1_42 (by decide) (oH_4 ho) (sH_4 hj) (by omega) (by omega) (by omega) (by decide) (Nat.le_of_ble_eq_true rfl) (sH_u4 hj) ?_
      refine pr_aload_n dX1_copyFrom_69 rfl ?_
      refine pr_getf dX1_copyFrom_70 pzf_1_24 (oH_1 ho) rfl ?_
      refine zr_iconst dX1_copyFrom_73 ?_
      refine pr_aload_n dX1_copyFrom_74 rfl ?_
      refine pr_getf dX1_copyFrom_75 pzf_1_24 (sH_1 hj) rfl ?_
      refine zr_iconst dX1_copyFrom_78 ?_
      refine zr_bipush dX1_copyFrom_79 (by decide) ?_
      refine zr_copy dX1_copyFrom_81 pzx_1_42 (by decide) (oH_5 ho) (sH_5 hj) (by omega) (by omega) (by omega) (by decide) (Nat.le_of_ble_eq_true rfl) (sH_u5 hj) ?_
      refine pr_aload_n dX1_copyFrom_84 rfl ?_
      refine pr_aload_n dX1_copyFrom_85 rfl ?_
      refine pr_getf dX1_copyFrom_86 pzf_1_35 (oH_1 ho) rfl ?_
      refine pr_putf dX1_copyFrom_89 pzf_1_35 (Or.inl rfl) (sH_1 hj) (Nat.le_of_ble_eq_true rfl) rfl rfl ((sH_p1_5 hj).trans (sH_eq (xcA_e rfl rfl rfl rfl))) ?_
      exact pr_vret dX1_copyFrom_92 rfl (zretv)
    · intro m hk1 hk2 ih
      have hm := hb m hk1 hk2
      refine pr_iload_n dX1_copyFrom_10 rfl ?_
      refine pr_aload_n dX1_copyFrom_11 rfl ?_
      refine pr_getf dX1_copyFrom_12 pzf_1_31 (sH_1 hj) rfl ?_
      rw [xcL_N]
      refine zr_icmp_ge (tgt := 39) dX1_copyFrom_15 (by decide) (by omega) (by omega) (fun c15 => by exfalso; omega) (fun c15 => ?_)
      refine pr_aload_n dX1_copyFrom_18 rfl ?_
      refine pr_getf dX1_copyFrom_19 pzf_1_11 (sH_1 hj) rfl ?_
      refine pr_iload_n dX1_copyFrom_22 rfl ?_
      refine zr_crow hj dX1_copyFrom_23 (by omega) (by omega) ?_
      refine pr_aload_n dX1_copyFrom_24 rfl ?_
      refine pr_getf dX1_copyFrom_25 pzf_1_11 (oH_1 ho) rfl ?_
      refine pr_iload_n dX1_copyFrom_28 rfl ?_
      refine zr_orow ho dX1_copyFrom_29 (by omega) (by omega) ?_
      refine zcv1u dX1_copyFrom_30 pzm_1_38 pzt_X0_copyFrom (sH_C hj (by omega) (by omega)) (kX0_copyFrom hj ho (by omega) (by omega) hm.1 hm.2) (by decide) (Nat.le_of_ble_eq_true rfl) (by decide) ?_
      rw [xcL_s hk1]
      refine zr_iinc dX1_copyFrom_33 rfl (by decide) rfl ?_
      refine pr_goto (tgt := 10) dX1_copyFrom_36 (by decide) ?_
      exact ih
  refine pr_aload_n dX1_copyFrom_0 rfl ?_
  refine pr_aload_n dX1_copyFrom_1 rfl ?_
  refine pr_getf dX1_copyFrom_2 pzf_1_31 (oH_1 ho) rfl ?_
  refine pr_putf dX1_copyFrom_5 pzf_1_31 (Or.inl rfl) (sH_1 hj) (Nat.le_of_ble_eq_true rfl) rfl rfl ((sH_p1_1 hj).trans (sH_eq xcL_0)) ?_
  refine zr_iconst dX1_copyFrom_8 ?_
  refine pr_istore_n dX1_copyFrom_9 (by decide) rfl ?_
  exact loop
set_option maxRecDepth 100000 in
set_option maxHeartbeats 4000000 in
theorem kX4_copyFrom (hj : sj a) (ho : sO h a b Y)  : pz_Cd en 1 66 [.ref (a 67), .ref (b 67)] (sH h a (sq a) X) 0 0 (pz_ret (none) (sH h a (sq a) (xcP X Y))) := by
  refine pz_in pzt_X4_copyFrom ?_
  refine pr_aload_n dX4_copyFrom_0 rfl ?_
  refine pr_getf dX4_copyFrom_1 pzf_4_9 (oH_67 ho) rfl ?_
  refine zr_iconst dX4_copyFrom_4 ?_
  refine pr_aload_n dX4_copyFrom_5 rfl ?_
  refine pr_getf dX4_copyFrom_6 pzf_4_9 (sH_67 hj) rfl ?_
  refine zr_iconst dX4_copyFrom_9 ?_
  refine zr_bipush dX4_copyFrom_10 (by decide) ?_
  refine zr_copy dX4_copyFrom_12 pzx_4_40 (by decide) (oH_68 ho) (sH_68 hj) (by omega) (by omega) (by omega) (by decide) (Nat.le_of_ble_eq_true rfl) (sH_u68 hj) ?_
  refine pr_aload_n dX4_copyFrom_15 rfl ?_
  refine pr_getf dX4_copyFrom_16 pzf_4_15 (oH_67 ho) rfl ?_
  refine zr_iconst dX4_copyFrom_19 ?_
  refine pr_aload_n dX4_copyFrom_20 rfl ?_
  refine pr_getf dX4_copyFrom_21 pzf_4_15 (sH_67 hj) rfl ?_
  refine zr_iconst dX4_copyFrom_24 ?_
  refine zr_bipush dX4_copyFrom_25 (by decide) ?_
  refine zr_copy dX4_copyFrom_27 pzx_4_40 (by decide) (oH_69 ho) (sH_69 hj) (by omega) (by omega) (by omega) (by decide) (Nat.le_of_ble_eq_true rfl) (sH_u69 hj) ?_
  refine pr_aload_n dX4_copyFrom_30 rfl ?_
  refine pr_getf dX4_copyFrom_31 pzf_4_18 (oH_67 ho) rfl ?_
  refine zr_iconst dX4_copyFrom_34 ?_
  refine pr_aload_n dX4_copyFrom_35 rfl ?_
  refine pr_getf dX4_copyFrom_36 pzf_4_18 (sH_67 hj) rfl ?_
  refine zr_iconst dX4_copyFrom_39 ?_
  refine zr_bipush dX4_copyFrom_40 (by decide) ?_
  refine zr_copy dX4_copyFrom_42 pzx_4_40 (by decide) (oH_70 ho) (sH_70 hj) (by omega) (by omega) (by omega) (by decide) (Nat.le_of_ble_eq_true rfl) (sH_u70 hj) ?_
  refine pr_aload_n dX4_copyFrom_45 rfl ?_
  refine pr_getf dX4_copyFrom_46 pzf_4_21 (oH_67 ho) rfl ?_
  refine zr_iconst dX4_copyFrom_49 ?_
  refine pr_aload_n dX4_copyFrom_50 rfl ?_
  refine pr_getf dX4_copyFrom_51 pzf_4_21 (sH_67 hj) rfl ?_
  refine zr_iconst dX4_copyFrom_54 ?_
  refine zr_bipush dX4_copyFrom_55 (by decide) ?_
  refine zr_copy dX4_copyFrom_57 pzx_4_40 (by decide) (oH_71 ho) (sH_71 hj) (by omega) (by omega) (by omega) (by decide) (Nat.le_of_ble_eq_true rfl) (sH_u71 hj) ?_
  refine pr_aload_n dX4_copyFrom_60 rfl ?_
  refine pr_getf dX4_copyFrom_61 pzf_4_24 (oH_67 ho) rfl ?_
  refine zr_iconst dX4_copyFrom_64 ?_
  refine pr_aload_n dX4_copyFrom_65 rfl ?_
  refine pr_getf dX4_copyFrom_66 pzf_4_24 (sH_67 hj) rfl ?_
  refine zr_iconst dX4_copyFrom_69 ?_
  refine zr_bipush dX4_copyFrom_70 (by decide) ?_
  refine zr_copy dX4_copyFrom_72 pzx_4_40 (by decide) (oH_72 ho) (sH_72 hj) (by omega) (by omega) (by omega) (by decide) (Nat.le_of_ble_eq_true rfl) (sH_u72 hj) ?_
  refine pr_aload_n dX4_copyFrom_75 rfl ?_
  refine pr_aload_n dX4_copyFrom_76 rfl ?_
  refine pr_getf dX4_copyFrom_77 pzf_4_27 (oH_67 ho) rfl ?_
  refine pr_putf dX4_copyFrom_80 pzf_4_27 (Or.inl rfl) (sH_67 hj) (Nat.le_of_ble_eq_true rfl) rfl rfl (sH_p67_5 hj) ?_
  refine pr_aload_n dX4_copyFrom_83 rfl ?_
  refine pr_aload_n dX4_copyFrom_84 rfl ?_
  refine pr_getf dX4_copyFrom_85 pzf_4_31 (oH_67 ho) rfl ?_
  refine pr_putf dX4_copyFrom_88 pzf_4_31 (Or.inl rfl) (sH_67 hj) (Nat.le_of_ble_eq_true rfl) rfl rfl (sH_p67_6 hj) ?_
  refine pr_aload_n dX4_copyFrom_91 rfl ?_
  refine pr_aload_n dX4_copyFrom_92 rfl ?_
  refine pr_getf dX4_copyFrom_93 pzf_4_34 (oH_67 ho) rfl ?_
  refine pr_putf dX4_copyFrom_96 pzf_4_34 (Or.inl rfl) (sH_67 hj) (Nat.le_of_ble_eq_true rfl) rfl rfl (sH_p67_7 hj) ?_
  refine pr_aload_n dX4_copyFrom_99 rfl ?_
  refine pr_aload_n dX4_copyFrom_100 rfl ?_
  refine pr_getf dX4_copyFrom_101 pzf_4_37 (oH_67 ho) rfl ?_
  refine pr_putf dX4_copyFrom_104 pzf_4_37 (Or.inl rfl) (sH_67 hj) (Nat.le_of_ble_eq_true rfl) rfl rfl ((sH_p67_8 hj).trans (sH_eq (xcP_e rfl rfl rfl rfl rfl rfl rfl rfl))) ?_
  exact pr_vret dX4_copyFrom_107 rfl (zretv)
set_option maxRecDepth 100000 in
set_option maxHeartbeats 4000000 in
theorem kX5_copyFrom (hj : sj a) (ho : sO h a b Y) (hn0 : 0 ≤ Y 1 1) (hn1 : Y 1 1 ≤ 12) (hb : ∀ k : Int, 0 ≤ k → k < Y 1 1 → (Y (7 + 5 * k) 2 = 0 ∨ Y (7 + 5 * k) 2 = 1) ∧ (Y (7 + 5 * k) 3 = 0 ∨ Y (7 + 5 * k) 3 = 1))  : pz_Cd en 3 75 [.ref (a 0), .ref (b 0)] (sH h a (sq a) X) 0 0 (pz_ret (none) (sH h a (sq a) (xcp X Y))) := by
  refine pz_in pzt_X5_copyFrom ?_
  refine pr_aload_n dX5_copyFrom_0 rfl ?_
  refine pr_getf dX5_copyFrom_1 pzf_5_10 (sH_0 hj) rfl ?_
  refine pr_aload_n dX5_copyFrom_4 rfl ?_
  refine pr_getf dX5_copyFrom_5 pzf_5_10 (oH_0 ho) rfl ?_
  refine zcv1u dX5_copyFrom_8 pzm_5_27 pzt_X1_copyFrom (sH_1 hj) (kX1_copyFrom hj ho hn0 hn1 hb) (by decide) (Nat.le_of_ble_eq_true rfl) (by decide) ?_
  refine pr_aload_n dX5_copyFrom_11 rfl ?_
  refine pr_getf dX5_copyFrom_12 pzf_5_19 (sH_0 hj) rfl ?_
  refine pr_aload_n dX5_copyFrom_15 rfl ?_
  refine pr_getf dX5_copyFrom_16 pzf_5_19 (oH_0 ho) rfl ?_
  refine zcv1u dX5_copyFrom_19 pzm_5_31 pzt_X4_copyFrom (sH_67 hj) (kX4_copyFrom hj ho) (by decide) (Nat.le_of_ble_eq_true rfl) (by decide) ?_
  rw [xcp_e]
  exact pr_vret dX5_copyFrom_22 rfl (zretv)
end cls
