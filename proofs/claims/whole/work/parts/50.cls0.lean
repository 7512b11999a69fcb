/-! the class: the heap of one show: 73 cells, a matrix of numbers -/
def ovI (h : pz_H) (n : Nat) (a : Int → Nat) (cl : Int → pz_E) : pz_H := ov h n (fun i => a (i : Int)) (fun i => cl (i : Int))
def zv (X : Int → Int → Int) (i : Int) (g : Int → Int) : Int → Int → Int := fun j => if j = i then g else X j
theorem zv_at (X : Int → Int → Int) (i : Int) (g : Int → Int) : zv X i g i = g := if_pos rfl
theorem zv_ne (X : Int → Int → Int) {i j : Int} (g : Int → Int) (h : ¬ j = i) : zv X i g j = X j := if_neg h
def sj (a : Int → Nat) : Prop := ∀ i j : Int, 0 ≤ i → i < 73 → 0 ≤ j → j < 73 → a i = a j → i = j
theorem sj_oj {a : Int → Nat} (hj : sj a) : oj 73 (fun i => a (i : Int)) := fun i j h1 h2 e => by
  have := hj (i : Int) (j : Int) (by omega) (by omega) (by omega) (by omega) e
  omega
def scl (a : Int → Nat) (f : Nat → Option Nat) (X : Int → Int → Int) (i : Int) : pz_E :=
  if i = 0 then .inr (5, [.ref (a 1), .ref (a 67)])
  else if i = 1 then .inr (1, [.ref (a 2), .int (zI (X 1 1)), .ref (a 3), .ref (a 4), .ref (a 5), .int (zI (X 1 5)), .ref (a 6)])
  else if i = 2 then .inl (3, 12, .inr (.inr (.inr (.inr f))))
  else if i = 3 then .inl (0, 12, .inl (zf (X 3)))
  else if i = 4 then .inl (0, 60, .inl (zf (X 4)))
  else if i = 5 then .inl (0, 60, .inl (zf (X 5)))
  else if i = 6 then .inl (0, 12, .inl (zf (X 6)))
  else if i = 67 then .inr (4, [.ref (a 68), .ref (a 69), .ref (a 70), .ref (a 71), .ref (a 72), .int (zI (X 67 5)), .int (zI (X 67 6)), .int (zI (X 67 7)), .int (zI (X 67 8))])
  else if 68 ≤ i then .inl (0, 12, .inl (zf (X i)))
  else if (i - 7) % 5 = 0 then .inr (0, [.int (zI (X i 0)), .int (zI (X i 1)), .int (zI (X i 2)), .int (zI (X i 3)), .ref (a (i + 1)), .ref (a (i + 2)), .ref (a (i + 3)), .ref (a (i + 4))])
  else if (i - 7) % 5 = 1 ∨ (i - 7) % 5 = 2 then .inl (0, 4, .inl (zf (X i)))
  else .inl (0, 12, .inl (zf (X i)))
def sH (h : pz_H) (a : Int → Nat) (f : Nat → Option Nat) (X : Int → Int → Int) : pz_H := ovI h 73 a (scl a f X)
def sq (a : Int → Nat) : Nat → Option Nat := fun k => if k < 12 then some (a (7 + 5 * (k : Int))) else none
theorem sq_at {a : Int → Nat} {k : Int} (h1 : 0 ≤ k) (h2 : k < 12) : sq a k.toNat = some (a (7 + 5 * k)) := by
  unfold sq
  rw [if_pos (by omega), show ((k.toNat : Nat) : Int) = k by omega]
theorem scl_congr {a : Int → Nat} {f : Nat → Option Nat} {X Y : Int → Int → Int} {i : Int} (h : X i = Y i) : scl a f X i = scl a f Y i := by
  unfold scl
  by_cases e1 : i = 1
  · subst e1; rw [h]; rfl
  by_cases e2 : i = 3
  · subst e2; rw [h]; rfl
  by_cases e3 : i = 4
  · subst e3; rw [h]; rfl
  by_cases e4 : i = 5
  · subst e4; rw [h]; rfl
  by_cases e5 : i = 6
  · subst e5; rw [h]; rfl
  by_cases e6 : i = 67
  · subst e6; rw [h]; rfl
  rw [if_neg e1, if_neg e2, if_neg e3, if_neg e4, if_neg e5, if_neg e6, if_neg e1, if_neg e2, if_neg e3, if_neg e4, if_neg e5, if_neg e6, h]
theorem scl_f {a : Int → Nat} {f g : Nat → Option Nat} {X : Int → Int → Int} {i : Int} (h : ¬ i = 2) : scl a f X i = scl a g X i := by
  unfold scl
  rw [if_neg h, if_neg h]
section clsheap
variable {h : pz_H} {a : Int → Nat} {f : Nat → Option Nat} {X : Int → Int → Int}
theorem sH_at (hj : sj a) {i : Int} (h1 : 0 ≤ i) (h2 : i < 73) : sH h a f X (a i) = some (scl a f X i) := by
  have := ov_at (h0 := h) (cl := fun i => scl a f X (i : Int)) (sj_oj hj) (i := i.toNat) (by omega)
  rw [show ((i.toNat : Nat) : Int) = i by omega] at this
  exact this
theorem sH_out {q : Nat} (hq : ∀ i : Int, 0 ≤ i → i < 73 → ¬ a i = q) : sH h a f X q = h q := ov_ne (fun i hi => hq (i : Int) (by omega) (by omega))
theorem sH_ext (hj : sj a) {g : pz_H} (h1 : ∀ i : Int, 0 ≤ i → i < 73 → g (a i) = some (scl a f X i)) (h2 : ∀ q, (∀ i : Int, 0 ≤ i → i < 73 → ¬ a i = q) → g q = h q) : g = sH h a f X :=
  ov_ext (sj_oj hj) (fun i hi => h1 (i : Int) (by omega) (by omega)) (fun q hq => h2 q (fun i g1 g2 => by
    have := hq i.toNat (by omega)
    rwa [show ((i.toNat : Nat) : Int) = i by omega] at this))
theorem sH_up (hj : sj a) {i : Int} {g : Int → Int} {e : pz_E} (h1 : 0 ≤ i) (h2 : i < 73) (he : e = scl a f (zv X i g) i) : va_up (sH h a f X) (a i) (some e) = sH h a f (zv X i g) := by
  apply sH_ext hj
  · intro j g1 g2
    unfold va_up
    by_cases q : j = i
    · subst q
      rw [if_pos rfl, he]
    · rw [if_neg (fun z => q (hj j i g1 g2 h1 h2 z)), sH_at hj g1 g2, scl_congr (zv_ne X g q).symm]
  · intro q hq
    unfold va_up
    rw [if_neg (fun z => hq i h1 h2 z.symm), sH_out hq]
theorem sH_fup (hj : sj a) {g : Nat → Option Nat} : va_up (sH h a f X) (a 2) (some (.inl (3, 12, .inr (.inr (.inr (.inr g)))))) = sH h a g X := by
  apply sH_ext hj
  · intro j g1 g2
    unfold va_up
    by_cases q : j = 2
    · subst q
      rw [if_pos rfl]; rfl
    · rw [if_neg (fun z => q (hj j 2 g1 g2 (by omega) (by omega) z)), sH_at hj g1 g2, scl_f q]
  · intro q hq
    unfold va_up
    rw [if_neg (fun z => hq 2 (by omega) (by omega) z.symm), sH_out hq]
theorem sH_0 (hj : sj a) : sH h a f X (a 0) = some (.inr (5, [.ref (a 1), .ref (a 67)]) : pz_E) := sH_at hj (by decide) (by decide)
theorem sH_1 (hj : sj a) : sH h a f X (a 1) = some (.inr (1, [.ref (a 2), .int (zI (X 1 1)), .ref (a 3), .ref (a 4), .ref (a 5), .int (zI (X 1 5)), .ref (a 6)]) : pz_E) := sH_at hj (by decide) (by decide)
theorem sH_2 (hj : sj a) : sH h a f X (a 2) = some (.inl (3, 12, .inr (.inr (.inr (.inr f)))) : pz_E) := sH_at hj (by decide) (by decide)
theorem sH_3 (hj : sj a) : sH h a f X (a 3) = some (.inl (0, 12, .inl (zf (X 3))) : pz_E) := sH_at hj (by decide) (by decide)
theorem sH_4 (hj : sj a) : sH h a f X (a 4) = some (.inl (0, 60, .inl (zf (X 4))) : pz_E) := sH_at hj (by decide) (by decide)
theorem sH_5 (hj : sj a) : sH h a f X (a 5) = some (.inl (0, 60, .inl (zf (X 5))) : pz_E) := sH_at hj (by decide) (by decide)
theorem sH_6 (hj : sj a) : sH h a f X (a 6) = some (.inl (0, 12, .inl (zf (X 6))) : pz_E) := sH_at hj (by decide) (by decide)
theorem sH_67 (hj : sj a) : sH h a f X (a 67) = some (.inr (4, [.ref (a 68), .ref (a 69), .ref (a 70), .ref (a 71), .ref (a 72), .int (zI (X 67 5)), .int (zI (X 67 6)), .int (zI (X 67 7)), .int (zI (X 67 8))]) : pz_E) := sH_at hj (by decide) (by decide)
theorem sH_68 (hj : sj a) : sH h a f X (a 68) = some (.inl (0, 12, .inl (zf (X 68))) : pz_E) := sH_at hj (by decide) (by decide)
theorem sH_69 (hj : sj a) : sH h a f X (a 69) = some (.inl (0, 12, .inl (zf (X 69))) : pz_E) := sH_at hj (by decide) (by decide)
theorem sH_70 (hj : sj a) : sH h a f X (a 70) = some (.inl (0, 12, .inl (zf (X 70))) : pz_E) := sH_at hj (by decide) (by decide)
theorem sH_71 (hj : sj a) : sH h a f X (a 71) = some (.inl (0, 12, .inl (zf (X 71))) : pz_E) := sH_at hj (by decide) (by decide)
theorem sH_72 (hj : sj a) : sH h a f X (a 72) = some (.inl (0, 12, .inl (zf (X 72))) : pz_E) := sH_at hj (by decide) (by decide)
theorem scl_C {k : Int} (h1 : 0 ≤ k) (h2 : k < 12) : scl a f X (7 + 5 * k) = (.inr (0, [.int (zI (X (7 + 5 * k) 0)), .int (zI (X (7 + 5 * k) 1)), .int (zI (X (7 + 5 * k) 2)), .int (zI (X (7 + 5 * k) 3)), .ref (a (7 + 5 * k + 1)), .ref (a (7 + 5 * k + 2)), .ref (a (7 + 5 * k + 3)), .ref (a (7 + 5 * k + 4))]) : pz_E) := by
  unfold scl
  rw [if_neg (by omega), if_neg (by omega), if_neg (by omega), if_neg (by omega), if_neg (by omega), if_neg (by omega), if_neg (by omega), if_neg (by omega), if_neg (by omega), if_pos (by omega)]
theorem scl_C1 {k : Int} (h1 : 0 ≤ k) (h2 : k < 12) : scl a f X (7 + 5 * k + 1) = (.inl (0, 4, .inl (zf (X (7 + 5 * k + 1)))) : pz_E) := by
  unfold scl
  rw [if_neg (by omega), if_neg (by omega), if_neg (by omega), if_neg (by omega), if_neg (by omega), if_neg (by omega), if_neg (by omega), if_neg (by omega), if_neg (by omega), if_neg (by omega), if_pos (by omega)]
theorem scl_C2 {k : Int} (h1 : 0 ≤ k) (h2 : k < 12) : scl a f X (7 + 5 * k + 2) = (.inl (0, 4, .inl (zf (X (7 + 5 * k + 2)))) : pz_E) := by
  unfold scl
  rw [if_neg (by omega), if_neg (by omega), if_neg (by omega), if_neg (by omega), if_neg (by omega), if_neg (by omega), if_neg (by omega), if_neg (by omega), if_neg (by omega), if_neg (by omega), if_pos (by omega)]
theorem scl_C3 {k : Int} (h1 : 0 ≤ k) (h2 : k < 12) : scl a f X (7 + 5 * k + 3) = (.inl (0, 12, .inl (zf (X (7 + 5 * k + 3)))) : pz_E) := by
  unfold scl
  rw [if_neg (by omega), if_neg (by omega), if_neg (by omega), if_neg (by omega), if_neg (by omega), if_neg (by omega), if_neg (by omega), if_neg (by omega), if_neg (by omega), if_neg (by omega), if_neg (by omega)]
theorem scl_C4 {k : Int} (h1 : 0 ≤ k) (h2 : k < 12) : scl a f X (7 + 5 * k + 4) = (.inl (0, 12, .inl (zf (X (7 + 5 * k + 4)))) : pz_E) := by
  unfold scl
  rw [if_neg (by omega), if_neg (by omega), if_neg (by omega), if_neg (by omega), if_neg (by omega), if_neg (by omega), if_neg (by omega), if_neg (by omega), if_neg (by omega), if_neg (by omega), if_neg (by omega)]
theorem sH_C (hj : sj a) {k : Int} (h1 : 0 ≤ k) (h2 : k < 12) : sH h a f X (a (7 + 5 * k)) = some (.inr (0, [.int (zI (X (7 + 5 * k) 0)), .int (zI (X (7 + 5 * k) 1)), .int (zI (X (7 + 5 * k) 2)), .int (zI (X (7 + 5 * k) 3)), .ref (a (7 + 5 * k + 1)), .ref (a (7 + 5 * k + 2)), .ref (a (7 + 5 * k + 3)), .ref (a (7 + 5 * k + 4))]) : pz_E) := by
  rw [sH_at hj (by omega) (by omega), scl_C h1 h2]
theorem sH_C1 (hj : sj a) {k : Int} (h1 : 0 ≤ k) (h2 : k < 12) : sH h a f X (a (7 + 5 * k + 1)) = some (.inl (0, 4, .inl (zf (X (7 + 5 * k + 1))))) := by
  rw [sH_at hj (by omega) (by omega), scl_C1 h1 h2]
theorem sH_C2 (hj : sj a) {k : Int} (h1 : 0 ≤ k) (h2 : k < 12) : sH h a f X (a (7 + 5 * k + 2)) = some (.inl (0, 4, .inl (zf (X (7 + 5 * k + 2))))) := by
  rw [sH_at hj (by omega) (by omega), scl_C2 h1 h2]
theorem sH_C3 (hj : sj a) {k : Int} (h1 : 0 ≤ k) (h2 : k < 12) : sH h a f X (a (7 + 5 * k + 3)) = some (.inl (0, 12, .inl (zf (X (7 + 5 * k + 3))))) := by
  rw [sH_at hj (by omega) (by omega), scl_C3 h1 h2]
theorem sH_C4 (hj : sj a) {k : Int} (h1 : 0 ≤ k) (h2 : k < 12) : sH h a f X (a (7 + 5 * k + 4)) = some (.inl (0, 12, .inl (zf (X (7 + 5 * k + 4))))) := by
  rw [sH_at hj (by omega) (by omega), scl_C4 h1 h2]
theorem sH_u3 (hj : sj a) {g : Int → Int} : va_up (sH h a f X) (a 3) (some (.inl (0, 12, .inl (zf g)))) = sH h a f (zv X 3 g) := sH_up hj (by decide) (by decide) rfl
theorem sH_u4 (hj : sj a) {g : Int → Int} : va_up (sH h a f X) (a 4) (some (.inl (0, 60, .inl (zf g)))) = sH h a f (zv X 4 g) := sH_up hj (by decide) (by decide) rfl
theorem sH_u5 (hj : sj a) {g : Int → Int} : va_up (sH h a f X) (a 5) (some (.inl (0, 60, .inl (zf g)))) = sH h a f (zv X 5 g) := sH_up hj (by decide) (by decide) rfl
theorem sH_u6 (hj : sj a) {g : Int → Int} : va_up (sH h a f X) (a 6) (some (.inl (0, 12, .inl (zf g)))) = sH h a f (zv X 6 g) := sH_up hj (by decide) (by decide) rfl
theorem sH_u68 (hj : sj a) {g : Int → Int} : va_up (sH h a f X) (a 68) (some (.inl (0, 12, .inl (zf g)))) = sH h a f (zv X 68 g) := sH_up hj (by decide) (by decide) rfl
theorem sH_u69 (hj : sj a) {g : Int → Int} : va_up (sH h a f X) (a 69) (some (.inl (0, 12, .inl (zf g)))) = sH h a f (zv X 69 g) := sH_up hj (by decide) (by decide) rfl
theorem sH_u70 (hj : sj a) {g : Int → Int} : va_up (sH h a f X) (a 70) (some (.inl (0, 12, .inl (zf g)))) = sH h a f (zv X 70 g) := sH_up hj (by decide) (by decide) rfl
theorem sH_u71 (hj : sj a) {g : Int → Int} : va_up (sH h a f X) (a 71) (some (.inl (0, 12, .inl (zf g)))) = sH h a f (zv X 71 g) := sH_up hj (by decide) (by decide) rfl
theorem sH_u72 (hj : sj a) {g : Int → Int} : va_up (sH h a f X) (a 72) (some (.inl (0, 12, .inl (zf g)))) = sH h a f (zv X 72 g) := sH_up hj (by decide) (by decide) rfl
theorem sH_uC1 (hj : sj a) {k : Int} {g : Int → Int} (h1 : 0 ≤ k) (h2 : k < 12) : va_up (sH h a f X) (a (7 + 5 * k + 1)) (some (.inl (0, 4, .inl (zf g)))) = sH h a f (zv X (7 + 5 * k + 1) g) := sH_up hj (by omega) (by omega) (by rw [scl_C1 h1 h2, zv_at])
theorem sH_uC2 (hj : sj a) {k : Int} {g : Int → Int} (h1 : 0 ≤ k) (h2 : k < 12) : va_up (sH h a f X) (a (7 + 5 * k + 2)) (some (.inl (0, 4, .inl (zf g)))) = sH h a f (zv X (7 + 5 * k + 2) g) := sH_up hj (by omega) (by omega) (by rw [scl_C2 h1 h2, zv_at])
theorem sH_uC3 (hj : sj a) {k : Int} {g : Int → Int} (h1 : 0 ≤ k) (h2 : k < 12) : va_up (sH h a f X) (a (7 + 5 * k + 3)) (some (.inl (0, 12, .inl (zf g)))) = sH h a f (zv X (7 + 5 * k + 3) g) := sH_up hj (by omega) (by omega) (by rw [scl_C3 h1 h2, zv_at])
theorem sH_uC4 (hj : sj a) {k : Int} {g : Int → Int} (h1 : 0 ≤ k) (h2 : k < 12) : va_up (sH h a f X) (a (7 + 5 * k + 4)) (some (.inl (0, 12, .inl (zf g)))) = sH h a f (zv X (7 + 5 * k + 4) g) := sH_up hj (by omega) (by omega) (by rw [scl_C4 h1 h2, zv_at])
theorem sH_p1_1 (hj : sj a) {v : Int} : va_up (sH h a f X) (a 1) (some (.inr (1, ([.ref (a 2), .int (zI (X 1 1)), .ref (a 3), .ref (a 4), .ref (a 5), .int (zI (X 1 5)), .ref (a 6)] : List Value).set 1 (.int (zI v))))) = sH h a f (zv X 1 (zu (X 1) 1 v)) := sH_up hj (by decide) (by decide) rfl
theorem sH_p1_5 (hj : sj a) {v : Int} : va_up (sH h a f X) (a 1) (some (.inr (1, ([.ref (a 2), .int (zI (X 1 1)), .ref (a 3), .ref (a 4), .ref (a 5), .int (zI (X 1 5)), .ref (a 6)] : List Value).set 5 (.int (zI v))))) = sH h a f (zv X 1 (zu (X 1) 5 v)) := sH_up hj (by decide) (by decide) rfl
theorem sH_p67_5 (hj : sj a) {v : Int} : va_up (sH h a f X) (a 67) (some (.inr (4, ([.ref (a 68), .ref (a 69), .ref (a 70), .ref (a 71), .ref (a 72), .int (zI (X 67 5)), .int (zI (X 67 6)), .int (zI (X 67 7)), .int (zI (X 67 8))] : List Value).set 5 (.int (zI v))))) = sH h a f (zv X 67 (zu (X 67) 5 v)) := sH_up hj (by decide) (by decide) rfl
theorem sH_p67_6 (hj : sj a) {v : Int} : va_up (sH h a f X) (a 67) (some (.inr (4, ([.ref (a 68), .ref (a 69), .ref (a 70), .ref (a 71), .ref (a 72), .int (zI (X 67 5)), .int (zI (X 67 6)), .int (zI (X 67 7)), .int (zI (X 67 8))] : List Value).set 6 (.int (zI v))))) = sH h a f (zv X 67 (zu (X 67) 6 v)) := sH_up hj (by decide) (by decide) rfl
theorem sH_p67_7 (hj : sj a) {v : Int} : va_up (sH h a f X) (a 67) (some (.inr (4, ([.ref (a 68), .ref (a 69), .ref (a 70), .ref (a 71), .ref (a 72), .int (zI (X 67 5)), .int (zI (X 67 6)), .int (zI (X 67 7)), .int (zI (X 67 8))] : List Value).set 7 (.int (zI v))))) = sH h a f (zv X 67 (zu (X 67) 7 v)) := sH_up hj (by decide) (by decide) rfl
theorem sH_p67_8 (hj : sj a) {v : Int} : va_up (sH h a f X) (a 67) (some (.inr (4, ([.ref (a 68), .ref (a 69), .ref (a 70), .ref (a 71), .ref (a 72), .int (zI (X 67 5)), .int (zI (X 67 6)), .int (zI (X 67 7)), .int (zI (X 67 8))] : List Value).set 8 (.int (zI v))))) = sH h a f (zv X 67 (zu (X 67) 8 v)) := sH_up hj (by decide) (by decide) rfl
theorem sH_pC_0 (hj : sj a) {k v : Int} (h1 : 0 ≤ k) (h2 : k < 12) : va_up (sH h a f X) (a (7 + 5 * k)) (some (.inr (0, ([.int (zI (X (7 + 5 * k) 0)), .int (zI (X (7 + 5 * k) 1)), .int (zI (X (7 + 5 * k) 2)), .int (zI (X (7 + 5 * k) 3)), .ref (a (7 + 5 * k + 1)), .ref (a (7 + 5 * k + 2)), .ref (a (7 + 5 * k + 3)), .ref (a (7 + 5 * k + 4))] : List Value).set 0 (.int (zI v))))) = sH h a f (zv X (7 + 5 * k) (zu (X (7 + 5 * k)) 0 v)) := sH_up hj (by omega) (by omega) (by rw [scl_C h1 h2, zv_at]; rfl)
theorem sH_pC_1 (hj : sj a) {k v : Int} (h1 : 0 ≤ k) (h2 : k < 12) : va_up (sH h a f X) (a (7 + 5 * k)) (some (.inr (0, ([.int (zI (X (7 + 5 * k) 0)), .int (zI (X (7 + 5 * k) 1)), .int (zI (X (7 + 5 * k) 2)), .int (zI (X (7 + 5 * k) 3)), .ref (a (7 + 5 * k + 1)), .ref (a (7 + 5 * k + 2)), .ref (a (7 + 5 * k + 3)), .ref (a (7 + 5 * k + 4))] : List Value).set 1 (.int (zI v))))) = sH h a f (zv X (7 + 5 * k) (zu (X (7 + 5 * k)) 1 v)) := sH_up hj (by omega) (by omega) (by rw [scl_C h1 h2, zv_at]; rfl)
theorem sH_pC_2 (hj : sj a) {k v : Int} (h1 : 0 ≤ k) (h2 : k < 12) : va_up (sH h a f X) (a (7 + 5 * k)) (some (.inr (0, ([.int (zI (X (7 + 5 * k) 0)), .int (zI (X (7 + 5 * k) 1)), .int (zI (X (7 + 5 * k) 2)), .int (zI (X (7 + 5 * k) 3)), .ref (a (7 + 5 * k + 1)), .ref (a (7 + 5 * k + 2)), .ref (a (7 + 5 * k + 3)), .ref (a (7 + 5 * k + 4))] : List Value).set 2 (.int (zI v))))) = sH h a f (zv X (7 + 5 * k) (zu (X (7 + 5 * k)) 2 v)) := sH_up hj (by omega) (by omega) (by rw [scl_C h1 h2, zv_at]; rfl)
theorem sH_pC_3 (hj : sj a) {k v : Int} (h1 : 0 ≤ k) (h2 : k < 12) : va_up (sH h a f X) (a (7 + 5 * k)) (some (.inr (0, ([.int (zI (X (7 + 5 * k) 0)), .int (zI (X (7 + 5 * k) 1)), .int (zI (X (7 + 5 * k) 2)), .int (zI (X (7 + 5 * k) 3)), .ref (a (7 + 5 * k + 1)), .ref (a (7 + 5 * k + 2)), .ref (a (7 + 5 * k + 3)), .ref (a (7 + 5 * k + 4))] : List Value).set 3 (.int (zI v))))) = sH h a f (zv X (7 + 5 * k) (zu (X (7 + 5 * k)) 3 v)) := sH_up hj (by omega) (by omega) (by rw [scl_C h1 h2, zv_at]; rfl)
end clsheap
/-- what the matrix says -/
def xB (X : Int → Int → Int) : Prop := (∀ i j, zR (X i j)) ∧ 0 ≤ X 1 1 ∧ X 1 1 ≤ 12 ∧ 0 ≤ X 1 5 ∧ X 1 5 ≤ 60
def xI (X : Int → Int → Int) : Prop := xB X ∧
  (∀ k : Int, 0 ≤ k → k < X 1 1 → (1 ≤ X (7 + 5 * k) 0 ∧ X (7 + 5 * k) 0 ≤ 99) ∧ (X (7 + 5 * k) 1 = -1 ∨ (1 ≤ X (7 + 5 * k) 1 ∧ X (7 + 5 * k) 1 ≤ 6000)) ∧ (X (7 + 5 * k) 2 = 0 ∨ X (7 + 5 * k) 2 = 1) ∧ (X (7 + 5 * k) 3 = 0 ∨ X (7 + 5 * k) 3 = 1)) ∧
  (∀ k j : Int, 0 ≤ k → k < j → j < X 1 1 → X (7 + 5 * k) 0 < X (7 + 5 * j) 0) ∧
  (∀ k p : Int, 0 ≤ k → k < X 1 1 → 0 ≤ p → p < 4 → (0 ≤ X (7 + 5 * k + 1) p ∧ X (7 + 5 * k + 1) p ≤ 600) ∧ (0 ≤ X (7 + 5 * k + 2) p ∧ X (7 + 5 * k + 2) p ≤ 600)) ∧
  (∀ k c : Int, 0 ≤ k → k < X 1 1 → 0 ≤ c → c ≤ 11 → (-2 ≤ X (7 + 5 * k + 3) c ∧ X (7 + 5 * k + 3) c ≤ 100) ∧ (¬ X (7 + 5 * k + 3) c = -2 → 0 ≤ X (7 + 5 * k + 4) c ∧ X (7 + 5 * k + 4) c ≤ 3)) ∧
  (∀ p : Int, 0 ≤ p → p < X 1 5 → 0 ≤ X 5 p ∧ X 5 p ≤ 11) ∧
  (∀ c : Int, 0 ≤ c → c ≤ 11 → 0 ≤ X 3 c ∧ X 3 c ≤ 100) ∧
  (∀ c : Int, 0 ≤ c → c ≤ 11 → (0 ≤ X 68 c ∧ X 68 c ≤ 100) ∧ (0 ≤ X 69 c ∧ X 69 c ≤ 100) ∧ (0 ≤ X 70 c ∧ X 70 c ≤ X 67 8) ∧ (0 ≤ X 71 c ∧ X 71 c ≤ 600) ∧ (0 ≤ X 72 c ∧ X 72 c ≤ 600)) ∧
  (0 ≤ X 67 5 ∧ X 67 5 ≤ 99 ∧ 0 ≤ X 67 6 ∧ X 67 6 ≤ X 67 8 ∧ 0 ≤ X 67 8 ∧ X 67 8 ≤ 100000)
def xix (X : Int → Int → Int) (n : Int) : Int := zfst (fun k => X (7 + 5 * k) 0 == n) (X 1 1).toNat
def xlm (X : Int → Int → Int) (t c : Int) : Int := if 0 ≤ t then t else X 3 c
abbrev xtk (X : Int → Int → Int) (k c : Int) : Prop := X (7 + 5 * k) 2 = 0 ∧ X (7 + 5 * k + 3) c = -2
def xlvF (X : Int → Int → Int) (c : Int) : Nat → Int
  | 0 => X 3 c
  | n + 1 => if xtk X n c then xlvF X c n else xlm X (X (7 + 5 * n + 3) c) c
def xlv (X : Int → Int → Int) (i c : Int) : Int := xlvF X c (i + 1).toNat
theorem xlvF_s {X : Int → Int → Int} {c k : Int} (h : 0 ≤ k) : xlvF X c (k + 1).toNat = if xtk X k c then xlvF X c k.toNat else xlm X (X (7 + 5 * k + 3) c) c := by
  rw [show (k + 1).toNat = k.toNat + 1 by omega]
  show (if xtk X ((k.toNat : Nat) : Int) c then xlvF X c k.toNat else xlm X (X (7 + 5 * ((k.toNat : Nat) : Int) + 3) c) c) = _
  rw [show ((k.toNat : Nat) : Int) = k by omega]
theorem xlm_R {X : Int → Int → Int} (hR : ∀ i j, zR (X i j)) {t : Int} (ht : zR t) (c : Int) : zR (xlm X t c) := by
  unfold xlm
  split
  · exact ht
  · exact hR _ _
theorem xlvF_R {X : Int → Int → Int} (hR : ∀ i j, zR (X i j)) (c : Int) : ∀ n, zR (xlvF X c n)
  | 0 => hR _ _
  | n + 1 => by
    unfold xlvF
    split
    · exact xlvF_R hR c n
    · exact xlm_R hR (hR _ _) c
theorem xlv_R {X : Int → Int → Int} (hR : ∀ i j, zR (X i j)) (i c : Int) : zR (xlv X i c) := xlvF_R hR c _
theorem xix_R {X : Int → Int → Int} (hB : xB X) (n : Int) : -1 ≤ xix X n ∧ xix X n < X 1 1 ∧ xix X n < 12 := by
  obtain ⟨hR, h1, h2, h3, h4⟩ := hB
  unfold xix
  rcases zfst_spec (fun k => X (7 + 5 * k) 0 == n) (X 1 1).toNat with ⟨g1, -⟩ | ⟨g1, g2, -⟩
  · rw [g1]; omega
  · omega
