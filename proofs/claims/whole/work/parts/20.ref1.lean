/-! the reference: its heap -/
def rcl (a : Nat → Nat) (s lv : Int → Int) (A : Nat → Int → Int) (F : Nat → Int) : Nat → pz_E := fun i => match i with
  | 0 => .inr (7, [.ref (a 1), .ref (a 2), .ref (a 3), .int (zI (F 3)), .ref (a 4), .int (zI (F 5)), .int (zI (F 6)), .int (zI (F 7)), .ref (a 5), .ref (a 6), .int (zI (F 10)), .int (zI (F 11)), .int (zI (F 12)), .int (zI (F 13)), .ref (a 7), .ref (a 8), .int (zI (F 16))])
  | 1 => .inl (0, 462, .inl (zf s))
  | 2 => .inl (0, 462, .inl (zf (A 2)))
  | 3 => .inl (0, 462, .inl (zf (A 3)))
  | 4 => .inl (0, 2772, .inl (zf (A 4)))
  | 5 => .inl (0, 144, .inl (zf lv))
  | 6 => .inl (1, 60, .inl (zf (A 6)))
  | 7 => .inl (1, 60, .inl (zf (A 7)))
  | _ => .inl (0, 180, .inl (zf (A 8)))
def rH (h0 : pz_H) (a : Nat → Nat) (s lv : Int → Int) (A : Nat → Int → Int) (F : Nat → Int) : pz_H := ov h0 9 a (rcl a s lv A F)
section refheap
variable {h0 : pz_H} {a : Nat → Nat} {s lv : Int → Int} {A : Nat → Int → Int} {F : Nat → Int}
theorem rH_0 (hj : oj 9 a) : rH h0 a s lv A F (a 0) = some (.inr (7, [.ref (a 1), .ref (a 2), .ref (a 3), .int (zI (F 3)), .ref (a 4), .int (zI (F 5)), .int (zI (F 6)), .int (zI (F 7)), .ref (a 5), .ref (a 6), .int (zI (F 10)), .int (zI (F 11)), .int (zI (F 12)), .int (zI (F 13)), .ref (a 7), .ref (a 8), .int (zI (F 16))])) := ov_at hj (by decide)
theorem rH_1 (hj : oj 9 a) : rH h0 a s lv A F (a 1) = some (.inl (0, 462, .inl (zf s))) := ov_at hj (by decide)
theorem rH_2 (hj : oj 9 a) : rH h0 a s lv A F (a 2) = some (.inl (0, 462, .inl (zf (A 2)))) := ov_at hj (by decide)
theorem rH_3 (hj : oj 9 a) : rH h0 a s lv A F (a 3) = some (.inl (0, 462, .inl (zf (A 3)))) := ov_at hj (by decide)
theorem rH_4 (hj : oj 9 a) : rH h0 a s lv A F (a 4) = some (.inl (0, 2772, .inl (zf (A 4)))) := ov_at hj (by decide)
theorem rH_5 (hj : oj 9 a) : rH h0 a s lv A F (a 5) = some (.inl (0, 144, .inl (zf lv))) := ov_at hj (by decide)
theorem rH_6 (hj : oj 9 a) : rH h0 a s lv A F (a 6) = some (.inl (1, 60, .inl (zf (A 6)))) := ov_at hj (by decide)
theorem rH_7 (hj : oj 9 a) : rH h0 a s lv A F (a 7) = some (.inl (1, 60, .inl (zf (A 7)))) := ov_at hj (by decide)
theorem rH_8 (hj : oj 9 a) : rH h0 a s lv A F (a 8) = some (.inl (0, 180, .inl (zf (A 8)))) := ov_at hj (by decide)
theorem rH_u1 (hj : oj 9 a) {f : Int → Int} : va_up (rH h0 a s lv A F) (a 1) (some (.inl (0, 462, .inl (zf f)))) = rH h0 a f lv A F := by
  refine (ov_up hj (by decide) _).trans (ov_congr (fun i hi => ?_))
  rcases (show i = 0 ∨ i = 1 ∨ i = 2 ∨ i = 3 ∨ i = 4 ∨ i = 5 ∨ i = 6 ∨ i = 7 ∨ i = 8 by omega) with rfl | rfl | rfl | rfl | rfl | rfl | rfl | rfl | rfl <;> rfl
theorem rH_u2 (hj : oj 9 a) {f : Int → Int} : va_up (rH h0 a s lv A F) (a 2) (some (.inl (0, 462, .inl (zf f)))) = rH h0 a s lv (va_up A 2 f) F := by
  refine (ov_up hj (by decide) _).trans (ov_congr (fun i hi => ?_))
  rcases (show i = 0 ∨ i = 1 ∨ i = 2 ∨ i = 3 ∨ i = 4 ∨ i = 5 ∨ i = 6 ∨ i = 7 ∨ i = 8 by omega) with rfl | rfl | rfl | rfl | rfl | rfl | rfl | rfl | rfl <;> rfl
theorem rH_u3 (hj : oj 9 a) {f : Int → Int} : va_up (rH h0 a s lv A F) (a 3) (some (.inl (0, 462, .inl (zf f)))) = rH h0 a s lv (va_up A 3 f) F := by
  refine (ov_up hj (by decide) _).trans (ov_congr (fun i hi => ?_))
  rcases (show i = 0 ∨ i = 1 ∨ i = 2 ∨ i = 3 ∨ i = 4 ∨ i = 5 ∨ i = 6 ∨ i = 7 ∨ i = 8 by omega) with rfl | rfl | rfl | rfl | rfl | rfl | rfl | rfl | rfl <;> rfl
theorem rH_u4 (hj : oj 9 a) {f : Int → Int} : va_up (rH h0 a s lv A F) (a 4) (some (.inl (0, 2772, .inl (zf f)))) = rH h0 a s lv (va_up A 4 f) F := by
  refine (ov_up hj (by decide) _).trans (ov_congr (fun i hi => ?_))
  rcases (show i = 0 ∨ i = 1 ∨ i = 2 ∨ i = 3 ∨ i = 4 ∨ i = 5 ∨ i = 6 ∨ i = 7 ∨ i = 8 by omega) with rfl | rfl | rfl | rfl | rfl | rfl | rfl | rfl | rfl <;> rfl
theorem rH_u5 (hj : oj 9 a) {f : Int → Int} : va_up (rH h0 a s lv A F) (a 5) (some (.inl (0, 144, .inl (zf f)))) = rH h0 a s f A F := by
  refine (ov_up hj (by decide) _).trans (ov_congr (fun i hi => ?_))
  rcases (show i = 0 ∨ i = 1 ∨ i = 2 ∨ i = 3 ∨ i = 4 ∨ i = 5 ∨ i = 6 ∨ i = 7 ∨ i = 8 by omega) with rfl | rfl | rfl | rfl | rfl | rfl | rfl | rfl | rfl <;> rfl
theorem rH_u6 (hj : oj 9 a) {f : Int → Int} : va_up (rH h0 a s lv A F) (a 6) (some (.inl (1, 60, .inl (zf f)))) = rH h0 a s lv (va_up A 6 f) F := by
  refine (ov_up hj (by decide) _).trans (ov_congr (fun i hi => ?_))
  rcases (show i = 0 ∨ i = 1 ∨ i = 2 ∨ i = 3 ∨ i = 4 ∨ i = 5 ∨ i = 6 ∨ i = 7 ∨ i = 8 by omega) with rfl | rfl | rfl | rfl | rfl | rfl | rfl | rfl | rfl <;> rfl
theorem rH_u7 (hj : oj 9 a) {f : Int → Int} : va_up (rH h0 a s lv A F) (a 7) (some (.inl (1, 60, .inl (zf f)))) = rH h0 a s lv (va_up A 7 f) F := by
  refine (ov_up hj (by decide) _).trans (ov_congr (fun i hi => ?_))
  rcases (show i = 0 ∨ i = 1 ∨ i = 2 ∨ i = 3 ∨ i = 4 ∨ i = 5 ∨ i = 6 ∨ i = 7 ∨ i = 8 by omega) with rfl | rfl | rfl | rfl | rfl | rfl | rfl | rfl | rfl <;> rfl
theorem rH_u8 (hj : oj 9 a) {f : Int → Int} : va_up (rH h0 a s lv A F) (a 8) (some (.inl (0, 180, .inl (zf f)))) = rH h0 a s lv (va_up A 8 f) F := by
  refine (ov_up hj (by decide) _).trans (ov_congr (fun i hi => ?_))
  rcases (show i = 0 ∨ i = 1 ∨ i = 2 ∨ i = 3 ∨ i = 4 ∨ i = 5 ∨ i = 6 ∨ i = 7 ∨ i = 8 by omega) with rfl | rfl | rfl | rfl | rfl | rfl | rfl | rfl | rfl <;> rfl
theorem rH_p3 (hj : oj 9 a) {v : Int} : va_up (rH h0 a s lv A F) (a 0) (some (.inr (7, ([.ref (a 1), .ref (a 2), .ref (a 3), .int (zI (F 3)), .ref (a 4), .int (zI (F 5)), .int (zI (F 6)), .int (zI (F 7)), .ref (a 5), .ref (a 6), .int (zI (F 10)), .int (zI (F 11)), .int (zI (F 12)), .int (zI (F 13)), .ref (a 7), .ref (a 8), .int (zI (F 16))] : List Value).set 3 (.int (zI v))))) = rH h0 a s lv A (va_up F 3 v) := by
  refine (ov_up hj (by decide) _).trans (ov_congr (fun i hi => ?_))
  rcases (show i = 0 ∨ i = 1 ∨ i = 2 ∨ i = 3 ∨ i = 4 ∨ i = 5 ∨ i = 6 ∨ i = 7 ∨ i = 8 by omega) with rfl | rfl | rfl | rfl | rfl | rfl | rfl | rfl | rfl <;> rfl
theorem rH_p5 (hj : oj 9 a) {v : Int} : va_up (rH h0 a s lv A F) (a 0) (some (.inr (7, ([.ref (a 1), .ref (a 2), .ref (a 3), .int (zI (F 3)), .ref (a 4), .int (zI (F 5)), .int (zI (F 6)), .int (zI (F 7)), .ref (a 5), .ref (a 6), .int (zI (F 10)), .int (zI (F 11)), .int (zI (F 12)), .int (zI (F 13)), .ref (a 7), .ref (a 8), .int (zI (F 16))] : List Value).set 5 (.int (zI v))))) = rH h0 a s lv A (va_up F 5 v) := by
  refine (ov_up hj (by decide) _).trans (ov_congr (fun i hi => ?_))
  rcases (show i = 0 ∨ i = 1 ∨ i = 2 ∨ i = 3 ∨ i = 4 ∨ i = 5 ∨ i = 6 ∨ i = 7 ∨ i = 8 by omega) with rfl | rfl | rfl | rfl | rfl | rfl | rfl | rfl | rfl <;> rfl
theorem rH_p6 (hj : oj 9 a) {v : Int} : va_up (rH h0 a s lv A F) (a 0) (some (.inr (7, ([.ref (a 1), .ref (a 2), .ref (a 3), .int (zI (F 3)), .ref (a 4), .int (zI (F 5)), .int (zI (F 6)), .int (zI (F 7)), .ref (a 5), .ref (a 6), .int (zI (F 10)), .int (zI (F 11)), .int (zI (F 12)), .int (zI (F 13)), .ref (a 7), .ref (a 8), .int (zI (F 16))] : List Value).set 6 (.int (zI v))))) = rH h0 a s lv A (va_up F 6 v) := by
  refine (ov_up hj (by decide) _).trans (ov_congr (fun i hi => ?_))
  rcases (show i = 0 ∨ i = 1 ∨ i = 2 ∨ i = 3 ∨ i = 4 ∨ i = 5 ∨ i = 6 ∨ i = 7 ∨ i = 8 by omega) with rfl | rfl | rfl | rfl | rfl | rfl | rfl | rfl | rfl <;> rfl
theorem rH_p7 (hj : oj 9 a) {v : Int} : va_up (rH h0 a s lv A F) (a 0) (some (.inr (7, ([.ref (a 1), .ref (a 2), .ref (a 3), .int (zI (F 3)), .ref (a 4), .int (zI (F 5)), .int (zI (F 6)), .int (zI (F 7)), .ref (a 5), .ref (a 6), .int (zI (F 10)), .int (zI (F 11)), .int (zI (F 12)), .int (zI (F 13)), .ref (a 7), .ref (a 8), .int (zI (F 16))] : List Value).set 7 (.int (zI v))))) = rH h0 a s lv A (va_up F 7 v) := by
  refine (ov_up hj (by decide) _).trans (ov_congr (fun i hi => ?_))
  rcases (show i = 0 ∨ i = 1 ∨ i = 2 ∨ i = 3 ∨ i = 4 ∨ i = 5 ∨ i = 6 ∨ i = 7 ∨ i = 8 by omega) with rfl | rfl | rfl | rfl | rfl | rfl | rfl | rfl | rfl <;> rfl
theorem rH_p10 (hj : oj 9 a) {v : Int} : va_up (rH h0 a s lv A F) (a 0) (some (.inr (7, ([.ref (a 1), .ref (a 2), .ref (a 3), .int (zI (F 3)), .ref (a 4), .int (zI (F 5)), .int (zI (F 6)), .int (zI (F 7)), .ref (a 5), .ref (a 6), .int (zI (F 10)), .int (zI (F 11)), .int (zI (F 12)), .int (zI (F 13)), .ref (a 7), .ref (a 8), .int (zI (F 16))] : List Value).set 10 (.int (zI v))))) = rH h0 a s lv A (va_up F 10 v) := by
  refine (ov_up hj (by decide) _).trans (ov_congr (fun i hi => ?_))
  rcases (show i = 0 ∨ i = 1 ∨ i = 2 ∨ i = 3 ∨ i = 4 ∨ i = 5 ∨ i = 6 ∨ i = 7 ∨ i = 8 by omega) with rfl | rfl | rfl | rfl | rfl | rfl | rfl | rfl | rfl <;> rfl
theorem rH_p11 (hj : oj 9 a) {v : Int} : va_up (rH h0 a s lv A F) (a 0) (some (.inr (7, ([.ref (a 1), .ref (a 2), .ref (a 3), .int (zI (F 3)), .ref (a 4), .int (zI (F 5)), .int (zI (F 6)), .int (zI (F 7)), .ref (a 5), .ref (a 6), .int (zI (F 10)), .int (zI (F 11)), .int (zI (F 12)), .int (zI (F 13)), .ref (a 7), .ref (a 8), .int (zI (F 16))] : List Value).set 11 (.int (zI v))))) = rH h0 a s lv A (va_up F 11 v) := by
  refine (ov_up hj (by decide) _).trans (ov_congr (fun i hi => ?_))
  rcases (show i = 0 ∨ i = 1 ∨ i = 2 ∨ i = 3 ∨ i = 4 ∨ i = 5 ∨ i = 6 ∨ i = 7 ∨ i = 8 by omega) with rfl | rfl | rfl | rfl | rfl | rfl | rfl | rfl | rfl <;> rfl
theorem rH_p12 (hj : oj 9 a) {v : Int} : va_up (rH h0 a s lv A F) (a 0) (some (.inr (7, ([.ref (a 1), .ref (a 2), .ref (a 3), .int (zI (F 3)), .ref (a 4), .int (zI (F 5)), .int (zI (F 6)), .int (zI (F 7)), .ref (a 5), .ref (a 6), .int (zI (F 10)), .int (zI (F 11)), .int (zI (F 12)), .int (zI (F 13)), .ref (a 7), .ref (a 8), .int (zI (F 16))] : List Value).set 12 (.int (zI v))))) = rH h0 a s lv A (va_up F 12 v) := by
  refine (ov_up hj (by decide) _).trans (ov_congr (fun i hi => ?_))
  rcases (show i = 0 ∨ i = 1 ∨ i = 2 ∨ i = 3 ∨ i = 4 ∨ i = 5 ∨ i = 6 ∨ i = 7 ∨ i = 8 by omega) with rfl | rfl | rfl | rfl | rfl | rfl | rfl | rfl | rfl <;> rfl
theorem rH_p13 (hj : oj 9 a) {v : Int} : va_up (rH h0 a s lv A F) (a 0) (some (.inr (7, ([.ref (a 1), .ref (a 2), .ref (a 3), .int (zI (F 3)), .ref (a 4), .int (zI (F 5)), .int (zI (F 6)), .int (zI (F 7)), .ref (a 5), .ref (a 6), .int (zI (F 10)), .int (zI (F 11)), .int (zI (F 12)), .int (zI (F 13)), .ref (a 7), .ref (a 8), .int (zI (F 16))] : List Value).set 13 (.int (zI v))))) = rH h0 a s lv A (va_up F 13 v) := by
  refine (ov_up hj (by decide) _).trans (ov_congr (fun i hi => ?_))
  rcases (show i = 0 ∨ i = 1 ∨ i = 2 ∨ i = 3 ∨ i = 4 ∨ i = 5 ∨ i = 6 ∨ i = 7 ∨ i = 8 by omega) with rfl | rfl | rfl | rfl | rfl | rfl | rfl | rfl | rfl <;> rfl
theorem rH_p16 (hj : oj 9 a) {v : Int} : va_up (rH h0 a s lv A F) (a 0) (some (.inr (7, ([.ref (a 1), .ref (a 2), .ref (a 3), .int (zI (F 3)), .ref (a 4), .int (zI (F 5)), .int (zI (F 6)), .int (zI (F 7)), .ref (a 5), .ref (a 6), .int (zI (F 10)), .int (zI (F 11)), .int (zI (F 12)), .int (zI (F 13)), .ref (a 7), .ref (a 8), .int (zI (F 16))] : List Value).set 16 (.int (zI v))))) = rH h0 a s lv A (va_up F 16 v) := by
  refine (ov_up hj (by decide) _).trans (ov_congr (fun i hi => ?_))
  rcases (show i = 0 ∨ i = 1 ∨ i = 2 ∨ i = 3 ∨ i = 4 ∨ i = 5 ∨ i = 6 ∨ i = 7 ∨ i = 8 by omega) with rfl | rfl | rfl | rfl | rfl | rfl | rfl | rfl | rfl <;> rfl
end refheap
theorem vu_self {α : Type} (f : Nat → α) (k : Nat) (v : α) : va_up f k v k = v := if_pos rfl
theorem vu_ne {α : Type} (f : Nat → α) {k j : Nat} (v : α) (h : j ≠ k) : va_up f k v j = f j := if_neg h
theorem vu_up {α : Type} (f : Nat → α) (k : Nat) (v u : α) : va_up (va_up f k v) k u = va_up f k u := by
  funext j
  unfold va_up
  split <;> rfl
/-- the first index with a property -/
def zfst (P : Int → Bool) : Nat → Int
  | 0 => -1
  | n + 1 => if zfst P n = -1 then (if P n = true then (n : Int) else -1) else zfst P n
theorem zfst_spec (P : Int → Bool) : ∀ n : Nat, (zfst P n = -1 ∧ ∀ k : Int, 0 ≤ k → k < n → P k = false) ∨ (0 ≤ zfst P n ∧ zfst P n < n ∧ P (zfst P n) = true ∧ ∀ k : Int, 0 ≤ k → k < zfst P n → P k = false)
  | 0 => Or.inl ⟨rfl, fun k h1 h2 => absurd h2 (by omega)⟩
  | n + 1 => by
    unfold zfst
    rcases zfst_spec P n with ⟨h1, h2⟩ | ⟨h1, h2, h3, h4⟩
    · rw [if_pos h1]
      by_cases hp : P n = true
      · rw [if_pos hp]
        exact Or.inr ⟨by omega, by omega, hp, fun k g1 g2 => h2 k g1 g2⟩
      · rw [if_neg hp]
        refine Or.inl ⟨rfl, fun k g1 g2 => ?_⟩
        by_cases e : k = n
        · rw [e]; simpa using hp
        · exact h2 k g1 (by omega)
    · rw [if_neg (by omega)]
      exact Or.inr ⟨h1, by omega, h3, h4⟩
theorem zfst_eq {P : Int → Bool} {n : Nat} {k : Int} (h1 : 0 ≤ k) (h2 : k < n) (h3 : P k = true) (h4 : ∀ j : Int, 0 ≤ j → j < k → P j = false) : zfst P n = k := by
  rcases zfst_spec P n with ⟨g1, g2⟩ | ⟨g1, g2, g3, g4⟩
  · rw [g2 k h1 h2] at h3; cases h3
  · rcases Int.lt_trichotomy (zfst P n) k with e | e | e
    · rw [h4 _ g1 e] at g3; cases g3
    · exact e
    · rw [g4 k h1 e] at h3; cases h3
theorem zfst_no {P : Int → Bool} {n : Nat} (h : ∀ k : Int, 0 ≤ k → k < n → P k = false) : zfst P n = -1 := by
  rcases zfst_spec P n with ⟨g1, g2⟩ | ⟨g1, g2, g3, g4⟩
  · exact g1
  · rw [h _ g1 g2] at g3; cases g3
/-- what the reference's row of numbers says -/
def rB (s : Int → Int) : Prop := (∀ i, zR (s i)) ∧ 0 ≤ s 0 ∧ s 0 ≤ 12 ∧ 0 ≤ s 1 ∧ s 1 ≤ 60
def rpl (s : Int → Int) (cue : Int) : Int := zfst (fun k => s (18 + 12 * k) == cue) (s 0).toNat
def rgv (s : Int → Int) (cue ch : Int) : Int := zfst (fun k => s (162 + 4 * k) == cue && s (162 + 4 * k + 1) == ch) (s 1).toNat
theorem rpl_R {s : Int → Int} (hs : rB s) (cue : Int) : -1 ≤ rpl s cue ∧ rpl s cue < s 0 ∧ rpl s cue < 12 := by
  obtain ⟨hR, h1, h2, h3, h4⟩ := hs
  unfold rpl
  rcases zfst_spec (fun k => s (18 + 12 * k) == cue) (s 0).toNat with ⟨g1, -⟩ | ⟨g1, g2, -⟩
  · rw [g1]; omega
  · omega
theorem rgv_R {s : Int → Int} (hs : rB s) (cue ch : Int) : -1 ≤ rgv s cue ch ∧ (rgv s cue ch < s 1 ∧ rgv s cue ch < 60) := by
  obtain ⟨hR, h1, h2, h3, h4⟩ := hs
  unfold rgv
  rcases zfst_spec (fun k => s (162 + 4 * k) == cue && s (162 + 4 * k + 1) == ch) (s 1).toNat with ⟨g1, -⟩ | ⟨g1, g2, -⟩
  · rw [g1]; omega
  · omega
def rlvF (s : Int → Int) (ch : Int) : Nat → Int
  | 0 => s (6 + ch)
  | n + 1 => if 0 ≤ rgv s (s (18 + 12 * n)) ch then (if s (162 + 4 * rgv s (s (18 + 12 * n)) ch + 2) = -1 then s (6 + ch) else s (162 + 4 * rgv s (s (18 + 12 * n)) ch + 2)) else if s (18 + 12 * n + 2) = 1 then s (6 + ch) else rlvF s ch n
def rlv (s : Int → Int) (place ch : Int) : Int := rlvF s ch (place + 1).toNat
theorem rlvF_R {s : Int → Int} (hs : rB s) (ch : Int) : ∀ n, zR (rlvF s ch n)
  | 0 => hs.1 _
  | n + 1 => by
    unfold rlvF
    split
    · split
      · exact hs.1 _
      · exact hs.1 _
    · split
      · exact hs.1 _
      · exact rlvF_R hs ch n
theorem rlv_R {s : Int → Int} (hs : rB s) (place ch : Int) : zR (rlv s place ch) := rlvF_R hs ch _
section ref
variable {en : pz_Env} {h0 : pz_H} {a : Nat → Nat} {s lv : Int → Int} {A : Nat → Int → Int} {F : Nat → Int}
set_option maxRecDepth 100000 in
set_option maxHeartbeats 4000000 in
theorem kX7_in  {v lo hi : Int} (h1 : zR v) (h2 : zR lo) (h3 : zR hi) : pz_Cd en 1 159 [.int (zI v), .int (zI lo), .int (zI hi)] h0 0 0 (pz_ret (some (.int (zI (bI (lo ≤ v ∧ v ≤ hi))))) h0) := by
  refine pz_in pzt_X7_in ?_
  refine pr_iload_n dX7_in_0 rfl ?_
  refine pr_iload_n dX7_in_1 rfl ?_
  refine zr_icmp_lt (tgt := 14) dX7_in_2 (by decide) (by assumption) (by assumption) (fun c2 => ?_) (fun c2 => ?_)
  · refine zr_iconst dX7_in_14 ?_
    exact pr_iret dX7_in_15 rfl rfl (zret (by first | exact (bI_t (by omega)).symm | exact (bI_f (by omega)).symm))
  · refine pr_iload_n dX7_in_5 rfl ?_
    refine pr_iload_n dX7_in_6 rfl ?_
    refine zr_icmp_gt (tgt := 14) dX7_in_7 (by decide) (by assumption) (by assumption) (fun c7 => ?_) (fun c7 => ?_)
    · refine zr_iconst dX7_in_14 ?_
      exact pr_iret dX7_in_15 rfl rfl (zret (by first | exact (bI_t (by omega)).symm | exact (bI_f (by omega)).symm))
    · refine zr_iconst dX7_in_10 ?_
      refine pr_goto (tgt := 15) dX7_in_11 (by decide) ?_
      exact pr_iret dX7_in_15 rfl rfl (zret (by first | exact (bI_t (by omega)).symm | exact (bI_f (by omega)).symm))
set_option maxRecDepth 100000 in
set_option maxHeartbeats 4000000 in
theorem kX7_at  {k : Int} : pz_Cd en 1 127 [.int (zI k)] h0 0 0 (pz_ret (some (.int (zI (18 + 12 * k)))) h0) := by
  refine pz_in pzt_X7_at ?_
  refine zr_bipush dX7_at_0 (by decide) ?_
  refine zr_bipush dX7_at_2 (by decide) ?_
  refine pr_iload_n dX7_at_4 rfl ?_
  refine zr_imul dX7_at_5 ?_
  refine zr_iadd dX7_at_6 ?_
  exact pr_iret dX7_at_7 rfl rfl (zret (by rfl))
set_option maxRecDepth 100000 in
set_option maxHeartbeats 4000000 in
theorem kX7_isChannel  {c : Int} (h1 : zR c) : pz_Cd en 2 131 [.int (zI c)] h0 0 0 (pz_ret (some (.int (zI (bI (0 ≤ c ∧ c ≤ 11))))) h0) := by
  refine pz_in pzt_X7_isChannel ?_
  refine pr_iload_n dX7_isChannel_0 rfl ?_
  refine zr_iconst dX7_isChannel_1 ?_
  refine zr_bipush dX7_isChannel_2 (by decide) ?_
  refine zcs3i dX7_isChannel_4 pzm_7_70 pzt_X7_in (kX7_in h1 ⟨by decide, by decide⟩ ⟨by decide, by decide⟩) (by decide) (Nat.le_of_ble_eq_true rfl) ?_
  exact pr_iret dX7_isChannel_7 rfl (nar_bI _) (zret (by rfl))
set_option maxRecDepth 100000 in
set_option maxHeartbeats 4000000 in
theorem kX7_isPart  {c : Int} (h1 : zR c) : pz_Cd en 2 132 [.int (zI c)] h0 0 0 (pz_ret (some (.int (zI (bI (0 ≤ c ∧ c ≤ 3))))) h0) := by
  refine pz_in pzt_X7_isPart ?_
  refine pr_iload_n dX7_isPart_0 rfl ?_
  refine zr_iconst dX7_isPart_1 ?_
  refine zr_iconst dX7_isPart_2 ?_
  refine zcs3i dX7_isPart_3 pzm_7_70 pzt_X7_in (kX7_in h1 ⟨by decide, by decide⟩ ⟨by decide, by decide⟩) (by decide) (Nat.le_of_ble_eq_true rfl) ?_
  exact pr_iret dX7_isPart_6 rfl (nar_bI _) (zret (by rfl))
set_option maxRecDepth 100000 in
set_option maxHeartbeats 4000000 in
theorem kX7_placeOf (hj : oj 9 a) (hs : rB s) {cue : Int} (h1 : zR cue) : pz_Cd en 2 128 [.ref (a 0), .int (zI cue)] (rH h0 a s lv A F) 0 0 (pz_ret (some (.int (zI (rpl s cue)))) (rH h0 a s lv A F)) := by
  refine pz_in pzt_X7_placeOf ?_
  obtain ⟨hR, hs0, hs1, hs2, hs3⟩ := id hs
  have loop : pz_WP 2 en (pz_Cd en (2 - 1)) 7 cX7_placeOf 3 (some .int) [] false (pz_ret (some (.int (zI (rpl s cue)))) (rH h0 a s lv A F)) 2 [some (.ref (a 0)), some (.int (zI cue)), some (.int (zI 0))] [] (rH h0 a s lv A F) 0 0 := by
    refine zup (P := fun k => (∀ j : Int, 0 ≤ j → j < k → ¬ s (18 + 12 * j) = cue) → pz_WP 2 en (pz_Cd en (2 - 1)) 7 cX7_placeOf 3 (some .int) [] false (pz_ret (some (.int (zI (rpl s cue)))) (rH h0 a s lv A F)) 2 [some (.ref (a 0)), some (.int (zI cue)), some (.int (zI k))] [] (rH h0 a s lv A F) 0 0) (lo := 0) (hi := (s 0)) hs0 ?_ ?_ (fun j h1 h2 => absurd h2 (by omega))
    · intro hno
      refine pr_iload_n dX7_placeOf_2 rfl ?_
      refine pr_aload_n dX7_placeOf_3 rfl ?_
      refine pr_getf dX7_placeOf_4 pzf_7_9 (rH_0 hj) rfl ?_
      refine zr_iconst dX7_placeOf_7 ?_
      refine zr_iald dX7_placeOf_8 (rH_1 hj) (by omega) (by decide) ?_
      refine zr_icmp_ge (tgt := 33) dX7_placeOf_9 (by decide) (by first | exact hR _ | omega) (by first | exact hR _ | omega) (fun c9 => ?_) (fun c9 => by exfalso; omega)
      refine zr_iconst dX7_placeOf_33 ?_
      exact pr_iret dX7_placeOf_34 rfl rfl (zret ((zfst_no (fun k g1 g2 => by simp only [beq_eq_false_iff_ne]; exact hno k g1 (by omega))).symm))
    · intro k hk1 hk2 ih hno
      refine pr_iload_n dX7_placeOf_2 rfl ?_
      refine pr_aload_n dX7_placeOf_3 rfl ?_
      refine pr_getf dX7_placeOf_4 pzf_7_9 (rH_0 hj) rfl ?_
      refine zr_iconst dX7_placeOf_7 ?_
      refine zr_iald dX7_placeOf_8 (rH_1 hj) (by omega) (by decide) ?_
      refine zr_icmp_ge (tgt := 33) dX7_placeOf_9 (by decide) (by first | exact hR _ | omega) (by first | exact hR _ | omega) (fun c9 => by exfalso; omega) (fun c9 => ?_)
      refine pr_aload_n dX7_placeOf_12 rfl ?_
      refine pr_getf dX7_placeOf_13 pzf_7_9 (rH_0 hj) rfl ?_
      refine pr_iload_n dX7_placeOf_16 rfl ?_
      refine zcs1i dX7_placeOf_17 pzm_7_63 pzt_X7_at kX7_at (by decide) (Nat.le_of_ble_eq_true rfl) ?_
      refine zr_iald dX7_placeOf_20 (rH_1 hj) (by omega) (by decide) ?_
      refine pr_iload_n dX7_placeOf_21 rfl ?_
      refine zr_icmp_ne (tgt := 27) dX7_placeOf_22 (by decide) (by first | exact hR _ | omega) (by first | exact hR _ | omega) (fun c22 => ?_) (fun c22 => ?_)
      · refine zr_iinc dX7_placeOf_27 rfl (by decide) rfl ?_
        refine pr_goto (tgt := 2) dX7_placeOf_30 (by decide) ?_
        exact ih (fun j g1 g2 => by
          by_cases e : j = k
          · rw [e]; omega
          · exact hno j g1 (by omega))
      · refine pr_iload_n dX7_placeOf_25 rfl ?_
        exact pr_iret dX7_placeOf_26 rfl rfl (zret ((zfst_eq hk1 (by omega) (by simp only [beq_iff_eq]; omega) (fun j g1 g2 => by simp only [beq_eq_false_iff_ne]; exact hno j g1 g2)).symm))
  
  refine zr_iconst dX7_placeOf_0 ?_
  refine pr_istore_n dX7_placeOf_1 (by decide) rfl ?_
  exact loop
set_option maxRecDepth 100000 in
set_option maxHeartbeats 4000000 in
theorem kX7_isCue (hj : oj 9 a) (hs : rB s) {cue : Int} (h1 : zR cue) : pz_Cd en 3 129 [.ref (a 0), .int (zI cue)] (rH h0 a s lv A F) 0 0 (pz_ret (some (.int (zI (bI (0 ≤ rpl s cue))))) (rH h0 a s lv A F)) := by
  refine pz_in pzt_X7_isCue ?_
  obtain ⟨hR, hs0, hs1, hs2, hs3⟩ := id hs
  have hp := rpl_R hs cue
  refine pr_aload_n dX7_isCue_0 rfl ?_
  refine pr_iload_n dX7_isCue_1 rfl ?_
  refine zcv1i dX7_isCue_2 pzm_7_67 pzt_X7_placeOf (rH_0 hj) (kX7_placeOf hj hs h1) (by decide) (Nat.le_of_ble_eq_true rfl) (by decide) ?_
  refine zr_if_lt (tgt := 12) dX7_isCue_5 (by decide) (by first | exact hR _ | omega) (fun c5 => ?_) (fun c5 => ?_)
  · refine zr_iconst dX7_isCue_12 ?_
    exact pr_iret dX7_isCue_13 rfl rfl (zret (by first | exact (bI_t (by omega)).symm | exact (bI_f (by omega)).symm))
  · refine zr_iconst dX7_isCue_8 ?_
    refine pr_goto (tgt := 13) dX7_isCue_9 (by decide) ?_
    exact pr_iret dX7_isCue_13 rfl rfl (zret (by first | exact (bI_t (by omega)).symm | exact (bI_f (by omega)).symm))
set_option maxRecDepth 100000 in
set_option maxHeartbeats 4000000 in
theorem kX7_isBlock (hj : oj 9 a) (hs : rB s) {k : Int} (h1 : 0 ≤ k) (h2 : k < 12) : pz_Cd en 2 130 [.ref (a 0), .int (zI k)] (rH h0 a s lv A F) 0 0 (pz_ret (some (.int (zI (bI (s (18 + 12 * k + 2) = 1))))) (rH h0 a s lv A F)) := by
  refine pz_in pzt_X7_isBlock ?_
  obtain ⟨hR, hs0, hs1, hs2, hs3⟩ := id hs
  refine pr_aload_n dX7_isBlock_0 rfl ?_
  refine pr_getf dX7_isBlock_1 pzf_7_9 (rH_0 hj) rfl ?_
  refine pr_iload_n dX7_isBlock_4 rfl ?_
  refine zcs1i dX7_isBlock_5 pzm_7_63 pzt_X7_at kX7_at (by decide) (Nat.le_of_ble_eq_true rfl) ?_
  refine zr_iconst dX7_isBlock_8 ?_
  refine zr_iadd dX7_isBlock_9 ?_
  refine zr_iald dX7_isBlock_10 (rH_1 hj) (by omega) (by decide) ?_
  refine zr_iconst dX7_isBlock_11 ?_
  refine zr_icmp_ne (tgt := 19) dX7_isBlock_12 (by decide) (by first | exact hR _ | omega) (by first | exact hR _ | omega) (fun c12 => ?_) (fun c12 => ?_)
  · refine zr_iconst dX7_isBlock_19 ?_
    exact pr_iret dX7_isBlock_20 rfl rfl (zret (by first | exact (bI_t (by omega)).symm | exact (bI_f (by omega)).symm))
  · refine zr_iconst dX7_isBlock_15 ?_
    refine pr_goto (tgt := 20) dX7_isBlock_16 (by decide) ?_
    exact pr_iret dX7_isBlock_20 rfl rfl (zret (by first | exact (bI_t (by omega)).symm | exact (bI_f (by omega)).symm))
set_option maxRecDepth 100000 in
set_option maxHeartbeats 4000000 in
theorem kX7_given (hj : oj 9 a) (hs : rB s) {cue ch : Int} (h1 : zR cue) (h2 : zR ch) : pz_Cd en 1 144 [.ref (a 0), .int (zI cue), .int (zI ch)] (rH h0 a s lv A F) 0 0 (pz_ret (some (.int (zI (rgv s cue ch)))) (rH h0 a s lv A F)) := by
  refine pz_in pzt_X7_given ?_
  obtain ⟨hR, hs0, hs1, hs2, hs3⟩ := id hs
  have loop : pz_WP 1 en (pz_Cd en (1 - 1)) 7 cX7_given 4 (some .int) [] false (pz_ret (some (.int (zI (rgv s cue ch)))) (rH h0 a s lv A F)) 2 [some (.ref (a 0)), some (.int (zI cue)), some (.int (zI ch)), some (.int (zI 0))] [] (rH h0 a s lv A F) 0 0 := by
    refine zup (P := fun k => (∀ j : Int, 0 ≤ j → j < k → ¬ (s (162 + 4 * j) = cue ∧ s (162 + 4 * j + 1) = ch)) → pz_WP 1 en (pz_Cd en (1 - 1)) 7 cX7_given 4 (some .int) [] false (pz_ret (some (.int (zI (rgv s cue ch)))) (rH h0 a s lv A F)) 2 [some (.ref (a 0)), some (.int (zI cue)), some (.int (zI ch)), some (.int (zI k))] [] (rH h0 a s lv A F) 0 0) (lo := 0) (hi := (s 1)) hs2 ?_ ?_ (fun j h1 h2 => absurd h2 (by omega))
    · intro hno
      refine pr_iload_n dX7_given_2 rfl ?_
      refine pr_aload_n dX7_given_3 rfl ?_
      refine pr_getf dX7_given_4 pzf_7_9 (rH_0 hj) rfl ?_
      refine zr_iconst dX7_given_7 ?_
      refine zr_iald dX7_given_8 (rH_1 hj) (by omega) (by decide) ?_
      refine zr_icmp_ge (tgt := 54) dX7_given_9 (by decide) (by first | exact hR _ | omega) (by first | exact hR _ | omega) (fun c9 => ?_) (fun c9 => by exfalso; omega)
      refine zr_iconst dX7_given_54 ?_
      exact pr_iret dX7_given_55 rfl rfl (zret ((zfst_no (fun k g1 g2 => by have := hno k g1 (by omega); simp only [Bool.and_eq_false_iff, beq_eq_false_iff_ne]; omega)).symm))
    · intro k hk1 hk2 ih hno
      refine pr_iload_n dX7_given_2 rfl ?_
      refine pr_aload_n dX7_given_3 rfl ?_
      refine pr_getf dX7_given_4 pzf_7_9 (rH_0 hj) rfl ?_
      refine zr_iconst dX7_given_7 ?_
      refine zr_iald dX7_given_8 (rH_1 hj) (by omega) (by decide) ?_
      refine zr_icmp_ge (tgt := 54) dX7_given_9 (by decide) (by first | exact hR _ | omega) (by first | exact hR _ | omega) (fun c9 => by exfalso; omega) (fun c9 => ?_)
      refine pr_aload_n dX7_given_12 rfl ?_
      refine pr_getf dX7_given_13 pzf_7_9 (rH_0 hj) rfl ?_
      refine zr_sipush dX7_given_16 (by decide) ?_
      refine zr_iconst dX7_given_19 ?_
      refine pr_iload_n dX7_given_20 rfl ?_
      refine zr_imul dX7_given_21 ?_
      refine zr_iadd dX7_given_22 ?_
      refine zr_iald dX7_given_23 (rH_1 hj) (by omega) (by decide) ?_
      refine pr_iload_n dX7_given_24 rfl ?_
      refine zr_icmp_ne (tgt := 48) dX7_given_25 (by decide) (by first | exact hR _ | omega) (by first | exact hR _ | omega) (fun c25 => ?_) (fun c25 => ?_)
      · refine zr_iinc dX7_given_48 rfl (by decide) rfl ?_
        refine pr_goto (tgt := 2) dX7_given_51 (by decide) ?_
        exact ih (fun j g1 g2 => by
          by_cases e : j = k
          · rw [e]; omega
          · exact hno j g1 (by omega))
      · refine pr_aload_n dX7_given_28 rfl ?_
        refine pr_getf dX7_given_29 pzf_7_9 (rH_0 hj) rfl ?_
        refine zr_sipush dX7_given_32 (by decide) ?_
        refine zr_iconst dX7_given_35 ?_
        refine pr_iload_n dX7_given_36 rfl ?_
        refine zr_imul dX7_given_37 ?_
        refine zr_iadd dX7_given_38 ?_
        refine zr_iconst dX7_given_39 ?_
        refine zr_iadd dX7_given_40 ?_
        refine zr_iald dX7_given_41 (rH_1 hj) (by omega) (by decide) ?_
        refine pr_iload_n dX7_given_42 rfl ?_
        refine zr_icmp_ne (tgt := 48) dX7_given_43 (by decide) (by first | exact hR _ | omega) (by first | exact hR _ | omega) (fun c43 => ?_) (fun c43 => ?_)
        · refine zr_iinc dX7_given_48 rfl (by decide) rfl ?_
          refine pr_goto (tgt := 2) dX7_given_51 (by decide) ?_
          exact ih (fun j g1 g2 => by
            by_cases e : j = k
            · rw [e]; omega
            · exact hno j g1 (by omega))
        · refine pr_iload_n dX7_given_46 rfl ?_
          exact pr_iret dX7_given_47 rfl rfl (zret ((zfst_eq hk1 (by omega) (by simp only [Bool.and_eq_true, beq_iff_eq]; omega) (fun j g1 g2 => by have := hno j g1 g2; simp only [Bool.and_eq_false_iff, beq_eq_false_iff_ne]; omega)).symm))
  
  refine zr_iconst dX7_given_0 ?_
  refine pr_istore_n dX7_given_1 (by decide) rfl ?_
  exact loop
set_option maxRecDepth 100000 in
set_option maxHeartbeats 4000000 in
theorem kX7_levelIn (hj : oj 9 a) (hs : rB s) {place ch : Int} (h1 : -1 ≤ place) (h2 : place < s 0) (h3 : 0 ≤ ch) (h4 : ch ≤ 11) : pz_Cd en 3 147 [.ref (a 0), .int (zI place), .int (zI ch)] (rH h0 a s lv A F) 0 0 (pz_ret (some (.int (zI (rlv s place ch)))) (rH h0 a s lv A F)) := by
  refine pz_in pzt_X7_levelIn ?_
  obtain ⟨hR, hs0, hs1, hs2, hs3⟩ := id hs
  have loop : ∀ t : Option Value, pz_WP 3 en (pz_Cd en (3 - 1)) 7 cX7_levelIn 6 (some .int) [] false (pz_ret (some (.int (zI (rlv s place ch)))) (rH h0 a s lv A F)) 13 [some (.ref (a 0)), some (.int (zI place)), some (.int (zI ch)), some (.int (zI (rlvF s ch (0 : Int).toNat))), some (.int (zI 0)), t] [] (rH h0 a s lv A F) 0 0 := by
    refine zup (P := fun k => ∀ t : Option Value, pz_WP 3 en (pz_Cd en (3 - 1)) 7 cX7_levelIn 6 (some .int) [] false (pz_ret (some (.int (zI (rlv s place ch)))) (rH h0 a s lv A F)) 13 [some (.ref (a 0)), some (.int (zI place)), some (.int (zI ch)), some (.int (zI (rlvF s ch k.toNat))), some (.int (zI k)), t] [] (rH h0 a s lv A F) 0 0) (lo := 0) (hi := place + 1) (by omega) ?_ ?_
    · intro t
      refine pr_iload dX7_levelIn_13 rfl ?_
      refine pr_iload_n dX7_levelIn_15 rfl ?_
      refine zr_icmp_gt (tgt := 116) dX7_levelIn_16 (by decide) (by first | exact hR _ | omega) (by first | exact hR _ | omega) (fun c16 => ?_) (fun c16 => by exfalso; omega)
      refine pr_iload_n dX7_levelIn_116 rfl ?_
      exact pr_iret dX7_levelIn_117 rfl rfl (zret (by rfl))
    · intro k hk1 hk2 ih t
      have hg := rgv_R hs (s (18 + 12 * k)) ch
      have hn : rlvF s ch (k + 1).toNat = if 0 ≤ rgv s (s (18 + 12 * k)) ch then (if s (162 + 4 * rgv s (s (18 + 12 * k)) ch + 2) = -1 then s (6 + ch) else s (162 + 4 * rgv s (s (18 + 12 * k)) ch + 2)) else if s (18 + 12 * k + 2) = 1 then s (6 + ch) else rlvF s ch k.toNat := by
        rw [show (k + 1).toNat = k.toNat + 1 by omega]
        show (if 0 ≤ rgv s (s (18 + 12 * ((k.toNat : Nat) : Int))) ch then _ else _) = _
        rw [show ((k.toNat : Nat) : Int) = k by omega]
      refine pr_iload dX7_levelIn_13 rfl ?_
      refine pr_iload_n dX7_levelIn_15 rfl ?_
      refine zr_icmp_gt (tgt := 116) dX7_levelIn_16 (by decide) (by first | exact hR _ | omega) (by first | exact hR _ | omega) (fun c16 => by exfalso; omega) (fun c16 => ?_)
      refine pr_aload_n dX7_levelIn_19 rfl ?_
      refine pr_aload_n dX7_levelIn_20 rfl ?_
      refine pr_getf dX7_levelIn_21 pzf_7_9 (rH_0 hj) rfl ?_
      refine pr_iload dX7_levelIn_24 rfl ?_
      refine zcs1i dX7_levelIn_26 pzm_7_63 pzt_X7_at kX7_at (by decide) (Nat.le_of_ble_eq_true rfl) ?_
      refine zr_iald dX7_levelIn_29 (rH_1 hj) (by omega) (by decide) ?_
      refine pr_iload_n dX7_levelIn_30 rfl ?_
      refine zcv2i dX7_levelIn_31 pzm_7_98 pzt_X7_given (rH_0 hj) (kX7_given hj hs (hR _) (by omega)) (by decide) (Nat.le_of_ble_eq_true rfl) (by decide) ?_
      refine pr_istore dX7_levelIn_34 (by decide) rfl ?_
      refine pr_iload dX7_levelIn_36 rfl ?_
      refine zr_if_lt (tgt := 91) dX7_levelIn_38 (by decide) (by omega) (fun c38 => ?_) (fun c38 => ?_)
      · refine pr_aload_n dX7_levelIn_91 rfl ?_
        refine pr_iload dX7_levelIn_92 rfl ?_
        refine zcv1i dX7_levelIn_94 pzm_7_101 pzt_X7_isBlock (rH_0 hj) (kX7_isBlock hj hs (by omega) (by omega)) (by decide) (Nat.le_of_ble_eq_true rfl) (by decide) ?_
        refine zr_if_eq (tgt := 110) dX7_levelIn_97 (by decide) (bI_R _) (fun c97 => ?_) (fun c97 => ?_)
        · have c97b := bI_0 c97
          refine zr_iinc dX7_levelIn_110 rfl (by decide) rfl ?_
          refine pr_goto (tgt := 13) dX7_levelIn_113 (by decide) ?_
          have ih2 := ih (some (.int (zI (rgv s (s (18 + 12 * k)) ch))))
          rw [hn] at ih2
          split at ih2 <;> first | exact ih2 | (exfalso; omega) | (split at ih2 <;> first | exact ih2 | (exfalso; omega))
        · have c97b := bI_ne c97
          refine pr_aload_n dX7_levelIn_100 rfl ?_
          refine pr_getf dX7_levelIn_101 pzf_7_9 (rH_0 hj) rfl ?_
          refine zr_bipush dX7_levelIn_104 (by decide) ?_
          refine pr_iload_n dX7_levelIn_106 rfl ?_
          refine zr_iadd dX7_levelIn_107 ?_
          refine zr_iald dX7_levelIn_108 (rH_1 hj) (by omega) (by decide) ?_
          refine pr_istore_n dX7_levelIn_109 (by decide) rfl ?_
          refine zr_iinc dX7_levelIn_110 rfl (by decide) rfl ?_
          refine pr_goto (tgt := 13) dX7_levelIn_113 (by decide) ?_
          have ih2 := ih (some (.int (zI (rgv s (s (18 + 12 * k)) ch))))
          rw [hn] at ih2
          split at ih2 <;> first | exact ih2 | (exfalso; omega) | (split at ih2 <;> first | exact ih2 | (exfalso; omega))
      · refine pr_aload_n dX7_levelIn_41 rfl ?_
        refine pr_getf dX7_levelIn_42 pzf_7_9 (rH_0 hj) rfl ?_
        refine zr_sipush dX7_levelIn_45 (by decide) ?_
        refine zr_iconst dX7_levelIn_48 ?_
        refine pr_iload dX7_levelIn_49 rfl ?_
        refine zr_imul dX7_levelIn_51 ?_
        refine zr_iadd dX7_levelIn_52 ?_
        refine zr_iconst dX7_levelIn_53 ?_
        refine zr_iadd dX7_levelIn_54 ?_
        refine zr_iald dX7_levelIn_55 (rH_1 hj) (by omega) (by decide) ?_
        refine zr_iconst dX7_levelIn_56 ?_
        refine zr_icmp_ne (tgt := 72) dX7_levelIn_57 (by decide) (by first | exact hR _ | omega) (by first | exact hR _ | omega) (fun c57 => ?_) (fun c57 => ?_)
        · refine pr_aload_n dX7_levelIn_72 rfl ?_
          refine pr_getf dX7_levelIn_73 pzf_7_9 (rH_0 hj) rfl ?_
          refine zr_sipush dX7_levelIn_76 (by decide) ?_
          refine zr_iconst dX7_levelIn_79 ?_
          refine pr_iload dX7_levelIn_80 rfl ?_
          refine zr_imul dX7_levelIn_82 ?_
          refine zr_iadd dX7_levelIn_83 ?_
          refine zr_iconst dX7_levelIn_84 ?_
          refine zr_iadd dX7_levelIn_85 ?_
          refine zr_iald dX7_levelIn_86 (rH_1 hj) (by omega) (by decide) ?_
          refine pr_istore_n dX7_levelIn_87 (by decide) rfl ?_
          refine pr_goto (tgt := 110) dX7_levelIn_88 (by decide) ?_
          refine zr_iinc dX7_levelIn_110 rfl (by decide) rfl ?_
          refine pr_goto (tgt := 13) dX7_levelIn_113 (by decide) ?_
          have ih2 := ih (some (.int (zI (rgv s (s (18 + 12 * k)) ch))))
          rw [hn] at ih2
          split at ih2 <;> first | exact ih2 | (exfalso; omega) | (split at ih2 <;> first | exact ih2 | (exfalso; omega))
        · refine pr_aload_n dX7_levelIn_60 rfl ?_
          refine pr_getf dX7_levelIn_61 pzf_7_9 (rH_0 hj) rfl ?_
          refine zr_bipush dX7_levelIn_64 (by decide) ?_
          refine pr_iload_n dX7_levelIn_66 rfl ?_
          refine zr_iadd dX7_levelIn_67 ?_
          refine zr_iald dX7_levelIn_68 (rH_1 hj) (by omega) (by decide) ?_
          refine pr_goto (tgt := 87) dX7_levelIn_69 (by decide) ?_
          refine pr_istore_n dX7_levelIn_87 (by decide) rfl ?_
          refine pr_goto (tgt := 110) dX7_levelIn_88 (by decide) ?_
          refine zr_iinc dX7_levelIn_110 rfl (by decide) rfl ?_
          refine pr_goto (tgt := 13) dX7_levelIn_113 (by decide) ?_
          have ih2 := ih (some (.int (zI (rgv s (s (18 + 12 * k)) ch))))
          rw [hn] at ih2
          split at ih2 <;> first | exact ih2 | (exfalso; omega) | (split at ih2 <;> first | exact ih2 | (exfalso; omega))
  
  refine pr_aload_n dX7_levelIn_0 rfl ?_
  refine pr_getf dX7_levelIn_1 pzf_7_9 (rH_0 hj) rfl ?_
  refine zr_bipush dX7_levelIn_4 (by decide) ?_
  refine pr_iload_n dX7_levelIn_6 rfl ?_
  refine zr_iadd dX7_levelIn_7 ?_
  refine zr_iald dX7_levelIn_8 (rH_1 hj) (by omega) (by decide) ?_
  refine pr_istore_n dX7_levelIn_9 (by decide) rfl ?_
  refine zr_iconst dX7_levelIn_10 ?_
  refine pr_istore dX7_levelIn_11 (by decide) rfl ?_
  exact loop _
end ref
