/-! the class: rows move -/
theorem zr_srow {d : Nat} {en : pz_Env} {C : pz_C} {own : Nat} {cc : ByteArray} {nL : Nat} {rt : Option FieldType} {hh : List (Nat × Nat × Nat × Nat)} {ini : Bool} {Q : pz_Q} {pc : Nat} {ls : List (Option Value)} {st : List Value} {h : pz_H} {nc ns : Nat} {a : Int → Nat} {f : Nat → Option Nat} {X : Int → Int → Int} {i k : Int} (hj : sj a) (hd : decode cc pc = .ok (.aastore, 1)) (h1 : 0 ≤ i) (h2 : i < 12) (k1 : 0 ≤ k) (k2 : k < 12) (kk : pz_WP d en C own cc nL rt hh ini Q (pc + 1) ls st (sH h a (va_up f i.toNat (some (a (7 + 5 * k)))) X) nc ns) : pz_WP d en C own cc nL rt hh ini Q pc ls (.ref (a (7 + 5 * k)) :: .int (zI i) :: .ref (a 2) :: st) (sH h a f X) nc ns :=
  pr_aast hd (sH_2 hj) (Or.inl ⟨rfl, rfl⟩) (sH_C hj k1 k2) (zk ⟨h1, (show i < ((12 : Nat) : Int) by omega)⟩ (by decide)).1 (zk ⟨h1, (show i < ((12 : Nat) : Int) by omega)⟩ (by decide)).2 (sH_fup hj) kk
theorem zr_frow {d : Nat} {en : pz_Env} {C : pz_C} {own : Nat} {cc : ByteArray} {nL : Nat} {rt : Option FieldType} {hh : List (Nat × Nat × Nat × Nat)} {ini : Bool} {Q : pz_Q} {pc : Nat} {ls : List (Option Value)} {st : List Value} {h : pz_H} {nc ns : Nat} {a : Int → Nat} {f : Nat → Option Nat} {X : Int → Int → Int} {i k : Int} (hj : sj a) (hd : decode cc pc = .ok (.aaload, 1)) (h1 : 0 ≤ i) (h2 : i < 12) (hf : f i.toNat = some (a (7 + 5 * k))) (kk : pz_WP d en C own cc nL rt hh ini Q (pc + 1) ls (.ref (a (7 + 5 * k)) :: st) (sH h a f X) nc ns) : pz_WP d en C own cc nL rt hh ini Q pc ls (.int (zI i) :: .ref (a 2) :: st) (sH h a f X) nc ns :=
  pr_aald hd (sH_2 hj) (Or.inl rfl) (zk ⟨h1, (show i < ((12 : Nat) : Int) by omega)⟩ (by decide)).1 (zk ⟨h1, (show i < ((12 : Nat) : Int) by omega)⟩ (by decide)).2 hf kk
/-- the rows in another order -/
def zp (P : Int → Int) (i : Int) : Int := if 7 ≤ i ∧ i < 67 then 7 + 5 * P ((i - 7) / 5) + (i - 7) % 5 else i
def zs {α : Type} (P : Int → Int) (g : Int → α) : Int → α := fun i => g (zp P i)
theorem zp_lo {P : Int → Int} {i : Int} (h : ¬ (7 ≤ i ∧ i < 67)) : zp P i = i := if_neg h
theorem zp_C {P : Int → Int} {k r : Int} (k1 : 0 ≤ k) (k2 : k < 12) (r1 : 0 ≤ r) (r2 : r < 5) : zp P (7 + 5 * k + r) = 7 + 5 * P k + r := by
  unfold zp
  rw [if_pos (by omega), show (7 + 5 * k + r - 7) / 5 = k by omega, show (7 + 5 * k + r - 7) % 5 = r by omega]
theorem zp_C0 {P : Int → Int} {k : Int} (k1 : 0 ≤ k) (k2 : k < 12) : zp P (7 + 5 * k) = 7 + 5 * P k := by
  have := zp_C (P := P) (r := 0) k1 k2 (by decide) (by decide)
  rwa [Int.add_zero, Int.add_zero] at this
def zpI (P R : Int → Int) : Prop := ∀ j : Int, 0 ≤ j → j < 12 → (0 ≤ P j ∧ P j < 12 ∧ R (P j) = j) ∧ (0 ≤ R j ∧ R j < 12 ∧ P (R j) = j)
theorem zp_inv {P R : Int → Int} (hp : zpI P R) {i : Int} (h1 : 0 ≤ i) (h2 : i < 73) : 0 ≤ zp P i ∧ zp P i < 73 ∧ zp R (zp P i) = i := by
  by_cases e : 7 ≤ i ∧ i < 67
  · have hk := (hp ((i - 7) / 5) (by omega) (by omega)).1
    have e2 : i = 7 + 5 * ((i - 7) / 5) + (i - 7) % 5 := by omega
    have e3 : zp P i = 7 + 5 * P ((i - 7) / 5) + (i - 7) % 5 := if_pos e
    rw [e3]
    refine ⟨by omega, by omega, ?_⟩
    rw [zp_C hk.1 hk.2.1 (by omega) (by omega), hk.2.2]
    omega
  · rw [zp_lo e]
    exact ⟨h1, h2, zp_lo e⟩
theorem zpI_sym {P R : Int → Int} (hp : zpI P R) : zpI R P := fun j h1 h2 => ⟨(hp j h1 h2).2, (hp j h1 h2).1⟩
theorem zs_sj {P R : Int → Int} (hp : zpI P R) {a : Int → Nat} (hj : sj a) : sj (zs P a) := fun i j h1 h2 h3 h4 e => by
  have z1 := zp_inv hp h1 h2
  have z2 := zp_inv hp h3 h4
  have := hj _ _ z1.1 z1.2.1 z2.1 z2.2.1 e
  rw [← z1.2.2, this, z2.2.2]
theorem scl_perm {P R : Int → Int} (hp : zpI P R) {a : Int → Nat} {f : Nat → Option Nat} {X : Int → Int → Int} (hf : ∀ k : Nat, f k = if k < 12 then some (a (7 + 5 * P (k : Int))) else none) {i : Int} (h1 : 0 ≤ i) (h2 : i < 73) : scl a f X (zp P i) = scl (zs P a) (sq (zs P a)) (zs P X) i := by
  by_cases e : 7 ≤ i ∧ i < 67
  · obtain ⟨k, r, k1, k2, r1, r2, rfl⟩ : ∃ k r : Int, 0 ≤ k ∧ k < 12 ∧ 0 ≤ r ∧ r < 5 ∧ i = 7 + 5 * k + r := ⟨(i - 7) / 5, (i - 7) % 5, by omega, by omega, by omega, by omega, by omega⟩
    have hk := (hp k k1 k2).1
    rw [zp_C k1 k2 r1 r2]
    rcases (show r = 0 ∨ r = 1 ∨ r = 2 ∨ r = 3 ∨ r = 4 by omega) with rfl | rfl | rfl | rfl | rfl
    · rw [Int.add_zero, Int.add_zero, scl_C hk.1 hk.2.1, scl_C k1 k2]
      unfold zs
      rw [zp_C0 k1 k2, zp_C k1 k2 (by decide) (by decide), zp_C k1 k2 (by decide) (by decide), zp_C k1 k2 (by decide) (by decide), zp_C k1 k2 (by decide) (by decide)]
    · rw [scl_C1 hk.1 hk.2.1, scl_C1 k1 k2]
      unfold zs
      rw [zp_C k1 k2 (by decide) (by decide)]
    · rw [scl_C2 hk.1 hk.2.1, scl_C2 k1 k2]
      unfold zs
      rw [zp_C k1 k2 (by decide) (by decide)]
    · rw [scl_C3 hk.1 hk.2.1, scl_C3 k1 k2]
      unfold zs
      rw [zp_C k1 k2 (by decide) (by decide)]
    · rw [scl_C4 hk.1 hk.2.1, scl_C4 k1 k2]
      unfold zs
      rw [zp_C k1 k2 (by decide) (by decide)]
  · rw [zp_lo e]
    have el : ∀ j : Int, ¬ (7 ≤ j ∧ j < 67) → zs P a j = a j := fun j hj => by unfold zs; rw [zp_lo hj]
    have eX : ∀ j : Int, ¬ (7 ≤ j ∧ j < 67) → zs P X j = X j := fun j hj => by unfold zs; rw [zp_lo hj]
    have ef : sq (zs P a) = f := by
      funext k
      rw [hf k]
      unfold sq
      by_cases q : k < 12
      · rw [if_pos q, if_pos q]
        unfold zs
        rw [zp_C0 (by omega) (by omega)]
      · rw [if_neg q, if_neg q]
    rw [ef]
    unfold scl
    rw [el 1 (by decide), el 67 (by decide), el 2 (by decide), el 3 (by decide), el 4 (by decide), el 5 (by decide), el 6 (by decide), el 68 (by decide), el 69 (by decide), el 70 (by decide), el 71 (by decide), el 72 (by decide), eX 1 (by decide), eX 3 (by decide), eX 4 (by decide), eX 5 (by decide), eX 6 (by decide), eX 67 (by decide), eX i e]
    have e2 : 68 ≤ i ∨ i = 0 ∨ i = 1 ∨ i = 2 ∨ i = 3 ∨ i = 4 ∨ i = 5 ∨ i = 6 ∨ i = 67 := by omega
    rcases e2 with e2 | rfl | rfl | rfl | rfl | rfl | rfl | rfl | rfl
    · rw [if_neg (by omega), if_neg (by omega), if_neg (by omega), if_neg (by omega), if_neg (by omega), if_neg (by omega), if_neg (by omega), if_neg (by omega), if_pos e2, if_neg (by omega), if_neg (by omega), if_neg (by omega), if_neg (by omega), if_neg (by omega), if_neg (by omega), if_neg (by omega), if_neg (by omega), if_pos e2]
    all_goals rfl
theorem sH_perm {P R : Int → Int} (hp : zpI P R) {h : pz_H} {a : Int → Nat} {f : Nat → Option Nat} {X : Int → Int → Int} (hj : sj a) (hf : ∀ k : Nat, f k = if k < 12 then some (a (7 + 5 * P (k : Int))) else none) : sH h a f X = sH h (zs P a) (sq (zs P a)) (zs P X) := by
  apply sH_ext (zs_sj hp hj)
  · intro i h1 h2
    have z := zp_inv hp h1 h2
    show sH h a f X (a (zp P i)) = _
    rw [sH_at hj z.1 z.2.1, scl_perm hp hf h1 h2]
  · intro q hq
    refine sH_out (fun i h1 h2 e => ?_)
    have z := zp_inv (zpI_sym hp) h1 h2
    refine hq (zp R i) z.1 z.2.1 ?_
    show a (zp P (zp R i)) = q
    rw [z.2.2, e]
def pD (i n : Int) : Int → Int := fun j => if i ≤ j ∧ j < n then j + 1 else if j = n then i else j
def pI (i n : Int) : Int → Int := fun j => if i < j ∧ j ≤ n then j - 1 else if j = i then n else j
theorem pD_R {i n j : Int} (i1 : 0 ≤ i) (i2 : i ≤ n) (n2 : n < 12) (j1 : 0 ≤ j) (j2 : j < 12) : 0 ≤ pD i n j ∧ pD i n j < 12 := by
  unfold pD
  repeat' split
  all_goals omega
theorem pI_R {i n j : Int} (i1 : 0 ≤ i) (i2 : i ≤ n) (n2 : n < 12) (j1 : 0 ≤ j) (j2 : j < 12) : 0 ≤ pI i n j ∧ pI i n j < 12 := by
  unfold pI
  repeat' split
  all_goals omega
theorem pID {i n j : Int} (i2 : i ≤ n) : pI i n (pD i n j) = j := by
  unfold pI pD
  repeat' split
  all_goals omega
theorem pDI {i n j : Int} (i2 : i ≤ n) : pD i n (pI i n j) = j := by
  unfold pI pD
  repeat' split
  all_goals omega
theorem zpI_I {i n : Int} (i1 : 0 ≤ i) (i2 : i ≤ n) (n2 : n < 12) : zpI (pI i n) (pD i n) := fun j j1 j2 => ⟨⟨(pI_R i1 i2 n2 j1 j2).1, (pI_R i1 i2 n2 j1 j2).2, pDI i2⟩, (pD_R i1 i2 n2 j1 j2).1, (pD_R i1 i2 n2 j1 j2).2, pID i2⟩
theorem zpI_D {i n : Int} (i1 : 0 ≤ i) (i2 : i ≤ n) (n2 : n < 12) : zpI (pD i n) (pI i n) := zpI_sym (zpI_I i1 i2 n2)
def gI (a : Int → Nat) (n q : Int) : Nat → Option Nat := fun k => if q < (k : Int) ∧ (k : Int) ≤ n then some (a (7 + 5 * ((k : Int) - 1))) else sq a k
theorem gI_0 {a : Int → Nat} {n : Int} : gI a n n = sq a := by
  funext k
  exact if_neg (by omega)
theorem gI_at {a : Int → Nat} {n q k : Int} (h1 : 0 ≤ k) (h2 : k ≤ q) (h3 : k < 12) : gI a n q k.toNat = some (a (7 + 5 * k)) := by
  unfold gI
  rw [if_neg (by omega), sq_at h1 h3]
theorem gI_s {a : Int → Nat} {n q : Int} (h1 : 0 < q) (h2 : q ≤ n) : va_up (gI a n q) q.toNat (some (a (7 + 5 * (q - 1)))) = gI a n (q - 1) := by
  funext k
  unfold va_up gI
  by_cases e : k = q.toNat
  · rw [if_pos e, if_pos (by omega), show ((k : Int) - 1) = q - 1 by omega]
  · rw [if_neg e]
    by_cases e2 : q < (k : Int) ∧ (k : Int) ≤ n
    · rw [if_pos e2, if_pos (by omega)]
    · rw [if_neg e2, if_neg (by omega)]
theorem gI_e {a : Int → Nat} {n q : Int} (h1 : 0 ≤ q) (h2 : q ≤ n) (h3 : n < 12) : ∀ k : Nat, va_up (gI a n q) q.toNat (some (a (7 + 5 * n))) k = if k < 12 then some (a (7 + 5 * pI q n (k : Int))) else none := by
  intro k
  unfold va_up gI pI sq
  by_cases e : k = q.toNat
  · rw [if_pos e, if_pos (by omega), if_neg (by omega), if_pos (by omega)]
  · rw [if_neg e]
    by_cases e2 : q < (k : Int) ∧ (k : Int) ≤ n
    · rw [if_pos e2, if_pos (by omega), if_pos e2]
    · rw [if_neg e2, if_neg e2, if_neg (show ¬ (k : Int) = q by omega)]
def gD (a : Int → Nat) (i q : Int) : Nat → Option Nat := fun k => if i ≤ (k : Int) ∧ (k : Int) < q then some (a (7 + 5 * ((k : Int) + 1))) else sq a k
theorem gD_0 {a : Int → Nat} {i : Int} : gD a i i = sq a := by
  funext k
  exact if_neg (by omega)
theorem gD_at {a : Int → Nat} {i q k : Int} (h1 : 0 ≤ k) (h2 : q ≤ k) (h3 : k < 12) : gD a i q k.toNat = some (a (7 + 5 * k)) := by
  unfold gD
  rw [if_neg (by omega), sq_at h1 h3]
theorem gD_s {a : Int → Nat} {i q : Int} (h0 : 0 ≤ i) (h1 : i ≤ q) : va_up (gD a i q) q.toNat (some (a (7 + 5 * (q + 1)))) = gD a i (q + 1) := by
  funext k
  unfold va_up gD
  by_cases e : k = q.toNat
  · rw [if_pos e, if_pos (by omega), show ((k : Int) + 1) = q + 1 by omega]
  · rw [if_neg e]
    by_cases e2 : i ≤ (k : Int) ∧ (k : Int) < q
    · rw [if_pos e2, if_pos (by omega)]
    · rw [if_neg e2, if_neg (by omega)]
theorem gD_e {a : Int → Nat} {i n : Int} (h1 : 0 ≤ i) (h2 : i ≤ n) (h3 : n < 12) : ∀ k : Nat, va_up (gD a i n) n.toNat (some (a (7 + 5 * i))) k = if k < 12 then some (a (7 + 5 * pD i n (k : Int))) else none := by
  intro k
  unfold va_up gD pD sq
  by_cases e : k = n.toNat
  · rw [if_pos e, if_pos (by omega), if_neg (by omega), if_pos (by omega)]
  · rw [if_neg e]
    by_cases e2 : i ≤ (k : Int) ∧ (k : Int) < n
    · rw [if_pos e2, if_pos (by omega), if_pos e2]
    · rw [if_neg e2, if_neg e2, if_neg (show ¬ (k : Int) = n by omega)]
theorem xnw_ne {X : Int → Int → Int} {k n q : Int} (h : ¬ (7 + 5 * k ≤ q ∧ q ≤ 7 + 5 * k + 4)) : xnw X k n q = X q := by
  funext j
  unfold xnw xnwQ xnwP
  rw [if_neg (by omega), if_neg (by omega), if_neg (by omega), if_neg (by omega)]
def xip (X : Int → Int → Int) (n : Int) : Nat → Int
  | 0 => 0
  | q + 1 => if n < X (7 + 5 * q) 0 then xip X n q else q + 1
theorem xip_s {X : Int → Int → Int} {n q : Int} (h : 0 < q) : xip X n q.toNat = if n < X (7 + 5 * (q - 1)) 0 then xip X n (q - 1).toNat else q := by
  obtain ⟨k, rfl⟩ : ∃ k : Nat, q = (k : Int) + 1 := ⟨(q - 1).toNat, by omega⟩
  rw [show ((k : Int) + 1).toNat = k + 1 by omega, show ((k : Int) + 1 - 1) = k by omega, show ((k : Int)).toNat = k by omega]
  rfl
theorem xip_R {X : Int → Int → Int} {n : Int} : ∀ q : Nat, 0 ≤ xip X n q ∧ xip X n q ≤ q
  | 0 => ⟨Int.le_refl _, Int.le_refl _⟩
  | q + 1 => by
    have := xip_R (X := X) (n := n) q
    unfold xip
    split <;> omega
def xinA (X : Int → Int → Int) (n : Int) : Int → Int → Int := zv (xnw X (X 1 1) n) 1 (zu (X 1) 1 (X 1 1 + 1))
def xin (X : Int → Int → Int) (n q : Int) : Int → Int → Int := zs (pI q (X 1 1)) (xinA X n)
section cls
variable {en : pz_Env} {h : pz_H} {a : Int → Nat} {X : Int → Int → Int}
set_option maxRecDepth 100000 in
set_option maxHeartbeats 4000000 in
theorem kX1_insertCue (hj : sj a) (hX : xB X)  {n : Int} (n1 : zR n) (n2 : X 1 1 < 12) : pz_Cd en 2 26 [.ref (a 1), .int (zI n)] (sH h a (sq a) X) 0 0 (pz_ret (none) (sH h (zs (pI (xip X n (X 1 1).toNat) (X 1 1)) a) (sq (zs (pI (xip X n (X 1 1).toNat) (X 1 1)) a)) (xin X n (xip X n (X 1 1).toNat)))) := by
  refine pz_in pzt_X1_insertCue ?_
  obtain ⟨hR, hn0, hn1, hm0, hm1⟩ := id hX
  have e1 : xnw X (X 1 1) n 1 = X 1 := xnw_ne (by omega)
  have fin : ∀ q : Int, 0 ≤ q → q ≤ X 1 1 → pz_WP 2 en (pz_Cd en (2 - 1)) 1 cX1_insertCue 4 none [] false (pz_ret (none) (sH h (zs (pI q (X 1 1)) a) (sq (zs (pI q (X 1 1)) a)) (xin X n q))) 69 [some (.ref (a 1)), some (.int (zI n)), some (.ref (a (7 + 5 * X 1 1))), some (.int (zI q))] [] (sH h a (gI a (X 1 1) q) (xnw X (X 1 1) n)) 0 0 := by
    intro q q1 q2
    refine pr_aload_n dX1_insertCue_69 rfl ?_
    refine pr_getf dX1_insertCue_70 pzf_1_11 (sH_1 hj) rfl ?_
    refine pr_iload_n dX1_insertCue_73 rfl ?_
    refine pr_aload_n dX1_insertCue_74 rfl ?_
    refine zr_srow (k := X 1 1) hj dX1_insertCue_75 (by omega) (by omega) (by omega) (by omega) ?_
    refine pr_aload_n dX1_insertCue_76 rfl ?_
    refine pr_dup dX1_insertCue_77 rfl ?_
    refine pr_getf dX1_insertCue_78 pzf_1_31 (sH_1 hj) rfl ?_
    refine zr_iconst dX1_insertCue_81 ?_
    rw [e1]
    refine zr_iadd dX1_insertCue_82 ?_
    refine pr_putf dX1_insertCue_83 pzf_1_31 (Or.inl rfl) (sH_1 hj) (Nat.le_of_ble_eq_true rfl) rfl rfl ((sH_p1_1 hj).trans (show _ = (sH h (zs (pI q (X 1 1)) a) (sq (zs (pI q (X 1 1)) a)) (xin X n q)) by rw [e1]; exact sH_perm (zpI_I q1 q2 (by omega)) hj (gI_e q1 q2 (by omega)))) ?_
    exact pr_vret dX1_insertCue_86 rfl (zretv)
  have loop : pz_WP 2 en (pz_Cd en (2 - 1)) 1 cX1_insertCue 4 none [] false (pz_ret (none) (sH h (zs (pI (xip X n ((X 1 1) : Int).toNat) (X 1 1)) a) (sq (zs (pI (xip X n ((X 1 1) : Int).toNat) (X 1 1)) a)) (xin X n (xip X n ((X 1 1) : Int).toNat)))) 30 [some (.ref (a 1)), some (.int (zI n)), some (.ref (a (7 + 5 * X 1 1))), some (.int (zI (X 1 1)))] [] (sH h a (gI a (X 1 1) (X 1 1)) (xnw X (X 1 1) n)) 0 0 := by
    refine zdown (P := fun q => pz_WP 2 en (pz_Cd en (2 - 1)) 1 cX1_insertCue 4 none [] false (pz_ret (none) (sH h (zs (pI (xip X n (q : Int).toNat) (X 1 1)) a) (sq (zs (pI (xip X n (q : Int).toNat) (X 1 1)) a)) (xin X n (xip X n (q : Int).toNat)))) 30 [some (.ref (a 1)), some (.int (zI n)), some (.ref (a (7 + 5 * X 1 1))), some (.int (zI q))] [] (sH h a (gI a (X 1 1) q) (xnw X (X 1 1) n)) 0 0) (lo := 0) (hi := X 1 1) hn0 ?_ ?_
    · skip
      refine pr_iload_n dX1_insertCue_30 rfl ?_
      refine zr_if_le (tgt := 69) dX1_insertCue_31 (by decide) (by decide) (fun c31 => ?_) (fun c31 => absurd (show (0 : Int) ≤ 0 by decide) c31)
      exact fin 0 (Int.le_refl _) hn0
    · intro q hk1 hk2 ih
      rw [xip_s hk1]
      refine pr_iload_n dX1_insertCue_30 rfl ?_
      refine zr_if_le (tgt := 69) dX1_insertCue_31 (by decide) (by first | exact hR _ _ | omega) (fun c31 => by exfalso; omega) (fun c31 => ?_)
      refine pr_aload_n dX1_insertCue_34 rfl ?_
      refine pr_getf dX1_insertCue_35 pzf_1_11 (sH_1 hj) rfl ?_
      refine pr_iload_n dX1_insertCue_38 rfl ?_
      refine zr_iconst dX1_insertCue_39 ?_
      refine zr_isub dX1_insertCue_40 ?_
      refine zr_frow (k := (q - 1)) hj dX1_insertCue_41 (by omega) (by omega) (gI_at (by omega) (by omega) (by omega)) ?_
      refine pr_getf dX1_insertCue_42 pzf_1_48 (sH_C hj (by omega) (by omega)) rfl ?_
      refine pr_iload_n dX1_insertCue_45 rfl ?_
      rw [xnw_ne (show ¬ (7 + 5 * X 1 1 ≤ 7 + 5 * (q - 1) ∧ 7 + 5 * (q - 1) ≤ 7 + 5 * X 1 1 + 4) by omega)]
      refine zr_icmp_le (tgt := 69) dX1_insertCue_46 (by decide) (by first | exact hR _ _ | omega) (by first | exact hR _ _ | omega) (fun c46 => ?_) (fun c46 => ?_)
      · rw [if_neg (by omega)]
        exact fin q (by omega) hk2
      · rw [if_pos (by omega)]
        refine pr_aload_n dX1_insertCue_49 rfl ?_
        refine pr_getf dX1_insertCue_50 pzf_1_11 (sH_1 hj) rfl ?_
        refine pr_iload_n dX1_insertCue_53 rfl ?_
        refine pr_aload_n dX1_insertCue_54 rfl ?_
        refine pr_getf dX1_insertCue_55 pzf_1_11 (sH_1 hj) rfl ?_
        refine pr_iload_n dX1_insertCue_58 rfl ?_
        refine zr_iconst dX1_insertCue_59 ?_
        refine zr_isub dX1_insertCue_60 ?_
        refine zr_frow (k := (q - 1)) hj dX1_insertCue_61 (by omega) (by omega) (gI_at (by omega) (by omega) (by omega)) ?_
        refine zr_srow (k := q - 1) hj dX1_insertCue_62 (by omega) (by omega) (by omega) (by omega) ?_
        rw [gI_s hk1 hk2]
        refine zr_iinc dX1_insertCue_63 rfl (by decide) rfl ?_
        refine pr_goto (tgt := 30) dX1_insertCue_66 (by decide) ?_
        exact ih
  refine pr_aload_n dX1_insertCue_0 rfl ?_
  refine pr_getf dX1_insertCue_1 pzf_1_31 (sH_1 hj) rfl ?_
  refine zr_bipush dX1_insertCue_4 (by decide) ?_
  refine zr_icmp_lt (tgt := 10) dX1_insertCue_6 (by decide) (by first | exact hR _ _ | omega) (by first | exact hR _ _ | omega) (fun c6 => ?_) (fun c6 => by exfalso; omega)
  refine pr_aload_n dX1_insertCue_10 rfl ?_
  refine pr_getf dX1_insertCue_11 pzf_1_11 (sH_1 hj) rfl ?_
  refine pr_aload_n dX1_insertCue_14 rfl ?_
  refine pr_getf dX1_insertCue_15 pzf_1_31 (sH_1 hj) rfl ?_
  refine zr_crow hj dX1_insertCue_18 (by omega) (by omega) ?_
  refine pr_astore_n dX1_insertCue_19 (by decide) rfl ?_
  refine pr_aload_n dX1_insertCue_20 rfl ?_
  refine pr_iload_n dX1_insertCue_21 rfl ?_
  refine zcv1u dX1_insertCue_22 pzm_1_129 pzt_X0_makeNew (sH_C hj (by omega) (by omega)) (kX0_makeNew hj (by omega) (by omega)) (by decide) (Nat.le_of_ble_eq_true rfl) (by decide) ?_
  refine pr_aload_n dX1_insertCue_25 rfl ?_
  refine pr_getf dX1_insertCue_26 pzf_1_31 (sH_1 hj) rfl ?_
  rw [e1]
  refine pr_istore_n dX1_insertCue_29 (by decide) rfl ?_
  rw [← gI_0 (a := a) (n := X 1 1)]
  exact loop
def xdc (X : Int → Int → Int) (i : Int) : Nat → (Int → Int → Int)
  | 0 => X
  | m + 1 => if X (7 + 5 * i + 3) m = -2 then xdc X i m else xde (xdc X i m) i m
theorem xdc_s {X : Int → Int → Int} {i m : Int} (h : 0 ≤ m) : xdc X i (m + 1).toNat = if X (7 + 5 * i + 3) m = -2 then xdc X i m.toNat else xde (xdc X i m.toNat) i m := by
  obtain ⟨k, rfl⟩ : ∃ k : Nat, m = k := ⟨m.toNat, by omega⟩
  rw [show ((k : Int) + 1).toNat = k + 1 by omega]
  rfl
theorem xde_lo {X : Int → Int → Int} {k c q : Int} (h1 : ¬ q = 7 + 5 * k + 3) (h2 : ¬ q = 4) (h3 : ¬ q = 5) (h4 : ¬ q = 1) : xde X k c q = X q := by
  unfold xde
  rw [zv_ne _ _ h4, xdm_lo h1 h2 h3]
theorem xde_tl {X : Int → Int → Int} {k c : Int} (k1 : 0 ≤ k) : xde X k c (7 + 5 * k + 3) = zu (X (7 + 5 * k + 3)) c (-2) := by
  unfold xde xdm
  rw [zv_ne _ _ (by omega), zv_ne _ _ (by omega), zv_ne _ _ (by omega), zv_at]
theorem xdc_lo {X : Int → Int → Int} {i q : Int} (h1 : ¬ q = 7 + 5 * i + 3) (h2 : ¬ q = 4) (h3 : ¬ q = 5) (h4 : ¬ q = 1) : ∀ m : Nat, xdc X i m q = X q
  | 0 => rfl
  | m + 1 => by
    unfold xdc
    split
    · exact xdc_lo h1 h2 h3 h4 m
    · rw [xde_lo h1 h2 h3 h4]; exact xdc_lo h1 h2 h3 h4 m
theorem xdc_tl {X : Int → Int → Int} {i c : Int} (i1 : 0 ≤ i) : ∀ m : Nat, (m : Int) ≤ c → xdc X i m (7 + 5 * i + 3) c = X (7 + 5 * i + 3) c
  | 0, _ => rfl
  | m + 1, h => by
    unfold xdc
    split
    · exact xdc_tl i1 m (by omega)
    · rw [xde_tl i1, zu_ne _ (by omega)]; exact xdc_tl i1 m (by omega)
theorem xdc_B {X : Int → Int → Int} (hX : xB X) {i : Int} (i1 : 0 ≤ i) : ∀ m : Nat, xB (xdc X i m) ∧ xdc X i m 1 1 = X 1 1
  | 0 => ⟨hX, rfl⟩
  | m + 1 => by
    have ih := xdc_B hX i1 m
    unfold xdc
    split
    · exact ih
    · exact ⟨xde_B ih.1 i1, by rw [xde_N]; exact ih.2⟩
def xdA (X : Int → Int → Int) (i : Int) : Int → Int → Int := zv (xdc X i 12) 1 (zu (xdc X i 12 1) 1 (X 1 1 - 1))
def xdD (X : Int → Int → Int) (i : Int) : Int → Int → Int := zs (pD i (X 1 1 - 1)) (xdA X i)
theorem xdA_ne {X : Int → Int → Int} {i q : Int} (h : ¬ q = 1) : xdA X i q = xdc X i 12 q := zv_ne _ _ h
theorem xdA_1 {X : Int → Int → Int} {i : Int} : xdA X i 1 1 = X 1 1 - 1 := by
  unfold xdA
  rw [zv_at, zu_at]
section cls
variable {en : pz_Env} {h : pz_H} {a : Int → Nat} {X : Int → Int → Int}
set_option maxRecDepth 100000 in
set_option maxHeartbeats 4000000 in
theorem kX1_deleteCue (hj : sj a) (hX : xB X)  {i : Int} (i1 : 0 ≤ i) (i2 : i < X 1 1) : pz_Cd en 2 29 [.ref (a 1), .int (zI i)] (sH h a (sq a) X) 0 0 (pz_ret (some (.int (zI (xic X i)))) (sH h (zs (pD i (X 1 1 - 1)) a) (sq (zs (pD i (X 1 1 - 1)) a)) (xdD X i))) := by
  refine pz_in pzt_X1_deleteCue ?_
  obtain ⟨hR, hn0, hn1, hm0, hm1⟩ := id hX
  have loop2 : pz_WP 2 en (pz_Cd en (2 - 1)) 1 cX1_deleteCue 5 (some .int) [] false (pz_ret (some (.int (zI (xic X i)))) (sH h (zs (pD i (X 1 1 - 1)) a) (sq (zs (pD i (X 1 1 - 1)) a)) (xdD X i))) 60 [some (.ref (a 1)), some (.int (zI i)), some (.ref (a (7 + 5 * i))), some (.int (zI (xic X i))), some (.int (zI i))] [] (sH h a (gD a i i) (xdA X i)) 0 0 := by
    refine zup (P := fun q => pz_WP 2 en (pz_Cd en (2 - 1)) 1 cX1_deleteCue 5 (some .int) [] false (pz_ret (some (.int (zI (xic X i)))) (sH h (zs (pD i (X 1 1 - 1)) a) (sq (zs (pD i (X 1 1 - 1)) a)) (xdD X i))) 60 [some (.ref (a 1)), some (.int (zI i)), some (.ref (a (7 + 5 * i))), some (.int (zI (xic X i))), some (.int (zI q))] [] (sH h a (gD a i q) (xdA X i)) 0 0) (lo := i) (hi := X 1 1 - 1) (by omega) ?_ ?_
    · skip
      refine pr_iload dX1_deleteCue_60 rfl ?_
      refine pr_aload_n dX1_deleteCue_62 rfl ?_
      refine pr_getf dX1_deleteCue_63 pzf_1_31 (sH_1 hj) rfl ?_
      rw [xdA_1]
      refine zr_icmp_ge (tgt := 91) dX1_deleteCue_66 (by decide) (by first | exact hR _ _ | omega) (by first | exact hR _ _ | omega) (fun c66 => ?_) (fun c66 => by exfalso; omega)
      refine pr_aload_n dX1_deleteCue_91 rfl ?_
      refine pr_getf dX1_deleteCue_92 pzf_1_11 (sH_1 hj) rfl ?_
      refine pr_aload_n dX1_deleteCue_95 rfl ?_
      refine pr_getf dX1_deleteCue_96 pzf_1_31 (sH_1 hj) rfl ?_
      refine pr_aload_n dX1_deleteCue_99 rfl ?_
      rw [xdA_1]
      refine zr_srow (k := i) hj dX1_deleteCue_100 (by omega) (by omega) (by omega) (by omega) ?_
      rw [sH_perm (zpI_D i1 (by omega) (by omega)) hj (gD_e i1 (by omega) (by omega))]
      refine pr_iload_n dX1_deleteCue_101 rfl ?_
      exact pr_iret dX1_deleteCue_102 rfl rfl (zret (by rfl))
    · intro q hk1 hk2 ih
      refine pr_iload dX1_deleteCue_60 rfl ?_
      refine pr_aload_n dX1_deleteCue_62 rfl ?_
      refine pr_getf dX1_deleteCue_63 pzf_1_31 (sH_1 hj) rfl ?_
      rw [xdA_1]
      refine zr_icmp_ge (tgt := 91) dX1_deleteCue_66 (by decide) (by first | exact hR _ _ | omega) (by first | exact hR _ _ | omega) (fun c66 => by exfalso; omega) (fun c66 => ?_)
      refine pr_aload_n dX1_deleteCue_69 rfl ?_
      refine pr_getf dX1_deleteCue_70 pzf_1_11 (sH_1 hj) rfl ?_
      refine pr_iload dX1_deleteCue_73 rfl ?_
      refine pr_aload_n dX1_deleteCue_75 rfl ?_
      refine pr_getf dX1_deleteCue_76 pzf_1_11 (sH_1 hj) rfl ?_
      refine pr_iload dX1_deleteCue_79 rfl ?_
      refine zr_iconst dX1_deleteCue_81 ?_
      refine zr_iadd dX1_deleteCue_82 ?_
      refine zr_frow (k := q + 1) hj dX1_deleteCue_83 (by omega) (by omega) (gD_at (by omega) (by omega) (by omega)) ?_
      refine zr_srow (k := q + 1) hj dX1_deleteCue_84 (by omega) (by omega) (by omega) (by omega) ?_
      rw [gD_s i1 hk1]
      refine zr_iinc dX1_deleteCue_85 rfl (by decide) rfl ?_
      refine pr_goto (tgt := 60) dX1_deleteCue_88 (by decide) ?_
      exact ih
  have loop1 : pz_WP 2 en (pz_Cd en (2 - 1)) 1 cX1_deleteCue 5 (some .int) [] false (pz_ret (some (.int (zI (xic X i)))) (sH h (zs (pD i (X 1 1 - 1)) a) (sq (zs (pD i (X 1 1 - 1)) a)) (xdD X i))) 12 [some (.ref (a 1)), some (.int (zI i)), some (.ref (a (7 + 5 * i))), some (.int (zI (zsum (fun c => bI (¬ X (7 + 5 * i + 3) c = -2)) (0 : Int).toNat))), some (.int (zI 0))] [] (sH h a (sq a) (xdc X i (0 : Int).toNat)) 0 0 := by
    refine zup (P := fun m => pz_WP 2 en (pz_Cd en (2 - 1)) 1 cX1_deleteCue 5 (some .int) [] false (pz_ret (some (.int (zI (xic X i)))) (sH h (zs (pD i (X 1 1 - 1)) a) (sq (zs (pD i (X 1 1 - 1)) a)) (xdD X i))) 12 [some (.ref (a 1)), some (.int (zI i)), some (.ref (a (7 + 5 * i))), some (.int (zI (zsum (fun c => bI (¬ X (7 + 5 * i + 3) c = -2)) (m : Int).toNat))), some (.int (zI m))] [] (sH h a (sq a) (xdc X i (m : Int).toNat)) 0 0) (lo := 0) (hi := 12) (by decide) ?_ ?_
    · skip
      have hY := xdc_B hX i1 12
      refine pr_iload dX1_deleteCue_12 rfl ?_
      refine zr_bipush dX1_deleteCue_14 (by decide) ?_
      refine zr_icmp_ge (tgt := 47) dX1_deleteCue_16 (by decide) (by first | exact hR _ _ | omega) (by first | exact hR _ _ | omega) (fun c16 => ?_) (fun c16 => by exfalso; omega)
      refine pr_aload_n dX1_deleteCue_47 rfl ?_
      refine pr_dup dX1_deleteCue_48 rfl ?_
      refine pr_getf dX1_deleteCue_49 pzf_1_31 (sH_1 hj) rfl ?_
      refine zr_iconst dX1_deleteCue_52 ?_
      rw [show (12 : Int).toNat = 12 from rfl, hY.2]
      refine zr_isub dX1_deleteCue_53 ?_
      refine pr_putf dX1_deleteCue_54 pzf_1_31 (Or.inl rfl) (sH_1 hj) (Nat.le_of_ble_eq_true rfl) rfl rfl (sH_p1_1 hj) ?_
      refine pr_iload_n dX1_deleteCue_57 rfl ?_
      refine pr_istore dX1_deleteCue_58 (by decide) rfl ?_
      rw [← gD_0 (a := a) (i := i)]
      exact loop2
    · intro m hk1 hk2 ih
      have hY := (xdc_B hX i1 m.toNat).1
      rw [zsum_s hk1, xdc_s hk1] at ih
      refine pr_iload dX1_deleteCue_12 rfl ?_
      refine zr_bipush dX1_deleteCue_14 (by decide) ?_
      refine zr_icmp_ge (tgt := 47) dX1_deleteCue_16 (by decide) (by first | exact hR _ _ | omega) (by first | exact hR _ _ | omega) (fun c16 => by exfalso; omega) (fun c16 => ?_)
      refine pr_aload_n dX1_deleteCue_19 rfl ?_
      refine pr_getf dX1_deleteCue_20 pzf_1_55 (sH_C hj (by omega) (by omega)) rfl ?_
      refine pr_iload dX1_deleteCue_23 rfl ?_
      refine zr_iald dX1_deleteCue_25 (sH_C3 hj (by omega) (by omega)) (by omega) (by decide) ?_
      refine zr_bipush dX1_deleteCue_26 (by decide) ?_
      rw [xdc_tl i1 m.toNat (by omega)]
      refine zr_icmp_eq (tgt := 41) dX1_deleteCue_28 (by decide) (by first | exact hR _ _ | omega) (by first | exact hR _ _ | omega) (fun c28 => ?_) (fun c28 => ?_)
      · rw [show bI (¬ X (7 + 5 * i + 3) m = -2) = 0 from bI_f (fun z => z c28), Int.add_zero, if_pos c28] at ih
        refine zr_iinc dX1_deleteCue_41 rfl (by decide) rfl ?_
        refine pr_goto (tgt := 12) dX1_deleteCue_44 (by decide) ?_
        exact ih
      · rw [show bI (¬ X (7 + 5 * i + 3) m = -2) = 1 from bI_t c28, if_neg c28] at ih
        refine pr_aload_n dX1_deleteCue_31 rfl ?_
        refine pr_iload_n dX1_deleteCue_32 rfl ?_
        refine pr_iload dX1_deleteCue_33 rfl ?_
        refine zcv2u dX1_deleteCue_35 pzm_1_125 pzt_X1_deleteInstruction (sH_1 hj) (kX1_deleteInstruction hj hY (by omega) (by omega) (by omega) (by omega)) (by decide) (Nat.le_of_ble_eq_true rfl) (by decide) ?_
        refine zr_iinc dX1_deleteCue_38 rfl (by decide) rfl ?_
        refine zr_iinc dX1_deleteCue_41 rfl (by decide) rfl ?_
        refine pr_goto (tgt := 12) dX1_deleteCue_44 (by decide) ?_
        exact ih
  refine pr_aload_n dX1_deleteCue_0 rfl ?_
  refine pr_getf dX1_deleteCue_1 pzf_1_11 (sH_1 hj) rfl ?_
  refine pr_iload_n dX1_deleteCue_4 rfl ?_
  refine zr_crow hj dX1_deleteCue_5 (by omega) (by omega) ?_
  refine pr_astore_n dX1_deleteCue_6 (by decide) rfl ?_
  refine zr_iconst dX1_deleteCue_7 ?_
  refine pr_istore_n dX1_deleteCue_8 (by decide) rfl ?_
  refine zr_iconst dX1_deleteCue_9 ?_
  refine pr_istore dX1_deleteCue_10 (by decide) rfl ?_
  exact loop1
end cls
end cls
