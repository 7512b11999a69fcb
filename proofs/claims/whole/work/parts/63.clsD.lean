/-! the class: its top cells beside a show; the history -/
def tD (t a : Int → Nat) : Prop := ∀ i j : Int, 0 ≤ i → i < 6 → 0 ≤ j → j < 73 → ¬ t i = a j
theorem sH_vup {g : pz_H} {a : Int → Nat} {f : Nat → Option Nat} {X : Int → Int → Int} {q : Nat} {e : Option pz_E} (hj : sj a) (hq : ∀ i : Int, 0 ≤ i → i < 73 → ¬ a i = q) : va_up (sH g a f X) q e = sH (va_up g q e) a f X := by
  apply sH_ext hj
  · intro i h1 h2
    unfold va_up
    rw [if_neg (hq i h1 h2), sH_at hj h1 h2]
  · intro r hr
    unfold va_up
    by_cases e2 : r = q
    · rw [if_pos e2, if_pos e2]
    · rw [if_neg e2, if_neg e2, sH_out hr]
theorem sH_id {g : pz_H} {a : Int → Nat} {X : Int → Int → Int} (hj : sj a) (h : ∀ i : Int, 0 ≤ i → i < 73 → g (a i) = some (scl a (sq a) X i)) : sH g a (sq a) X = g := (sH_ext hj h (fun _ _ => rfl)).symm
theorem sH_sH {g : pz_H} {a : Int → Nat} {f f2 : Nat → Option Nat} {X Y : Int → Int → Int} (hj : sj a) : sH (sH g a f X) a f2 Y = sH g a f2 Y := by
  apply sH_ext hj
  · intro i h1 h2; exact sH_at hj h1 h2
  · intro r hr; rw [sH_out hr, sH_out hr]
theorem sH_swap {g : pz_H} {a b : Int → Nat} {f f2 : Nat → Option Nat} {X Y : Int → Int → Int} (hj : sj a) (hb : sj b) (hab : ∀ i j : Int, 0 ≤ i → i < 73 → 0 ≤ j → j < 73 → ¬ a i = b j) : sH (sH g a f X) b f2 Y = sH (sH g b f2 Y) a f X := by
  apply sH_ext hj
  · intro i h1 h2
    rw [sH_out (fun j g1 g2 e => hab i j h1 h2 g1 g2 e.symm), sH_at hj h1 h2]
  · intro r hr
    by_cases e : ∃ j : Int, 0 ≤ j ∧ j < 73 ∧ b j = r
    · obtain ⟨j, g1, g2, rfl⟩ := e
      rw [sH_at hb g1 g2, sH_at hb g1 g2]
    · have h2 : ∀ j : Int, 0 ≤ j → j < 73 → ¬ b j = r := fun j g1 g2 z => e ⟨j, g1, g2, z⟩
      rw [sH_out h2, sH_out h2, sH_out hr]
theorem tH_swap {g : pz_H} {t u b : Int → Nat} {K : Int → Int → Int} {f2 : Nat → Option Nat} {Y : Int → Int → Int} (ht : tj t) (hb : sj b) (hd : tD t b) : sH (tH g t u K) b f2 Y = tH (sH g b f2 Y) t u K := by
  apply tH_ext ht
  · intro i h1 h2
    rw [sH_out (fun j g1 g2 e => hd i j h1 h2 g1 g2 e.symm), tH_at ht h1 h2]
  · intro r hr
    by_cases e : ∃ j : Int, 0 ≤ j ∧ j < 73 ∧ b j = r
    · obtain ⟨j, g1, g2, rfl⟩ := e
      rw [sH_at hb g1 g2, sH_at hb g1 g2]
    · have h2 : ∀ j : Int, 0 ≤ j → j < 73 → ¬ b j = r := fun j g1 g2 z => e ⟨j, g1, g2, z⟩
      rw [sH_out h2, sH_out h2, tH_out hr]
/-- a show b that stands in the rest -/
def bO (h : pz_H) (t a b : Int → Nat) (Y : Int → Int → Int) : Prop := sj b ∧ tD t b ∧ (∀ i j : Int, 0 ≤ i → i < 73 → 0 ≤ j → j < 73 → ¬ a i = b j) ∧ (∀ j : Int, 0 ≤ j → j < 73 → h (b j) = some (scl b (sq b) Y j))
theorem bO_t {h : pz_H} {t u a b : Int → Nat} {K Y : Int → Int → Int} (hb : bO h t a b Y) : ∀ j : Int, 0 ≤ j → j < 73 → tH h t u K (b j) = some (scl b (sq b) Y j) := fun j h1 h2 => by
  rw [tH_out (fun i g1 g2 e => hb.2.1 i j g1 g2 h1 h2 e)]
  exact hb.2.2.2 j h1 h2
theorem bO_sO {h : pz_H} {t u a b : Int → Nat} {K Y : Int → Int → Int} (hb : bO h t a b Y) : sO (tH h t u K) a b Y := ⟨hb.2.2.1, bO_t hb⟩
section clsg
variable {h : pz_H} {t u a : Int → Nat} {f : Nat → Option Nat} {K X : Int → Int → Int}
theorem gH_at (ht : tj t) (hd : tD t a) {i : Int} (h1 : 0 ≤ i) (h2 : i < 6) : sH (tH h t u K) a f X (t i) = some (tcl t u K i) := by
  rw [sH_out (fun j g1 g2 e => hd i j h1 h2 g1 g2 e.symm), tH_at ht h1 h2]
theorem gH_up (hj : sj a) (ht : tj t) (hd : tD t a) {i : Int} {g : Int → Int} {e : pz_E} (h1 : 0 ≤ i) (h2 : i < 6) (he : e = tcl t u (zv K i g) i) : va_up (sH (tH h t u K) a f X) (t i) (some e) = sH (tH h t u (zv K i g)) a f X := by
  rw [sH_vup hj (fun j g1 g2 e => hd i j h1 h2 g1 g2 e.symm), tH_up ht h1 h2 he]
theorem gH_0 (ht : tj t) (hd : tD t a) : sH (tH h t u K) a f X (t 0) = some (.inr (6, [.ref (u 0), .ref (u 1), .ref (t 1), .ref (t 3), .int (zI (K 0 4)), .int (zI (K 0 5)), .int (zI (K 0 6))]) : pz_E) := gH_at ht hd (by decide) (by decide)
theorem gH_1 (ht : tj t) (hd : tD t a) : sH (tH h t u K) a f X (t 1) = some (.inr (2, [.ref (t 2), .int (zI (K 1 1)), .int (zI (K 1 2))]) : pz_E) := gH_at ht hd (by decide) (by decide)
theorem gH_2 (ht : tj t) (hd : tD t a) : sH (tH h t u K) a f X (t 2) = some (.inl (4, 7, .inr (.inr (.inr (.inr (fun k => if k < 7 then some (u (2 + (k : Int))) else none))))) : pz_E) := gH_at ht hd (by decide) (by decide)
theorem gH_3 (ht : tj t) (hd : tD t a) : sH (tH h t u K) a f X (t 3) = some (.inr (3, [.ref (t 4), .int (zI (K 3 1)), .int (zI (K 3 2)), .int (zI (K 3 3)), .ref (t 5)]) : pz_E) := gH_at ht hd (by decide) (by decide)
theorem gH_4 (ht : tj t) (hd : tD t a) : sH (tH h t u K) a f X (t 4) = some (.inl (1, 60, .inl (zf (K 4))) : pz_E) := gH_at ht hd (by decide) (by decide)
theorem gH_5 (ht : tj t) (hd : tD t a) : sH (tH h t u K) a f X (t 5) = some (.inl (0, 3, .inl (zf (K 5))) : pz_E) := gH_at ht hd (by decide) (by decide)
theorem gH_p0_4 (hj : sj a) (ht : tj t) (hd : tD t a) {v : Int} : va_up (sH (tH h t u K) a f X) (t 0) (some (.inr (6, ([.ref (u 0), .ref (u 1), .ref (t 1), .ref (t 3), .int (zI (K 0 4)), .int (zI (K 0 5)), .int (zI (K 0 6))] : List Value).set 4 (.int (zI v))))) = sH (tH h t u (zv K 0 (zu (K 0) 4 v))) a f X := gH_up hj ht hd (by decide) (by decide) rfl
theorem gH_p0_5 (hj : sj a) (ht : tj t) (hd : tD t a) {v : Int} : va_up (sH (tH h t u K) a f X) (t 0) (some (.inr (6, ([.ref (u 0), .ref (u 1), .ref (t 1), .ref (t 3), .int (zI (K 0 4)), .int (zI (K 0 5)), .int (zI (K 0 6))] : List Value).set 5 (.int (zI v))))) = sH (tH h t u (zv K 0 (zu (K 0) 5 v))) a f X := gH_up hj ht hd (by decide) (by decide) rfl
theorem gH_p0_6 (hj : sj a) (ht : tj t) (hd : tD t a) {v : Int} : va_up (sH (tH h t u K) a f X) (t 0) (some (.inr (6, ([.ref (u 0), .ref (u 1), .ref (t 1), .ref (t 3), .int (zI (K 0 4)), .int (zI (K 0 5)), .int (zI (K 0 6))] : List Value).set 6 (.int (zI v))))) = sH (tH h t u (zv K 0 (zu (K 0) 6 v))) a f X := gH_up hj ht hd (by decide) (by decide) rfl
theorem gH_p1_1 (hj : sj a) (ht : tj t) (hd : tD t a) {v : Int} : va_up (sH (tH h t u K) a f X) (t 1) (some (.inr (2, ([.ref (t 2), .int (zI (K 1 1)), .int (zI (K 1 2))] : List Value).set 1 (.int (zI v))))) = sH (tH h t u (zv K 1 (zu (K 1) 1 v))) a f X := gH_up hj ht hd (by decide) (by decide) rfl
theorem gH_p1_2 (hj : sj a) (ht : tj t) (hd : tD t a) {v : Int} : va_up (sH (tH h t u K) a f X) (t 1) (some (.inr (2, ([.ref (t 2), .int (zI (K 1 1)), .int (zI (K 1 2))] : List Value).set 2 (.int (zI v))))) = sH (tH h t u (zv K 1 (zu (K 1) 2 v))) a f X := gH_up hj ht hd (by decide) (by decide) rfl
theorem gH_p3_1 (hj : sj a) (ht : tj t) (hd : tD t a) {v : Int} : va_up (sH (tH h t u K) a f X) (t 3) (some (.inr (3, ([.ref (t 4), .int (zI (K 3 1)), .int (zI (K 3 2)), .int (zI (K 3 3)), .ref (t 5)] : List Value).set 1 (.int (zI v))))) = sH (tH h t u (zv K 3 (zu (K 3) 1 v))) a f X := gH_up hj ht hd (by decide) (by decide) rfl
theorem gH_p3_2 (hj : sj a) (ht : tj t) (hd : tD t a) {v : Int} : va_up (sH (tH h t u K) a f X) (t 3) (some (.inr (3, ([.ref (t 4), .int (zI (K 3 1)), .int (zI (K 3 2)), .int (zI (K 3 3)), .ref (t 5)] : List Value).set 2 (.int (zI v))))) = sH (tH h t u (zv K 3 (zu (K 3) 2 v))) a f X := gH_up hj ht hd (by decide) (by decide) rfl
theorem gH_p3_3 (hj : sj a) (ht : tj t) (hd : tD t a) {v : Int} : va_up (sH (tH h t u K) a f X) (t 3) (some (.inr (3, ([.ref (t 4), .int (zI (K 3 1)), .int (zI (K 3 2)), .int (zI (K 3 3)), .ref (t 5)] : List Value).set 3 (.int (zI v))))) = sH (tH h t u (zv K 3 (zu (K 3) 3 v))) a f X := gH_up hj ht hd (by decide) (by decide) rfl
theorem gH_u4 (hj : sj a) (ht : tj t) (hd : tD t a) {g : Int → Int} : va_up (sH (tH h t u K) a f X) (t 4) (some (.inl (1, 60, .inl (zf g)))) = sH (tH h t u (zv K 4 g)) a f X := gH_up hj ht hd (by decide) (by decide) rfl
theorem gH_u5 (hj : sj a) (ht : tj t) (hd : tD t a) {g : Int → Int} : va_up (sH (tH h t u K) a f X) (t 5) (some (.inl (0, 3, .inl (zf g)))) = sH (tH h t u (zv K 5 g)) a f X := gH_up hj ht hd (by decide) (by decide) rfl
end clsg
theorem zr_irem {d : Nat} {en : pz_Env} {C : pz_C} {own : Nat} {cc : ByteArray} {nL : Nat} {rt : Option FieldType} {hh : List (Nat × Nat × Nat × Nat)} {ini : Bool} {Q : pz_Q} {pc : Nat} {ls : List (Option Value)} {st : List Value} {h : pz_H} {nc ns : Nat} {x y : Int} (hd : decode cc pc = .ok (.irem, 1)) (hx : 0 ≤ x ∧ x < 1000000) (hy : 0 < y ∧ y < 1000000) (k : pz_WP d en C own cc nL rt hh ini Q (pc + 1) ls (.int (zI (x % y)) :: st) h nc ns) : pz_WP d en C own cc nL rt hh ini Q pc ls (.int (zI y) :: .int (zI x) :: st) h nc ns := by
  refine pr_irem hd (fun e => ?_) ?_
  · have := congrArg Int32.toInt e
    rw [zI_toInt ⟨by omega, by omega⟩] at this
    have z : (0 : Int32).toInt = 0 := rfl
    omega
  · rw [zI_div ⟨by omega, by omega⟩ (by omega) hy.1 ⟨by omega, by omega⟩, zI_mul, zI_sub]
    rw [show x - x.tdiv y * y = x % y by rw [Int.tdiv_eq_ediv_of_nonneg hx.1, Int.mul_comm, Int.emod_def]]
    exact k
def kR (K : Int → Int → Int) : Int → Int → Int := zv K 1 (zu (zu (K 1) 1 ((K 1 1 + 1) % 7)) 2 (if 6 < K 1 2 + 1 then 6 else K 1 2 + 1))
def kT (K : Int → Int → Int) : Int → Int → Int := zv K 1 (zu (zu (K 1) 1 ((K 1 1 + 7 - 1) % 7)) 2 (K 1 2 - 1))
def kF (K : Int → Int → Int) : Int → Int → Int := zv K 1 (zu (K 1) 2 0)
theorem zr_hrow {d : Nat} {en : pz_Env} {C : pz_C} {own : Nat} {cc : ByteArray} {nL : Nat} {rt : Option FieldType} {hh : List (Nat × Nat × Nat × Nat)} {ini : Bool} {Q : pz_Q} {pc : Nat} {ls : List (Option Value)} {st : List Value} {h : pz_H} {nc ns : Nat} {t u a : Int → Nat} {f : Nat → Option Nat} {K X : Int → Int → Int} {i : Int} (ht : tj t) (hd0 : tD t a) (hd : decode cc pc = .ok (.aaload, 1)) (h1 : 0 ≤ i) (h2 : i < 7) (kk : pz_WP d en C own cc nL rt hh ini Q (pc + 1) ls (.ref (u (2 + i)) :: st) (sH (tH h t u K) a f X) nc ns) : pz_WP d en C own cc nL rt hh ini Q pc ls (.int (zI i) :: .ref (t 2) :: st) (sH (tH h t u K) a f X) nc ns :=
  pr_aald hd (gH_2 ht hd0) (Or.inr rfl) (zk ⟨h1, (show i < ((7 : Nat) : Int) by omega)⟩ (by decide)).1 (zk ⟨h1, (show i < ((7 : Nat) : Int) by omega)⟩ (by decide)).2 (by rw [if_pos (by omega), show ((i.toNat : Nat) : Int) = i by omega]) kk
section cls
variable {en : pz_Env} {h : pz_H} {t u a b : Int → Nat} {K X Y : Int → Int → Int}
theorem prep_eq (hj : sj a) (ht : tj t) (hd : tD t a) (hb : bO h t a b Y) {Z : Int → Int → Int} : sH (sH (tH h t u K) a (sq a) X) b (sq b) Z = (sH (tH (sH h b (sq b) Z) t u K) a (sq a) X) := by
  rw [sH_swap hj hb.1 hb.2.2.1, tH_swap ht hb.1 hb.2.1]
set_option maxRecDepth 100000 in
set_option maxHeartbeats 4000000 in
theorem kX2_prepare (hj : sj a) (ht : tj t) (hd : tD t a) (hI : xI X) (hb : bO h t a b Y) (hub : u (2 + K 1 1) = b 0) (f0 : 0 ≤ K 1 1) (f1 : K 1 1 < 7) : pz_Cd en 4 43 [.ref (t 1), .ref (a 0)] (sH (tH h t u K) a (sq a) X) 0 0 (pz_ret (none) (sH (tH (sH h b (sq b) (xcp Y X)) t u K) a (sq a) X)) := by
  refine pz_in pzt_X2_prepare ?_
  refine pr_aload_n dX2_prepare_0 rfl ?_
  refine pr_getf dX2_prepare_1 pzf_2_13 (gH_1 ht hd) rfl ?_
  refine pr_aload_n dX2_prepare_4 rfl ?_
  refine pr_getf dX2_prepare_5 pzf_2_25 (gH_1 ht hd) rfl ?_
  refine zr_hrow ht hd dX2_prepare_8 (by omega) (by omega) ?_
  refine pr_aload_n dX2_prepare_9 rfl ?_
  rw [hub]
  have e0 : (sH (tH h t u K) a (sq a) X) = sH (sH (tH h t u K) a (sq a) X) b (sq b) Y := by rw [prep_eq hj ht hd hb, sH_id hb.1 hb.2.2.2]
  rw [e0]
  refine zcv1u dX2_prepare_10 pzm_2_29 pzt_X5_copyFrom (sH_0 hb.1) (kX5_copyFrom hb.1 ⟨fun i j g1 g2 g3 g4 e => hb.2.2.1 j i g3 g4 g1 g2 e.symm, fun j g1 g2 => sH_at hj g1 g2⟩ hI.1.2.1 hI.1.2.2.1 (fun k g1 g2 => ⟨(hI.2.1 k g1 g2).2.2.1, (hI.2.1 k g1 g2).2.2.2⟩)) (by decide) (Nat.le_of_ble_eq_true rfl) (by decide) ?_
  rw [prep_eq hj ht hd hb]
  exact pr_vret dX2_prepare_13 rfl (zretv)
set_option maxRecDepth 100000 in
set_option maxHeartbeats 4000000 in
theorem kX2_takePrepared (hj : sj a) (ht : tj t) (hd : tD t a) (hb : bO h t a b Y) (hI : xI Y) (hub : u (2 + K 1 1) = b 0) (f0 : 0 ≤ K 1 1) (f1 : K 1 1 < 7) : pz_Cd en 4 44 [.ref (t 1), .ref (a 0)] (sH (tH h t u K) a (sq a) X) 0 0 (pz_ret (none) (sH (tH h t u K) a (sq a) (xcp X Y))) := by
  refine pz_in pzt_X2_takePrepared ?_
  refine pr_aload_n dX2_takePrepared_0 rfl ?_
  refine pr_aload_n dX2_takePrepared_1 rfl ?_
  refine pr_getf dX2_takePrepared_2 pzf_2_13 (gH_1 ht hd) rfl ?_
  refine pr_aload_n dX2_takePrepared_5 rfl ?_
  refine pr_getf dX2_takePrepared_6 pzf_2_25 (gH_1 ht hd) rfl ?_
  refine zr_hrow ht hd dX2_takePrepared_9 (by omega) (by omega) ?_
  rw [hub]
  refine zcv1u dX2_takePrepared_10 pzm_2_29 pzt_X5_copyFrom (sH_0 hj) (kX5_copyFrom hj (bO_sO hb) hI.1.2.1 hI.1.2.2.1 (fun k g1 g2 => ⟨(hI.2.1 k g1 g2).2.2.1, (hI.2.1 k g1 g2).2.2.2⟩)) (by decide) (Nat.le_of_ble_eq_true rfl) (by decide) ?_
  exact pr_vret dX2_takePrepared_13 rfl (zretv)
theorem kR_e {K : Int → Int → Int} {v x : Int} : zv (zv K 1 (zu (K 1) 1 v)) 1 (zu (zu (K 1) 1 v) 2 x) = zv K 1 (zu (zu (K 1) 1 v) 2 x) := zv_zv _ _ _ _
set_option maxRecDepth 100000 in
set_option maxHeartbeats 4000000 in
theorem kX2_countPrepared (hj : sj a) (ht : tj t) (hd : tD t a) (f0 : 0 ≤ K 1 1) (f1 : K 1 1 < 7) (r0 : 0 ≤ K 1 2) (r1 : K 1 2 ≤ 6) : pz_Cd en 3 45 [.ref (t 1)] (sH (tH h t u K) a (sq a) X) 0 0 (pz_ret (none) (sH (tH h t u (kR K)) a (sq a) X)) := by
  refine pz_in pzt_X2_countPrepared ?_
  refine pr_aload_n dX2_countPrepared_0 rfl ?_
  refine pr_aload_n dX2_countPrepared_1 rfl ?_
  refine pr_getf dX2_countPrepared_2 pzf_2_25 (gH_1 ht hd) rfl ?_
  refine zr_iconst dX2_countPrepared_5 ?_
  refine zr_iadd dX2_countPrepared_6 ?_
  refine zr_bipush dX2_countPrepared_7 (by decide) ?_
  refine zr_irem dX2_countPrepared_9 (by omega) (by decide) ?_
  refine pr_putf dX2_countPrepared_10 pzf_2_25 (Or.inl rfl) (gH_1 ht hd) (Nat.le_of_ble_eq_true rfl) rfl rfl (gH_p1_1 hj ht hd) ?_
  refine pr_aload_n dX2_countPrepared_13 rfl ?_
  refine pr_aload_n dX2_countPrepared_14 rfl ?_
  refine pr_getf dX2_countPrepared_15 pzf_2_32 (gH_1 ht hd) rfl ?_
  rw [zv_at, zu_ne _ (show ¬ (2 : Int) = 1 by decide)]
  refine zr_iconst dX2_countPrepared_18 ?_
  refine zr_iadd dX2_countPrepared_19 ?_
  refine zr_bipush dX2_countPrepared_20 (by decide) ?_
  refine zr_min dX2_countPrepared_22 pzx_2_35 (by decide) (Nat.le_of_ble_eq_true rfl) (by omega) (by omega) ?_
  refine pr_putf dX2_countPrepared_25 pzf_2_32 (Or.inl rfl) (gH_1 ht hd) (Nat.le_of_ble_eq_true rfl) rfl rfl ((gH_p1_2 hj ht hd).trans (by rw [zv_zv, zv_at] <;> rfl)) ?_
  exact pr_vret dX2_countPrepared_28 rfl (zretv)
set_option maxRecDepth 100000 in
set_option maxHeartbeats 4000000 in
theorem kX2_remember (hj : sj a) (ht : tj t) (hd : tD t a) (hI : xI X) (hb : bO h t a b Y) (hub : u (2 + K 1 1) = b 0) (f0 : 0 ≤ K 1 1) (f1 : K 1 1 < 7) (r0 : 0 ≤ K 1 2) (r1 : K 1 2 ≤ 6) : pz_Cd en 5 42 [.ref (t 1), .ref (a 0)] (sH (tH h t u K) a (sq a) X) 0 0 (pz_ret (none) (sH (tH (sH h b (sq b) (xcp Y X)) t u (kR K)) a (sq a) X)) := by
  refine pz_in pzt_X2_remember ?_
  refine pr_aload_n dX2_remember_0 rfl ?_
  refine pr_aload_n dX2_remember_1 rfl ?_
  refine zcv1u dX2_remember_2 pzm_2_18 pzt_X2_prepare (gH_1 ht hd) (kX2_prepare hj ht hd hI hb hub f0 f1) (by decide) (Nat.le_of_ble_eq_true rfl) (by decide) ?_
  refine pr_aload_n dX2_remember_5 rfl ?_
  refine zcv0u dX2_remember_6 pzm_2_22 pzt_X2_countPrepared (gH_1 ht hd) (kX2_countPrepared hj ht hd f0 f1 r0 r1) (by decide) (Nat.le_of_ble_eq_true rfl) (by decide) ?_
  exact pr_vret dX2_remember_9 rfl (zretv)
set_option maxRecDepth 100000 in
set_option maxHeartbeats 4000000 in
theorem kX2_forgetAll (hj : sj a) (ht : tj t) (hd : tD t a)  : pz_Cd en 1 47 [.ref (t 1)] (sH (tH h t u K) a (sq a) X) 0 0 (pz_ret (none) (sH (tH h t u (kF K)) a (sq a) X)) := by
  refine pz_in pzt_X2_forgetAll ?_
  refine pr_aload_n dX2_forgetAll_0 rfl ?_
  refine zr_iconst dX2_forgetAll_1 ?_
  refine pr_putf dX2_forgetAll_2 pzf_2_32 (Or.inl rfl) (gH_1 ht hd) (Nat.le_of_ble_eq_true rfl) rfl rfl (gH_p1_2 hj ht hd) ?_
  exact pr_vret dX2_forgetAll_5 rfl (zretv)
set_option maxRecDepth 100000 in
set_option maxHeartbeats 4000000 in
theorem kX2_takeLatest (hj : sj a) (ht : tj t) (hd : tD t a) (hb : bO h t a b Y) (hI : xI Y) (f0 : 0 ≤ K 1 1) (f1 : K 1 1 < 7) (hub : u (2 + (K 1 1 + 7 - 1) % 7) = b 0) : pz_Cd en 4 46 [.ref (t 1), .ref (a 0)] (sH (tH h t u K) a (sq a) X) 0 0 (pz_ret (none) (sH (tH h t u (kT K)) a (sq a) (xcp X Y))) := by
  refine pz_in pzt_X2_takeLatest ?_
  refine pr_aload_n dX2_takeLatest_0 rfl ?_
  refine pr_aload_n dX2_takeLatest_1 rfl ?_
  refine pr_getf dX2_takeLatest_2 pzf_2_25 (gH_1 ht hd) rfl ?_
  refine zr_bipush dX2_takeLatest_5 (by decide) ?_
  refine zr_iadd dX2_takeLatest_7 ?_
  refine zr_iconst dX2_takeLatest_8 ?_
  refine zr_isub dX2_takeLatest_9 ?_
  refine zr_bipush dX2_takeLatest_10 (by decide) ?_
  refine zr_irem dX2_takeLatest_12 (by omega) (by decide) ?_
  refine pr_putf dX2_takeLatest_13 pzf_2_25 (Or.inl rfl) (gH_1 ht hd) (Nat.le_of_ble_eq_true rfl) rfl rfl (gH_p1_1 hj ht hd) ?_
  refine pr_aload_n dX2_takeLatest_16 rfl ?_
  refine pr_dup dX2_takeLatest_17 rfl ?_
  refine pr_getf dX2_takeLatest_18 pzf_2_32 (gH_1 ht hd) rfl ?_
  rw [zv_at, zu_ne _ (show ¬ (2 : Int) = 1 by decide)]
  refine zr_iconst dX2_takeLatest_21 ?_
  refine zr_isub dX2_takeLatest_22 ?_
  refine pr_putf dX2_takeLatest_23 pzf_2_32 (Or.inl rfl) (gH_1 ht hd) (Nat.le_of_ble_eq_true rfl) rfl rfl ((gH_p1_2 hj ht hd).trans (show _ = (sH (tH h t u (kT K)) a (sq a) X) by rw [zv_zv, zv_at] <;> rfl)) ?_
  refine pr_aload_n dX2_takeLatest_26 rfl ?_
  refine pr_aload_n dX2_takeLatest_27 rfl ?_
  refine pr_getf dX2_takeLatest_28 pzf_2_13 (gH_1 ht hd) rfl ?_
  refine pr_aload_n dX2_takeLatest_31 rfl ?_
  refine pr_getf dX2_takeLatest_32 pzf_2_25 (gH_1 ht hd) rfl ?_
  rw [show kT K 1 1 = (K 1 1 + 7 - 1) % 7 from rfl]
  refine zr_hrow ht hd dX2_takeLatest_35 (by omega) (by omega) ?_
  rw [hub]
  refine zcv1u dX2_takeLatest_36 pzm_2_29 pzt_X5_copyFrom (sH_0 hj) (kX5_copyFrom hj (bO_sO hb) hI.1.2.1 hI.1.2.2.1 (fun k g1 g2 => ⟨(hI.2.1 k g1 g2).2.2.1, (hI.2.1 k g1 g2).2.2.2⟩)) (by decide) (Nat.le_of_ble_eq_true rfl) (by decide) ?_
  exact pr_vret dX2_takeLatest_39 rfl (zretv)
end cls
