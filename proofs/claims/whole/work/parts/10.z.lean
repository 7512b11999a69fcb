/-! whole numbers in the pure machine: a value is zI of an Int; heaps as overlays -/
abbrev zR (z : Int) : Prop := -2147483648 ≤ z ∧ z < 2147483648
def zI (z : Int) : Int32 := Int32.ofInt z
theorem zI_toInt {z : Int} (h : zR z) : (zI z).toInt = z := by
  unfold zI
  rw [Int32.toInt_ofInt]
  have hs : ((Int32.size : Nat) : Int) = 4294967296 := rfl
  exact Int.bmod_eq_of_le (by omega) (by omega)
theorem zI_of (x : Int32) : zI x.toInt = x := Int32.ofInt_toInt x
theorem zI_range (x : Int32) : zR x.toInt := ⟨Int32.le_toInt x, Int32.toInt_lt x⟩
theorem zI_add (a b : Int) : zI a + zI b = zI (a + b) := (Int32.ofInt_add a b).symm
theorem zI_sub (a b : Int) : zI a - zI b = zI (a - b) := (Int32.ofInt_sub a b).symm
theorem zI_mul (a b : Int) : zI a * zI b = zI (a * b) := (Int32.ofInt_mul a b).symm
theorem zI_neg (a : Int) : -zI a = zI (-a) := (Int32.ofInt_neg a).symm
theorem zI_inj {a b : Int} (ha : zR a) (hb : zR b) : zI a = zI b ↔ a = b := by
  constructor
  · intro h
    have h2 := congrArg Int32.toInt h
    rwa [zI_toInt ha, zI_toInt hb] at h2
  · intro h; rw [h]
theorem zI_lt {a b : Int} (ha : zR a) (hb : zR b) : zI a < zI b ↔ a < b := by
  rw [Int32.lt_iff_toInt_lt, zI_toInt ha, zI_toInt hb]
theorem zI_le {a b : Int} (ha : zR a) (hb : zR b) : zI a ≤ zI b ↔ a ≤ b := by
  rw [Int32.le_iff_toInt_le, zI_toInt ha, zI_toInt hb]
theorem zI_0 : zI 0 = 0 := rfl
abbrev zf (f : Int → Int) : Nat → Int32 := fun i => zI (f (i : Int))
def zu (f : Int → Int) (k v : Int) : Int → Int := fun j => if j = k then v else f j
theorem zu_at (f : Int → Int) (k v : Int) : zu f k v k = v := if_pos rfl
theorem zu_ne (f : Int → Int) {k v j : Int} (h : j ≠ k) : zu f k v j = f j := if_neg h
theorem zf_up (f : Int → Int) {i v : Int} (h : 0 ≤ i) : va_up (zf f) i.toNat (zI v) = zf (zu f i v) := by
  funext j
  unfold va_up zf zu
  by_cases e : j = i.toNat
  · rw [if_pos e, if_pos (by omega)]
  · rw [if_neg e, if_neg (by omega)]
def zcpy (f g : Int → Int) (sp dp n : Int) : Int → Int := fun k => if dp ≤ k ∧ k < dp + n then f (sp + (k - dp)) else g k
theorem zf_cpy (f g : Int → Int) {sp dp n : Nat} : va_cpy (zf f) (zf g) sp dp n = zf (zcpy f g sp dp n) := by
  funext j
  unfold va_cpy zf zcpy
  by_cases e : dp ≤ j ∧ j < dp + n
  · rw [if_pos e, if_pos (by omega)]
    congr 2
    omega
  · rw [if_neg e, if_neg (by omega)]
/-- what a call comes to: one outcome -/
def pz_ret (v : Option Value) (h : pz_H) : pz_Q := fun o h2 => o = .inl v ∧ h2 = h
def pz_thr (E : String) (h : pz_H) : pz_Q := fun o h2 => o = .inr E ∧ h2 = h
theorem zret {z w : Int} {h h2 : pz_H} (e : z = w) (eh : h = h2 := by rfl) : pz_ret (some (.int (zI w))) h2 (.inl (some (.int (zI z)))) h := ⟨by rw [e], eh⟩
theorem zretv {h h2 : pz_H} (eh : h = h2 := by rfl) : pz_ret none h2 (.inl none) h := ⟨rfl, eh⟩
def bI (p : Prop) [Decidable p] : Int := if p then 1 else 0
/-- overlays -/
def ov (h0 : pz_H) (n : Nat) (a : Nat → Nat) (cl : Nat → pz_E) : pz_H := fun q => match (List.range n).find? (fun i => a i == q) with
  | some i => some (cl i)
  | none => h0 q
def oj (n : Nat) (a : Nat → Nat) : Prop := ∀ i j, i < n → j < n → a i = a j → i = j
theorem ov_at {h0 : pz_H} {n : Nat} {a : Nat → Nat} {cl : Nat → pz_E} (hj : oj n a) {i : Nat} (hi : i < n) : ov h0 n a cl (a i) = some (cl i) := by
  unfold ov
  cases h : (List.range n).find? (fun k => a k == a i) with
  | none =>
    have := List.find?_eq_none.mp h i (List.mem_range.mpr hi)
    simp at this
  | some k =>
    have h1 := List.mem_range.mp (List.mem_of_find?_eq_some h)
    have h2 := List.find?_some h
    simp only [beq_iff_eq] at h2
    rw [hj k i h1 hi h2]
theorem ov_ne {h0 : pz_H} {n : Nat} {a : Nat → Nat} {cl : Nat → pz_E} {q : Nat} (h : ∀ i, i < n → a i ≠ q) : ov h0 n a cl q = h0 q := by
  unfold ov
  cases hf : (List.range n).find? (fun k => a k == q) with
  | none => rfl
  | some k =>
    have h1 := List.mem_range.mp (List.mem_of_find?_eq_some hf)
    have h2 := List.find?_some hf
    simp only [beq_iff_eq] at h2
    exact absurd h2 (h k h1)
theorem ov_ext {h0 : pz_H} {n : Nat} {a : Nat → Nat} {h : pz_H} {cl : Nat → pz_E} (hj : oj n a) (h1 : ∀ i, i < n → h (a i) = some (cl i)) (h2 : ∀ q, (∀ i, i < n → a i ≠ q) → h q = h0 q) : h = ov h0 n a cl := by
  funext q
  by_cases hq : ∃ i, i < n ∧ a i = q
  · obtain ⟨i, hi, rfl⟩ := hq
    rw [h1 i hi, ov_at hj hi]
  · have hq2 : ∀ i, i < n → a i ≠ q := fun i hi e => hq ⟨i, hi, e⟩
    rw [h2 q hq2, ov_ne hq2]
theorem ov_up {h0 : pz_H} {n : Nat} {a : Nat → Nat} {cl : Nat → pz_E} (hj : oj n a) {i : Nat} (hi : i < n) (e : pz_E) : va_up (ov h0 n a cl) (a i) (some e) = ov h0 n a (va_up cl i e) := by
  apply ov_ext hj
  · intro k hk
    unfold va_up
    by_cases h : k = i
    · subst h
      rw [if_pos rfl, if_pos rfl]
    · rw [if_neg (fun z => h (hj k i hk hi z)), if_neg h, ov_at hj hk]
  · intro q hq
    unfold va_up
    rw [if_neg (fun z => hq i hi z.symm), ov_ne hq]
theorem ov_congr {h0 : pz_H} {n : Nat} {a : Nat → Nat} {cl cl2 : Nat → pz_E} (h : ∀ i, i < n → cl i = cl2 i) : ov h0 n a cl = ov h0 n a cl2 := by
  funext q
  unfold ov
  cases hf : (List.range n).find? (fun k => a k == q) with
  | none => rfl
  | some k =>
    show some (cl k) = some (cl2 k)
    rw [h k (List.mem_range.mp (List.mem_of_find?_eq_some hf))]
/-- counting loops -/
theorem zup {P : Int → Prop} {lo hi : Int} (h : lo ≤ hi) (he : P hi) (hs : ∀ k, lo ≤ k → k < hi → P (k + 1) → P k) : P lo := by
  have key : ∀ (n : Nat) (k : Int), lo ≤ k → k + (n : Int) = hi → P k := by
    intro n
    induction n with
    | zero => intro k _ e; rw [show k = hi by omega]; exact he
    | succ n ih => intro k h1 e; exact hs k h1 (by omega) (ih (k + 1) (by omega) (by omega))
  exact key (hi - lo).toNat lo (Int.le_refl _) (by omega)
theorem zdown {P : Int → Prop} {lo hi : Int} (h : lo ≤ hi) (he : P lo) (hs : ∀ k, lo < k → k ≤ hi → P (k - 1) → P k) : P hi := by
  have key : ∀ (n : Nat) (k : Int), k ≤ hi → lo + (n : Int) = k → P k := by
    intro n
    induction n with
    | zero => intro k _ e; rw [show k = lo by omega]; exact he
    | succ n ih => intro k h1 e; exact hs k (by omega) h1 (ih (k - 1) (by omega) (by omega))
  exact key (hi - lo).toNat hi (Int.le_refl _) (by omega)
section zrows
variable {d : Nat} {en : pz_Env} {C : pz_C} {own : Nat} {cc : ByteArray} {nL : Nat} {rt : Option FieldType} {hh : List (Nat × Nat × Nat × Nat)} {ini : Bool} {Q : pz_Q}
variable {pc : Nat} {ls : List (Option Value)} {st : List Value} {h : pz_H} {nc ns : Nat}
theorem zr_iconst {n : Int} (hd : decode cc pc = .ok (.iconst n, 1)) (k : pz_WP d en C own cc nL rt hh ini Q (pc + 1) ls (.int (zI n) :: st) h nc ns) : pz_WP d en C own cc nL rt hh ini Q pc ls st h nc ns := pr_iconst hd rfl k
theorem zr_bipush {n : Int} (hd : decode cc pc = .ok (.bipush n, 2)) (hv : (Int8.ofInt n).toInt32 = zI n) (k : pz_WP d en C own cc nL rt hh ini Q (pc + 2) ls (.int (zI n) :: st) h nc ns) : pz_WP d en C own cc nL rt hh ini Q pc ls st h nc ns := pr_bipush hd hv k
theorem zr_sipush {n : Int} (hd : decode cc pc = .ok (.sipush n, 3)) (hv : (Int16.ofInt n).toInt32 = zI n) (k : pz_WP d en C own cc nL rt hh ini Q (pc + 3) ls (.int (zI n) :: st) h nc ns) : pz_WP d en C own cc nL rt hh ini Q pc ls st h nc ns := pr_sipush hd hv k
theorem zr_ldc {i : Nat} {v : Int32} (n : Int) (hd : decode cc pc = .ok (.ldc i, 2)) (hc : pz_cst own i = some v) (hv : v = zI n) (k : pz_WP d en C own cc nL rt hh ini Q (pc + 2) ls (.int (zI n) :: st) h nc ns) : pz_WP d en C own cc nL rt hh ini Q pc ls st h nc ns := pr_ldc hd hc (by rw [hv]; exact k)
theorem zr_iadd {x y : Int} (hd : decode cc pc = .ok (.iadd, 1)) (k : pz_WP d en C own cc nL rt hh ini Q (pc + 1) ls (.int (zI (x + y)) :: st) h nc ns) : pz_WP d en C own cc nL rt hh ini Q pc ls (.int (zI y) :: .int (zI x) :: st) h nc ns := pr_iadd hd (by rw [zI_add]; exact k)
theorem zr_isub {x y : Int} (hd : decode cc pc = .ok (.isub, 1)) (k : pz_WP d en C own cc nL rt hh ini Q (pc + 1) ls (.int (zI (x - y)) :: st) h nc ns) : pz_WP d en C own cc nL rt hh ini Q pc ls (.int (zI y) :: .int (zI x) :: st) h nc ns := pr_isub hd (by rw [zI_sub]; exact k)
theorem zr_imul {x y : Int} (hd : decode cc pc = .ok (.imul, 1)) (k : pz_WP d en C own cc nL rt hh ini Q (pc + 1) ls (.int (zI (x * y)) :: st) h nc ns) : pz_WP d en C own cc nL rt hh ini Q pc ls (.int (zI y) :: .int (zI x) :: st) h nc ns := pr_imul hd (by rw [zI_mul]; exact k)
theorem zr_ineg {x : Int} (hd : decode cc pc = .ok (.ineg, 1)) (k : pz_WP d en C own cc nL rt hh ini Q (pc + 1) ls (.int (zI (-x)) :: st) h nc ns) : pz_WP d en C own cc nL rt hh ini Q pc ls (.int (zI x) :: st) h nc ns := pr_ineg hd (by rw [zI_neg]; exact k)
theorem zr_iinc {i : Nat} {n x : Int} (hd : decode cc pc = .ok (.iinc i n, 3)) (hl : ls[i]? = some (some (.int (zI x)))) (hn : i < nL) (ho : pz_ok ls i = true) (k : pz_WP d en C own cc nL rt hh ini Q (pc + 3) (ls.set i (some (.int (zI (x + n))))) st h nc ns) : pz_WP d en C own cc nL rt hh ini Q pc ls st h nc ns := pr_iinc hd hl hn ho (zI_add x n) k
theorem zr_if_eq {x off : Int} {tgt : Nat} (hd : decode cc pc = .ok (.ifCond .eq off, 3)) (ht : (pc : Int) + off = (tgt : Int)) (hx : zR x) (kt : x = 0 → pz_WP d en C own cc nL rt hh ini Q tgt ls st h nc ns) (kf : ¬ x = 0 → pz_WP d en C own cc nL rt hh ini Q (pc + 3) ls st h nc ns) : pz_WP d en C own cc nL rt hh ini Q pc ls (.int (zI x) :: st) h nc ns := pr_if_eq hd ht (fun z => kt ((zI_inj hx (⟨by decide, by decide⟩ : zR 0)).mp z)) (fun z => kf (fun w => z ((zI_inj hx (⟨by decide, by decide⟩ : zR 0)).mpr w)))
theorem zr_if_ne {x off : Int} {tgt : Nat} (hd : decode cc pc = .ok (.ifCond .ne off, 3)) (ht : (pc : Int) + off = (tgt : Int)) (hx : zR x) (kt : ¬ x = 0 → pz_WP d en C own cc nL rt hh ini Q tgt ls st h nc ns) (kf : x = 0 → pz_WP d en C own cc nL rt hh ini Q (pc + 3) ls st h nc ns) : pz_WP d en C own cc nL rt hh ini Q pc ls (.int (zI x) :: st) h nc ns := pr_if_ne hd ht (fun z => kt (fun w => z ((zI_inj hx (⟨by decide, by decide⟩ : zR 0)).mpr w))) (fun z => kf ((zI_inj hx (⟨by decide, by decide⟩ : zR 0)).mp z))
theorem zr_if_lt {x off : Int} {tgt : Nat} (hd : decode cc pc = .ok (.ifCond .lt off, 3)) (ht : (pc : Int) + off = (tgt : Int)) (hx : zR x) (kt : x < 0 → pz_WP d en C own cc nL rt hh ini Q tgt ls st h nc ns) (kf : ¬ x < 0 → pz_WP d en C own cc nL rt hh ini Q (pc + 3) ls st h nc ns) : pz_WP d en C own cc nL rt hh ini Q pc ls (.int (zI x) :: st) h nc ns := pr_if_lt hd ht (fun z => kt ((zI_lt hx (⟨by decide, by decide⟩ : zR 0)).mp z)) (fun z => kf (fun w => z ((zI_lt hx (⟨by decide, by decide⟩ : zR 0)).mpr w)))
theorem zr_if_ge {x off : Int} {tgt : Nat} (hd : decode cc pc = .ok (.ifCond .ge off, 3)) (ht : (pc : Int) + off = (tgt : Int)) (hx : zR x) (kt : 0 ≤ x → pz_WP d en C own cc nL rt hh ini Q tgt ls st h nc ns) (kf : ¬ 0 ≤ x → pz_WP d en C own cc nL rt hh ini Q (pc + 3) ls st h nc ns) : pz_WP d en C own cc nL rt hh ini Q pc ls (.int (zI x) :: st) h nc ns := pr_if_ge hd ht (fun z => kt ((zI_le (⟨by decide, by decide⟩ : zR 0) hx).mp z)) (fun z => kf (fun w => z ((zI_le (⟨by decide, by decide⟩ : zR 0) hx).mpr w)))
theorem zr_if_gt {x off : Int} {tgt : Nat} (hd : decode cc pc = .ok (.ifCond .gt off, 3)) (ht : (pc : Int) + off = (tgt : Int)) (hx : zR x) (kt : 0 < x → pz_WP d en C own cc nL rt hh ini Q tgt ls st h nc ns) (kf : ¬ 0 < x → pz_WP d en C own cc nL rt hh ini Q (pc + 3) ls st h nc ns) : pz_WP d en C own cc nL rt hh ini Q pc ls (.int (zI x) :: st) h nc ns := pr_if_gt hd ht (fun z => kt ((zI_lt (⟨by decide, by decide⟩ : zR 0) hx).mp z)) (fun z => kf (fun w => z ((zI_lt (⟨by decide, by decide⟩ : zR 0) hx).mpr w)))
theorem zr_if_le {x off : Int} {tgt : Nat} (hd : decode cc pc = .ok (.ifCond .le off, 3)) (ht : (pc : Int) + off = (tgt : Int)) (hx : zR x) (kt : x ≤ 0 → pz_WP d en C own cc nL rt hh ini Q tgt ls st h nc ns) (kf : ¬ x ≤ 0 → pz_WP d en C own cc nL rt hh ini Q (pc + 3) ls st h nc ns) : pz_WP d en C own cc nL rt hh ini Q pc ls (.int (zI x) :: st) h nc ns := pr_if_le hd ht (fun z => kt ((zI_le hx (⟨by decide, by decide⟩ : zR 0)).mp z)) (fun z => kf (fun w => z ((zI_le hx (⟨by decide, by decide⟩ : zR 0)).mpr w)))
theorem zr_icmp_eq {x y off : Int} {tgt : Nat} (hd : decode cc pc = .ok (.if_icmp .eq off, 3)) (ht : (pc : Int) + off = (tgt : Int)) (hx : zR x) (hy : zR y) (kt : x = y → pz_WP d en C own cc nL rt hh ini Q tgt ls st h nc ns) (kf : ¬ x = y → pz_WP d en C own cc nL rt hh ini Q (pc + 3) ls st h nc ns) : pz_WP d en C own cc nL rt hh ini Q pc ls (.int (zI y) :: .int (zI x) :: st) h nc ns := pr_icmp_eq hd ht (fun z => kt ((zI_inj hx hy).mp z)) (fun z => kf (fun w => z ((zI_inj hx hy).mpr w)))
theorem zr_icmp_ne {x y off : Int} {tgt : Nat} (hd : decode cc pc = .ok (.if_icmp .ne off, 3)) (ht : (pc : Int) + off = (tgt : Int)) (hx : zR x) (hy : zR y) (kt : ¬ x = y → pz_WP d en C own cc nL rt hh ini Q tgt ls st h nc ns) (kf : x = y → pz_WP d en C own cc nL rt hh ini Q (pc + 3) ls st h nc ns) : pz_WP d en C own cc nL rt hh ini Q pc ls (.int (zI y) :: .int (zI x) :: st) h nc ns := pr_icmp_ne hd ht (fun z => kt (fun w => z ((zI_inj hx hy).mpr w))) (fun z => kf ((zI_inj hx hy).mp z))
theorem zr_icmp_lt {x y off : Int} {tgt : Nat} (hd : decode cc pc = .ok (.if_icmp .lt off, 3)) (ht : (pc : Int) + off = (tgt : Int)) (hx : zR x) (hy : zR y) (kt : x < y → pz_WP d en C own cc nL rt hh ini Q tgt ls st h nc ns) (kf : ¬ x < y → pz_WP d en C own cc nL rt hh ini Q (pc + 3) ls st h nc ns) : pz_WP d en C own cc nL rt hh ini Q pc ls (.int (zI y) :: .int (zI x) :: st) h nc ns := pr_icmp_lt hd ht (fun z => kt ((zI_lt hx hy).mp z)) (fun z => kf (fun w => z ((zI_lt hx hy).mpr w)))
theorem zr_icmp_ge {x y off : Int} {tgt : Nat} (hd : decode cc pc = .ok (.if_icmp .ge off, 3)) (ht : (pc : Int) + off = (tgt : Int)) (hx : zR x) (hy : zR y) (kt : y ≤ x → pz_WP d en C own cc nL rt hh ini Q tgt ls st h nc ns) (kf : ¬ y ≤ x → pz_WP d en C own cc nL rt hh ini Q (pc + 3) ls st h nc ns) : pz_WP d en C own cc nL rt hh ini Q pc ls (.int (zI y) :: .int (zI x) :: st) h nc ns := pr_icmp_ge hd ht (fun z => kt ((zI_le hy hx).mp z)) (fun z => kf (fun w => z ((zI_le hy hx).mpr w)))
theorem zr_icmp_gt {x y off : Int} {tgt : Nat} (hd : decode cc pc = .ok (.if_icmp .gt off, 3)) (ht : (pc : Int) + off = (tgt : Int)) (hx : zR x) (hy : zR y) (kt : y < x → pz_WP d en C own cc nL rt hh ini Q tgt ls st h nc ns) (kf : ¬ y < x → pz_WP d en C own cc nL rt hh ini Q (pc + 3) ls st h nc ns) : pz_WP d en C own cc nL rt hh ini Q pc ls (.int (zI y) :: .int (zI x) :: st) h nc ns := pr_icmp_gt hd ht (fun z => kt ((zI_lt hy hx).mp z)) (fun z => kf (fun w => z ((zI_lt hy hx).mpr w)))
theorem zr_icmp_le {x y off : Int} {tgt : Nat} (hd : decode cc pc = .ok (.if_icmp .le off, 3)) (ht : (pc : Int) + off = (tgt : Int)) (hx : zR x) (hy : zR y) (kt : x ≤ y → pz_WP d en C own cc nL rt hh ini Q tgt ls st h nc ns) (kf : ¬ x ≤ y → pz_WP d en C own cc nL rt hh ini Q (pc + 3) ls st h nc ns) : pz_WP d en C own cc nL rt hh ini Q pc ls (.int (zI y) :: .int (zI x) :: st) h nc ns := pr_icmp_le hd ht (fun z => kt ((zI_le hx hy).mp z)) (fun z => kf (fun w => z ((zI_le hx hy).mpr w)))
theorem zk {i : Int} {n : Nat} (h : 0 ≤ i ∧ i < (n : Int)) (hn : n ≤ 1000000) : (zI i).toInt = (i.toNat : Int) ∧ i.toNat < n := by
  refine ⟨?_, by omega⟩
  rw [zI_toInt ⟨by omega, by omega⟩]
  omega
theorem zf_at {f : Int → Int} {i : Int} (h : 0 ≤ i) : zf f i.toNat = zI (f i) := by
  show zI (f (i.toNat : Int)) = zI (f i)
  rw [show (i.toNat : Int) = i by omega]
theorem zr_iald {a : Nat} {i : Int} {n : Nat} {f : Int → Int} (hd : decode cc pc = .ok (.iaload, 1)) (ha : h a = some (.inl (0, n, .inl (zf f)))) (hi : 0 ≤ i ∧ i < (n : Int)) (hn : n ≤ 1000000) (k : pz_WP d en C own cc nL rt hh ini Q (pc + 1) ls (.int (zI (f i)) :: st) h nc ns) : pz_WP d en C own cc nL rt hh ini Q pc ls (.int (zI i) :: .ref a :: st) h nc ns := pr_iald hd ha (zk hi hn).1 (zk hi hn).2 (by rw [zf_at hi.1]; exact k)
theorem zr_cald {a : Nat} {i : Int} {n : Nat} {f : Int → Int} (hd : decode cc pc = .ok (.caload, 1)) (ha : h a = some (.inl (1, n, .inl (zf f)))) (hi : 0 ≤ i ∧ i < (n : Int)) (hn : n ≤ 1000000) (k : pz_WP d en C own cc nL rt hh ini Q (pc + 1) ls (.int (zI (f i)) :: st) h nc ns) : pz_WP d en C own cc nL rt hh ini Q pc ls (.int (zI i) :: .ref a :: st) h nc ns := pr_cald hd ha (zk hi hn).1 (zk hi hn).2 (by rw [zf_at hi.1]; exact k)
theorem zr_iast {a : Nat} {i x : Int} {n : Nat} {f : Int → Int} {h2 : pz_H} (hd : decode cc pc = .ok (.iastore, 1)) (ha : h a = some (.inl (0, n, .inl (zf f)))) (hi : 0 ≤ i ∧ i < (n : Int)) (hn : n ≤ 1000000) (hu : va_up h a (some (.inl (0, n, .inl (zf (zu f i x))))) = h2) (k : pz_WP d en C own cc nL rt hh ini Q (pc + 1) ls st h2 nc ns) : pz_WP d en C own cc nL rt hh ini Q pc ls (.int (zI x) :: .int (zI i) :: .ref a :: st) h nc ns := pr_iast hd ha (zk hi hn).1 (zk hi hn).2 (by rw [zf_up f hi.1]; exact hu) k
theorem zr_cast {a : Nat} {i x : Int} {n : Nat} {f : Int → Int} {h2 : pz_H} (hd : decode cc pc = .ok (.castore, 1)) (ha : h a = some (.inl (1, n, .inl (zf f)))) (hi : 0 ≤ i ∧ i < (n : Int)) (hn : n ≤ 1000000) (hx : vp_nar .char (zI x) = zI x) (hu : va_up h a (some (.inl (1, n, .inl (zf (zu f i x))))) = h2) (k : pz_WP d en C own cc nL rt hh ini Q (pc + 1) ls st h2 nc ns) : pz_WP d en C own cc nL rt hh ini Q pc ls (.int (zI x) :: .int (zI i) :: .ref a :: st) h nc ns := pr_cast hd ha (zk hi hn).1 (zk hi hn).2 hx (by rw [zf_up f hi.1]; exact hu) k
theorem zr_copy {ix a0 a n0 n1 : Nat} {sp dp n : Int} {f g : Int → Int} {h2 : pz_H} (hd : decode cc pc = .ok (.invokestatic ix, 3)) (hm : pz_nat own ix = some 2) (hd1 : 1 ≤ d) (ha0 : h a0 = some (.inl (0, n0, .inl (zf f)))) (ha : h a = some (.inl (0, n1, .inl (zf g)))) (hi : 0 ≤ sp ∧ 0 ≤ dp ∧ 0 ≤ n) (h4 : sp + n ≤ (n0 : Int)) (h5 : dp + n ≤ (n1 : Int)) (hn : n0 ≤ 1000000 ∧ n1 ≤ 1000000) (hr : st.length ≤ 3) (hu : va_up h a (some (.inl (0, n1, .inl (zf (zcpy f g sp dp n))))) = h2) (kk : pz_WP d en C own cc nL rt hh ini Q (pc + 3) ls st h2 nc ns) : pz_WP d en C own cc nL rt hh ini Q pc ls (.int (zI n) :: .int (zI dp) :: .ref a :: .int (zI sp) :: .ref a0 :: st) h nc ns :=
  pr_copy (i0 := sp.toNat) (j0 := dp.toNat) (N := n.toNat) hd hm hd1 ha0 ha (by rw [zI_toInt ⟨by omega, by omega⟩]; omega) (by rw [zI_toInt ⟨by omega, by omega⟩]; omega) (by rw [zI_toInt ⟨by omega, by omega⟩]; omega) (by omega) (by omega) hr (by rw [zf_cpy, show ((sp.toNat : Nat) : Int) = sp by omega, show ((dp.toNat : Nat) : Int) = dp by omega, show ((n.toNat : Nat) : Int) = n by omega]; exact hu) kk
theorem zr_max {ix : Nat} {x y : Int} (hd : decode cc pc = .ok (.invokestatic ix, 3)) (hm : pz_nat own ix = some 0) (hd1 : 1 ≤ d) (hr : st.length ≤ 3) (hx : zR x) (hy : zR y) (kk : pz_WP d en C own cc nL rt hh ini Q (pc + 3) ls (.int (zI (if x < y then y else x)) :: st) h nc ns) : pz_WP d en C own cc nL rt hh ini Q pc ls (.int (zI y) :: .int (zI x) :: st) h nc ns := pr_max hd hm hd1 hr (by
  by_cases e : x < y
  · rw [if_pos ((zI_lt hx hy).mpr e)]; rw [if_pos e] at kk; exact kk
  · rw [if_neg (fun z => e ((zI_lt hx hy).mp z))]; rw [if_neg e] at kk; exact kk)
theorem zr_min {ix : Nat} {x y : Int} (hd : decode cc pc = .ok (.invokestatic ix, 3)) (hm : pz_nat own ix = some 1) (hd1 : 1 ≤ d) (hr : st.length ≤ 3) (hx : zR x) (hy : zR y) (kk : pz_WP d en C own cc nL rt hh ini Q (pc + 3) ls (.int (zI (if y < x then y else x)) :: st) h nc ns) : pz_WP d en C own cc nL rt hh ini Q pc ls (.int (zI y) :: .int (zI x) :: st) h nc ns := pr_min hd hm hd1 hr (by
  by_cases e : y < x
  · rw [if_pos ((zI_lt hy hx).mpr e)]; rw [if_pos e] at kk; exact kk
  · rw [if_neg (fun z => e ((zI_lt hy hx).mp z))]; rw [if_neg e] at kk; exact kk)
end zrows
section zcalls
variable {d : Nat} {en : pz_Env} {own : Nat} {cc : ByteArray} {nL : Nat} {rt : Option FieldType} {hh : List (Nat × Nat × Nat × Nat)} {ini : Bool} {Q : pz_Q}
variable {pc : Nat} {ls : List (Option Value)} {st : List Value} {h : pz_H} {nc ns : Nat}
theorem zcv0 {ix b : Nat} {k0 : Nat} {fs : List Value} {y : Nat} {yn : MethodName} {bs : ByteArray} {mL : Nat} {mr : Option FieldType} {mo : Nat} {ps : List Nat} {v : Option Value} {h2 : pz_H} (hd : decode cc pc = .ok (.invokevirtual ix, 3)) (hm : pz_mth own ix = some y) (ht : pz_tab y = some (yn, bs, mL, mr, mo, 0, 1, [], ps)) (hb : h b = some (.inr (mo, fs))) (hC : pz_Cd en k0 y [.ref b] h 0 0 (pz_ret v h2)) (hk : k0 ≤ d - 1) (hr : st.length ≤ 3) (hmo : mo < 8) (k : pz_WP d en (pz_Cd en (d - 1)) own cc nL rt hh ini Q (pc + 3) ls (v.toList ++ st) h2 nc ns) : pz_WP d en (pz_Cd en (d - 1)) own cc nL rt hh ini Q pc ls (.ref b :: st) h nc ns := pr_cv0 (np := 0) (mh := []) hd hm ht hb hC (fun o h3 hq => ⟨v, hq.1, by rw [hq.2]; exact k⟩) hmo hk hr
theorem zcs0 {ix : Nat} {k0 : Nat} {y : Nat} {yn : MethodName} {bs : ByteArray} {mL : Nat} {mr : Option FieldType} {mo : Nat} {ps : List Nat} {v : Option Value} {h2 : pz_H} (hd : decode cc pc = .ok (.invokestatic ix, 3)) (hm : pz_mth own ix = some y) (ht : pz_tab y = some (yn, bs, mL, mr, mo, 0, 0, [], ps)) (hC : pz_Cd en k0 y [] h 0 0 (pz_ret v h2)) (hk : k0 ≤ d - 1) (hr : st.length ≤ 3) (k : pz_WP d en (pz_Cd en (d - 1)) own cc nL rt hh ini Q (pc + 3) ls (v.toList ++ st) h2 nc ns) : pz_WP d en (pz_Cd en (d - 1)) own cc nL rt hh ini Q pc ls (st) h nc ns := pr_cs0 (np := 0) (mh := []) hd hm ht hC (fun o h3 hq => ⟨v, hq.1, by rw [hq.2]; exact k⟩) hk hr
theorem zcv1 {ix b : Nat} {k0 : Nat} {fs : List Value} {v1 : Value} {y : Nat} {yn : MethodName} {bs : ByteArray} {mL : Nat} {mr : Option FieldType} {mo : Nat} {ps : List Nat} {v : Option Value} {h2 : pz_H} (hd : decode cc pc = .ok (.invokevirtual ix, 3)) (hm : pz_mth own ix = some y) (ht : pz_tab y = some (yn, bs, mL, mr, mo, 1, 1, [], ps)) (hb : h b = some (.inr (mo, fs))) (hC : pz_Cd en k0 y [.ref b, v1] h 0 0 (pz_ret v h2)) (hk : k0 ≤ d - 1) (hr : st.length ≤ 3) (hmo : mo < 8) (k : pz_WP d en (pz_Cd en (d - 1)) own cc nL rt hh ini Q (pc + 3) ls (v.toList ++ st) h2 nc ns) : pz_WP d en (pz_Cd en (d - 1)) own cc nL rt hh ini Q pc ls (v1 :: .ref b :: st) h nc ns := pr_cv1 (np := 0) (mh := []) hd hm ht hb hC (fun o h3 hq => ⟨v, hq.1, by rw [hq.2]; exact k⟩) hmo hk hr
theorem zcs1 {ix : Nat} {k0 : Nat} {v1 : Value} {y : Nat} {yn : MethodName} {bs : ByteArray} {mL : Nat} {mr : Option FieldType} {mo : Nat} {ps : List Nat} {v : Option Value} {h2 : pz_H} (hd : decode cc pc = .ok (.invokestatic ix, 3)) (hm : pz_mth own ix = some y) (ht : pz_tab y = some (yn, bs, mL, mr, mo, 1, 0, [], ps)) (hC : pz_Cd en k0 y [v1] h 0 0 (pz_ret v h2)) (hk : k0 ≤ d - 1) (hr : st.length ≤ 3) (k : pz_WP d en (pz_Cd en (d - 1)) own cc nL rt hh ini Q (pc + 3) ls (v.toList ++ st) h2 nc ns) : pz_WP d en (pz_Cd en (d - 1)) own cc nL rt hh ini Q pc ls (v1 :: st) h nc ns := pr_cs1 (np := 0) (mh := []) hd hm ht hC (fun o h3 hq => ⟨v, hq.1, by rw [hq.2]; exact k⟩) hk hr
theorem zcv2 {ix b : Nat} {k0 : Nat} {fs : List Value} {v1 v2 : Value} {y : Nat} {yn : MethodName} {bs : ByteArray} {mL : Nat} {mr : Option FieldType} {mo : Nat} {ps : List Nat} {v : Option Value} {h2 : pz_H} (hd : decode cc pc = .ok (.invokevirtual ix, 3)) (hm : pz_mth own ix = some y) (ht : pz_tab y = some (yn, bs, mL, mr, mo, 2, 1, [], ps)) (hb : h b = some (.inr (mo, fs))) (hC : pz_Cd en k0 y [.ref b, v1, v2] h 0 0 (pz_ret v h2)) (hk : k0 ≤ d - 1) (hr : st.length ≤ 3) (hmo : mo < 8) (k : pz_WP d en (pz_Cd en (d - 1)) own cc nL rt hh ini Q (pc + 3) ls (v.toList ++ st) h2 nc ns) : pz_WP d en (pz_Cd en (d - 1)) own cc nL rt hh ini Q pc ls (v2 :: v1 :: .ref b :: st) h nc ns := pr_cv2 (np := 0) (mh := []) hd hm ht hb hC (fun o h3 hq => ⟨v, hq.1, by rw [hq.2]; exact k⟩) hmo hk hr
theorem zcs2 {ix : Nat} {k0 : Nat} {v1 v2 : Value} {y : Nat} {yn : MethodName} {bs : ByteArray} {mL : Nat} {mr : Option FieldType} {mo : Nat} {ps : List Nat} {v : Option Value} {h2 : pz_H} (hd : decode cc pc = .ok (.invokestatic ix, 3)) (hm : pz_mth own ix = some y) (ht : pz_tab y = some (yn, bs, mL, mr, mo, 2, 0, [], ps)) (hC : pz_Cd en k0 y [v1, v2] h 0 0 (pz_ret v h2)) (hk : k0 ≤ d - 1) (hr : st.length ≤ 3) (k : pz_WP d en (pz_Cd en (d - 1)) own cc nL rt hh ini Q (pc + 3) ls (v.toList ++ st) h2 nc ns) : pz_WP d en (pz_Cd en (d - 1)) own cc nL rt hh ini Q pc ls (v2 :: v1 :: st) h nc ns := pr_cs2 (np := 0) (mh := []) hd hm ht hC (fun o h3 hq => ⟨v, hq.1, by rw [hq.2]; exact k⟩) hk hr
theorem zcv3 {ix b : Nat} {k0 : Nat} {fs : List Value} {v1 v2 v3 : Value} {y : Nat} {yn : MethodName} {bs : ByteArray} {mL : Nat} {mr : Option FieldType} {mo : Nat} {ps : List Nat} {v : Option Value} {h2 : pz_H} (hd : decode cc pc = .ok (.invokevirtual ix, 3)) (hm : pz_mth own ix = some y) (ht : pz_tab y = some (yn, bs, mL, mr, mo, 3, 1, [], ps)) (hb : h b = some (.inr (mo, fs))) (hC : pz_Cd en k0 y [.ref b, v1, v2, v3] h 0 0 (pz_ret v h2)) (hk : k0 ≤ d - 1) (hr : st.length ≤ 3) (hmo : mo < 8) (k : pz_WP d en (pz_Cd en (d - 1)) own cc nL rt hh ini Q (pc + 3) ls (v.toList ++ st) h2 nc ns) : pz_WP d en (pz_Cd en (d - 1)) own cc nL rt hh ini Q pc ls (v3 :: v2 :: v1 :: .ref b :: st) h nc ns := pr_cv3 (np := 0) (mh := []) hd hm ht hb hC (fun o h3 hq => ⟨v, hq.1, by rw [hq.2]; exact k⟩) hmo hk hr
theorem zcs3 {ix : Nat} {k0 : Nat} {v1 v2 v3 : Value} {y : Nat} {yn : MethodName} {bs : ByteArray} {mL : Nat} {mr : Option FieldType} {mo : Nat} {ps : List Nat} {v : Option Value} {h2 : pz_H} (hd : decode cc pc = .ok (.invokestatic ix, 3)) (hm : pz_mth own ix = some y) (ht : pz_tab y = some (yn, bs, mL, mr, mo, 3, 0, [], ps)) (hC : pz_Cd en k0 y [v1, v2, v3] h 0 0 (pz_ret v h2)) (hk : k0 ≤ d - 1) (hr : st.length ≤ 3) (k : pz_WP d en (pz_Cd en (d - 1)) own cc nL rt hh ini Q (pc + 3) ls (v.toList ++ st) h2 nc ns) : pz_WP d en (pz_Cd en (d - 1)) own cc nL rt hh ini Q pc ls (v3 :: v2 :: v1 :: st) h nc ns := pr_cs3 (np := 0) (mh := []) hd hm ht hC (fun o h3 hq => ⟨v, hq.1, by rw [hq.2]; exact k⟩) hk hr
theorem zcv4 {ix b : Nat} {k0 : Nat} {fs : List Value} {v1 v2 v3 v4 : Value} {y : Nat} {yn : MethodName} {bs : ByteArray} {mL : Nat} {mr : Option FieldType} {mo : Nat} {ps : List Nat} {v : Option Value} {h2 : pz_H} (hd : decode cc pc = .ok (.invokevirtual ix, 3)) (hm : pz_mth own ix = some y) (ht : pz_tab y = some (yn, bs, mL, mr, mo, 4, 1, [], ps)) (hb : h b = some (.inr (mo, fs))) (hC : pz_Cd en k0 y [.ref b, v1, v2, v3, v4] h 0 0 (pz_ret v h2)) (hk : k0 ≤ d - 1) (hr : st.length ≤ 3) (hmo : mo < 8) (k : pz_WP d en (pz_Cd en (d - 1)) own cc nL rt hh ini Q (pc + 3) ls (v.toList ++ st) h2 nc ns) : pz_WP d en (pz_Cd en (d - 1)) own cc nL rt hh ini Q pc ls (v4 :: v3 :: v2 :: v1 :: .ref b :: st) h nc ns := pr_cv4 (np := 0) (mh := []) hd hm ht hb hC (fun o h3 hq => ⟨v, hq.1, by rw [hq.2]; exact k⟩) hmo hk hr
theorem zcs4 {ix : Nat} {k0 : Nat} {v1 v2 v3 v4 : Value} {y : Nat} {yn : MethodName} {bs : ByteArray} {mL : Nat} {mr : Option FieldType} {mo : Nat} {ps : List Nat} {v : Option Value} {h2 : pz_H} (hd : decode cc pc = .ok (.invokestatic ix, 3)) (hm : pz_mth own ix = some y) (ht : pz_tab y = some (yn, bs, mL, mr, mo, 4, 0, [], ps)) (hC : pz_Cd en k0 y [v1, v2, v3, v4] h 0 0 (pz_ret v h2)) (hk : k0 ≤ d - 1) (hr : st.length ≤ 3) (k : pz_WP d en (pz_Cd en (d - 1)) own cc nL rt hh ini Q (pc + 3) ls (v.toList ++ st) h2 nc ns) : pz_WP d en (pz_Cd en (d - 1)) own cc nL rt hh ini Q pc ls (v4 :: v3 :: v2 :: v1 :: st) h nc ns := pr_cs4 (np := 0) (mh := []) hd hm ht hC (fun o h3 hq => ⟨v, hq.1, by rw [hq.2]; exact k⟩) hk hr
theorem zcv5 {ix b : Nat} {k0 : Nat} {fs : List Value} {v1 v2 v3 v4 v5 : Value} {y : Nat} {yn : MethodName} {bs : ByteArray} {mL : Nat} {mr : Option FieldType} {mo : Nat} {ps : List Nat} {v : Option Value} {h2 : pz_H} (hd : decode cc pc = .ok (.invokevirtual ix, 3)) (hm : pz_mth own ix = some y) (ht : pz_tab y = some (yn, bs, mL, mr, mo, 5, 1, [], ps)) (hb : h b = some (.inr (mo, fs))) (hC : pz_Cd en k0 y [.ref b, v1, v2, v3, v4, v5] h 0 0 (pz_ret v h2)) (hk : k0 ≤ d - 1) (hr : st.length ≤ 3) (hmo : mo < 8) (k : pz_WP d en (pz_Cd en (d - 1)) own cc nL rt hh ini Q (pc + 3) ls (v.toList ++ st) h2 nc ns) : pz_WP d en (pz_Cd en (d - 1)) own cc nL rt hh ini Q pc ls (v5 :: v4 :: v3 :: v2 :: v1 :: .ref b :: st) h nc ns := pr_cv5 (np := 0) (mh := []) hd hm ht hb hC (fun o h3 hq => ⟨v, hq.1, by rw [hq.2]; exact k⟩) hmo hk hr
theorem zcs5 {ix : Nat} {k0 : Nat} {v1 v2 v3 v4 v5 : Value} {y : Nat} {yn : MethodName} {bs : ByteArray} {mL : Nat} {mr : Option FieldType} {mo : Nat} {ps : List Nat} {v : Option Value} {h2 : pz_H} (hd : decode cc pc = .ok (.invokestatic ix, 3)) (hm : pz_mth own ix = some y) (ht : pz_tab y = some (yn, bs, mL, mr, mo, 5, 0, [], ps)) (hC : pz_Cd en k0 y [v1, v2, v3, v4, v5] h 0 0 (pz_ret v h2)) (hk : k0 ≤ d - 1) (hr : st.length ≤ 3) (k : pz_WP d en (pz_Cd en (d - 1)) own cc nL rt hh ini Q (pc + 3) ls (v.toList ++ st) h2 nc ns) : pz_WP d en (pz_Cd en (d - 1)) own cc nL rt hh ini Q pc ls (v5 :: v4 :: v3 :: v2 :: v1 :: st) h nc ns := pr_cs5 (np := 0) (mh := []) hd hm ht hC (fun o h3 hq => ⟨v, hq.1, by rw [hq.2]; exact k⟩) hk hr
end zcalls
