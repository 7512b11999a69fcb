/-! indexOf of a constant: the JDK's own methods -/
theorem jw_lInd2 : (.methodLink RJ0 633 yJ0_indexOf_7cf53 : Cond) ∈ pz_G := pz_Gin (i := 1458) (by decide +kernel) rfl
theorem jw_iInd2 : (.instanceMethod yJ0_indexOf_7cf53 : Cond) ∈ pz_G := pz_Gin (i := 1459) (by decide +kernel) rfl
theorem jw_sInd2 : (.selects RJ0 yJ0_indexOf_7cf53 yJ0_indexOf_7cf53 : Cond) ∈ pz_G := pz_Gin (i := 1460) (by decide +kernel) rfl
theorem jw_cInd2 : (.code yJ0_indexOf_7cf53 cJ0_indexOf_7cf53 3 (some .int) : Cond) ∈ pz_G := pz_Gin (i := 1461) (by decide +kernel) rfl
theorem jw_lLat : (.methodLink RJ0 492 yJ0_isLatin1_aae02 : Cond) ∈ pz_G := pz_Gin (i := 1462) (by decide +kernel) rfl
theorem jw_iLat : (.instanceMethod yJ0_isLatin1_aae02 : Cond) ∈ pz_G := pz_Gin (i := 1463) (by decide +kernel) rfl
theorem jw_sLat : (.selects RJ0 yJ0_isLatin1_aae02 yJ0_isLatin1_aae02 : Cond) ∈ pz_G := pz_Gin (i := 1464) (by decide +kernel) rfl
theorem jw_cLat : (.code yJ0_isLatin1_aae02 cJ0_isLatin1_aae02 1 (some .boolean) : Cond) ∈ pz_G := pz_Gin (i := 1465) (by decide +kernel) rfl
theorem jw_fCmp : (.fieldLink RJ0 38 "java/lang/String" "COMPACT_STRINGS" "Z" : Cond) ∈ pz_G := pz_Gin (i := 1466) (by decide +kernel) rfl
theorem jw_lLen : (.methodLink RJ0 505 yJ0_length_8abf5 : Cond) ∈ pz_G := pz_Gin (i := 1468) (by decide +kernel) rfl
theorem jw_iLen : (.instanceMethod yJ0_length_8abf5 : Cond) ∈ pz_G := pz_Gin (i := 1469) (by decide +kernel) rfl
theorem jw_sLen : (.selects RJ0 yJ0_length_8abf5 yJ0_length_8abf5 : Cond) ∈ pz_G := pz_Gin (i := 1470) (by decide +kernel) rfl
theorem jw_cLen : (.code yJ0_length_8abf5 cJ0_length_8abf5 1 (some .int) : Cond) ∈ pz_G := pz_Gin (i := 1471) (by decide +kernel) rfl
theorem jw_lCod : (.methodLink RJ0 335 yJ0_coder_7d493 : Cond) ∈ pz_G := pz_Gin (i := 1472) (by decide +kernel) rfl
theorem jw_iCod : (.instanceMethod yJ0_coder_7d493 : Cond) ∈ pz_G := pz_Gin (i := 1473) (by decide +kernel) rfl
theorem jw_sCod : (.selects RJ0 yJ0_coder_7d493 yJ0_coder_7d493 : Cond) ∈ pz_G := pz_Gin (i := 1474) (by decide +kernel) rfl
theorem jw_cCod : (.code yJ0_coder_7d493 cJ0_coder_7d493 1 (some .byte) : Cond) ∈ pz_G := pz_Gin (i := 1475) (by decide +kernel) rfl
theorem jw_lLix : (.methodLink RJ0 637 yJ1_indexOf_4cfef : Cond) ∈ pz_G := pz_Gin (i := 1476) (by decide +kernel) rfl
theorem jw_tLix : (.static yJ1_indexOf_4cfef : Cond) ∈ pz_G := pz_Gin (i := 1477) (by decide +kernel) rfl
theorem jw_cLix : (.code yJ1_indexOf_4cfef cJ1_indexOf_4cfef 4 (some .int) : Cond) ∈ pz_G := pz_Gin (i := 1478) (by decide +kernel) rfl
theorem jw_lCan : (.methodLink RJ1 88 yJ1_canEncode_9a6ad : Cond) ∈ pz_G := pz_Gin (i := 1479) (by decide +kernel) rfl
theorem jw_tCan : (.static yJ1_canEncode_9a6ad : Cond) ∈ pz_G := pz_Gin (i := 1480) (by decide +kernel) rfl
theorem jw_cCan : (.code yJ1_canEncode_9a6ad cJ1_canEncode_9a6ad 1 (some .boolean) : Cond) ∈ pz_G := pz_Gin (i := 1481) (by decide +kernel) rfl
theorem jw_lMax : (.methodLink RJ1 92 Lib.Math.max.name : Cond) ∈ pz_G := pz_Gin (i := 1482) (by decide +kernel) rfl
theorem jw_lMin : (.methodLink RJ1 38 Lib.Math.min.name : Cond) ∈ pz_G := pz_Gin (i := 1483) (by decide +kernel) rfl
theorem jw_lIoc : (.methodLink RJ1 95 yJ1_indexOfChar_4cfef : Cond) ∈ pz_G := pz_Gin (i := 1484) (by decide +kernel) rfl
theorem jw_tIoc : (.static yJ1_indexOfChar_4cfef : Cond) ∈ pz_G := pz_Gin (i := 1485) (by decide +kernel) rfl
theorem jw_cIoc : (.code yJ1_indexOfChar_4cfef cJ1_indexOfChar_4cfef 6 (some .int) : Cond) ∈ pz_G := pz_Gin (i := 1486) (by decide +kernel) rfl
theorem jw_fCod : (.fieldLink RJ0 15 "java/lang/String" "coder" "B" : Cond) ∈ pz_G := pz_Gin (i := 1593) (by decide +kernel) rfl
theorem jw_fVal : (.fieldLink RJ0 9 "java/lang/String" "value" "[B" : Cond) ∈ pz_G := pz_Gin (i := 1594) (by decide +kernel) rfl
theorem jw_iS : (.initialized RJ0 : Cond) ∈ pz_G := pz_Gin (i := 86) (by decide +kernel) rfl
theorem jw_iL : (.initialized RJ1 : Cond) ∈ pz_G := pz_Gin (i := 87) (by decide +kernel) rfl
abbrev idxB : List Int32 := [99, 120, 115, 114, 103, 106, 116]
def ixF (x : Int32) : List Int32 → Nat → Int32
  | [], _ => -1
  | b :: l, k => if x = b then Int32.ofNat k else ixF x l (k + 1)
theorem ixF_ix (x : Int32) : pz_ix x = ixF x idxB 0 := rfl
theorem idx_b : ∀ k : Fin 256, ∀ e ∈ idxB, ((Int32.ofNat k.val).toInt8.toInt32 = e ↔ Int32.ofNat k.val = e) := by decide +kernel
theorem idx_x {x : Int32} (h0 : 0 ≤ x.toInt) (h1 : x.toInt < 256) {b : Int32} (hb : b ∈ idxB) : (x.toInt8.toInt32 = b ↔ x = b) := by
  have h := idx_b ⟨x.toInt.toNat, by omega⟩ b hb
  have e : Int32.ofNat x.toInt.toNat = x := by
    rw [zI_nat, show ((x.toInt.toNat : Nat) : Int) = x.toInt by omega, zI_of]
  rw [e] at h
  exact h
def jA (a0 v : Nat) (U : State) (H : Heap) : Prop := va_T .byte v 7 (fun j => .int (idxB.getD j 0)) (pz_A a0) U H
def jT (_ : State) (_ : Heap) : Prop := True
def jS (a0 sa v : Nat) (U : State) (H : Heap) : Prop := va_O "java/lang/String" sa (pz_A a0) U H ∧ va_OF "java/lang/String" "coder" "B" (.int 0) sa (pz_A a0) U H ∧ va_OF "java/lang/String" "value" "[B" (.ref v) sa (pz_A a0) U H ∧ jA a0 v U H ∧ va_Z "java/lang/String" "COMPACT_STRINGS" "Z" (.int 1) (pz_A a0) U H
def jB (a0 : Nat) (B : State → Heap → Prop) : Prop := ∀ (u U : State) (H H1 : Heap), u.vm.Alike U.vm → (∀ a : Nat, a < H.size → ¬ pz_A a0 a → H1[a]? = H[a]?) → B u H → B U H1
theorem jB_A {a0 v : Nat} : jB a0 (jA a0 v) := fun u U H H1 hv hk h => (va_T.moved hv h).kept hk
theorem jB_T {a0 : Nat} : jB a0 jT := fun _ _ _ _ _ _ h => h
theorem jB_S {a0 sa v : Nat} : jB a0 (jS a0 sa v) := fun u U H H1 hv hk h => ⟨(va_O.moved hv h.1).kept hk, (va_OF.moved hv h.2.1).kept hk, (va_OF.moved hv h.2.2.1).kept hk, jB_A u U H H1 hv hk h.2.2.2.1, (va_Z.moved hv h.2.2.2.2).kept hk⟩
theorem jS_of {a0 sa : Nat} {U : State} {H : Heap} (h : pz_Str a0 sa U H) : ∃ v, jS a0 sa v U H := by
  obtain ⟨⟨adK, adV, h1, h2⟩, h3⟩ := h
  obtain ⟨g1, g2, g3, g4⟩ := h1.1 0 (by decide)
  rw [h2] at g1 g2 g3
  exact ⟨adV 0, g1, g2, g3, g4, h3⟩
def jP (r : Int32) : Array Value → State → Outcome → State → Prop := fun _ st o t => o = .returned (some (.int r)) ∧ va_F (fun _ => False) st t
def jM (l : Launch) (a0 : Nat) (B : State → Heap → Prop) (d : Nat) (y : MethodName) (cy : ByteArray) (nL : Nat) (rt : FieldType) (as : List Value) (r : Int32) : Prop := Met l y (Cond.code y cy nL (some rt) :: pz_G) ({ frames := d, cells := 0, slots := 0, locals := 36 * d }) (va_Pc as (fun U => B U U.heap)) (jP r) 0 0 (pz_A a0)
def jX (p : Program) (R : Room) (s : State) (m : MethodId) (args : Array Value) (meth : Method) (c : Code) (B : State → Heap → Prop) (d : Nat) (own : String) (cc : ByteArray) (nL : Nat) (rt : FieldType) : Prop := p.tables.exec = Jvm.exec ∧ c.code = cc ∧ c.maxLocals = nL ∧ s.vm.findClass own = some m.cls ∧ (∀ w ∈ pz_G, w.before args s = true) ∧ B s s.heap ∧ d ≤ R.frames ∧ 36 * d ≤ R.locals ∧ meth.sig.returnType = some rt ∧ meth.locks = false
def jH (a0 : Nat) (s : State) (H : Heap) (locs : List Loc) : Prop := s.heap.size ≤ H.size ∧ (∀ q : Nat, q < s.heap.size → H[q]? = s.heap[q]?) ∧ ∀ l ∈ locs, pz_A a0 l.base
theorem jH_0 {a0 : Nat} {s : State} : jH a0 s s.heap [] := ⟨Nat.le_refl _, fun _ _ => rfl, fun _ h => by cases h⟩
theorem jH_S {a0 : Nat} {s : State} {H : Heap} {locs : List Loc} (h : jH a0 s H locs) : va_S (pz_A a0) s.heap H locs := ⟨h.1, fun q hq _ => h.2.1 q hq, h.2.2⟩
theorem jB_H {a0 : Nat} {B : State → Heap → Prop} {s U : State} {H : Heap} {locs : List Loc} (hB : jB a0 B) (h : jH a0 s H locs) (hv : s.vm.Alike U.vm) (h0 : B s s.heap) : B U H := hB s U s.heap H hv (fun a ha _ => h.2.1 a ha) h0
section jdk
variable {p : Program} {l : Launch} {e : Env} {R : Room} {s : State} {m : MethodId} {args : Array Value} {below : List Frame} {meth : Method} {c : Code} {a0 d nL : Nat} {B : State → Heap → Prop} {own : String} {cc : ByteArray} {rt : FieldType} {H : Heap} {locs : List Loc} {Q : State → Prop} {pc : Nat} {ls : Array Slot}
theorem jM_of {y : MethodName} {as : List Value} {r : Int32} (hy : plainName y.cls = true) (hlen : (lg_sl as).length ≤ nL) (body : ∀ (p : Program) (e : Env) (R : Room) (s : State) (m : MethodId) (args : Array Value) (below : List Frame) (meth : Method) (c : Code) (ls : Array Slot), jX p R s m args meth c B d y.cls cc nL rt → lv_has ls nL (lv_args 0 as) → W p l e R s m args below meth c s.heap [] 0 0 (MQ below (jP r) args s 0 0 (pz_A a0)) (F0 m 0 ls [])) : jM l a0 B d y cc nL rt as r := by
  refine Met.ofW (cc := cc) (maxL := nL) (ret := some rt) hy rfl ?_
  intro p e s m args below meth c s₁ BL hml hv
  obtain ⟨rfl, hB⟩ := hv
  have hts : ∀ w ∈ pz_G, w.before as.toArray s = true := fun w hw => atoms_spec (ws := Cond.code y cc nL (some rt) :: pz_G) BL.pre w (List.mem_cons_of_mem _ hw)
  have hown : s.vm.findClass y.cls = some m.cls := findClass_of_methodNamed BL.named
  rw [lg_entry_eq]
  exact body p e ({ frames := d, cells := 0, slots := 0, locals := 36 * d }) s m as.toArray below meth c _ ⟨BL.exec, BL.bytes, hml, hown, hts, hB, Nat.le_refl _, Nat.le_refl _, BL.returns, BL.notSynchronized⟩ (lv_entry as hlen)
theorem jv_ret {r : Int32} (X : jX p R s m args meth c B d own cc nL rt) (hJ : jH a0 s H locs) (hn : narrow rt (.int r) = .int r) (hdg : decode cc pc = .ok (.ireturn, 1)) : W p l e R s m args below meth c H locs 0 0 (MQ below (jP r) args s 0 0 (pz_A a0)) (F0 m pc ls [.int r]) := by
  obtain ⟨hx, hb, hml, hown, hts, hB, hfr, hlo, hret, hlk⟩ := X
  exact W.zret hx hb hret hn (fun t ht hW => ⟨rfl, by rw [ht]; exact hJ.1, fun q hq _ => by rw [ht]; exact hJ.2.1 q hq⟩) (fun q hq => hJ.2.2 q hq) hdg hlk
theorem jG {y : MethodName} {cy : ByteArray} {nLy : Nat} {rty : FieldType} (hcode : (Cond.code y cy nLy (some rty)) ∈ pz_G) : GoodIn pz_G (Cond.code y cy nLy (some rty) :: pz_G) := fun w hw => by
  rcases List.mem_cons.mp hw with rfl | hw
  · exact pz_G_good _ hcode
  · exact pz_G_good _ hw
theorem jv_after {r : Int32} {st rest : List Value} {a : Array Value} (hJ : jH a0 s H locs) (hrun : va_Run p l e R s m args below meth c H locs 0 0 0 0 (F0 m pc ls st) rest (jP r a) (pz_A a0)) (kk : ∀ (H1 : Heap) (locs1 : List Loc), jH a0 s H1 locs1 → W p l e R s m args below meth c H1 locs1 0 0 Q (F0 m (pc + 3) ls (.int r :: rest))) : W p l e R s m args below meth c H locs 0 0 Q (F0 m pc ls st) := by
  intro T hT XT
  obtain ⟨v, st₀, t, T', L, h0, X', hLl, e1, e2, ⟨hv, hF⟩, stp⟩ := hrun T hT XT
  cases hv
  have hk : ∀ q : Nat, q < H.size → T'.heap[q]? = H[q]? := fun q hq => by
    rw [e1, ← h0]
    exact hF.2 q (by rw [h0]; exact hq) (fun z => z)
  have hz : H.size ≤ T'.heap.size := by
    rw [e1, ← h0]
    exact hF.1
  obtain ⟨t2, a1, b1⟩ := kk T'.heap (locs ++ L) ⟨Nat.le_trans hJ.1 hz, fun q hq => (hk q (Nat.lt_of_lt_of_le hq hJ.1)).trans (hJ.2.1 q hq), fun q hq => (List.mem_append.mp hq).elim (hJ.2.2 q) (hLl q)⟩ T' rfl X'
  exact ⟨t2, stp t2 a1, b1⟩
theorem jv_stat {B2 : State → Heap → Prop} {d2 nLy ix np : Nat} {y : MethodName} {cy : ByteArray} {rty : FieldType} {as rest : List Value} {r : Int32} (X : jX p R s m args meth c B d own cc nL rt) (hM : jM l a0 B2 d2 y cy nLy rty as r) (hd2 : d2 + 1 ≤ d) (hn : nLy ≤ 17) (hlk : (Cond.methodLink own ix y) ∈ pz_G) (hst : (Cond.static y) ∈ pz_G) (hini : (Cond.initialized y.cls) ∈ pz_G) (hcode : (Cond.code y cy nLy (some rty)) ∈ pz_G) (hmh : y.cls ≠ "java/lang/invoke/MethodHandle" ∧ y.cls ≠ "java/lang/invoke/VarHandle") (hpar : (parseMethodDescriptor y.desc).map (fun d => d.parameters.length) = some np) (hlen : as.length = np) (hB : jB a0 B2) (hB2 : B2 s s.heap) (hJ : jH a0 s H locs) (hls : ls.size = nL) (hcat : (rest.map fun v => v.category).sum ≤ 8) (hdg : decode cc pc = .ok (.invokestatic ix, 3)) (kk : ∀ (H1 : Heap) (locs1 : List Loc), jH a0 s H1 locs1 → W p l e R s m args below meth c H1 locs1 0 0 Q (F0 m (pc + 3) ls (.int r :: rest))) : W p l e R s m args below meth c H locs 0 0 Q (F0 m pc ls (as.reverse ++ rest)) := by
  obtain ⟨hx, hb, hml, hown, hts, hB0, hfr, hlo, hret, hlk0⟩ := X
  have hbl : FrameBlind (va_Pc as (fun U => B2 U U.heap)) := fun a U g mk hq => ⟨hq.1, hB U _ _ _ (Vm.Alike.refl U.vm) (fun _ _ _ => rfl) hq.2⟩
  exact jv_after hJ (va_runS (As := as) (rest := rest) (g := F0 m pc ls (as.reverse ++ rest)) ⟨hx, hb, hml, hown, hts⟩ hM ⟨⟨rfl, rfl, by show d2 + 1 ≤ R.frames; omega, by show 8 + (nLy + 11) + 36 * d2 ≤ R.locals; omega, pay_in hts (jG hcode), List.mem_cons_self, hts _ hcode, hts _ hini, hmh, (fun sig hs => by
    rw [hs] at hpar
    exact (Option.some.inj hpar).symm), hts _ hlk⟩, hts _ hst⟩ ⟨hbl, fun U hU hW => ⟨rfl, by show B2 U U.heap; rw [hU]; exact jB_H hB hJ hW.alike hB2⟩⟩ rfl hlen hls rfl (lv_room hcat) hdg ⟨Nat.zero_le _, Nat.zero_le _⟩) kk
theorem jv_virt {B2 : State → Heap → Prop} {d2 nLy ix np sa v : Nat} {y : MethodName} {cy : ByteArray} {rty : FieldType} {as rest : List Value} {r : Int32} (X : jX p R s m args meth c B d own cc nL rt) (hM : jM l a0 B2 d2 y cy nLy rty (.ref sa :: as) r) (hd2 : d2 + 1 ≤ d) (hn : nLy ≤ 17) (hyc : y.cls = RJ0) (hlk : (Cond.methodLink own ix y) ∈ pz_G) (hin : (Cond.instanceMethod y) ∈ pz_G) (hse : (Cond.selects RJ0 y y) ∈ pz_G) (hcode : (Cond.code y cy nLy (some rty)) ∈ pz_G) (hmh : y.cls ≠ "java/lang/invoke/MethodHandle" ∧ y.cls ≠ "java/lang/invoke/VarHandle") (hpar : (parseMethodDescriptor y.desc).map (fun d => d.parameters.length) = some np) (hlen : as.length = np) (hB : jB a0 B2) (hB2 : B2 s s.heap) (hS : jS a0 sa v s s.heap) (hJ : jH a0 s H locs) (hls : ls.size = nL) (hcat : (rest.map fun v => v.category).sum ≤ 8) (hdg : decode cc pc = .ok (.invokevirtual ix, 3)) (kk : ∀ (H1 : Heap) (locs1 : List Loc), jH a0 s H1 locs1 → W p l e R s m args below meth c H1 locs1 0 0 Q (F0 m (pc + 3) ls (.int r :: rest))) : W p l e R s m args below meth c H locs 0 0 Q (F0 m pc ls (as.reverse ++ .ref sa :: rest)) := by
  obtain ⟨hx, hb, hml, hown, hts, hB0, hfr, hlo, hret, hlk0⟩ := X
  have hbl : FrameBlind (va_Pc (.ref sa :: as) (fun U => B2 U U.heap)) := fun a U g mk hq => ⟨hq.1, hB U _ _ _ (Vm.Alike.refl U.vm) (fun _ _ _ => rfl) hq.2⟩
  obtain ⟨cell, c1, c2, c3, -⟩ := hS.1.kept (jH_S hJ).2.1
  exact jv_after hJ (va_runV (C := RJ0) (b := sa) (As := as) (rest := rest) (g := F0 m pc ls (as.reverse ++ .ref sa :: rest)) ⟨hx, hb, hml, hown, hts⟩ hM ⟨⟨rfl, rfl, by show d2 + 1 ≤ R.frames; omega, by show 8 + (nLy + 11) + 36 * d2 ≤ R.locals; omega, pay_in hts (jG hcode), List.mem_cons_self, hts _ hcode, (by rw [hyc]; exact hts _ jw_iS), hmh, (fun sig hs => by
    rw [hs] at hpar
    exact (Option.some.inj hpar).symm), hts _ hlk⟩, hts _ hin, hts _ hse⟩ ⟨hbl, ⟨cell, c1, c2, c3⟩, fun U hU hW => ⟨rfl, by show B2 U U.heap; rw [hU]; exact jB_H hB hJ hW.alike hB2⟩⟩ rfl hlen hls rfl (lv_room hcat) hdg ⟨Nat.zero_le _, Nat.zero_le _⟩) kk
end jdk
section jdm
variable {l : Launch} {a0 : Nat}
theorem j_canEncode {x : Int32} (h0 : 0 ≤ x.toInt) : jM l a0 jT 0 yJ1_canEncode_9a6ad cJ1_canEncode_9a6ad 1 .boolean [.int x] (if (255 : Int32) < x then 0 else 1) := by
  refine jM_of (by decide) (Nat.le_of_ble_eq_true rfl) (fun p e R s m args below meth c ls X hl => ?_)
  obtain ⟨hx, hb, -⟩ := id X
  have hl : lv_has ls 1 [(0, .int x)] := hl
  have hnx : ¬ x < 0 := fun z => by
    have := Int32.lt_iff_toInt_lt.mp z
    have e0 : (0 : Int32).toInt = 0 := rfl
    omega
  refine lv_iload_n hx hb dJ1_canEncode_9a6ad_0 rfl (lv_at hl 0 rfl) ?_
  refine lv_if_lt (tgt := 15) hx hb dJ1_canEncode_9a6ad_1 (by decide) (fun z => absurd z hnx) (fun _ => ?_)
  refine lv_iload_n hx hb dJ1_canEncode_9a6ad_4 rfl (lv_at hl 0 rfl) ?_
  refine lv_sipush (v := 255) hx hb dJ1_canEncode_9a6ad_5 (by decide) ?_
  refine lv_icmp_gt (tgt := 15) hx hb dJ1_canEncode_9a6ad_8 (by decide) (fun z => ?_) (fun z => ?_)
  · refine lv_iconst (v := 0) hx hb dJ1_canEncode_9a6ad_15 (by decide) ?_
    rw [if_pos (show (255 : Int32) < x from z)]
    exact jv_ret X jH_0 rfl dJ1_canEncode_9a6ad_16
  · refine lv_iconst (v := 1) hx hb dJ1_canEncode_9a6ad_11 (by decide) ?_
    refine lv_goto (tgt := 16) hx hb dJ1_canEncode_9a6ad_12 (by decide) ?_
    rw [if_neg (show ¬ (255 : Int32) < x from z)]
    exact jv_ret X jH_0 rfl dJ1_canEncode_9a6ad_16
theorem ioc_loop {p : Program} {e : Env} {R : Room} {s : State} {m : MethodId} {args : Array Value} {below : List Frame} {meth : Method} {c : Code} {v : Nat} {x r : Int32} (h0 : 0 ≤ x.toInt) (h1 : x.toInt < 256) (X : jX p R s m args meth c (jA a0 v) 0 RJ1 cJ1_indexOfChar_4cfef 6 .int) : ∀ (L : List Int32) (k : Nat) (ls : Array Slot), idxB.drop k = L → k ≤ 7 → ixF x L k = r → lv_has ls 6 [(5, .int (Int32.ofNat k)), (4, .int x.toInt8.toInt32), (0, .ref v), (1, .int x), (2, .int 0), (3, .int 7)] → W p l e R s m args below meth c s.heap [] 0 0 (MQ below (jP r) args s 0 0 (pz_A a0)) (F0 m 7 ls [])
  | [], k, ls, hd, hk, hr, hl => by
    obtain ⟨hx, hb, hml, hown, hts, hB, -⟩ := id X
    have k7 : k = 7 := by
      have := List.drop_eq_nil_iff.mp hd
      have e : idxB.length = 7 := rfl
      omega
    subst k7
    refine lv_iload hx hb dJ1_indexOfChar_4cfef_7 (lv_at hl 0 rfl) ?_
    refine lv_iload_n hx hb dJ1_indexOfChar_4cfef_9 rfl (lv_at hl 5 rfl) ?_
    refine lv_icmp_ge (tgt := 31) hx hb dJ1_indexOfChar_4cfef_10 (by decide) (fun _ => ?_) (fun z => absurd (by decide) z)
    refine lv_iconst (v := -1) hx hb dJ1_indexOfChar_4cfef_31 (by decide) ?_
    rw [← hr]
    exact jv_ret X jH_0 rfl dJ1_indexOfChar_4cfef_32
  | b :: L, k, ls, hd, hk, hr, hl => by
    obtain ⟨hx, hb, hml, hown, hts, hB, -⟩ := id X
    have hk7 : k < 7 := by
      by_cases z : k < 7
      · exact z
      · have : idxB.drop k = [] := List.drop_eq_nil_iff.mpr (by show 7 ≤ k; omega)
        rw [this] at hd
        cases hd
    have hbm : b ∈ idxB := List.mem_of_mem_drop (i := k) (by rw [hd]; exact List.mem_cons_self)
    have hgb : idxB.getD k 0 = b := by
      have : (idxB.drop k)[0]? = some b := by rw [hd]; rfl
      rw [List.getElem?_drop, Nat.add_zero] at this
      simp [List.getD, this]
    have hdL : idxB.drop (k + 1) = L := by
      have : (idxB.drop k).drop 1 = L := by rw [hd]; rfl
      rwa [List.drop_drop] at this
    have ek : (Int32.ofNat k).toInt = (k : Int) := by rw [zI_nat, zI_toInt (by omega)]
    have ek2 : (Int32.ofNat k).toNatClampNeg = k := by
      show (Int32.ofNat k).toInt.toNat = k
      rw [ek]; omega
    have hin : vp_in (Int32.ofNat k) 7 := by
      intro z
      rcases z with z | z
      · have := Int32.lt_iff_toInt_lt.mp z
        have e0 : (0 : Int32).toInt = 0 := rfl
        omega
      · rw [ek2] at z; omega
    refine lv_iload hx hb dJ1_indexOfChar_4cfef_7 (lv_at hl 0 rfl) ?_
    refine lv_iload_n hx hb dJ1_indexOfChar_4cfef_9 rfl (lv_at hl 5 rfl) ?_
    refine lv_icmp_ge (tgt := 31) hx hb dJ1_indexOfChar_4cfef_10 (by decide) (fun z => ?_) (fun _ => ?_)
    · exfalso
      have := Int32.le_iff_toInt_le.mp z
      have e0 : (7 : Int32).toInt = 7 := rfl
      omega
    refine lv_aload_n hx hb dJ1_indexOfChar_4cfef_13 rfl (lv_at hl 2 rfl) ?_
    refine lv_iload hx hb dJ1_indexOfChar_4cfef_14 (lv_at hl 0 rfl) ?_
    refine va_tb (v := .int b) hx hb hB va_S.rf hin (by rw [ek2, hgb]) dJ1_indexOfChar_4cfef_16 ?_
    refine lv_iload hx hb dJ1_indexOfChar_4cfef_17 (lv_at hl 1 rfl) ?_
    refine lv_icmp_ne (tgt := 25) hx hb dJ1_indexOfChar_4cfef_19 (by decide) (fun z => ?_) (fun z => ?_)
    · have hne : ¬ x = b := fun y => z ((idx_x h0 h1 hbm).mpr y).symm
      have hr2 : ixF x L (k + 1) = r := by
        rw [← hr]
        show _ = if x = b then Int32.ofNat k else ixF x L (k + 1)
        rw [if_neg hne]
      refine lv_iinc (k := 0) (v := Int32.ofNat (k + 1)) hx hb dJ1_indexOfChar_4cfef_25 hl rfl (by rw [zI_nat, zI_nat]; exact (zI_add _ _).trans (by rw [show ((k + 1 : Nat) : Int) = (k : Int) + 1 by omega])) (by decide) rfl (fun ls2 hl2 => ?_)
      refine lv_goto (tgt := 7) hx hb dJ1_indexOfChar_4cfef_28 (by decide) ?_
      exact ioc_loop h0 h1 X L (k + 1) ls2 hdL (by omega) hr2 hl2
    · have heq : x = b := (idx_x h0 h1 hbm).mp z.symm
      refine lv_iload hx hb dJ1_indexOfChar_4cfef_22 (lv_at hl 0 rfl) ?_
      have hr2 : r = Int32.ofNat k := by
        rw [← hr]
        exact if_pos heq
      rw [hr2]
      exact jv_ret X jH_0 rfl dJ1_indexOfChar_4cfef_24
theorem j_indexOfChar {v : Nat} {x : Int32} (h0 : 0 ≤ x.toInt) (h1 : x.toInt < 256) : jM l a0 (jA a0 v) 0 yJ1_indexOfChar_4cfef cJ1_indexOfChar_4cfef 6 .int [.ref v, .int x, .int 0, .int 7] (pz_ix x) := by
  refine jM_of (by decide) (Nat.le_of_ble_eq_true rfl) (fun p e R s m args below meth c ls X hl => ?_)
  obtain ⟨hx, hb, -⟩ := id X
  have hl : lv_has ls 6 [(0, .ref v), (1, .int x), (2, .int 0), (3, .int 7)] := hl
  refine lv_iload_n hx hb dJ1_indexOfChar_4cfef_0 rfl (lv_at hl 1 rfl) ?_
  refine lv_i2b hx hb dJ1_indexOfChar_4cfef_1 rfl ?_
  refine lv_istore hx hb dJ1_indexOfChar_4cfef_2 hl (by decide) rfl (fun ls1 hl1 => ?_)
  refine lv_iload_n hx hb dJ1_indexOfChar_4cfef_4 rfl (lv_at hl1 3 rfl) ?_
  refine lv_istore hx hb dJ1_indexOfChar_4cfef_5 hl1 (by decide) rfl (fun ls2 hl2 => ?_)
  exact ioc_loop h0 h1 X idxB 0 ls2 rfl (by decide) (ixF_ix x).symm hl2
theorem ix_out {x : Int32} (h : 256 ≤ x.toInt) : pz_ix x = -1 := by
  have ne : ∀ b : Int32, b.toInt < 256 → ¬ x = b := fun b hb z => by rw [z] at h; omega
  unfold pz_ix
  rw [if_neg (ne 99 (by decide)), if_neg (ne 120 (by decide)), if_neg (ne 115 (by decide)), if_neg (ne 114 (by decide)), if_neg (ne 103 (by decide)), if_neg (ne 106 (by decide)), if_neg (ne 116 (by decide))]
theorem j_indexOf1 {v : Nat} {x : Int32} (h0 : 0 ≤ x.toInt) : jM l a0 (jA a0 v) 1 yJ1_indexOf_4cfef cJ1_indexOf_4cfef 4 .int [.ref v, .int x, .int 0, .int 7] (pz_ix x) := by
  refine jM_of (by decide) (Nat.le_of_ble_eq_true rfl) (fun p e R s m args below meth c ls X hl => ?_)
  obtain ⟨hx, hb, hml, hown, hts, hB, hfr, hlo, -⟩ := id X
  have hl : lv_has ls 4 [(0, .ref v), (1, .int x), (2, .int 0), (3, .int 7)] := hl
  have e255 : (255 : Int32).toInt = 255 := rfl
  refine lv_iload_n hx hb dJ1_indexOf_4cfef_0 rfl (lv_at hl 1 rfl) ?_
  refine jv_stat (a0 := a0) (np := 1) (as := [.int x]) (rest := []) X (j_canEncode h0) (by decide) (by decide) jw_lCan jw_tCan jw_iL jw_cCan (by decide +kernel) (by decide +kernel) rfl jB_T trivial jH_0 hl.1 (by decide) dJ1_indexOf_4cfef_1 (fun H1 locs1 hJ => ?_)
  by_cases hc : (255 : Int32) < x
  · rw [if_pos hc]
    have hx2 := Int32.lt_iff_toInt_lt.mp hc
    refine lv_if_ne (tgt := 9) hx hb dJ1_indexOf_4cfef_4 (by decide) (fun z => absurd rfl z) (fun _ => ?_)
    refine lv_iconst (v := -1) hx hb dJ1_indexOf_4cfef_7 (by decide) ?_
    rw [ix_out (show 256 ≤ x.toInt by omega)]
    exact jv_ret X hJ rfl dJ1_indexOf_4cfef_8
  · rw [if_neg hc]
    have hx2 : x.toInt < 256 := by
      by_cases z : x.toInt < 256
      · exact z
      · exact absurd (Int32.lt_iff_toInt_lt.mpr (by omega)) hc
    refine lv_if_ne (tgt := 9) hx hb dJ1_indexOf_4cfef_4 (by decide) (fun _ => ?_) (fun z => absurd z (by decide))
    refine lv_iload_n hx hb dJ1_indexOf_4cfef_9 rfl (lv_at hl 2 rfl) ?_
    refine lv_iconst (v := 0) hx hb dJ1_indexOf_4cfef_10 (by decide) ?_
    refine va_mmax hx hb (hml.trans hl.1.symm) hown (hts _ jw_lMax) (hts _ (pz_Gin pz_maxW.1 rfl)) (hts _ (pz_Gin pz_maxW.2.1 rfl)) (hts _ (pz_Gin pz_maxW.2.2 rfl)) (by omega) (by show 0 + 13 ≤ R.locals; omega) (Nat.zero_le _) (Nat.zero_le _) dJ1_indexOf_4cfef_11 ?_
    rw [if_neg (show ¬ (0 : Int32) < 0 by decide)]
    refine lv_istore_n hx hb dJ1_indexOf_4cfef_14 rfl hl (by decide) rfl (fun ls1 hl1 => ?_)
    refine lv_iload_n hx hb dJ1_indexOf_4cfef_15 rfl (lv_at hl1 3 rfl) ?_
    refine lv_aload_n hx hb dJ1_indexOf_4cfef_16 rfl (lv_at hl1 1 rfl) ?_
    refine va_tlen (v := 7) hx hb hB (jH_S hJ) rfl dJ1_indexOf_4cfef_17 ?_
    refine va_mmin hx hb (hml.trans hl1.1.symm) hown (hts _ jw_lMin) (hts _ (pz_Gin pz_minW.1 rfl)) (hts _ (pz_Gin pz_minW.2.1 rfl)) (hts _ (pz_Gin pz_minW.2.2 rfl)) (by omega) (by show 0 + 13 ≤ R.locals; omega) (Nat.zero_le _) (Nat.zero_le _) dJ1_indexOf_4cfef_18 ?_
    rw [if_neg (show ¬ (7 : Int32) < 7 by decide)]
    refine lv_istore_n hx hb dJ1_indexOf_4cfef_21 rfl hl1 (by decide) rfl (fun ls2 hl2 => ?_)
    refine lv_iload_n hx hb dJ1_indexOf_4cfef_22 rfl (lv_at hl2 1 rfl) ?_
    refine lv_iload_n hx hb dJ1_indexOf_4cfef_23 rfl (lv_at hl2 0 rfl) ?_
    refine lv_icmp_lt (tgt := 29) hx hb dJ1_indexOf_4cfef_24 (by decide) (fun _ => ?_) (fun z => absurd (by decide) z)
    refine lv_aload_n hx hb dJ1_indexOf_4cfef_29 rfl (lv_at hl2 2 rfl) ?_
    refine lv_iload_n hx hb dJ1_indexOf_4cfef_30 rfl (lv_at hl2 3 rfl) ?_
    refine lv_iload_n hx hb dJ1_indexOf_4cfef_31 rfl (lv_at hl2 1 rfl) ?_
    refine lv_iload_n hx hb dJ1_indexOf_4cfef_32 rfl (lv_at hl2 0 rfl) ?_
    refine jv_stat (np := 4) (as := [.ref v, .int x, .int 0, .int 7]) (rest := []) X (j_indexOfChar h0 hx2) (by decide) (by decide) jw_lIoc jw_tIoc jw_iL jw_cIoc (by decide +kernel) (by decide +kernel) rfl jB_A hB hJ hl2.1 (by decide) dJ1_indexOf_4cfef_33 (fun H2 locs2 hJ2 => ?_)
    exact jv_ret X hJ2 rfl dJ1_indexOf_4cfef_36
theorem j_isLatin1 {sa v : Nat} : jM l a0 (jS a0 sa v) 0 yJ0_isLatin1_aae02 cJ0_isLatin1_aae02 1 .boolean [.ref sa] 1 := by
  refine jM_of (by decide) (Nat.le_of_ble_eq_true rfl) (fun p e R s m args below meth c ls X hl => ?_)
  obtain ⟨hx, hb, hml, hown, hts, hB, hfr, hlo, -⟩ := id X
  have hl : lv_has ls 1 [(0, .ref sa)] := hl
  refine va_gets (v := .int 1) hx hb hB.2.2.2.2 va_S.rf hown (hts _ jw_fCmp) (fun _ h => h) dJ0_isLatin1_aae02_0 ?_
  refine lv_if_eq (tgt := 17) hx hb dJ0_isLatin1_aae02_3 (by decide) (fun z => absurd z (by decide)) (fun _ => ?_)
  refine lv_aload_n hx hb dJ0_isLatin1_aae02_6 rfl (lv_at hl 0 rfl) ?_
  refine vk_getf (v := .int 0) hx hb hB.2.1 va_S.rf hown (hts _ jw_fCod) (fun _ h => h) dJ0_isLatin1_aae02_7 ?_
  refine lv_if_ne (tgt := 17) hx hb dJ0_isLatin1_aae02_10 (by decide) (fun z => absurd rfl z) (fun _ => ?_)
  refine lv_iconst (v := 1) hx hb dJ0_isLatin1_aae02_13 (by decide) ?_
  refine lv_goto (tgt := 18) hx hb dJ0_isLatin1_aae02_14 (by decide) ?_
  exact jv_ret X jH_0 rfl dJ0_isLatin1_aae02_18
theorem j_coder {sa v : Nat} : jM l a0 (jS a0 sa v) 0 yJ0_coder_7d493 cJ0_coder_7d493 1 .byte [.ref sa] 0 := by
  refine jM_of (by decide) (Nat.le_of_ble_eq_true rfl) (fun p e R s m args below meth c ls X hl => ?_)
  obtain ⟨hx, hb, hml, hown, hts, hB, hfr, hlo, -⟩ := id X
  have hl : lv_has ls 1 [(0, .ref sa)] := hl
  refine va_gets (v := .int 1) hx hb hB.2.2.2.2 va_S.rf hown (hts _ jw_fCmp) (fun _ h => h) dJ0_coder_7d493_0 ?_
  refine lv_if_eq (tgt := 13) hx hb dJ0_coder_7d493_3 (by decide) (fun z => absurd z (by decide)) (fun _ => ?_)
  refine lv_aload_n hx hb dJ0_coder_7d493_6 rfl (lv_at hl 0 rfl) ?_
  refine vk_getf (v := .int 0) hx hb hB.2.1 va_S.rf hown (hts _ jw_fCod) (fun _ h => h) dJ0_coder_7d493_7 ?_
  refine lv_goto (tgt := 14) hx hb dJ0_coder_7d493_10 (by decide) ?_
  exact jv_ret X jH_0 rfl dJ0_coder_7d493_14
theorem j_length {sa v : Nat} : jM l a0 (jS a0 sa v) 1 yJ0_length_8abf5 cJ0_length_8abf5 1 .int [.ref sa] 7 := by
  refine jM_of (by decide) (Nat.le_of_ble_eq_true rfl) (fun p e R s m args below meth c ls X hl => ?_)
  obtain ⟨hx, hb, hml, hown, hts, hB, hfr, hlo, -⟩ := id X
  have hl : lv_has ls 1 [(0, .ref sa)] := hl
  refine lv_aload_n hx hb dJ0_length_8abf5_0 rfl (lv_at hl 0 rfl) ?_
  refine vk_getf (v := .ref v) hx hb hB.2.2.1 va_S.rf hown (hts _ jw_fVal) (fun _ h => h) dJ0_length_8abf5_1 ?_
  refine va_tlen (v := 7) hx hb hB.2.2.2.1 va_S.rf rfl dJ0_length_8abf5_4 ?_
  refine lv_aload_n hx hb dJ0_length_8abf5_5 rfl (lv_at hl 0 rfl) ?_
  refine jv_virt (np := 0) (as := []) (rest := [.int 7]) X (j_coder (v := v)) (by decide) (by decide) rfl jw_lCod jw_iCod jw_sCod jw_cCod (by decide +kernel) (by decide +kernel) rfl jB_S hB hB jH_0 hl.1 (by decide) dJ0_length_8abf5_6 (fun H1 locs1 hJ => ?_)
  refine lv_ishr hx hb dJ0_length_8abf5_9 ?_
  exact jv_ret (r := 7) X hJ rfl dJ0_length_8abf5_10
theorem j_indexOf2 {sa v : Nat} {x : Int32} (h0 : 0 ≤ x.toInt) : jM l a0 (jS a0 sa v) 2 yJ0_indexOf_7cf53 cJ0_indexOf_7cf53 3 .int [.ref sa, .int x, .int 0] (pz_ix x) := by
  refine jM_of (by decide) (Nat.le_of_ble_eq_true rfl) (fun p e R s m args below meth c ls X hl => ?_)
  obtain ⟨hx, hb, hml, hown, hts, hB, hfr, hlo, -⟩ := id X
  have hl : lv_has ls 3 [(0, .ref sa), (1, .int x), (2, .int 0)] := hl
  refine lv_aload_n hx hb dJ0_indexOf_7cf53_0 rfl (lv_at hl 0 rfl) ?_
  refine jv_virt (np := 0) (as := []) (rest := []) X (j_isLatin1 (v := v)) (by decide) (by decide) rfl jw_lLat jw_iLat jw_sLat jw_cLat (by decide +kernel) (by decide +kernel) rfl jB_S hB hB jH_0 hl.1 (by decide) dJ0_indexOf_7cf53_1 (fun H1 locs1 hJ => ?_)
  refine lv_if_eq (tgt := 23) hx hb dJ0_indexOf_7cf53_4 (by decide) (fun z => absurd z (by decide)) (fun _ => ?_)
  refine lv_aload_n hx hb dJ0_indexOf_7cf53_7 rfl (lv_at hl 0 rfl) ?_
  refine vk_getf (v := .ref v) hx hb hB.2.2.1 (jH_S hJ) hown (hts _ jw_fVal) (fun _ h => h) dJ0_indexOf_7cf53_8 ?_
  refine lv_iload_n hx hb dJ0_indexOf_7cf53_11 rfl (lv_at hl 1 rfl) ?_
  refine lv_iload_n hx hb dJ0_indexOf_7cf53_12 rfl (lv_at hl 2 rfl) ?_
  refine lv_aload_n hx hb dJ0_indexOf_7cf53_13 rfl (lv_at hl 0 rfl) ?_
  refine jv_virt (np := 0) (as := []) (rest := [.int 0, .int x, .ref v]) X (j_length (v := v)) (by decide) (by decide) rfl jw_lLen jw_iLen jw_sLen jw_cLen (by decide +kernel) (by decide +kernel) rfl jB_S hB hB hJ hl.1 (Nat.le_of_ble_eq_true rfl) dJ0_indexOf_7cf53_14 (fun H2 locs2 hJ2 => ?_)
  refine jv_stat (np := 4) (as := [.ref v, .int x, .int 0, .int 7]) (rest := []) X (j_indexOf1 h0) (by decide) (by decide) jw_lLix jw_tLix jw_iL jw_cLix (by decide +kernel) (by decide +kernel) rfl jB_A hB.2.2.2.1 hJ2 hl.1 (by decide) dJ0_indexOf_7cf53_17 (fun H3 locs3 hJ3 => ?_)
  refine lv_goto (tgt := 36) hx hb dJ0_indexOf_7cf53_20 (by decide) ?_
  exact jv_ret X hJ3 rfl dJ0_indexOf_7cf53_36
end jdm
theorem pz_idxM (l : Launch) (D : va_G) (kA : Nat → ClassId) (en : pz_Env) (a0 : Nat) : pz_IdxM l D kA en a0 := by
  intro x h0 h1
  refine Met.ofW (cc := cJ0_indexOf_0f7a4) (maxL := 2) (ret := some .int) (by decide) rfl ?_
  intro p e s m args below meth c s₁ BL hml hv
  obtain ⟨rfl, hP⟩ := hv
  have hts : ∀ w ∈ pz_G, w.before #[Value.ref en.2.2.2, .int x] s = true := fun w hw => atoms_spec (ws := Cond.code yJ0_indexOf_0f7a4 cJ0_indexOf_0f7a4 2 (some .int) :: pz_G) BL.pre w (List.mem_cons_of_mem _ hw)
  have hown : s.vm.findClass RJ0 = some m.cls := findClass_of_methodNamed BL.named
  obtain ⟨v, hS⟩ := jS_of hP.2.2.2.2.2.2.2.2.1.2.2
  have X : jX p ({ frames := 5, cells := 0, slots := 0, locals := 180 }) s m #[Value.ref en.2.2.2, .int x] meth c (jS a0 en.2.2.2 v) 3 RJ0 cJ0_indexOf_0f7a4 2 .int := ⟨BL.exec, BL.bytes, hml, hown, hts, hS, by decide, by decide, BL.returns, BL.notSynchronized⟩
  have hx := BL.exec
  have hb := BL.bytes
  rw [lg_entry_eq]
  have hl := lv_entry ([.ref en.2.2.2, .int x]) (n := 2) (Nat.le_of_ble_eq_true rfl)
  generalize (lg_sl ([.ref en.2.2.2, .int x]) ++ List.replicate (2 - (lg_sl ([.ref en.2.2.2, .int x])).length) Slot.unset).toArray = ls at hl ⊢
  have hl : lv_has ls 2 [(0, .ref en.2.2.2), (1, .int x)] := hl
  refine lv_aload_n hx hb dJ0_indexOf_0f7a4_0 rfl (lv_at hl 0 rfl) ?_
  refine lv_iload_n hx hb dJ0_indexOf_0f7a4_1 rfl (lv_at hl 1 rfl) ?_
  refine lv_iconst (v := 0) hx hb dJ0_indexOf_0f7a4_2 (by decide) ?_
  refine jv_virt (np := 2) (as := [.int x, .int 0]) (rest := []) X (j_indexOf2 (v := v) h0) (by decide) (by decide) rfl jw_lInd2 jw_iInd2 jw_sInd2 jw_cInd2 (by decide +kernel) (by decide +kernel) rfl jB_S hS hS jH_0 hl.1 (by decide) dJ0_indexOf_0f7a4_3 (fun H1 locs1 hJ => ?_)
  exact jv_ret X hJ rfl dJ0_indexOf_0f7a4_6

