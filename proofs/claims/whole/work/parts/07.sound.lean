/-! the pure machine is sound -/
def pz_tys (kA : Nat → ClassId) : List (ClassId × FieldType) := [(kA 0, .int), (kA 1, .char), (kA 2, .long), (kA 3, .object RX0), (kA 4, .object RX5)]
def pz_tr (kA : Nat → ClassId) (e : pz_E) : va_E := match e with
  | .inl a => .inl (kA a.1, a.2)
  | .inr o => .inr o
def pz_A (a0 : Nat) : Nat → Prop := fun q => a0 ≤ q
def pz_Rep (D : va_G) (kA : Nat → ClassId) (a0 : Nat) (h : pz_H) (H : Heap) : Prop := ∃ (L : List Nat) (f : Nat → va_E), va_P D vwCl (va_pl L f) H ∧ va_D (pz_A a0) (va_pl L f) ∧ ∀ (a : Nat) (e : pz_E), h a = some e → a ∈ L ∧ f a = pz_tr kA e
def pz_Lr (nL : Nat) (ls : List (Option Value)) (la : Array Slot) : Prop := la.size = nL ∧ lv_wf la ∧ ∀ (i : Nat) (v : Value), ls[i]? = some (some v) → la[i]? = some (.val v)
def pz_Es : List String := ["java/lang/IllegalArgumentException", "java/lang/IllegalStateException", "java/lang/IndexOutOfBoundsException", "java/lang/UnsupportedOperationException", "java/util/NoSuchElementException"]
def pz_atE (e : Nat × Nat × String × Nat × Nat) : List Cond := pz_at RX6 e.2.2.2.1 e.2.2.1 (pz_ix0 e.2.2.1) (pz_rx e.2.2.1) pz_NM
def pz_Str (a0 sa : Nat) (U : State) (H : Heap) : Prop := (∃ adK adV : Nat → Nat, vk_S 1 [7] [[99, 120, 115, 114, 103, 106, 116]] adK adV (pz_A a0) U H ∧ adK 0 = sa) ∧ va_Z "java/lang/String" "COMPACT_STRINGS" "Z" (.int 1) (pz_A a0) U H
def pz_S (D : va_G) (kA : Nat → ClassId) (en : pz_Env) (a0 : Nat) (U : State) (H : Heap) : Prop :=
  va_K D vwCl (pz_tys kA) U ∧ (∀ e ∈ pz_nestL, ∀ m, pz_tab e.2.2.1 = some m → va_Nw (.methodLinkNest (pz_R e.1) e.2.1 m.1 "CueStack") U) ∧ (∀ e ∈ pz_excL, ∀ w ∈ (pz_atE e).filter (fun w => !goodWord w), va_Nw w U) ∧ (∀ E1 ∈ pz_Es, ∀ E2 ∈ pz_Es, E1 ≠ E2 → va_Nc E1 E2 U) ∧ (∀ E ∈ pz_Es, va_Nw (.castable E E) U) ∧ (va_AO RX0 U ∧ va_AO RX5 U) ∧ (∀ q ∈ pz_strL, ∃ sa, vk_R RX6 q.1 q.2 sa U) ∧ vk_R RX7 pz_key.1 "cxsrgjt" en.2.2.2 U ∧ (vx_Zq Bundle.tN "UNASSIGNED_STACK" Bundle.steD (pz_A a0) U H ∧ vx_Zq Bundle.tN "SUPPRESSED_SENTINEL" Bundle.listD (pz_A a0) U H ∧ pz_Str a0 en.2.2.2 U H) ∧ (va_X en.1 en.2.1 en.2.2.1 U H ∧ en.1 < a0 ∧ a0 ≤ H.size)
theorem pz_exc_g : ∀ e ∈ pz_excL, ∀ w ∈ (pz_atE e).filter goodWord, w ∈ pz_G := by
  intro e he
  simp only [pz_excL, List.mem_cons, List.not_mem_nil, or_false] at he
  rcases he with rfl | rfl | rfl | rfl | rfl
  · exact fun w hw => List.mem_filter.mpr ⟨pz_ex0_g w hw, (List.mem_filter.mp hw).2⟩
  · exact fun w hw => List.mem_filter.mpr ⟨pz_ex1_g w hw, (List.mem_filter.mp hw).2⟩
  · exact fun w hw => List.mem_filter.mpr ⟨pz_ex2_g w hw, (List.mem_filter.mp hw).2⟩
  · exact fun w hw => List.mem_filter.mpr ⟨pz_ex3_g w hw, (List.mem_filter.mp hw).2⟩
  · exact fun w hw => List.mem_filter.mpr ⟨pz_ex4_g w hw, (List.mem_filter.mp hw).2⟩
theorem pz_exc_c : ∀ e ∈ pz_excL, ∀ w ∈ (pz_atE e).filter (fun w => !goodWord w), pz_cdw w = true := by
  intro e he
  simp only [pz_excL, List.mem_cons, List.not_mem_nil, or_false] at he
  rcases he with rfl | rfl | rfl | rfl | rfl
  · exact pz_ex0_c
  · exact pz_ex1_c
  · exact pz_ex2_c
  · exact pz_ex3_c
  · exact pz_ex4_c
theorem pz_exc_o : ∀ e ∈ pz_excL, e.1 = 6 ∧ Bundle.fit e.2.2.1 = true ∧ (∀ w ∈ Cond.classLink RX6 e.2.1 e.2.2.1 :: Cond.initialized e.2.2.1 :: pz_atE e, vx_ot w = true) ∧ Cond.classLink RX6 e.2.1 e.2.2.1 ∈ lw_tbl ∧ Cond.initialized e.2.2.1 ∈ lw_tbl := by
  intro e he
  simp only [pz_excL, List.mem_cons, List.not_mem_nil, or_false] at he
  rcases he with rfl | rfl | rfl | rfl | rfl
  · exact ⟨rfl, by decide +kernel, pz_ex0_o, List.mem_of_getElem? pz_ex0_w.1, List.mem_of_getElem? pz_ex0_w.2⟩
  · exact ⟨rfl, by decide +kernel, pz_ex1_o, List.mem_of_getElem? pz_ex1_w.1, List.mem_of_getElem? pz_ex1_w.2⟩
  · exact ⟨rfl, by decide +kernel, pz_ex2_o, List.mem_of_getElem? pz_ex2_w.1, List.mem_of_getElem? pz_ex2_w.2⟩
  · exact ⟨rfl, by decide +kernel, pz_ex3_o, List.mem_of_getElem? pz_ex3_w.1, List.mem_of_getElem? pz_ex3_w.2⟩
  · exact ⟨rfl, by decide +kernel, pz_ex4_o, List.mem_of_getElem? pz_ex4_w.1, List.mem_of_getElem? pz_ex4_w.2⟩
theorem pz_rx_ok (E : String) : decode (pz_rx E) 0 = .ok (.aload_n 0, 1) ∧ decode (pz_rx E) 1 = .ok (.aload_n 1, 1) ∧ decode (pz_rx E) 2 = .ok (.invokespecial (pz_ix0 E), 3) ∧ decode (pz_rx E) 5 = .ok (.return_, 1) := by
  unfold pz_rx pz_ix0
  split <;> refine ⟨?_, ?_, ?_, ?_⟩ <;> decide +kernel
theorem pz_S_move {D : va_G} {kA : Nat → ClassId} {en : pz_Env} {a0 : Nat} {s U : State} {H0 H : Heap} (h : pz_S D kA en a0 s H0) (hW : s.WarmedH U.vm) (hk : ∀ q : Nat, q < H0.size → ¬ pz_A a0 q → H[q]? = H0[q]?) (hz : H0.size ≤ H.size) : pz_S D kA en a0 U H := by
  obtain ⟨h1, h2, h3, h4, h5, ⟨h6, h6'⟩, h7, h8, ⟨h9, h9', ⟨adK, adV, hs1, hs2⟩, hs3⟩, h10, h11, h12⟩ := h
  refine ⟨va_K.moved hW.alike h1, fun e he m hm => va_Nw.warmM hW (h2 e he m hm), fun e he w hw => ?_, fun a ha b hb hne => va_Nc.moved hW.alike (h4 a ha b hb hne), fun E hE => va_Nw.warmC hW (h5 E hE), ⟨va_AO.moved hW.alike h6, va_AO.moved hW.alike h6'⟩, fun q hq => ?_, vk_R.warm hW h8, ⟨(vx_Zq.moved hW.alike h9).kept hk, (vx_Zq.moved hW.alike h9').kept hk, ⟨adK, adV, (vk_S.moved hW.alike hs1).kept hk, hs2⟩, (va_Z.moved hW.alike hs3).kept hk⟩, (va_X.moved hW.alike h10).kept (hk _ (by omega) (by unfold pz_A; omega)), h11, by omega⟩
  · have hc := pz_exc_c e he w hw
    have h3' := h3 e he w hw
    cases w <;> first | exact va_Nw.warmC hW h3' | exact va_Nw.warmD hW h3' | (exact absurd hc (by simp [pz_cdw]))
  · obtain ⟨sa, hs⟩ := h7 q hq
    exact ⟨sa, vk_R.warm hW hs⟩
/-- the table's words -/
theorem pz_fld_spec {own i ci k : Nat} (h : pz_fld own i = some (ci, k)) : ci < 8 ∧ k < pz_N ci ∧ (pz_T ci k).1 = pz_R ci ∧ Cond.fieldLink (pz_R own) i (pz_T ci k).1 (pz_T ci k).2.1 (pz_T ci k).2.2.1 ∈ pz_G := by
  unfold pz_fld at h
  cases hf : pz_fldL.find? (fun e => e.1 == own && e.2.1 == i) with
  | none => rw [hf] at h; cases h
  | some e =>
    rw [hf] at h
    have hm := List.mem_of_find?_eq_some hf
    have hp := List.find?_some hf
    obtain ⟨o, j, c, k', pos⟩ := e
    simp only [Bool.and_eq_true, beq_iff_eq] at hp
    obtain ⟨rfl, rfl⟩ := hp
    simp only [Option.map_some, Option.some.injEq, Prod.mk.injEq] at h
    obtain ⟨rfl, rfl⟩ := h
    obtain ⟨h1, h2, h3, h4⟩ := pz_fldL_ok _ hm
    exact ⟨h1, h2, h3, pz_Gin h4 rfl⟩
theorem pz_mth_spec {own i : Nat} {y : Nat} (h : pz_mth own i = some y) : ∃ m, pz_tab y = some m ∧ Cond.methodLink (pz_R own) i m.1 ∈ pz_G := by
  unfold pz_mth at h
  cases hf : pz_mthL.find? (fun e => e.1 == own && e.2.1 == i) with
  | none => rw [hf] at h; cases h
  | some e =>
    rw [hf] at h
    have hm := List.mem_of_find?_eq_some hf
    have hp := List.find?_some hf
    obtain ⟨o, j, c, pos⟩ := e
    simp only [Bool.and_eq_true, beq_iff_eq] at hp
    obtain ⟨rfl, rfl⟩ := hp
    simp only [Option.map_some, Option.some.injEq] at h
    subst h
    obtain ⟨m, h1, h2⟩ := pz_mthL_in _ hm
    exact ⟨m, h1, pz_Gin h2 rfl⟩
theorem pz_nest_spec {own i : Nat} {y : Nat} (h : pz_nest own i = some y) : ∃ e ∈ pz_nestL, e.1 = own ∧ e.2.1 = i ∧ e.2.2.1 = y := by
  unfold pz_nest at h
  cases hf : pz_nestL.find? (fun e => e.1 == own && e.2.1 == i) with
  | none => rw [hf] at h; cases h
  | some e =>
    rw [hf] at h
    have hm := List.mem_of_find?_eq_some hf
    have hp := List.find?_some hf
    obtain ⟨o, j, c, pos⟩ := e
    simp only [Bool.and_eq_true, beq_iff_eq] at hp
    obtain ⟨rfl, rfl⟩ := hp
    simp only [Option.map_some, Option.some.injEq] at h
    subst h
    exact ⟨_, hm, rfl, rfl, rfl⟩
theorem pz_nat_spec {own i : Nat} {y : Nat} (h : pz_nat own i = some y) : Cond.methodLink (pz_R own) i (pz_natN y) ∈ pz_G := by
  unfold pz_nat at h
  cases hf : pz_natL.find? (fun e => e.1 == own && e.2.1 == i) with
  | none => rw [hf] at h; cases h
  | some e =>
    rw [hf] at h
    have hm := List.mem_of_find?_eq_some hf
    have hp := List.find?_some hf
    obtain ⟨o, j, c, pos⟩ := e
    simp only [Bool.and_eq_true, beq_iff_eq] at hp
    obtain ⟨rfl, rfl⟩ := hp
    simp only [Option.map_some, Option.some.injEq] at h
    subst h
    exact pz_Gin (pz_natL_ok _ hm) rfl
theorem pz_cls_spec {own i : Nat} {y : Nat} (h : pz_cls own i = some y) : y < 8 ∧ Cond.classLink (pz_R own) i (pz_R y) ∈ lw_tbl := by
  unfold pz_cls at h
  cases hf : pz_clsL.find? (fun e => e.1 == own && e.2.1 == i) with
  | none => rw [hf] at h; cases h
  | some e =>
    rw [hf] at h
    have hm := List.mem_of_find?_eq_some hf
    have hp := List.find?_some hf
    obtain ⟨o, j, c, pos⟩ := e
    simp only [Bool.and_eq_true, beq_iff_eq] at hp
    obtain ⟨rfl, rfl⟩ := hp
    simp only [Option.map_some, Option.some.injEq] at h
    subst h
    exact ⟨(pz_clsL_ok _ hm).1, List.mem_of_getElem? (pz_clsL_ok _ hm).2⟩
theorem pz_cst_spec {own i : Nat} {y : Int32} (h : pz_cst own i = some y) : Cond.constant (pz_R own) i y ∈ lw_tbl := by
  unfold pz_cst at h
  cases hf : pz_cstL.find? (fun e => e.1 == own && e.2.1 == i) with
  | none => rw [hf] at h; cases h
  | some e =>
    rw [hf] at h
    have hm := List.mem_of_find?_eq_some hf
    have hp := List.find?_some hf
    obtain ⟨o, j, c, pos⟩ := e
    simp only [Bool.and_eq_true, beq_iff_eq] at hp
    obtain ⟨rfl, rfl⟩ := hp
    simp only [Option.map_some, Option.some.injEq] at h
    subst h
    exact List.mem_of_getElem? (pz_cstL_ok _ hm)
theorem pz_dbl_spec {own i : Nat} {y : UInt64} (h : pz_dbl own i = some y) : Cond.constantDouble (pz_R own) i y ∈ lw_tbl := by
  unfold pz_dbl at h
  cases hf : pz_dblL.find? (fun e => e.1 == own && e.2.1 == i) with
  | none => rw [hf] at h; cases h
  | some e =>
    rw [hf] at h
    have hm := List.mem_of_find?_eq_some hf
    have hp := List.find?_some hf
    obtain ⟨o, j, c, pos⟩ := e
    simp only [Bool.and_eq_true, beq_iff_eq] at hp
    obtain ⟨rfl, rfl⟩ := hp
    simp only [Option.map_some, Option.some.injEq] at h
    subst h
    exact List.mem_of_getElem? (pz_dblL_ok _ hm)
theorem pz_obj_spec {own i : Nat} (h : pz_obj own i = true) : Cond.methodLink (pz_R own) i objectInit ∈ pz_G := by
  unfold pz_obj at h
  cases hf : pz_objL.find? (fun e => e.1 == own && e.2.1 == i) with
  | none => rw [hf] at h; cases h
  | some e =>
    have hm := List.mem_of_find?_eq_some hf
    have hp := List.find?_some hf
    obtain ⟨o, j, pos⟩ := e
    simp only [Bool.and_eq_true, beq_iff_eq] at hp
    obtain ⟨rfl, rfl⟩ := hp
    exact pz_Gin (pz_objL_ok _ hm) rfl
theorem pz_exc_spec {own i : Nat} {E : String} {ic : Nat} (h : pz_exc own i = some (E, ic)) : ∃ e ∈ pz_excL, e.1 = own ∧ e.2.1 = i ∧ e.2.2.1 = E ∧ e.2.2.2.1 = ic := by
  unfold pz_exc at h
  cases hf : pz_excL.find? (fun e => e.1 == own && e.2.1 == i) with
  | none => rw [hf] at h; cases h
  | some e =>
    rw [hf] at h
    have hm := List.mem_of_find?_eq_some hf
    have hp := List.find?_some hf
    simp only [Bool.and_eq_true, beq_iff_eq] at hp
    simp only [Option.map_some, Option.some.injEq, Prod.mk.injEq] at h
    exact ⟨e, hm, hp.1, hp.2, h.1, h.2⟩
theorem pz_str_spec {i : Nat} {tx : String} (h : pz_str i = some tx) : (i, tx) ∈ pz_strL := by
  unfold pz_str at h
  cases hf : pz_strL.find? (fun e => e.1 == i) with
  | none => rw [hf] at h; cases h
  | some e =>
    rw [hf] at h
    have hm := List.mem_of_find?_eq_some hf
    have hp := List.find?_some hf
    simp only [beq_iff_eq] at hp
    simp only [Option.map_some, Option.some.injEq] at h
    subst hp; subst h
    exact hm
theorem pz_tab_mem {y : Nat} {e : pz_ME} (h : pz_tab y = some e) : e ∈ pz_tabL := List.mem_of_getElem? h
theorem pz_Gt {w : Cond} (h : w ∈ pz_G) : w ∈ lw_tbl := (List.mem_filter.mp h).1
theorem pz_G_good : ∀ w ∈ pz_G, w ∈ pz_G ∧ ((w.onTables && w.keeps) = true ∨ ∃ ty, w = .arrayClass ty) := fun w h => ⟨h, good_of_word (List.mem_filter.mp h).2⟩
theorem pz_Gc {w : Cond} (h : w ∈ lw_tbl) (g : goodWord w = true := by rfl) : w ∈ pz_G := List.mem_filter.mpr ⟨h, g⟩
theorem pz_cst_in {own i : Nat} {v : Int32} (h : pz_cst own i = some v) : Cond.constant (pz_R own) i v ∈ pz_G := pz_Gc (pz_cst_spec h)
theorem pz_dbl_in {own i : Nat} {v : UInt64} (h : pz_dbl own i = some v) : Cond.constantDouble (pz_R own) i v ∈ pz_G := pz_Gc (pz_dbl_spec h)
theorem pz_blank_ok (ci : Nat) : ∀ j, j < pz_N ci → defaultValue (pz_ty ci j) = vp_V (pz_blank ci) j := by
  intro j hj
  unfold vp_V pz_blank
  rw [List.getD_eq_getElem?_getD, List.getElem?_map, List.getElem?_range hj]
  rfl
theorem pz_arr_uniq {U : State} {c1 c2 : ClassId} {ty : FieldType} (h1 : ArrOfT U c1 ty ∧ va_RA U c1 ty) (h2 : ArrOfT U c2 ty ∧ va_RA U c2 ty) (hp : ∀ C, ty ≠ .object C := by intro C hC; cases hC) : c1 = c2 := by
  have e1 : U.vm.findClass ("[" ++ ty.toString) = some c1 := by
    have := h1.2
    cases ty <;> first | exact this | exact absurd rfl (hp _)
  have e2 : U.vm.findClass ("[" ++ ty.toString) = some c2 := by
    have := h2.2
    cases ty <;> first | exact this | exact absurd rfl (hp _)
  exact Option.some.inj (e1.symm.trans e2)
theorem pz_arr_uniqq {U : State} {c1 c2 : ClassId} {C : String} (h1 : ArrOfT U c1 (.object C) ∧ va_RA U c1 (.object C)) (h2 : ArrOfT U c2 (.object C) ∧ va_RA U c2 (.object C)) : c1 = c2 := by
  obtain ⟨_, _, -, -, -, e1⟩ := h1.2
  obtain ⟨_, _, -, -, -, e2⟩ := h2.2
  exact Option.some.inj (e1.symm.trans e2)
/-- locals -/
def pz_al (ls : List (Option Value)) : List (Nat × Value) := (List.range ls.length).filterMap (fun i => match ls[i]? with
  | some (some v) => some (i, v)
  | _ => none)
theorem pz_al_mem {ls : List (Option Value)} {q : Nat × Value} : q ∈ pz_al ls ↔ ls[q.1]? = some (some q.2) := by
  obtain ⟨j, v⟩ := q
  constructor
  · intro h
    obtain ⟨i, -, hi⟩ := List.mem_filterMap.mp h
    cases hc : ls[i]? with
    | none => rw [hc] at hi; cases hi
    | some o => cases o with
      | none => rw [hc] at hi; cases hi
      | some u =>
        rw [hc] at hi
        cases hi
        exact hc
  · intro h
    refine List.mem_filterMap.mpr ⟨j, List.mem_range.mpr (List.getElem?_eq_some_iff.mp h).1, ?_⟩
    show (match ls[j]? with
      | some (some v) => some (j, v)
      | _ => none) = some (j, v)
    rw [show ls[j]? = some (some v) from h]
theorem pz_Lr_has {nL : Nat} {ls : List (Option Value)} {la : Array Slot} (h : pz_Lr nL ls la) : lv_has la nL (pz_al ls) := ⟨h.1, h.2.1, fun q hq => h.2.2 q.1 q.2 (pz_al_mem.mp hq)⟩
theorem pz_Lr_set {nL : Nat} {ls : List (Option Value)} {la' : Array Slot} {i : Nat} {v : Value} (ho : pz_ok ls i = true) (h : lv_has la' nL ((i, v) :: (pz_al ls).filter (fun q => !(q.1 == i) && !(q.1 + 1 == i && q.2.category == 2)))) : pz_Lr nL (ls.set i (some v)) la' := by
  refine ⟨h.1, h.2.1, fun j u hj => ?_⟩
  by_cases e : i = j
  · subst e
    have h1 : i < ls.length := by
      have := (List.getElem?_eq_some_iff.mp hj).1
      simpa using this
    rw [List.getElem?_set_self h1] at hj
    have e9 := Option.some.inj (Option.some.inj hj)
    rw [← e9]
    exact h.2.2 (i, v) List.mem_cons_self
  · rw [List.getElem?_set_ne e] at hj
    refine h.2.2 (j, u) (List.mem_cons_of_mem _ (List.mem_filter.mpr ⟨pz_al_mem.mpr hj, ?_⟩))
    have h1 : (j == i) = false := by simp; omega
    have h2 : (j + 1 == i && u.category == 2) = false := by
      by_cases e2 : j + 1 = i
      · subst e2
        unfold pz_ok at ho
        simp only [hj, beq_iff_eq] at ho
        simp [ho]
      · simp [e2]
    simp only [h1, h2]
    rfl
theorem pz_Lr_set2 {nL : Nat} {ls : List (Option Value)} {la' : Array Slot} {i : Nat} {v : Value} (ho : pz_ok ls i = true) (h : lv_has la' nL ((i, v) :: (pz_al ls).filter (fun q => !(q.1 == i) && (!(q.1 == i + 1) && !(q.1 + 1 == i && q.2.category == 2))))) : pz_Lr nL ((ls.set i (some v)).set (i + 1) none) la' := by
  refine ⟨h.1, h.2.1, fun j u hj => ?_⟩
  by_cases e3 : i + 1 = j
  · subst e3
    have h1 : i + 1 < ls.length := by
      have := (List.getElem?_eq_some_iff.mp hj).1
      simpa using this
    rw [List.getElem?_set_self (by simpa using h1)] at hj
    cases hj
  · rw [List.getElem?_set_ne e3] at hj
    by_cases e : i = j
    · subst e
      have h1 : i < ls.length := by
        have := (List.getElem?_eq_some_iff.mp hj).1
        simpa using this
      rw [List.getElem?_set_self h1] at hj
      have e9 := Option.some.inj (Option.some.inj hj)
      rw [← e9]
      exact h.2.2 (i, v) List.mem_cons_self
    · rw [List.getElem?_set_ne e] at hj
      refine h.2.2 (j, u) (List.mem_cons_of_mem _ (List.mem_filter.mpr ⟨pz_al_mem.mpr hj, ?_⟩))
      have h1 : (j == i) = false := by simp; omega
      have h1' : (j == i + 1) = false := by simp; omega
      have h2 : (j + 1 == i && u.category == 2) = false := by
        by_cases e2 : j + 1 = i
        · subst e2
          unfold pz_ok at ho
          simp only [hj, beq_iff_eq] at ho
          simp [ho]
        · simp [e2]
      simp only [h1, h1', h2]
      rfl
/-- the heap's picture: one thing of it, a write, a making -/
theorem pz_Rep_at {D : va_G} {kA : Nat → ClassId} {a0 : Nat} {h : pz_H} {L : List Nat} {f : Nat → va_E} {a : Nat} {e : pz_E} (hh : ∀ (a : Nat) (e : pz_E), h a = some e → a ∈ L ∧ f a = pz_tr kA e) (ha : h a = some e) : ∃ k : Nat, (va_pl L f)[k]? = some (a, pz_tr kA e) := by
  obtain ⟨h1, h2⟩ := hh a e ha
  obtain ⟨k, hk⟩ := va_pl_get (X := []) (f := f) h1
  rw [h2] at hk
  exact ⟨k, hk⟩
theorem pz_Rep_set {D : va_G} {kA : Nat → ClassId} {a0 : Nat} {h : pz_H} {L : List Nat} {f : Nat → va_E} {a k : Nat} {e e2 : pz_E} {v2 : va_E} {H1 : Heap} (hD : va_D (pz_A a0) (va_pl L f)) (hh : ∀ (a : Nat) (e : pz_E), h a = some e → a ∈ L ∧ f a = pz_tr kA e) (ha : h a = some e) (hk : (va_pl L f)[k]? = some (a, pz_tr kA e)) (hv : v2 = pz_tr kA e2) (hP1 : va_P D vwCl ((va_pl L f).set k (a, v2)) H1) (hD1 : va_D (pz_A a0) ((va_pl L f).set k (a, v2))) : pz_Rep D kA a0 (va_up h a (some e2)) H1 := by
  obtain ⟨h1, h2⟩ := hh a e ha
  have hs := va_pl_set (X := []) (e := v2) hD h1 (k := k) (by rw [h2]; exact hk)
  simp only [List.nil_append] at hs
  rw [hs] at hP1 hD1
  refine ⟨L, va_up f a v2, hP1, hD1, fun b eb hb => ?_⟩
  unfold va_up at hb ⊢
  by_cases e0 : b = a
  · subst e0
    rw [if_pos rfl] at hb ⊢
    cases hb
    exact ⟨h1, hv⟩
  · rw [if_neg e0] at hb ⊢
    exact hh b eb hb
theorem pz_Rep_push {D : va_G} {kA : Nat → ClassId} {a0 : Nat} {h : pz_H} {L : List Nat} {f : Nat → va_E} {q : Nat} {e2 : pz_E} {v2 : va_E} {H1 : Heap} (hh : ∀ (a : Nat) (e : pz_E), h a = some e → a ∈ L ∧ f a = pz_tr kA e) (hv : v2 = pz_tr kA e2) (hP1 : va_P D vwCl (va_pl L f ++ [(q, v2)]) H1) (hD1 : va_D (pz_A a0) (va_pl L f ++ [(q, v2)])) : h q = none ∧ pz_Rep D kA a0 (va_up h q (some e2)) H1 := by
  have hq : q ∉ L := va_pl_fresh2 (X := []) (f := f) (A := pz_A a0) (e := v2) hD1
  rw [va_pl_push hq] at hP1 hD1
  refine ⟨?_, L ++ [q], va_up f q v2, hP1, hD1, fun b eb hb => ?_⟩
  · cases hc : h q with
    | none => rfl
    | some e => exact absurd (hh q e hc).1 hq
  · unfold va_up at hb ⊢
    by_cases e0 : b = q
    · subst e0
      rw [if_pos rfl] at hb ⊢
      cases hb
      exact ⟨List.mem_append_right _ List.mem_cons_self, hv⟩
    · rw [if_neg e0] at hb ⊢
      exact ⟨List.mem_append_left _ (hh b eb hb).1, (hh b eb hb).2⟩
theorem pz_vin {i : Int32} {k n : Nat} (hk : i.toInt = (k : Int)) (hn : k < n) : vp_in i n ∧ i.toNatClampNeg = k := by
  have h1 : i.toNatClampNeg = k := by
    show i.toInt.toNat = k
    omega
  refine ⟨fun hc => ?_, h1⟩
  rcases hc with hc | hc
  · have := Int32.lt_iff_toInt_lt.mp hc
    rw [hk] at this
    simp at this
    omega
  · omega
theorem pz_nneg {i : Int32} {k : Nat} (hk : i.toInt = (k : Int)) : ¬ i < 0 ∧ i.toNatClampNeg = k := by
  refine ⟨fun hc => ?_, ?_⟩
  · have := Int32.lt_iff_toInt_lt.mp hc
    rw [hk] at this
    simp at this
    omega
  · show i.toInt.toNat = k
    omega
theorem pz_cat8 {st : List Value} (h : st.length ≤ 3) : (st.map fun v => v.category).sum ≤ 8 := by
  have hv : ∀ v : Value, v.category ≤ 2 := fun v => by cases v <;> simp [Value.category]
  match st, h with
  | [], _ => exact Nat.zero_le _
  | [a], _ => simp only [List.map_cons, List.map_nil, List.sum_cons, List.sum_nil]; have q1 := hv a; omega
  | [a, b], _ => simp only [List.map_cons, List.map_nil, List.sum_cons, List.sum_nil]; have q1 := hv a; have q2 := hv b; omega
  | [a, b, c], _ => simp only [List.map_cons, List.map_nil, List.sum_cons, List.sum_nil]; have q1 := hv a; have q2 := hv b; have q3 := hv c; omega
  | _ :: _ :: _ :: _ :: _, h => simp at h
section PZW
variable {p : Program} {l : Launch} {e : Env} {R : Room} {s : State} {m : MethodId} {args : Array Value} {below : List Frame} {meth : Method} {c : Code} {D : va_G} {kA : Nat → ClassId} {en : pz_Env} {a0 mc0 ms0 : Nat} {Qf : State → Prop}
variable {d : Nat} {C : pz_C} {own : Nat} {cc : ByteArray} {nL : Nat} {rt : Option FieldType} {hh : List (Nat × Nat × Nat × Nat)} {ini : Bool} {Q : pz_Q}
/-- what stands at a method's entry -/
def pz_Cx (p : Program) (l : Launch) (R : Room) (s : State) (m : MethodId) (args : Array Value) (meth : Method) (c : Code) (D : va_G) (kA : Nat → ClassId) (en : pz_Env) (a0 mc0 ms0 d own : Nat) (cc : ByteArray) (nL : Nat) (rt : Option FieldType) (hh : List (Nat × Nat × Nat × Nat)) (ini : Bool) : Prop :=
  p.tables.exec = Jvm.exec ∧ c.code = cc ∧ c.maxLocals = nL ∧ s.vm.findClass (pz_R own) = some m.cls ∧ (∀ w ∈ pz_G, w.before args s = true) ∧ pz_S D kA en a0 s s.heap ∧ mc0 ≤ R.cells ∧ ms0 ≤ R.slots ∧ d ≤ R.frames ∧ 36 * d ≤ R.locals ∧ meth.sig.returnType = rt ∧ meth.locks = false ∧ (ini = true → meth.name = "<init>") ∧ (own = 8 ∧ hh = [] ∨ c.exceptionTable.toList = tableOf hh) ∧ l.stackTraces = false
def pz_PW (p : Program) (l : Launch) (e : Env) (R : Room) (s : State) (m : MethodId) (args : Array Value) (below : List Frame) (meth : Method) (c : Code) (D : va_G) (kA : Nat → ClassId) (a0 nL mc0 ms0 : Nat) (Qf : State → Prop) : pz_P := fun pc ls st h nc ns =>
  ∀ (H : Heap) (locs : List Loc) (cells slots : Nat) (la : Array Slot), pz_Lr nL ls la → pz_Rep D kA a0 h H → va_S (pz_A a0) s.heap H locs → cells + nc ≤ mc0 → slots + ns ≤ ms0 → W p l e R s m args below meth c H locs cells slots Qf (F0 m pc la st)
theorem pz_s_iconst (X : pz_Cx p l R s m args meth c D kA en a0 mc0 ms0 d own cc nL rt hh ini) : pz_r_iconst d en C own cc nL rt hh ini Q (pz_PW p l e R s m args below meth c D kA a0 nL mc0 ms0 Qf) := by
  intro pc ls st h nc ns n v hd hv k H locs cells slots la hL hR hV h1 h2
  obtain ⟨hx, hb, hml, hown, hts, hS0, hmc, hms, hfr, hlo, hret, hlk, hini, hex, hlT⟩ := X
  exact lv_iconst hx hb hd hv (k H locs cells slots la hL hR hV h1 h2)
theorem pz_s_bipush (X : pz_Cx p l R s m args meth c D kA en a0 mc0 ms0 d own cc nL rt hh ini) : pz_r_bipush d en C own cc nL rt hh ini Q (pz_PW p l e R s m args below meth c D kA a0 nL mc0 ms0 Qf) := by
  intro pc ls st h nc ns n v hd hv k H locs cells slots la hL hR hV h1 h2
  obtain ⟨hx, hb, hml, hown, hts, hS0, hmc, hms, hfr, hlo, hret, hlk, hini, hex, hlT⟩ := X
  exact lv_bipush hx hb hd hv (k H locs cells slots la hL hR hV h1 h2)
theorem pz_s_sipush (X : pz_Cx p l R s m args meth c D kA en a0 mc0 ms0 d own cc nL rt hh ini) : pz_r_sipush d en C own cc nL rt hh ini Q (pz_PW p l e R s m args below meth c D kA a0 nL mc0 ms0 Qf) := by
  intro pc ls st h nc ns n v hd hv k H locs cells slots la hL hR hV h1 h2
  obtain ⟨hx, hb, hml, hown, hts, hS0, hmc, hms, hfr, hlo, hret, hlk, hini, hex, hlT⟩ := X
  exact lv_sipush hx hb hd hv (k H locs cells slots la hL hR hV h1 h2)
theorem pz_s_lconst (X : pz_Cx p l R s m args meth c D kA en a0 mc0 ms0 d own cc nL rt hh ini) : pz_r_lconst d en C own cc nL rt hh ini Q (pz_PW p l e R s m args below meth c D kA a0 nL mc0 ms0 Qf) := by
  intro pc ls st h nc ns n v hd hv k H locs cells slots la hL hR hV h1 h2
  obtain ⟨hx, hb, hml, hown, hts, hS0, hmc, hms, hfr, hlo, hret, hlk, hini, hex, hlT⟩ := X
  exact lv_lconst hx hb hd hv (k H locs cells slots la hL hR hV h1 h2)
theorem pz_s_ldc (X : pz_Cx p l R s m args meth c D kA en a0 mc0 ms0 d own cc nL rt hh ini) : pz_r_ldc d en C own cc nL rt hh ini Q (pz_PW p l e R s m args below meth c D kA a0 nL mc0 ms0 Qf) := by
  intro pc ls st h nc ns i v hd hc k H locs cells slots la hL hR hV h1 h2
  obtain ⟨hx, hb, hml, hown, hts, hS0, hmc, hms, hfr, hlo, hret, hlk, hini, hex, hlT⟩ := X
  exact lv_ldc hx hb hown (hts _ (pz_cst_in hc)) hd (k H locs cells slots la hL hR hV h1 h2)
theorem pz_s_ldcw (X : pz_Cx p l R s m args meth c D kA en a0 mc0 ms0 d own cc nL rt hh ini) : pz_r_ldcw d en C own cc nL rt hh ini Q (pz_PW p l e R s m args below meth c D kA a0 nL mc0 ms0 Qf) := by
  intro pc ls st h nc ns i v hd hc k H locs cells slots la hL hR hV h1 h2
  obtain ⟨hx, hb, hml, hown, hts, hS0, hmc, hms, hfr, hlo, hret, hlk, hini, hex, hlT⟩ := X
  exact lv_ldcw hx hb hown (hts _ (pz_cst_in hc)) hd (k H locs cells slots la hL hR hV h1 h2)
theorem pz_s_ldc2 (X : pz_Cx p l R s m args meth c D kA en a0 mc0 ms0 d own cc nL rt hh ini) : pz_r_ldc2 d en C own cc nL rt hh ini Q (pz_PW p l e R s m args below meth c D kA a0 nL mc0 ms0 Qf) := by
  intro pc ls st h nc ns i v hd hc k H locs cells slots la hL hR hV h1 h2
  obtain ⟨hx, hb, hml, hown, hts, hS0, hmc, hms, hfr, hlo, hret, hlk, hini, hex, hlT⟩ := X
  exact lv_ldc2d hx hb hown (hts _ (pz_dbl_in hc)) hd (k H locs cells slots la hL hR hV h1 h2)
theorem pz_s_ldcs (X : pz_Cx p l R s m args meth c D kA en a0 mc0 ms0 d own cc nL rt hh ini) : pz_r_ldcs d en C own cc nL rt hh ini Q (pz_PW p l e R s m args below meth c D kA a0 nL mc0 ms0 Qf) := by
  intro pc ls st h nc ns hd ho k H locs cells slots la hL hR hV h1 h2
  obtain ⟨hx, hb, hml, hown, hts, hS0, hmc, hms, hfr, hlo, hret, hlk, hini, hex, hlT⟩ := X
  subst ho
  exact va_ldcS hx hb hown hS0.2.2.2.2.2.2.2.1 hd (k H locs cells slots la hL hR hV h1 h2)
theorem pz_s_iload_n (X : pz_Cx p l R s m args meth c D kA en a0 mc0 ms0 d own cc nL rt hh ini) : pz_r_iload_n d en C own cc nL rt hh ini Q (pz_PW p l e R s m args below meth c D kA a0 nL mc0 ms0 Qf) := by
  intro pc ls st h nc ns n x hd hl k H locs cells slots la hL hR hV h1 h2
  obtain ⟨hx, hb, hml, hown, hts, hS0, hmc, hms, hfr, hlo, hret, hlk, hini, hex, hlT⟩ := X
  exact lv_iload_n hx hb hd rfl (hL.2.2 _ _ hl) (k H locs cells slots la hL hR hV h1 h2)
theorem pz_s_iload (X : pz_Cx p l R s m args meth c D kA en a0 mc0 ms0 d own cc nL rt hh ini) : pz_r_iload d en C own cc nL rt hh ini Q (pz_PW p l e R s m args below meth c D kA a0 nL mc0 ms0 Qf) := by
  intro pc ls st h nc ns i x hd hl k H locs cells slots la hL hR hV h1 h2
  obtain ⟨hx, hb, hml, hown, hts, hS0, hmc, hms, hfr, hlo, hret, hlk, hini, hex, hlT⟩ := X
  exact lv_iload hx hb hd (hL.2.2 _ _ hl) (k H locs cells slots la hL hR hV h1 h2)
theorem pz_s_istore_n (X : pz_Cx p l R s m args meth c D kA en a0 mc0 ms0 d own cc nL rt hh ini) : pz_r_istore_n d en C own cc nL rt hh ini Q (pz_PW p l e R s m args below meth c D kA a0 nL mc0 ms0 Qf) := by
  intro pc ls st h nc ns n x hd hn ho k H locs cells slots la hL hR hV h1 h2
  obtain ⟨hx, hb, hml, hown, hts, hS0, hmc, hms, hfr, hlo, hret, hlk, hini, hex, hlT⟩ := X
  exact lv_istore_n hx hb hd rfl (pz_Lr_has hL) hn rfl (fun la2 hl2 => k H locs cells slots la2 (pz_Lr_set ho hl2) hR hV h1 h2)
theorem pz_s_istore (X : pz_Cx p l R s m args meth c D kA en a0 mc0 ms0 d own cc nL rt hh ini) : pz_r_istore d en C own cc nL rt hh ini Q (pz_PW p l e R s m args below meth c D kA a0 nL mc0 ms0 Qf) := by
  intro pc ls st h nc ns i x hd hn ho k H locs cells slots la hL hR hV h1 h2
  obtain ⟨hx, hb, hml, hown, hts, hS0, hmc, hms, hfr, hlo, hret, hlk, hini, hex, hlT⟩ := X
  exact lv_istore hx hb hd (pz_Lr_has hL) hn rfl (fun la2 hl2 => k H locs cells slots la2 (pz_Lr_set ho hl2) hR hV h1 h2)
theorem pz_s_aload_n (X : pz_Cx p l R s m args meth c D kA en a0 mc0 ms0 d own cc nL rt hh ini) : pz_r_aload_n d en C own cc nL rt hh ini Q (pz_PW p l e R s m args below meth c D kA a0 nL mc0 ms0 Qf) := by
  intro pc ls st h nc ns n x hd hl k H locs cells slots la hL hR hV h1 h2
  obtain ⟨hx, hb, hml, hown, hts, hS0, hmc, hms, hfr, hlo, hret, hlk, hini, hex, hlT⟩ := X
  exact lv_aload_n hx hb hd rfl (hL.2.2 _ _ hl) (k H locs cells slots la hL hR hV h1 h2)
theorem pz_s_aload (X : pz_Cx p l R s m args meth c D kA en a0 mc0 ms0 d own cc nL rt hh ini) : pz_r_aload d en C own cc nL rt hh ini Q (pz_PW p l e R s m args below meth c D kA a0 nL mc0 ms0 Qf) := by
  intro pc ls st h nc ns i x hd hl k H locs cells slots la hL hR hV h1 h2
  obtain ⟨hx, hb, hml, hown, hts, hS0, hmc, hms, hfr, hlo, hret, hlk, hini, hex, hlT⟩ := X
  exact lv_aload hx hb hd (hL.2.2 _ _ hl) (k H locs cells slots la hL hR hV h1 h2)
theorem pz_s_astore_n (X : pz_Cx p l R s m args meth c D kA en a0 mc0 ms0 d own cc nL rt hh ini) : pz_r_astore_n d en C own cc nL rt hh ini Q (pz_PW p l e R s m args below meth c D kA a0 nL mc0 ms0 Qf) := by
  intro pc ls st h nc ns n x hd hn ho k H locs cells slots la hL hR hV h1 h2
  obtain ⟨hx, hb, hml, hown, hts, hS0, hmc, hms, hfr, hlo, hret, hlk, hini, hex, hlT⟩ := X
  exact lv_astore_n hx hb hd rfl (pz_Lr_has hL) hn rfl (fun la2 hl2 => k H locs cells slots la2 (pz_Lr_set ho hl2) hR hV h1 h2)
theorem pz_s_astore (X : pz_Cx p l R s m args meth c D kA en a0 mc0 ms0 d own cc nL rt hh ini) : pz_r_astore d en C own cc nL rt hh ini Q (pz_PW p l e R s m args below meth c D kA a0 nL mc0 ms0 Qf) := by
  intro pc ls st h nc ns i x hd hn ho k H locs cells slots la hL hR hV h1 h2
  obtain ⟨hx, hb, hml, hown, hts, hS0, hmc, hms, hfr, hlo, hret, hlk, hini, hex, hlT⟩ := X
  exact lv_astore hx hb hd (pz_Lr_has hL) hn rfl (fun la2 hl2 => k H locs cells slots la2 (pz_Lr_set ho hl2) hR hV h1 h2)
theorem pz_s_dload (X : pz_Cx p l R s m args meth c D kA en a0 mc0 ms0 d own cc nL rt hh ini) : pz_r_dload d en C own cc nL rt hh ini Q (pz_PW p l e R s m args below meth c D kA a0 nL mc0 ms0 Qf) := by
  intro pc ls st h nc ns i x hd hl k H locs cells slots la hL hR hV h1 h2
  obtain ⟨hx, hb, hml, hown, hts, hS0, hmc, hms, hfr, hlo, hret, hlk, hini, hex, hlT⟩ := X
  exact lv_dload hx hb hd (hL.2.2 _ _ hl) (k H locs cells slots la hL hR hV h1 h2)
theorem pz_s_dstore (X : pz_Cx p l R s m args meth c D kA en a0 mc0 ms0 d own cc nL rt hh ini) : pz_r_dstore d en C own cc nL rt hh ini Q (pz_PW p l e R s m args below meth c D kA a0 nL mc0 ms0 Qf) := by
  intro pc ls st h nc ns i x hd hn ho k H locs cells slots la hL hR hV h1 h2
  obtain ⟨hx, hb, hml, hown, hts, hS0, hmc, hms, hfr, hlo, hret, hlk, hini, hex, hlT⟩ := X
  exact lv_dstore hx hb hd (pz_Lr_has hL) hn rfl (fun la2 hl2 => k H locs cells slots la2 (pz_Lr_set2 ho hl2) hR hV h1 h2)
theorem pz_s_iinc (X : pz_Cx p l R s m args meth c D kA en a0 mc0 ms0 d own cc nL rt hh ini) : pz_r_iinc d en C own cc nL rt hh ini Q (pz_PW p l e R s m args below meth c D kA a0 nL mc0 ms0 Qf) := by
  intro pc ls st h nc ns i n x v hd hl hn ho hv k H locs cells slots la hL hR hV h1 h2
  obtain ⟨hx, hb, hml, hown, hts, hS0, hmc, hms, hfr, hlo, hret, hlk, hini, hex, hlT⟩ := X
  obtain ⟨kx, hkx⟩ := List.getElem?_of_mem (pz_al_mem (q := (i, Value.int x)) |>.mpr hl)
  exact lv_iinc hx hb hd (pz_Lr_has hL) hkx hv hn rfl (fun la2 hl2 => k H locs cells slots la2 (pz_Lr_set ho hl2) hR hV h1 h2)
theorem pz_s_iadd (X : pz_Cx p l R s m args meth c D kA en a0 mc0 ms0 d own cc nL rt hh ini) : pz_r_iadd d en C own cc nL rt hh ini Q (pz_PW p l e R s m args below meth c D kA a0 nL mc0 ms0 Qf) := by
  intro pc ls st h nc ns x y hd k H locs cells slots la hL hR hV h1 h2
  obtain ⟨hx, hb, hml, hown, hts, hS0, hmc, hms, hfr, hlo, hret, hlk, hini, hex, hlT⟩ := X
  exact lv_iadd hx hb hd (k H locs cells slots la hL hR hV h1 h2)
theorem pz_s_isub (X : pz_Cx p l R s m args meth c D kA en a0 mc0 ms0 d own cc nL rt hh ini) : pz_r_isub d en C own cc nL rt hh ini Q (pz_PW p l e R s m args below meth c D kA a0 nL mc0 ms0 Qf) := by
  intro pc ls st h nc ns x y hd k H locs cells slots la hL hR hV h1 h2
  obtain ⟨hx, hb, hml, hown, hts, hS0, hmc, hms, hfr, hlo, hret, hlk, hini, hex, hlT⟩ := X
  exact lv_isub hx hb hd (k H locs cells slots la hL hR hV h1 h2)
theorem pz_s_imul (X : pz_Cx p l R s m args meth c D kA en a0 mc0 ms0 d own cc nL rt hh ini) : pz_r_imul d en C own cc nL rt hh ini Q (pz_PW p l e R s m args below meth c D kA a0 nL mc0 ms0 Qf) := by
  intro pc ls st h nc ns x y hd k H locs cells slots la hL hR hV h1 h2
  obtain ⟨hx, hb, hml, hown, hts, hS0, hmc, hms, hfr, hlo, hret, hlk, hini, hex, hlT⟩ := X
  exact lv_imul hx hb hd (k H locs cells slots la hL hR hV h1 h2)
theorem pz_s_iand (X : pz_Cx p l R s m args meth c D kA en a0 mc0 ms0 d own cc nL rt hh ini) : pz_r_iand d en C own cc nL rt hh ini Q (pz_PW p l e R s m args below meth c D kA a0 nL mc0 ms0 Qf) := by
  intro pc ls st h nc ns x y hd k H locs cells slots la hL hR hV h1 h2
  obtain ⟨hx, hb, hml, hown, hts, hS0, hmc, hms, hfr, hlo, hret, hlk, hini, hex, hlT⟩ := X
  exact lv_iand hx hb hd (k H locs cells slots la hL hR hV h1 h2)
theorem pz_s_ior (X : pz_Cx p l R s m args meth c D kA en a0 mc0 ms0 d own cc nL rt hh ini) : pz_r_ior d en C own cc nL rt hh ini Q (pz_PW p l e R s m args below meth c D kA a0 nL mc0 ms0 Qf) := by
  intro pc ls st h nc ns x y hd k H locs cells slots la hL hR hV h1 h2
  obtain ⟨hx, hb, hml, hown, hts, hS0, hmc, hms, hfr, hlo, hret, hlk, hini, hex, hlT⟩ := X
  exact lv_ior hx hb hd (k H locs cells slots la hL hR hV h1 h2)
theorem pz_s_ishl (X : pz_Cx p l R s m args meth c D kA en a0 mc0 ms0 d own cc nL rt hh ini) : pz_r_ishl d en C own cc nL rt hh ini Q (pz_PW p l e R s m args below meth c D kA a0 nL mc0 ms0 Qf) := by
  intro pc ls st h nc ns x y hd k H locs cells slots la hL hR hV h1 h2
  obtain ⟨hx, hb, hml, hown, hts, hS0, hmc, hms, hfr, hlo, hret, hlk, hini, hex, hlT⟩ := X
  exact lv_ishl hx hb hd (k H locs cells slots la hL hR hV h1 h2)
theorem pz_s_ineg (X : pz_Cx p l R s m args meth c D kA en a0 mc0 ms0 d own cc nL rt hh ini) : pz_r_ineg d en C own cc nL rt hh ini Q (pz_PW p l e R s m args below meth c D kA a0 nL mc0 ms0 Qf) := by
  intro pc ls st h nc ns x hd k H locs cells slots la hL hR hV h1 h2
  obtain ⟨hx, hb, hml, hown, hts, hS0, hmc, hms, hfr, hlo, hret, hlk, hini, hex, hlT⟩ := X
  exact lv_ineg hx hb hd (k H locs cells slots la hL hR hV h1 h2)
theorem pz_s_i2d (X : pz_Cx p l R s m args meth c D kA en a0 mc0 ms0 d own cc nL rt hh ini) : pz_r_i2d d en C own cc nL rt hh ini Q (pz_PW p l e R s m args below meth c D kA a0 nL mc0 ms0 Qf) := by
  intro pc ls st h nc ns x hd k H locs cells slots la hL hR hV h1 h2
  obtain ⟨hx, hb, hml, hown, hts, hS0, hmc, hms, hfr, hlo, hret, hlk, hini, hex, hlT⟩ := X
  exact lv_i2d hx hb hd (k H locs cells slots la hL hR hV h1 h2)
theorem pz_s_dcmp (X : pz_Cx p l R s m args meth c D kA en a0 mc0 ms0 d own cc nL rt hh ini) : pz_r_dcmp d en C own cc nL rt hh ini Q (pz_PW p l e R s m args below meth c D kA a0 nL mc0 ms0 Qf) := by
  intro pc ls st h nc ns x y op hd k H locs cells slots la hL hR hV h1 h2
  obtain ⟨hx, hb, hml, hown, hts, hS0, hmc, hms, hfr, hlo, hret, hlk, hini, hex, hlT⟩ := X
  exact lv_dcmp hx hb hd (k H locs cells slots la hL hR hV h1 h2)
theorem pz_s_lcmp (X : pz_Cx p l R s m args meth c D kA en a0 mc0 ms0 d own cc nL rt hh ini) : pz_r_lcmp d en C own cc nL rt hh ini Q (pz_PW p l e R s m args below meth c D kA a0 nL mc0 ms0 Qf) := by
  intro pc ls st h nc ns x y hd k H locs cells slots la hL hR hV h1 h2
  obtain ⟨hx, hb, hml, hown, hts, hS0, hmc, hms, hfr, hlo, hret, hlk, hini, hex, hlT⟩ := X
  exact W.lcmp hx hb hd (k H locs cells slots la hL hR hV h1 h2)
theorem pz_s_iushr (X : pz_Cx p l R s m args meth c D kA en a0 mc0 ms0 d own cc nL rt hh ini) : pz_r_iushr d en C own cc nL rt hh ini Q (pz_PW p l e R s m args below meth c D kA a0 nL mc0 ms0 Qf) := by
  intro pc ls st h nc ns x y hd k H locs cells slots la hL hR hV h1 h2
  obtain ⟨hx, hb, hml, hown, hts, hS0, hmc, hms, hfr, hlo, hret, hlk, hini, hex, hlT⟩ := X
  exact lv_iushr hx hb hd rfl (k H locs cells slots la hL hR hV h1 h2)
theorem pz_s_i2l (X : pz_Cx p l R s m args meth c D kA en a0 mc0 ms0 d own cc nL rt hh ini) : pz_r_i2l d en C own cc nL rt hh ini Q (pz_PW p l e R s m args below meth c D kA a0 nL mc0 ms0 Qf) := by
  intro pc ls st h nc ns x hd k H locs cells slots la hL hR hV h1 h2
  obtain ⟨hx, hb, hml, hown, hts, hS0, hmc, hms, hfr, hlo, hret, hlk, hini, hex, hlT⟩ := X
  exact lv_i2l hx hb hd rfl (k H locs cells slots la hL hR hV h1 h2)
theorem pz_s_i2c (X : pz_Cx p l R s m args meth c D kA en a0 mc0 ms0 d own cc nL rt hh ini) : pz_r_i2c d en C own cc nL rt hh ini Q (pz_PW p l e R s m args below meth c D kA a0 nL mc0 ms0 Qf) := by
  intro pc ls st h nc ns x hd k H locs cells slots la hL hR hV h1 h2
  obtain ⟨hx, hb, hml, hown, hts, hS0, hmc, hms, hfr, hlo, hret, hlk, hini, hex, hlT⟩ := X
  exact lv_i2c hx hb hd rfl (k H locs cells slots la hL hR hV h1 h2)
theorem pz_s_idiv (X : pz_Cx p l R s m args meth c D kA en a0 mc0 ms0 d own cc nL rt hh ini) : pz_r_idiv d en C own cc nL rt hh ini Q (pz_PW p l e R s m args below meth c D kA a0 nL mc0 ms0 Qf) := by
  intro pc ls st h nc ns x y hd hne k H locs cells slots la hL hR hV h1 h2
  obtain ⟨hx, hb, hml, hown, hts, hS0, hmc, hms, hfr, hlo, hret, hlk, hini, hex, hlT⟩ := X
  exact lv_idiv hx hb hd hne (k H locs cells slots la hL hR hV h1 h2)
theorem pz_s_irem (X : pz_Cx p l R s m args meth c D kA en a0 mc0 ms0 d own cc nL rt hh ini) : pz_r_irem d en C own cc nL rt hh ini Q (pz_PW p l e R s m args below meth c D kA a0 nL mc0 ms0 Qf) := by
  intro pc ls st h nc ns x y hd hne k H locs cells slots la hL hR hV h1 h2
  obtain ⟨hx, hb, hml, hown, hts, hS0, hmc, hms, hfr, hlo, hret, hlk, hini, hex, hlT⟩ := X
  exact lv_irem hx hb hd hne (k H locs cells slots la hL hR hV h1 h2)
theorem pz_s_ddiv (X : pz_Cx p l R s m args meth c D kA en a0 mc0 ms0 d own cc nL rt hh ini) : pz_r_ddiv d en C own cc nL rt hh ini Q (pz_PW p l e R s m args below meth c D kA a0 nL mc0 ms0 Qf) := by
  intro pc ls st h nc ns x y hd hne k H locs cells slots la hL hR hV h1 h2
  obtain ⟨hx, hb, hml, hown, hts, hS0, hmc, hms, hfr, hlo, hret, hlk, hini, hex, hlT⟩ := X
  exact lv_ddiv hx hb hd hne (k H locs cells slots la hL hR hV h1 h2)
theorem pz_s_dup (X : pz_Cx p l R s m args meth c D kA en a0 mc0 ms0 d own cc nL rt hh ini) : pz_r_dup d en C own cc nL rt hh ini Q (pz_PW p l e R s m args below meth c D kA a0 nL mc0 ms0 Qf) := by
  intro pc ls st h nc ns v hd hc k H locs cells slots la hL hR hV h1 h2
  obtain ⟨hx, hb, hml, hown, hts, hS0, hmc, hms, hfr, hlo, hret, hlk, hini, hex, hlT⟩ := X
  exact lv_dup hx hb hd hc (k H locs cells slots la hL hR hV h1 h2)
theorem pz_s_dup2 (X : pz_Cx p l R s m args meth c D kA en a0 mc0 ms0 d own cc nL rt hh ini) : pz_r_dup2 d en C own cc nL rt hh ini Q (pz_PW p l e R s m args below meth c D kA a0 nL mc0 ms0 Qf) := by
  intro pc ls st h nc ns v u hd hc hc2 k H locs cells slots la hL hR hV h1 h2
  obtain ⟨hx, hb, hml, hown, hts, hS0, hmc, hms, hfr, hlo, hret, hlk, hini, hex, hlT⟩ := X
  exact lv_dup2_11 hx hb hd hc hc2 (k H locs cells slots la hL hR hV h1 h2)
theorem pz_s_pop (X : pz_Cx p l R s m args meth c D kA en a0 mc0 ms0 d own cc nL rt hh ini) : pz_r_pop d en C own cc nL rt hh ini Q (pz_PW p l e R s m args below meth c D kA a0 nL mc0 ms0 Qf) := by
  intro pc ls st h nc ns v hd hc k H locs cells slots la hL hR hV h1 h2
  obtain ⟨hx, hb, hml, hown, hts, hS0, hmc, hms, hfr, hlo, hret, hlk, hini, hex, hlT⟩ := X
  exact lv_pop hx hb hd hc (k H locs cells slots la hL hR hV h1 h2)
theorem pz_s_if_eq (X : pz_Cx p l R s m args meth c D kA en a0 mc0 ms0 d own cc nL rt hh ini) : pz_r_if_eq d en C own cc nL rt hh ini Q (pz_PW p l e R s m args below meth c D kA a0 nL mc0 ms0 Qf) := by
  intro pc ls st h nc ns x off tgt hd ht kt kf H locs cells slots la hL hR hV h1 h2
  obtain ⟨hx, hb, hml, hown, hts, hS0, hmc, hms, hfr, hlo, hret, hlk, hini, hex, hlT⟩ := X
  exact lv_if_eq hx hb hd ht (fun z => kt z H locs cells slots la hL hR hV h1 h2) (fun z => kf z H locs cells slots la hL hR hV h1 h2)
theorem pz_s_icmp_eq (X : pz_Cx p l R s m args meth c D kA en a0 mc0 ms0 d own cc nL rt hh ini) : pz_r_icmp_eq d en C own cc nL rt hh ini Q (pz_PW p l e R s m args below meth c D kA a0 nL mc0 ms0 Qf) := by
  intro pc ls st h nc ns x y off tgt hd ht kt kf H locs cells slots la hL hR hV h1 h2
  obtain ⟨hx, hb, hml, hown, hts, hS0, hmc, hms, hfr, hlo, hret, hlk, hini, hex, hlT⟩ := X
  exact lv_icmp_eq hx hb hd ht (fun z => kt z H locs cells slots la hL hR hV h1 h2) (fun z => kf z H locs cells slots la hL hR hV h1 h2)
theorem pz_s_if_ne (X : pz_Cx p l R s m args meth c D kA en a0 mc0 ms0 d own cc nL rt hh ini) : pz_r_if_ne d en C own cc nL rt hh ini Q (pz_PW p l e R s m args below meth c D kA a0 nL mc0 ms0 Qf) := by
  intro pc ls st h nc ns x off tgt hd ht kt kf H locs cells slots la hL hR hV h1 h2
  obtain ⟨hx, hb, hml, hown, hts, hS0, hmc, hms, hfr, hlo, hret, hlk, hini, hex, hlT⟩ := X
  exact lv_if_ne hx hb hd ht (fun z => kt z H locs cells slots la hL hR hV h1 h2) (fun z => kf z H locs cells slots la hL hR hV h1 h2)
theorem pz_s_icmp_ne (X : pz_Cx p l R s m args meth c D kA en a0 mc0 ms0 d own cc nL rt hh ini) : pz_r_icmp_ne d en C own cc nL rt hh ini Q (pz_PW p l e R s m args below meth c D kA a0 nL mc0 ms0 Qf) := by
  intro pc ls st h nc ns x y off tgt hd ht kt kf H locs cells slots la hL hR hV h1 h2
  obtain ⟨hx, hb, hml, hown, hts, hS0, hmc, hms, hfr, hlo, hret, hlk, hini, hex, hlT⟩ := X
  exact lv_icmp_ne hx hb hd ht (fun z => kt z H locs cells slots la hL hR hV h1 h2) (fun z => kf z H locs cells slots la hL hR hV h1 h2)
theorem pz_s_if_lt (X : pz_Cx p l R s m args meth c D kA en a0 mc0 ms0 d own cc nL rt hh ini) : pz_r_if_lt d en C own cc nL rt hh ini Q (pz_PW p l e R s m args below meth c D kA a0 nL mc0 ms0 Qf) := by
  intro pc ls st h nc ns x off tgt hd ht kt kf H locs cells slots la hL hR hV h1 h2
  obtain ⟨hx, hb, hml, hown, hts, hS0, hmc, hms, hfr, hlo, hret, hlk, hini, hex, hlT⟩ := X
  exact lv_if_lt hx hb hd ht (fun z => kt z H locs cells slots la hL hR hV h1 h2) (fun z => kf z H locs cells slots la hL hR hV h1 h2)
theorem pz_s_icmp_lt (X : pz_Cx p l R s m args meth c D kA en a0 mc0 ms0 d own cc nL rt hh ini) : pz_r_icmp_lt d en C own cc nL rt hh ini Q (pz_PW p l e R s m args below meth c D kA a0 nL mc0 ms0 Qf) := by
  intro pc ls st h nc ns x y off tgt hd ht kt kf H locs cells slots la hL hR hV h1 h2
  obtain ⟨hx, hb, hml, hown, hts, hS0, hmc, hms, hfr, hlo, hret, hlk, hini, hex, hlT⟩ := X
  exact lv_icmp_lt hx hb hd ht (fun z => kt z H locs cells slots la hL hR hV h1 h2) (fun z => kf z H locs cells slots la hL hR hV h1 h2)
theorem pz_s_if_ge (X : pz_Cx p l R s m args meth c D kA en a0 mc0 ms0 d own cc nL rt hh ini) : pz_r_if_ge d en C own cc nL rt hh ini Q (pz_PW p l e R s m args below meth c D kA a0 nL mc0 ms0 Qf) := by
  intro pc ls st h nc ns x off tgt hd ht kt kf H locs cells slots la hL hR hV h1 h2
  obtain ⟨hx, hb, hml, hown, hts, hS0, hmc, hms, hfr, hlo, hret, hlk, hini, hex, hlT⟩ := X
  exact lv_if_ge hx hb hd ht (fun z => kt z H locs cells slots la hL hR hV h1 h2) (fun z => kf z H locs cells slots la hL hR hV h1 h2)
theorem pz_s_icmp_ge (X : pz_Cx p l R s m args meth c D kA en a0 mc0 ms0 d own cc nL rt hh ini) : pz_r_icmp_ge d en C own cc nL rt hh ini Q (pz_PW p l e R s m args below meth c D kA a0 nL mc0 ms0 Qf) := by
  intro pc ls st h nc ns x y off tgt hd ht kt kf H locs cells slots la hL hR hV h1 h2
  obtain ⟨hx, hb, hml, hown, hts, hS0, hmc, hms, hfr, hlo, hret, hlk, hini, hex, hlT⟩ := X
  exact lv_icmp_ge hx hb hd ht (fun z => kt z H locs cells slots la hL hR hV h1 h2) (fun z => kf z H locs cells slots la hL hR hV h1 h2)
theorem pz_s_if_gt (X : pz_Cx p l R s m args meth c D kA en a0 mc0 ms0 d own cc nL rt hh ini) : pz_r_if_gt d en C own cc nL rt hh ini Q (pz_PW p l e R s m args below meth c D kA a0 nL mc0 ms0 Qf) := by
  intro pc ls st h nc ns x off tgt hd ht kt kf H locs cells slots la hL hR hV h1 h2
  obtain ⟨hx, hb, hml, hown, hts, hS0, hmc, hms, hfr, hlo, hret, hlk, hini, hex, hlT⟩ := X
  exact lv_if_gt hx hb hd ht (fun z => kt z H locs cells slots la hL hR hV h1 h2) (fun z => kf z H locs cells slots la hL hR hV h1 h2)
theorem pz_s_icmp_gt (X : pz_Cx p l R s m args meth c D kA en a0 mc0 ms0 d own cc nL rt hh ini) : pz_r_icmp_gt d en C own cc nL rt hh ini Q (pz_PW p l e R s m args below meth c D kA a0 nL mc0 ms0 Qf) := by
  intro pc ls st h nc ns x y off tgt hd ht kt kf H locs cells slots la hL hR hV h1 h2
  obtain ⟨hx, hb, hml, hown, hts, hS0, hmc, hms, hfr, hlo, hret, hlk, hini, hex, hlT⟩ := X
  exact lv_icmp_gt hx hb hd ht (fun z => kt z H locs cells slots la hL hR hV h1 h2) (fun z => kf z H locs cells slots la hL hR hV h1 h2)
theorem pz_s_if_le (X : pz_Cx p l R s m args meth c D kA en a0 mc0 ms0 d own cc nL rt hh ini) : pz_r_if_le d en C own cc nL rt hh ini Q (pz_PW p l e R s m args below meth c D kA a0 nL mc0 ms0 Qf) := by
  intro pc ls st h nc ns x off tgt hd ht kt kf H locs cells slots la hL hR hV h1 h2
  obtain ⟨hx, hb, hml, hown, hts, hS0, hmc, hms, hfr, hlo, hret, hlk, hini, hex, hlT⟩ := X
  exact lv_if_le hx hb hd ht (fun z => kt z H locs cells slots la hL hR hV h1 h2) (fun z => kf z H locs cells slots la hL hR hV h1 h2)
theorem pz_s_icmp_le (X : pz_Cx p l R s m args meth c D kA en a0 mc0 ms0 d own cc nL rt hh ini) : pz_r_icmp_le d en C own cc nL rt hh ini Q (pz_PW p l e R s m args below meth c D kA a0 nL mc0 ms0 Qf) := by
  intro pc ls st h nc ns x y off tgt hd ht kt kf H locs cells slots la hL hR hV h1 h2
  obtain ⟨hx, hb, hml, hown, hts, hS0, hmc, hms, hfr, hlo, hret, hlk, hini, hex, hlT⟩ := X
  exact lv_icmp_le hx hb hd ht (fun z => kt z H locs cells slots la hL hR hV h1 h2) (fun z => kf z H locs cells slots la hL hR hV h1 h2)
theorem pz_s_goto (X : pz_Cx p l R s m args meth c D kA en a0 mc0 ms0 d own cc nL rt hh ini) : pz_r_goto d en C own cc nL rt hh ini Q (pz_PW p l e R s m args below meth c D kA a0 nL mc0 ms0 Qf) := by
  intro pc ls st h nc ns off tgt hd ht k H locs cells slots la hL hR hV h1 h2
  obtain ⟨hx, hb, hml, hown, hts, hS0, hmc, hms, hfr, hlo, hret, hlk, hini, hex, hlT⟩ := X
  exact lv_goto hx hb hd ht (k H locs cells slots la hL hR hV h1 h2)
theorem pz_s_tsin (X : pz_Cx p l R s m args meth c D kA en a0 mc0 ms0 d own cc nL rt hh ini) : pz_r_tsin d en C own cc nL rt hh ini Q (pz_PW p l e R s m args below meth c D kA a0 nL mc0 ms0 Qf) := by
  intro pc ls st h nc ns dflt lo hi offs len x off tgt hd g1 g2 ho ht k H locs cells slots la hL hR hV h1 h2
  obtain ⟨hx, hb, hml, hown, hts, hS0, hmc, hms, hfr, hlo, hret, hlk, hini, hex, hlT⟩ := X
  exact lv_tableIn hx hb hd g1 g2 ho ht (k H locs cells slots la hL hR hV h1 h2)
theorem pz_s_tsout (X : pz_Cx p l R s m args meth c D kA en a0 mc0 ms0 d own cc nL rt hh ini) : pz_r_tsout d en C own cc nL rt hh ini Q (pz_PW p l e R s m args below meth c D kA a0 nL mc0 ms0 Qf) := by
  intro pc ls st h nc ns dflt lo hi offs len x tgt hd g1 ht k H locs cells slots la hL hR hV h1 h2
  obtain ⟨hx, hb, hml, hown, hts, hS0, hmc, hms, hfr, hlo, hret, hlk, hini, hex, hlT⟩ := X
  exact lv_tableOut hx hb hd g1 ht (k H locs cells slots la hL hR hV h1 h2)
theorem pz_s_lsw (X : pz_Cx p l R s m args meth c D kA en a0 mc0 ms0 d own cc nL rt hh ini) : pz_r_lsw d en C own cc nL rt hh ini Q (pz_PW p l e R s m args below meth c D kA a0 nL mc0 ms0 Qf) := by
  intro pc ls st h nc ns dflt ps len x off tgt hd hp ho ht k H locs cells slots la hL hR hV h1 h2
  obtain ⟨hx, hb, hml, hown, hts, hS0, hmc, hms, hfr, hlo, hret, hlk, hini, hex, hlT⟩ := X
  exact lv_lookup hx hb hd hp ho ht (k H locs cells slots la hL hR hV h1 h2)
theorem pz_s_getf (X : pz_Cx p l R s m args meth c D kA en a0 mc0 ms0 d own cc nL rt hh ini) : pz_r_getf d en C own cc nL rt hh ini Q (pz_PW p l e R s m args below meth c D kA a0 nL mc0 ms0 Qf) := by
  intro pc ls st h nc ns i ci k a fs v hd hf ha hv kk H locs cells slots la hL hR hV h1 h2
  obtain ⟨hx, hb, hml, hown, hts, hS0, hmc, hms, hfr, hlo, hret, hlk, hini, hex, hlT⟩ := X
  obtain ⟨L, f, hP, hD, hh2⟩ := hR
  obtain ⟨q0, hq⟩ := pz_Rep_at (D := D) (a0 := a0) hh2 ha
  obtain ⟨g1, g2, g3, g4⟩ := pz_fld_spec hf
  exact va_get hx hb hts (pz_lay ci g1) hown hS0.1 hP q0 hq (pz_cl ci g1) k g2 (hts _ g4) (fun _ z => z) hv hd (kk H locs cells slots la hL ⟨L, f, hP, hD, hh2⟩ hV h1 h2)
theorem pz_s_putf (X : pz_Cx p l R s m args meth c D kA en a0 mc0 ms0 d own cc nL rt hh ini) : pz_r_putf d en C own cc nL rt hh ini Q (pz_PW p l e R s m args below meth c D kA a0 nL mc0 ms0 Qf) := by
  intro pc ls st h nc ns i ci k a fs v hp2 hd hf hfin ha hl0 hn hfit hu kk H locs cells slots la hL hR hV h1 h2
  obtain ⟨hx, hb, hml, hown, hts, hS0, hmc, hms, hfr, hlo, hret, hlk, hini, hex, hlT⟩ := X
  subst hu
  obtain ⟨L, f, hP, hD, hh2⟩ := hR
  obtain ⟨q0, hq⟩ := pz_Rep_at (D := D) (a0 := a0) hh2 ha
  obtain ⟨g1, g2, g3, g4⟩ := pz_fld_spec hf
  rcases hfin with hfin | ⟨hfin, rfl⟩
  · exact va_put hx hb hts (pz_lay ci g1) (pz_ty ci) (pz_ty_ok ci g1) (pz_nm ci g1) hown hS0.1 hP hD hV q0 hq (pz_cl ci g1) k g2 (hts _ g4) (fun _ z => z) hfin (pz_ty_ok ci g1 k g2) hn hfit hl0 hd (fun H1 locs1 hP1 hD1 hV1 => kk H1 locs1 cells slots la hL (pz_Rep_set hD hh2 ha hq rfl hP1 hD1) hV1 h1 h2)
  · by_cases hf2 : (pz_T ci k).2.2.2 = false
    · exact va_put hx hb hts (pz_lay ci g1) (pz_ty ci) (pz_ty_ok ci g1) (pz_nm ci g1) hown hS0.1 hP hD hV q0 hq (pz_cl ci g1) k g2 (hts _ g4) (fun _ z => z) hf2 (pz_ty_ok ci g1 k g2) hn hfit hl0 hd (fun H1 locs1 hP1 hD1 hV1 => kk H1 locs1 cells slots la hL (pz_Rep_set hD hh2 ha hq rfl hP1 hD1) hV1 h1 h2)
    · exact va_putF hx hb hts (pz_lay ci g1) (pz_ty ci) (pz_ty_ok ci g1) (pz_nm ci g1) hown hS0.1 hP hD hV q0 hq (pz_cl ci g1) k g2 (hts _ g4) (fun _ z => z) (by simpa using hf2) (hini hfin) g3 (pz_ty_ok ci g1 k g2) hn hfit hl0 hd (fun H1 locs1 hP1 hD1 hV1 => kk H1 locs1 cells slots la hL (pz_Rep_set hD hh2 ha hq rfl hP1 hD1) hV1 h1 h2)
theorem pz_s_new (X : pz_Cx p l R s m args meth c D kA en a0 mc0 ms0 d own cc nL rt hh ini) : pz_r_new d en C own cc nL rt hh ini Q (pz_PW p l e R s m args below meth c D kA a0 nL mc0 ms0 Qf) := by
  intro pc ls st h nc ns i ci N hd hc hN k H locs cells slots la hL hR hV h1 h2
  obtain ⟨hx, hb, hml, hown, hts, hS0, hmc, hms, hfr, hlo, hret, hlk, hini, hex, hlT⟩ := X
  subst hN
  obtain ⟨L, f, hP, hD, hh2⟩ := hR
  obtain ⟨g1, g2⟩ := pz_cls_spec hc
  obtain ⟨i1, i2⟩ := pz_inst ci g1
  exact va_new hx hb hts (pz_lay ci g1) (pz_ty ci) (pz_ty_ok ci g1) hown (hts _ (pz_Gc g2)) (hts _ (pz_Gin i1 rfl)) (hts _ (pz_Gin i2 rfl)) hS0.1 hP hD hV (fun q hq => Nat.le_trans hS0.2.2.2.2.2.2.2.2.2.2.2 hq) (pz_cl ci g1) (fs := pz_blank ci) (pz_blank_ok ci) (by omega) (by omega) hd (fun q H1 hP1 hD1 hV1 => k q (pz_Rep_push (D := D) (kA := kA) (a0 := a0) (e2 := .inr (ci, pz_blank ci)) hh2 rfl hP1 hD1).1 H1 locs (cells + 1) (slots + pz_N ci) la hL (pz_Rep_push (D := D) (kA := kA) (a0 := a0) (e2 := .inr (ci, pz_blank ci)) hh2 rfl hP1 hD1).2 hV1 (by omega) (by omega))
theorem pz_s_newai (X : pz_Cx p l R s m args meth c D kA en a0 mc0 ms0 d own cc nL rt hh ini) : pz_r_newai d en C own cc nL rt hh ini Q (pz_PW p l e R s m args below meth c D kA a0 nL mc0 ms0 Qf) := by
  intro pc ls st h nc ns n N hd hk hN k H locs cells slots la hL hR hV h1 h2
  obtain ⟨hx, hb, hml, hown, hts, hS0, hmc, hms, hfr, hlo, hret, hlk, hini, hex, hlT⟩ := X
  obtain ⟨L, f, hP, hD, hh2⟩ := hR
  obtain ⟨n1, n2⟩ := pz_nneg hk
  refine va_newa (atype := .int) (ty := .int) hx hb (hts _ (pz_Gin pz_arrW.1 rfl)) rfl hS0.1 hP hD hV (fun q hq => Nat.le_trans hS0.2.2.2.2.2.2.2.2.2.2.2 hq) (a0 := (N, .inl (fun _ => 0))) (fun _ => rfl) n1 n2 (by simp [componentBytes]; omega) (by omega) (by omega) hd (fun q cA H1 hK1 hP1 hD1 hV1 => ?_)
  have hcA : cA = kA 0 := pz_arr_uniq (hK1.2 5 (cA, .int) rfl) (hS0.1.2 0 _ rfl)
  subst hcA
  exact k q (pz_Rep_push (D := D) (kA := kA) (a0 := a0) (e2 := .inl (0, N, .inl (fun _ => 0))) hh2 rfl hP1 hD1).1 H1 locs (cells + 1) (slots + N) la hL (pz_Rep_push (D := D) (kA := kA) (a0 := a0) hh2 rfl hP1 hD1).2 hV1 (by omega) (by omega)
theorem pz_s_newac (X : pz_Cx p l R s m args meth c D kA en a0 mc0 ms0 d own cc nL rt hh ini) : pz_r_newac d en C own cc nL rt hh ini Q (pz_PW p l e R s m args below meth c D kA a0 nL mc0 ms0 Qf) := by
  intro pc ls st h nc ns n N hd hk hN k H locs cells slots la hL hR hV h1 h2
  obtain ⟨hx, hb, hml, hown, hts, hS0, hmc, hms, hfr, hlo, hret, hlk, hini, hex, hlT⟩ := X
  obtain ⟨L, f, hP, hD, hh2⟩ := hR
  obtain ⟨n1, n2⟩ := pz_nneg hk
  refine va_newa (atype := .char) (ty := .char) hx hb (hts _ (pz_Gin pz_arrW.2.1 rfl)) rfl hS0.1 hP hD hV (fun q hq => Nat.le_trans hS0.2.2.2.2.2.2.2.2.2.2.2 hq) (a0 := (N, .inl (fun _ => 0))) (fun _ => rfl) n1 n2 (by simp [componentBytes]; omega) (by omega) (by omega) hd (fun q cA H1 hK1 hP1 hD1 hV1 => ?_)
  have hcA : cA = kA 1 := pz_arr_uniq (hK1.2 5 (cA, .char) rfl) (hS0.1.2 1 _ rfl)
  subst hcA
  exact k q (pz_Rep_push (D := D) (kA := kA) (a0 := a0) (e2 := .inl (1, N, .inl (fun _ => 0))) hh2 rfl hP1 hD1).1 H1 locs (cells + 1) (slots + N) la hL (pz_Rep_push (D := D) (kA := kA) (a0 := a0) hh2 rfl hP1 hD1).2 hV1 (by omega) (by omega)
theorem pz_s_newal (X : pz_Cx p l R s m args meth c D kA en a0 mc0 ms0 d own cc nL rt hh ini) : pz_r_newal d en C own cc nL rt hh ini Q (pz_PW p l e R s m args below meth c D kA a0 nL mc0 ms0 Qf) := by
  intro pc ls st h nc ns n N hd hk hN k H locs cells slots la hL hR hV h1 h2
  obtain ⟨hx, hb, hml, hown, hts, hS0, hmc, hms, hfr, hlo, hret, hlk, hini, hex, hlT⟩ := X
  obtain ⟨L, f, hP, hD, hh2⟩ := hR
  obtain ⟨n1, n2⟩ := pz_nneg hk
  refine va_newa (atype := .long) (ty := .long) hx hb (hts _ (pz_Gin pz_arrW.2.2 rfl)) rfl hS0.1 hP hD hV (fun q hq => Nat.le_trans hS0.2.2.2.2.2.2.2.2.2.2.2 hq) (a0 := (N, .inr (.inl (fun _ => 0)))) (fun _ => rfl) n1 n2 (by simp [componentBytes]; omega) (by omega) (by omega) hd (fun q cA H1 hK1 hP1 hD1 hV1 => ?_)
  have hcA : cA = kA 2 := pz_arr_uniq (hK1.2 5 (cA, .long) rfl) (hS0.1.2 2 _ rfl)
  subst hcA
  exact k q (pz_Rep_push (D := D) (kA := kA) (a0 := a0) (e2 := .inl (2, N, .inr (.inl (fun _ => 0)))) hh2 rfl hP1 hD1).1 H1 locs (cells + 1) (slots + N) la hL (pz_Rep_push (D := D) (kA := kA) (a0 := a0) hh2 rfl hP1 hD1).2 hV1 (by omega) (by omega)
theorem pz_s_newaq (X : pz_Cx p l R s m args meth c D kA en a0 mc0 ms0 d own cc nL rt hh ini) : pz_r_newaq d en C own cc nL rt hh ini Q (pz_PW p l e R s m args below meth c D kA a0 nL mc0 ms0 Qf) := by
  intro pc ls st h nc ns i ci kq n N hd hc hq hk hN k H locs cells slots la hL hR hV h1 h2
  obtain ⟨hx, hb, hml, hown, hts, hS0, hmc, hms, hfr, hlo, hret, hlk, hini, hex, hlT⟩ := X
  obtain ⟨L, f, hP, hD, hh2⟩ := hR
  obtain ⟨n1, n2⟩ := pz_nneg hk
  obtain ⟨g1, g2⟩ := pz_cls_spec hc
  rcases hq with ⟨rfl, rfl⟩ | ⟨rfl, rfl⟩
  · refine va_newq hx hb hown (hts _ (pz_Gc g2)) hS0.2.2.2.2.2.1.1 hS0.1 hP hD hV (fun q hq => Nat.le_trans hS0.2.2.2.2.2.2.2.2.2.2.2 hq) n1 n2 (by omega) (by omega) (by omega) hd (fun q cA H1 hK1 hP1 hD1 hV1 => ?_)
    have hcA : cA = kA 3 := pz_arr_uniqq (hK1.2 5 (cA, .object RX0) rfl) (hS0.1.2 3 _ rfl)
    subst hcA
    exact k q (pz_Rep_push (D := D) (kA := kA) (a0 := a0) (e2 := .inl (3, N, .inr (.inr (.inr (.inr (fun _ => none)))))) hh2 rfl hP1 hD1).1 H1 locs (cells + 1) (slots + N) la hL (pz_Rep_push (D := D) (kA := kA) (a0 := a0) hh2 rfl hP1 hD1).2 hV1 (by omega) (by omega)
  · refine va_newq hx hb hown (hts _ (pz_Gc g2)) hS0.2.2.2.2.2.1.2 hS0.1 hP hD hV (fun q hq => Nat.le_trans hS0.2.2.2.2.2.2.2.2.2.2.2 hq) n1 n2 (by omega) (by omega) (by omega) hd (fun q cA H1 hK1 hP1 hD1 hV1 => ?_)
    have hcA : cA = kA 4 := pz_arr_uniqq (hK1.2 5 (cA, .object RX5) rfl) (hS0.1.2 4 _ rfl)
    subst hcA
    exact k q (pz_Rep_push (D := D) (kA := kA) (a0 := a0) (e2 := .inl (4, N, .inr (.inr (.inr (.inr (fun _ => none)))))) hh2 rfl hP1 hD1).1 H1 locs (cells + 1) (slots + N) la hL (pz_Rep_push (D := D) (kA := kA) (a0 := a0) hh2 rfl hP1 hD1).2 hV1 (by omega) (by omega)
theorem pz_s_iald (X : pz_Cx p l R s m args meth c D kA en a0 mc0 ms0 d own cc nL rt hh ini) : pz_r_iald d en C own cc nL rt hh ini Q (pz_PW p l e R s m args below meth c D kA a0 nL mc0 ms0 Qf) := by
  intro pc ls st h nc ns a i k n f hd ha hk hn kk H locs cells slots la hL hR hV h1 h2
  obtain ⟨hx, hb, hml, hown, hts, hS0, hmc, hms, hfr, hlo, hret, hlk, hini, hex, hlT⟩ := X
  obtain ⟨L, f2, hP, hD, hh2⟩ := hR
  obtain ⟨q0, hq⟩ := pz_Rep_at (D := D) (a0 := a0) hh2 ha
  obtain ⟨g1, g2⟩ := pz_vin hk hn
  have key := kk H locs cells slots la hL ⟨L, f2, hP, hD, hh2⟩ hV h1 h2
  rw [← g2] at key
  exact va_iald hx hb hS0.1 hP q0 0 hq rfl g1 hd key
theorem pz_s_cald (X : pz_Cx p l R s m args meth c D kA en a0 mc0 ms0 d own cc nL rt hh ini) : pz_r_cald d en C own cc nL rt hh ini Q (pz_PW p l e R s m args below meth c D kA a0 nL mc0 ms0 Qf) := by
  intro pc ls st h nc ns a i k n f hd ha hk hn kk H locs cells slots la hL hR hV h1 h2
  obtain ⟨hx, hb, hml, hown, hts, hS0, hmc, hms, hfr, hlo, hret, hlk, hini, hex, hlT⟩ := X
  obtain ⟨L, f2, hP, hD, hh2⟩ := hR
  obtain ⟨q0, hq⟩ := pz_Rep_at (D := D) (a0 := a0) hh2 ha
  obtain ⟨g1, g2⟩ := pz_vin hk hn
  have key := kk H locs cells slots la hL ⟨L, f2, hP, hD, hh2⟩ hV h1 h2
  rw [← g2] at key
  exact va_cald hx hb hS0.1 hP q0 1 hq rfl g1 hd key
theorem pz_s_lald (X : pz_Cx p l R s m args meth c D kA en a0 mc0 ms0 d own cc nL rt hh ini) : pz_r_lald d en C own cc nL rt hh ini Q (pz_PW p l e R s m args below meth c D kA a0 nL mc0 ms0 Qf) := by
  intro pc ls st h nc ns a i k n f hd ha hk hn kk H locs cells slots la hL hR hV h1 h2
  obtain ⟨hx, hb, hml, hown, hts, hS0, hmc, hms, hfr, hlo, hret, hlk, hini, hex, hlT⟩ := X
  obtain ⟨L, f2, hP, hD, hh2⟩ := hR
  obtain ⟨q0, hq⟩ := pz_Rep_at (D := D) (a0 := a0) hh2 ha
  obtain ⟨g1, g2⟩ := pz_vin hk hn
  have key := kk H locs cells slots la hL ⟨L, f2, hP, hD, hh2⟩ hV h1 h2
  rw [← g2] at key
  exact va_lald hx hb hS0.1 hP q0 2 hq rfl g1 hd key
theorem pz_s_aald (X : pz_Cx p l R s m args meth c D kA en a0 mc0 ms0 d own cc nL rt hh ini) : pz_r_aald d en C own cc nL rt hh ini Q (pz_PW p l e R s m args below meth c D kA a0 nL mc0 ms0 Qf) := by
  intro pc ls st h nc ns a kq i k n f r hd ha hq hk hn hr kk H locs cells slots la hL hR hV h1 h2
  obtain ⟨hx, hb, hml, hown, hts, hS0, hmc, hms, hfr, hlo, hret, hlk, hini, hex, hlT⟩ := X
  obtain ⟨L, f2, hP, hD, hh2⟩ := hR
  obtain ⟨q0, hq0⟩ := pz_Rep_at (D := D) (a0 := a0) hh2 ha
  obtain ⟨g1, g2⟩ := pz_vin hk hn
  have key := kk H locs cells slots la hL ⟨L, f2, hP, hD, hh2⟩ hV h1 h2
  have e1 : Value.ref r = va_rf (f i.toNatClampNeg) := by rw [g2, hr]; rfl
  rw [e1] at key
  rcases hq with rfl | rfl
  · exact va_aldq hx hb hS0.1 hP q0 3 hq0 rfl g1 hd key
  · exact va_aldq hx hb hS0.1 hP q0 4 hq0 rfl g1 hd key
theorem pz_s_iast (X : pz_Cx p l R s m args meth c D kA en a0 mc0 ms0 d own cc nL rt hh ini) : pz_r_iast d en C own cc nL rt hh ini Q (pz_PW p l e R s m args below meth c D kA a0 nL mc0 ms0 Qf) := by
  intro pc ls st h nc ns a i x k n f hp2 hd ha hk hn hu kk H locs cells slots la hL hR hV h1 h2
  obtain ⟨hx, hb, hml, hown, hts, hS0, hmc, hms, hfr, hlo, hret, hlk, hini, hex, hlT⟩ := X
  subst hu
  obtain ⟨L, f2, hP, hD, hh2⟩ := hR
  obtain ⟨q0, hq0⟩ := pz_Rep_at (D := D) (a0 := a0) hh2 ha
  obtain ⟨g1, g2⟩ := pz_vin hk hn
  refine va_iast hx hb hS0.1 hP hD hV q0 0 hq0 rfl g1 hd (fun H1 locs1 hP1 hD1 hV1 => ?_)
  rw [g2] at hP1 hD1
  exact kk H1 locs1 cells slots la hL (pz_Rep_set hD hh2 ha hq0 rfl hP1 hD1) hV1 h1 h2
theorem pz_s_cast (X : pz_Cx p l R s m args meth c D kA en a0 mc0 ms0 d own cc nL rt hh ini) : pz_r_cast d en C own cc nL rt hh ini Q (pz_PW p l e R s m args below meth c D kA a0 nL mc0 ms0 Qf) := by
  intro pc ls st h nc ns a i x k n f hp2 hd ha hk hn hxn hu kk H locs cells slots la hL hR hV h1 h2
  obtain ⟨hx, hb, hml, hown, hts, hS0, hmc, hms, hfr, hlo, hret, hlk, hini, hex, hlT⟩ := X
  subst hu
  obtain ⟨L, f2, hP, hD, hh2⟩ := hR
  obtain ⟨q0, hq0⟩ := pz_Rep_at (D := D) (a0 := a0) hh2 ha
  obtain ⟨g1, g2⟩ := pz_vin hk hn
  refine va_cast hx hb hS0.1 hP hD hV q0 1 hq0 rfl g1 hd (fun H1 locs1 hP1 hD1 hV1 => ?_)
  rw [g2, hxn] at hP1 hD1
  exact kk H1 locs1 cells slots la hL (pz_Rep_set hD hh2 ha hq0 rfl hP1 hD1) hV1 h1 h2
theorem pz_s_last (X : pz_Cx p l R s m args meth c D kA en a0 mc0 ms0 d own cc nL rt hh ini) : pz_r_last d en C own cc nL rt hh ini Q (pz_PW p l e R s m args below meth c D kA a0 nL mc0 ms0 Qf) := by
  intro pc ls st h nc ns a i x k n f hp2 hd ha hk hn hu kk H locs cells slots la hL hR hV h1 h2
  obtain ⟨hx, hb, hml, hown, hts, hS0, hmc, hms, hfr, hlo, hret, hlk, hini, hex, hlT⟩ := X
  subst hu
  obtain ⟨L, f2, hP, hD, hh2⟩ := hR
  obtain ⟨q0, hq0⟩ := pz_Rep_at (D := D) (a0 := a0) hh2 ha
  obtain ⟨g1, g2⟩ := pz_vin hk hn
  refine va_last hx hb hS0.1 hP hD hV q0 2 hq0 rfl g1 hd (fun H1 locs1 hP1 hD1 hV1 => ?_)
  rw [g2] at hP1 hD1
  exact kk H1 locs1 cells slots la hL (pz_Rep_set hD hh2 ha hq0 rfl hP1 hD1) hV1 h1 h2
theorem pz_s_aast (X : pz_Cx p l R s m args meth c D kA en a0 mc0 ms0 d own cc nL rt hh ini) : pz_r_aast d en C own cc nL rt hh ini Q (pz_PW p l e R s m args below meth c D kA a0 nL mc0 ms0 Qf) := by
  intro pc ls st h nc ns a kq ci v vs i k n f hp2 hd ha hq hv hk hn hu kk H locs cells slots la hL hR hV h1 h2
  obtain ⟨hx, hb, hml, hown, hts, hS0, hmc, hms, hfr, hlo, hret, hlk, hini, hex, hlT⟩ := X
  subst hu
  obtain ⟨L, f2, hP, hD, hh2⟩ := hR
  obtain ⟨q0, hq0⟩ := pz_Rep_at (D := D) (a0 := a0) hh2 ha
  obtain ⟨g1, g2⟩ := pz_vin hk hn
  obtain ⟨qk, hqk⟩ := pz_Rep_at (D := D) (a0 := a0) hh2 hv
  rcases hq with ⟨rfl, rfl⟩ | ⟨rfl, rfl⟩
  · refine va_astq hx hb hS0.1 hP hD hV q0 3 qk 0 (r := (RX0, TX0, 8)) hq0 rfl hqk rfl g1 hd (fun H1 locs1 hP1 hD1 hV1 => ?_)
    rw [g2] at hP1 hD1
    exact kk H1 locs1 cells slots la hL (pz_Rep_set hD hh2 ha hq0 rfl hP1 hD1) hV1 h1 h2
  · refine va_astq hx hb hS0.1 hP hD hV q0 4 qk 5 (r := (RX5, TX5, 2)) hq0 rfl hqk rfl g1 hd (fun H1 locs1 hP1 hD1 hV1 => ?_)
    rw [g2] at hP1 hD1
    exact kk H1 locs1 cells slots la hL (pz_Rep_set hD hh2 ha hq0 rfl hP1 hD1) hV1 h1 h2
theorem pz_s_slen (X : pz_Cx p l R s m args meth c D kA en a0 mc0 ms0 d own cc nL rt hh ini) : pz_r_slen d en C own cc nL rt hh ini Q (pz_PW p l e R s m args below meth c D kA a0 nL mc0 ms0 Qf) := by
  intro pc ls st h nc ns hd kk H locs cells slots la hL hR hV h1 h2
  obtain ⟨hx, hb, hml, hown, hts, hS0, hmc, hms, hfr, hlo, hret, hlk, hini, hex, hlT⟩ := X
  exact va_slen hx hb hS0.2.2.2.2.2.2.2.2.2.1 (Nat.lt_of_lt_of_le hS0.2.2.2.2.2.2.2.2.2.2.1 hS0.2.2.2.2.2.2.2.2.2.2.2) (by unfold pz_A; exact Nat.not_le.mpr hS0.2.2.2.2.2.2.2.2.2.2.1) hV hd (kk H locs cells slots la hL hR hV h1 h2)
theorem pz_s_sld (X : pz_Cx p l R s m args meth c D kA en a0 mc0 ms0 d own cc nL rt hh ini) : pz_r_sld d en C own cc nL rt hh ini Q (pz_PW p l e R s m args below meth c D kA a0 nL mc0 ms0 Qf) := by
  intro pc ls st h nc ns i k hd hk hn kk H locs cells slots la hL hR hV h1 h2
  obtain ⟨hx, hb, hml, hown, hts, hS0, hmc, hms, hfr, hlo, hret, hlk, hini, hex, hlT⟩ := X
  obtain ⟨g1, g2⟩ := pz_vin hk hn
  have key := kk H locs cells slots la hL hR hV h1 h2
  rw [← g2] at key
  exact va_sld hx hb hS0.2.2.2.2.2.2.2.2.2.1 (Nat.lt_of_lt_of_le hS0.2.2.2.2.2.2.2.2.2.2.1 hS0.2.2.2.2.2.2.2.2.2.2.2) (by unfold pz_A; exact Nat.not_le.mpr hS0.2.2.2.2.2.2.2.2.2.2.1) hV g1 hd key
theorem pz_s_copy (X : pz_Cx p l R s m args meth c D kA en a0 mc0 ms0 d own cc nL rt hh ini) : pz_r_copy d en C own cc nL rt hh ini Q (pz_PW p l e R s m args below meth c D kA a0 nL mc0 ms0 Qf) := by
  intro pc ls st h nc ns ix a1 a n0 n1 i0 j0 N sp dp n f g hp2 hd hm hd1 ha0 ha hi hj hN g4 g5 hr hu kk H locs cells slots la hL hR hV h1 h2
  obtain ⟨hx, hb, hml, hown, hts, hS0, hmc, hms, hfr, hlo, hret, hlk, hini, hex, hlT⟩ := X
  subst hu
  obtain ⟨L, f2, hP, hD, hh2⟩ := hR
  obtain ⟨q0, hq0⟩ := pz_Rep_at (D := D) (a0 := a0) hh2 ha0
  obtain ⟨q1, hq1⟩ := pz_Rep_at (D := D) (a0 := a0) hh2 ha
  obtain ⟨s1, s2⟩ := pz_nneg hi
  obtain ⟨s3, s4⟩ := pz_nneg hj
  obtain ⟨s5, s6⟩ := pz_nneg hN
  have hcat := pz_cat8 hr
  refine va_copyi hx hb (hml.trans hL.1.symm) hown (hts _ (pz_nat_spec hm)) (hts _ (pz_Gin pz_natW.1 rfl)) (hts _ (pz_Gin pz_natW.2.1 rfl)) (hts _ (pz_Gin pz_natW.2.2 rfl)) hS0.1 hP hD hV q0 q1 0 0 hq0 hq1 rfl rfl rfl s1 s3 s5 (by rw [s2, s6]; exact g4) (by rw [s4, s6]; exact g5) (fun _ _ => rfl) (by omega) (by
    have : nativeFrameWords "java/lang/System" "arraycopy" 5 ≤ 16 := by decide +kernel
    omega) hd (fun H1 locs1 hP1 hD1 hV1 => ?_)
  rw [s2, s4, s6] at hP1 hD1
  exact kk H1 locs1 cells slots la hL (pz_Rep_set hD hh2 ha hq1 rfl hP1 hD1) hV1 h1 h2
theorem pz_s_max (X : pz_Cx p l R s m args meth c D kA en a0 mc0 ms0 d own cc nL rt hh ini) : pz_r_max d en C own cc nL rt hh ini Q (pz_PW p l e R s m args below meth c D kA a0 nL mc0 ms0 Qf) := by
  intro pc ls st h nc ns ix x y hd hm hd1 hr kk H locs cells slots la hL hR hV h1 h2
  obtain ⟨hx, hb, hml, hown, hts, hS0, hmc, hms, hfr, hlo, hret, hlk, hini, hex, hlT⟩ := X
  have hcat := pz_cat8 hr
  exact va_mmax hx hb (hml.trans hL.1.symm) hown (hts _ (pz_nat_spec hm)) (hts _ (pz_Gin pz_maxW.1 rfl)) (hts _ (pz_Gin pz_maxW.2.1 rfl)) (hts _ (pz_Gin pz_maxW.2.2 rfl)) (by omega) (by omega) (by omega) (by omega) hd (kk H locs cells slots la hL hR hV h1 h2)
theorem pz_s_min (X : pz_Cx p l R s m args meth c D kA en a0 mc0 ms0 d own cc nL rt hh ini) : pz_r_min d en C own cc nL rt hh ini Q (pz_PW p l e R s m args below meth c D kA a0 nL mc0 ms0 Qf) := by
  intro pc ls st h nc ns ix x y hd hm hd1 hr kk H locs cells slots la hL hR hV h1 h2
  obtain ⟨hx, hb, hml, hown, hts, hS0, hmc, hms, hfr, hlo, hret, hlk, hini, hex, hlT⟩ := X
  have hcat := pz_cat8 hr
  exact va_mmin hx hb (hml.trans hL.1.symm) hown (hts _ (pz_nat_spec hm)) (hts _ (pz_Gin pz_minW.1 rfl)) (hts _ (pz_Gin pz_minW.2.1 rfl)) (hts _ (pz_Gin pz_minW.2.2 rfl)) (by omega) (by omega) (by omega) (by omega) hd (kk H locs cells slots la hL hR hV h1 h2)
theorem pz_s_obj (X : pz_Cx p l R s m args meth c D kA en a0 mc0 ms0 d own cc nL rt hh ini) : pz_r_obj d en C own cc nL rt hh ini Q (pz_PW p l e R s m args below meth c D kA a0 nL mc0 ms0 Qf) := by
  intro pc ls st h nc ns ix a hd hm hd1 hr kk H locs cells slots la hL hR hV h1 h2
  obtain ⟨hx, hb, hml, hown, hts, hS0, hmc, hms, hfr, hlo, hret, hlk, hini, hex, hlT⟩ := X
  have hcat := pz_cat8 hr
  exact W.objInit hx hb hown (hts _ (pz_obj_spec hm)) (hts _ (pz_Gin pz_objW.1 rfl)) (hts _ (pz_Gin pz_objW.2 rfl)) rfl (hL.1.trans hml.symm) rfl hd (by omega) (by show 2 * 0 + _ + 12 ≤ _; omega) (kk H locs cells slots la hL hR hV h1 h2)
theorem pz_s_forget (X : pz_Cx p l R s m args meth c D kA en a0 mc0 ms0 d own cc nL rt hh ini) : pz_r_forget d en C own cc nL rt hh ini Q (pz_PW p l e R s m args below meth c D kA a0 nL mc0 ms0 Qf) := by
  intro pc ls st h nc ns ls2 hlf k H locs cells slots la hL hR hV h1 h2
  obtain ⟨hx, hb, hml, hown, hts, hS0, hmc, hms, hfr, hlo, hret, hlk, hini, hex, hlT⟩ := X
  exact k H locs cells slots la ⟨hL.1, hL.2.1, fun i v z => hL.2.2 i v (hlf i v z)⟩ hR hV h1 h2
end PZW
