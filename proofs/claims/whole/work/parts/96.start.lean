/-! what stands at the law's start -/
abbrev pz_F : List Cond := flatC (Jvm.Cond.and given_1 narrow_1)
def pz_ncL : List (String × String × Nat) := [("java/lang/IllegalArgumentException", "java/lang/IllegalStateException", 31), ("java/lang/IllegalArgumentException", "java/lang/IndexOutOfBoundsException", 43), ("java/lang/IllegalArgumentException", "java/lang/UnsupportedOperationException", 55), ("java/lang/IllegalArgumentException", "java/util/NoSuchElementException", 67), ("java/lang/IllegalStateException", "java/lang/IllegalArgumentException", 19), ("java/lang/IllegalStateException", "java/lang/IndexOutOfBoundsException", 44), ("java/lang/IllegalStateException", "java/lang/UnsupportedOperationException", 56), ("java/lang/IllegalStateException", "java/util/NoSuchElementException", 68), ("java/lang/IndexOutOfBoundsException", "java/lang/IllegalArgumentException", 20), ("java/lang/IndexOutOfBoundsException", "java/lang/IllegalStateException", 32), ("java/lang/IndexOutOfBoundsException", "java/lang/UnsupportedOperationException", 57), ("java/lang/IndexOutOfBoundsException", "java/util/NoSuchElementException", 69), ("java/lang/UnsupportedOperationException", "java/lang/IllegalArgumentException", 21), ("java/lang/UnsupportedOperationException", "java/lang/IllegalStateException", 33), ("java/lang/UnsupportedOperationException", "java/lang/IndexOutOfBoundsException", 45), ("java/lang/UnsupportedOperationException", "java/util/NoSuchElementException", 70), ("java/util/NoSuchElementException", "java/lang/IllegalArgumentException", 22), ("java/util/NoSuchElementException", "java/lang/IllegalStateException", 34), ("java/util/NoSuchElementException", "java/lang/IndexOutOfBoundsException", 46), ("java/util/NoSuchElementException", "java/lang/UnsupportedOperationException", 58)]
theorem pz_ncL_ok : ∀ e ∈ pz_ncL, pz_F[e.2.2]? = some (.not (.castable e.1 e.2.1)) := by decide +kernel
theorem pz_ncL_all : ∀ E1 ∈ pz_Es, ∀ E2 ∈ pz_Es, E1 ≠ E2 → ∃ e ∈ pz_ncL, e.1 = E1 ∧ e.2.1 = E2 := by decide +kernel
def pz_csL : List (String × Nat) := [("java/lang/IllegalArgumentException", 387), ("java/lang/IllegalStateException", 457), ("java/lang/IndexOutOfBoundsException", 506), ("java/lang/UnsupportedOperationException", 558), ("java/util/NoSuchElementException", 598)]
theorem pz_csL_ok : ∀ e ∈ pz_csL, lw_tbl[e.2]? = some (.castable e.1 e.1) := by decide +kernel
theorem pz_csL_all : ∀ E ∈ pz_Es, ∃ e ∈ pz_csL, e.1 = E := by decide +kernel
theorem pz_exc_n : ∀ e ∈ pz_excL, ∀ w ∈ (pz_atE e).filter (fun w => !goodWord w), w ∈ lw_tbl := by decide +kernel
theorem pz_aoW : lw_tbl[112]? = some (.arrayOver (.object RX0)) ∧ lw_tbl[244]? = some (.arrayOver (.object RX5)) := by decide +kernel
def pz_stP : List (Nat × String × Nat × Nat) := [(61, "the number is out of range or used", 428, 99), (68, "there are 12 cues", 464, 137), (85, "no such cue", 513, 158), (97, "refused", 565, 173), (105, "no such index", 605, 184), (121, "not a follow time", 619, 201), (136, "no such cue or part", 648, 222), (138, "the tenths are out of range", 649, 245), (157, "what is not 0 to 6", 681, 276), (162, "no such channel", 699, 298), (167, "the level is out of range", 703, 317), (173, "no such cue, channel or part", 711, 346), (183, "no such cue or channel", 738, 378), (207, "what is not 0 to 3", 767, 404), (219, "one of the cues does not exist", 812, 426), (221, "no reason was kept", 820, 460), (233, "there is no next cue", 832, 482), (242, "there is no cue with a lower number", 854, 506), (247, "more than 100000 tenths would have passed", 874, 545), (273, "what is not 0 to 4", 927, 590), (307, "account is not 0 to 10", 975, 612), (311, "the character code is out of range", 983, 638), (316, "the input has 60 characters", 984, 676), (328, "the input is not a text", 1018, 707), (343, "an entry cannot be done", 1053, 734), (348, "no error position was kept", 1062, 761), (353, "no change is remembered", 1070, 791), (364, "nothing was saved", 1082, 818)]
theorem pz_stP_ok : ∀ e ∈ pz_stP, lw_tbl[e.2.2.1]? = some (.stringRef RX6 e.1 e.2.1) ∧ pz_F[e.2.2.2]? = some (.exactly (.string RX6 e.1) "java/lang/String") := by decide +kernel
theorem pz_stP_all : ∀ q ∈ pz_strL, ∃ e ∈ pz_stP, e.1 = q.1 ∧ e.2.1 = q.2 := by decide +kernel
theorem pz_sxW : lw_tbl[1453]? = some (.stringRef RX7 pz_key.1 "cxsrgjt") ∧ lw_tbl[1467]? = some (.laysStatic "java/lang/String" "COMPACT_STRINGS" "Z") ∧ lw_tbl[86]? = some (.initialized "java/lang/String") ∧ lw_tbl[412]? = some (.laysStatic Bundle.tN "UNASSIGNED_STACK" Bundle.steD) ∧ lw_tbl[414]? = some (.laysStatic Bundle.tN "SUPPRESSED_SENTINEL" Bundle.listD) ∧ lw_tbl[75]? = some (.initialized Bundle.tN) := by decide +kernel
theorem pz_sxF : pz_F[6]? = some (.eq (.static "java/lang/String" "COMPACT_STRINGS" "Z") (.int 1)) ∧ pz_F[4]? = some (.isRef (.static Bundle.tN "UNASSIGNED_STACK" Bundle.steD)) ∧ pz_F[5]? = some (.isRef (.static Bundle.tN "SUPPRESSED_SENTINEL" Bundle.listD)) := by decide +kernel
def pz_sxT : Term := .string RX7 pz_key.1
theorem pz_sxE : pz_F[839]? = some (.exactly pz_sxT "java/lang/String") ∧ pz_F[840]? = some (.eq (.field pz_sxT "java/lang/String" "coder" "B") (.int 0)) ∧ pz_F[841]? = some (.arrayOf (.field pz_sxT "java/lang/String" "value" "[B") .byte) ∧ pz_F[842]? = some (.eq (.length (.field pz_sxT "java/lang/String" "value" "[B")) (.int 7)) := by decide +kernel
theorem pz_sxB : ∀ j, j < 7 → pz_F[843 + j]? = some (.eq (.elem (.field pz_sxT "java/lang/String" "value" "[B") (.int (Int32.ofNat j))) (.int (([99, 120, 115, 114, 103, 106, 116] : List Int32).getD j 0))) := by decide +kernel
theorem pz_prim {s : State} {args : Array Value} {ty : FieldType} (h : (Cond.arrayClass ty).before args s = true) (hp : ∀ C, ty ≠ .object C) : ∃ cA : ClassId, ArrOfT s cA ty ∧ va_RA s cA ty := by
  obtain ⟨c, k, comp, h1, h2, h3⟩ := Cond.arrayClass_spec (first := s) (o := none) (idx := []) h
  refine ⟨c, fun n z => ⟨(fun k h => by cases h), k, h2, comp, h3⟩, ?_⟩
  cases ty <;> first | exact h1 | exact absurd rfl (hp _)
theorem pz_objA {s : State} {args : Array Value} {C : String} (h : (Cond.arrayOver (.object C)).before args s = true) : ∃ cA : ClassId, ArrOfT s cA (.object C) ∧ va_RA s cA (.object C) := by
  obtain ⟨comp, c, k, h1, h2, h3, h4, h5⟩ := Cond.arrayOver_spec (first := s) (o := none) (idx := []) h
  exact ⟨c, fun n z => ⟨(fun k h => by cases h), k, h3, comp, h4⟩, k, comp, h3, h4, h1, h5⟩
theorem pz_classes {s : State} {args : Array Value} (hts : ∀ w ∈ lw_tbl, w.before args s = true) : ∃ D : va_G, ∀ (k : Nat) (q : vw_C), vwCl[k]? = some q → u_Kn s q.1 q.2.1 q.2.2 (D.1 k) (D.2 k) := by
  have h : ∀ ci : Nat, ∃ (cC : ClassId) (iS : Nat → Nat), ci < 8 → u_Kn s (pz_R ci) (pz_T ci) (pz_N ci) cC iS := fun ci => by
    by_cases h8 : ci < 8
    · obtain ⟨cC, iS, hk⟩ := u_known (args := args) (C := pz_R ci) (T := pz_T ci) (N := pz_N ci) (n := pz_N ci) hts (fun w hw => pz_Gt (pz_lay ci h8 w hw)) (hts _ (List.mem_of_getElem? (pz_inst ci h8).1))
      exact ⟨cC, iS, fun _ => hk⟩
    · exact ⟨0, fun _ => 0, fun z => absurd z h8⟩
  refine ⟨(fun k => Classical.choose (h k), fun k => Classical.choose (Classical.choose_spec (h k))), fun k q hq => ?_⟩
  have hk8 : k < 8 := (List.getElem?_eq_some_iff.mp hq).1
  have hs := Classical.choose_spec (Classical.choose_spec (h k)) hk8
  rw [pz_cl k hk8] at hq
  cases hq
  exact hs
theorem pz_start {s : State} {b L : Nat} {xs : Nat → Int32} (hts : ∀ w ∈ lw_tbl, w.before #[Value.ref b] s = true) (hgv : (Jvm.Cond.and given_1 narrow_1).before #[Value.ref b] s = true) (hX : va_X b L xs s s.heap) (hbl : b < s.heap.size) : ∃ (D : va_G) (kA : Nat → ClassId) (sa : Nat), pz_S D kA (b, L, xs, sa) s.heap.size s s.heap := by
  have hs := flat_of_before _ hgv
  have hA : ∀ a : Nat, a < s.heap.size → ¬ pz_A s.heap.size a := fun a h => Nat.not_le.mpr h
  obtain ⟨D, hD⟩ := pz_classes hts
  obtain ⟨a0, ha0⟩ := pz_prim (hts _ (List.mem_of_getElem? pz_arrW.1)) (by intro C hC; cases hC)
  obtain ⟨a1, ha1⟩ := pz_prim (hts _ (List.mem_of_getElem? pz_arrW.2.1)) (by intro C hC; cases hC)
  obtain ⟨a2, ha2⟩ := pz_prim (hts _ (List.mem_of_getElem? pz_arrW.2.2)) (by intro C hC; cases hC)
  obtain ⟨a3, ha3⟩ := pz_objA (hts _ (List.mem_of_getElem? pz_aoW.1))
  obtain ⟨a4, ha4⟩ := pz_objA (hts _ (List.mem_of_getElem? pz_aoW.2))
  obtain ⟨x1, x2, x3, x4, x5, x6⟩ := pz_sxW
  obtain ⟨y1, y2, y3⟩ := pz_sxF
  obtain ⟨z1, z2, z3, z4⟩ := pz_sxE
  obtain ⟨adK, adV, hS1, hS2⟩ := vk_Sof (args := #[Value.ref b]) (s := s) (N := 1) (tm := fun _ => pz_sxT) (len := [7]) (byt := [[99, 120, 115, 114, 103, 106, 116]]) (A := pz_A s.heap.size)
    (fun i hi => by obtain rfl : i = 0 := by omega
                    decide)
    (fun i _ => hs _ (List.mem_of_getElem? z1)) (fun i _ => hs _ (List.mem_of_getElem? z2)) (fun i _ => hs _ (List.mem_of_getElem? z3))
    (fun i hi => by obtain rfl : i = 0 := by omega
                    exact hs _ (List.mem_of_getElem? z4))
    (fun i hi j hj => by
      obtain rfl : i = 0 := by omega
      exact hs _ (List.mem_of_getElem? (pz_sxB j hj)))
    (fun i j hi hj hne => by omega) hA
  refine ⟨D, fun k => match k with
    | 0 => a0
    | 1 => a1
    | 2 => a2
    | 3 => a3
    | _ => a4, adK 0, ⟨hD, fun k q hq => ?_⟩, fun e he m hm => ?_, fun e he w hw => ?_, fun E1 h1 E2 h2 hne => ?_, fun E hE => ?_, ⟨va_AO.of (hts _ (List.mem_of_getElem? pz_aoW.1)), va_AO.of (hts _ (List.mem_of_getElem? pz_aoW.2))⟩, fun q hq => ?_, vk_R.of (hts _ (List.mem_of_getElem? x1)) (hS2 0 (by decide)), ⟨vx_Zqof (hts _ (List.mem_of_getElem? x4)) (hts _ (List.mem_of_getElem? x6)) (hs _ (List.mem_of_getElem? y2)) hA, vx_Zqof (hts _ (List.mem_of_getElem? x5)) (hts _ (List.mem_of_getElem? x6)) (hs _ (List.mem_of_getElem? y3)) hA, ⟨adK, adV, hS1, rfl⟩, ?_⟩, hX, hbl, Nat.le_refl _⟩
  · match k, hq with
    | 0, hq => cases hq; exact ha0
    | 1, hq => cases hq; exact ha1
    | 2, hq => cases hq; exact ha2
    | 3, hq => cases hq; exact ha3
    | 4, hq => cases hq; exact ha4
    | k + 5, hq => simp [pz_tys] at hq
  · have h1 := pz_nestL_ok e he
    simp only [pz_nestQ, hm] at h1
    exact va_Nw.of rfl (hts _ (List.mem_of_getElem? (of_decide_eq_true h1)))
  · have h1 := pz_exc_n e he w hw
    have h2 := pz_exc_c e he w hw
    have h3 := hts w h1
    cases w <;> first | exact va_Nw.of rfl h3 | (exact absurd h2 (by simp [pz_cdw]))
  · obtain ⟨e, he, r1, r2⟩ := pz_ncL_all E1 h1 E2 h2 hne
    subst r1; subst r2
    exact va_Nc.of (hs _ (List.mem_of_getElem? (pz_ncL_ok e he)))
  · obtain ⟨e, he, r1⟩ := pz_csL_all E hE
    subst r1
    exact va_Nw.of rfl (hts _ (List.mem_of_getElem? (pz_csL_ok e he)))
  · obtain ⟨e, he, r1, r2⟩ := pz_stP_all q hq
    obtain ⟨g1, g2⟩ := pz_stP_ok e he
    rw [← r1, ← r2]
    obtain ⟨a, c, cell, k, e1, -⟩ := Cond.exactly_spec (first := s) (o := none) (idx := []) (hs _ (List.mem_of_getElem? g2))
    exact ⟨a, vk_R.of (hts _ (List.mem_of_getElem? g1)) e1⟩
  · obtain ⟨y, e1, e2⟩ := Cond.eq_one (first := s) (o := none) (idx := []) (hs _ (List.mem_of_getElem? y1))
    have e3 : y = .int 1 := (Option.some.inj (show some (Value.int 1) = some y from e2)).symm
    rw [e3] at e1
    exact va_Zof (hts _ (List.mem_of_getElem? x2)) (hts _ (List.mem_of_getElem? x3)) e1 hA
theorem pz_top (hI : ∀ (l : Launch) (D : va_G) (kA : Nat → ClassId) (en : pz_Env) (a0 : Nat), pz_IdxM l D kA en a0) (hLaw : ∀ en : pz_Env, en.2.1 ≤ 3072 → pz_WP 11 en (pz_Cd en (11 - 1)) 8 code 9 (some .boolean) [] false (fun o _ => o = .inl (some (.int 1))) 0 (pz_entry [.ref en.1] 9) [] (fun _ => none) 601024 7293034) {p : Program} {e : Env} {s : State} {m : MethodId} {below : List Frame} {meth : Method} {c : Code} (l : Launch) (hlT : l.stackTraces = false) {b L : Nat} {xs : Nat → Int32} (hL : L ≤ 3072) (hx : p.tables.exec = Jvm.exec) (hb : c.code = code) (hr : meth.sig.returnType = some .boolean) (hml : c.maxLocals = 9) (hown : s.vm.findClass RL = some m.cls) (hts : ∀ w ∈ lw_tbl, w.before #[Value.ref b] s = true) (hX : va_X b L xs s s.heap) (hbl : b < s.heap.size) (hlocks : meth.locks = false) (hgv : (Jvm.Cond.and given_1 narrow_1).before #[Value.ref b] s = true) {Qf : State → Prop}
    (hend : ∀ (pc : Nat) (la : Array Slot) (H : Heap), decode code pc = .ok (.ireturn, 1) → W p l e room_1 s m #[Value.ref b] below meth c H [] 601024 7293034 Qf (F0 m pc la [.int 1])) : W p l e room_1 s m #[Value.ref b] below meth c s.heap [] 0 0 Qf (entryFrame m ([Value.ref b] : List Value).toArray 9) := by
  obtain ⟨D, kA, sa, hS⟩ := pz_start hts hgv hX hbl
  rw [lg_entry_eq]
  have hsn := pz_sound l hlT D kA (b, L, xs, sa) s.heap.size (hI l D kA (b, L, xs, sa) s.heap.size) 10
  have X : pz_Cx p l room_1 s m #[Value.ref b] meth c D kA (b, L, xs, sa) s.heap.size 601024 7293034 11 8 code 9 (some .boolean) [] false :=
    ⟨hx, hb, hml, hown, fun w hw => hts w (pz_Gt hw), hS, Nat.le_refl _, Nat.le_refl _, Nat.le_refl _, Nat.le_of_ble_eq_true rfl, hr, hlocks, (fun h => by cases h), Or.inl ⟨rfl, rfl⟩, hlT⟩
  refine hLaw (b, L, xs, sa) hL _ (pz_closedL (l := l) (e := e) (below := below) (Qf := Qf) (d := 11) hsn (by decide) (hI l D kA (b, L, xs, sa) s.heap.size) X ?_ ?_ ?_ ?_ ?_ ?_) s.heap [] 0 0 _ (pz_Lr_entry (as := [.ref b]) rfl (Nat.le_of_ble_eq_true rfl)) ⟨[], fun _ => .inr (0, []), fun k q h => by simp [va_pl] at h, ⟨fun i j p q h => by simp [va_pl] at h, fun k q h => by simp [va_pl] at h⟩, fun a e h => by cases h⟩ va_S.rf (Nat.le_refl _) (Nat.le_refl _)
  · intro pc ls st h nc ns v ty hd hr hn hq H locs cells slots la hL hR hV h1 h2
    cases hq
    exact va_forget (fun q hq => hV.2.2 q hq) (W.widen (k := 601024) (n := 7293034) (by omega) (by omega) (hend pc la H hd))
  · intro pc ls st h nc ns hd hr
    cases hr
  · intro pc ls st h nc ns a ty hd hr
    cases hr
  · intro pc ls st h nc ns v hd hr
    cases hr
  · intro pc ls st h nc ns ik ic is E tx d0 d3 d4 d6 d9 he hs ho
    cases ho
  · intro pc ls st h nc ns ik ic is E tx d0 d3 d4 d6 d9 he hs ho
    cases ho
