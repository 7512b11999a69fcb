/-! the law: a call of the class, its exceptions -/
section zw
variable {d : Nat} {en : pz_Env} {own : Nat} {cc : ByteArray} {nL : Nat} {rt : Option FieldType} {hh : List (Nat × Nat × Nat × Nat)} {ini : Bool} {Q : pz_Q} {pc : Nat} {ls : List (Option Value)} {st : List Value} {h h1 : pz_H} {nc ns mc ms : Nat}
theorem zw_v {k0 ix b : Nat} {as rest fs : List Value} {y : Nat} {yn : MethodName} {bs : ByteArray} {mL : Nat} {mr : Option FieldType} {mo np : Nat} {ps : List Nat} {v : Option Value} (hd : decode cc pc = .ok (.invokevirtual ix, 3)) (hm : pz_mth own ix = some y) (ht : pz_tab y = some (yn, bs, mL, mr, mo, np, 1, [], ps)) (hst : st = as.reverse ++ .ref b :: rest) (hlen : as.length = np) (hb : h b = some (.inr (mo, fs))) (hr : rest.length ≤ 3) (hmo : mo < 8) (hk : k0 ≤ d - 1) (hC : pz_Cd en k0 y (.ref b :: as) h mc ms (pz_ret v h1)) (k : pz_WP d en (pz_Cd en (d - 1)) own cc nL rt hh ini Q (pc + 3) ls (v.toList ++ rest) h1 nc ns) : pz_WP d en (pz_Cd en (d - 1)) own cc nL rt hh ini Q pc ls st h (nc + mc) (ns + ms) :=
  pr_callv hd hm ht hst hlen hb hr hmo (pz_Cd_mono en (d - 1) (d - 1) (Nat.le_refl _)) (Qs := pz_ret v h1) (pz_Cd_mono en k0 (d - 1) hk _ _ _ _ _ _ _ (fun _ _ z => z) hC) (fun o h2 hq => by obtain ⟨rfl, rfl⟩ := hq; exact k)
theorem zw_t {k0 ix b : Nat} {as rest fs : List Value} {y : Nat} {yn : MethodName} {bs : ByteArray} {mL : Nat} {mr : Option FieldType} {mo np : Nat} {ps : List Nat} {E : String} {tgt : Nat} (hd : decode cc pc = .ok (.invokevirtual ix, 3)) (hm : pz_mth own ix = some y) (ht : pz_tab y = some (yn, bs, mL, mr, mo, np, 1, [], ps)) (hst : st = as.reverse ++ .ref b :: rest) (hlen : as.length = np) (hb : h b = some (.inr (mo, fs))) (hr : rest.length ≤ 3) (hmo : mo < 8) (hk : k0 ≤ d - 1) (hC : pz_Cd en k0 y (.ref b :: as) h mc ms (pz_thr E h1)) (hE : pz_hnd own hh pc E = some tgt) (k : ∀ q, pz_WP d en (pz_Cd en (d - 1)) own cc nL rt hh ini Q tgt ls [.ref q] h1 nc ns) : pz_WP d en (pz_Cd en (d - 1)) own cc nL rt hh ini Q pc ls st h (nc + mc) (ns + ms) :=
  pr_callv hd hm ht hst hlen hb hr hmo (pz_Cd_mono en (d - 1) (d - 1) (Nat.le_refl _)) (Qs := pz_thr E h1) (pz_Cd_mono en k0 (d - 1) hk _ _ _ _ _ _ _ (fun _ _ z => z) hC) (fun o h2 hq => by obtain ⟨rfl, rfl⟩ := hq; exact ⟨tgt, hE, k⟩)
theorem zw_s {k0 ix : Nat} {as rest : List Value} {y : Nat} {yn : MethodName} {bs : ByteArray} {mL : Nat} {mr : Option FieldType} {mo np : Nat} {mh : List (Nat × Nat × Nat × Nat)} {ps : List Nat} {v : Option Value} (hd : decode cc pc = .ok (.invokestatic ix, 3)) (hm : pz_mth own ix = some y) (ht : pz_tab y = some (yn, bs, mL, mr, mo, np, 0, mh, ps)) (hst : st = as.reverse ++ rest) (hlen : as.length = np) (hr : rest.length ≤ 3) (hk : k0 ≤ d - 1) (hC : pz_Cd en k0 y as h mc ms (pz_ret v h1)) (k : pz_WP d en (pz_Cd en (d - 1)) own cc nL rt hh ini Q (pc + 3) ls (v.toList ++ rest) h1 nc ns) : pz_WP d en (pz_Cd en (d - 1)) own cc nL rt hh ini Q pc ls st h (nc + mc) (ns + ms) :=
  pr_calls hd hm ht hst hlen hr (pz_Cd_mono en (d - 1) (d - 1) (Nat.le_refl _)) (Qs := pz_ret v h1) (pz_Cd_mono en k0 (d - 1) hk _ _ _ _ _ _ _ (fun _ _ z => z) hC) (fun o h2 hq => by obtain ⟨rfl, rfl⟩ := hq; exact k)
end zw
abbrev oC (w : Nat → Int64) : Option pz_E := some (.inl (2, 1, .inr (.inl w)))
abbrev wK (en : pz_Env) (W M : Nat) (as : List Value) : Prop := ∀ (x o : Nat) (g g1 : pz_H) (v : Int32) (w : Nat → Int64) (fs : List Value) (mc ms : Nat), g x = some (.inr (6, fs)) → g1 o = oC w → pz_Cd en 9 M (.ref x :: as) g mc ms (pz_ret (some (.int v)) g1) → pz_Cd en 10 W ((.ref x :: as) ++ [.ref o]) g (0 + mc) (0 + ms) (pz_ret (some (.int (zI 0))) (va_up g1 o (oC (va_up w 0 v.toInt64))))
abbrev wB (en : pz_Env) (W M : Nat) (as : List Value) : Prop := ∀ (x o : Nat) (g g1 : pz_H) (v : Int) (w : Nat → Int64) (fs : List Value) (mc ms : Nat), (v = 0 ∨ v = 1) → g x = some (.inr (6, fs)) → g1 o = oC w → pz_Cd en 9 M (.ref x :: as) g mc ms (pz_ret (some (.int (zI v))) g1) → pz_Cd en 10 W ((.ref x :: as) ++ [.ref o]) g (0 + mc) (0 + ms) (pz_ret (some (.int (zI 0))) (va_up g1 o (oC (va_up w 0 (zI v).toInt64))))
abbrev wT (en : pz_Env) (W M : Nat) (as : List Value) (E : String) (j : Int) : Prop := ∀ (x o : Nat) (g g1 : pz_H) (fs : List Value) (mc ms : Nat), g x = some (.inr (6, fs)) → pz_Cd en 9 M (.ref x :: as) g mc ms (pz_thr E g1) → pz_Cd en 10 W ((.ref x :: as) ++ [.ref o]) g (0 + mc) (0 + ms) (pz_ret (some (.int (zI j))) g1)
section wr
variable {en : pz_Env}
set_option maxRecDepth 100000 in
theorem wr_cue_k {n1 n2 : Int32} : wK en 216 76 [.int n1, .int n2] := by
  intro x o g g1 v w fs mc ms hx ho hC
  refine pz_in pzt_L_cue ?_
  refine pr_aload_n dL_cue_0 rfl ?_
  refine zr_iconst dL_cue_1 ?_
  refine pr_aload_n dL_cue_2 rfl ?_
  refine pr_iload_n dL_cue_3 rfl ?_
  refine pr_iload_n dL_cue_4 rfl ?_
  refine zw_v (as := [.int n1, .int n2]) (rest := [.int (zI 0), .ref o]) (nc := 0) (ns := 0) dL_cue_5 pzm_8_45 pzt_X6_cue rfl rfl hx (Nat.le_of_ble_eq_true rfl) (by decide) (by decide) hC ?_
  refine pr_i2l dL_cue_8 ?_
  refine pr_last (k := 0) dL_cue_9 ho (by decide) (by decide) rfl ?_
  refine pr_goto (tgt := 21) dL_cue_10 (by decide) ?_
  refine zr_iconst dL_cue_21 ?_
  exact pr_iret dL_cue_22 rfl rfl ⟨rfl, rfl⟩
set_option maxRecDepth 100000 in
theorem wr_cue_1 {n1 n2 : Int32} : wT en 216 76 [.int n1, .int n2] "java/lang/IndexOutOfBoundsException" 1 := by
  intro x o g g1 fs mc ms hx hC
  refine pz_in pzt_L_cue ?_
  refine pr_aload_n dL_cue_0 rfl ?_
  refine zr_iconst dL_cue_1 ?_
  refine pr_aload_n dL_cue_2 rfl ?_
  refine pr_iload_n dL_cue_3 rfl ?_
  refine pr_iload_n dL_cue_4 rfl ?_
  refine zw_t (tgt := 13) (as := [.int n1, .int n2]) (rest := [.int (zI 0), .ref o]) (nc := 0) (ns := 0) dL_cue_5 pzm_8_45 pzt_X6_cue rfl rfl hx (Nat.le_of_ble_eq_true rfl) (by decide) (by decide) hC (by decide +kernel) (fun q => ?_)
  refine pr_astore dL_cue_13 (by decide) rfl ?_
  refine zr_iconst dL_cue_15 ?_
  exact pr_iret dL_cue_16 rfl rfl ⟨rfl, rfl⟩
set_option maxRecDepth 100000 in
theorem wr_cue_2 {n1 n2 : Int32} : wT en 216 76 [.int n1, .int n2] "java/lang/IllegalArgumentException" 2 := by
  intro x o g g1 fs mc ms hx hC
  refine pz_in pzt_L_cue ?_
  refine pr_aload_n dL_cue_0 rfl ?_
  refine zr_iconst dL_cue_1 ?_
  refine pr_aload_n dL_cue_2 rfl ?_
  refine pr_iload_n dL_cue_3 rfl ?_
  refine pr_iload_n dL_cue_4 rfl ?_
  refine zw_t (tgt := 17) (as := [.int n1, .int n2]) (rest := [.int (zI 0), .ref o]) (nc := 0) (ns := 0) dL_cue_5 pzm_8_45 pzt_X6_cue rfl rfl hx (Nat.le_of_ble_eq_true rfl) (by decide) (by decide) hC (by decide +kernel) (fun q => ?_)
  refine pr_astore dL_cue_17 (by decide) rfl ?_
  refine zr_iconst dL_cue_19 ?_
  exact pr_iret dL_cue_20 rfl rfl ⟨rfl, rfl⟩
set_option maxRecDepth 100000 in
theorem wr_part_k {n1 n2 n3 : Int32} : wK en 217 77 [.int n1, .int n2, .int n3] := by
  intro x o g g1 v w fs mc ms hx ho hC
  refine pz_in pzt_L_part ?_
  refine pr_aload dL_part_0 rfl ?_
  refine zr_iconst dL_part_2 ?_
  refine pr_aload_n dL_part_3 rfl ?_
  refine pr_iload_n dL_part_4 rfl ?_
  refine pr_iload_n dL_part_5 rfl ?_
  refine pr_iload_n dL_part_6 rfl ?_
  refine zw_v (as := [.int n1, .int n2, .int n3]) (rest := [.int (zI 0), .ref o]) (nc := 0) (ns := 0) dL_part_7 pzm_8_48 pzt_X6_part rfl rfl hx (Nat.le_of_ble_eq_true rfl) (by decide) (by decide) hC ?_
  refine pr_i2l dL_part_10 ?_
  refine pr_last (k := 0) dL_part_11 ho (by decide) (by decide) rfl ?_
  refine pr_goto (tgt := 19) dL_part_12 (by decide) ?_
  refine zr_iconst dL_part_19 ?_
  exact pr_iret dL_part_20 rfl rfl ⟨rfl, rfl⟩
set_option maxRecDepth 100000 in
theorem wr_part_1 {n1 n2 n3 : Int32} : wT en 217 77 [.int n1, .int n2, .int n3] "java/lang/IndexOutOfBoundsException" 1 := by
  intro x o g g1 fs mc ms hx hC
  refine pz_in pzt_L_part ?_
  refine pr_aload dL_part_0 rfl ?_
  refine zr_iconst dL_part_2 ?_
  refine pr_aload_n dL_part_3 rfl ?_
  refine pr_iload_n dL_part_4 rfl ?_
  refine pr_iload_n dL_part_5 rfl ?_
  refine pr_iload_n dL_part_6 rfl ?_
  refine zw_t (tgt := 15) (as := [.int n1, .int n2, .int n3]) (rest := [.int (zI 0), .ref o]) (nc := 0) (ns := 0) dL_part_7 pzm_8_48 pzt_X6_part rfl rfl hx (Nat.le_of_ble_eq_true rfl) (by decide) (by decide) hC (by decide +kernel) (fun q => ?_)
  refine pr_astore dL_part_15 (by decide) rfl ?_
  refine zr_iconst dL_part_17 ?_
  exact pr_iret dL_part_18 rfl rfl ⟨rfl, rfl⟩
set_option maxRecDepth 100000 in
theorem wr_setHome_k {n1 n2 : Int32} : wK en 218 78 [.int n1, .int n2] := by
  intro x o g g1 v w fs mc ms hx ho hC
  refine pz_in pzt_L_setHome ?_
  refine pr_aload_n dL_setHome_0 rfl ?_
  refine zr_iconst dL_setHome_1 ?_
  refine pr_aload_n dL_setHome_2 rfl ?_
  refine pr_iload_n dL_setHome_3 rfl ?_
  refine pr_iload_n dL_setHome_4 rfl ?_
  refine zw_v (as := [.int n1, .int n2]) (rest := [.int (zI 0), .ref o]) (nc := 0) (ns := 0) dL_setHome_5 pzm_8_52 pzt_X6_setHome rfl rfl hx (Nat.le_of_ble_eq_true rfl) (by decide) (by decide) hC ?_
  refine pr_i2l dL_setHome_8 ?_
  refine pr_last (k := 0) dL_setHome_9 ho (by decide) (by decide) rfl ?_
  refine pr_goto (tgt := 21) dL_setHome_10 (by decide) ?_
  refine zr_iconst dL_setHome_21 ?_
  exact pr_iret dL_setHome_22 rfl rfl ⟨rfl, rfl⟩
set_option maxRecDepth 100000 in
theorem wr_setHome_1 {n1 n2 : Int32} : wT en 218 78 [.int n1, .int n2] "java/lang/IndexOutOfBoundsException" 1 := by
  intro x o g g1 fs mc ms hx hC
  refine pz_in pzt_L_setHome ?_
  refine pr_aload_n dL_setHome_0 rfl ?_
  refine zr_iconst dL_setHome_1 ?_
  refine pr_aload_n dL_setHome_2 rfl ?_
  refine pr_iload_n dL_setHome_3 rfl ?_
  refine pr_iload_n dL_setHome_4 rfl ?_
  refine zw_t (tgt := 13) (as := [.int n1, .int n2]) (rest := [.int (zI 0), .ref o]) (nc := 0) (ns := 0) dL_setHome_5 pzm_8_52 pzt_X6_setHome rfl rfl hx (Nat.le_of_ble_eq_true rfl) (by decide) (by decide) hC (by decide +kernel) (fun q => ?_)
  refine pr_astore dL_setHome_13 (by decide) rfl ?_
  refine zr_iconst dL_setHome_15 ?_
  exact pr_iret dL_setHome_16 rfl rfl ⟨rfl, rfl⟩
set_option maxRecDepth 100000 in
theorem wr_setHome_2 {n1 n2 : Int32} : wT en 218 78 [.int n1, .int n2] "java/lang/IllegalArgumentException" 2 := by
  intro x o g g1 fs mc ms hx hC
  refine pz_in pzt_L_setHome ?_
  refine pr_aload_n dL_setHome_0 rfl ?_
  refine zr_iconst dL_setHome_1 ?_
  refine pr_aload_n dL_setHome_2 rfl ?_
  refine pr_iload_n dL_setHome_3 rfl ?_
  refine pr_iload_n dL_setHome_4 rfl ?_
  refine zw_t (tgt := 17) (as := [.int n1, .int n2]) (rest := [.int (zI 0), .ref o]) (nc := 0) (ns := 0) dL_setHome_5 pzm_8_52 pzt_X6_setHome rfl rfl hx (Nat.le_of_ble_eq_true rfl) (by decide) (by decide) hC (by decide +kernel) (fun q => ?_)
  refine pr_astore dL_setHome_17 (by decide) rfl ?_
  refine zr_iconst dL_setHome_19 ?_
  exact pr_iret dL_setHome_20 rfl rfl ⟨rfl, rfl⟩
set_option maxRecDepth 100000 in
theorem wr_set_k {n1 n2 n3 n4 n5 : Int32} : wK en 219 79 [.int n1, .int n2, .int n3, .int n4, .int n5] := by
  intro x o g g1 v w fs mc ms hx ho hC
  refine pz_in pzt_L_set ?_
  refine pr_aload dL_set_0 rfl ?_
  refine zr_iconst dL_set_2 ?_
  refine pr_aload_n dL_set_3 rfl ?_
  refine pr_iload_n dL_set_4 rfl ?_
  refine pr_iload_n dL_set_5 rfl ?_
  refine pr_iload_n dL_set_6 rfl ?_
  refine pr_iload dL_set_7 rfl ?_
  refine pr_iload dL_set_9 rfl ?_
  refine zw_v (as := [.int n1, .int n2, .int n3, .int n4, .int n5]) (rest := [.int (zI 0), .ref o]) (nc := 0) (ns := 0) dL_set_11 pzm_8_55 pzt_X6_set rfl rfl hx (Nat.le_of_ble_eq_true rfl) (by decide) (by decide) hC ?_
  refine pr_i2l dL_set_14 ?_
  refine pr_last (k := 0) dL_set_15 ho (by decide) (by decide) rfl ?_
  refine pr_goto (tgt := 31) dL_set_16 (by decide) ?_
  refine zr_iconst dL_set_31 ?_
  exact pr_iret dL_set_32 rfl rfl ⟨rfl, rfl⟩
set_option maxRecDepth 100000 in
theorem wr_set_1 {n1 n2 n3 n4 n5 : Int32} : wT en 219 79 [.int n1, .int n2, .int n3, .int n4, .int n5] "java/lang/IndexOutOfBoundsException" 1 := by
  intro x o g g1 fs mc ms hx hC
  refine pz_in pzt_L_set ?_
  refine pr_aload dL_set_0 rfl ?_
  refine zr_iconst dL_set_2 ?_
  refine pr_aload_n dL_set_3 rfl ?_
  refine pr_iload_n dL_set_4 rfl ?_
  refine pr_iload_n dL_set_5 rfl ?_
  refine pr_iload_n dL_set_6 rfl ?_
  refine pr_iload dL_set_7 rfl ?_
  refine pr_iload dL_set_9 rfl ?_
  refine zw_t (tgt := 19) (as := [.int n1, .int n2, .int n3, .int n4, .int n5]) (rest := [.int (zI 0), .ref o]) (nc := 0) (ns := 0) dL_set_11 pzm_8_55 pzt_X6_set rfl rfl hx (Nat.le_of_ble_eq_true rfl) (by decide) (by decide) hC (by decide +kernel) (fun q => ?_)
  refine pr_astore dL_set_19 (by decide) rfl ?_
  refine zr_iconst dL_set_21 ?_
  exact pr_iret dL_set_22 rfl rfl ⟨rfl, rfl⟩
set_option maxRecDepth 100000 in
theorem wr_set_2 {n1 n2 n3 n4 n5 : Int32} : wT en 219 79 [.int n1, .int n2, .int n3, .int n4, .int n5] "java/lang/IllegalArgumentException" 2 := by
  intro x o g g1 fs mc ms hx hC
  refine pz_in pzt_L_set ?_
  refine pr_aload dL_set_0 rfl ?_
  refine zr_iconst dL_set_2 ?_
  refine pr_aload_n dL_set_3 rfl ?_
  refine pr_iload_n dL_set_4 rfl ?_
  refine pr_iload_n dL_set_5 rfl ?_
  refine pr_iload_n dL_set_6 rfl ?_
  refine pr_iload dL_set_7 rfl ?_
  refine pr_iload dL_set_9 rfl ?_
  refine zw_t (tgt := 23) (as := [.int n1, .int n2, .int n3, .int n4, .int n5]) (rest := [.int (zI 0), .ref o]) (nc := 0) (ns := 0) dL_set_11 pzm_8_55 pzt_X6_set rfl rfl hx (Nat.le_of_ble_eq_true rfl) (by decide) (by decide) hC (by decide +kernel) (fun q => ?_)
  refine pr_astore dL_set_23 (by decide) rfl ?_
  refine zr_iconst dL_set_25 ?_
  exact pr_iret dL_set_26 rfl rfl ⟨rfl, rfl⟩
set_option maxRecDepth 100000 in
theorem wr_set_3 {n1 n2 n3 n4 n5 : Int32} : wT en 219 79 [.int n1, .int n2, .int n3, .int n4, .int n5] "java/lang/UnsupportedOperationException" 3 := by
  intro x o g g1 fs mc ms hx hC
  refine pz_in pzt_L_set ?_
  refine pr_aload dL_set_0 rfl ?_
  refine zr_iconst dL_set_2 ?_
  refine pr_aload_n dL_set_3 rfl ?_
  refine pr_iload_n dL_set_4 rfl ?_
  refine pr_iload_n dL_set_5 rfl ?_
  refine pr_iload_n dL_set_6 rfl ?_
  refine pr_iload dL_set_7 rfl ?_
  refine pr_iload dL_set_9 rfl ?_
  refine zw_t (tgt := 27) (as := [.int n1, .int n2, .int n3, .int n4, .int n5]) (rest := [.int (zI 0), .ref o]) (nc := 0) (ns := 0) dL_set_11 pzm_8_55 pzt_X6_set rfl rfl hx (Nat.le_of_ble_eq_true rfl) (by decide) (by decide) hC (by decide +kernel) (fun q => ?_)
  refine pr_astore dL_set_27 (by decide) rfl ?_
  refine zr_iconst dL_set_29 ?_
  exact pr_iret dL_set_30 rfl rfl ⟨rfl, rfl⟩
set_option maxRecDepth 100000 in
theorem wr_release_k {n1 n2 n3 n4 : Int32} : wK en 220 80 [.int n1, .int n2, .int n3, .int n4] := by
  intro x o g g1 v w fs mc ms hx ho hC
  refine pz_in pzt_L_release ?_
  refine pr_aload dL_release_0 rfl ?_
  refine zr_iconst dL_release_2 ?_
  refine pr_aload_n dL_release_3 rfl ?_
  refine pr_iload_n dL_release_4 rfl ?_
  refine pr_iload_n dL_release_5 rfl ?_
  refine pr_iload_n dL_release_6 rfl ?_
  refine pr_iload dL_release_7 rfl ?_
  refine zw_v (as := [.int n1, .int n2, .int n3, .int n4]) (rest := [.int (zI 0), .ref o]) (nc := 0) (ns := 0) dL_release_9 pzm_8_59 pzt_X6_release rfl rfl hx (Nat.le_of_ble_eq_true rfl) (by decide) (by decide) hC ?_
  refine pr_i2l dL_release_12 ?_
  refine pr_last (k := 0) dL_release_13 ho (by decide) (by decide) rfl ?_
  refine pr_goto (tgt := 25) dL_release_14 (by decide) ?_
  refine zr_iconst dL_release_25 ?_
  exact pr_iret dL_release_26 rfl rfl ⟨rfl, rfl⟩
set_option maxRecDepth 100000 in
theorem wr_release_1 {n1 n2 n3 n4 : Int32} : wT en 220 80 [.int n1, .int n2, .int n3, .int n4] "java/lang/IndexOutOfBoundsException" 1 := by
  intro x o g g1 fs mc ms hx hC
  refine pz_in pzt_L_release ?_
  refine pr_aload dL_release_0 rfl ?_
  refine zr_iconst dL_release_2 ?_
  refine pr_aload_n dL_release_3 rfl ?_
  refine pr_iload_n dL_release_4 rfl ?_
  refine pr_iload_n dL_release_5 rfl ?_
  refine pr_iload_n dL_release_6 rfl ?_
  refine pr_iload dL_release_7 rfl ?_
  refine zw_t (tgt := 17) (as := [.int n1, .int n2, .int n3, .int n4]) (rest := [.int (zI 0), .ref o]) (nc := 0) (ns := 0) dL_release_9 pzm_8_59 pzt_X6_release rfl rfl hx (Nat.le_of_ble_eq_true rfl) (by decide) (by decide) hC (by decide +kernel) (fun q => ?_)
  refine pr_astore dL_release_17 (by decide) rfl ?_
  refine zr_iconst dL_release_19 ?_
  exact pr_iret dL_release_20 rfl rfl ⟨rfl, rfl⟩
set_option maxRecDepth 100000 in
theorem wr_release_2 {n1 n2 n3 n4 : Int32} : wT en 220 80 [.int n1, .int n2, .int n3, .int n4] "java/lang/UnsupportedOperationException" 2 := by
  intro x o g g1 fs mc ms hx hC
  refine pz_in pzt_L_release ?_
  refine pr_aload dL_release_0 rfl ?_
  refine zr_iconst dL_release_2 ?_
  refine pr_aload_n dL_release_3 rfl ?_
  refine pr_iload_n dL_release_4 rfl ?_
  refine pr_iload_n dL_release_5 rfl ?_
  refine pr_iload_n dL_release_6 rfl ?_
  refine pr_iload dL_release_7 rfl ?_
  refine zw_t (tgt := 21) (as := [.int n1, .int n2, .int n3, .int n4]) (rest := [.int (zI 0), .ref o]) (nc := 0) (ns := 0) dL_release_9 pzm_8_59 pzt_X6_release rfl rfl hx (Nat.le_of_ble_eq_true rfl) (by decide) (by decide) hC (by decide +kernel) (fun q => ?_)
  refine pr_astore dL_release_21 (by decide) rfl ?_
  refine zr_iconst dL_release_23 ?_
  exact pr_iret dL_release_24 rfl rfl ⟨rfl, rfl⟩
set_option maxRecDepth 100000 in
theorem wr_unset_k {n1 n2 n3 : Int32} : wK en 221 81 [.int n1, .int n2, .int n3] := by
  intro x o g g1 v w fs mc ms hx ho hC
  refine pz_in pzt_L_unset ?_
  refine pr_aload dL_unset_0 rfl ?_
  refine zr_iconst dL_unset_2 ?_
  refine pr_aload_n dL_unset_3 rfl ?_
  refine pr_iload_n dL_unset_4 rfl ?_
  refine pr_iload_n dL_unset_5 rfl ?_
  refine pr_iload_n dL_unset_6 rfl ?_
  refine zw_v (as := [.int n1, .int n2, .int n3]) (rest := [.int (zI 0), .ref o]) (nc := 0) (ns := 0) dL_unset_7 pzm_8_63 pzt_X6_unset rfl rfl hx (Nat.le_of_ble_eq_true rfl) (by decide) (by decide) hC ?_
  refine pr_i2l dL_unset_10 ?_
  refine pr_last (k := 0) dL_unset_11 ho (by decide) (by decide) rfl ?_
  refine pr_goto (tgt := 23) dL_unset_12 (by decide) ?_
  refine zr_iconst dL_unset_23 ?_
  exact pr_iret dL_unset_24 rfl rfl ⟨rfl, rfl⟩
set_option maxRecDepth 100000 in
theorem wr_unset_1 {n1 n2 n3 : Int32} : wT en 221 81 [.int n1, .int n2, .int n3] "java/lang/IndexOutOfBoundsException" 1 := by
  intro x o g g1 fs mc ms hx hC
  refine pz_in pzt_L_unset ?_
  refine pr_aload dL_unset_0 rfl ?_
  refine zr_iconst dL_unset_2 ?_
  refine pr_aload_n dL_unset_3 rfl ?_
  refine pr_iload_n dL_unset_4 rfl ?_
  refine pr_iload_n dL_unset_5 rfl ?_
  refine pr_iload_n dL_unset_6 rfl ?_
  refine zw_t (tgt := 15) (as := [.int n1, .int n2, .int n3]) (rest := [.int (zI 0), .ref o]) (nc := 0) (ns := 0) dL_unset_7 pzm_8_63 pzt_X6_unset rfl rfl hx (Nat.le_of_ble_eq_true rfl) (by decide) (by decide) hC (by decide +kernel) (fun q => ?_)
  refine pr_astore dL_unset_15 (by decide) rfl ?_
  refine zr_iconst dL_unset_17 ?_
  exact pr_iret dL_unset_18 rfl rfl ⟨rfl, rfl⟩
set_option maxRecDepth 100000 in
theorem wr_unset_2 {n1 n2 n3 : Int32} : wT en 221 81 [.int n1, .int n2, .int n3] "java/lang/UnsupportedOperationException" 2 := by
  intro x o g g1 fs mc ms hx hC
  refine pz_in pzt_L_unset ?_
  refine pr_aload dL_unset_0 rfl ?_
  refine zr_iconst dL_unset_2 ?_
  refine pr_aload_n dL_unset_3 rfl ?_
  refine pr_iload_n dL_unset_4 rfl ?_
  refine pr_iload_n dL_unset_5 rfl ?_
  refine pr_iload_n dL_unset_6 rfl ?_
  refine zw_t (tgt := 19) (as := [.int n1, .int n2, .int n3]) (rest := [.int (zI 0), .ref o]) (nc := 0) (ns := 0) dL_unset_7 pzm_8_63 pzt_X6_unset rfl rfl hx (Nat.le_of_ble_eq_true rfl) (by decide) (by decide) hC (by decide +kernel) (fun q => ?_)
  refine pr_astore dL_unset_19 (by decide) rfl ?_
  refine zr_iconst dL_unset_21 ?_
  exact pr_iret dL_unset_22 rfl rfl ⟨rfl, rfl⟩
set_option maxRecDepth 100000 in
theorem wr_instruction_k {n1 n2 : Int32} : wK en 222 82 [.int n1, .int n2] := by
  intro x o g g1 v w fs mc ms hx ho hC
  refine pz_in pzt_L_instruction ?_
  refine pr_aload_n dL_instruction_0 rfl ?_
  refine zr_iconst dL_instruction_1 ?_
  refine pr_aload_n dL_instruction_2 rfl ?_
  refine pr_iload_n dL_instruction_3 rfl ?_
  refine pr_iload_n dL_instruction_4 rfl ?_
  refine zw_v (as := [.int n1, .int n2]) (rest := [.int (zI 0), .ref o]) (nc := 0) (ns := 0) dL_instruction_5 pzm_8_66 pzt_X6_instruction rfl rfl hx (Nat.le_of_ble_eq_true rfl) (by decide) (by decide) hC ?_
  refine pr_i2l dL_instruction_8 ?_
  refine pr_last (k := 0) dL_instruction_9 ho (by decide) (by decide) rfl ?_
  refine pr_goto (tgt := 21) dL_instruction_10 (by decide) ?_
  refine zr_iconst dL_instruction_21 ?_
  exact pr_iret dL_instruction_22 rfl rfl ⟨rfl, rfl⟩
set_option maxRecDepth 100000 in
theorem wr_instruction_1 {n1 n2 : Int32} : wT en 222 82 [.int n1, .int n2] "java/util/NoSuchElementException" 1 := by
  intro x o g g1 fs mc ms hx hC
  refine pz_in pzt_L_instruction ?_
  refine pr_aload_n dL_instruction_0 rfl ?_
  refine zr_iconst dL_instruction_1 ?_
  refine pr_aload_n dL_instruction_2 rfl ?_
  refine pr_iload_n dL_instruction_3 rfl ?_
  refine pr_iload_n dL_instruction_4 rfl ?_
  refine zw_t (tgt := 13) (as := [.int n1, .int n2]) (rest := [.int (zI 0), .ref o]) (nc := 0) (ns := 0) dL_instruction_5 pzm_8_66 pzt_X6_instruction rfl rfl hx (Nat.le_of_ble_eq_true rfl) (by decide) (by decide) hC (by decide +kernel) (fun q => ?_)
  refine pr_astore dL_instruction_13 (by decide) rfl ?_
  refine zr_iconst dL_instruction_15 ?_
  exact pr_iret dL_instruction_16 rfl rfl ⟨rfl, rfl⟩
set_option maxRecDepth 100000 in
theorem wr_instruction_2 {n1 n2 : Int32} : wT en 222 82 [.int n1, .int n2] "java/lang/IllegalArgumentException" 2 := by
  intro x o g g1 fs mc ms hx hC
  refine pz_in pzt_L_instruction ?_
  refine pr_aload_n dL_instruction_0 rfl ?_
  refine zr_iconst dL_instruction_1 ?_
  refine pr_aload_n dL_instruction_2 rfl ?_
  refine pr_iload_n dL_instruction_3 rfl ?_
  refine pr_iload_n dL_instruction_4 rfl ?_
  refine zw_t (tgt := 17) (as := [.int n1, .int n2]) (rest := [.int (zI 0), .ref o]) (nc := 0) (ns := 0) dL_instruction_5 pzm_8_66 pzt_X6_instruction rfl rfl hx (Nat.le_of_ble_eq_true rfl) (by decide) (by decide) hC (by decide +kernel) (fun q => ?_)
  refine pr_astore dL_instruction_17 (by decide) rfl ?_
  refine zr_iconst dL_instruction_19 ?_
  exact pr_iret dL_instruction_20 rfl rfl ⟨rfl, rfl⟩
set_option maxRecDepth 100000 in
theorem wr_level_k {n1 n2 : Int32} : wK en 223 83 [.int n1, .int n2] := by
  intro x o g g1 v w fs mc ms hx ho hC
  refine pz_in pzt_L_level ?_
  refine pr_aload_n dL_level_0 rfl ?_
  refine zr_iconst dL_level_1 ?_
  refine pr_aload_n dL_level_2 rfl ?_
  refine pr_iload_n dL_level_3 rfl ?_
  refine pr_iload_n dL_level_4 rfl ?_
  refine zw_v (as := [.int n1, .int n2]) (rest := [.int (zI 0), .ref o]) (nc := 0) (ns := 0) dL_level_5 pzm_8_69 pzt_X6_level rfl rfl hx (Nat.le_of_ble_eq_true rfl) (by decide) (by decide) hC ?_
  refine pr_i2l dL_level_8 ?_
  refine pr_last (k := 0) dL_level_9 ho (by decide) (by decide) rfl ?_
  refine pr_goto (tgt := 17) dL_level_10 (by decide) ?_
  refine zr_iconst dL_level_17 ?_
  exact pr_iret dL_level_18 rfl rfl ⟨rfl, rfl⟩
set_option maxRecDepth 100000 in
theorem wr_level_1 {n1 n2 : Int32} : wT en 223 83 [.int n1, .int n2] "java/lang/IndexOutOfBoundsException" 1 := by
  intro x o g g1 fs mc ms hx hC
  refine pz_in pzt_L_level ?_
  refine pr_aload_n dL_level_0 rfl ?_
  refine zr_iconst dL_level_1 ?_
  refine pr_aload_n dL_level_2 rfl ?_
  refine pr_iload_n dL_level_3 rfl ?_
  refine pr_iload_n dL_level_4 rfl ?_
  refine zw_t (tgt := 13) (as := [.int n1, .int n2]) (rest := [.int (zI 0), .ref o]) (nc := 0) (ns := 0) dL_level_5 pzm_8_69 pzt_X6_level rfl rfl hx (Nat.le_of_ble_eq_true rfl) (by decide) (by decide) hC (by decide +kernel) (fun q => ?_)
  refine pr_astore dL_level_13 (by decide) rfl ?_
  refine zr_iconst dL_level_15 ?_
  exact pr_iret dL_level_16 rfl rfl ⟨rfl, rfl⟩
set_option maxRecDepth 100000 in
theorem wr_levelAgain_k {n1 n2 : Int32} : wK en 224 84 [.int n1, .int n2] := by
  intro x o g g1 v w fs mc ms hx ho hC
  refine pz_in pzt_L_levelAgain ?_
  refine pr_aload_n dL_levelAgain_0 rfl ?_
  refine zr_iconst dL_levelAgain_1 ?_
  refine pr_aload_n dL_levelAgain_2 rfl ?_
  refine pr_iload_n dL_levelAgain_3 rfl ?_
  refine pr_iload_n dL_levelAgain_4 rfl ?_
  refine zw_v (as := [.int n1, .int n2]) (rest := [.int (zI 0), .ref o]) (nc := 0) (ns := 0) dL_levelAgain_5 pzm_8_72 pzt_X6_levelAgain rfl rfl hx (Nat.le_of_ble_eq_true rfl) (by decide) (by decide) hC ?_
  refine pr_i2l dL_levelAgain_8 ?_
  refine pr_last (k := 0) dL_levelAgain_9 ho (by decide) (by decide) rfl ?_
  refine pr_goto (tgt := 17) dL_levelAgain_10 (by decide) ?_
  refine zr_iconst dL_levelAgain_17 ?_
  exact pr_iret dL_levelAgain_18 rfl rfl ⟨rfl, rfl⟩
set_option maxRecDepth 100000 in
theorem wr_levelAgain_1 {n1 n2 : Int32} : wT en 224 84 [.int n1, .int n2] "java/lang/IndexOutOfBoundsException" 1 := by
  intro x o g g1 fs mc ms hx hC
  refine pz_in pzt_L_levelAgain ?_
  refine pr_aload_n dL_levelAgain_0 rfl ?_
  refine zr_iconst dL_levelAgain_1 ?_
  refine pr_aload_n dL_levelAgain_2 rfl ?_
  refine pr_iload_n dL_levelAgain_3 rfl ?_
  refine pr_iload_n dL_levelAgain_4 rfl ?_
  refine zw_t (tgt := 13) (as := [.int n1, .int n2]) (rest := [.int (zI 0), .ref o]) (nc := 0) (ns := 0) dL_levelAgain_5 pzm_8_72 pzt_X6_levelAgain rfl rfl hx (Nat.le_of_ble_eq_true rfl) (by decide) (by decide) hC (by decide +kernel) (fun q => ?_)
  refine pr_astore dL_levelAgain_13 (by decide) rfl ?_
  refine zr_iconst dL_levelAgain_15 ?_
  exact pr_iret dL_levelAgain_16 rfl rfl ⟨rfl, rfl⟩
set_option maxRecDepth 100000 in
theorem wr_source_k {n1 n2 : Int32} : wK en 225 85 [.int n1, .int n2] := by
  intro x o g g1 v w fs mc ms hx ho hC
  refine pz_in pzt_L_source ?_
  refine pr_aload_n dL_source_0 rfl ?_
  refine zr_iconst dL_source_1 ?_
  refine pr_aload_n dL_source_2 rfl ?_
  refine pr_iload_n dL_source_3 rfl ?_
  refine pr_iload_n dL_source_4 rfl ?_
  refine zw_v (as := [.int n1, .int n2]) (rest := [.int (zI 0), .ref o]) (nc := 0) (ns := 0) dL_source_5 pzm_8_75 pzt_X6_source rfl rfl hx (Nat.le_of_ble_eq_true rfl) (by decide) (by decide) hC ?_
  refine pr_i2l dL_source_8 ?_
  refine pr_last (k := 0) dL_source_9 ho (by decide) (by decide) rfl ?_
  refine pr_goto (tgt := 17) dL_source_10 (by decide) ?_
  refine zr_iconst dL_source_17 ?_
  exact pr_iret dL_source_18 rfl rfl ⟨rfl, rfl⟩
set_option maxRecDepth 100000 in
theorem wr_source_1 {n1 n2 : Int32} : wT en 225 85 [.int n1, .int n2] "java/lang/IndexOutOfBoundsException" 1 := by
  intro x o g g1 fs mc ms hx hC
  refine pz_in pzt_L_source ?_
  refine pr_aload_n dL_source_0 rfl ?_
  refine zr_iconst dL_source_1 ?_
  refine pr_aload_n dL_source_2 rfl ?_
  refine pr_iload_n dL_source_3 rfl ?_
  refine pr_iload_n dL_source_4 rfl ?_
  refine zw_t (tgt := 13) (as := [.int n1, .int n2]) (rest := [.int (zI 0), .ref o]) (nc := 0) (ns := 0) dL_source_5 pzm_8_75 pzt_X6_source rfl rfl hx (Nat.le_of_ble_eq_true rfl) (by decide) (by decide) hC (by decide +kernel) (fun q => ?_)
  refine pr_astore dL_source_13 (by decide) rfl ?_
  refine zr_iconst dL_source_15 ?_
  exact pr_iret dL_source_16 rfl rfl ⟨rfl, rfl⟩
set_option maxRecDepth 100000 in
theorem wr_sum_k {n1 : Int32} : wK en 226 87 [.int n1] := by
  intro x o g g1 v w fs mc ms hx ho hC
  refine pz_in pzt_L_sum ?_
  refine pr_aload_n dL_sum_0 rfl ?_
  refine zr_iconst dL_sum_1 ?_
  refine pr_aload_n dL_sum_2 rfl ?_
  refine pr_iload_n dL_sum_3 rfl ?_
  refine zw_v (as := [.int n1]) (rest := [.int (zI 0), .ref o]) (nc := 0) (ns := 0) dL_sum_4 pzm_8_78 pzt_X6_sum rfl rfl hx (Nat.le_of_ble_eq_true rfl) (by decide) (by decide) hC ?_
  refine pr_i2l dL_sum_7 ?_
  refine pr_last (k := 0) dL_sum_8 ho (by decide) (by decide) rfl ?_
  refine pr_goto (tgt := 15) dL_sum_9 (by decide) ?_
  refine zr_iconst dL_sum_15 ?_
  exact pr_iret dL_sum_16 rfl rfl ⟨rfl, rfl⟩
set_option maxRecDepth 100000 in
theorem wr_sum_1 {n1 : Int32} : wT en 226 87 [.int n1] "java/lang/IndexOutOfBoundsException" 1 := by
  intro x o g g1 fs mc ms hx hC
  refine pz_in pzt_L_sum ?_
  refine pr_aload_n dL_sum_0 rfl ?_
  refine zr_iconst dL_sum_1 ?_
  refine pr_aload_n dL_sum_2 rfl ?_
  refine pr_iload_n dL_sum_3 rfl ?_
  refine zw_t (tgt := 12) (as := [.int n1]) (rest := [.int (zI 0), .ref o]) (nc := 0) (ns := 0) dL_sum_4 pzm_8_78 pzt_X6_sum rfl rfl hx (Nat.le_of_ble_eq_true rfl) (by decide) (by decide) hC (by decide +kernel) (fun q => ?_)
  refine pr_astore_n dL_sum_12 (by decide) rfl ?_
  refine zr_iconst dL_sum_13 ?_
  exact pr_iret dL_sum_14 rfl rfl ⟨rfl, rfl⟩
set_option maxRecDepth 100000 in
theorem wr_apart_k {n1 n2 : Int32} : wK en 227 88 [.int n1, .int n2] := by
  intro x o g g1 v w fs mc ms hx ho hC
  refine pz_in pzt_L_apart ?_
  refine pr_aload_n dL_apart_0 rfl ?_
  refine zr_iconst dL_apart_1 ?_
  refine pr_aload_n dL_apart_2 rfl ?_
  refine pr_iload_n dL_apart_3 rfl ?_
  refine pr_iload_n dL_apart_4 rfl ?_
  refine zw_v (as := [.int n1, .int n2]) (rest := [.int (zI 0), .ref o]) (nc := 0) (ns := 0) dL_apart_5 pzm_8_81 pzt_X6_apart rfl rfl hx (Nat.le_of_ble_eq_true rfl) (by decide) (by decide) hC ?_
  refine pr_i2l dL_apart_8 ?_
  refine pr_last (k := 0) dL_apart_9 ho (by decide) (by decide) rfl ?_
  refine pr_goto (tgt := 17) dL_apart_10 (by decide) ?_
  refine zr_iconst dL_apart_17 ?_
  exact pr_iret dL_apart_18 rfl rfl ⟨rfl, rfl⟩
set_option maxRecDepth 100000 in
theorem wr_apart_1 {n1 n2 : Int32} : wT en 227 88 [.int n1, .int n2] "java/lang/IndexOutOfBoundsException" 1 := by
  intro x o g g1 fs mc ms hx hC
  refine pz_in pzt_L_apart ?_
  refine pr_aload_n dL_apart_0 rfl ?_
  refine zr_iconst dL_apart_1 ?_
  refine pr_aload_n dL_apart_2 rfl ?_
  refine pr_iload_n dL_apart_3 rfl ?_
  refine pr_iload_n dL_apart_4 rfl ?_
  refine zw_t (tgt := 13) (as := [.int n1, .int n2]) (rest := [.int (zI 0), .ref o]) (nc := 0) (ns := 0) dL_apart_5 pzm_8_81 pzt_X6_apart rfl rfl hx (Nat.le_of_ble_eq_true rfl) (by decide) (by decide) hC (by decide +kernel) (fun q => ?_)
  refine pr_astore dL_apart_13 (by decide) rfl ?_
  refine zr_iconst dL_apart_15 ?_
  exact pr_iret dL_apart_16 rfl rfl ⟨rfl, rfl⟩
set_option maxRecDepth 100000 in
theorem wr_reason_k : wK en 228 89 [] := by
  intro x o g g1 v w fs mc ms hx ho hC
  refine pz_in pzt_L_reason ?_
  refine pr_aload_n dL_reason_0 rfl ?_
  refine zr_iconst dL_reason_1 ?_
  refine pr_aload_n dL_reason_2 rfl ?_
  refine zw_v (as := []) (rest := [.int (zI 0), .ref o]) (nc := 0) (ns := 0) dL_reason_3 pzm_8_84 pzt_X6_reason rfl rfl hx (Nat.le_of_ble_eq_true rfl) (by decide) (by decide) hC ?_
  refine pr_i2l dL_reason_6 ?_
  refine pr_last (k := 0) dL_reason_7 ho (by decide) (by decide) rfl ?_
  refine pr_goto (tgt := 14) dL_reason_8 (by decide) ?_
  refine zr_iconst dL_reason_14 ?_
  exact pr_iret dL_reason_15 rfl rfl ⟨rfl, rfl⟩
set_option maxRecDepth 100000 in
theorem wr_reason_1 : wT en 228 89 [] "java/util/NoSuchElementException" 1 := by
  intro x o g g1 fs mc ms hx hC
  refine pz_in pzt_L_reason ?_
  refine pr_aload_n dL_reason_0 rfl ?_
  refine zr_iconst dL_reason_1 ?_
  refine pr_aload_n dL_reason_2 rfl ?_
  refine zw_t (tgt := 11) (as := []) (rest := [.int (zI 0), .ref o]) (nc := 0) (ns := 0) dL_reason_3 pzm_8_84 pzt_X6_reason rfl rfl hx (Nat.le_of_ble_eq_true rfl) (by decide) (by decide) hC (by decide +kernel) (fun q => ?_)
  refine pr_astore_n dL_reason_11 (by decide) rfl ?_
  refine zr_iconst dL_reason_12 ?_
  exact pr_iret dL_reason_13 rfl rfl ⟨rfl, rfl⟩
set_option maxRecDepth 100000 in
theorem wr_go_k : wK en 229 90 [] := by
  intro x o g g1 v w fs mc ms hx ho hC
  refine pz_in pzt_L_go ?_
  refine pr_aload_n dL_go_0 rfl ?_
  refine zr_iconst dL_go_1 ?_
  refine pr_aload_n dL_go_2 rfl ?_
  refine zw_v (as := []) (rest := [.int (zI 0), .ref o]) (nc := 0) (ns := 0) dL_go_3 pzm_8_88 pzt_X6_go rfl rfl hx (Nat.le_of_ble_eq_true rfl) (by decide) (by decide) hC ?_
  refine pr_i2l dL_go_6 ?_
  refine pr_last (k := 0) dL_go_7 ho (by decide) (by decide) rfl ?_
  refine pr_goto (tgt := 14) dL_go_8 (by decide) ?_
  refine zr_iconst dL_go_14 ?_
  exact pr_iret dL_go_15 rfl rfl ⟨rfl, rfl⟩
set_option maxRecDepth 100000 in
theorem wr_go_1 : wT en 229 90 [] "java/lang/UnsupportedOperationException" 1 := by
  intro x o g g1 fs mc ms hx hC
  refine pz_in pzt_L_go ?_
  refine pr_aload_n dL_go_0 rfl ?_
  refine zr_iconst dL_go_1 ?_
  refine pr_aload_n dL_go_2 rfl ?_
  refine zw_t (tgt := 11) (as := []) (rest := [.int (zI 0), .ref o]) (nc := 0) (ns := 0) dL_go_3 pzm_8_88 pzt_X6_go rfl rfl hx (Nat.le_of_ble_eq_true rfl) (by decide) (by decide) hC (by decide +kernel) (fun q => ?_)
  refine pr_astore_n dL_go_11 (by decide) rfl ?_
  refine zr_iconst dL_go_12 ?_
  exact pr_iret dL_go_13 rfl rfl ⟨rfl, rfl⟩
set_option maxRecDepth 100000 in
theorem wr_back_k : wK en 230 91 [] := by
  intro x o g g1 v w fs mc ms hx ho hC
  refine pz_in pzt_L_back ?_
  refine pr_aload_n dL_back_0 rfl ?_
  refine zr_iconst dL_back_1 ?_
  refine pr_aload_n dL_back_2 rfl ?_
  refine zw_v (as := []) (rest := [.int (zI 0), .ref o]) (nc := 0) (ns := 0) dL_back_3 pzm_8_91 pzt_X6_back rfl rfl hx (Nat.le_of_ble_eq_true rfl) (by decide) (by decide) hC ?_
  refine pr_i2l dL_back_6 ?_
  refine pr_last (k := 0) dL_back_7 ho (by decide) (by decide) rfl ?_
  refine pr_goto (tgt := 14) dL_back_8 (by decide) ?_
  refine zr_iconst dL_back_14 ?_
  exact pr_iret dL_back_15 rfl rfl ⟨rfl, rfl⟩
set_option maxRecDepth 100000 in
theorem wr_back_1 : wT en 230 91 [] "java/lang/UnsupportedOperationException" 1 := by
  intro x o g g1 fs mc ms hx hC
  refine pz_in pzt_L_back ?_
  refine pr_aload_n dL_back_0 rfl ?_
  refine zr_iconst dL_back_1 ?_
  refine pr_aload_n dL_back_2 rfl ?_
  refine zw_t (tgt := 11) (as := []) (rest := [.int (zI 0), .ref o]) (nc := 0) (ns := 0) dL_back_3 pzm_8_91 pzt_X6_back rfl rfl hx (Nat.le_of_ble_eq_true rfl) (by decide) (by decide) hC (by decide +kernel) (fun q => ?_)
  refine pr_astore_n dL_back_11 (by decide) rfl ?_
  refine zr_iconst dL_back_12 ?_
  exact pr_iret dL_back_13 rfl rfl ⟨rfl, rfl⟩
set_option maxRecDepth 100000 in
theorem wr_jump_k {n1 : Int32} : wK en 231 92 [.int n1] := by
  intro x o g g1 v w fs mc ms hx ho hC
  refine pz_in pzt_L_jump ?_
  refine pr_aload_n dL_jump_0 rfl ?_
  refine zr_iconst dL_jump_1 ?_
  refine pr_aload_n dL_jump_2 rfl ?_
  refine pr_iload_n dL_jump_3 rfl ?_
  refine zw_v (as := [.int n1]) (rest := [.int (zI 0), .ref o]) (nc := 0) (ns := 0) dL_jump_4 pzm_8_94 pzt_X6_jump rfl rfl hx (Nat.le_of_ble_eq_true rfl) (by decide) (by decide) hC ?_
  refine pr_i2l dL_jump_7 ?_
  refine pr_last (k := 0) dL_jump_8 ho (by decide) (by decide) rfl ?_
  refine pr_goto (tgt := 15) dL_jump_9 (by decide) ?_
  refine zr_iconst dL_jump_15 ?_
  exact pr_iret dL_jump_16 rfl rfl ⟨rfl, rfl⟩
set_option maxRecDepth 100000 in
theorem wr_jump_1 {n1 : Int32} : wT en 231 92 [.int n1] "java/lang/IndexOutOfBoundsException" 1 := by
  intro x o g g1 fs mc ms hx hC
  refine pz_in pzt_L_jump ?_
  refine pr_aload_n dL_jump_0 rfl ?_
  refine zr_iconst dL_jump_1 ?_
  refine pr_aload_n dL_jump_2 rfl ?_
  refine pr_iload_n dL_jump_3 rfl ?_
  refine zw_t (tgt := 12) (as := [.int n1]) (rest := [.int (zI 0), .ref o]) (nc := 0) (ns := 0) dL_jump_4 pzm_8_94 pzt_X6_jump rfl rfl hx (Nat.le_of_ble_eq_true rfl) (by decide) (by decide) hC (by decide +kernel) (fun q => ?_)
  refine pr_astore_n dL_jump_12 (by decide) rfl ?_
  refine zr_iconst dL_jump_13 ?_
  exact pr_iret dL_jump_14 rfl rfl ⟨rfl, rfl⟩
set_option maxRecDepth 100000 in
theorem wr_pass_k {n1 : Int32} : wK en 232 93 [.int n1] := by
  intro x o g g1 v w fs mc ms hx ho hC
  refine pz_in pzt_L_pass ?_
  refine pr_aload_n dL_pass_0 rfl ?_
  refine zr_iconst dL_pass_1 ?_
  refine pr_aload_n dL_pass_2 rfl ?_
  refine pr_iload_n dL_pass_3 rfl ?_
  refine zw_v (as := [.int n1]) (rest := [.int (zI 0), .ref o]) (nc := 0) (ns := 0) dL_pass_4 pzm_8_97 pzt_X6_pass rfl rfl hx (Nat.le_of_ble_eq_true rfl) (by decide) (by decide) hC ?_
  refine pr_i2l dL_pass_7 ?_
  refine pr_last (k := 0) dL_pass_8 ho (by decide) (by decide) rfl ?_
  refine pr_goto (tgt := 18) dL_pass_9 (by decide) ?_
  refine zr_iconst dL_pass_18 ?_
  exact pr_iret dL_pass_19 rfl rfl ⟨rfl, rfl⟩
set_option maxRecDepth 100000 in
theorem wr_pass_1 {n1 : Int32} : wT en 232 93 [.int n1] "java/lang/IllegalArgumentException" 1 := by
  intro x o g g1 fs mc ms hx hC
  refine pz_in pzt_L_pass ?_
  refine pr_aload_n dL_pass_0 rfl ?_
  refine zr_iconst dL_pass_1 ?_
  refine pr_aload_n dL_pass_2 rfl ?_
  refine pr_iload_n dL_pass_3 rfl ?_
  refine zw_t (tgt := 12) (as := [.int n1]) (rest := [.int (zI 0), .ref o]) (nc := 0) (ns := 0) dL_pass_4 pzm_8_97 pzt_X6_pass rfl rfl hx (Nat.le_of_ble_eq_true rfl) (by decide) (by decide) hC (by decide +kernel) (fun q => ?_)
  refine pr_astore_n dL_pass_12 (by decide) rfl ?_
  refine zr_iconst dL_pass_13 ?_
  exact pr_iret dL_pass_14 rfl rfl ⟨rfl, rfl⟩
set_option maxRecDepth 100000 in
theorem wr_pass_2 {n1 : Int32} : wT en 232 93 [.int n1] "java/lang/IllegalStateException" 2 := by
  intro x o g g1 fs mc ms hx hC
  refine pz_in pzt_L_pass ?_
  refine pr_aload_n dL_pass_0 rfl ?_
  refine zr_iconst dL_pass_1 ?_
  refine pr_aload_n dL_pass_2 rfl ?_
  refine pr_iload_n dL_pass_3 rfl ?_
  refine zw_t (tgt := 15) (as := [.int n1]) (rest := [.int (zI 0), .ref o]) (nc := 0) (ns := 0) dL_pass_4 pzm_8_97 pzt_X6_pass rfl rfl hx (Nat.le_of_ble_eq_true rfl) (by decide) (by decide) hC (by decide +kernel) (fun q => ?_)
  refine pr_astore_n dL_pass_15 (by decide) rfl ?_
  refine zr_iconst dL_pass_16 ?_
  exact pr_iret dL_pass_17 rfl rfl ⟨rfl, rfl⟩
set_option maxRecDepth 100000 in
theorem wr_now_k {n1 : Int32} : wK en 233 94 [.int n1] := by
  intro x o g g1 v w fs mc ms hx ho hC
  refine pz_in pzt_L_now ?_
  refine pr_aload_n dL_now_0 rfl ?_
  refine zr_iconst dL_now_1 ?_
  refine pr_aload_n dL_now_2 rfl ?_
  refine pr_iload_n dL_now_3 rfl ?_
  refine zw_v (as := [.int n1]) (rest := [.int (zI 0), .ref o]) (nc := 0) (ns := 0) dL_now_4 pzm_8_100 pzt_X6_now rfl rfl hx (Nat.le_of_ble_eq_true rfl) (by decide) (by decide) hC ?_
  refine pr_i2l dL_now_7 ?_
  refine pr_last (k := 0) dL_now_8 ho (by decide) (by decide) rfl ?_
  refine pr_goto (tgt := 15) dL_now_9 (by decide) ?_
  refine zr_iconst dL_now_15 ?_
  exact pr_iret dL_now_16 rfl rfl ⟨rfl, rfl⟩
set_option maxRecDepth 100000 in
theorem wr_now_1 {n1 : Int32} : wT en 233 94 [.int n1] "java/lang/IndexOutOfBoundsException" 1 := by
  intro x o g g1 fs mc ms hx hC
  refine pz_in pzt_L_now ?_
  refine pr_aload_n dL_now_0 rfl ?_
  refine zr_iconst dL_now_1 ?_
  refine pr_aload_n dL_now_2 rfl ?_
  refine pr_iload_n dL_now_3 rfl ?_
  refine zw_t (tgt := 12) (as := [.int n1]) (rest := [.int (zI 0), .ref o]) (nc := 0) (ns := 0) dL_now_4 pzm_8_100 pzt_X6_now rfl rfl hx (Nat.le_of_ble_eq_true rfl) (by decide) (by decide) hC (by decide +kernel) (fun q => ?_)
  refine pr_astore_n dL_now_12 (by decide) rfl ?_
  refine zr_iconst dL_now_13 ?_
  exact pr_iret dL_now_14 rfl rfl ⟨rfl, rfl⟩
set_option maxRecDepth 100000 in
theorem wr_target_k {n1 : Int32} : wK en 234 95 [.int n1] := by
  intro x o g g1 v w fs mc ms hx ho hC
  refine pz_in pzt_L_target ?_
  refine pr_aload_n dL_target_0 rfl ?_
  refine zr_iconst dL_target_1 ?_
  refine pr_aload_n dL_target_2 rfl ?_
  refine pr_iload_n dL_target_3 rfl ?_
  refine zw_v (as := [.int n1]) (rest := [.int (zI 0), .ref o]) (nc := 0) (ns := 0) dL_target_4 pzm_8_103 pzt_X6_target rfl rfl hx (Nat.le_of_ble_eq_true rfl) (by decide) (by decide) hC ?_
  refine pr_i2l dL_target_7 ?_
  refine pr_last (k := 0) dL_target_8 ho (by decide) (by decide) rfl ?_
  refine pr_goto (tgt := 15) dL_target_9 (by decide) ?_
  refine zr_iconst dL_target_15 ?_
  exact pr_iret dL_target_16 rfl rfl ⟨rfl, rfl⟩
set_option maxRecDepth 100000 in
theorem wr_target_1 {n1 : Int32} : wT en 234 95 [.int n1] "java/lang/IndexOutOfBoundsException" 1 := by
  intro x o g g1 fs mc ms hx hC
  refine pz_in pzt_L_target ?_
  refine pr_aload_n dL_target_0 rfl ?_
  refine zr_iconst dL_target_1 ?_
  refine pr_aload_n dL_target_2 rfl ?_
  refine pr_iload_n dL_target_3 rfl ?_
  refine zw_t (tgt := 12) (as := [.int n1]) (rest := [.int (zI 0), .ref o]) (nc := 0) (ns := 0) dL_target_4 pzm_8_103 pzt_X6_target rfl rfl hx (Nat.le_of_ble_eq_true rfl) (by decide) (by decide) hC (by decide +kernel) (fun q => ?_)
  refine pr_astore_n dL_target_12 (by decide) rfl ?_
  refine zr_iconst dL_target_13 ?_
  exact pr_iret dL_target_14 rfl rfl ⟨rfl, rfl⟩
set_option maxRecDepth 100000 in
theorem wr_playing_k {n1 : Int32} : wK en 235 96 [.int n1] := by
  intro x o g g1 v w fs mc ms hx ho hC
  refine pz_in pzt_L_playing ?_
  refine pr_aload_n dL_playing_0 rfl ?_
  refine zr_iconst dL_playing_1 ?_
  refine pr_aload_n dL_playing_2 rfl ?_
  refine pr_iload_n dL_playing_3 rfl ?_
  refine zw_v (as := [.int n1]) (rest := [.int (zI 0), .ref o]) (nc := 0) (ns := 0) dL_playing_4 pzm_8_106 pzt_X6_playing rfl rfl hx (Nat.le_of_ble_eq_true rfl) (by decide) (by decide) hC ?_
  refine pr_i2l dL_playing_7 ?_
  refine pr_last (k := 0) dL_playing_8 ho (by decide) (by decide) rfl ?_
  refine pr_goto (tgt := 15) dL_playing_9 (by decide) ?_
  refine zr_iconst dL_playing_15 ?_
  exact pr_iret dL_playing_16 rfl rfl ⟨rfl, rfl⟩
set_option maxRecDepth 100000 in
theorem wr_playing_1 {n1 : Int32} : wT en 235 96 [.int n1] "java/lang/IllegalArgumentException" 1 := by
  intro x o g g1 fs mc ms hx hC
  refine pz_in pzt_L_playing ?_
  refine pr_aload_n dL_playing_0 rfl ?_
  refine zr_iconst dL_playing_1 ?_
  refine pr_aload_n dL_playing_2 rfl ?_
  refine pr_iload_n dL_playing_3 rfl ?_
  refine zw_t (tgt := 12) (as := [.int n1]) (rest := [.int (zI 0), .ref o]) (nc := 0) (ns := 0) dL_playing_4 pzm_8_106 pzt_X6_playing rfl rfl hx (Nat.le_of_ble_eq_true rfl) (by decide) (by decide) hC (by decide +kernel) (fun q => ?_)
  refine pr_astore_n dL_playing_12 (by decide) rfl ?_
  refine zr_iconst dL_playing_13 ?_
  exact pr_iret dL_playing_14 rfl rfl ⟨rfl, rfl⟩
set_option maxRecDepth 100000 in
theorem wr_chain_k {n1 : Int32} : wK en 236 98 [.int n1] := by
  intro x o g g1 v w fs mc ms hx ho hC
  refine pz_in pzt_L_chain ?_
  refine pr_aload_n dL_chain_0 rfl ?_
  refine zr_iconst dL_chain_1 ?_
  refine pr_aload_n dL_chain_2 rfl ?_
  refine pr_iload_n dL_chain_3 rfl ?_
  refine zw_v (as := [.int n1]) (rest := [.int (zI 0), .ref o]) (nc := 0) (ns := 0) dL_chain_4 pzm_8_109 pzt_X6_chain rfl rfl hx (Nat.le_of_ble_eq_true rfl) (by decide) (by decide) hC ?_
  refine pr_i2l dL_chain_7 ?_
  refine pr_last (k := 0) dL_chain_8 ho (by decide) (by decide) rfl ?_
  refine pr_goto (tgt := 15) dL_chain_9 (by decide) ?_
  refine zr_iconst dL_chain_15 ?_
  exact pr_iret dL_chain_16 rfl rfl ⟨rfl, rfl⟩
set_option maxRecDepth 100000 in
theorem wr_chain_1 {n1 : Int32} : wT en 236 98 [.int n1] "java/lang/IndexOutOfBoundsException" 1 := by
  intro x o g g1 fs mc ms hx hC
  refine pz_in pzt_L_chain ?_
  refine pr_aload_n dL_chain_0 rfl ?_
  refine zr_iconst dL_chain_1 ?_
  refine pr_aload_n dL_chain_2 rfl ?_
  refine pr_iload_n dL_chain_3 rfl ?_
  refine zw_t (tgt := 12) (as := [.int n1]) (rest := [.int (zI 0), .ref o]) (nc := 0) (ns := 0) dL_chain_4 pzm_8_109 pzt_X6_chain rfl rfl hx (Nat.le_of_ble_eq_true rfl) (by decide) (by decide) hC (by decide +kernel) (fun q => ?_)
  refine pr_astore_n dL_chain_12 (by decide) rfl ?_
  refine zr_iconst dL_chain_13 ?_
  exact pr_iret dL_chain_14 rfl rfl ⟨rfl, rfl⟩
set_option maxRecDepth 100000 in
theorem wr_account_k {n1 : Int32} : wK en 237 99 [.int n1] := by
  intro x o g g1 v w fs mc ms hx ho hC
  refine pz_in pzt_L_account ?_
  refine pr_aload_n dL_account_0 rfl ?_
  refine zr_iconst dL_account_1 ?_
  refine pr_aload_n dL_account_2 rfl ?_
  refine pr_iload_n dL_account_3 rfl ?_
  refine zw_v (as := [.int n1]) (rest := [.int (zI 0), .ref o]) (nc := 0) (ns := 0) dL_account_4 pzm_8_112 pzt_X6_account rfl rfl hx (Nat.le_of_ble_eq_true rfl) (by decide) (by decide) hC ?_
  refine pr_i2l dL_account_7 ?_
  refine pr_last (k := 0) dL_account_8 ho (by decide) (by decide) rfl ?_
  refine pr_goto (tgt := 15) dL_account_9 (by decide) ?_
  refine zr_iconst dL_account_15 ?_
  exact pr_iret dL_account_16 rfl rfl ⟨rfl, rfl⟩
set_option maxRecDepth 100000 in
theorem wr_account_1 {n1 : Int32} : wT en 237 99 [.int n1] "java/lang/IllegalArgumentException" 1 := by
  intro x o g g1 fs mc ms hx hC
  refine pz_in pzt_L_account ?_
  refine pr_aload_n dL_account_0 rfl ?_
  refine zr_iconst dL_account_1 ?_
  refine pr_aload_n dL_account_2 rfl ?_
  refine pr_iload_n dL_account_3 rfl ?_
  refine zw_t (tgt := 12) (as := [.int n1]) (rest := [.int (zI 0), .ref o]) (nc := 0) (ns := 0) dL_account_4 pzm_8_112 pzt_X6_account rfl rfl hx (Nat.le_of_ble_eq_true rfl) (by decide) (by decide) hC (by decide +kernel) (fun q => ?_)
  refine pr_astore_n dL_account_12 (by decide) rfl ?_
  refine zr_iconst dL_account_13 ?_
  exact pr_iret dL_account_14 rfl rfl ⟨rfl, rfl⟩
set_option maxRecDepth 100000 in
theorem wr_append_k {n1 : Int32} : wK en 238 101 [.int n1] := by
  intro x o g g1 v w fs mc ms hx ho hC
  refine pz_in pzt_L_append ?_
  refine pr_aload_n dL_append_0 rfl ?_
  refine zr_iconst dL_append_1 ?_
  refine pr_aload_n dL_append_2 rfl ?_
  refine pr_iload_n dL_append_3 rfl ?_
  refine zw_v (as := [.int n1]) (rest := [.int (zI 0), .ref o]) (nc := 0) (ns := 0) dL_append_4 pzm_8_115 pzt_X6_append rfl rfl hx (Nat.le_of_ble_eq_true rfl) (by decide) (by decide) hC ?_
  refine pr_i2l dL_append_7 ?_
  refine pr_last (k := 0) dL_append_8 ho (by decide) (by decide) rfl ?_
  refine pr_goto (tgt := 18) dL_append_9 (by decide) ?_
  refine zr_iconst dL_append_18 ?_
  exact pr_iret dL_append_19 rfl rfl ⟨rfl, rfl⟩
set_option maxRecDepth 100000 in
theorem wr_append_1 {n1 : Int32} : wT en 238 101 [.int n1] "java/lang/IllegalArgumentException" 1 := by
  intro x o g g1 fs mc ms hx hC
  refine pz_in pzt_L_append ?_
  refine pr_aload_n dL_append_0 rfl ?_
  refine zr_iconst dL_append_1 ?_
  refine pr_aload_n dL_append_2 rfl ?_
  refine pr_iload_n dL_append_3 rfl ?_
  refine zw_t (tgt := 12) (as := [.int n1]) (rest := [.int (zI 0), .ref o]) (nc := 0) (ns := 0) dL_append_4 pzm_8_115 pzt_X6_append rfl rfl hx (Nat.le_of_ble_eq_true rfl) (by decide) (by decide) hC (by decide +kernel) (fun q => ?_)
  refine pr_astore_n dL_append_12 (by decide) rfl ?_
  refine zr_iconst dL_append_13 ?_
  exact pr_iret dL_append_14 rfl rfl ⟨rfl, rfl⟩
set_option maxRecDepth 100000 in
theorem wr_append_2 {n1 : Int32} : wT en 238 101 [.int n1] "java/lang/IllegalStateException" 2 := by
  intro x o g g1 fs mc ms hx hC
  refine pz_in pzt_L_append ?_
  refine pr_aload_n dL_append_0 rfl ?_
  refine zr_iconst dL_append_1 ?_
  refine pr_aload_n dL_append_2 rfl ?_
  refine pr_iload_n dL_append_3 rfl ?_
  refine zw_t (tgt := 15) (as := [.int n1]) (rest := [.int (zI 0), .ref o]) (nc := 0) (ns := 0) dL_append_4 pzm_8_115 pzt_X6_append rfl rfl hx (Nat.le_of_ble_eq_true rfl) (by decide) (by decide) hC (by decide +kernel) (fun q => ?_)
  refine pr_astore_n dL_append_15 (by decide) rfl ?_
  refine zr_iconst dL_append_16 ?_
  exact pr_iret dL_append_17 rfl rfl ⟨rfl, rfl⟩
set_option maxRecDepth 100000 in
theorem wr_read_k : wK en 239 102 [] := by
  intro x o g g1 v w fs mc ms hx ho hC
  refine pz_in pzt_L_read ?_
  refine pr_aload_n dL_read_0 rfl ?_
  refine zr_iconst dL_read_1 ?_
  refine pr_aload_n dL_read_2 rfl ?_
  refine zw_v (as := []) (rest := [.int (zI 0), .ref o]) (nc := 0) (ns := 0) dL_read_3 pzm_8_119 pzt_X6_read rfl rfl hx (Nat.le_of_ble_eq_true rfl) (by decide) (by decide) hC ?_
  refine pr_i2l dL_read_6 ?_
  refine pr_last (k := 0) dL_read_7 ho (by decide) (by decide) rfl ?_
  refine pr_goto (tgt := 17) dL_read_8 (by decide) ?_
  refine zr_iconst dL_read_17 ?_
  exact pr_iret dL_read_18 rfl rfl ⟨rfl, rfl⟩
set_option maxRecDepth 100000 in
theorem wr_read_1 : wT en 239 102 [] "java/lang/IllegalArgumentException" 1 := by
  intro x o g g1 fs mc ms hx hC
  refine pz_in pzt_L_read ?_
  refine pr_aload_n dL_read_0 rfl ?_
  refine zr_iconst dL_read_1 ?_
  refine pr_aload_n dL_read_2 rfl ?_
  refine zw_t (tgt := 11) (as := []) (rest := [.int (zI 0), .ref o]) (nc := 0) (ns := 0) dL_read_3 pzm_8_119 pzt_X6_read rfl rfl hx (Nat.le_of_ble_eq_true rfl) (by decide) (by decide) hC (by decide +kernel) (fun q => ?_)
  refine pr_astore_n dL_read_11 (by decide) rfl ?_
  refine zr_iconst dL_read_12 ?_
  exact pr_iret dL_read_13 rfl rfl ⟨rfl, rfl⟩
set_option maxRecDepth 100000 in
theorem wr_read_2 : wT en 239 102 [] "java/lang/IllegalStateException" 2 := by
  intro x o g g1 fs mc ms hx hC
  refine pz_in pzt_L_read ?_
  refine pr_aload_n dL_read_0 rfl ?_
  refine zr_iconst dL_read_1 ?_
  refine pr_aload_n dL_read_2 rfl ?_
  refine zw_t (tgt := 14) (as := []) (rest := [.int (zI 0), .ref o]) (nc := 0) (ns := 0) dL_read_3 pzm_8_119 pzt_X6_read rfl rfl hx (Nat.le_of_ble_eq_true rfl) (by decide) (by decide) hC (by decide +kernel) (fun q => ?_)
  refine pr_astore_n dL_read_14 (by decide) rfl ?_
  refine zr_iconst dL_read_15 ?_
  exact pr_iret dL_read_16 rfl rfl ⟨rfl, rfl⟩
set_option maxRecDepth 100000 in
theorem wr_errorPosition_k : wK en 240 103 [] := by
  intro x o g g1 v w fs mc ms hx ho hC
  refine pz_in pzt_L_errorPosition ?_
  refine pr_aload_n dL_errorPosition_0 rfl ?_
  refine zr_iconst dL_errorPosition_1 ?_
  refine pr_aload_n dL_errorPosition_2 rfl ?_
  refine zw_v (as := []) (rest := [.int (zI 0), .ref o]) (nc := 0) (ns := 0) dL_errorPosition_3 pzm_8_122 pzt_X6_errorPosition rfl rfl hx (Nat.le_of_ble_eq_true rfl) (by decide) (by decide) hC ?_
  refine pr_i2l dL_errorPosition_6 ?_
  refine pr_last (k := 0) dL_errorPosition_7 ho (by decide) (by decide) rfl ?_
  refine pr_goto (tgt := 14) dL_errorPosition_8 (by decide) ?_
  refine zr_iconst dL_errorPosition_14 ?_
  exact pr_iret dL_errorPosition_15 rfl rfl ⟨rfl, rfl⟩
set_option maxRecDepth 100000 in
theorem wr_errorPosition_1 : wT en 240 103 [] "java/util/NoSuchElementException" 1 := by
  intro x o g g1 fs mc ms hx hC
  refine pz_in pzt_L_errorPosition ?_
  refine pr_aload_n dL_errorPosition_0 rfl ?_
  refine zr_iconst dL_errorPosition_1 ?_
  refine pr_aload_n dL_errorPosition_2 rfl ?_
  refine zw_t (tgt := 11) (as := []) (rest := [.int (zI 0), .ref o]) (nc := 0) (ns := 0) dL_errorPosition_3 pzm_8_122 pzt_X6_errorPosition rfl rfl hx (Nat.le_of_ble_eq_true rfl) (by decide) (by decide) hC (by decide +kernel) (fun q => ?_)
  refine pr_astore_n dL_errorPosition_11 (by decide) rfl ?_
  refine zr_iconst dL_errorPosition_12 ?_
  exact pr_iret dL_errorPosition_13 rfl rfl ⟨rfl, rfl⟩
set_option maxRecDepth 100000 in
theorem wr_undo_k : wK en 241 104 [] := by
  intro x o g g1 v w fs mc ms hx ho hC
  refine pz_in pzt_L_undo ?_
  refine pr_aload_n dL_undo_0 rfl ?_
  refine zr_iconst dL_undo_1 ?_
  refine pr_aload_n dL_undo_2 rfl ?_
  refine zw_v (as := []) (rest := [.int (zI 0), .ref o]) (nc := 0) (ns := 0) dL_undo_3 pzm_8_125 pzt_X6_undo rfl rfl hx (Nat.le_of_ble_eq_true rfl) (by decide) (by decide) hC ?_
  refine pr_i2l dL_undo_6 ?_
  refine pr_last (k := 0) dL_undo_7 ho (by decide) (by decide) rfl ?_
  refine pr_goto (tgt := 14) dL_undo_8 (by decide) ?_
  refine zr_iconst dL_undo_14 ?_
  exact pr_iret dL_undo_15 rfl rfl ⟨rfl, rfl⟩
set_option maxRecDepth 100000 in
theorem wr_undo_1 : wT en 241 104 [] "java/util/NoSuchElementException" 1 := by
  intro x o g g1 fs mc ms hx hC
  refine pz_in pzt_L_undo ?_
  refine pr_aload_n dL_undo_0 rfl ?_
  refine zr_iconst dL_undo_1 ?_
  refine pr_aload_n dL_undo_2 rfl ?_
  refine zw_t (tgt := 11) (as := []) (rest := [.int (zI 0), .ref o]) (nc := 0) (ns := 0) dL_undo_3 pzm_8_125 pzt_X6_undo rfl rfl hx (Nat.le_of_ble_eq_true rfl) (by decide) (by decide) hC (by decide +kernel) (fun q => ?_)
  refine pr_astore_n dL_undo_11 (by decide) rfl ?_
  refine zr_iconst dL_undo_12 ?_
  exact pr_iret dL_undo_13 rfl rfl ⟨rfl, rfl⟩
set_option maxRecDepth 100000 in
theorem wr_restore_k : wK en 242 106 [] := by
  intro x o g g1 v w fs mc ms hx ho hC
  refine pz_in pzt_L_restore ?_
  refine pr_aload_n dL_restore_0 rfl ?_
  refine zr_iconst dL_restore_1 ?_
  refine pr_aload_n dL_restore_2 rfl ?_
  refine zw_v (as := []) (rest := [.int (zI 0), .ref o]) (nc := 0) (ns := 0) dL_restore_3 pzm_8_128 pzt_X6_restore rfl rfl hx (Nat.le_of_ble_eq_true rfl) (by decide) (by decide) hC ?_
  refine pr_i2l dL_restore_6 ?_
  refine pr_last (k := 0) dL_restore_7 ho (by decide) (by decide) rfl ?_
  refine pr_goto (tgt := 14) dL_restore_8 (by decide) ?_
  refine zr_iconst dL_restore_14 ?_
  exact pr_iret dL_restore_15 rfl rfl ⟨rfl, rfl⟩
set_option maxRecDepth 100000 in
theorem wr_restore_1 : wT en 242 106 [] "java/lang/IllegalStateException" 1 := by
  intro x o g g1 fs mc ms hx hC
  refine pz_in pzt_L_restore ?_
  refine pr_aload_n dL_restore_0 rfl ?_
  refine zr_iconst dL_restore_1 ?_
  refine pr_aload_n dL_restore_2 rfl ?_
  refine zw_t (tgt := 11) (as := []) (rest := [.int (zI 0), .ref o]) (nc := 0) (ns := 0) dL_restore_3 pzm_8_128 pzt_X6_restore rfl rfl hx (Nat.le_of_ble_eq_true rfl) (by decide) (by decide) hC (by decide +kernel) (fun q => ?_)
  refine pr_astore_n dL_restore_11 (by decide) rfl ?_
  refine zr_iconst dL_restore_12 ?_
  exact pr_iret dL_restore_13 rfl rfl ⟨rfl, rfl⟩
set_option maxRecDepth 100000 in
theorem wr_addCue_k {n1 : Int32} : wK en 243 108 [.int n1] := by
  intro x o g g1 v w fs mc ms hx ho hC
  refine pz_in pzt_L_addCue ?_
  refine pr_aload_n dL_addCue_0 rfl ?_
  refine zr_iconst dL_addCue_1 ?_
  refine pr_aload_n dL_addCue_2 rfl ?_
  refine pr_iload_n dL_addCue_3 rfl ?_
  refine zw_v (as := [.int n1]) (rest := [.int (zI 0), .ref o]) (nc := 0) (ns := 0) dL_addCue_4 pzm_8_7 pzt_X6_addCue rfl rfl hx (Nat.le_of_ble_eq_true rfl) (by decide) (by decide) hC ?_
  refine pr_i2l dL_addCue_7 ?_
  refine pr_last (k := 0) dL_addCue_8 ho (by decide) (by decide) rfl ?_
  refine pr_goto (tgt := 18) dL_addCue_9 (by decide) ?_
  refine zr_iconst dL_addCue_18 ?_
  exact pr_iret dL_addCue_19 rfl rfl ⟨rfl, rfl⟩
set_option maxRecDepth 100000 in
theorem wr_addCue_1 {n1 : Int32} : wT en 243 108 [.int n1] "java/lang/IllegalArgumentException" 1 := by
  intro x o g g1 fs mc ms hx hC
  refine pz_in pzt_L_addCue ?_
  refine pr_aload_n dL_addCue_0 rfl ?_
  refine zr_iconst dL_addCue_1 ?_
  refine pr_aload_n dL_addCue_2 rfl ?_
  refine pr_iload_n dL_addCue_3 rfl ?_
  refine zw_t (tgt := 12) (as := [.int n1]) (rest := [.int (zI 0), .ref o]) (nc := 0) (ns := 0) dL_addCue_4 pzm_8_7 pzt_X6_addCue rfl rfl hx (Nat.le_of_ble_eq_true rfl) (by decide) (by decide) hC (by decide +kernel) (fun q => ?_)
  refine pr_astore_n dL_addCue_12 (by decide) rfl ?_
  refine zr_iconst dL_addCue_13 ?_
  exact pr_iret dL_addCue_14 rfl rfl ⟨rfl, rfl⟩
set_option maxRecDepth 100000 in
theorem wr_addCue_2 {n1 : Int32} : wT en 243 108 [.int n1] "java/lang/IllegalStateException" 2 := by
  intro x o g g1 fs mc ms hx hC
  refine pz_in pzt_L_addCue ?_
  refine pr_aload_n dL_addCue_0 rfl ?_
  refine zr_iconst dL_addCue_1 ?_
  refine pr_aload_n dL_addCue_2 rfl ?_
  refine pr_iload_n dL_addCue_3 rfl ?_
  refine zw_t (tgt := 15) (as := [.int n1]) (rest := [.int (zI 0), .ref o]) (nc := 0) (ns := 0) dL_addCue_4 pzm_8_7 pzt_X6_addCue rfl rfl hx (Nat.le_of_ble_eq_true rfl) (by decide) (by decide) hC (by decide +kernel) (fun q => ?_)
  refine pr_astore_n dL_addCue_15 (by decide) rfl ?_
  refine zr_iconst dL_addCue_16 ?_
  exact pr_iret dL_addCue_17 rfl rfl ⟨rfl, rfl⟩
set_option maxRecDepth 100000 in
theorem wr_removeCue_k {n1 n2 : Int32} : wK en 244 119 [.int n1, .int n2] := by
  intro x o g g1 v w fs mc ms hx ho hC
  refine pz_in pzt_L_removeCue ?_
  refine pr_aload_n dL_removeCue_0 rfl ?_
  refine zr_iconst dL_removeCue_1 ?_
  refine pr_aload_n dL_removeCue_2 rfl ?_
  refine pr_iload_n dL_removeCue_3 rfl ?_
  refine pr_iload_n dL_removeCue_4 rfl ?_
  refine zw_v (as := [.int n1, .int n2]) (rest := [.int (zI 0), .ref o]) (nc := 0) (ns := 0) dL_removeCue_5 pzm_8_17 pzt_X6_removeCue rfl rfl hx (Nat.le_of_ble_eq_true rfl) (by decide) (by decide) hC ?_
  refine pr_i2l dL_removeCue_8 ?_
  refine pr_last (k := 0) dL_removeCue_9 ho (by decide) (by decide) rfl ?_
  refine pr_goto (tgt := 21) dL_removeCue_10 (by decide) ?_
  refine zr_iconst dL_removeCue_21 ?_
  exact pr_iret dL_removeCue_22 rfl rfl ⟨rfl, rfl⟩
set_option maxRecDepth 100000 in
theorem wr_removeCue_1 {n1 n2 : Int32} : wT en 244 119 [.int n1, .int n2] "java/lang/IndexOutOfBoundsException" 1 := by
  intro x o g g1 fs mc ms hx hC
  refine pz_in pzt_L_removeCue ?_
  refine pr_aload_n dL_removeCue_0 rfl ?_
  refine zr_iconst dL_removeCue_1 ?_
  refine pr_aload_n dL_removeCue_2 rfl ?_
  refine pr_iload_n dL_removeCue_3 rfl ?_
  refine pr_iload_n dL_removeCue_4 rfl ?_
  refine zw_t (tgt := 13) (as := [.int n1, .int n2]) (rest := [.int (zI 0), .ref o]) (nc := 0) (ns := 0) dL_removeCue_5 pzm_8_17 pzt_X6_removeCue rfl rfl hx (Nat.le_of_ble_eq_true rfl) (by decide) (by decide) hC (by decide +kernel) (fun q => ?_)
  refine pr_astore dL_removeCue_13 (by decide) rfl ?_
  refine zr_iconst dL_removeCue_15 ?_
  exact pr_iret dL_removeCue_16 rfl rfl ⟨rfl, rfl⟩
set_option maxRecDepth 100000 in
theorem wr_removeCue_2 {n1 n2 : Int32} : wT en 244 119 [.int n1, .int n2] "java/lang/UnsupportedOperationException" 2 := by
  intro x o g g1 fs mc ms hx hC
  refine pz_in pzt_L_removeCue ?_
  refine pr_aload_n dL_removeCue_0 rfl ?_
  refine zr_iconst dL_removeCue_1 ?_
  refine pr_aload_n dL_removeCue_2 rfl ?_
  refine pr_iload_n dL_removeCue_3 rfl ?_
  refine pr_iload_n dL_removeCue_4 rfl ?_
  refine zw_t (tgt := 17) (as := [.int n1, .int n2]) (rest := [.int (zI 0), .ref o]) (nc := 0) (ns := 0) dL_removeCue_5 pzm_8_17 pzt_X6_removeCue rfl rfl hx (Nat.le_of_ble_eq_true rfl) (by decide) (by decide) hC (by decide +kernel) (fun q => ?_)
  refine pr_astore dL_removeCue_17 (by decide) rfl ?_
  refine zr_iconst dL_removeCue_19 ?_
  exact pr_iret dL_removeCue_20 rfl rfl ⟨rfl, rfl⟩
set_option maxRecDepth 100000 in
theorem wr_cueAt_k {n1 : Int32} : wK en 245 122 [.int n1] := by
  intro x o g g1 v w fs mc ms hx ho hC
  refine pz_in pzt_L_cueAt ?_
  refine pr_aload_n dL_cueAt_0 rfl ?_
  refine zr_iconst dL_cueAt_1 ?_
  refine pr_aload_n dL_cueAt_2 rfl ?_
  refine pr_iload_n dL_cueAt_3 rfl ?_
  refine zw_v (as := [.int n1]) (rest := [.int (zI 0), .ref o]) (nc := 0) (ns := 0) dL_cueAt_4 pzm_8_25 pzt_X6_cueAt rfl rfl hx (Nat.le_of_ble_eq_true rfl) (by decide) (by decide) hC ?_
  refine pr_i2l dL_cueAt_7 ?_
  refine pr_last (k := 0) dL_cueAt_8 ho (by decide) (by decide) rfl ?_
  refine pr_goto (tgt := 15) dL_cueAt_9 (by decide) ?_
  refine zr_iconst dL_cueAt_15 ?_
  exact pr_iret dL_cueAt_16 rfl rfl ⟨rfl, rfl⟩
set_option maxRecDepth 100000 in
theorem wr_cueAt_1 {n1 : Int32} : wT en 245 122 [.int n1] "java/util/NoSuchElementException" 1 := by
  intro x o g g1 fs mc ms hx hC
  refine pz_in pzt_L_cueAt ?_
  refine pr_aload_n dL_cueAt_0 rfl ?_
  refine zr_iconst dL_cueAt_1 ?_
  refine pr_aload_n dL_cueAt_2 rfl ?_
  refine pr_iload_n dL_cueAt_3 rfl ?_
  refine zw_t (tgt := 12) (as := [.int n1]) (rest := [.int (zI 0), .ref o]) (nc := 0) (ns := 0) dL_cueAt_4 pzm_8_25 pzt_X6_cueAt rfl rfl hx (Nat.le_of_ble_eq_true rfl) (by decide) (by decide) hC (by decide +kernel) (fun q => ?_)
  refine pr_astore_n dL_cueAt_12 (by decide) rfl ?_
  refine zr_iconst dL_cueAt_13 ?_
  exact pr_iret dL_cueAt_14 rfl rfl ⟨rfl, rfl⟩
set_option maxRecDepth 100000 in
theorem wr_setFollow_k {n1 n2 : Int32} : wK en 246 123 [.int n1, .int n2] := by
  intro x o g g1 v w fs mc ms hx ho hC
  refine pz_in pzt_L_setFollow ?_
  refine pr_aload_n dL_setFollow_0 rfl ?_
  refine zr_iconst dL_setFollow_1 ?_
  refine pr_aload_n dL_setFollow_2 rfl ?_
  refine pr_iload_n dL_setFollow_3 rfl ?_
  refine pr_iload_n dL_setFollow_4 rfl ?_
  refine zw_v (as := [.int n1, .int n2]) (rest := [.int (zI 0), .ref o]) (nc := 0) (ns := 0) dL_setFollow_5 pzm_8_30 pzt_X6_setFollow rfl rfl hx (Nat.le_of_ble_eq_true rfl) (by decide) (by decide) hC ?_
  refine pr_i2l dL_setFollow_8 ?_
  refine pr_last (k := 0) dL_setFollow_9 ho (by decide) (by decide) rfl ?_
  refine pr_goto (tgt := 21) dL_setFollow_10 (by decide) ?_
  refine zr_iconst dL_setFollow_21 ?_
  exact pr_iret dL_setFollow_22 rfl rfl ⟨rfl, rfl⟩
set_option maxRecDepth 100000 in
theorem wr_setFollow_1 {n1 n2 : Int32} : wT en 246 123 [.int n1, .int n2] "java/lang/IndexOutOfBoundsException" 1 := by
  intro x o g g1 fs mc ms hx hC
  refine pz_in pzt_L_setFollow ?_
  refine pr_aload_n dL_setFollow_0 rfl ?_
  refine zr_iconst dL_setFollow_1 ?_
  refine pr_aload_n dL_setFollow_2 rfl ?_
  refine pr_iload_n dL_setFollow_3 rfl ?_
  refine pr_iload_n dL_setFollow_4 rfl ?_
  refine zw_t (tgt := 13) (as := [.int n1, .int n2]) (rest := [.int (zI 0), .ref o]) (nc := 0) (ns := 0) dL_setFollow_5 pzm_8_30 pzt_X6_setFollow rfl rfl hx (Nat.le_of_ble_eq_true rfl) (by decide) (by decide) hC (by decide +kernel) (fun q => ?_)
  refine pr_astore dL_setFollow_13 (by decide) rfl ?_
  refine zr_iconst dL_setFollow_15 ?_
  exact pr_iret dL_setFollow_16 rfl rfl ⟨rfl, rfl⟩
set_option maxRecDepth 100000 in
theorem wr_setFollow_2 {n1 n2 : Int32} : wT en 246 123 [.int n1, .int n2] "java/lang/IllegalArgumentException" 2 := by
  intro x o g g1 fs mc ms hx hC
  refine pz_in pzt_L_setFollow ?_
  refine pr_aload_n dL_setFollow_0 rfl ?_
  refine zr_iconst dL_setFollow_1 ?_
  refine pr_aload_n dL_setFollow_2 rfl ?_
  refine pr_iload_n dL_setFollow_3 rfl ?_
  refine pr_iload_n dL_setFollow_4 rfl ?_
  refine zw_t (tgt := 17) (as := [.int n1, .int n2]) (rest := [.int (zI 0), .ref o]) (nc := 0) (ns := 0) dL_setFollow_5 pzm_8_30 pzt_X6_setFollow rfl rfl hx (Nat.le_of_ble_eq_true rfl) (by decide) (by decide) hC (by decide +kernel) (fun q => ?_)
  refine pr_astore dL_setFollow_17 (by decide) rfl ?_
  refine zr_iconst dL_setFollow_19 ?_
  exact pr_iret dL_setFollow_20 rfl rfl ⟨rfl, rfl⟩
set_option maxRecDepth 100000 in
theorem wr_setBlock_k {n1 n2 : Int32} : wK en 247 124 [.int n1, .int n2] := by
  intro x o g g1 v w fs mc ms hx ho hC
  refine pz_in pzt_L_setBlock ?_
  refine pr_aload_n dL_setBlock_0 rfl ?_
  refine zr_iconst dL_setBlock_1 ?_
  refine pr_aload_n dL_setBlock_2 rfl ?_
  refine pr_iload_n dL_setBlock_3 rfl ?_
  refine pr_iload_n dL_setBlock_4 rfl ?_
  refine zw_v (as := [.int n1, .int n2]) (rest := [.int (zI 0), .ref o]) (nc := 0) (ns := 0) dL_setBlock_5 pzm_8_34 pzt_X6_setBlock rfl rfl hx (Nat.le_of_ble_eq_true rfl) (by decide) (by decide) hC ?_
  refine pr_i2l dL_setBlock_8 ?_
  refine pr_last (k := 0) dL_setBlock_9 ho (by decide) (by decide) rfl ?_
  refine pr_goto (tgt := 17) dL_setBlock_10 (by decide) ?_
  refine zr_iconst dL_setBlock_17 ?_
  exact pr_iret dL_setBlock_18 rfl rfl ⟨rfl, rfl⟩
set_option maxRecDepth 100000 in
theorem wr_setBlock_1 {n1 n2 : Int32} : wT en 247 124 [.int n1, .int n2] "java/lang/IndexOutOfBoundsException" 1 := by
  intro x o g g1 fs mc ms hx hC
  refine pz_in pzt_L_setBlock ?_
  refine pr_aload_n dL_setBlock_0 rfl ?_
  refine zr_iconst dL_setBlock_1 ?_
  refine pr_aload_n dL_setBlock_2 rfl ?_
  refine pr_iload_n dL_setBlock_3 rfl ?_
  refine pr_iload_n dL_setBlock_4 rfl ?_
  refine zw_t (tgt := 13) (as := [.int n1, .int n2]) (rest := [.int (zI 0), .ref o]) (nc := 0) (ns := 0) dL_setBlock_5 pzm_8_34 pzt_X6_setBlock rfl rfl hx (Nat.le_of_ble_eq_true rfl) (by decide) (by decide) hC (by decide +kernel) (fun q => ?_)
  refine pr_astore dL_setBlock_13 (by decide) rfl ?_
  refine zr_iconst dL_setBlock_15 ?_
  exact pr_iret dL_setBlock_16 rfl rfl ⟨rfl, rfl⟩
set_option maxRecDepth 100000 in
theorem wr_setProtected_k {n1 n2 : Int32} : wB en 248 125 [.int n1, .int n2] := by
  intro x o g g1 v w fs mc ms hv hx ho hC
  refine pz_in pzt_L_setProtected ?_
  refine pr_aload_n dL_setProtected_0 rfl ?_
  refine zr_iconst dL_setProtected_1 ?_
  refine pr_aload_n dL_setProtected_2 rfl ?_
  refine pr_iload_n dL_setProtected_3 rfl ?_
  refine pr_iload_n dL_setProtected_4 rfl ?_
  refine zw_v (as := [.int n1, .int n2]) (rest := [.int (zI 0), .ref o]) (nc := 0) (ns := 0) dL_setProtected_5 pzm_8_37 pzt_X6_setProtected rfl rfl hx (Nat.le_of_ble_eq_true rfl) (by decide) (by decide) hC ?_
  refine zr_if_eq (tgt := 15) dL_setProtected_8 (by decide) (by omega) (fun c => ?_) (fun c => ?_)
  · refine pr_lconst dL_setProtected_15 rfl ?_
    refine pr_last (k := 0) dL_setProtected_16 ho (by decide) (by decide) (show _ = va_up g1 o (oC (va_up w 0 (zI v).toInt64)) by rw [show v = 0 from c]; rfl) ?_
    refine pr_goto (tgt := 24) dL_setProtected_17 (by decide) ?_
    refine zr_iconst dL_setProtected_24 ?_
    exact pr_iret dL_setProtected_25 rfl rfl ⟨rfl, rfl⟩
  · refine pr_lconst dL_setProtected_11 rfl ?_
    refine pr_goto (tgt := 16) dL_setProtected_12 (by decide) ?_
    refine pr_last (k := 0) dL_setProtected_16 ho (by decide) (by decide) (show _ = va_up g1 o (oC (va_up w 0 (zI v).toInt64)) by rw [show v = 1 by omega]; rfl) ?_
    refine pr_goto (tgt := 24) dL_setProtected_17 (by decide) ?_
    refine zr_iconst dL_setProtected_24 ?_
    exact pr_iret dL_setProtected_25 rfl rfl ⟨rfl, rfl⟩
set_option maxRecDepth 100000 in
theorem wr_setProtected_1 {n1 n2 : Int32} : wT en 248 125 [.int n1, .int n2] "java/lang/IndexOutOfBoundsException" 1 := by
  intro x o g g1 fs mc ms hx hC
  refine pz_in pzt_L_setProtected ?_
  refine pr_aload_n dL_setProtected_0 rfl ?_
  refine zr_iconst dL_setProtected_1 ?_
  refine pr_aload_n dL_setProtected_2 rfl ?_
  refine pr_iload_n dL_setProtected_3 rfl ?_
  refine pr_iload_n dL_setProtected_4 rfl ?_
  refine zw_t (tgt := 20) (as := [.int n1, .int n2]) (rest := [.int (zI 0), .ref o]) (nc := 0) (ns := 0) dL_setProtected_5 pzm_8_37 pzt_X6_setProtected rfl rfl hx (Nat.le_of_ble_eq_true rfl) (by decide) (by decide) hC (by decide +kernel) (fun q => ?_)
  refine pr_astore dL_setProtected_20 (by decide) rfl ?_
  refine zr_iconst dL_setProtected_22 ?_
  exact pr_iret dL_setProtected_23 rfl rfl ⟨rfl, rfl⟩
set_option maxRecDepth 100000 in
theorem wr_setPart_k {n1 n2 n3 n4 : Int32} : wK en 249 126 [.int n1, .int n2, .int n3, .int n4] := by
  intro x o g g1 v w fs mc ms hx ho hC
  refine pz_in pzt_L_setPart ?_
  refine pr_aload dL_setPart_0 rfl ?_
  refine zr_iconst dL_setPart_2 ?_
  refine pr_aload_n dL_setPart_3 rfl ?_
  refine pr_iload_n dL_setPart_4 rfl ?_
  refine pr_iload_n dL_setPart_5 rfl ?_
  refine pr_iload_n dL_setPart_6 rfl ?_
  refine pr_iload dL_setPart_7 rfl ?_
  refine zw_v (as := [.int n1, .int n2, .int n3, .int n4]) (rest := [.int (zI 0), .ref o]) (nc := 0) (ns := 0) dL_setPart_9 pzm_8_41 pzt_X6_setPart rfl rfl hx (Nat.le_of_ble_eq_true rfl) (by decide) (by decide) hC ?_
  refine pr_i2l dL_setPart_12 ?_
  refine pr_last (k := 0) dL_setPart_13 ho (by decide) (by decide) rfl ?_
  refine pr_goto (tgt := 25) dL_setPart_14 (by decide) ?_
  refine zr_iconst dL_setPart_25 ?_
  exact pr_iret dL_setPart_26 rfl rfl ⟨rfl, rfl⟩
set_option maxRecDepth 100000 in
theorem wr_setPart_1 {n1 n2 n3 n4 : Int32} : wT en 249 126 [.int n1, .int n2, .int n3, .int n4] "java/lang/IndexOutOfBoundsException" 1 := by
  intro x o g g1 fs mc ms hx hC
  refine pz_in pzt_L_setPart ?_
  refine pr_aload dL_setPart_0 rfl ?_
  refine zr_iconst dL_setPart_2 ?_
  refine pr_aload_n dL_setPart_3 rfl ?_
  refine pr_iload_n dL_setPart_4 rfl ?_
  refine pr_iload_n dL_setPart_5 rfl ?_
  refine pr_iload_n dL_setPart_6 rfl ?_
  refine pr_iload dL_setPart_7 rfl ?_
  refine zw_t (tgt := 17) (as := [.int n1, .int n2, .int n3, .int n4]) (rest := [.int (zI 0), .ref o]) (nc := 0) (ns := 0) dL_setPart_9 pzm_8_41 pzt_X6_setPart rfl rfl hx (Nat.le_of_ble_eq_true rfl) (by decide) (by decide) hC (by decide +kernel) (fun q => ?_)
  refine pr_astore dL_setPart_17 (by decide) rfl ?_
  refine zr_iconst dL_setPart_19 ?_
  exact pr_iret dL_setPart_20 rfl rfl ⟨rfl, rfl⟩
set_option maxRecDepth 100000 in
theorem wr_setPart_2 {n1 n2 n3 n4 : Int32} : wT en 249 126 [.int n1, .int n2, .int n3, .int n4] "java/lang/IllegalArgumentException" 2 := by
  intro x o g g1 fs mc ms hx hC
  refine pz_in pzt_L_setPart ?_
  refine pr_aload dL_setPart_0 rfl ?_
  refine zr_iconst dL_setPart_2 ?_
  refine pr_aload_n dL_setPart_3 rfl ?_
  refine pr_iload_n dL_setPart_4 rfl ?_
  refine pr_iload_n dL_setPart_5 rfl ?_
  refine pr_iload_n dL_setPart_6 rfl ?_
  refine pr_iload dL_setPart_7 rfl ?_
  refine zw_t (tgt := 21) (as := [.int n1, .int n2, .int n3, .int n4]) (rest := [.int (zI 0), .ref o]) (nc := 0) (ns := 0) dL_setPart_9 pzm_8_41 pzt_X6_setPart rfl rfl hx (Nat.le_of_ble_eq_true rfl) (by decide) (by decide) hC (by decide +kernel) (fun q => ?_)
  refine pr_astore dL_setPart_21 (by decide) rfl ?_
  refine zr_iconst dL_setPart_23 ?_
  exact pr_iret dL_setPart_24 rfl rfl ⟨rfl, rfl⟩
end wr
