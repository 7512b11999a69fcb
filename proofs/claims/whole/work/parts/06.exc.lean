abbrev pz_NM : List String := ["java/lang/RuntimeException", "java/lang/Exception"]
def pz_ix0 (E : String) : Nat := if E = "java/util/NoSuchElementException" then 13 else 7
def pz_rx (E : String) : ByteArray := if E = "java/util/NoSuchElementException" then prog_29_method_4_code else Bundle.six
def pz_cdw (w : Cond) : Bool := match w with
  | .castable _ _ => true
  | .declares _ => true
  | _ => false
theorem pz_ex0_g : ∀ w ∈ (pz_at RX6 63 "java/lang/IllegalArgumentException" 7 Bundle.six pz_NM).filter goodWord, w ∈ lw_tbl := by decide +kernel
theorem pz_ex0_o : ∀ w ∈ Cond.classLink RX6 59 "java/lang/IllegalArgumentException" :: Cond.initialized "java/lang/IllegalArgumentException" :: pz_at RX6 63 "java/lang/IllegalArgumentException" 7 Bundle.six pz_NM, vx_ot w = true := by decide +kernel
theorem pz_ex0_c : ∀ w ∈ (pz_at RX6 63 "java/lang/IllegalArgumentException" 7 Bundle.six pz_NM).filter (fun w => !goodWord w), pz_cdw w = true := by decide +kernel
theorem pz_ex0_w : lw_tbl[385]? = some (.classLink RX6 59 "java/lang/IllegalArgumentException") ∧ lw_tbl[78]? = some (.initialized "java/lang/IllegalArgumentException") := by decide +kernel
theorem pz_ex1_g : ∀ w ∈ (pz_at RX6 70 "java/lang/IllegalStateException" 7 Bundle.six pz_NM).filter goodWord, w ∈ lw_tbl := by decide +kernel
theorem pz_ex1_o : ∀ w ∈ Cond.classLink RX6 66 "java/lang/IllegalStateException" :: Cond.initialized "java/lang/IllegalStateException" :: pz_at RX6 70 "java/lang/IllegalStateException" 7 Bundle.six pz_NM, vx_ot w = true := by decide +kernel
theorem pz_ex1_c : ∀ w ∈ (pz_at RX6 70 "java/lang/IllegalStateException" 7 Bundle.six pz_NM).filter (fun w => !goodWord w), pz_cdw w = true := by decide +kernel
theorem pz_ex1_w : lw_tbl[455]? = some (.classLink RX6 66 "java/lang/IllegalStateException") ∧ lw_tbl[79]? = some (.initialized "java/lang/IllegalStateException") := by decide +kernel
theorem pz_ex2_g : ∀ w ∈ (pz_at RX6 87 "java/lang/IndexOutOfBoundsException" 7 Bundle.six pz_NM).filter goodWord, w ∈ lw_tbl := by decide +kernel
theorem pz_ex2_o : ∀ w ∈ Cond.classLink RX6 83 "java/lang/IndexOutOfBoundsException" :: Cond.initialized "java/lang/IndexOutOfBoundsException" :: pz_at RX6 87 "java/lang/IndexOutOfBoundsException" 7 Bundle.six pz_NM, vx_ot w = true := by decide +kernel
theorem pz_ex2_c : ∀ w ∈ (pz_at RX6 87 "java/lang/IndexOutOfBoundsException" 7 Bundle.six pz_NM).filter (fun w => !goodWord w), pz_cdw w = true := by decide +kernel
theorem pz_ex2_w : lw_tbl[504]? = some (.classLink RX6 83 "java/lang/IndexOutOfBoundsException") ∧ lw_tbl[82]? = some (.initialized "java/lang/IndexOutOfBoundsException") := by decide +kernel
theorem pz_ex3_g : ∀ w ∈ (pz_at RX6 99 "java/lang/UnsupportedOperationException" 7 Bundle.six pz_NM).filter goodWord, w ∈ lw_tbl := by decide +kernel
theorem pz_ex3_o : ∀ w ∈ Cond.classLink RX6 95 "java/lang/UnsupportedOperationException" :: Cond.initialized "java/lang/UnsupportedOperationException" :: pz_at RX6 99 "java/lang/UnsupportedOperationException" 7 Bundle.six pz_NM, vx_ot w = true := by decide +kernel
theorem pz_ex3_c : ∀ w ∈ (pz_at RX6 99 "java/lang/UnsupportedOperationException" 7 Bundle.six pz_NM).filter (fun w => !goodWord w), pz_cdw w = true := by decide +kernel
theorem pz_ex3_w : lw_tbl[556]? = some (.classLink RX6 95 "java/lang/UnsupportedOperationException") ∧ lw_tbl[83]? = some (.initialized "java/lang/UnsupportedOperationException") := by decide +kernel
theorem pz_ex4_g : ∀ w ∈ (pz_at RX6 107 "java/util/NoSuchElementException" 13 prog_29_method_4_code pz_NM).filter goodWord, w ∈ lw_tbl := by decide +kernel
theorem pz_ex4_o : ∀ w ∈ Cond.classLink RX6 103 "java/util/NoSuchElementException" :: Cond.initialized "java/util/NoSuchElementException" :: pz_at RX6 107 "java/util/NoSuchElementException" 13 prog_29_method_4_code pz_NM, vx_ot w = true := by decide +kernel
theorem pz_ex4_c : ∀ w ∈ (pz_at RX6 107 "java/util/NoSuchElementException" 13 prog_29_method_4_code pz_NM).filter (fun w => !goodWord w), pz_cdw w = true := by decide +kernel
theorem pz_ex4_w : lw_tbl[596]? = some (.classLink RX6 103 "java/util/NoSuchElementException") ∧ lw_tbl[84]? = some (.initialized "java/util/NoSuchElementException") := by decide +kernel
