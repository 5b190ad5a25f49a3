/-! names: classes, fields, methods, words; by program out of the Statement and javap -/
def lw_g : List Cond := lw_tbl.filter goodWord
theorem lwg {w : Cond} (h : w ∈ tables_1) (g : goodWord w = true) : w ∈ lw_g := List.mem_filter.mpr ⟨List.mem_append_right _ h, g⟩
theorem lwp {w : Cond} (h : w ∈ k2_sels lw_privs) (g : goodWord w = true) : w ∈ lw_g := List.mem_filter.mpr ⟨List.mem_append_left _ h, g⟩
theorem lwok {ws : List Cond} (h : ∀ w ∈ ws, w ∈ lw_g) : GoodIn lw_g ws := fun w hw => ⟨h w hw, good_of_word (List.mem_filter.mp (h w hw)).2⟩
theorem gV {own : String} {idx : Nat} {C : String} {y : MethodName} {b : ByteArray} {n : Nat} {r : Option FieldType} (h1 : Cond.methodLink own idx y ∈ lw_g) (h2 : Cond.instanceMethod y ∈ lw_g) (h3 : Cond.selects C y y ∈ lw_g) (h4 : Cond.initialized C ∈ lw_g) (h5 : Cond.code y b n r ∈ lw_g) : GoodIn lw_g (wsV own idx C y (Cond.code y b n r :: lw_g)) := by
  refine lwok fun w hw => ?_
  simp only [wsV, List.cons_append, List.nil_append, List.mem_cons] at hw
  rcases hw with rfl | rfl | rfl | rfl | rfl | hw <;> assumption
theorem gS {own : String} {idx : Nat} {y : MethodName} {b : ByteArray} {n : Nat} {r : Option FieldType} (h1 : Cond.methodLink own idx y ∈ lw_g) (h2 : Cond.static y ∈ lw_g) (h4 : Cond.initialized own ∈ lw_g) (h5 : Cond.code y b n r ∈ lw_g) : GoodIn lw_g (wsS own idx y (Cond.code y b n r :: lw_g)) := by
  refine lwok fun w hw => ?_
  simp only [wsS, List.cons_append, List.nil_append, List.mem_cons] at hw
  rcases hw with rfl | rfl | rfl | rfl | hw <;> assumption
theorem gS2 {own : String} {idx : Nat} {y : MethodName} {b : ByteArray} {n : Nat} {r : Option FieldType} (h1 : Cond.methodLink own idx y ∈ lw_g) (h2 : Cond.static y ∈ lw_g) (h4 : Cond.initialized y.cls ∈ lw_g) (h5 : Cond.code y b n r ∈ lw_g) : GoodIn lw_g (va_wsS own idx y (Cond.code y b n r :: lw_g)) := by
  refine lwok fun w hw => ?_
  simp only [va_wsS, List.cons_append, List.nil_append, List.mem_cons] at hw
  rcases hw with rfl | rfl | rfl | rfl | hw <;> assumption
theorem gI {y : MethodName} {b : ByteArray} {n : Nat} {r : Option FieldType} (h5 : Cond.code y b n r ∈ lw_g) : GoodIn lw_g (Cond.code y b n r :: lw_g) := by
  refine lwok fun w hw => ?_
  simp only [List.mem_cons] at hw
  rcases hw with rfl | hw <;> assumption
def R_XLi : String := "SpectrumParts$LineTable"
def T_XLi : u_T := fun k => match k with
  | 0 => ("SpectrumParts$LineTable", "sizes", "[I", true)
  | _ => ("SpectrumParts$LineTable", "lines", "[[I", true)
def u_XLi : Nat → FieldType := fun k => match k with
  | 0 => .array .int
  | _ => .array (.array .int)
theorem n_XLi : ∀ a, a < 2 → ∀ b, b < 2 → a ≠ b → (T_XLi a).2.1 ≠ (T_XLi b).2.1 := by decide +kernel
theorem u_XLi_ok : ∀ k, k < 2 → parseFieldDescriptor (T_XLi k).2.2.1 = some (u_XLi k) := by decide +kernel
theorem i_XLi : ∀ w ∈ u_ws R_XLi T_XLi 2, w ∈ lw_g := by decide +kernel
def R_XMi : String := "SpectrumParts$Mixture"
def T_XMi : u_T := fun k => match k with
  | 0 => ("SpectrumParts$Mixture", "entries", "[[I", true)
  | 1 => ("SpectrumParts$Mixture", "above", "[J", true)
  | 2 => ("SpectrumParts$Mixture", "below", "J", false)
  | 3 => ("SpectrumParts$Mixture", "size", "I", false)
  | 4 => ("SpectrumParts$Mixture", "solved", "Z", false)
  | 5 => ("SpectrumParts$Mixture", "products", "[[J", true)
  | 6 => ("SpectrumParts$Mixture", "matches", "[J", true)
  | 7 => ("SpectrumParts$Mixture", "system", "[[J", true)
  | _ => ("SpectrumParts$Mixture", "right", "[J", true)
def u_XMi : Nat → FieldType := fun k => match k with
  | 0 => .array (.array .int)
  | 1 => .array .long
  | 2 => .long
  | 3 => .int
  | 4 => .boolean
  | 5 => .array (.array .long)
  | 6 => .array .long
  | 7 => .array (.array .long)
  | _ => .array .long
theorem n_XMi : ∀ a, a < 9 → ∀ b, b < 9 → a ≠ b → (T_XMi a).2.1 ≠ (T_XMi b).2.1 := by decide +kernel
theorem u_XMi_ok : ∀ k, k < 9 → parseFieldDescriptor (T_XMi k).2.2.1 = some (u_XMi k) := by decide +kernel
theorem i_XMi : ∀ w ∈ u_ws R_XMi T_XMi 9, w ∈ lw_g := by decide +kernel
def R_XPe : String := "SpectrumParts$PeakList"
def T_XPe : u_T := fun k => match k with
  | 0 => ("SpectrumParts$PeakList", "rows", "[[I", true)
  | _ => ("SpectrumParts$PeakList", "size", "I", false)
def u_XPe : Nat → FieldType := fun k => match k with
  | 0 => .array (.array .int)
  | _ => .int
theorem n_XPe : ∀ a, a < 2 → ∀ b, b < 2 → a ≠ b → (T_XPe a).2.1 ≠ (T_XPe b).2.1 := by decide +kernel
theorem u_XPe_ok : ∀ k, k < 2 → parseFieldDescriptor (T_XPe k).2.2.1 = some (u_XPe k) := by decide +kernel
theorem i_XPe : ∀ w ∈ u_ws R_XPe T_XPe 2, w ∈ lw_g := by decide +kernel
def R_XSa : String := "SpectrumParts$SampleSet"
def T_XSa : u_T := fun k => match k with
  | 0 => ("SpectrumParts$SampleSet", "measures", "[[I", true)
  | 1 => ("SpectrumParts$SampleSet", "size", "I", false)
  | 2 => ("SpectrumParts$SampleSet", "a", "J", false)
  | 3 => ("SpectrumParts$SampleSet", "b", "J", false)
  | 4 => ("SpectrumParts$SampleSet", "c", "J", false)
  | _ => ("SpectrumParts$SampleSet", "joined", "[Z", true)
def u_XSa : Nat → FieldType := fun k => match k with
  | 0 => .array (.array .int)
  | 1 => .int
  | 2 => .long
  | 3 => .long
  | 4 => .long
  | _ => .array .boolean
theorem n_XSa : ∀ a, a < 6 → ∀ b, b < 6 → a ≠ b → (T_XSa a).2.1 ≠ (T_XSa b).2.1 := by decide +kernel
theorem u_XSa_ok : ∀ k, k < 6 → parseFieldDescriptor (T_XSa k).2.2.1 = some (u_XSa k) := by decide +kernel
theorem i_XSa : ∀ w ∈ u_ws R_XSa T_XSa 6, w ∈ lw_g := by decide +kernel
def R_XSp : String := "SpectrumParts$Spectrum"
def T_XSp : u_T := fun k => match k with
  | 0 => ("SpectrumParts$Spectrum", "channels", "I", true)
  | 1 => ("SpectrumParts$Spectrum", "counts", "[I", true)
  | 2 => ("SpectrumParts$Spectrum", "ground", "[I", true)
  | _ => ("SpectrumParts$Spectrum", "former", "[I", true)
def u_XSp : Nat → FieldType := fun k => match k with
  | 0 => .int
  | 1 => .array .int
  | 2 => .array .int
  | _ => .array .int
theorem n_XSp : ∀ a, a < 4 → ∀ b, b < 4 → a ≠ b → (T_XSp a).2.1 ≠ (T_XSp b).2.1 := by decide +kernel
theorem u_XSp_ok : ∀ k, k < 4 → parseFieldDescriptor (T_XSp k).2.2.1 = some (u_XSp k) := by decide +kernel
theorem i_XSp : ∀ w ∈ u_ws R_XSp T_XSp 4, w ∈ lw_g := by decide +kernel
def R_XSt : String := "SpectrumParts$StandardList"
def T_XSt : u_T := fun k => match k with
  | 0 => ("SpectrumParts$StandardList", "size", "I", false)
  | 1 => ("SpectrumParts$StandardList", "days", "[I", true)
  | _ => ("SpectrumParts$StandardList", "factors", "[I", true)
def u_XSt : Nat → FieldType := fun k => match k with
  | 0 => .int
  | 1 => .array .int
  | _ => .array .int
theorem n_XSt : ∀ a, a < 3 → ∀ b, b < 3 → a ≠ b → (T_XSt a).2.1 ≠ (T_XSt b).2.1 := by decide +kernel
theorem u_XSt_ok : ∀ k, k < 3 → parseFieldDescriptor (T_XSt k).2.2.1 = some (u_XSt k) := by decide +kernel
theorem i_XSt : ∀ w ∈ u_ws R_XSt T_XSt 3, w ∈ lw_g := by decide +kernel
def R_X : String := "SpectrumParts"
def T_X : u_T := fun k => match k with
  | 0 => ("SpectrumParts", "spectrum", "LSpectrumParts$Spectrum;", true)
  | 1 => ("SpectrumParts", "found", "LSpectrumParts$PeakList;", true)
  | 2 => ("SpectrumParts", "table", "LSpectrumParts$LineTable;", true)
  | 3 => ("SpectrumParts", "mixture", "LSpectrumParts$Mixture;", true)
  | 4 => ("SpectrumParts", "cloud", "LSpectrumParts$SampleSet;", true)
  | _ => ("SpectrumParts", "drift", "LSpectrumParts$StandardList;", true)
def u_X : Nat → FieldType := fun k => match k with
  | 0 => .object "SpectrumParts$Spectrum"
  | 1 => .object "SpectrumParts$PeakList"
  | 2 => .object "SpectrumParts$LineTable"
  | 3 => .object "SpectrumParts$Mixture"
  | 4 => .object "SpectrumParts$SampleSet"
  | _ => .object "SpectrumParts$StandardList"
theorem n_X : ∀ a, a < 6 → ∀ b, b < 6 → a ≠ b → (T_X a).2.1 ≠ (T_X b).2.1 := by decide +kernel
theorem u_X_ok : ∀ k, k < 6 → parseFieldDescriptor (T_X k).2.2.1 = some (u_X k) := by decide +kernel
theorem i_X : ∀ w ∈ u_ws R_X T_X 6, w ∈ lw_g := by decide +kernel
def R_M : String := "SpectrumPartsModel"
def T_M : u_T := fun k => match k with
  | 0 => ("SpectrumPartsModel", "thrown", "I", false)
  | 1 => ("SpectrumPartsModel", "channels", "I", true)
  | 2 => ("SpectrumPartsModel", "counts", "[I", true)
  | 3 => ("SpectrumPartsModel", "backs", "[I", true)
  | 4 => ("SpectrumPartsModel", "next", "[I", true)
  | 5 => ("SpectrumPartsModel", "peaks", "I", false)
  | 6 => ("SpectrumPartsModel", "found", "[I", true)
  | 7 => ("SpectrumPartsModel", "lines", "[I", true)
  | 8 => ("SpectrumPartsModel", "lineMany", "[I", true)
  | 9 => ("SpectrumPartsModel", "libraries", "I", false)
  | 10 => ("SpectrumPartsModel", "entries", "[I", true)
  | 11 => ("SpectrumPartsModel", "sums", "[J", true)
  | 12 => ("SpectrumPartsModel", "solved", "Z", false)
  | 13 => ("SpectrumPartsModel", "aboves", "[J", true)
  | 14 => ("SpectrumPartsModel", "under", "J", false)
  | 15 => ("SpectrumPartsModel", "samples", "I", false)
  | 16 => ("SpectrumPartsModel", "measures", "[I", true)
  | 17 => ("SpectrumPartsModel", "a", "I", false)
  | 18 => ("SpectrumPartsModel", "b", "I", false)
  | 19 => ("SpectrumPartsModel", "c", "I", false)
  | 20 => ("SpectrumPartsModel", "standards", "I", false)
  | 21 => ("SpectrumPartsModel", "days", "[I", true)
  | 22 => ("SpectrumPartsModel", "factors", "[I", true)
  | 23 => ("SpectrumPartsModel", "above", "J", false)
  | _ => ("SpectrumPartsModel", "below", "J", false)
def u_M : Nat → FieldType := fun k => match k with
  | 0 => .int
  | 1 => .int
  | 2 => .array .int
  | 3 => .array .int
  | 4 => .array .int
  | 5 => .int
  | 6 => .array .int
  | 7 => .array .int
  | 8 => .array .int
  | 9 => .int
  | 10 => .array .int
  | 11 => .array .long
  | 12 => .boolean
  | 13 => .array .long
  | 14 => .long
  | 15 => .int
  | 16 => .array .int
  | 17 => .int
  | 18 => .int
  | 19 => .int
  | 20 => .int
  | 21 => .array .int
  | 22 => .array .int
  | 23 => .long
  | _ => .long
theorem n_M : ∀ a, a < 25 → ∀ b, b < 25 → a ≠ b → (T_M a).2.1 ≠ (T_M b).2.1 := by decide +kernel
theorem u_M_ok : ∀ k, k < 25 → parseFieldDescriptor (T_M k).2.2.1 = some (u_M k) := by decide +kernel
theorem i_M : ∀ w ∈ u_ws R_M T_M 25, w ∈ lw_g := by decide +kernel
abbrev R_L : String := "SpectrumPartsLaw"
abbrev R_J : String := "java/lang/Math"
abbrev vwCl : List vw_C := [(R_XLi, T_XLi, 2), (R_XMi, T_XMi, 9), (R_XPe, T_XPe, 2), (R_XSa, T_XSa, 6), (R_XSp, T_XSp, 4), (R_XSt, T_XSt, 3), (R_X, T_X, 6), (R_M, T_M, 25)]
abbrev b_X_init : ByteArray := prog_1_method_1_code
abbrev y_X_init : MethodName := ⟨R_X, "<init>", "(I)V"⟩
abbrev w_X_init : List Cond := Cond.code y_X_init b_X_init 3 none :: lw_g
theorem tc_X_init : Cond.code y_X_init b_X_init 3 none ∈ lw_g := lwg (List.mem_of_getElem? (i := 21) (by decide +kernel)) (by decide +kernel)
abbrev b_X_told : ByteArray := prog_1_method_2_code
abbrev y_X_told : MethodName := ⟨R_X, "told", "(II)I"⟩
abbrev w_X_told : List Cond := Cond.code y_X_told b_X_told 4 (some .int) :: lw_g
theorem tc_X_told : Cond.code y_X_told b_X_told 4 (some .int) ∈ lw_g := lwg (List.mem_of_getElem? (i := 256) (by decide +kernel)) (by decide +kernel)
theorem ts_X_told : Cond.selects R_X y_X_told y_X_told ∈ lw_g := lwg (List.mem_of_getElem? (i := 255) (by decide +kernel)) (by decide +kernel)
abbrev b_X_background : ByteArray := prog_1_method_3_code
abbrev y_X_background : MethodName := ⟨R_X, "background", "(I)I"⟩
abbrev w_X_background : List Cond := Cond.code y_X_background b_X_background 2 (some .int) :: lw_g
theorem tc_X_background : Cond.code y_X_background b_X_background 2 (some .int) ∈ lw_g := lwg (List.mem_of_getElem? (i := 353) (by decide +kernel)) (by decide +kernel)
theorem ts_X_background : Cond.selects R_X y_X_background y_X_background ∈ lw_g := lwg (List.mem_of_getElem? (i := 352) (by decide +kernel)) (by decide +kernel)
abbrev b_X_lowered : ByteArray := prog_1_method_4_code
abbrev y_X_lowered : MethodName := ⟨R_X, "lowered", "(I)I"⟩
abbrev w_X_lowered : List Cond := Cond.code y_X_lowered b_X_lowered 2 (some .int) :: lw_g
theorem tc_X_lowered : Cond.code y_X_lowered b_X_lowered 2 (some .int) ∈ lw_g := lwg (List.mem_of_getElem? (i := 376) (by decide +kernel)) (by decide +kernel)
theorem ts_X_lowered : Cond.selects R_X y_X_lowered y_X_lowered ∈ lw_g := lwg (List.mem_of_getElem? (i := 375) (by decide +kernel)) (by decide +kernel)
abbrev b_X_peaks : ByteArray := prog_1_method_5_code
abbrev y_X_peaks : MethodName := ⟨R_X, "peaks", "(I)I"⟩
abbrev w_X_peaks : List Cond := Cond.code y_X_peaks b_X_peaks 2 (some .int) :: lw_g
theorem tc_X_peaks : Cond.code y_X_peaks b_X_peaks 2 (some .int) ∈ lw_g := lwg (List.mem_of_getElem? (i := 383) (by decide +kernel)) (by decide +kernel)
theorem ts_X_peaks : Cond.selects R_X y_X_peaks y_X_peaks ∈ lw_g := lwg (List.mem_of_getElem? (i := 382) (by decide +kernel)) (by decide +kernel)
abbrev b_X_peak : ByteArray := prog_1_method_6_code
abbrev y_X_peak : MethodName := ⟨R_X, "peak", "(II)I"⟩
abbrev w_X_peak : List Cond := Cond.code y_X_peak b_X_peak 3 (some .int) :: lw_g
theorem tc_X_peak : Cond.code y_X_peak b_X_peak 3 (some .int) ∈ lw_g := lwg (List.mem_of_getElem? (i := 409) (by decide +kernel)) (by decide +kernel)
theorem ts_X_peak : Cond.selects R_X y_X_peak y_X_peak ∈ lw_g := lwg (List.mem_of_getElem? (i := 408) (by decide +kernel)) (by decide +kernel)
abbrev b_X_line : ByteArray := prog_1_method_7_code
abbrev y_X_line : MethodName := ⟨R_X, "line", "(II)I"⟩
abbrev w_X_line : List Cond := Cond.code y_X_line b_X_line 3 (some .int) :: lw_g
theorem tc_X_line : Cond.code y_X_line b_X_line 3 (some .int) ∈ lw_g := lwg (List.mem_of_getElem? (i := 417) (by decide +kernel)) (by decide +kernel)
theorem ts_X_line : Cond.selects R_X y_X_line y_X_line ∈ lw_g := lwg (List.mem_of_getElem? (i := 416) (by decide +kernel)) (by decide +kernel)
abbrev b_X_element : ByteArray := prog_1_method_8_code
abbrev y_X_element : MethodName := ⟨R_X, "element", "(II)I"⟩
abbrev w_X_element : List Cond := Cond.code y_X_element b_X_element 3 (some .int) :: lw_g
theorem tc_X_element : Cond.code y_X_element b_X_element 3 (some .int) ∈ lw_g := lwg (List.mem_of_getElem? (i := 447) (by decide +kernel)) (by decide +kernel)
theorem ts_X_element : Cond.selects R_X y_X_element y_X_element ∈ lw_g := lwg (List.mem_of_getElem? (i := 446) (by decide +kernel)) (by decide +kernel)
abbrev b_X_detect : ByteArray := prog_1_method_9_code
abbrev y_X_detect : MethodName := ⟨R_X, "detect", "(I)I"⟩
abbrev w_X_detect : List Cond := Cond.code y_X_detect b_X_detect 4 (some .int) :: lw_g
theorem tc_X_detect : Cond.code y_X_detect b_X_detect 4 (some .int) ∈ lw_g := lwg (List.mem_of_getElem? (i := 461) (by decide +kernel)) (by decide +kernel)
theorem ts_X_detect : Cond.selects R_X y_X_detect y_X_detect ∈ lw_g := lwg (List.mem_of_getElem? (i := 460) (by decide +kernel)) (by decide +kernel)
abbrev b_X_library : ByteArray := prog_1_method_10_code
abbrev y_X_library : MethodName := ⟨R_X, "library", "()I"⟩
abbrev w_X_library : List Cond := Cond.code y_X_library b_X_library 2 (some .int) :: lw_g
theorem tc_X_library : Cond.code y_X_library b_X_library 2 (some .int) ∈ lw_g := lwg (List.mem_of_getElem? (i := 475) (by decide +kernel)) (by decide +kernel)
theorem ts_X_library : Cond.selects R_X y_X_library y_X_library ∈ lw_g := lwg (List.mem_of_getElem? (i := 474) (by decide +kernel)) (by decide +kernel)
abbrev b_X_entry : ByteArray := prog_1_method_11_code
abbrev y_X_entry : MethodName := ⟨R_X, "entry", "(III)I"⟩
abbrev w_X_entry : List Cond := Cond.code y_X_entry b_X_entry 5 (some .int) :: lw_g
theorem tc_X_entry : Cond.code y_X_entry b_X_entry 5 (some .int) ∈ lw_g := lwg (List.mem_of_getElem? (i := 482) (by decide +kernel)) (by decide +kernel)
theorem ts_X_entry : Cond.selects R_X y_X_entry y_X_entry ∈ lw_g := lwg (List.mem_of_getElem? (i := 481) (by decide +kernel)) (by decide +kernel)
abbrev b_X_parts : ByteArray := prog_1_method_12_code
abbrev y_X_parts : MethodName := ⟨R_X, "parts", "()I"⟩
abbrev w_X_parts : List Cond := Cond.code y_X_parts b_X_parts 1 (some .int) :: lw_g
theorem tc_X_parts : Cond.code y_X_parts b_X_parts 1 (some .int) ∈ lw_g := lwg (List.mem_of_getElem? (i := 202) (by decide +kernel)) (by decide +kernel)
theorem ts_X_parts : Cond.selects R_X y_X_parts y_X_parts ∈ lw_g := lwg (List.mem_of_getElem? (i := 201) (by decide +kernel)) (by decide +kernel)
abbrev b_X_share : ByteArray := prog_1_method_13_code
abbrev y_X_share : MethodName := ⟨R_X, "share", "(II)J"⟩
abbrev w_X_share : List Cond := Cond.code y_X_share b_X_share 3 (some .long) :: lw_g
theorem tc_X_share : Cond.code y_X_share b_X_share 3 (some .long) ∈ lw_g := lwg (List.mem_of_getElem? (i := 489) (by decide +kernel)) (by decide +kernel)
theorem ts_X_share : Cond.selects R_X y_X_share y_X_share ∈ lw_g := lwg (List.mem_of_getElem? (i := 488) (by decide +kernel)) (by decide +kernel)
abbrev b_X_least : ByteArray := prog_1_method_14_code
abbrev y_X_least : MethodName := ⟨R_X, "least", "()Z"⟩
abbrev w_X_least : List Cond := Cond.code y_X_least b_X_least 1 (some .boolean) :: lw_g
theorem tc_X_least : Cond.code y_X_least b_X_least 1 (some .boolean) ∈ lw_g := lwg (List.mem_of_getElem? (i := 502) (by decide +kernel)) (by decide +kernel)
theorem ts_X_least : Cond.selects R_X y_X_least y_X_least ∈ lw_g := lwg (List.mem_of_getElem? (i := 501) (by decide +kernel)) (by decide +kernel)
abbrev b_X_sample : ByteArray := prog_1_method_15_code
abbrev y_X_sample : MethodName := ⟨R_X, "sample", "()I"⟩
abbrev w_X_sample : List Cond := Cond.code y_X_sample b_X_sample 2 (some .int) :: lw_g
theorem tc_X_sample : Cond.code y_X_sample b_X_sample 2 (some .int) ∈ lw_g := lwg (List.mem_of_getElem? (i := 510) (by decide +kernel)) (by decide +kernel)
theorem ts_X_sample : Cond.selects R_X y_X_sample y_X_sample ∈ lw_g := lwg (List.mem_of_getElem? (i := 509) (by decide +kernel)) (by decide +kernel)
abbrev b_X_measured : ByteArray := prog_1_method_16_code
abbrev y_X_measured : MethodName := ⟨R_X, "measured", "(III)I"⟩
abbrev w_X_measured : List Cond := Cond.code y_X_measured b_X_measured 5 (some .int) :: lw_g
theorem tc_X_measured : Cond.code y_X_measured b_X_measured 5 (some .int) ∈ lw_g := lwg (List.mem_of_getElem? (i := 517) (by decide +kernel)) (by decide +kernel)
theorem ts_X_measured : Cond.selects R_X y_X_measured y_X_measured ∈ lw_g := lwg (List.mem_of_getElem? (i := 516) (by decide +kernel)) (by decide +kernel)
abbrev b_X_covariance : ByteArray := prog_1_method_17_code
abbrev y_X_covariance : MethodName := ⟨R_X, "covariance", "(III)V"⟩
abbrev w_X_covariance : List Cond := Cond.code y_X_covariance b_X_covariance 4 none :: lw_g
theorem tc_X_covariance : Cond.code y_X_covariance b_X_covariance 4 none ∈ lw_g := lwg (List.mem_of_getElem? (i := 524) (by decide +kernel)) (by decide +kernel)
theorem ts_X_covariance : Cond.selects R_X y_X_covariance y_X_covariance ∈ lw_g := lwg (List.mem_of_getElem? (i := 523) (by decide +kernel)) (by decide +kernel)
abbrev b_X_distance : ByteArray := prog_1_method_18_code
abbrev y_X_distance : MethodName := ⟨R_X, "distance", "(III)J"⟩
abbrev w_X_distance : List Cond := Cond.code y_X_distance b_X_distance 4 (some .long) :: lw_g
theorem tc_X_distance : Cond.code y_X_distance b_X_distance 4 (some .long) ∈ lw_g := lwg (List.mem_of_getElem? (i := 531) (by decide +kernel)) (by decide +kernel)
theorem ts_X_distance : Cond.selects R_X y_X_distance y_X_distance ∈ lw_g := lwg (List.mem_of_getElem? (i := 530) (by decide +kernel)) (by decide +kernel)
abbrev b_X_group : ByteArray := prog_1_method_19_code
abbrev y_X_group : MethodName := ⟨R_X, "group", "(II)I"⟩
abbrev w_X_group : List Cond := Cond.code y_X_group b_X_group 3 (some .int) :: lw_g
theorem tc_X_group : Cond.code y_X_group b_X_group 3 (some .int) ∈ lw_g := lwg (List.mem_of_getElem? (i := 547) (by decide +kernel)) (by decide +kernel)
theorem ts_X_group : Cond.selects R_X y_X_group y_X_group ∈ lw_g := lwg (List.mem_of_getElem? (i := 546) (by decide +kernel)) (by decide +kernel)
abbrev b_X_standard : ByteArray := prog_1_method_20_code
abbrev y_X_standard : MethodName := ⟨R_X, "standard", "(II)I"⟩
abbrev w_X_standard : List Cond := Cond.code y_X_standard b_X_standard 4 (some .int) :: lw_g
theorem tc_X_standard : Cond.code y_X_standard b_X_standard 4 (some .int) ∈ lw_g := lwg (List.mem_of_getElem? (i := 564) (by decide +kernel)) (by decide +kernel)
theorem ts_X_standard : Cond.selects R_X y_X_standard y_X_standard ∈ lw_g := lwg (List.mem_of_getElem? (i := 563) (by decide +kernel)) (by decide +kernel)
abbrev b_X_corrected : ByteArray := prog_1_method_21_code
abbrev y_X_corrected : MethodName := ⟨R_X, "corrected", "(II)J"⟩
abbrev w_X_corrected : List Cond := Cond.code y_X_corrected b_X_corrected 4 (some .long) :: lw_g
theorem tc_X_corrected : Cond.code y_X_corrected b_X_corrected 4 (some .long) ∈ lw_g := lwg (List.mem_of_getElem? (i := 581) (by decide +kernel)) (by decide +kernel)
theorem ts_X_corrected : Cond.selects R_X y_X_corrected y_X_corrected ∈ lw_g := lwg (List.mem_of_getElem? (i := 580) (by decide +kernel)) (by decide +kernel)
abbrev b_X_count : ByteArray := prog_1_method_22_code
abbrev y_X_count : MethodName := ⟨R_X, "count", "(I)I"⟩
abbrev w_X_count : List Cond := Cond.code y_X_count b_X_count 2 (some .int) :: lw_g
theorem tc_X_count : Cond.code y_X_count b_X_count 2 (some .int) ∈ lw_g := lwg (List.mem_of_getElem? (i := 601) (by decide +kernel)) (by decide +kernel)
theorem ts_X_count : Cond.selects R_X y_X_count y_X_count ∈ lw_g := lwg (List.mem_of_getElem? (i := 600) (by decide +kernel)) (by decide +kernel)
abbrev b_X_needIndex : ByteArray := prog_1_method_23_code
abbrev y_X_needIndex : MethodName := ⟨R_X, "needIndex", "(II)V"⟩
abbrev w_X_needIndex : List Cond := Cond.code y_X_needIndex b_X_needIndex 2 none :: lw_g
theorem tc_X_needIndex : Cond.code y_X_needIndex b_X_needIndex 2 none ∈ lw_g := lwg (List.mem_of_getElem? (i := 259) (by decide +kernel)) (by decide +kernel)
abbrev b_X_needValue : ByteArray := prog_1_method_24_code
abbrev y_X_needValue : MethodName := ⟨R_X, "needValue", "(III)V"⟩
abbrev w_X_needValue : List Cond := Cond.code y_X_needValue b_X_needValue 3 none :: lw_g
theorem tc_X_needValue : Cond.code y_X_needValue b_X_needValue 3 none ∈ lw_g := lwg (List.mem_of_getElem? (i := 330) (by decide +kernel)) (by decide +kernel)
abbrev b_X_needState : ByteArray := prog_1_method_25_code
abbrev y_X_needState : MethodName := ⟨R_X, "needState", "(Z)V"⟩
abbrev w_X_needState : List Cond := Cond.code y_X_needState b_X_needState 1 none :: lw_g
theorem tc_X_needState : Cond.code y_X_needState b_X_needState 1 none ∈ lw_g := lwg (List.mem_of_getElem? (i := 420) (by decide +kernel)) (by decide +kernel)
abbrev b_X_rootDown : ByteArray := prog_1_method_26_code
abbrev y_X_rootDown : MethodName := ⟨R_X, "rootDown", "(I)I"⟩
abbrev w_X_rootDown : List Cond := Cond.code y_X_rootDown b_X_rootDown 2 (some .int) :: lw_g
theorem tc_X_rootDown : Cond.code y_X_rootDown b_X_rootDown 2 (some .int) ∈ lw_g := lwg (List.mem_of_getElem? (i := 468) (by decide +kernel)) (by decide +kernel)
abbrev b_X_lessened : ByteArray := prog_1_method_27_code
abbrev y_X_lessened : MethodName := ⟨R_X, "lessened", "(JJI)J"⟩
abbrev w_X_lessened : List Cond := Cond.code y_X_lessened b_X_lessened 9 (some .long) :: lw_g
theorem tc_X_lessened : Cond.code y_X_lessened b_X_lessened 9 (some .long) ∈ lw_g := lwg (List.mem_of_getElem? (i := 492) (by decide +kernel)) (by decide +kernel)
abbrev b_X_greatestDivisor : ByteArray := prog_1_method_28_code
abbrev y_X_greatestDivisor : MethodName := ⟨R_X, "greatestDivisor", "(JJ)J"⟩
abbrev w_X_greatestDivisor : List Cond := Cond.code y_X_greatestDivisor b_X_greatestDivisor 11 (some .long) :: lw_g
theorem tc_X_greatestDivisor : Cond.code y_X_greatestDivisor b_X_greatestDivisor 11 (some .long) ∈ lw_g := lwg (List.mem_of_getElem? (i := 495) (by decide +kernel)) (by decide +kernel)
abbrev b_XLi_init : ByteArray := prog_2_method_1_code
abbrev y_XLi_init : MethodName := ⟨R_XLi, "<init>", "()V"⟩
abbrev w_XLi_init : List Cond := Cond.code y_XLi_init b_XLi_init 1 none :: lw_g
theorem tc_XLi_init : Cond.code y_XLi_init b_XLi_init 1 none ∈ lw_g := lwg (List.mem_of_getElem? (i := 77) (by decide +kernel)) (by decide +kernel)
abbrev b_XLi_add : ByteArray := prog_2_method_2_code
abbrev y_XLi_add : MethodName := ⟨R_XLi, "add", "(II)I"⟩
abbrev w_XLi_add : List Cond := Cond.code y_XLi_add b_XLi_add 3 (some .int) :: lw_g
theorem tc_XLi_add : Cond.code y_XLi_add b_XLi_add 3 (some .int) ∈ lw_g := lwg (List.mem_of_getElem? (i := 440) (by decide +kernel)) (by decide +kernel)
theorem ts_XLi_add : Cond.selects R_XLi y_XLi_add y_XLi_add ∈ lw_g := lwg (List.mem_of_getElem? (i := 439) (by decide +kernel)) (by decide +kernel)
abbrev b_XLi_nearest : ByteArray := prog_2_method_3_code
abbrev y_XLi_nearest : MethodName := ⟨R_XLi, "nearest", "(II)I"⟩
abbrev w_XLi_nearest : List Cond := Cond.code y_XLi_nearest b_XLi_nearest 8 (some .int) :: lw_g
theorem tc_XLi_nearest : Cond.code y_XLi_nearest b_XLi_nearest 8 (some .int) ∈ lw_g := lwg (List.mem_of_getElem? (i := 451) (by decide +kernel)) (by decide +kernel)
theorem ts_XLi_nearest : Cond.selects R_XLi y_XLi_nearest y_XLi_nearest ∈ lw_g := lwg (List.mem_of_getElem? (i := 450) (by decide +kernel)) (by decide +kernel)
abbrev b_XLi_isAtOrNextTo : ByteArray := prog_2_method_4_code
abbrev y_XLi_isAtOrNextTo : MethodName := ⟨R_XLi, "isAtOrNextTo", "(II)Z"⟩
abbrev w_XLi_isAtOrNextTo : List Cond := Cond.code y_XLi_isAtOrNextTo b_XLi_isAtOrNextTo 4 (some .boolean) :: lw_g
theorem tc_XLi_isAtOrNextTo : Cond.code y_XLi_isAtOrNextTo b_XLi_isAtOrNextTo 4 (some .boolean) ∈ lw_g := lwg (List.mem_of_getElem? (i := 465) (by decide +kernel)) (by decide +kernel)
theorem ts_XLi_isAtOrNextTo : Cond.selects R_XLi y_XLi_isAtOrNextTo y_XLi_isAtOrNextTo ∈ lw_g := lwg (List.mem_of_getElem? (i := 464) (by decide +kernel)) (by decide +kernel)
abbrev b_XMi_init : ByteArray := prog_3_method_1_code
abbrev y_XMi_init : MethodName := ⟨R_XMi, "<init>", "(I)V"⟩
abbrev w_XMi_init : List Cond := Cond.code y_XMi_init b_XMi_init 2 none :: lw_g
theorem tc_XMi_init : Cond.code y_XMi_init b_XMi_init 2 none ∈ lw_g := lwg (List.mem_of_getElem? (i := 92) (by decide +kernel)) (by decide +kernel)
abbrev b_XMi_weigh : ByteArray := prog_3_method_2_code
abbrev y_XMi_weigh : MethodName := ⟨R_XMi, "weigh", "(LSpectrumParts$Spectrum;)V"⟩
abbrev w_XMi_weigh : List Cond := Cond.code y_XMi_weigh b_XMi_weigh 5 none :: lw_g
theorem tc_XMi_weigh : Cond.code y_XMi_weigh b_XMi_weigh 5 none ∈ lw_g := lwg (List.mem_of_getElem? (i := 206) (by decide +kernel)) (by decide +kernel)
theorem ts_XMi_weigh : Cond.selects R_XMi y_XMi_weigh y_XMi_weigh ∈ lw_g := lwg (List.mem_of_getElem? (i := 205) (by decide +kernel)) (by decide +kernel)
abbrev b_XMi_solve : ByteArray := prog_3_method_3_code
abbrev y_XMi_solve : MethodName := ⟨R_XMi, "solve", "()I"⟩
abbrev w_XMi_solve : List Cond := Cond.code y_XMi_solve b_XMi_solve 3 (some .int) :: lw_g
theorem tc_XMi_solve : Cond.code y_XMi_solve b_XMi_solve 3 (some .int) ∈ lw_g := lwg (List.mem_of_getElem? (i := 215) (by decide +kernel)) (by decide +kernel)
theorem ts_XMi_solve : Cond.selects R_XMi y_XMi_solve y_XMi_solve ∈ lw_g := lwg (List.mem_of_getElem? (i := 214) (by decide +kernel)) (by decide +kernel)
abbrev b_XMi_solveAlone : ByteArray := prog_3_method_4_code
abbrev y_XMi_solveAlone : MethodName := ⟨R_XMi, "solveAlone", "(I)Z"⟩
abbrev w_XMi_solveAlone : List Cond := Cond.code y_XMi_solveAlone b_XMi_solveAlone 4 (some .boolean) :: lw_g
theorem tc_XMi_solveAlone : Cond.code y_XMi_solveAlone b_XMi_solveAlone 4 (some .boolean) ∈ lw_g := lwg (List.mem_of_getElem? (i := 221) (by decide +kernel)) (by decide +kernel)
theorem ts_XMi_solveAlone : Cond.selects R_XMi y_XMi_solveAlone y_XMi_solveAlone ∈ lw_g := lwp (by decide +kernel) (by decide +kernel)
abbrev b_XMi_layOut : ByteArray := prog_3_method_5_code
abbrev y_XMi_layOut : MethodName := ⟨R_XMi, "layOut", "(I)V"⟩
abbrev w_XMi_layOut : List Cond := Cond.code y_XMi_layOut b_XMi_layOut 4 none :: lw_g
theorem tc_XMi_layOut : Cond.code y_XMi_layOut b_XMi_layOut 4 none ∈ lw_g := lwg (List.mem_of_getElem? (i := 225) (by decide +kernel)) (by decide +kernel)
theorem ts_XMi_layOut : Cond.selects R_XMi y_XMi_layOut y_XMi_layOut ∈ lw_g := lwp (by decide +kernel) (by decide +kernel)
abbrev b_XMi_isIn : ByteArray := prog_3_method_6_code
abbrev y_XMi_isIn : MethodName := ⟨R_XMi, "isIn", "(II)Z"⟩
abbrev w_XMi_isIn : List Cond := Cond.code y_XMi_isIn b_XMi_isIn 2 (some .boolean) :: lw_g
theorem tc_XMi_isIn : Cond.code y_XMi_isIn b_XMi_isIn 2 (some .boolean) ∈ lw_g := lwg (List.mem_of_getElem? (i := 228) (by decide +kernel)) (by decide +kernel)
abbrev b_XMi_determinant : ByteArray := prog_3_method_7_code
abbrev y_XMi_determinant : MethodName := ⟨R_XMi, "determinant", "(I)J"⟩
abbrev w_XMi_determinant : List Cond := Cond.code y_XMi_determinant b_XMi_determinant 2 (some .long) :: lw_g
theorem tc_XMi_determinant : Cond.code y_XMi_determinant b_XMi_determinant 2 (some .long) ∈ lw_g := lwg (List.mem_of_getElem? (i := 232) (by decide +kernel)) (by decide +kernel)
theorem ts_XMi_determinant : Cond.selects R_XMi y_XMi_determinant y_XMi_determinant ∈ lw_g := lwp (by decide +kernel) (by decide +kernel)
abbrev b_XMi_minor : ByteArray := prog_3_method_8_code
abbrev y_XMi_minor : MethodName := ⟨R_XMi, "minor", "(III)J"⟩
abbrev w_XMi_minor : List Cond := Cond.code y_XMi_minor b_XMi_minor 4 (some .long) :: lw_g
theorem tc_XMi_minor : Cond.code y_XMi_minor b_XMi_minor 4 (some .long) ∈ lw_g := lwg (List.mem_of_getElem? (i := 240) (by decide +kernel)) (by decide +kernel)
theorem ts_XMi_minor : Cond.selects R_XMi y_XMi_minor y_XMi_minor ∈ lw_g := lwp (by decide +kernel) (by decide +kernel)
abbrev b_XMi_cell : ByteArray := prog_3_method_9_code
abbrev y_XMi_cell : MethodName := ⟨R_XMi, "cell", "(III)J"⟩
abbrev w_XMi_cell : List Cond := Cond.code y_XMi_cell b_XMi_cell 4 (some .long) :: lw_g
theorem tc_XMi_cell : Cond.code y_XMi_cell b_XMi_cell 4 (some .long) ∈ lw_g := lwg (List.mem_of_getElem? (i := 236) (by decide +kernel)) (by decide +kernel)
theorem ts_XMi_cell : Cond.selects R_XMi y_XMi_cell y_XMi_cell ∈ lw_g := lwp (by decide +kernel) (by decide +kernel)
abbrev b_XMi_isLeast : ByteArray := prog_3_method_10_code
abbrev y_XMi_isLeast : MethodName := ⟨R_XMi, "isLeast", "()Z"⟩
abbrev w_XMi_isLeast : List Cond := Cond.code y_XMi_isLeast b_XMi_isLeast 5 (some .boolean) :: lw_g
theorem tc_XMi_isLeast : Cond.code y_XMi_isLeast b_XMi_isLeast 5 (some .boolean) ∈ lw_g := lwg (List.mem_of_getElem? (i := 244) (by decide +kernel)) (by decide +kernel)
theorem ts_XMi_isLeast : Cond.selects R_XMi y_XMi_isLeast y_XMi_isLeast ∈ lw_g := lwg (List.mem_of_getElem? (i := 243) (by decide +kernel)) (by decide +kernel)
abbrev b_XPe_init : ByteArray := prog_4_method_1_code
abbrev y_XPe_init : MethodName := ⟨R_XPe, "<init>", "(I)V"⟩
abbrev w_XPe_init : List Cond := Cond.code y_XPe_init b_XPe_init 2 none :: lw_g
theorem tc_XPe_init : Cond.code y_XPe_init b_XPe_init 2 none ∈ lw_g := lwg (List.mem_of_getElem? (i := 60) (by decide +kernel)) (by decide +kernel)
abbrev b_XPe_lookFor : ByteArray := prog_4_method_2_code
abbrev y_XPe_lookFor : MethodName := ⟨R_XPe, "lookFor", "(LSpectrumParts$Spectrum;I)V"⟩
abbrev w_XPe_lookFor : List Cond := Cond.code y_XPe_lookFor b_XPe_lookFor 4 none :: lw_g
theorem tc_XPe_lookFor : Cond.code y_XPe_lookFor b_XPe_lookFor 4 none ∈ lw_g := lwg (List.mem_of_getElem? (i := 388) (by decide +kernel)) (by decide +kernel)
theorem ts_XPe_lookFor : Cond.selects R_XPe y_XPe_lookFor y_XPe_lookFor ∈ lw_g := lwg (List.mem_of_getElem? (i := 387) (by decide +kernel)) (by decide +kernel)
abbrev b_XPe_isTop : ByteArray := prog_4_method_3_code
abbrev y_XPe_isTop : MethodName := ⟨R_XPe, "isTop", "(LSpectrumParts$Spectrum;I)Z"⟩
abbrev w_XPe_isTop : List Cond := Cond.code y_XPe_isTop b_XPe_isTop 3 (some .boolean) :: lw_g
theorem tc_XPe_isTop : Cond.code y_XPe_isTop b_XPe_isTop 3 (some .boolean) ∈ lw_g := lwg (List.mem_of_getElem? (i := 392) (by decide +kernel)) (by decide +kernel)
abbrev b_XPe_keep : ByteArray := prog_4_method_4_code
abbrev y_XPe_keep : MethodName := ⟨R_XPe, "keep", "(LSpectrumParts$Spectrum;I)V"⟩
abbrev w_XPe_keep : List Cond := Cond.code y_XPe_keep b_XPe_keep 7 none :: lw_g
theorem tc_XPe_keep : Cond.code y_XPe_keep b_XPe_keep 7 none ∈ lw_g := lwg (List.mem_of_getElem? (i := 396) (by decide +kernel)) (by decide +kernel)
theorem ts_XPe_keep : Cond.selects R_XPe y_XPe_keep y_XPe_keep ∈ lw_g := lwp (by decide +kernel) (by decide +kernel)
abbrev b_XPe_firstOfSpan : ByteArray := prog_4_method_5_code
abbrev y_XPe_firstOfSpan : MethodName := ⟨R_XPe, "firstOfSpan", "(LSpectrumParts$Spectrum;I)I"⟩
abbrev w_XPe_firstOfSpan : List Cond := Cond.code y_XPe_firstOfSpan b_XPe_firstOfSpan 3 (some .int) :: lw_g
theorem tc_XPe_firstOfSpan : Cond.code y_XPe_firstOfSpan b_XPe_firstOfSpan 3 (some .int) ∈ lw_g := lwg (List.mem_of_getElem? (i := 399) (by decide +kernel)) (by decide +kernel)
abbrev b_XPe_lastOfSpan : ByteArray := prog_4_method_6_code
abbrev y_XPe_lastOfSpan : MethodName := ⟨R_XPe, "lastOfSpan", "(LSpectrumParts$Spectrum;I)I"⟩
abbrev w_XPe_lastOfSpan : List Cond := Cond.code y_XPe_lastOfSpan b_XPe_lastOfSpan 3 (some .int) :: lw_g
theorem tc_XPe_lastOfSpan : Cond.code y_XPe_lastOfSpan b_XPe_lastOfSpan 3 (some .int) ∈ lw_g := lwg (List.mem_of_getElem? (i := 402) (by decide +kernel)) (by decide +kernel)
abbrev b_XSa_init : ByteArray := prog_5_method_1_code
abbrev y_XSa_init : MethodName := ⟨R_XSa, "<init>", "()V"⟩
abbrev w_XSa_init : List Cond := Cond.code y_XSa_init b_XSa_init 1 none :: lw_g
theorem tc_XSa_init : Cond.code y_XSa_init b_XSa_init 1 none ∈ lw_g := lwg (List.mem_of_getElem? (i := 135) (by decide +kernel)) (by decide +kernel)
abbrev b_XSa_apartAbove : ByteArray := prog_5_method_2_code
abbrev y_XSa_apartAbove : MethodName := ⟨R_XSa, "apartAbove", "(II)J"⟩
abbrev w_XSa_apartAbove : List Cond := Cond.code y_XSa_apartAbove b_XSa_apartAbove 7 (some .long) :: lw_g
theorem tc_XSa_apartAbove : Cond.code y_XSa_apartAbove b_XSa_apartAbove 7 (some .long) ∈ lw_g := lwg (List.mem_of_getElem? (i := 535) (by decide +kernel)) (by decide +kernel)
theorem ts_XSa_apartAbove : Cond.selects R_XSa y_XSa_apartAbove y_XSa_apartAbove ∈ lw_g := lwg (List.mem_of_getElem? (i := 534) (by decide +kernel)) (by decide +kernel)
abbrev b_XSa_apartBelow : ByteArray := prog_5_method_3_code
abbrev y_XSa_apartBelow : MethodName := ⟨R_XSa, "apartBelow", "()J"⟩
abbrev w_XSa_apartBelow : List Cond := Cond.code y_XSa_apartBelow b_XSa_apartBelow 1 (some .long) :: lw_g
theorem tc_XSa_apartBelow : Cond.code y_XSa_apartBelow b_XSa_apartBelow 1 (some .long) ∈ lw_g := lwg (List.mem_of_getElem? (i := 540) (by decide +kernel)) (by decide +kernel)
theorem ts_XSa_apartBelow : Cond.selects R_XSa y_XSa_apartBelow y_XSa_apartBelow ∈ lw_g := lwg (List.mem_of_getElem? (i := 539) (by decide +kernel)) (by decide +kernel)
abbrev b_XSa_lowestJoined : ByteArray := prog_5_method_4_code
abbrev y_XSa_lowestJoined : MethodName := ⟨R_XSa, "lowestJoined", "(II)I"⟩
abbrev w_XSa_lowestJoined : List Cond := Cond.code y_XSa_lowestJoined b_XSa_lowestJoined 4 (some .int) :: lw_g
theorem tc_XSa_lowestJoined : Cond.code y_XSa_lowestJoined b_XSa_lowestJoined 4 (some .int) ∈ lw_g := lwg (List.mem_of_getElem? (i := 551) (by decide +kernel)) (by decide +kernel)
theorem ts_XSa_lowestJoined : Cond.selects R_XSa y_XSa_lowestJoined y_XSa_lowestJoined ∈ lw_g := lwg (List.mem_of_getElem? (i := 550) (by decide +kernel)) (by decide +kernel)
abbrev b_XSa_joinOnce : ByteArray := prog_5_method_5_code
abbrev y_XSa_joinOnce : MethodName := ⟨R_XSa, "joinOnce", "(I)V"⟩
abbrev w_XSa_joinOnce : List Cond := Cond.code y_XSa_joinOnce b_XSa_joinOnce 6 none :: lw_g
theorem tc_XSa_joinOnce : Cond.code y_XSa_joinOnce b_XSa_joinOnce 6 none ∈ lw_g := lwg (List.mem_of_getElem? (i := 555) (by decide +kernel)) (by decide +kernel)
theorem ts_XSa_joinOnce : Cond.selects R_XSa y_XSa_joinOnce y_XSa_joinOnce ∈ lw_g := lwp (by decide +kernel) (by decide +kernel)
abbrev b_XSp_init : ByteArray := prog_6_method_1_code
abbrev y_XSp_init : MethodName := ⟨R_XSp, "<init>", "(I)V"⟩
abbrev w_XSp_init : List Cond := Cond.code y_XSp_init b_XSp_init 2 none :: lw_g
theorem tc_XSp_init : Cond.code y_XSp_init b_XSp_init 2 none ∈ lw_g := lwg (List.mem_of_getElem? (i := 35) (by decide +kernel)) (by decide +kernel)
abbrev b_XSp_netAt : ByteArray := prog_6_method_2_code
abbrev y_XSp_netAt : MethodName := ⟨R_XSp, "netAt", "(I)I"⟩
abbrev w_XSp_netAt : List Cond := Cond.code y_XSp_netAt b_XSp_netAt 2 (some .int) :: lw_g
theorem tc_XSp_netAt : Cond.code y_XSp_netAt b_XSp_netAt 2 (some .int) ∈ lw_g := lwg (List.mem_of_getElem? (i := 210) (by decide +kernel)) (by decide +kernel)
theorem ts_XSp_netAt : Cond.selects R_XSp y_XSp_netAt y_XSp_netAt ∈ lw_g := lwg (List.mem_of_getElem? (i := 209) (by decide +kernel)) (by decide +kernel)
abbrev b_XSp_groundSum : ByteArray := prog_6_method_3_code
abbrev y_XSp_groundSum : MethodName := ⟨R_XSp, "groundSum", "()I"⟩
abbrev w_XSp_groundSum : List Cond := Cond.code y_XSp_groundSum b_XSp_groundSum 3 (some .int) :: lw_g
theorem tc_XSp_groundSum : Cond.code y_XSp_groundSum b_XSp_groundSum 3 (some .int) ∈ lw_g := lwg (List.mem_of_getElem? (i := 369) (by decide +kernel)) (by decide +kernel)
theorem ts_XSp_groundSum : Cond.selects R_XSp y_XSp_groundSum y_XSp_groundSum ∈ lw_g := lwg (List.mem_of_getElem? (i := 368) (by decide +kernel)) (by decide +kernel)
abbrev b_XSp_lowerFor : ByteArray := prog_6_method_4_code
abbrev y_XSp_lowerFor : MethodName := ⟨R_XSp, "lowerFor", "(I)V"⟩
abbrev w_XSp_lowerFor : List Cond := Cond.code y_XSp_lowerFor b_XSp_lowerFor 3 none :: lw_g
theorem tc_XSp_lowerFor : Cond.code y_XSp_lowerFor b_XSp_lowerFor 3 none ∈ lw_g := lwg (List.mem_of_getElem? (i := 357) (by decide +kernel)) (by decide +kernel)
theorem ts_XSp_lowerFor : Cond.selects R_XSp y_XSp_lowerFor y_XSp_lowerFor ∈ lw_g := lwg (List.mem_of_getElem? (i := 356) (by decide +kernel)) (by decide +kernel)
abbrev b_XSp_lowerOnce : ByteArray := prog_6_method_5_code
abbrev y_XSp_lowerOnce : MethodName := ⟨R_XSp, "lowerOnce", "(I)V"⟩
abbrev w_XSp_lowerOnce : List Cond := Cond.code y_XSp_lowerOnce b_XSp_lowerOnce 4 none :: lw_g
theorem tc_XSp_lowerOnce : Cond.code y_XSp_lowerOnce b_XSp_lowerOnce 4 none ∈ lw_g := lwg (List.mem_of_getElem? (i := 364) (by decide +kernel)) (by decide +kernel)
theorem ts_XSp_lowerOnce : Cond.selects R_XSp y_XSp_lowerOnce y_XSp_lowerOnce ∈ lw_g := lwp (by decide +kernel) (by decide +kernel)
abbrev b_XSt_init : ByteArray := prog_7_method_1_code
abbrev y_XSt_init : MethodName := ⟨R_XSt, "<init>", "()V"⟩
abbrev w_XSt_init : List Cond := Cond.code y_XSt_init b_XSt_init 1 none :: lw_g
theorem tc_XSt_init : Cond.code y_XSt_init b_XSt_init 1 none ∈ lw_g := lwg (List.mem_of_getElem? (i := 167) (by decide +kernel)) (by decide +kernel)
abbrev b_XSt_placeOf : ByteArray := prog_7_method_2_code
abbrev y_XSt_placeOf : MethodName := ⟨R_XSt, "placeOf", "(I)I"⟩
abbrev w_XSt_placeOf : List Cond := Cond.code y_XSt_placeOf b_XSt_placeOf 3 (some .int) :: lw_g
theorem tc_XSt_placeOf : Cond.code y_XSt_placeOf b_XSt_placeOf 3 (some .int) ∈ lw_g := lwg (List.mem_of_getElem? (i := 569) (by decide +kernel)) (by decide +kernel)
theorem ts_XSt_placeOf : Cond.selects R_XSt y_XSt_placeOf y_XSt_placeOf ∈ lw_g := lwg (List.mem_of_getElem? (i := 568) (by decide +kernel)) (by decide +kernel)
abbrev b_XSt_put : ByteArray := prog_7_method_3_code
abbrev y_XSt_put : MethodName := ⟨R_XSt, "put", "(III)V"⟩
abbrev w_XSt_put : List Cond := Cond.code y_XSt_put b_XSt_put 4 none :: lw_g
theorem tc_XSt_put : Cond.code y_XSt_put b_XSt_put 4 none ∈ lw_g := lwg (List.mem_of_getElem? (i := 573) (by decide +kernel)) (by decide +kernel)
theorem ts_XSt_put : Cond.selects R_XSt y_XSt_put y_XSt_put ∈ lw_g := lwg (List.mem_of_getElem? (i := 572) (by decide +kernel)) (by decide +kernel)
abbrev b_XSt_factorOn : ByteArray := prog_7_method_4_code
abbrev y_XSt_factorOn : MethodName := ⟨R_XSt, "factorOn", "(I)I"⟩
abbrev w_XSt_factorOn : List Cond := Cond.code y_XSt_factorOn b_XSt_factorOn 5 (some .int) :: lw_g
theorem tc_XSt_factorOn : Cond.code y_XSt_factorOn b_XSt_factorOn 5 (some .int) ∈ lw_g := lwg (List.mem_of_getElem? (i := 586) (by decide +kernel)) (by decide +kernel)
theorem ts_XSt_factorOn : Cond.selects R_XSt y_XSt_factorOn y_XSt_factorOn ∈ lw_g := lwg (List.mem_of_getElem? (i := 585) (by decide +kernel)) (by decide +kernel)
abbrev b_XSt_onLine : ByteArray := prog_7_method_5_code
abbrev y_XSt_onLine : MethodName := ⟨R_XSt, "onLine", "(III)I"⟩
abbrev w_XSt_onLine : List Cond := Cond.code y_XSt_onLine b_XSt_onLine 6 (some .int) :: lw_g
theorem tc_XSt_onLine : Cond.code y_XSt_onLine b_XSt_onLine 6 (some .int) ∈ lw_g := lwg (List.mem_of_getElem? (i := 590) (by decide +kernel)) (by decide +kernel)
theorem ts_XSt_onLine : Cond.selects R_XSt y_XSt_onLine y_XSt_onLine ∈ lw_g := lwp (by decide +kernel) (by decide +kernel)
abbrev b_M_init : ByteArray := prog_9_method_1_code
abbrev y_M_init : MethodName := ⟨R_M, "<init>", "(I)V"⟩
abbrev w_M_init : List Cond := Cond.code y_M_init b_M_init 2 none :: lw_g
theorem tc_M_init : Cond.code y_M_init b_M_init 2 none ∈ lw_g := lwg (List.mem_of_getElem? (i := 606) (by decide +kernel)) (by decide +kernel)
abbrev b_M_thrown : ByteArray := prog_9_method_2_code
abbrev y_M_thrown : MethodName := ⟨R_M, "thrown", "()I"⟩
abbrev w_M_thrown : List Cond := Cond.code y_M_thrown b_M_thrown 1 (some .int) :: lw_g
theorem tc_M_thrown : Cond.code y_M_thrown b_M_thrown 1 (some .int) ∈ lw_g := lwg (List.mem_of_getElem? (i := 687) (by decide +kernel)) (by decide +kernel)
theorem ts_M_thrown : Cond.selects R_M y_M_thrown y_M_thrown ∈ lw_g := lwg (List.mem_of_getElem? (i := 686) (by decide +kernel)) (by decide +kernel)
abbrev b_M_goes : ByteArray := prog_9_method_3_code
abbrev y_M_goes : MethodName := ⟨R_M, "goes", "(ZZZ)Z"⟩
abbrev w_M_goes : List Cond := Cond.code y_M_goes b_M_goes 4 (some .boolean) :: lw_g
theorem tc_M_goes : Cond.code y_M_goes b_M_goes 4 (some .boolean) ∈ lw_g := lwg (List.mem_of_getElem? (i := 702) (by decide +kernel)) (by decide +kernel)
theorem ts_M_goes : Cond.selects R_M y_M_goes y_M_goes ∈ lw_g := lwp (by decide +kernel) (by decide +kernel)
abbrev b_M_within : ByteArray := prog_9_method_4_code
abbrev y_M_within : MethodName := ⟨R_M, "within", "(III)Z"⟩
abbrev w_M_within : List Cond := Cond.code y_M_within b_M_within 3 (some .boolean) :: lw_g
theorem tc_M_within : Cond.code y_M_within b_M_within 3 (some .boolean) ∈ lw_g := lwg (List.mem_of_getElem? (i := 698) (by decide +kernel)) (by decide +kernel)
abbrev b_M_isChannel : ByteArray := prog_9_method_5_code
abbrev y_M_isChannel : MethodName := ⟨R_M, "isChannel", "(I)Z"⟩
abbrev w_M_isChannel : List Cond := Cond.code y_M_isChannel b_M_isChannel 2 (some .boolean) :: lw_g
theorem tc_M_isChannel : Cond.code y_M_isChannel b_M_isChannel 2 (some .boolean) ∈ lw_g := lwg (List.mem_of_getElem? (i := 695) (by decide +kernel)) (by decide +kernel)
theorem ts_M_isChannel : Cond.selects R_M y_M_isChannel y_M_isChannel ∈ lw_g := lwp (by decide +kernel) (by decide +kernel)
abbrev b_M_told : ByteArray := prog_9_method_6_code
abbrev y_M_told : MethodName := ⟨R_M, "told", "(II)I"⟩
abbrev w_M_told : List Cond := Cond.code y_M_told b_M_told 4 (some .int) :: lw_g
theorem tc_M_told : Cond.code y_M_told b_M_told 4 (some .int) ∈ lw_g := lwg (List.mem_of_getElem? (i := 691) (by decide +kernel)) (by decide +kernel)
theorem ts_M_told : Cond.selects R_M y_M_told y_M_told ∈ lw_g := lwg (List.mem_of_getElem? (i := 690) (by decide +kernel)) (by decide +kernel)
abbrev b_M_background : ByteArray := prog_9_method_7_code
abbrev y_M_background : MethodName := ⟨R_M, "background", "(I)I"⟩
abbrev w_M_background : List Cond := Cond.code y_M_background b_M_background 5 (some .int) :: lw_g
theorem tc_M_background : Cond.code y_M_background b_M_background 5 (some .int) ∈ lw_g := lwg (List.mem_of_getElem? (i := 706) (by decide +kernel)) (by decide +kernel)
theorem ts_M_background : Cond.selects R_M y_M_background y_M_background ∈ lw_g := lwg (List.mem_of_getElem? (i := 705) (by decide +kernel)) (by decide +kernel)
abbrev b_M_lowered : ByteArray := prog_9_method_8_code
abbrev y_M_lowered : MethodName := ⟨R_M, "lowered", "(I)I"⟩
abbrev w_M_lowered : List Cond := Cond.code y_M_lowered b_M_lowered 2 (some .int) :: lw_g
theorem tc_M_lowered : Cond.code y_M_lowered b_M_lowered 2 (some .int) ∈ lw_g := lwg (List.mem_of_getElem? (i := 710) (by decide +kernel)) (by decide +kernel)
theorem ts_M_lowered : Cond.selects R_M y_M_lowered y_M_lowered ∈ lw_g := lwg (List.mem_of_getElem? (i := 709) (by decide +kernel)) (by decide +kernel)
abbrev b_M_net : ByteArray := prog_9_method_9_code
abbrev y_M_net : MethodName := ⟨R_M, "net", "(I)I"⟩
abbrev w_M_net : List Cond := Cond.code y_M_net b_M_net 2 (some .int) :: lw_g
theorem tc_M_net : Cond.code y_M_net b_M_net 2 (some .int) ∈ lw_g := lwg (List.mem_of_getElem? (i := 722) (by decide +kernel)) (by decide +kernel)
theorem ts_M_net : Cond.selects R_M y_M_net y_M_net ∈ lw_g := lwp (by decide +kernel) (by decide +kernel)
abbrev b_M_isPeak : ByteArray := prog_9_method_10_code
abbrev y_M_isPeak : MethodName := ⟨R_M, "isPeak", "(II)Z"⟩
abbrev w_M_isPeak : List Cond := Cond.code y_M_isPeak b_M_isPeak 5 (some .boolean) :: lw_g
theorem tc_M_isPeak : Cond.code y_M_isPeak b_M_isPeak 5 (some .boolean) ∈ lw_g := lwg (List.mem_of_getElem? (i := 718) (by decide +kernel)) (by decide +kernel)
theorem ts_M_isPeak : Cond.selects R_M y_M_isPeak y_M_isPeak ∈ lw_g := lwp (by decide +kernel) (by decide +kernel)
abbrev b_M_add : ByteArray := prog_9_method_11_code
abbrev y_M_add : MethodName := ⟨R_M, "add", "(I)V"⟩
abbrev w_M_add : List Cond := Cond.code y_M_add b_M_add 6 none :: lw_g
theorem tc_M_add : Cond.code y_M_add b_M_add 6 none ∈ lw_g := lwg (List.mem_of_getElem? (i := 726) (by decide +kernel)) (by decide +kernel)
theorem ts_M_add : Cond.selects R_M y_M_add y_M_add ∈ lw_g := lwp (by decide +kernel) (by decide +kernel)
abbrev b_M_peaks : ByteArray := prog_9_method_12_code
abbrev y_M_peaks : MethodName := ⟨R_M, "peaks", "(I)I"⟩
abbrev w_M_peaks : List Cond := Cond.code y_M_peaks b_M_peaks 3 (some .int) :: lw_g
theorem tc_M_peaks : Cond.code y_M_peaks b_M_peaks 3 (some .int) ∈ lw_g := lwg (List.mem_of_getElem? (i := 714) (by decide +kernel)) (by decide +kernel)
theorem ts_M_peaks : Cond.selects R_M y_M_peaks y_M_peaks ∈ lw_g := lwg (List.mem_of_getElem? (i := 713) (by decide +kernel)) (by decide +kernel)
abbrev b_M_isFound : ByteArray := prog_9_method_13_code
abbrev y_M_isFound : MethodName := ⟨R_M, "isFound", "(I)Z"⟩
abbrev w_M_isFound : List Cond := Cond.code y_M_isFound b_M_isFound 2 (some .boolean) :: lw_g
theorem tc_M_isFound : Cond.code y_M_isFound b_M_isFound 2 (some .boolean) ∈ lw_g := lwg (List.mem_of_getElem? (i := 734) (by decide +kernel)) (by decide +kernel)
theorem ts_M_isFound : Cond.selects R_M y_M_isFound y_M_isFound ∈ lw_g := lwp (by decide +kernel) (by decide +kernel)
abbrev b_M_peak : ByteArray := prog_9_method_14_code
abbrev y_M_peak : MethodName := ⟨R_M, "peak", "(II)I"⟩
abbrev w_M_peak : List Cond := Cond.code y_M_peak b_M_peak 3 (some .int) :: lw_g
theorem tc_M_peak : Cond.code y_M_peak b_M_peak 3 (some .int) ∈ lw_g := lwg (List.mem_of_getElem? (i := 730) (by decide +kernel)) (by decide +kernel)
theorem ts_M_peak : Cond.selects R_M y_M_peak y_M_peak ∈ lw_g := lwg (List.mem_of_getElem? (i := 729) (by decide +kernel)) (by decide +kernel)
abbrev b_M_line : ByteArray := prog_9_method_15_code
abbrev y_M_line : MethodName := ⟨R_M, "line", "(II)I"⟩
abbrev w_M_line : List Cond := Cond.code y_M_line b_M_line 4 (some .int) :: lw_g
theorem tc_M_line : Cond.code y_M_line b_M_line 4 (some .int) ∈ lw_g := lwg (List.mem_of_getElem? (i := 738) (by decide +kernel)) (by decide +kernel)
theorem ts_M_line : Cond.selects R_M y_M_line y_M_line ∈ lw_g := lwg (List.mem_of_getElem? (i := 737) (by decide +kernel)) (by decide +kernel)
abbrev b_M_element : ByteArray := prog_9_method_16_code
abbrev y_M_element : MethodName := ⟨R_M, "element", "(II)I"⟩
abbrev w_M_element : List Cond := Cond.code y_M_element b_M_element 8 (some .int) :: lw_g
theorem tc_M_element : Cond.code y_M_element b_M_element 8 (some .int) ∈ lw_g := lwg (List.mem_of_getElem? (i := 742) (by decide +kernel)) (by decide +kernel)
theorem ts_M_element : Cond.selects R_M y_M_element y_M_element ∈ lw_g := lwg (List.mem_of_getElem? (i := 741) (by decide +kernel)) (by decide +kernel)
abbrev b_M_detect : ByteArray := prog_9_method_17_code
abbrev y_M_detect : MethodName := ⟨R_M, "detect", "(I)I"⟩
abbrev w_M_detect : List Cond := Cond.code y_M_detect b_M_detect 6 (some .int) :: lw_g
theorem tc_M_detect : Cond.code y_M_detect b_M_detect 6 (some .int) ∈ lw_g := lwg (List.mem_of_getElem? (i := 746) (by decide +kernel)) (by decide +kernel)
theorem ts_M_detect : Cond.selects R_M y_M_detect y_M_detect ∈ lw_g := lwg (List.mem_of_getElem? (i := 745) (by decide +kernel)) (by decide +kernel)
abbrev b_M_library : ByteArray := prog_9_method_18_code
abbrev y_M_library : MethodName := ⟨R_M, "library", "()I"⟩
abbrev w_M_library : List Cond := Cond.code y_M_library b_M_library 1 (some .int) :: lw_g
theorem tc_M_library : Cond.code y_M_library b_M_library 1 (some .int) ∈ lw_g := lwg (List.mem_of_getElem? (i := 750) (by decide +kernel)) (by decide +kernel)
theorem ts_M_library : Cond.selects R_M y_M_library y_M_library ∈ lw_g := lwg (List.mem_of_getElem? (i := 749) (by decide +kernel)) (by decide +kernel)
abbrev b_M_entry : ByteArray := prog_9_method_19_code
abbrev y_M_entry : MethodName := ⟨R_M, "entry", "(III)I"⟩
abbrev w_M_entry : List Cond := Cond.code y_M_entry b_M_entry 5 (some .int) :: lw_g
theorem tc_M_entry : Cond.code y_M_entry b_M_entry 5 (some .int) ∈ lw_g := lwg (List.mem_of_getElem? (i := 754) (by decide +kernel)) (by decide +kernel)
theorem ts_M_entry : Cond.selects R_M y_M_entry y_M_entry ∈ lw_g := lwg (List.mem_of_getElem? (i := 753) (by decide +kernel)) (by decide +kernel)
abbrev b_M_addUp : ByteArray := prog_9_method_20_code
abbrev y_M_addUp : MethodName := ⟨R_M, "addUp", "()V"⟩
abbrev w_M_addUp : List Cond := Cond.code y_M_addUp b_M_addUp 3 none :: lw_g
theorem tc_M_addUp : Cond.code y_M_addUp b_M_addUp 3 none ∈ lw_g := lwg (List.mem_of_getElem? (i := 762) (by decide +kernel)) (by decide +kernel)
theorem ts_M_addUp : Cond.selects R_M y_M_addUp y_M_addUp ∈ lw_g := lwp (by decide +kernel) (by decide +kernel)
abbrev b_M_isIn : ByteArray := prog_9_method_21_code
abbrev y_M_isIn : MethodName := ⟨R_M, "isIn", "(II)Z"⟩
abbrev w_M_isIn : List Cond := Cond.code y_M_isIn b_M_isIn 2 (some .boolean) :: lw_g
theorem tc_M_isIn : Cond.code y_M_isIn b_M_isIn 2 (some .boolean) ∈ lw_g := lwg (List.mem_of_getElem? (i := 780) (by decide +kernel)) (by decide +kernel)
abbrev b_M_cell : ByteArray := prog_9_method_22_code
abbrev y_M_cell : MethodName := ⟨R_M, "cell", "(IIII)J"⟩
abbrev w_M_cell : List Cond := Cond.code y_M_cell b_M_cell 5 (some .long) :: lw_g
theorem tc_M_cell : Cond.code y_M_cell b_M_cell 5 (some .long) ∈ lw_g := lwg (List.mem_of_getElem? (i := 777) (by decide +kernel)) (by decide +kernel)
theorem ts_M_cell : Cond.selects R_M y_M_cell y_M_cell ∈ lw_g := lwp (by decide +kernel) (by decide +kernel)
abbrev b_M_determinant : ByteArray := prog_9_method_23_code
abbrev y_M_determinant : MethodName := ⟨R_M, "determinant", "(II)J"⟩
abbrev w_M_determinant : List Cond := Cond.code y_M_determinant b_M_determinant 10 (some .long) :: lw_g
theorem tc_M_determinant : Cond.code y_M_determinant b_M_determinant 10 (some .long) ∈ lw_g := lwg (List.mem_of_getElem? (i := 773) (by decide +kernel)) (by decide +kernel)
theorem ts_M_determinant : Cond.selects R_M y_M_determinant y_M_determinant ∈ lw_g := lwp (by decide +kernel) (by decide +kernel)
abbrev b_M_pull : ByteArray := prog_9_method_24_code
abbrev y_M_pull : MethodName := ⟨R_M, "pull", "(IJJJJ)J"⟩
abbrev w_M_pull : List Cond := Cond.code y_M_pull b_M_pull 10 (some .long) :: lw_g
theorem tc_M_pull : Cond.code y_M_pull b_M_pull 10 (some .long) ∈ lw_g := lwg (List.mem_of_getElem? (i := 788) (by decide +kernel)) (by decide +kernel)
theorem ts_M_pull : Cond.selects R_M y_M_pull y_M_pull ∈ lw_g := lwp (by decide +kernel) (by decide +kernel)
abbrev b_M_shareOf : ByteArray := prog_9_method_25_code
abbrev y_M_shareOf : MethodName := ⟨R_M, "shareOf", "(II)J"⟩
abbrev w_M_shareOf : List Cond := Cond.code y_M_shareOf b_M_shareOf 3 (some .long) :: lw_g
theorem tc_M_shareOf : Cond.code y_M_shareOf b_M_shareOf 3 (some .long) ∈ lw_g := lwg (List.mem_of_getElem? (i := 784) (by decide +kernel)) (by decide +kernel)
theorem ts_M_shareOf : Cond.selects R_M y_M_shareOf y_M_shareOf ∈ lw_g := lwp (by decide +kernel) (by decide +kernel)
abbrev b_M_isLeast : ByteArray := prog_9_method_26_code
abbrev y_M_isLeast : MethodName := ⟨R_M, "isLeast", "(I)Z"⟩
abbrev w_M_isLeast : List Cond := Cond.code y_M_isLeast b_M_isLeast 12 (some .boolean) :: lw_g
theorem tc_M_isLeast : Cond.code y_M_isLeast b_M_isLeast 12 (some .boolean) ∈ lw_g := lwg (List.mem_of_getElem? (i := 769) (by decide +kernel)) (by decide +kernel)
theorem ts_M_isLeast : Cond.selects R_M y_M_isLeast y_M_isLeast ∈ lw_g := lwp (by decide +kernel) (by decide +kernel)
abbrev b_M_many : ByteArray := prog_9_method_27_code
abbrev y_M_many : MethodName := ⟨R_M, "many", "(I)I"⟩
abbrev w_M_many : List Cond := Cond.code y_M_many b_M_many 1 (some .int) :: lw_g
theorem tc_M_many : Cond.code y_M_many b_M_many 1 (some .int) ∈ lw_g := lwg (List.mem_of_getElem? (i := 765) (by decide +kernel)) (by decide +kernel)
abbrev b_M_parts : ByteArray := prog_9_method_28_code
abbrev y_M_parts : MethodName := ⟨R_M, "parts", "()I"⟩
abbrev w_M_parts : List Cond := Cond.code y_M_parts b_M_parts 4 (some .int) :: lw_g
theorem tc_M_parts : Cond.code y_M_parts b_M_parts 4 (some .int) ∈ lw_g := lwg (List.mem_of_getElem? (i := 758) (by decide +kernel)) (by decide +kernel)
theorem ts_M_parts : Cond.selects R_M y_M_parts y_M_parts ∈ lw_g := lwg (List.mem_of_getElem? (i := 757) (by decide +kernel)) (by decide +kernel)
abbrev b_M_fraction : ByteArray := prog_9_method_29_code
abbrev y_M_fraction : MethodName := ⟨R_M, "fraction", "(JJ)V"⟩
abbrev w_M_fraction : List Cond := Cond.code y_M_fraction b_M_fraction 11 none :: lw_g
theorem tc_M_fraction : Cond.code y_M_fraction b_M_fraction 11 none ∈ lw_g := lwg (List.mem_of_getElem? (i := 796) (by decide +kernel)) (by decide +kernel)
theorem ts_M_fraction : Cond.selects R_M y_M_fraction y_M_fraction ∈ lw_g := lwp (by decide +kernel) (by decide +kernel)
abbrev b_M_share : ByteArray := prog_9_method_30_code
abbrev y_M_share : MethodName := ⟨R_M, "share", "(II)J"⟩
abbrev w_M_share : List Cond := Cond.code y_M_share b_M_share 3 (some .long) :: lw_g
theorem tc_M_share : Cond.code y_M_share b_M_share 3 (some .long) ∈ lw_g := lwg (List.mem_of_getElem? (i := 792) (by decide +kernel)) (by decide +kernel)
theorem ts_M_share : Cond.selects R_M y_M_share y_M_share ∈ lw_g := lwg (List.mem_of_getElem? (i := 791) (by decide +kernel)) (by decide +kernel)
abbrev b_M_least : ByteArray := prog_9_method_31_code
abbrev y_M_least : MethodName := ⟨R_M, "least", "()Z"⟩
abbrev w_M_least : List Cond := Cond.code y_M_least b_M_least 5 (some .boolean) :: lw_g
theorem tc_M_least : Cond.code y_M_least b_M_least 5 (some .boolean) ∈ lw_g := lwg (List.mem_of_getElem? (i := 800) (by decide +kernel)) (by decide +kernel)
theorem ts_M_least : Cond.selects R_M y_M_least y_M_least ∈ lw_g := lwg (List.mem_of_getElem? (i := 799) (by decide +kernel)) (by decide +kernel)
abbrev b_M_sample : ByteArray := prog_9_method_32_code
abbrev y_M_sample : MethodName := ⟨R_M, "sample", "()I"⟩
abbrev w_M_sample : List Cond := Cond.code y_M_sample b_M_sample 1 (some .int) :: lw_g
theorem tc_M_sample : Cond.code y_M_sample b_M_sample 1 (some .int) ∈ lw_g := lwg (List.mem_of_getElem? (i := 804) (by decide +kernel)) (by decide +kernel)
theorem ts_M_sample : Cond.selects R_M y_M_sample y_M_sample ∈ lw_g := lwg (List.mem_of_getElem? (i := 803) (by decide +kernel)) (by decide +kernel)
abbrev b_M_isSample : ByteArray := prog_9_method_33_code
abbrev y_M_isSample : MethodName := ⟨R_M, "isSample", "(I)Z"⟩
abbrev w_M_isSample : List Cond := Cond.code y_M_isSample b_M_isSample 2 (some .boolean) :: lw_g
theorem tc_M_isSample : Cond.code y_M_isSample b_M_isSample 2 (some .boolean) ∈ lw_g := lwg (List.mem_of_getElem? (i := 812) (by decide +kernel)) (by decide +kernel)
theorem ts_M_isSample : Cond.selects R_M y_M_isSample y_M_isSample ∈ lw_g := lwp (by decide +kernel) (by decide +kernel)
abbrev b_M_measured : ByteArray := prog_9_method_34_code
abbrev y_M_measured : MethodName := ⟨R_M, "measured", "(III)I"⟩
abbrev w_M_measured : List Cond := Cond.code y_M_measured b_M_measured 5 (some .int) :: lw_g
theorem tc_M_measured : Cond.code y_M_measured b_M_measured 5 (some .int) ∈ lw_g := lwg (List.mem_of_getElem? (i := 808) (by decide +kernel)) (by decide +kernel)
theorem ts_M_measured : Cond.selects R_M y_M_measured y_M_measured ∈ lw_g := lwg (List.mem_of_getElem? (i := 807) (by decide +kernel)) (by decide +kernel)
abbrev b_M_covariance : ByteArray := prog_9_method_35_code
abbrev y_M_covariance : MethodName := ⟨R_M, "covariance", "(III)V"⟩
abbrev w_M_covariance : List Cond := Cond.code y_M_covariance b_M_covariance 5 none :: lw_g
theorem tc_M_covariance : Cond.code y_M_covariance b_M_covariance 5 none ∈ lw_g := lwg (List.mem_of_getElem? (i := 816) (by decide +kernel)) (by decide +kernel)
theorem ts_M_covariance : Cond.selects R_M y_M_covariance y_M_covariance ∈ lw_g := lwg (List.mem_of_getElem? (i := 815) (by decide +kernel)) (by decide +kernel)
abbrev b_M_apart : ByteArray := prog_9_method_36_code
abbrev y_M_apart : MethodName := ⟨R_M, "apart", "(II)J"⟩
abbrev w_M_apart : List Cond := Cond.code y_M_apart b_M_apart 7 (some .long) :: lw_g
theorem tc_M_apart : Cond.code y_M_apart b_M_apart 7 (some .long) ∈ lw_g := lwg (List.mem_of_getElem? (i := 824) (by decide +kernel)) (by decide +kernel)
theorem ts_M_apart : Cond.selects R_M y_M_apart y_M_apart ∈ lw_g := lwp (by decide +kernel) (by decide +kernel)
abbrev b_M_distance : ByteArray := prog_9_method_37_code
abbrev y_M_distance : MethodName := ⟨R_M, "distance", "(III)J"⟩
abbrev w_M_distance : List Cond := Cond.code y_M_distance b_M_distance 4 (some .long) :: lw_g
theorem tc_M_distance : Cond.code y_M_distance b_M_distance 4 (some .long) ∈ lw_g := lwg (List.mem_of_getElem? (i := 820) (by decide +kernel)) (by decide +kernel)
theorem ts_M_distance : Cond.selects R_M y_M_distance y_M_distance ∈ lw_g := lwg (List.mem_of_getElem? (i := 819) (by decide +kernel)) (by decide +kernel)
abbrev b_M_group : ByteArray := prog_9_method_38_code
abbrev y_M_group : MethodName := ⟨R_M, "group", "(II)I"⟩
abbrev w_M_group : List Cond := Cond.code y_M_group b_M_group 9 (some .int) :: lw_g
theorem tc_M_group : Cond.code y_M_group b_M_group 9 (some .int) ∈ lw_g := lwg (List.mem_of_getElem? (i := 829) (by decide +kernel)) (by decide +kernel)
theorem ts_M_group : Cond.selects R_M y_M_group y_M_group ∈ lw_g := lwg (List.mem_of_getElem? (i := 828) (by decide +kernel)) (by decide +kernel)
abbrev b_M_standard : ByteArray := prog_9_method_39_code
abbrev y_M_standard : MethodName := ⟨R_M, "standard", "(II)I"⟩
abbrev w_M_standard : List Cond := Cond.code y_M_standard b_M_standard 5 (some .int) :: lw_g
theorem tc_M_standard : Cond.code y_M_standard b_M_standard 5 (some .int) ∈ lw_g := lwg (List.mem_of_getElem? (i := 833) (by decide +kernel)) (by decide +kernel)
theorem ts_M_standard : Cond.selects R_M y_M_standard y_M_standard ∈ lw_g := lwg (List.mem_of_getElem? (i := 832) (by decide +kernel)) (by decide +kernel)
abbrev b_M_factorOf : ByteArray := prog_9_method_40_code
abbrev y_M_factorOf : MethodName := ⟨R_M, "factorOf", "(I)I"⟩
abbrev w_M_factorOf : List Cond := Cond.code y_M_factorOf b_M_factorOf 12 (some .int) :: lw_g
theorem tc_M_factorOf : Cond.code y_M_factorOf b_M_factorOf 12 (some .int) ∈ lw_g := lwg (List.mem_of_getElem? (i := 844) (by decide +kernel)) (by decide +kernel)
theorem ts_M_factorOf : Cond.selects R_M y_M_factorOf y_M_factorOf ∈ lw_g := lwp (by decide +kernel) (by decide +kernel)
abbrev b_M_corrected : ByteArray := prog_9_method_41_code
abbrev y_M_corrected : MethodName := ⟨R_M, "corrected", "(II)J"⟩
abbrev w_M_corrected : List Cond := Cond.code y_M_corrected b_M_corrected 3 (some .long) :: lw_g
theorem tc_M_corrected : Cond.code y_M_corrected b_M_corrected 3 (some .long) ∈ lw_g := lwg (List.mem_of_getElem? (i := 838) (by decide +kernel)) (by decide +kernel)
theorem ts_M_corrected : Cond.selects R_M y_M_corrected y_M_corrected ∈ lw_g := lwg (List.mem_of_getElem? (i := 837) (by decide +kernel)) (by decide +kernel)
abbrev b_M_count : ByteArray := prog_9_method_42_code
abbrev y_M_count : MethodName := ⟨R_M, "count", "(I)I"⟩
abbrev w_M_count : List Cond := Cond.code y_M_count b_M_count 2 (some .int) :: lw_g
theorem tc_M_count : Cond.code y_M_count b_M_count 2 (some .int) ∈ lw_g := lwg (List.mem_of_getElem? (i := 848) (by decide +kernel)) (by decide +kernel)
theorem ts_M_count : Cond.selects R_M y_M_count y_M_count ∈ lw_g := lwg (List.mem_of_getElem? (i := 847) (by decide +kernel)) (by decide +kernel)
abbrev b_L_cell : ByteArray := method_2_code
abbrev y_L_cell : MethodName := ⟨R_L, "cell", "([II)I"⟩
abbrev w_L_cell : List Cond := Cond.code y_L_cell b_L_cell 2 (some .int) :: lw_g
theorem tc_L_cell : Cond.code y_L_cell b_L_cell 2 (some .int) ∈ lw_g := lwg (List.mem_of_getElem? (i := 247) (by decide +kernel)) (by decide +kernel)
abbrev b_L_told : ByteArray := method_3_code
abbrev y_L_told : MethodName := ⟨R_L, "told", "(LSpectrumParts;II[J)I"⟩
abbrev w_L_told : List Cond := Cond.codeWith y_L_told b_L_told 5 (some .int) [(0, 10, 13, 13), (0, 10, 17, 15)] :: lw_g
theorem tc_L_told : Cond.codeWith y_L_told b_L_told 5 (some .int) [(0, 10, 13, 13), (0, 10, 17, 15)] ∈ lw_g := lwg (List.mem_of_getElem? (i := 250) (by decide +kernel)) (by decide +kernel)
abbrev b_L_background : ByteArray := method_4_code
abbrev y_L_background : MethodName := ⟨R_L, "background", "(LSpectrumParts;I[J)I"⟩
abbrev w_L_background : List Cond := Cond.codeWith y_L_background b_L_background 4 (some .int) [(0, 9, 12, 15)] :: lw_g
theorem tc_L_background : Cond.codeWith y_L_background b_L_background 4 (some .int) [(0, 9, 12, 15)] ∈ lw_g := lwg (List.mem_of_getElem? (i := 349) (by decide +kernel)) (by decide +kernel)
abbrev b_L_lowered : ByteArray := method_5_code
abbrev y_L_lowered : MethodName := ⟨R_L, "lowered", "(LSpectrumParts;I[J)I"⟩
abbrev w_L_lowered : List Cond := Cond.codeWith y_L_lowered b_L_lowered 4 (some .int) [(0, 9, 12, 13)] :: lw_g
theorem tc_L_lowered : Cond.codeWith y_L_lowered b_L_lowered 4 (some .int) [(0, 9, 12, 13)] ∈ lw_g := lwg (List.mem_of_getElem? (i := 372) (by decide +kernel)) (by decide +kernel)
abbrev b_L_peaks : ByteArray := method_6_code
abbrev y_L_peaks : MethodName := ⟨R_L, "peaks", "(LSpectrumParts;I[J)I"⟩
abbrev w_L_peaks : List Cond := Cond.codeWith y_L_peaks b_L_peaks 4 (some .int) [(0, 9, 12, 15)] :: lw_g
theorem tc_L_peaks : Cond.codeWith y_L_peaks b_L_peaks 4 (some .int) [(0, 9, 12, 15)] ∈ lw_g := lwg (List.mem_of_getElem? (i := 379) (by decide +kernel)) (by decide +kernel)
abbrev b_L_peak : ByteArray := method_7_code
abbrev y_L_peak : MethodName := ⟨R_L, "peak", "(LSpectrumParts;II[J)I"⟩
abbrev w_L_peak : List Cond := Cond.codeWith y_L_peak b_L_peak 5 (some .int) [(0, 10, 13, 13)] :: lw_g
theorem tc_L_peak : Cond.codeWith y_L_peak b_L_peak 5 (some .int) [(0, 10, 13, 13)] ∈ lw_g := lwg (List.mem_of_getElem? (i := 405) (by decide +kernel)) (by decide +kernel)
abbrev b_L_line : ByteArray := method_8_code
abbrev y_L_line : MethodName := ⟨R_L, "line", "(LSpectrumParts;II[J)I"⟩
abbrev w_L_line : List Cond := Cond.codeWith y_L_line b_L_line 5 (some .int) [(0, 10, 13, 13), (0, 10, 17, 33)] :: lw_g
theorem tc_L_line : Cond.codeWith y_L_line b_L_line 5 (some .int) [(0, 10, 13, 13), (0, 10, 17, 33)] ∈ lw_g := lwg (List.mem_of_getElem? (i := 412) (by decide +kernel)) (by decide +kernel)
abbrev b_L_element : ByteArray := method_9_code
abbrev y_L_element : MethodName := ⟨R_L, "element", "(LSpectrumParts;II[J)I"⟩
abbrev w_L_element : List Cond := Cond.codeWith y_L_element b_L_element 5 (some .int) [(0, 10, 13, 13), (0, 10, 17, 15)] :: lw_g
theorem tc_L_element : Cond.codeWith y_L_element b_L_element 5 (some .int) [(0, 10, 13, 13), (0, 10, 17, 15)] ∈ lw_g := lwg (List.mem_of_getElem? (i := 443) (by decide +kernel)) (by decide +kernel)
abbrev b_L_detect : ByteArray := method_10_code
abbrev y_L_detect : MethodName := ⟨R_L, "detect", "(LSpectrumParts;I[J)I"⟩
abbrev w_L_detect : List Cond := Cond.codeWith y_L_detect b_L_detect 4 (some .int) [(0, 9, 12, 13)] :: lw_g
theorem tc_L_detect : Cond.codeWith y_L_detect b_L_detect 4 (some .int) [(0, 9, 12, 13)] ∈ lw_g := lwg (List.mem_of_getElem? (i := 457) (by decide +kernel)) (by decide +kernel)
abbrev b_L_library : ByteArray := method_11_code
abbrev y_L_library : MethodName := ⟨R_L, "library", "(LSpectrumParts;[J)I"⟩
abbrev w_L_library : List Cond := Cond.codeWith y_L_library b_L_library 3 (some .int) [(0, 8, 11, 33)] :: lw_g
theorem tc_L_library : Cond.codeWith y_L_library b_L_library 3 (some .int) [(0, 8, 11, 33)] ∈ lw_g := lwg (List.mem_of_getElem? (i := 471) (by decide +kernel)) (by decide +kernel)
abbrev b_L_entry : ByteArray := method_12_code
abbrev y_L_entry : MethodName := ⟨R_L, "entry", "(LSpectrumParts;III[J)I"⟩
abbrev w_L_entry : List Cond := Cond.codeWith y_L_entry b_L_entry 6 (some .int) [(0, 12, 15, 13), (0, 12, 19, 15)] :: lw_g
theorem tc_L_entry : Cond.codeWith y_L_entry b_L_entry 6 (some .int) [(0, 12, 15, 13), (0, 12, 19, 15)] ∈ lw_g := lwg (List.mem_of_getElem? (i := 478) (by decide +kernel)) (by decide +kernel)
abbrev b_L_share : ByteArray := method_13_code
abbrev y_L_share : MethodName := ⟨R_L, "share", "(LSpectrumParts;II[J)I"⟩
abbrev w_L_share : List Cond := Cond.codeWith y_L_share b_L_share 5 (some .int) [(0, 9, 12, 13), (0, 9, 16, 33)] :: lw_g
theorem tc_L_share : Cond.codeWith y_L_share b_L_share 5 (some .int) [(0, 9, 12, 13), (0, 9, 16, 33)] ∈ lw_g := lwg (List.mem_of_getElem? (i := 485) (by decide +kernel)) (by decide +kernel)
abbrev b_L_least : ByteArray := method_14_code
abbrev y_L_least : MethodName := ⟨R_L, "least", "(LSpectrumParts;[J)I"⟩
abbrev w_L_least : List Cond := Cond.codeWith y_L_least b_L_least 3 (some .int) [(0, 15, 18, 33)] :: lw_g
theorem tc_L_least : Cond.codeWith y_L_least b_L_least 3 (some .int) [(0, 15, 18, 33)] ∈ lw_g := lwg (List.mem_of_getElem? (i := 498) (by decide +kernel)) (by decide +kernel)
abbrev b_L_sample : ByteArray := method_15_code
abbrev y_L_sample : MethodName := ⟨R_L, "sample", "(LSpectrumParts;[J)I"⟩
abbrev w_L_sample : List Cond := Cond.codeWith y_L_sample b_L_sample 3 (some .int) [(0, 8, 11, 33)] :: lw_g
theorem tc_L_sample : Cond.codeWith y_L_sample b_L_sample 3 (some .int) [(0, 8, 11, 33)] ∈ lw_g := lwg (List.mem_of_getElem? (i := 506) (by decide +kernel)) (by decide +kernel)
abbrev b_L_measured : ByteArray := method_16_code
abbrev y_L_measured : MethodName := ⟨R_L, "measured", "(LSpectrumParts;III[J)I"⟩
abbrev w_L_measured : List Cond := Cond.codeWith y_L_measured b_L_measured 6 (some .int) [(0, 12, 15, 13), (0, 12, 19, 15)] :: lw_g
theorem tc_L_measured : Cond.codeWith y_L_measured b_L_measured 6 (some .int) [(0, 12, 15, 13), (0, 12, 19, 15)] ∈ lw_g := lwg (List.mem_of_getElem? (i := 513) (by decide +kernel)) (by decide +kernel)
abbrev b_L_covariance : ByteArray := method_17_code
abbrev y_L_covariance : MethodName := ⟨R_L, "covariance", "(LSpectrumParts;III)I"⟩
abbrev w_L_covariance : List Cond := Cond.codeWith y_L_covariance b_L_covariance 5 (some .int) [(0, 7, 10, 15)] :: lw_g
theorem tc_L_covariance : Cond.codeWith y_L_covariance b_L_covariance 5 (some .int) [(0, 7, 10, 15)] ∈ lw_g := lwg (List.mem_of_getElem? (i := 520) (by decide +kernel)) (by decide +kernel)
abbrev b_L_distance : ByteArray := method_18_code
abbrev y_L_distance : MethodName := ⟨R_L, "distance", "(LSpectrumParts;III[J)I"⟩
abbrev w_L_distance : List Cond := Cond.codeWith y_L_distance b_L_distance 6 (some .int) [(0, 11, 14, 13)] :: lw_g
theorem tc_L_distance : Cond.codeWith y_L_distance b_L_distance 6 (some .int) [(0, 11, 14, 13)] ∈ lw_g := lwg (List.mem_of_getElem? (i := 527) (by decide +kernel)) (by decide +kernel)
abbrev b_L_group : ByteArray := method_19_code
abbrev y_L_group : MethodName := ⟨R_L, "group", "(LSpectrumParts;II[J)I"⟩
abbrev w_L_group : List Cond := Cond.codeWith y_L_group b_L_group 5 (some .int) [(0, 10, 13, 13), (0, 10, 17, 15)] :: lw_g
theorem tc_L_group : Cond.codeWith y_L_group b_L_group 5 (some .int) [(0, 10, 13, 13), (0, 10, 17, 15)] ∈ lw_g := lwg (List.mem_of_getElem? (i := 543) (by decide +kernel)) (by decide +kernel)
abbrev b_L_standard : ByteArray := method_20_code
abbrev y_L_standard : MethodName := ⟨R_L, "standard", "(LSpectrumParts;II[J)I"⟩
abbrev w_L_standard : List Cond := Cond.codeWith y_L_standard b_L_standard 5 (some .int) [(0, 10, 13, 15), (0, 10, 17, 33)] :: lw_g
theorem tc_L_standard : Cond.codeWith y_L_standard b_L_standard 5 (some .int) [(0, 10, 13, 15), (0, 10, 17, 33)] ∈ lw_g := lwg (List.mem_of_getElem? (i := 560) (by decide +kernel)) (by decide +kernel)
abbrev b_L_corrected : ByteArray := method_21_code
abbrev y_L_corrected : MethodName := ⟨R_L, "corrected", "(LSpectrumParts;II[J)I"⟩
abbrev w_L_corrected : List Cond := Cond.codeWith y_L_corrected b_L_corrected 5 (some .int) [(0, 9, 12, 15)] :: lw_g
theorem tc_L_corrected : Cond.codeWith y_L_corrected b_L_corrected 5 (some .int) [(0, 9, 12, 15)] ∈ lw_g := lwg (List.mem_of_getElem? (i := 577) (by decide +kernel)) (by decide +kernel)
abbrev b_L_count : ByteArray := method_22_code
abbrev y_L_count : MethodName := ⟨R_L, "count", "(LSpectrumParts;I[J)I"⟩
abbrev w_L_count : List Cond := Cond.codeWith y_L_count b_L_count 4 (some .int) [(0, 9, 12, 13)] :: lw_g
theorem tc_L_count : Cond.codeWith y_L_count b_L_count 4 (some .int) [(0, 9, 12, 13)] ∈ lw_g := lwg (List.mem_of_getElem? (i := 597) (by decide +kernel)) (by decide +kernel)
abbrev b_J_floorDiv : ByteArray := prog_14_method_47_code
abbrev y_J_floorDiv : MethodName := ⟨R_J, "floorDiv", "(II)I"⟩
abbrev w_J_floorDiv : List Cond := Cond.code y_J_floorDiv b_J_floorDiv 3 (some .int) :: lw_g
theorem tc_J_floorDiv : Cond.code y_J_floorDiv b_J_floorDiv 3 (some .int) ∈ lw_g := lwg (List.mem_of_getElem? (i := 593) (by decide +kernel)) (by decide +kernel)
theorem tk_0 : ((Jvm.Cond.initialized "SpectrumPartsLaw") : Cond) ∈ lw_g := lwg (List.mem_of_getElem? (i := 0) (by decide +kernel)) (by decide +kernel)
theorem tk_1 : ((Jvm.Cond.initialized "SpectrumParts") : Cond) ∈ lw_g := lwg (List.mem_of_getElem? (i := 1) (by decide +kernel)) (by decide +kernel)
theorem tk_2 : ((Jvm.Cond.initialized "java/lang/Math") : Cond) ∈ lw_g := lwg (List.mem_of_getElem? (i := 2) (by decide +kernel)) (by decide +kernel)
theorem tk_3 : ((Jvm.Cond.initialized "SpectrumParts$Spectrum") : Cond) ∈ lw_g := lwg (List.mem_of_getElem? (i := 3) (by decide +kernel)) (by decide +kernel)
theorem tk_4 : ((Jvm.Cond.initialized "SpectrumParts$PeakList") : Cond) ∈ lw_g := lwg (List.mem_of_getElem? (i := 4) (by decide +kernel)) (by decide +kernel)
theorem tk_5 : ((Jvm.Cond.initialized "SpectrumParts$LineTable") : Cond) ∈ lw_g := lwg (List.mem_of_getElem? (i := 5) (by decide +kernel)) (by decide +kernel)
theorem tk_6 : ((Jvm.Cond.initialized "SpectrumParts$Mixture") : Cond) ∈ lw_g := lwg (List.mem_of_getElem? (i := 6) (by decide +kernel)) (by decide +kernel)
theorem tk_7 : ((Jvm.Cond.initialized "SpectrumParts$SampleSet") : Cond) ∈ lw_g := lwg (List.mem_of_getElem? (i := 7) (by decide +kernel)) (by decide +kernel)
theorem tk_8 : ((Jvm.Cond.initialized "SpectrumParts$StandardList") : Cond) ∈ lw_g := lwg (List.mem_of_getElem? (i := 8) (by decide +kernel)) (by decide +kernel)
theorem tk_9 : ((Jvm.Cond.initialized "SpectrumPartsModel") : Cond) ∈ lw_g := lwg (List.mem_of_getElem? (i := 9) (by decide +kernel)) (by decide +kernel)
theorem tk_13 : ((Jvm.Cond.initialized "java/lang/IndexOutOfBoundsException") : Cond) ∈ lw_g := lwg (List.mem_of_getElem? (i := 13) (by decide +kernel)) (by decide +kernel)
theorem tk_14 : ((Jvm.Cond.initialized "java/lang/IllegalArgumentException") : Cond) ∈ lw_g := lwg (List.mem_of_getElem? (i := 14) (by decide +kernel)) (by decide +kernel)
theorem tk_15 : ((Jvm.Cond.initialized "java/lang/System") : Cond) ∈ lw_g := lwg (List.mem_of_getElem? (i := 15) (by decide +kernel)) (by decide +kernel)
theorem tk_16 : ((Jvm.Cond.initialized "java/lang/IllegalStateException") : Cond) ∈ lw_g := lwg (List.mem_of_getElem? (i := 16) (by decide +kernel)) (by decide +kernel)
theorem tk_22 : ((Jvm.Cond.methodLink "SpectrumParts" (1 : Nat) ({ cls := "java/lang/Object", name := "<init>", desc := "()V" } : Jvm.MethodName)) : Cond) ∈ lw_g := lwg (List.mem_of_getElem? (i := 22) (by decide +kernel)) (by decide +kernel)
theorem tk_23 : ((Jvm.Cond.instanceMethod ({ cls := "java/lang/Object", name := "<init>", desc := "()V" } : Jvm.MethodName)) : Cond) ∈ lw_g := lwg (List.mem_of_getElem? (i := 23) (by decide +kernel)) (by decide +kernel)
theorem tk_24 : ((Jvm.Cond.code ({ cls := "java/lang/Object", name := "<init>", desc := "()V" } : Jvm.MethodName) object_method_1_code (1 : Nat) (Option.none : Option Jvm.ClassFile.FieldType)) : Cond) ∈ lw_g := lwg (List.mem_of_getElem? (i := 24) (by decide +kernel)) (by decide +kernel)
theorem tk_25 : ((Jvm.Cond.methodLink "SpectrumParts" (9 : Nat) ({ cls := "java/lang/Math", name := "min", desc := "(II)I" } : Jvm.MethodName)) : Cond) ∈ lw_g := lwg (List.mem_of_getElem? (i := 25) (by decide +kernel)) (by decide +kernel)
theorem tk_26 : ((Jvm.Cond.static ({ cls := "java/lang/Math", name := "min", desc := "(II)I" } : Jvm.MethodName)) : Cond) ∈ lw_g := lwg (List.mem_of_getElem? (i := 26) (by decide +kernel)) (by decide +kernel)
theorem tk_27 : ((Jvm.Cond.code ({ cls := "java/lang/Math", name := "min", desc := "(II)I" } : Jvm.MethodName) prog_14_method_69_code (2 : Nat) (Option.some Jvm.ClassFile.FieldType.int)) : Cond) ∈ lw_g := lwg (List.mem_of_getElem? (i := 27) (by decide +kernel)) (by decide +kernel)
theorem tk_28 : ((Jvm.Cond.methodLink "SpectrumParts" (15 : Nat) ({ cls := "java/lang/Math", name := "max", desc := "(II)I" } : Jvm.MethodName)) : Cond) ∈ lw_g := lwg (List.mem_of_getElem? (i := 28) (by decide +kernel)) (by decide +kernel)
theorem tk_29 : ((Jvm.Cond.static ({ cls := "java/lang/Math", name := "max", desc := "(II)I" } : Jvm.MethodName)) : Cond) ∈ lw_g := lwg (List.mem_of_getElem? (i := 29) (by decide +kernel)) (by decide +kernel)
theorem tk_30 : ((Jvm.Cond.code ({ cls := "java/lang/Math", name := "max", desc := "(II)I" } : Jvm.MethodName) prog_14_method_65_code (2 : Nat) (Option.some Jvm.ClassFile.FieldType.int)) : Cond) ∈ lw_g := lwg (List.mem_of_getElem? (i := 30) (by decide +kernel)) (by decide +kernel)
theorem tk_31 : ((Jvm.Cond.classLink "SpectrumParts" (18 : Nat) "SpectrumParts$Spectrum") : Cond) ∈ lw_g := lwg (List.mem_of_getElem? (i := 31) (by decide +kernel)) (by decide +kernel)
theorem tk_32 : ((Jvm.Cond.instantiable "SpectrumParts$Spectrum" (4 : Nat)) : Cond) ∈ lw_g := lwg (List.mem_of_getElem? (i := 32) (by decide +kernel)) (by decide +kernel)
theorem tk_33 : ((Jvm.Cond.methodLink "SpectrumParts" (20 : Nat) ({ cls := "SpectrumParts$Spectrum", name := "<init>", desc := "(I)V" } : Jvm.MethodName)) : Cond) ∈ lw_g := lwg (List.mem_of_getElem? (i := 33) (by decide +kernel)) (by decide +kernel)
theorem tk_34 : ((Jvm.Cond.instanceMethod ({ cls := "SpectrumParts$Spectrum", name := "<init>", desc := "(I)V" } : Jvm.MethodName)) : Cond) ∈ lw_g := lwg (List.mem_of_getElem? (i := 34) (by decide +kernel)) (by decide +kernel)
theorem tk_36 : ((Jvm.Cond.methodLink "SpectrumParts$Spectrum" (1 : Nat) ({ cls := "java/lang/Object", name := "<init>", desc := "()V" } : Jvm.MethodName)) : Cond) ∈ lw_g := lwg (List.mem_of_getElem? (i := 36) (by decide +kernel)) (by decide +kernel)
theorem tk_37 : ((Jvm.Cond.fieldLink "SpectrumParts$Spectrum" (7 : Nat) "SpectrumParts$Spectrum" "channels" "I") : Cond) ∈ lw_g := lwg (List.mem_of_getElem? (i := 37) (by decide +kernel)) (by decide +kernel)
theorem tk_38 : ((Jvm.Cond.fieldLink "SpectrumParts" (62 : Nat) "SpectrumParts$Spectrum" "channels" "I") : Cond) ∈ lw_g := lwg (List.mem_of_getElem? (i := 38) (by decide +kernel)) (by decide +kernel)
theorem tk_39 : ((Jvm.Cond.fieldLink "SpectrumParts$PeakList" (20 : Nat) "SpectrumParts$Spectrum" "channels" "I") : Cond) ∈ lw_g := lwg (List.mem_of_getElem? (i := 39) (by decide +kernel)) (by decide +kernel)
theorem tk_40 : ((Jvm.Cond.fieldLink "SpectrumParts$Mixture" (46 : Nat) "SpectrumParts$Spectrum" "channels" "I") : Cond) ∈ lw_g := lwg (List.mem_of_getElem? (i := 40) (by decide +kernel)) (by decide +kernel)
theorem tk_41 : ((Jvm.Cond.fieldLink "SpectrumParts$Spectrum" (13 : Nat) "SpectrumParts$Spectrum" "counts" "[I") : Cond) ∈ lw_g := lwg (List.mem_of_getElem? (i := 41) (by decide +kernel)) (by decide +kernel)
theorem tk_42 : ((Jvm.Cond.fieldLink "SpectrumParts" (74 : Nat) "SpectrumParts$Spectrum" "counts" "[I") : Cond) ∈ lw_g := lwg (List.mem_of_getElem? (i := 42) (by decide +kernel)) (by decide +kernel)
theorem tk_43 : ((Jvm.Cond.fieldLink "SpectrumParts$Spectrum" (17 : Nat) "SpectrumParts$Spectrum" "ground" "[I") : Cond) ∈ lw_g := lwg (List.mem_of_getElem? (i := 43) (by decide +kernel)) (by decide +kernel)
theorem tk_44 : ((Jvm.Cond.fieldLink "SpectrumParts" (85 : Nat) "SpectrumParts$Spectrum" "ground" "[I") : Cond) ∈ lw_g := lwg (List.mem_of_getElem? (i := 44) (by decide +kernel)) (by decide +kernel)
theorem tk_45 : ((Jvm.Cond.fieldLink "SpectrumParts$Spectrum" (20 : Nat) "SpectrumParts$Spectrum" "former" "[I") : Cond) ∈ lw_g := lwg (List.mem_of_getElem? (i := 45) (by decide +kernel)) (by decide +kernel)
theorem tk_55 : ((Jvm.Cond.arrayClass Jvm.ClassFile.FieldType.int) : Cond) ∈ lw_g := lwg (List.mem_of_getElem? (i := 55) (by decide +kernel)) (by decide +kernel)
theorem tk_56 : ((Jvm.Cond.classLink "SpectrumParts" (27 : Nat) "SpectrumParts$PeakList") : Cond) ∈ lw_g := lwg (List.mem_of_getElem? (i := 56) (by decide +kernel)) (by decide +kernel)
theorem tk_57 : ((Jvm.Cond.instantiable "SpectrumParts$PeakList" (2 : Nat)) : Cond) ∈ lw_g := lwg (List.mem_of_getElem? (i := 57) (by decide +kernel)) (by decide +kernel)
theorem tk_58 : ((Jvm.Cond.methodLink "SpectrumParts" (29 : Nat) ({ cls := "SpectrumParts$PeakList", name := "<init>", desc := "(I)V" } : Jvm.MethodName)) : Cond) ∈ lw_g := lwg (List.mem_of_getElem? (i := 58) (by decide +kernel)) (by decide +kernel)
theorem tk_59 : ((Jvm.Cond.instanceMethod ({ cls := "SpectrumParts$PeakList", name := "<init>", desc := "(I)V" } : Jvm.MethodName)) : Cond) ∈ lw_g := lwg (List.mem_of_getElem? (i := 59) (by decide +kernel)) (by decide +kernel)
theorem tk_61 : ((Jvm.Cond.methodLink "SpectrumParts$PeakList" (3 : Nat) ({ cls := "java/lang/Object", name := "<init>", desc := "()V" } : Jvm.MethodName)) : Cond) ∈ lw_g := lwg (List.mem_of_getElem? (i := 61) (by decide +kernel)) (by decide +kernel)
theorem tk_62 : ((Jvm.Cond.classLink "SpectrumParts$PeakList" (15 : Nat) "[[I") : Cond) ∈ lw_g := lwg (List.mem_of_getElem? (i := 62) (by decide +kernel)) (by decide +kernel)
theorem tk_64 : ((Jvm.Cond.fieldLink "SpectrumParts$PeakList" (17 : Nat) "SpectrumParts$PeakList" "rows" "[[I") : Cond) ∈ lw_g := lwg (List.mem_of_getElem? (i := 64) (by decide +kernel)) (by decide +kernel)
theorem tk_65 : ((Jvm.Cond.fieldLink "SpectrumParts" (98 : Nat) "SpectrumParts$PeakList" "rows" "[[I") : Cond) ∈ lw_g := lwg (List.mem_of_getElem? (i := 65) (by decide +kernel)) (by decide +kernel)
theorem tk_66 : ((Jvm.Cond.fieldLink "SpectrumParts$PeakList" (9 : Nat) "SpectrumParts$PeakList" "size" "I") : Cond) ∈ lw_g := lwg (List.mem_of_getElem? (i := 66) (by decide +kernel)) (by decide +kernel)
theorem tk_67 : ((Jvm.Cond.fieldLink "SpectrumParts" (95 : Nat) "SpectrumParts$PeakList" "size" "I") : Cond) ∈ lw_g := lwg (List.mem_of_getElem? (i := 67) (by decide +kernel)) (by decide +kernel)
theorem tk_73 : ((Jvm.Cond.classLink "SpectrumParts" (34 : Nat) "SpectrumParts$LineTable") : Cond) ∈ lw_g := lwg (List.mem_of_getElem? (i := 73) (by decide +kernel)) (by decide +kernel)
theorem tk_74 : ((Jvm.Cond.instantiable "SpectrumParts$LineTable" (2 : Nat)) : Cond) ∈ lw_g := lwg (List.mem_of_getElem? (i := 74) (by decide +kernel)) (by decide +kernel)
theorem tk_76 : ((Jvm.Cond.instanceMethod ({ cls := "SpectrumParts$LineTable", name := "<init>", desc := "()V" } : Jvm.MethodName)) : Cond) ∈ lw_g := lwg (List.mem_of_getElem? (i := 76) (by decide +kernel)) (by decide +kernel)
theorem tk_78 : ((Jvm.Cond.methodLink "SpectrumParts$LineTable" (3 : Nat) ({ cls := "java/lang/Object", name := "<init>", desc := "()V" } : Jvm.MethodName)) : Cond) ∈ lw_g := lwg (List.mem_of_getElem? (i := 78) (by decide +kernel)) (by decide +kernel)
theorem tk_79 : ((Jvm.Cond.classLink "SpectrumParts$LineTable" (15 : Nat) "[[I") : Cond) ∈ lw_g := lwg (List.mem_of_getElem? (i := 79) (by decide +kernel)) (by decide +kernel)
theorem tk_80 : ((Jvm.Cond.fieldLink "SpectrumParts$LineTable" (9 : Nat) "SpectrumParts$LineTable" "sizes" "[I") : Cond) ∈ lw_g := lwg (List.mem_of_getElem? (i := 80) (by decide +kernel)) (by decide +kernel)
theorem tk_81 : ((Jvm.Cond.fieldLink "SpectrumParts" (102 : Nat) "SpectrumParts$LineTable" "sizes" "[I") : Cond) ∈ lw_g := lwg (List.mem_of_getElem? (i := 81) (by decide +kernel)) (by decide +kernel)
theorem tk_82 : ((Jvm.Cond.fieldLink "SpectrumParts$LineTable" (17 : Nat) "SpectrumParts$LineTable" "lines" "[[I") : Cond) ∈ lw_g := lwg (List.mem_of_getElem? (i := 82) (by decide +kernel)) (by decide +kernel)
theorem tk_88 : ((Jvm.Cond.classLink "SpectrumParts" (41 : Nat) "SpectrumParts$Mixture") : Cond) ∈ lw_g := lwg (List.mem_of_getElem? (i := 88) (by decide +kernel)) (by decide +kernel)
theorem tk_89 : ((Jvm.Cond.instantiable "SpectrumParts$Mixture" (9 : Nat)) : Cond) ∈ lw_g := lwg (List.mem_of_getElem? (i := 89) (by decide +kernel)) (by decide +kernel)
theorem tk_90 : ((Jvm.Cond.methodLink "SpectrumParts" (43 : Nat) ({ cls := "SpectrumParts$Mixture", name := "<init>", desc := "(I)V" } : Jvm.MethodName)) : Cond) ∈ lw_g := lwg (List.mem_of_getElem? (i := 90) (by decide +kernel)) (by decide +kernel)
theorem tk_91 : ((Jvm.Cond.instanceMethod ({ cls := "SpectrumParts$Mixture", name := "<init>", desc := "(I)V" } : Jvm.MethodName)) : Cond) ∈ lw_g := lwg (List.mem_of_getElem? (i := 91) (by decide +kernel)) (by decide +kernel)
theorem tk_93 : ((Jvm.Cond.methodLink "SpectrumParts$Mixture" (3 : Nat) ({ cls := "java/lang/Object", name := "<init>", desc := "()V" } : Jvm.MethodName)) : Cond) ∈ lw_g := lwg (List.mem_of_getElem? (i := 93) (by decide +kernel)) (by decide +kernel)
theorem tk_94 : ((Jvm.Cond.classLink "SpectrumParts$Mixture" (27 : Nat) "[[J") : Cond) ∈ lw_g := lwg (List.mem_of_getElem? (i := 94) (by decide +kernel)) (by decide +kernel)
theorem tk_96 : ((Jvm.Cond.classLink "SpectrumParts$Mixture" (41 : Nat) "[[I") : Cond) ∈ lw_g := lwg (List.mem_of_getElem? (i := 96) (by decide +kernel)) (by decide +kernel)
theorem tk_97 : ((Jvm.Cond.fieldLink "SpectrumParts$Mixture" (43 : Nat) "SpectrumParts$Mixture" "entries" "[[I") : Cond) ∈ lw_g := lwg (List.mem_of_getElem? (i := 97) (by decide +kernel)) (by decide +kernel)
theorem tk_98 : ((Jvm.Cond.fieldLink "SpectrumParts" (124 : Nat) "SpectrumParts$Mixture" "entries" "[[I") : Cond) ∈ lw_g := lwg (List.mem_of_getElem? (i := 98) (by decide +kernel)) (by decide +kernel)
theorem tk_99 : ((Jvm.Cond.fieldLink "SpectrumParts$Mixture" (9 : Nat) "SpectrumParts$Mixture" "above" "[J") : Cond) ∈ lw_g := lwg (List.mem_of_getElem? (i := 99) (by decide +kernel)) (by decide +kernel)
theorem tk_100 : ((Jvm.Cond.fieldLink "SpectrumParts" (138 : Nat) "SpectrumParts$Mixture" "above" "[J") : Cond) ∈ lw_g := lwg (List.mem_of_getElem? (i := 100) (by decide +kernel)) (by decide +kernel)
theorem tk_101 : ((Jvm.Cond.fieldLink "SpectrumParts$Mixture" (15 : Nat) "SpectrumParts$Mixture" "below" "J") : Cond) ∈ lw_g := lwg (List.mem_of_getElem? (i := 101) (by decide +kernel)) (by decide +kernel)
theorem tk_102 : ((Jvm.Cond.fieldLink "SpectrumParts" (142 : Nat) "SpectrumParts$Mixture" "below" "J") : Cond) ∈ lw_g := lwg (List.mem_of_getElem? (i := 102) (by decide +kernel)) (by decide +kernel)
theorem tk_103 : ((Jvm.Cond.fieldLink "SpectrumParts$Mixture" (19 : Nat) "SpectrumParts$Mixture" "size" "I") : Cond) ∈ lw_g := lwg (List.mem_of_getElem? (i := 103) (by decide +kernel)) (by decide +kernel)
theorem tk_104 : ((Jvm.Cond.fieldLink "SpectrumParts" (123 : Nat) "SpectrumParts$Mixture" "size" "I") : Cond) ∈ lw_g := lwg (List.mem_of_getElem? (i := 104) (by decide +kernel)) (by decide +kernel)
theorem tk_105 : ((Jvm.Cond.fieldLink "SpectrumParts$Mixture" (23 : Nat) "SpectrumParts$Mixture" "solved" "Z") : Cond) ∈ lw_g := lwg (List.mem_of_getElem? (i := 105) (by decide +kernel)) (by decide +kernel)
theorem tk_106 : ((Jvm.Cond.fieldLink "SpectrumParts" (134 : Nat) "SpectrumParts$Mixture" "solved" "Z") : Cond) ∈ lw_g := lwg (List.mem_of_getElem? (i := 106) (by decide +kernel)) (by decide +kernel)
theorem tk_107 : ((Jvm.Cond.fieldLink "SpectrumParts$Mixture" (29 : Nat) "SpectrumParts$Mixture" "products" "[[J") : Cond) ∈ lw_g := lwg (List.mem_of_getElem? (i := 107) (by decide +kernel)) (by decide +kernel)
theorem tk_108 : ((Jvm.Cond.fieldLink "SpectrumParts$Mixture" (32 : Nat) "SpectrumParts$Mixture" "matches" "[J") : Cond) ∈ lw_g := lwg (List.mem_of_getElem? (i := 108) (by decide +kernel)) (by decide +kernel)
theorem tk_109 : ((Jvm.Cond.fieldLink "SpectrumParts$Mixture" (35 : Nat) "SpectrumParts$Mixture" "system" "[[J") : Cond) ∈ lw_g := lwg (List.mem_of_getElem? (i := 109) (by decide +kernel)) (by decide +kernel)
theorem tk_110 : ((Jvm.Cond.fieldLink "SpectrumParts$Mixture" (38 : Nat) "SpectrumParts$Mixture" "right" "[J") : Cond) ∈ lw_g := lwg (List.mem_of_getElem? (i := 110) (by decide +kernel)) (by decide +kernel)
theorem tk_130 : ((Jvm.Cond.arrayClass Jvm.ClassFile.FieldType.long) : Cond) ∈ lw_g := lwg (List.mem_of_getElem? (i := 130) (by decide +kernel)) (by decide +kernel)
theorem tk_131 : ((Jvm.Cond.classLink "SpectrumParts" (48 : Nat) "SpectrumParts$SampleSet") : Cond) ∈ lw_g := lwg (List.mem_of_getElem? (i := 131) (by decide +kernel)) (by decide +kernel)
theorem tk_132 : ((Jvm.Cond.instantiable "SpectrumParts$SampleSet" (6 : Nat)) : Cond) ∈ lw_g := lwg (List.mem_of_getElem? (i := 132) (by decide +kernel)) (by decide +kernel)
theorem tk_134 : ((Jvm.Cond.instanceMethod ({ cls := "SpectrumParts$SampleSet", name := "<init>", desc := "()V" } : Jvm.MethodName)) : Cond) ∈ lw_g := lwg (List.mem_of_getElem? (i := 134) (by decide +kernel)) (by decide +kernel)
theorem tk_136 : ((Jvm.Cond.methodLink "SpectrumParts$SampleSet" (3 : Nat) ({ cls := "java/lang/Object", name := "<init>", desc := "()V" } : Jvm.MethodName)) : Cond) ∈ lw_g := lwg (List.mem_of_getElem? (i := 136) (by decide +kernel)) (by decide +kernel)
theorem tk_137 : ((Jvm.Cond.classLink "SpectrumParts$SampleSet" (9 : Nat) "[[I") : Cond) ∈ lw_g := lwg (List.mem_of_getElem? (i := 137) (by decide +kernel)) (by decide +kernel)
theorem tk_138 : ((Jvm.Cond.fieldLink "SpectrumParts$SampleSet" (11 : Nat) "SpectrumParts$SampleSet" "measures" "[[I") : Cond) ∈ lw_g := lwg (List.mem_of_getElem? (i := 138) (by decide +kernel)) (by decide +kernel)
theorem tk_139 : ((Jvm.Cond.fieldLink "SpectrumParts" (155 : Nat) "SpectrumParts$SampleSet" "measures" "[[I") : Cond) ∈ lw_g := lwg (List.mem_of_getElem? (i := 139) (by decide +kernel)) (by decide +kernel)
theorem tk_140 : ((Jvm.Cond.fieldLink "SpectrumParts$SampleSet" (16 : Nat) "SpectrumParts$SampleSet" "size" "I") : Cond) ∈ lw_g := lwg (List.mem_of_getElem? (i := 140) (by decide +kernel)) (by decide +kernel)
theorem tk_141 : ((Jvm.Cond.fieldLink "SpectrumParts" (154 : Nat) "SpectrumParts$SampleSet" "size" "I") : Cond) ∈ lw_g := lwg (List.mem_of_getElem? (i := 141) (by decide +kernel)) (by decide +kernel)
theorem tk_142 : ((Jvm.Cond.fieldLink "SpectrumParts$SampleSet" (20 : Nat) "SpectrumParts$SampleSet" "a" "J") : Cond) ∈ lw_g := lwg (List.mem_of_getElem? (i := 142) (by decide +kernel)) (by decide +kernel)
theorem tk_143 : ((Jvm.Cond.fieldLink "SpectrumParts" (158 : Nat) "SpectrumParts$SampleSet" "a" "J") : Cond) ∈ lw_g := lwg (List.mem_of_getElem? (i := 143) (by decide +kernel)) (by decide +kernel)
theorem tk_144 : ((Jvm.Cond.fieldLink "SpectrumParts$SampleSet" (24 : Nat) "SpectrumParts$SampleSet" "b" "J") : Cond) ∈ lw_g := lwg (List.mem_of_getElem? (i := 144) (by decide +kernel)) (by decide +kernel)
theorem tk_145 : ((Jvm.Cond.fieldLink "SpectrumParts" (161 : Nat) "SpectrumParts$SampleSet" "b" "J") : Cond) ∈ lw_g := lwg (List.mem_of_getElem? (i := 145) (by decide +kernel)) (by decide +kernel)
theorem tk_146 : ((Jvm.Cond.fieldLink "SpectrumParts$SampleSet" (27 : Nat) "SpectrumParts$SampleSet" "c" "J") : Cond) ∈ lw_g := lwg (List.mem_of_getElem? (i := 146) (by decide +kernel)) (by decide +kernel)
theorem tk_147 : ((Jvm.Cond.fieldLink "SpectrumParts" (164 : Nat) "SpectrumParts$SampleSet" "c" "J") : Cond) ∈ lw_g := lwg (List.mem_of_getElem? (i := 147) (by decide +kernel)) (by decide +kernel)
theorem tk_148 : ((Jvm.Cond.fieldLink "SpectrumParts$SampleSet" (30 : Nat) "SpectrumParts$SampleSet" "joined" "[Z") : Cond) ∈ lw_g := lwg (List.mem_of_getElem? (i := 148) (by decide +kernel)) (by decide +kernel)
theorem tk_162 : ((Jvm.Cond.arrayClass Jvm.ClassFile.FieldType.boolean) : Cond) ∈ lw_g := lwg (List.mem_of_getElem? (i := 162) (by decide +kernel)) (by decide +kernel)
theorem tk_163 : ((Jvm.Cond.classLink "SpectrumParts" (55 : Nat) "SpectrumParts$StandardList") : Cond) ∈ lw_g := lwg (List.mem_of_getElem? (i := 163) (by decide +kernel)) (by decide +kernel)
theorem tk_164 : ((Jvm.Cond.instantiable "SpectrumParts$StandardList" (3 : Nat)) : Cond) ∈ lw_g := lwg (List.mem_of_getElem? (i := 164) (by decide +kernel)) (by decide +kernel)
theorem tk_166 : ((Jvm.Cond.instanceMethod ({ cls := "SpectrumParts$StandardList", name := "<init>", desc := "()V" } : Jvm.MethodName)) : Cond) ∈ lw_g := lwg (List.mem_of_getElem? (i := 166) (by decide +kernel)) (by decide +kernel)
theorem tk_168 : ((Jvm.Cond.methodLink "SpectrumParts$StandardList" (3 : Nat) ({ cls := "java/lang/Object", name := "<init>", desc := "()V" } : Jvm.MethodName)) : Cond) ∈ lw_g := lwg (List.mem_of_getElem? (i := 168) (by decide +kernel)) (by decide +kernel)
theorem tk_169 : ((Jvm.Cond.fieldLink "SpectrumParts$StandardList" (9 : Nat) "SpectrumParts$StandardList" "size" "I") : Cond) ∈ lw_g := lwg (List.mem_of_getElem? (i := 169) (by decide +kernel)) (by decide +kernel)
theorem tk_170 : ((Jvm.Cond.fieldLink "SpectrumParts" (185 : Nat) "SpectrumParts$StandardList" "size" "I") : Cond) ∈ lw_g := lwg (List.mem_of_getElem? (i := 170) (by decide +kernel)) (by decide +kernel)
theorem tk_171 : ((Jvm.Cond.fieldLink "SpectrumParts$StandardList" (15 : Nat) "SpectrumParts$StandardList" "days" "[I") : Cond) ∈ lw_g := lwg (List.mem_of_getElem? (i := 171) (by decide +kernel)) (by decide +kernel)
theorem tk_172 : ((Jvm.Cond.fieldLink "SpectrumParts$StandardList" (19 : Nat) "SpectrumParts$StandardList" "factors" "[I") : Cond) ∈ lw_g := lwg (List.mem_of_getElem? (i := 172) (by decide +kernel)) (by decide +kernel)
theorem tk_180 : ((Jvm.Cond.fieldLink "SpectrumParts" (23 : Nat) "SpectrumParts" "spectrum" "LSpectrumParts$Spectrum;") : Cond) ∈ lw_g := lwg (List.mem_of_getElem? (i := 180) (by decide +kernel)) (by decide +kernel)
theorem tk_181 : ((Jvm.Cond.fieldLink "SpectrumParts" (30 : Nat) "SpectrumParts" "found" "LSpectrumParts$PeakList;") : Cond) ∈ lw_g := lwg (List.mem_of_getElem? (i := 181) (by decide +kernel)) (by decide +kernel)
theorem tk_182 : ((Jvm.Cond.fieldLink "SpectrumParts" (37 : Nat) "SpectrumParts" "table" "LSpectrumParts$LineTable;") : Cond) ∈ lw_g := lwg (List.mem_of_getElem? (i := 182) (by decide +kernel)) (by decide +kernel)
theorem tk_183 : ((Jvm.Cond.fieldLink "SpectrumParts" (44 : Nat) "SpectrumParts" "mixture" "LSpectrumParts$Mixture;") : Cond) ∈ lw_g := lwg (List.mem_of_getElem? (i := 183) (by decide +kernel)) (by decide +kernel)
theorem tk_184 : ((Jvm.Cond.fieldLink "SpectrumParts" (51 : Nat) "SpectrumParts" "cloud" "LSpectrumParts$SampleSet;") : Cond) ∈ lw_g := lwg (List.mem_of_getElem? (i := 184) (by decide +kernel)) (by decide +kernel)
theorem tk_185 : ((Jvm.Cond.fieldLink "SpectrumParts" (58 : Nat) "SpectrumParts" "drift" "LSpectrumParts$StandardList;") : Cond) ∈ lw_g := lwg (List.mem_of_getElem? (i := 185) (by decide +kernel)) (by decide +kernel)
theorem tk_199 : ((Jvm.Cond.methodLink "SpectrumPartsLaw" (132 : Nat) ({ cls := "SpectrumParts", name := "parts", desc := "()I" } : Jvm.MethodName)) : Cond) ∈ lw_g := lwg (List.mem_of_getElem? (i := 199) (by decide +kernel)) (by decide +kernel)
theorem tk_200 : ((Jvm.Cond.instanceMethod ({ cls := "SpectrumParts", name := "parts", desc := "()I" } : Jvm.MethodName)) : Cond) ∈ lw_g := lwg (List.mem_of_getElem? (i := 200) (by decide +kernel)) (by decide +kernel)
theorem tk_203 : ((Jvm.Cond.methodLink "SpectrumParts" (127 : Nat) ({ cls := "SpectrumParts$Mixture", name := "weigh", desc := "(LSpectrumParts$Spectrum;)V" } : Jvm.MethodName)) : Cond) ∈ lw_g := lwg (List.mem_of_getElem? (i := 203) (by decide +kernel)) (by decide +kernel)
theorem tk_204 : ((Jvm.Cond.instanceMethod ({ cls := "SpectrumParts$Mixture", name := "weigh", desc := "(LSpectrumParts$Spectrum;)V" } : Jvm.MethodName)) : Cond) ∈ lw_g := lwg (List.mem_of_getElem? (i := 204) (by decide +kernel)) (by decide +kernel)
theorem tk_207 : ((Jvm.Cond.methodLink "SpectrumParts$Mixture" (51 : Nat) ({ cls := "SpectrumParts$Spectrum", name := "netAt", desc := "(I)I" } : Jvm.MethodName)) : Cond) ∈ lw_g := lwg (List.mem_of_getElem? (i := 207) (by decide +kernel)) (by decide +kernel)
theorem tk_208 : ((Jvm.Cond.instanceMethod ({ cls := "SpectrumParts$Spectrum", name := "netAt", desc := "(I)I" } : Jvm.MethodName)) : Cond) ∈ lw_g := lwg (List.mem_of_getElem? (i := 208) (by decide +kernel)) (by decide +kernel)
theorem tk_211 : ((Jvm.Cond.methodLink "SpectrumParts$Spectrum" (23 : Nat) ({ cls := "java/lang/Math", name := "max", desc := "(II)I" } : Jvm.MethodName)) : Cond) ∈ lw_g := lwg (List.mem_of_getElem? (i := 211) (by decide +kernel)) (by decide +kernel)
theorem tk_212 : ((Jvm.Cond.methodLink "SpectrumParts" (131 : Nat) ({ cls := "SpectrumParts$Mixture", name := "solve", desc := "()I" } : Jvm.MethodName)) : Cond) ∈ lw_g := lwg (List.mem_of_getElem? (i := 212) (by decide +kernel)) (by decide +kernel)
theorem tk_213 : ((Jvm.Cond.instanceMethod ({ cls := "SpectrumParts$Mixture", name := "solve", desc := "()I" } : Jvm.MethodName)) : Cond) ∈ lw_g := lwg (List.mem_of_getElem? (i := 213) (by decide +kernel)) (by decide +kernel)
theorem tk_218 : ((Jvm.Cond.methodLink "SpectrumParts$Mixture" (59 : Nat) ({ cls := "SpectrumParts$Mixture", name := "solveAlone", desc := "(I)Z" } : Jvm.MethodName)) : Cond) ∈ lw_g := lwg (List.mem_of_getElem? (i := 218) (by decide +kernel)) (by decide +kernel)
theorem tk_220 : ((Jvm.Cond.instanceMethod ({ cls := "SpectrumParts$Mixture", name := "solveAlone", desc := "(I)Z" } : Jvm.MethodName)) : Cond) ∈ lw_g := lwg (List.mem_of_getElem? (i := 220) (by decide +kernel)) (by decide +kernel)
theorem tk_222 : ((Jvm.Cond.methodLink "SpectrumParts$Mixture" (67 : Nat) ({ cls := "SpectrumParts$Mixture", name := "layOut", desc := "(I)V" } : Jvm.MethodName)) : Cond) ∈ lw_g := lwg (List.mem_of_getElem? (i := 222) (by decide +kernel)) (by decide +kernel)
theorem tk_224 : ((Jvm.Cond.instanceMethod ({ cls := "SpectrumParts$Mixture", name := "layOut", desc := "(I)V" } : Jvm.MethodName)) : Cond) ∈ lw_g := lwg (List.mem_of_getElem? (i := 224) (by decide +kernel)) (by decide +kernel)
theorem tk_226 : ((Jvm.Cond.methodLink "SpectrumParts$Mixture" (75 : Nat) ({ cls := "SpectrumParts$Mixture", name := "isIn", desc := "(II)Z" } : Jvm.MethodName)) : Cond) ∈ lw_g := lwg (List.mem_of_getElem? (i := 226) (by decide +kernel)) (by decide +kernel)
theorem tk_227 : ((Jvm.Cond.static ({ cls := "SpectrumParts$Mixture", name := "isIn", desc := "(II)Z" } : Jvm.MethodName)) : Cond) ∈ lw_g := lwg (List.mem_of_getElem? (i := 227) (by decide +kernel)) (by decide +kernel)
theorem tk_229 : ((Jvm.Cond.methodLink "SpectrumParts$Mixture" (71 : Nat) ({ cls := "SpectrumParts$Mixture", name := "determinant", desc := "(I)J" } : Jvm.MethodName)) : Cond) ∈ lw_g := lwg (List.mem_of_getElem? (i := 229) (by decide +kernel)) (by decide +kernel)
theorem tk_231 : ((Jvm.Cond.instanceMethod ({ cls := "SpectrumParts$Mixture", name := "determinant", desc := "(I)J" } : Jvm.MethodName)) : Cond) ∈ lw_g := lwg (List.mem_of_getElem? (i := 231) (by decide +kernel)) (by decide +kernel)
theorem tk_233 : ((Jvm.Cond.methodLink "SpectrumParts$Mixture" (79 : Nat) ({ cls := "SpectrumParts$Mixture", name := "cell", desc := "(III)J" } : Jvm.MethodName)) : Cond) ∈ lw_g := lwg (List.mem_of_getElem? (i := 233) (by decide +kernel)) (by decide +kernel)
theorem tk_235 : ((Jvm.Cond.instanceMethod ({ cls := "SpectrumParts$Mixture", name := "cell", desc := "(III)J" } : Jvm.MethodName)) : Cond) ∈ lw_g := lwg (List.mem_of_getElem? (i := 235) (by decide +kernel)) (by decide +kernel)
theorem tk_237 : ((Jvm.Cond.methodLink "SpectrumParts$Mixture" (83 : Nat) ({ cls := "SpectrumParts$Mixture", name := "minor", desc := "(III)J" } : Jvm.MethodName)) : Cond) ∈ lw_g := lwg (List.mem_of_getElem? (i := 237) (by decide +kernel)) (by decide +kernel)
theorem tk_239 : ((Jvm.Cond.instanceMethod ({ cls := "SpectrumParts$Mixture", name := "minor", desc := "(III)J" } : Jvm.MethodName)) : Cond) ∈ lw_g := lwg (List.mem_of_getElem? (i := 239) (by decide +kernel)) (by decide +kernel)
theorem tk_241 : ((Jvm.Cond.methodLink "SpectrumParts$Mixture" (63 : Nat) ({ cls := "SpectrumParts$Mixture", name := "isLeast", desc := "()Z" } : Jvm.MethodName)) : Cond) ∈ lw_g := lwg (List.mem_of_getElem? (i := 241) (by decide +kernel)) (by decide +kernel)
theorem tk_242 : ((Jvm.Cond.instanceMethod ({ cls := "SpectrumParts$Mixture", name := "isLeast", desc := "()Z" } : Jvm.MethodName)) : Cond) ∈ lw_g := lwg (List.mem_of_getElem? (i := 242) (by decide +kernel)) (by decide +kernel)
theorem tk_248 : ((Jvm.Cond.methodLink "SpectrumPartsLaw" (95 : Nat) ({ cls := "SpectrumPartsLaw", name := "told", desc := "(LSpectrumParts;II[J)I" } : Jvm.MethodName)) : Cond) ∈ lw_g := lwg (List.mem_of_getElem? (i := 248) (by decide +kernel)) (by decide +kernel)
theorem tk_249 : ((Jvm.Cond.static ({ cls := "SpectrumPartsLaw", name := "told", desc := "(LSpectrumParts;II[J)I" } : Jvm.MethodName)) : Cond) ∈ lw_g := lwg (List.mem_of_getElem? (i := 249) (by decide +kernel)) (by decide +kernel)
theorem tk_251 : ((Jvm.Cond.classLink "SpectrumPartsLaw" (13 : Nat) "java/lang/IndexOutOfBoundsException") : Cond) ∈ lw_g := lwg (List.mem_of_getElem? (i := 251) (by decide +kernel)) (by decide +kernel)
theorem tk_252 : ((Jvm.Cond.classLink "SpectrumPartsLaw" (15 : Nat) "java/lang/IllegalArgumentException") : Cond) ∈ lw_g := lwg (List.mem_of_getElem? (i := 252) (by decide +kernel)) (by decide +kernel)
theorem tk_253 : ((Jvm.Cond.methodLink "SpectrumPartsLaw" (7 : Nat) ({ cls := "SpectrumParts", name := "told", desc := "(II)I" } : Jvm.MethodName)) : Cond) ∈ lw_g := lwg (List.mem_of_getElem? (i := 253) (by decide +kernel)) (by decide +kernel)
theorem tk_254 : ((Jvm.Cond.instanceMethod ({ cls := "SpectrumParts", name := "told", desc := "(II)I" } : Jvm.MethodName)) : Cond) ∈ lw_g := lwg (List.mem_of_getElem? (i := 254) (by decide +kernel)) (by decide +kernel)
theorem tk_257 : ((Jvm.Cond.methodLink "SpectrumParts" (66 : Nat) ({ cls := "SpectrumParts", name := "needIndex", desc := "(II)V" } : Jvm.MethodName)) : Cond) ∈ lw_g := lwg (List.mem_of_getElem? (i := 257) (by decide +kernel)) (by decide +kernel)
theorem tk_258 : ((Jvm.Cond.static ({ cls := "SpectrumParts", name := "needIndex", desc := "(II)V" } : Jvm.MethodName)) : Cond) ∈ lw_g := lwg (List.mem_of_getElem? (i := 258) (by decide +kernel)) (by decide +kernel)
theorem tk_260 : ((Jvm.Cond.classLink "SpectrumParts" (192 : Nat) "java/lang/IndexOutOfBoundsException") : Cond) ∈ lw_g := lwg (List.mem_of_getElem? (i := 260) (by decide +kernel)) (by decide +kernel)
theorem tk_328 : ((Jvm.Cond.methodLink "SpectrumParts" (70 : Nat) ({ cls := "SpectrumParts", name := "needValue", desc := "(III)V" } : Jvm.MethodName)) : Cond) ∈ lw_g := lwg (List.mem_of_getElem? (i := 328) (by decide +kernel)) (by decide +kernel)
theorem tk_329 : ((Jvm.Cond.static ({ cls := "SpectrumParts", name := "needValue", desc := "(III)V" } : Jvm.MethodName)) : Cond) ∈ lw_g := lwg (List.mem_of_getElem? (i := 329) (by decide +kernel)) (by decide +kernel)
theorem tk_331 : ((Jvm.Cond.classLink "SpectrumParts" (199 : Nat) "java/lang/IllegalArgumentException") : Cond) ∈ lw_g := lwg (List.mem_of_getElem? (i := 331) (by decide +kernel)) (by decide +kernel)
theorem tk_347 : ((Jvm.Cond.methodLink "SpectrumPartsLaw" (102 : Nat) ({ cls := "SpectrumPartsLaw", name := "background", desc := "(LSpectrumParts;I[J)I" } : Jvm.MethodName)) : Cond) ∈ lw_g := lwg (List.mem_of_getElem? (i := 347) (by decide +kernel)) (by decide +kernel)
theorem tk_348 : ((Jvm.Cond.static ({ cls := "SpectrumPartsLaw", name := "background", desc := "(LSpectrumParts;I[J)I" } : Jvm.MethodName)) : Cond) ∈ lw_g := lwg (List.mem_of_getElem? (i := 348) (by decide +kernel)) (by decide +kernel)
theorem tk_350 : ((Jvm.Cond.methodLink "SpectrumPartsLaw" (17 : Nat) ({ cls := "SpectrumParts", name := "background", desc := "(I)I" } : Jvm.MethodName)) : Cond) ∈ lw_g := lwg (List.mem_of_getElem? (i := 350) (by decide +kernel)) (by decide +kernel)
theorem tk_351 : ((Jvm.Cond.instanceMethod ({ cls := "SpectrumParts", name := "background", desc := "(I)I" } : Jvm.MethodName)) : Cond) ∈ lw_g := lwg (List.mem_of_getElem? (i := 351) (by decide +kernel)) (by decide +kernel)
theorem tk_354 : ((Jvm.Cond.methodLink "SpectrumParts" (78 : Nat) ({ cls := "SpectrumParts$Spectrum", name := "lowerFor", desc := "(I)V" } : Jvm.MethodName)) : Cond) ∈ lw_g := lwg (List.mem_of_getElem? (i := 354) (by decide +kernel)) (by decide +kernel)
theorem tk_355 : ((Jvm.Cond.instanceMethod ({ cls := "SpectrumParts$Spectrum", name := "lowerFor", desc := "(I)V" } : Jvm.MethodName)) : Cond) ∈ lw_g := lwg (List.mem_of_getElem? (i := 355) (by decide +kernel)) (by decide +kernel)
theorem tk_358 : ((Jvm.Cond.methodLink "SpectrumParts$Spectrum" (29 : Nat) ({ cls := "java/lang/System", name := "arraycopy", desc := "(Ljava/lang/Object;ILjava/lang/Object;II)V" } : Jvm.MethodName)) : Cond) ∈ lw_g := lwg (List.mem_of_getElem? (i := 358) (by decide +kernel)) (by decide +kernel)
theorem tk_359 : ((Jvm.Cond.static ({ cls := "java/lang/System", name := "arraycopy", desc := "(Ljava/lang/Object;ILjava/lang/Object;II)V" } : Jvm.MethodName)) : Cond) ∈ lw_g := lwg (List.mem_of_getElem? (i := 359) (by decide +kernel)) (by decide +kernel)
theorem tk_360 : ((Jvm.Cond.native ({ cls := "java/lang/System", name := "arraycopy", desc := "(Ljava/lang/Object;ILjava/lang/Object;II)V" } : Jvm.MethodName)) : Cond) ∈ lw_g := lwg (List.mem_of_getElem? (i := 360) (by decide +kernel)) (by decide +kernel)
theorem tk_361 : ((Jvm.Cond.methodLink "SpectrumParts$Spectrum" (35 : Nat) ({ cls := "SpectrumParts$Spectrum", name := "lowerOnce", desc := "(I)V" } : Jvm.MethodName)) : Cond) ∈ lw_g := lwg (List.mem_of_getElem? (i := 361) (by decide +kernel)) (by decide +kernel)
theorem tk_363 : ((Jvm.Cond.instanceMethod ({ cls := "SpectrumParts$Spectrum", name := "lowerOnce", desc := "(I)V" } : Jvm.MethodName)) : Cond) ∈ lw_g := lwg (List.mem_of_getElem? (i := 363) (by decide +kernel)) (by decide +kernel)
theorem tk_365 : ((Jvm.Cond.methodLink "SpectrumParts$Spectrum" (39 : Nat) ({ cls := "java/lang/Math", name := "min", desc := "(II)I" } : Jvm.MethodName)) : Cond) ∈ lw_g := lwg (List.mem_of_getElem? (i := 365) (by decide +kernel)) (by decide +kernel)
theorem tk_366 : ((Jvm.Cond.methodLink "SpectrumParts" (81 : Nat) ({ cls := "SpectrumParts$Spectrum", name := "groundSum", desc := "()I" } : Jvm.MethodName)) : Cond) ∈ lw_g := lwg (List.mem_of_getElem? (i := 366) (by decide +kernel)) (by decide +kernel)
theorem tk_367 : ((Jvm.Cond.instanceMethod ({ cls := "SpectrumParts$Spectrum", name := "groundSum", desc := "()I" } : Jvm.MethodName)) : Cond) ∈ lw_g := lwg (List.mem_of_getElem? (i := 367) (by decide +kernel)) (by decide +kernel)
theorem tk_370 : ((Jvm.Cond.methodLink "SpectrumPartsLaw" (106 : Nat) ({ cls := "SpectrumPartsLaw", name := "lowered", desc := "(LSpectrumParts;I[J)I" } : Jvm.MethodName)) : Cond) ∈ lw_g := lwg (List.mem_of_getElem? (i := 370) (by decide +kernel)) (by decide +kernel)
theorem tk_371 : ((Jvm.Cond.static ({ cls := "SpectrumPartsLaw", name := "lowered", desc := "(LSpectrumParts;I[J)I" } : Jvm.MethodName)) : Cond) ∈ lw_g := lwg (List.mem_of_getElem? (i := 371) (by decide +kernel)) (by decide +kernel)
theorem tk_373 : ((Jvm.Cond.methodLink "SpectrumPartsLaw" (21 : Nat) ({ cls := "SpectrumParts", name := "lowered", desc := "(I)I" } : Jvm.MethodName)) : Cond) ∈ lw_g := lwg (List.mem_of_getElem? (i := 373) (by decide +kernel)) (by decide +kernel)
theorem tk_374 : ((Jvm.Cond.instanceMethod ({ cls := "SpectrumParts", name := "lowered", desc := "(I)I" } : Jvm.MethodName)) : Cond) ∈ lw_g := lwg (List.mem_of_getElem? (i := 374) (by decide +kernel)) (by decide +kernel)
theorem tk_377 : ((Jvm.Cond.methodLink "SpectrumPartsLaw" (109 : Nat) ({ cls := "SpectrumPartsLaw", name := "peaks", desc := "(LSpectrumParts;I[J)I" } : Jvm.MethodName)) : Cond) ∈ lw_g := lwg (List.mem_of_getElem? (i := 377) (by decide +kernel)) (by decide +kernel)
theorem tk_378 : ((Jvm.Cond.static ({ cls := "SpectrumPartsLaw", name := "peaks", desc := "(LSpectrumParts;I[J)I" } : Jvm.MethodName)) : Cond) ∈ lw_g := lwg (List.mem_of_getElem? (i := 378) (by decide +kernel)) (by decide +kernel)
theorem tk_380 : ((Jvm.Cond.methodLink "SpectrumPartsLaw" (24 : Nat) ({ cls := "SpectrumParts", name := "peaks", desc := "(I)I" } : Jvm.MethodName)) : Cond) ∈ lw_g := lwg (List.mem_of_getElem? (i := 380) (by decide +kernel)) (by decide +kernel)
theorem tk_381 : ((Jvm.Cond.instanceMethod ({ cls := "SpectrumParts", name := "peaks", desc := "(I)I" } : Jvm.MethodName)) : Cond) ∈ lw_g := lwg (List.mem_of_getElem? (i := 381) (by decide +kernel)) (by decide +kernel)
theorem tk_384 : ((Jvm.Cond.constant "SpectrumParts" (90 : Nat) (2147483647 : Int32)) : Cond) ∈ lw_g := lwg (List.mem_of_getElem? (i := 384) (by decide +kernel)) (by decide +kernel)
theorem tk_385 : ((Jvm.Cond.methodLink "SpectrumParts" (91 : Nat) ({ cls := "SpectrumParts$PeakList", name := "lookFor", desc := "(LSpectrumParts$Spectrum;I)V" } : Jvm.MethodName)) : Cond) ∈ lw_g := lwg (List.mem_of_getElem? (i := 385) (by decide +kernel)) (by decide +kernel)
theorem tk_386 : ((Jvm.Cond.instanceMethod ({ cls := "SpectrumParts$PeakList", name := "lookFor", desc := "(LSpectrumParts$Spectrum;I)V" } : Jvm.MethodName)) : Cond) ∈ lw_g := lwg (List.mem_of_getElem? (i := 386) (by decide +kernel)) (by decide +kernel)
theorem tk_389 : ((Jvm.Cond.methodLink "SpectrumParts$PeakList" (25 : Nat) ({ cls := "SpectrumParts$Spectrum", name := "netAt", desc := "(I)I" } : Jvm.MethodName)) : Cond) ∈ lw_g := lwg (List.mem_of_getElem? (i := 389) (by decide +kernel)) (by decide +kernel)
theorem tk_390 : ((Jvm.Cond.methodLink "SpectrumParts$PeakList" (29 : Nat) ({ cls := "SpectrumParts$PeakList", name := "isTop", desc := "(LSpectrumParts$Spectrum;I)Z" } : Jvm.MethodName)) : Cond) ∈ lw_g := lwg (List.mem_of_getElem? (i := 390) (by decide +kernel)) (by decide +kernel)
theorem tk_391 : ((Jvm.Cond.static ({ cls := "SpectrumParts$PeakList", name := "isTop", desc := "(LSpectrumParts$Spectrum;I)Z" } : Jvm.MethodName)) : Cond) ∈ lw_g := lwg (List.mem_of_getElem? (i := 391) (by decide +kernel)) (by decide +kernel)
theorem tk_393 : ((Jvm.Cond.methodLink "SpectrumParts$PeakList" (33 : Nat) ({ cls := "SpectrumParts$PeakList", name := "keep", desc := "(LSpectrumParts$Spectrum;I)V" } : Jvm.MethodName)) : Cond) ∈ lw_g := lwg (List.mem_of_getElem? (i := 393) (by decide +kernel)) (by decide +kernel)
theorem tk_395 : ((Jvm.Cond.instanceMethod ({ cls := "SpectrumParts$PeakList", name := "keep", desc := "(LSpectrumParts$Spectrum;I)V" } : Jvm.MethodName)) : Cond) ∈ lw_g := lwg (List.mem_of_getElem? (i := 395) (by decide +kernel)) (by decide +kernel)
theorem tk_397 : ((Jvm.Cond.methodLink "SpectrumParts$PeakList" (37 : Nat) ({ cls := "SpectrumParts$PeakList", name := "firstOfSpan", desc := "(LSpectrumParts$Spectrum;I)I" } : Jvm.MethodName)) : Cond) ∈ lw_g := lwg (List.mem_of_getElem? (i := 397) (by decide +kernel)) (by decide +kernel)
theorem tk_398 : ((Jvm.Cond.static ({ cls := "SpectrumParts$PeakList", name := "firstOfSpan", desc := "(LSpectrumParts$Spectrum;I)I" } : Jvm.MethodName)) : Cond) ∈ lw_g := lwg (List.mem_of_getElem? (i := 398) (by decide +kernel)) (by decide +kernel)
theorem tk_400 : ((Jvm.Cond.methodLink "SpectrumParts$PeakList" (41 : Nat) ({ cls := "SpectrumParts$PeakList", name := "lastOfSpan", desc := "(LSpectrumParts$Spectrum;I)I" } : Jvm.MethodName)) : Cond) ∈ lw_g := lwg (List.mem_of_getElem? (i := 400) (by decide +kernel)) (by decide +kernel)
theorem tk_401 : ((Jvm.Cond.static ({ cls := "SpectrumParts$PeakList", name := "lastOfSpan", desc := "(LSpectrumParts$Spectrum;I)I" } : Jvm.MethodName)) : Cond) ∈ lw_g := lwg (List.mem_of_getElem? (i := 401) (by decide +kernel)) (by decide +kernel)
theorem tk_403 : ((Jvm.Cond.methodLink "SpectrumPartsLaw" (112 : Nat) ({ cls := "SpectrumPartsLaw", name := "peak", desc := "(LSpectrumParts;II[J)I" } : Jvm.MethodName)) : Cond) ∈ lw_g := lwg (List.mem_of_getElem? (i := 403) (by decide +kernel)) (by decide +kernel)
theorem tk_404 : ((Jvm.Cond.static ({ cls := "SpectrumPartsLaw", name := "peak", desc := "(LSpectrumParts;II[J)I" } : Jvm.MethodName)) : Cond) ∈ lw_g := lwg (List.mem_of_getElem? (i := 404) (by decide +kernel)) (by decide +kernel)
theorem tk_406 : ((Jvm.Cond.methodLink "SpectrumPartsLaw" (27 : Nat) ({ cls := "SpectrumParts", name := "peak", desc := "(II)I" } : Jvm.MethodName)) : Cond) ∈ lw_g := lwg (List.mem_of_getElem? (i := 406) (by decide +kernel)) (by decide +kernel)
theorem tk_407 : ((Jvm.Cond.instanceMethod ({ cls := "SpectrumParts", name := "peak", desc := "(II)I" } : Jvm.MethodName)) : Cond) ∈ lw_g := lwg (List.mem_of_getElem? (i := 407) (by decide +kernel)) (by decide +kernel)
theorem tk_410 : ((Jvm.Cond.methodLink "SpectrumPartsLaw" (115 : Nat) ({ cls := "SpectrumPartsLaw", name := "line", desc := "(LSpectrumParts;II[J)I" } : Jvm.MethodName)) : Cond) ∈ lw_g := lwg (List.mem_of_getElem? (i := 410) (by decide +kernel)) (by decide +kernel)
theorem tk_411 : ((Jvm.Cond.static ({ cls := "SpectrumPartsLaw", name := "line", desc := "(LSpectrumParts;II[J)I" } : Jvm.MethodName)) : Cond) ∈ lw_g := lwg (List.mem_of_getElem? (i := 411) (by decide +kernel)) (by decide +kernel)
theorem tk_413 : ((Jvm.Cond.classLink "SpectrumPartsLaw" (33 : Nat) "java/lang/IllegalStateException") : Cond) ∈ lw_g := lwg (List.mem_of_getElem? (i := 413) (by decide +kernel)) (by decide +kernel)
theorem tk_414 : ((Jvm.Cond.methodLink "SpectrumPartsLaw" (30 : Nat) ({ cls := "SpectrumParts", name := "line", desc := "(II)I" } : Jvm.MethodName)) : Cond) ∈ lw_g := lwg (List.mem_of_getElem? (i := 414) (by decide +kernel)) (by decide +kernel)
theorem tk_415 : ((Jvm.Cond.instanceMethod ({ cls := "SpectrumParts", name := "line", desc := "(II)I" } : Jvm.MethodName)) : Cond) ∈ lw_g := lwg (List.mem_of_getElem? (i := 415) (by decide +kernel)) (by decide +kernel)
theorem tk_418 : ((Jvm.Cond.methodLink "SpectrumParts" (105 : Nat) ({ cls := "SpectrumParts", name := "needState", desc := "(Z)V" } : Jvm.MethodName)) : Cond) ∈ lw_g := lwg (List.mem_of_getElem? (i := 418) (by decide +kernel)) (by decide +kernel)
theorem tk_419 : ((Jvm.Cond.static ({ cls := "SpectrumParts", name := "needState", desc := "(Z)V" } : Jvm.MethodName)) : Cond) ∈ lw_g := lwg (List.mem_of_getElem? (i := 419) (by decide +kernel)) (by decide +kernel)
theorem tk_421 : ((Jvm.Cond.classLink "SpectrumParts" (204 : Nat) "java/lang/IllegalStateException") : Cond) ∈ lw_g := lwg (List.mem_of_getElem? (i := 421) (by decide +kernel)) (by decide +kernel)
theorem tk_437 : ((Jvm.Cond.methodLink "SpectrumParts" (109 : Nat) ({ cls := "SpectrumParts$LineTable", name := "add", desc := "(II)I" } : Jvm.MethodName)) : Cond) ∈ lw_g := lwg (List.mem_of_getElem? (i := 437) (by decide +kernel)) (by decide +kernel)
theorem tk_438 : ((Jvm.Cond.instanceMethod ({ cls := "SpectrumParts$LineTable", name := "add", desc := "(II)I" } : Jvm.MethodName)) : Cond) ∈ lw_g := lwg (List.mem_of_getElem? (i := 438) (by decide +kernel)) (by decide +kernel)
theorem tk_441 : ((Jvm.Cond.methodLink "SpectrumPartsLaw" (118 : Nat) ({ cls := "SpectrumPartsLaw", name := "element", desc := "(LSpectrumParts;II[J)I" } : Jvm.MethodName)) : Cond) ∈ lw_g := lwg (List.mem_of_getElem? (i := 441) (by decide +kernel)) (by decide +kernel)
theorem tk_442 : ((Jvm.Cond.static ({ cls := "SpectrumPartsLaw", name := "element", desc := "(LSpectrumParts;II[J)I" } : Jvm.MethodName)) : Cond) ∈ lw_g := lwg (List.mem_of_getElem? (i := 442) (by decide +kernel)) (by decide +kernel)
theorem tk_444 : ((Jvm.Cond.methodLink "SpectrumPartsLaw" (35 : Nat) ({ cls := "SpectrumParts", name := "element", desc := "(II)I" } : Jvm.MethodName)) : Cond) ∈ lw_g := lwg (List.mem_of_getElem? (i := 444) (by decide +kernel)) (by decide +kernel)
theorem tk_445 : ((Jvm.Cond.instanceMethod ({ cls := "SpectrumParts", name := "element", desc := "(II)I" } : Jvm.MethodName)) : Cond) ∈ lw_g := lwg (List.mem_of_getElem? (i := 445) (by decide +kernel)) (by decide +kernel)
theorem tk_448 : ((Jvm.Cond.methodLink "SpectrumParts" (112 : Nat) ({ cls := "SpectrumParts$LineTable", name := "nearest", desc := "(II)I" } : Jvm.MethodName)) : Cond) ∈ lw_g := lwg (List.mem_of_getElem? (i := 448) (by decide +kernel)) (by decide +kernel)
theorem tk_449 : ((Jvm.Cond.instanceMethod ({ cls := "SpectrumParts$LineTable", name := "nearest", desc := "(II)I" } : Jvm.MethodName)) : Cond) ∈ lw_g := lwg (List.mem_of_getElem? (i := 449) (by decide +kernel)) (by decide +kernel)
theorem tk_452 : ((Jvm.Cond.methodLink "SpectrumParts$LineTable" (20 : Nat) ({ cls := "java/lang/Math", name := "abs", desc := "(I)I" } : Jvm.MethodName)) : Cond) ∈ lw_g := lwg (List.mem_of_getElem? (i := 452) (by decide +kernel)) (by decide +kernel)
theorem tk_453 : ((Jvm.Cond.static ({ cls := "java/lang/Math", name := "abs", desc := "(I)I" } : Jvm.MethodName)) : Cond) ∈ lw_g := lwg (List.mem_of_getElem? (i := 453) (by decide +kernel)) (by decide +kernel)
theorem tk_454 : ((Jvm.Cond.code ({ cls := "java/lang/Math", name := "abs", desc := "(I)I" } : Jvm.MethodName) prog_14_method_59_code (1 : Nat) (Option.some Jvm.ClassFile.FieldType.int)) : Cond) ∈ lw_g := lwg (List.mem_of_getElem? (i := 454) (by decide +kernel)) (by decide +kernel)
theorem tk_455 : ((Jvm.Cond.methodLink "SpectrumPartsLaw" (121 : Nat) ({ cls := "SpectrumPartsLaw", name := "detect", desc := "(LSpectrumParts;I[J)I" } : Jvm.MethodName)) : Cond) ∈ lw_g := lwg (List.mem_of_getElem? (i := 455) (by decide +kernel)) (by decide +kernel)
theorem tk_456 : ((Jvm.Cond.static ({ cls := "SpectrumPartsLaw", name := "detect", desc := "(LSpectrumParts;I[J)I" } : Jvm.MethodName)) : Cond) ∈ lw_g := lwg (List.mem_of_getElem? (i := 456) (by decide +kernel)) (by decide +kernel)
theorem tk_458 : ((Jvm.Cond.methodLink "SpectrumPartsLaw" (38 : Nat) ({ cls := "SpectrumParts", name := "detect", desc := "(I)I" } : Jvm.MethodName)) : Cond) ∈ lw_g := lwg (List.mem_of_getElem? (i := 458) (by decide +kernel)) (by decide +kernel)
theorem tk_459 : ((Jvm.Cond.instanceMethod ({ cls := "SpectrumParts", name := "detect", desc := "(I)I" } : Jvm.MethodName)) : Cond) ∈ lw_g := lwg (List.mem_of_getElem? (i := 459) (by decide +kernel)) (by decide +kernel)
theorem tk_462 : ((Jvm.Cond.methodLink "SpectrumParts" (115 : Nat) ({ cls := "SpectrumParts$LineTable", name := "isAtOrNextTo", desc := "(II)Z" } : Jvm.MethodName)) : Cond) ∈ lw_g := lwg (List.mem_of_getElem? (i := 462) (by decide +kernel)) (by decide +kernel)
theorem tk_463 : ((Jvm.Cond.instanceMethod ({ cls := "SpectrumParts$LineTable", name := "isAtOrNextTo", desc := "(II)Z" } : Jvm.MethodName)) : Cond) ∈ lw_g := lwg (List.mem_of_getElem? (i := 463) (by decide +kernel)) (by decide +kernel)
theorem tk_466 : ((Jvm.Cond.methodLink "SpectrumParts" (119 : Nat) ({ cls := "SpectrumParts", name := "rootDown", desc := "(I)I" } : Jvm.MethodName)) : Cond) ∈ lw_g := lwg (List.mem_of_getElem? (i := 466) (by decide +kernel)) (by decide +kernel)
theorem tk_467 : ((Jvm.Cond.static ({ cls := "SpectrumParts", name := "rootDown", desc := "(I)I" } : Jvm.MethodName)) : Cond) ∈ lw_g := lwg (List.mem_of_getElem? (i := 467) (by decide +kernel)) (by decide +kernel)
theorem tk_469 : ((Jvm.Cond.methodLink "SpectrumPartsLaw" (124 : Nat) ({ cls := "SpectrumPartsLaw", name := "library", desc := "(LSpectrumParts;[J)I" } : Jvm.MethodName)) : Cond) ∈ lw_g := lwg (List.mem_of_getElem? (i := 469) (by decide +kernel)) (by decide +kernel)
theorem tk_470 : ((Jvm.Cond.static ({ cls := "SpectrumPartsLaw", name := "library", desc := "(LSpectrumParts;[J)I" } : Jvm.MethodName)) : Cond) ∈ lw_g := lwg (List.mem_of_getElem? (i := 470) (by decide +kernel)) (by decide +kernel)
theorem tk_472 : ((Jvm.Cond.methodLink "SpectrumPartsLaw" (41 : Nat) ({ cls := "SpectrumParts", name := "library", desc := "()I" } : Jvm.MethodName)) : Cond) ∈ lw_g := lwg (List.mem_of_getElem? (i := 472) (by decide +kernel)) (by decide +kernel)
theorem tk_473 : ((Jvm.Cond.instanceMethod ({ cls := "SpectrumParts", name := "library", desc := "()I" } : Jvm.MethodName)) : Cond) ∈ lw_g := lwg (List.mem_of_getElem? (i := 473) (by decide +kernel)) (by decide +kernel)
theorem tk_476 : ((Jvm.Cond.methodLink "SpectrumPartsLaw" (128 : Nat) ({ cls := "SpectrumPartsLaw", name := "entry", desc := "(LSpectrumParts;III[J)I" } : Jvm.MethodName)) : Cond) ∈ lw_g := lwg (List.mem_of_getElem? (i := 476) (by decide +kernel)) (by decide +kernel)
theorem tk_477 : ((Jvm.Cond.static ({ cls := "SpectrumPartsLaw", name := "entry", desc := "(LSpectrumParts;III[J)I" } : Jvm.MethodName)) : Cond) ∈ lw_g := lwg (List.mem_of_getElem? (i := 477) (by decide +kernel)) (by decide +kernel)
theorem tk_479 : ((Jvm.Cond.methodLink "SpectrumPartsLaw" (45 : Nat) ({ cls := "SpectrumParts", name := "entry", desc := "(III)I" } : Jvm.MethodName)) : Cond) ∈ lw_g := lwg (List.mem_of_getElem? (i := 479) (by decide +kernel)) (by decide +kernel)
theorem tk_480 : ((Jvm.Cond.instanceMethod ({ cls := "SpectrumParts", name := "entry", desc := "(III)I" } : Jvm.MethodName)) : Cond) ∈ lw_g := lwg (List.mem_of_getElem? (i := 480) (by decide +kernel)) (by decide +kernel)
theorem tk_483 : ((Jvm.Cond.methodLink "SpectrumPartsLaw" (136 : Nat) ({ cls := "SpectrumPartsLaw", name := "share", desc := "(LSpectrumParts;II[J)I" } : Jvm.MethodName)) : Cond) ∈ lw_g := lwg (List.mem_of_getElem? (i := 483) (by decide +kernel)) (by decide +kernel)
theorem tk_484 : ((Jvm.Cond.static ({ cls := "SpectrumPartsLaw", name := "share", desc := "(LSpectrumParts;II[J)I" } : Jvm.MethodName)) : Cond) ∈ lw_g := lwg (List.mem_of_getElem? (i := 484) (by decide +kernel)) (by decide +kernel)
theorem tk_486 : ((Jvm.Cond.methodLink "SpectrumPartsLaw" (49 : Nat) ({ cls := "SpectrumParts", name := "share", desc := "(II)J" } : Jvm.MethodName)) : Cond) ∈ lw_g := lwg (List.mem_of_getElem? (i := 486) (by decide +kernel)) (by decide +kernel)
theorem tk_487 : ((Jvm.Cond.instanceMethod ({ cls := "SpectrumParts", name := "share", desc := "(II)J" } : Jvm.MethodName)) : Cond) ∈ lw_g := lwg (List.mem_of_getElem? (i := 487) (by decide +kernel)) (by decide +kernel)
theorem tk_490 : ((Jvm.Cond.methodLink "SpectrumParts" (146 : Nat) ({ cls := "SpectrumParts", name := "lessened", desc := "(JJI)J" } : Jvm.MethodName)) : Cond) ∈ lw_g := lwg (List.mem_of_getElem? (i := 490) (by decide +kernel)) (by decide +kernel)
theorem tk_491 : ((Jvm.Cond.static ({ cls := "SpectrumParts", name := "lessened", desc := "(JJI)J" } : Jvm.MethodName)) : Cond) ∈ lw_g := lwg (List.mem_of_getElem? (i := 491) (by decide +kernel)) (by decide +kernel)
theorem tk_493 : ((Jvm.Cond.methodLink "SpectrumParts" (209 : Nat) ({ cls := "SpectrumParts", name := "greatestDivisor", desc := "(JJ)J" } : Jvm.MethodName)) : Cond) ∈ lw_g := lwg (List.mem_of_getElem? (i := 493) (by decide +kernel)) (by decide +kernel)
theorem tk_494 : ((Jvm.Cond.static ({ cls := "SpectrumParts", name := "greatestDivisor", desc := "(JJ)J" } : Jvm.MethodName)) : Cond) ∈ lw_g := lwg (List.mem_of_getElem? (i := 494) (by decide +kernel)) (by decide +kernel)
theorem tk_496 : ((Jvm.Cond.methodLink "SpectrumPartsLaw" (139 : Nat) ({ cls := "SpectrumPartsLaw", name := "least", desc := "(LSpectrumParts;[J)I" } : Jvm.MethodName)) : Cond) ∈ lw_g := lwg (List.mem_of_getElem? (i := 496) (by decide +kernel)) (by decide +kernel)
theorem tk_497 : ((Jvm.Cond.static ({ cls := "SpectrumPartsLaw", name := "least", desc := "(LSpectrumParts;[J)I" } : Jvm.MethodName)) : Cond) ∈ lw_g := lwg (List.mem_of_getElem? (i := 497) (by decide +kernel)) (by decide +kernel)
theorem tk_499 : ((Jvm.Cond.methodLink "SpectrumPartsLaw" (53 : Nat) ({ cls := "SpectrumParts", name := "least", desc := "()Z" } : Jvm.MethodName)) : Cond) ∈ lw_g := lwg (List.mem_of_getElem? (i := 499) (by decide +kernel)) (by decide +kernel)
theorem tk_500 : ((Jvm.Cond.instanceMethod ({ cls := "SpectrumParts", name := "least", desc := "()Z" } : Jvm.MethodName)) : Cond) ∈ lw_g := lwg (List.mem_of_getElem? (i := 500) (by decide +kernel)) (by decide +kernel)
theorem tk_503 : ((Jvm.Cond.methodLink "SpectrumParts" (150 : Nat) ({ cls := "SpectrumParts$Mixture", name := "isLeast", desc := "()Z" } : Jvm.MethodName)) : Cond) ∈ lw_g := lwg (List.mem_of_getElem? (i := 503) (by decide +kernel)) (by decide +kernel)
theorem tk_504 : ((Jvm.Cond.methodLink "SpectrumPartsLaw" (142 : Nat) ({ cls := "SpectrumPartsLaw", name := "sample", desc := "(LSpectrumParts;[J)I" } : Jvm.MethodName)) : Cond) ∈ lw_g := lwg (List.mem_of_getElem? (i := 504) (by decide +kernel)) (by decide +kernel)
theorem tk_505 : ((Jvm.Cond.static ({ cls := "SpectrumPartsLaw", name := "sample", desc := "(LSpectrumParts;[J)I" } : Jvm.MethodName)) : Cond) ∈ lw_g := lwg (List.mem_of_getElem? (i := 505) (by decide +kernel)) (by decide +kernel)
theorem tk_507 : ((Jvm.Cond.methodLink "SpectrumPartsLaw" (57 : Nat) ({ cls := "SpectrumParts", name := "sample", desc := "()I" } : Jvm.MethodName)) : Cond) ∈ lw_g := lwg (List.mem_of_getElem? (i := 507) (by decide +kernel)) (by decide +kernel)
theorem tk_508 : ((Jvm.Cond.instanceMethod ({ cls := "SpectrumParts", name := "sample", desc := "()I" } : Jvm.MethodName)) : Cond) ∈ lw_g := lwg (List.mem_of_getElem? (i := 508) (by decide +kernel)) (by decide +kernel)
theorem tk_511 : ((Jvm.Cond.methodLink "SpectrumPartsLaw" (145 : Nat) ({ cls := "SpectrumPartsLaw", name := "measured", desc := "(LSpectrumParts;III[J)I" } : Jvm.MethodName)) : Cond) ∈ lw_g := lwg (List.mem_of_getElem? (i := 511) (by decide +kernel)) (by decide +kernel)
theorem tk_512 : ((Jvm.Cond.static ({ cls := "SpectrumPartsLaw", name := "measured", desc := "(LSpectrumParts;III[J)I" } : Jvm.MethodName)) : Cond) ∈ lw_g := lwg (List.mem_of_getElem? (i := 512) (by decide +kernel)) (by decide +kernel)
theorem tk_514 : ((Jvm.Cond.methodLink "SpectrumPartsLaw" (60 : Nat) ({ cls := "SpectrumParts", name := "measured", desc := "(III)I" } : Jvm.MethodName)) : Cond) ∈ lw_g := lwg (List.mem_of_getElem? (i := 514) (by decide +kernel)) (by decide +kernel)
theorem tk_515 : ((Jvm.Cond.instanceMethod ({ cls := "SpectrumParts", name := "measured", desc := "(III)I" } : Jvm.MethodName)) : Cond) ∈ lw_g := lwg (List.mem_of_getElem? (i := 515) (by decide +kernel)) (by decide +kernel)
theorem tk_518 : ((Jvm.Cond.methodLink "SpectrumPartsLaw" (148 : Nat) ({ cls := "SpectrumPartsLaw", name := "covariance", desc := "(LSpectrumParts;III)I" } : Jvm.MethodName)) : Cond) ∈ lw_g := lwg (List.mem_of_getElem? (i := 518) (by decide +kernel)) (by decide +kernel)
theorem tk_519 : ((Jvm.Cond.static ({ cls := "SpectrumPartsLaw", name := "covariance", desc := "(LSpectrumParts;III)I" } : Jvm.MethodName)) : Cond) ∈ lw_g := lwg (List.mem_of_getElem? (i := 519) (by decide +kernel)) (by decide +kernel)
theorem tk_521 : ((Jvm.Cond.methodLink "SpectrumPartsLaw" (63 : Nat) ({ cls := "SpectrumParts", name := "covariance", desc := "(III)V" } : Jvm.MethodName)) : Cond) ∈ lw_g := lwg (List.mem_of_getElem? (i := 521) (by decide +kernel)) (by decide +kernel)
theorem tk_522 : ((Jvm.Cond.instanceMethod ({ cls := "SpectrumParts", name := "covariance", desc := "(III)V" } : Jvm.MethodName)) : Cond) ∈ lw_g := lwg (List.mem_of_getElem? (i := 522) (by decide +kernel)) (by decide +kernel)
theorem tk_525 : ((Jvm.Cond.methodLink "SpectrumPartsLaw" (152 : Nat) ({ cls := "SpectrumPartsLaw", name := "distance", desc := "(LSpectrumParts;III[J)I" } : Jvm.MethodName)) : Cond) ∈ lw_g := lwg (List.mem_of_getElem? (i := 525) (by decide +kernel)) (by decide +kernel)
theorem tk_526 : ((Jvm.Cond.static ({ cls := "SpectrumPartsLaw", name := "distance", desc := "(LSpectrumParts;III[J)I" } : Jvm.MethodName)) : Cond) ∈ lw_g := lwg (List.mem_of_getElem? (i := 526) (by decide +kernel)) (by decide +kernel)
theorem tk_528 : ((Jvm.Cond.methodLink "SpectrumPartsLaw" (67 : Nat) ({ cls := "SpectrumParts", name := "distance", desc := "(III)J" } : Jvm.MethodName)) : Cond) ∈ lw_g := lwg (List.mem_of_getElem? (i := 528) (by decide +kernel)) (by decide +kernel)
theorem tk_529 : ((Jvm.Cond.instanceMethod ({ cls := "SpectrumParts", name := "distance", desc := "(III)J" } : Jvm.MethodName)) : Cond) ∈ lw_g := lwg (List.mem_of_getElem? (i := 529) (by decide +kernel)) (by decide +kernel)
theorem tk_532 : ((Jvm.Cond.methodLink "SpectrumParts" (167 : Nat) ({ cls := "SpectrumParts$SampleSet", name := "apartAbove", desc := "(II)J" } : Jvm.MethodName)) : Cond) ∈ lw_g := lwg (List.mem_of_getElem? (i := 532) (by decide +kernel)) (by decide +kernel)
theorem tk_533 : ((Jvm.Cond.instanceMethod ({ cls := "SpectrumParts$SampleSet", name := "apartAbove", desc := "(II)J" } : Jvm.MethodName)) : Cond) ∈ lw_g := lwg (List.mem_of_getElem? (i := 533) (by decide +kernel)) (by decide +kernel)
theorem tk_536 : ((Jvm.Cond.constantLong "SpectrumParts$SampleSet" (34 : Nat) (2 : Int64)) : Cond) ∈ lw_g := lwg (List.mem_of_getElem? (i := 536) (by decide +kernel)) (by decide +kernel)
theorem tk_537 : ((Jvm.Cond.methodLink "SpectrumParts" (171 : Nat) ({ cls := "SpectrumParts$SampleSet", name := "apartBelow", desc := "()J" } : Jvm.MethodName)) : Cond) ∈ lw_g := lwg (List.mem_of_getElem? (i := 537) (by decide +kernel)) (by decide +kernel)
theorem tk_538 : ((Jvm.Cond.instanceMethod ({ cls := "SpectrumParts$SampleSet", name := "apartBelow", desc := "()J" } : Jvm.MethodName)) : Cond) ∈ lw_g := lwg (List.mem_of_getElem? (i := 538) (by decide +kernel)) (by decide +kernel)
theorem tk_541 : ((Jvm.Cond.methodLink "SpectrumPartsLaw" (155 : Nat) ({ cls := "SpectrumPartsLaw", name := "group", desc := "(LSpectrumParts;II[J)I" } : Jvm.MethodName)) : Cond) ∈ lw_g := lwg (List.mem_of_getElem? (i := 541) (by decide +kernel)) (by decide +kernel)
theorem tk_542 : ((Jvm.Cond.static ({ cls := "SpectrumPartsLaw", name := "group", desc := "(LSpectrumParts;II[J)I" } : Jvm.MethodName)) : Cond) ∈ lw_g := lwg (List.mem_of_getElem? (i := 542) (by decide +kernel)) (by decide +kernel)
theorem tk_544 : ((Jvm.Cond.methodLink "SpectrumPartsLaw" (71 : Nat) ({ cls := "SpectrumParts", name := "group", desc := "(II)I" } : Jvm.MethodName)) : Cond) ∈ lw_g := lwg (List.mem_of_getElem? (i := 544) (by decide +kernel)) (by decide +kernel)
theorem tk_545 : ((Jvm.Cond.instanceMethod ({ cls := "SpectrumParts", name := "group", desc := "(II)I" } : Jvm.MethodName)) : Cond) ∈ lw_g := lwg (List.mem_of_getElem? (i := 545) (by decide +kernel)) (by decide +kernel)
theorem tk_548 : ((Jvm.Cond.methodLink "SpectrumParts" (175 : Nat) ({ cls := "SpectrumParts$SampleSet", name := "lowestJoined", desc := "(II)I" } : Jvm.MethodName)) : Cond) ∈ lw_g := lwg (List.mem_of_getElem? (i := 548) (by decide +kernel)) (by decide +kernel)
theorem tk_549 : ((Jvm.Cond.instanceMethod ({ cls := "SpectrumParts$SampleSet", name := "lowestJoined", desc := "(II)I" } : Jvm.MethodName)) : Cond) ∈ lw_g := lwg (List.mem_of_getElem? (i := 549) (by decide +kernel)) (by decide +kernel)
theorem tk_552 : ((Jvm.Cond.methodLink "SpectrumParts$SampleSet" (36 : Nat) ({ cls := "SpectrumParts$SampleSet", name := "joinOnce", desc := "(I)V" } : Jvm.MethodName)) : Cond) ∈ lw_g := lwg (List.mem_of_getElem? (i := 552) (by decide +kernel)) (by decide +kernel)
theorem tk_554 : ((Jvm.Cond.instanceMethod ({ cls := "SpectrumParts$SampleSet", name := "joinOnce", desc := "(I)V" } : Jvm.MethodName)) : Cond) ∈ lw_g := lwg (List.mem_of_getElem? (i := 554) (by decide +kernel)) (by decide +kernel)
theorem tk_556 : ((Jvm.Cond.methodLink "SpectrumParts$SampleSet" (40 : Nat) ({ cls := "SpectrumParts$SampleSet", name := "apartBelow", desc := "()J" } : Jvm.MethodName)) : Cond) ∈ lw_g := lwg (List.mem_of_getElem? (i := 556) (by decide +kernel)) (by decide +kernel)
theorem tk_557 : ((Jvm.Cond.methodLink "SpectrumParts$SampleSet" (44 : Nat) ({ cls := "SpectrumParts$SampleSet", name := "apartAbove", desc := "(II)J" } : Jvm.MethodName)) : Cond) ∈ lw_g := lwg (List.mem_of_getElem? (i := 557) (by decide +kernel)) (by decide +kernel)
theorem tk_558 : ((Jvm.Cond.methodLink "SpectrumPartsLaw" (158 : Nat) ({ cls := "SpectrumPartsLaw", name := "standard", desc := "(LSpectrumParts;II[J)I" } : Jvm.MethodName)) : Cond) ∈ lw_g := lwg (List.mem_of_getElem? (i := 558) (by decide +kernel)) (by decide +kernel)
theorem tk_559 : ((Jvm.Cond.static ({ cls := "SpectrumPartsLaw", name := "standard", desc := "(LSpectrumParts;II[J)I" } : Jvm.MethodName)) : Cond) ∈ lw_g := lwg (List.mem_of_getElem? (i := 559) (by decide +kernel)) (by decide +kernel)
theorem tk_561 : ((Jvm.Cond.methodLink "SpectrumPartsLaw" (74 : Nat) ({ cls := "SpectrumParts", name := "standard", desc := "(II)I" } : Jvm.MethodName)) : Cond) ∈ lw_g := lwg (List.mem_of_getElem? (i := 561) (by decide +kernel)) (by decide +kernel)
theorem tk_562 : ((Jvm.Cond.instanceMethod ({ cls := "SpectrumParts", name := "standard", desc := "(II)I" } : Jvm.MethodName)) : Cond) ∈ lw_g := lwg (List.mem_of_getElem? (i := 562) (by decide +kernel)) (by decide +kernel)
theorem tk_565 : ((Jvm.Cond.constant "SpectrumParts" (178 : Nat) (100000 : Int32)) : Cond) ∈ lw_g := lwg (List.mem_of_getElem? (i := 565) (by decide +kernel)) (by decide +kernel)
theorem tk_566 : ((Jvm.Cond.methodLink "SpectrumParts" (179 : Nat) ({ cls := "SpectrumParts$StandardList", name := "placeOf", desc := "(I)I" } : Jvm.MethodName)) : Cond) ∈ lw_g := lwg (List.mem_of_getElem? (i := 566) (by decide +kernel)) (by decide +kernel)
theorem tk_567 : ((Jvm.Cond.instanceMethod ({ cls := "SpectrumParts$StandardList", name := "placeOf", desc := "(I)I" } : Jvm.MethodName)) : Cond) ∈ lw_g := lwg (List.mem_of_getElem? (i := 567) (by decide +kernel)) (by decide +kernel)
theorem tk_570 : ((Jvm.Cond.methodLink "SpectrumParts" (182 : Nat) ({ cls := "SpectrumParts$StandardList", name := "put", desc := "(III)V" } : Jvm.MethodName)) : Cond) ∈ lw_g := lwg (List.mem_of_getElem? (i := 570) (by decide +kernel)) (by decide +kernel)
theorem tk_571 : ((Jvm.Cond.instanceMethod ({ cls := "SpectrumParts$StandardList", name := "put", desc := "(III)V" } : Jvm.MethodName)) : Cond) ∈ lw_g := lwg (List.mem_of_getElem? (i := 571) (by decide +kernel)) (by decide +kernel)
theorem tk_574 : ((Jvm.Cond.methodLink "SpectrumParts$StandardList" (22 : Nat) ({ cls := "java/lang/Math", name := "max", desc := "(II)I" } : Jvm.MethodName)) : Cond) ∈ lw_g := lwg (List.mem_of_getElem? (i := 574) (by decide +kernel)) (by decide +kernel)
theorem tk_575 : ((Jvm.Cond.methodLink "SpectrumPartsLaw" (161 : Nat) ({ cls := "SpectrumPartsLaw", name := "corrected", desc := "(LSpectrumParts;II[J)I" } : Jvm.MethodName)) : Cond) ∈ lw_g := lwg (List.mem_of_getElem? (i := 575) (by decide +kernel)) (by decide +kernel)
theorem tk_576 : ((Jvm.Cond.static ({ cls := "SpectrumPartsLaw", name := "corrected", desc := "(LSpectrumParts;II[J)I" } : Jvm.MethodName)) : Cond) ∈ lw_g := lwg (List.mem_of_getElem? (i := 576) (by decide +kernel)) (by decide +kernel)
theorem tk_578 : ((Jvm.Cond.methodLink "SpectrumPartsLaw" (77 : Nat) ({ cls := "SpectrumParts", name := "corrected", desc := "(II)J" } : Jvm.MethodName)) : Cond) ∈ lw_g := lwg (List.mem_of_getElem? (i := 578) (by decide +kernel)) (by decide +kernel)
theorem tk_579 : ((Jvm.Cond.instanceMethod ({ cls := "SpectrumParts", name := "corrected", desc := "(II)J" } : Jvm.MethodName)) : Cond) ∈ lw_g := lwg (List.mem_of_getElem? (i := 579) (by decide +kernel)) (by decide +kernel)
theorem tk_582 : ((Jvm.Cond.constant "SpectrumParts" (186 : Nat) (1000000 : Int32)) : Cond) ∈ lw_g := lwg (List.mem_of_getElem? (i := 582) (by decide +kernel)) (by decide +kernel)
theorem tk_583 : ((Jvm.Cond.methodLink "SpectrumParts" (187 : Nat) ({ cls := "SpectrumParts$StandardList", name := "factorOn", desc := "(I)I" } : Jvm.MethodName)) : Cond) ∈ lw_g := lwg (List.mem_of_getElem? (i := 583) (by decide +kernel)) (by decide +kernel)
theorem tk_584 : ((Jvm.Cond.instanceMethod ({ cls := "SpectrumParts$StandardList", name := "factorOn", desc := "(I)I" } : Jvm.MethodName)) : Cond) ∈ lw_g := lwg (List.mem_of_getElem? (i := 584) (by decide +kernel)) (by decide +kernel)
theorem tk_587 : ((Jvm.Cond.methodLink "SpectrumParts$StandardList" (28 : Nat) ({ cls := "SpectrumParts$StandardList", name := "onLine", desc := "(III)I" } : Jvm.MethodName)) : Cond) ∈ lw_g := lwg (List.mem_of_getElem? (i := 587) (by decide +kernel)) (by decide +kernel)
theorem tk_589 : ((Jvm.Cond.instanceMethod ({ cls := "SpectrumParts$StandardList", name := "onLine", desc := "(III)I" } : Jvm.MethodName)) : Cond) ∈ lw_g := lwg (List.mem_of_getElem? (i := 589) (by decide +kernel)) (by decide +kernel)
theorem tk_591 : ((Jvm.Cond.methodLink "SpectrumParts$StandardList" (32 : Nat) ({ cls := "java/lang/Math", name := "floorDiv", desc := "(II)I" } : Jvm.MethodName)) : Cond) ∈ lw_g := lwg (List.mem_of_getElem? (i := 591) (by decide +kernel)) (by decide +kernel)
theorem tk_592 : ((Jvm.Cond.static ({ cls := "java/lang/Math", name := "floorDiv", desc := "(II)I" } : Jvm.MethodName)) : Cond) ∈ lw_g := lwg (List.mem_of_getElem? (i := 592) (by decide +kernel)) (by decide +kernel)
theorem tk_594 : ((Jvm.Cond.constantLong "SpectrumParts" (190 : Nat) (1000 : Int64)) : Cond) ∈ lw_g := lwg (List.mem_of_getElem? (i := 594) (by decide +kernel)) (by decide +kernel)
theorem tk_595 : ((Jvm.Cond.methodLink "SpectrumPartsLaw" (164 : Nat) ({ cls := "SpectrumPartsLaw", name := "count", desc := "(LSpectrumParts;I[J)I" } : Jvm.MethodName)) : Cond) ∈ lw_g := lwg (List.mem_of_getElem? (i := 595) (by decide +kernel)) (by decide +kernel)
theorem tk_596 : ((Jvm.Cond.static ({ cls := "SpectrumPartsLaw", name := "count", desc := "(LSpectrumParts;I[J)I" } : Jvm.MethodName)) : Cond) ∈ lw_g := lwg (List.mem_of_getElem? (i := 596) (by decide +kernel)) (by decide +kernel)
theorem tk_598 : ((Jvm.Cond.methodLink "SpectrumPartsLaw" (80 : Nat) ({ cls := "SpectrumParts", name := "count", desc := "(I)I" } : Jvm.MethodName)) : Cond) ∈ lw_g := lwg (List.mem_of_getElem? (i := 598) (by decide +kernel)) (by decide +kernel)
theorem tk_599 : ((Jvm.Cond.instanceMethod ({ cls := "SpectrumParts", name := "count", desc := "(I)I" } : Jvm.MethodName)) : Cond) ∈ lw_g := lwg (List.mem_of_getElem? (i := 599) (by decide +kernel)) (by decide +kernel)
theorem tk_607 : ((Jvm.Cond.methodLink "SpectrumPartsModel" (1 : Nat) ({ cls := "java/lang/Object", name := "<init>", desc := "()V" } : Jvm.MethodName)) : Cond) ∈ lw_g := lwg (List.mem_of_getElem? (i := 607) (by decide +kernel)) (by decide +kernel)
theorem tk_608 : ((Jvm.Cond.fieldLink "SpectrumPartsModel" (61 : Nat) "SpectrumPartsModel" "thrown" "I") : Cond) ∈ lw_g := lwg (List.mem_of_getElem? (i := 608) (by decide +kernel)) (by decide +kernel)
theorem tk_609 : ((Jvm.Cond.fieldLink "SpectrumPartsModel" (58 : Nat) "SpectrumPartsModel" "channels" "I") : Cond) ∈ lw_g := lwg (List.mem_of_getElem? (i := 609) (by decide +kernel)) (by decide +kernel)
theorem tk_610 : ((Jvm.Cond.fieldLink "SpectrumPartsModel" (7 : Nat) "SpectrumPartsModel" "counts" "[I") : Cond) ∈ lw_g := lwg (List.mem_of_getElem? (i := 610) (by decide +kernel)) (by decide +kernel)
theorem tk_611 : ((Jvm.Cond.fieldLink "SpectrumPartsModel" (13 : Nat) "SpectrumPartsModel" "backs" "[I") : Cond) ∈ lw_g := lwg (List.mem_of_getElem? (i := 611) (by decide +kernel)) (by decide +kernel)
theorem tk_612 : ((Jvm.Cond.fieldLink "SpectrumPartsModel" (16 : Nat) "SpectrumPartsModel" "next" "[I") : Cond) ∈ lw_g := lwg (List.mem_of_getElem? (i := 612) (by decide +kernel)) (by decide +kernel)
theorem tk_613 : ((Jvm.Cond.fieldLink "SpectrumPartsModel" (80 : Nat) "SpectrumPartsModel" "peaks" "I") : Cond) ∈ lw_g := lwg (List.mem_of_getElem? (i := 613) (by decide +kernel)) (by decide +kernel)
theorem tk_614 : ((Jvm.Cond.fieldLink "SpectrumPartsModel" (19 : Nat) "SpectrumPartsModel" "found" "[I") : Cond) ∈ lw_g := lwg (List.mem_of_getElem? (i := 614) (by decide +kernel)) (by decide +kernel)
theorem tk_615 : ((Jvm.Cond.fieldLink "SpectrumPartsModel" (22 : Nat) "SpectrumPartsModel" "lines" "[I") : Cond) ∈ lw_g := lwg (List.mem_of_getElem? (i := 615) (by decide +kernel)) (by decide +kernel)
theorem tk_616 : ((Jvm.Cond.fieldLink "SpectrumPartsModel" (25 : Nat) "SpectrumPartsModel" "lineMany" "[I") : Cond) ∈ lw_g := lwg (List.mem_of_getElem? (i := 616) (by decide +kernel)) (by decide +kernel)
theorem tk_617 : ((Jvm.Cond.fieldLink "SpectrumPartsModel" (94 : Nat) "SpectrumPartsModel" "libraries" "I") : Cond) ∈ lw_g := lwg (List.mem_of_getElem? (i := 617) (by decide +kernel)) (by decide +kernel)
theorem tk_618 : ((Jvm.Cond.fieldLink "SpectrumPartsModel" (28 : Nat) "SpectrumPartsModel" "entries" "[I") : Cond) ∈ lw_g := lwg (List.mem_of_getElem? (i := 618) (by decide +kernel)) (by decide +kernel)
theorem tk_619 : ((Jvm.Cond.fieldLink "SpectrumPartsModel" (31 : Nat) "SpectrumPartsModel" "sums" "[J") : Cond) ∈ lw_g := lwg (List.mem_of_getElem? (i := 619) (by decide +kernel)) (by decide +kernel)
theorem tk_620 : ((Jvm.Cond.fieldLink "SpectrumPartsModel" (124 : Nat) "SpectrumPartsModel" "solved" "Z") : Cond) ∈ lw_g := lwg (List.mem_of_getElem? (i := 620) (by decide +kernel)) (by decide +kernel)
theorem tk_621 : ((Jvm.Cond.fieldLink "SpectrumPartsModel" (35 : Nat) "SpectrumPartsModel" "aboves" "[J") : Cond) ∈ lw_g := lwg (List.mem_of_getElem? (i := 621) (by decide +kernel)) (by decide +kernel)
theorem tk_622 : ((Jvm.Cond.fieldLink "SpectrumPartsModel" (38 : Nat) "SpectrumPartsModel" "under" "J") : Cond) ∈ lw_g := lwg (List.mem_of_getElem? (i := 622) (by decide +kernel)) (by decide +kernel)
theorem tk_623 : ((Jvm.Cond.fieldLink "SpectrumPartsModel" (138 : Nat) "SpectrumPartsModel" "samples" "I") : Cond) ∈ lw_g := lwg (List.mem_of_getElem? (i := 623) (by decide +kernel)) (by decide +kernel)
theorem tk_624 : ((Jvm.Cond.fieldLink "SpectrumPartsModel" (42 : Nat) "SpectrumPartsModel" "measures" "[I") : Cond) ∈ lw_g := lwg (List.mem_of_getElem? (i := 624) (by decide +kernel)) (by decide +kernel)
theorem tk_625 : ((Jvm.Cond.fieldLink "SpectrumPartsModel" (45 : Nat) "SpectrumPartsModel" "a" "I") : Cond) ∈ lw_g := lwg (List.mem_of_getElem? (i := 625) (by decide +kernel)) (by decide +kernel)
theorem tk_626 : ((Jvm.Cond.fieldLink "SpectrumPartsModel" (144 : Nat) "SpectrumPartsModel" "b" "I") : Cond) ∈ lw_g := lwg (List.mem_of_getElem? (i := 626) (by decide +kernel)) (by decide +kernel)
theorem tk_627 : ((Jvm.Cond.fieldLink "SpectrumPartsModel" (49 : Nat) "SpectrumPartsModel" "c" "I") : Cond) ∈ lw_g := lwg (List.mem_of_getElem? (i := 627) (by decide +kernel)) (by decide +kernel)
theorem tk_628 : ((Jvm.Cond.fieldLink "SpectrumPartsModel" (152 : Nat) "SpectrumPartsModel" "standards" "I") : Cond) ∈ lw_g := lwg (List.mem_of_getElem? (i := 628) (by decide +kernel)) (by decide +kernel)
theorem tk_629 : ((Jvm.Cond.fieldLink "SpectrumPartsModel" (52 : Nat) "SpectrumPartsModel" "days" "[I") : Cond) ∈ lw_g := lwg (List.mem_of_getElem? (i := 629) (by decide +kernel)) (by decide +kernel)
theorem tk_630 : ((Jvm.Cond.fieldLink "SpectrumPartsModel" (55 : Nat) "SpectrumPartsModel" "factors" "[I") : Cond) ∈ lw_g := lwg (List.mem_of_getElem? (i := 630) (by decide +kernel)) (by decide +kernel)
theorem tk_631 : ((Jvm.Cond.fieldLink "SpectrumPartsModel" (128 : Nat) "SpectrumPartsModel" "above" "J") : Cond) ∈ lw_g := lwg (List.mem_of_getElem? (i := 631) (by decide +kernel)) (by decide +kernel)
theorem tk_632 : ((Jvm.Cond.fieldLink "SpectrumPartsModel" (131 : Nat) "SpectrumPartsModel" "below" "J") : Cond) ∈ lw_g := lwg (List.mem_of_getElem? (i := 632) (by decide +kernel)) (by decide +kernel)
theorem tk_684 : ((Jvm.Cond.methodLink "SpectrumPartsLaw" (99 : Nat) ({ cls := "SpectrumPartsModel", name := "thrown", desc := "()I" } : Jvm.MethodName)) : Cond) ∈ lw_g := lwg (List.mem_of_getElem? (i := 684) (by decide +kernel)) (by decide +kernel)
theorem tk_685 : ((Jvm.Cond.instanceMethod ({ cls := "SpectrumPartsModel", name := "thrown", desc := "()I" } : Jvm.MethodName)) : Cond) ∈ lw_g := lwg (List.mem_of_getElem? (i := 685) (by decide +kernel)) (by decide +kernel)
theorem tk_688 : ((Jvm.Cond.methodLink "SpectrumPartsLaw" (98 : Nat) ({ cls := "SpectrumPartsModel", name := "told", desc := "(II)I" } : Jvm.MethodName)) : Cond) ∈ lw_g := lwg (List.mem_of_getElem? (i := 688) (by decide +kernel)) (by decide +kernel)
theorem tk_689 : ((Jvm.Cond.instanceMethod ({ cls := "SpectrumPartsModel", name := "told", desc := "(II)I" } : Jvm.MethodName)) : Cond) ∈ lw_g := lwg (List.mem_of_getElem? (i := 689) (by decide +kernel)) (by decide +kernel)
theorem tk_692 : ((Jvm.Cond.methodLink "SpectrumPartsModel" (68 : Nat) ({ cls := "SpectrumPartsModel", name := "isChannel", desc := "(I)Z" } : Jvm.MethodName)) : Cond) ∈ lw_g := lwg (List.mem_of_getElem? (i := 692) (by decide +kernel)) (by decide +kernel)
theorem tk_694 : ((Jvm.Cond.instanceMethod ({ cls := "SpectrumPartsModel", name := "isChannel", desc := "(I)Z" } : Jvm.MethodName)) : Cond) ∈ lw_g := lwg (List.mem_of_getElem? (i := 694) (by decide +kernel)) (by decide +kernel)
theorem tk_696 : ((Jvm.Cond.methodLink "SpectrumPartsModel" (64 : Nat) ({ cls := "SpectrumPartsModel", name := "within", desc := "(III)Z" } : Jvm.MethodName)) : Cond) ∈ lw_g := lwg (List.mem_of_getElem? (i := 696) (by decide +kernel)) (by decide +kernel)
theorem tk_697 : ((Jvm.Cond.static ({ cls := "SpectrumPartsModel", name := "within", desc := "(III)Z" } : Jvm.MethodName)) : Cond) ∈ lw_g := lwg (List.mem_of_getElem? (i := 697) (by decide +kernel)) (by decide +kernel)
theorem tk_699 : ((Jvm.Cond.methodLink "SpectrumPartsModel" (72 : Nat) ({ cls := "SpectrumPartsModel", name := "goes", desc := "(ZZZ)Z" } : Jvm.MethodName)) : Cond) ∈ lw_g := lwg (List.mem_of_getElem? (i := 699) (by decide +kernel)) (by decide +kernel)
theorem tk_701 : ((Jvm.Cond.instanceMethod ({ cls := "SpectrumPartsModel", name := "goes", desc := "(ZZZ)Z" } : Jvm.MethodName)) : Cond) ∈ lw_g := lwg (List.mem_of_getElem? (i := 701) (by decide +kernel)) (by decide +kernel)
theorem tk_703 : ((Jvm.Cond.methodLink "SpectrumPartsLaw" (105 : Nat) ({ cls := "SpectrumPartsModel", name := "background", desc := "(I)I" } : Jvm.MethodName)) : Cond) ∈ lw_g := lwg (List.mem_of_getElem? (i := 703) (by decide +kernel)) (by decide +kernel)
theorem tk_704 : ((Jvm.Cond.instanceMethod ({ cls := "SpectrumPartsModel", name := "background", desc := "(I)I" } : Jvm.MethodName)) : Cond) ∈ lw_g := lwg (List.mem_of_getElem? (i := 704) (by decide +kernel)) (by decide +kernel)
theorem tk_707 : ((Jvm.Cond.methodLink "SpectrumPartsLaw" (108 : Nat) ({ cls := "SpectrumPartsModel", name := "lowered", desc := "(I)I" } : Jvm.MethodName)) : Cond) ∈ lw_g := lwg (List.mem_of_getElem? (i := 707) (by decide +kernel)) (by decide +kernel)
theorem tk_708 : ((Jvm.Cond.instanceMethod ({ cls := "SpectrumPartsModel", name := "lowered", desc := "(I)I" } : Jvm.MethodName)) : Cond) ∈ lw_g := lwg (List.mem_of_getElem? (i := 708) (by decide +kernel)) (by decide +kernel)
theorem tk_711 : ((Jvm.Cond.methodLink "SpectrumPartsLaw" (111 : Nat) ({ cls := "SpectrumPartsModel", name := "peaks", desc := "(I)I" } : Jvm.MethodName)) : Cond) ∈ lw_g := lwg (List.mem_of_getElem? (i := 711) (by decide +kernel)) (by decide +kernel)
theorem tk_712 : ((Jvm.Cond.instanceMethod ({ cls := "SpectrumPartsModel", name := "peaks", desc := "(I)I" } : Jvm.MethodName)) : Cond) ∈ lw_g := lwg (List.mem_of_getElem? (i := 712) (by decide +kernel)) (by decide +kernel)
theorem tk_715 : ((Jvm.Cond.methodLink "SpectrumPartsModel" (83 : Nat) ({ cls := "SpectrumPartsModel", name := "isPeak", desc := "(II)Z" } : Jvm.MethodName)) : Cond) ∈ lw_g := lwg (List.mem_of_getElem? (i := 715) (by decide +kernel)) (by decide +kernel)
theorem tk_717 : ((Jvm.Cond.instanceMethod ({ cls := "SpectrumPartsModel", name := "isPeak", desc := "(II)Z" } : Jvm.MethodName)) : Cond) ∈ lw_g := lwg (List.mem_of_getElem? (i := 717) (by decide +kernel)) (by decide +kernel)
theorem tk_719 : ((Jvm.Cond.methodLink "SpectrumPartsModel" (76 : Nat) ({ cls := "SpectrumPartsModel", name := "net", desc := "(I)I" } : Jvm.MethodName)) : Cond) ∈ lw_g := lwg (List.mem_of_getElem? (i := 719) (by decide +kernel)) (by decide +kernel)
theorem tk_721 : ((Jvm.Cond.instanceMethod ({ cls := "SpectrumPartsModel", name := "net", desc := "(I)I" } : Jvm.MethodName)) : Cond) ∈ lw_g := lwg (List.mem_of_getElem? (i := 721) (by decide +kernel)) (by decide +kernel)
theorem tk_723 : ((Jvm.Cond.methodLink "SpectrumPartsModel" (87 : Nat) ({ cls := "SpectrumPartsModel", name := "add", desc := "(I)V" } : Jvm.MethodName)) : Cond) ∈ lw_g := lwg (List.mem_of_getElem? (i := 723) (by decide +kernel)) (by decide +kernel)
theorem tk_725 : ((Jvm.Cond.instanceMethod ({ cls := "SpectrumPartsModel", name := "add", desc := "(I)V" } : Jvm.MethodName)) : Cond) ∈ lw_g := lwg (List.mem_of_getElem? (i := 725) (by decide +kernel)) (by decide +kernel)
theorem tk_727 : ((Jvm.Cond.methodLink "SpectrumPartsLaw" (114 : Nat) ({ cls := "SpectrumPartsModel", name := "peak", desc := "(II)I" } : Jvm.MethodName)) : Cond) ∈ lw_g := lwg (List.mem_of_getElem? (i := 727) (by decide +kernel)) (by decide +kernel)
theorem tk_728 : ((Jvm.Cond.instanceMethod ({ cls := "SpectrumPartsModel", name := "peak", desc := "(II)I" } : Jvm.MethodName)) : Cond) ∈ lw_g := lwg (List.mem_of_getElem? (i := 728) (by decide +kernel)) (by decide +kernel)
theorem tk_731 : ((Jvm.Cond.methodLink "SpectrumPartsModel" (91 : Nat) ({ cls := "SpectrumPartsModel", name := "isFound", desc := "(I)Z" } : Jvm.MethodName)) : Cond) ∈ lw_g := lwg (List.mem_of_getElem? (i := 731) (by decide +kernel)) (by decide +kernel)
theorem tk_733 : ((Jvm.Cond.instanceMethod ({ cls := "SpectrumPartsModel", name := "isFound", desc := "(I)Z" } : Jvm.MethodName)) : Cond) ∈ lw_g := lwg (List.mem_of_getElem? (i := 733) (by decide +kernel)) (by decide +kernel)
theorem tk_735 : ((Jvm.Cond.methodLink "SpectrumPartsLaw" (117 : Nat) ({ cls := "SpectrumPartsModel", name := "line", desc := "(II)I" } : Jvm.MethodName)) : Cond) ∈ lw_g := lwg (List.mem_of_getElem? (i := 735) (by decide +kernel)) (by decide +kernel)
theorem tk_736 : ((Jvm.Cond.instanceMethod ({ cls := "SpectrumPartsModel", name := "line", desc := "(II)I" } : Jvm.MethodName)) : Cond) ∈ lw_g := lwg (List.mem_of_getElem? (i := 736) (by decide +kernel)) (by decide +kernel)
theorem tk_739 : ((Jvm.Cond.methodLink "SpectrumPartsLaw" (120 : Nat) ({ cls := "SpectrumPartsModel", name := "element", desc := "(II)I" } : Jvm.MethodName)) : Cond) ∈ lw_g := lwg (List.mem_of_getElem? (i := 739) (by decide +kernel)) (by decide +kernel)
theorem tk_740 : ((Jvm.Cond.instanceMethod ({ cls := "SpectrumPartsModel", name := "element", desc := "(II)I" } : Jvm.MethodName)) : Cond) ∈ lw_g := lwg (List.mem_of_getElem? (i := 740) (by decide +kernel)) (by decide +kernel)
theorem tk_743 : ((Jvm.Cond.methodLink "SpectrumPartsLaw" (123 : Nat) ({ cls := "SpectrumPartsModel", name := "detect", desc := "(I)I" } : Jvm.MethodName)) : Cond) ∈ lw_g := lwg (List.mem_of_getElem? (i := 743) (by decide +kernel)) (by decide +kernel)
theorem tk_744 : ((Jvm.Cond.instanceMethod ({ cls := "SpectrumPartsModel", name := "detect", desc := "(I)I" } : Jvm.MethodName)) : Cond) ∈ lw_g := lwg (List.mem_of_getElem? (i := 744) (by decide +kernel)) (by decide +kernel)
theorem tk_747 : ((Jvm.Cond.methodLink "SpectrumPartsLaw" (127 : Nat) ({ cls := "SpectrumPartsModel", name := "library", desc := "()I" } : Jvm.MethodName)) : Cond) ∈ lw_g := lwg (List.mem_of_getElem? (i := 747) (by decide +kernel)) (by decide +kernel)
theorem tk_748 : ((Jvm.Cond.instanceMethod ({ cls := "SpectrumPartsModel", name := "library", desc := "()I" } : Jvm.MethodName)) : Cond) ∈ lw_g := lwg (List.mem_of_getElem? (i := 748) (by decide +kernel)) (by decide +kernel)
theorem tk_751 : ((Jvm.Cond.methodLink "SpectrumPartsLaw" (131 : Nat) ({ cls := "SpectrumPartsModel", name := "entry", desc := "(III)I" } : Jvm.MethodName)) : Cond) ∈ lw_g := lwg (List.mem_of_getElem? (i := 751) (by decide +kernel)) (by decide +kernel)
theorem tk_752 : ((Jvm.Cond.instanceMethod ({ cls := "SpectrumPartsModel", name := "entry", desc := "(III)I" } : Jvm.MethodName)) : Cond) ∈ lw_g := lwg (List.mem_of_getElem? (i := 752) (by decide +kernel)) (by decide +kernel)
theorem tk_755 : ((Jvm.Cond.methodLink "SpectrumPartsLaw" (135 : Nat) ({ cls := "SpectrumPartsModel", name := "parts", desc := "()I" } : Jvm.MethodName)) : Cond) ∈ lw_g := lwg (List.mem_of_getElem? (i := 755) (by decide +kernel)) (by decide +kernel)
theorem tk_756 : ((Jvm.Cond.instanceMethod ({ cls := "SpectrumPartsModel", name := "parts", desc := "()I" } : Jvm.MethodName)) : Cond) ∈ lw_g := lwg (List.mem_of_getElem? (i := 756) (by decide +kernel)) (by decide +kernel)
theorem tk_759 : ((Jvm.Cond.methodLink "SpectrumPartsModel" (115 : Nat) ({ cls := "SpectrumPartsModel", name := "addUp", desc := "()V" } : Jvm.MethodName)) : Cond) ∈ lw_g := lwg (List.mem_of_getElem? (i := 759) (by decide +kernel)) (by decide +kernel)
theorem tk_761 : ((Jvm.Cond.instanceMethod ({ cls := "SpectrumPartsModel", name := "addUp", desc := "()V" } : Jvm.MethodName)) : Cond) ∈ lw_g := lwg (List.mem_of_getElem? (i := 761) (by decide +kernel)) (by decide +kernel)
theorem tk_763 : ((Jvm.Cond.methodLink "SpectrumPartsModel" (118 : Nat) ({ cls := "SpectrumPartsModel", name := "many", desc := "(I)I" } : Jvm.MethodName)) : Cond) ∈ lw_g := lwg (List.mem_of_getElem? (i := 763) (by decide +kernel)) (by decide +kernel)
theorem tk_764 : ((Jvm.Cond.static ({ cls := "SpectrumPartsModel", name := "many", desc := "(I)I" } : Jvm.MethodName)) : Cond) ∈ lw_g := lwg (List.mem_of_getElem? (i := 764) (by decide +kernel)) (by decide +kernel)
theorem tk_766 : ((Jvm.Cond.methodLink "SpectrumPartsModel" (121 : Nat) ({ cls := "SpectrumPartsModel", name := "isLeast", desc := "(I)Z" } : Jvm.MethodName)) : Cond) ∈ lw_g := lwg (List.mem_of_getElem? (i := 766) (by decide +kernel)) (by decide +kernel)
theorem tk_768 : ((Jvm.Cond.instanceMethod ({ cls := "SpectrumPartsModel", name := "isLeast", desc := "(I)Z" } : Jvm.MethodName)) : Cond) ∈ lw_g := lwg (List.mem_of_getElem? (i := 768) (by decide +kernel)) (by decide +kernel)
theorem tk_770 : ((Jvm.Cond.methodLink "SpectrumPartsModel" (104 : Nat) ({ cls := "SpectrumPartsModel", name := "determinant", desc := "(II)J" } : Jvm.MethodName)) : Cond) ∈ lw_g := lwg (List.mem_of_getElem? (i := 770) (by decide +kernel)) (by decide +kernel)
theorem tk_772 : ((Jvm.Cond.instanceMethod ({ cls := "SpectrumPartsModel", name := "determinant", desc := "(II)J" } : Jvm.MethodName)) : Cond) ∈ lw_g := lwg (List.mem_of_getElem? (i := 772) (by decide +kernel)) (by decide +kernel)
theorem tk_774 : ((Jvm.Cond.methodLink "SpectrumPartsModel" (100 : Nat) ({ cls := "SpectrumPartsModel", name := "cell", desc := "(IIII)J" } : Jvm.MethodName)) : Cond) ∈ lw_g := lwg (List.mem_of_getElem? (i := 774) (by decide +kernel)) (by decide +kernel)
theorem tk_776 : ((Jvm.Cond.instanceMethod ({ cls := "SpectrumPartsModel", name := "cell", desc := "(IIII)J" } : Jvm.MethodName)) : Cond) ∈ lw_g := lwg (List.mem_of_getElem? (i := 776) (by decide +kernel)) (by decide +kernel)
theorem tk_778 : ((Jvm.Cond.methodLink "SpectrumPartsModel" (97 : Nat) ({ cls := "SpectrumPartsModel", name := "isIn", desc := "(II)Z" } : Jvm.MethodName)) : Cond) ∈ lw_g := lwg (List.mem_of_getElem? (i := 778) (by decide +kernel)) (by decide +kernel)
theorem tk_779 : ((Jvm.Cond.static ({ cls := "SpectrumPartsModel", name := "isIn", desc := "(II)Z" } : Jvm.MethodName)) : Cond) ∈ lw_g := lwg (List.mem_of_getElem? (i := 779) (by decide +kernel)) (by decide +kernel)
theorem tk_781 : ((Jvm.Cond.methodLink "SpectrumPartsModel" (108 : Nat) ({ cls := "SpectrumPartsModel", name := "shareOf", desc := "(II)J" } : Jvm.MethodName)) : Cond) ∈ lw_g := lwg (List.mem_of_getElem? (i := 781) (by decide +kernel)) (by decide +kernel)
theorem tk_783 : ((Jvm.Cond.instanceMethod ({ cls := "SpectrumPartsModel", name := "shareOf", desc := "(II)J" } : Jvm.MethodName)) : Cond) ∈ lw_g := lwg (List.mem_of_getElem? (i := 783) (by decide +kernel)) (by decide +kernel)
theorem tk_785 : ((Jvm.Cond.methodLink "SpectrumPartsModel" (111 : Nat) ({ cls := "SpectrumPartsModel", name := "pull", desc := "(IJJJJ)J" } : Jvm.MethodName)) : Cond) ∈ lw_g := lwg (List.mem_of_getElem? (i := 785) (by decide +kernel)) (by decide +kernel)
theorem tk_787 : ((Jvm.Cond.instanceMethod ({ cls := "SpectrumPartsModel", name := "pull", desc := "(IJJJJ)J" } : Jvm.MethodName)) : Cond) ∈ lw_g := lwg (List.mem_of_getElem? (i := 787) (by decide +kernel)) (by decide +kernel)
theorem tk_789 : ((Jvm.Cond.methodLink "SpectrumPartsLaw" (138 : Nat) ({ cls := "SpectrumPartsModel", name := "share", desc := "(II)J" } : Jvm.MethodName)) : Cond) ∈ lw_g := lwg (List.mem_of_getElem? (i := 789) (by decide +kernel)) (by decide +kernel)
theorem tk_790 : ((Jvm.Cond.instanceMethod ({ cls := "SpectrumPartsModel", name := "share", desc := "(II)J" } : Jvm.MethodName)) : Cond) ∈ lw_g := lwg (List.mem_of_getElem? (i := 790) (by decide +kernel)) (by decide +kernel)
theorem tk_793 : ((Jvm.Cond.methodLink "SpectrumPartsModel" (134 : Nat) ({ cls := "SpectrumPartsModel", name := "fraction", desc := "(JJ)V" } : Jvm.MethodName)) : Cond) ∈ lw_g := lwg (List.mem_of_getElem? (i := 793) (by decide +kernel)) (by decide +kernel)
theorem tk_795 : ((Jvm.Cond.instanceMethod ({ cls := "SpectrumPartsModel", name := "fraction", desc := "(JJ)V" } : Jvm.MethodName)) : Cond) ∈ lw_g := lwg (List.mem_of_getElem? (i := 795) (by decide +kernel)) (by decide +kernel)
theorem tk_797 : ((Jvm.Cond.methodLink "SpectrumPartsLaw" (141 : Nat) ({ cls := "SpectrumPartsModel", name := "least", desc := "()Z" } : Jvm.MethodName)) : Cond) ∈ lw_g := lwg (List.mem_of_getElem? (i := 797) (by decide +kernel)) (by decide +kernel)
theorem tk_798 : ((Jvm.Cond.instanceMethod ({ cls := "SpectrumPartsModel", name := "least", desc := "()Z" } : Jvm.MethodName)) : Cond) ∈ lw_g := lwg (List.mem_of_getElem? (i := 798) (by decide +kernel)) (by decide +kernel)
theorem tk_801 : ((Jvm.Cond.methodLink "SpectrumPartsLaw" (144 : Nat) ({ cls := "SpectrumPartsModel", name := "sample", desc := "()I" } : Jvm.MethodName)) : Cond) ∈ lw_g := lwg (List.mem_of_getElem? (i := 801) (by decide +kernel)) (by decide +kernel)
theorem tk_802 : ((Jvm.Cond.instanceMethod ({ cls := "SpectrumPartsModel", name := "sample", desc := "()I" } : Jvm.MethodName)) : Cond) ∈ lw_g := lwg (List.mem_of_getElem? (i := 802) (by decide +kernel)) (by decide +kernel)
theorem tk_805 : ((Jvm.Cond.methodLink "SpectrumPartsLaw" (147 : Nat) ({ cls := "SpectrumPartsModel", name := "measured", desc := "(III)I" } : Jvm.MethodName)) : Cond) ∈ lw_g := lwg (List.mem_of_getElem? (i := 805) (by decide +kernel)) (by decide +kernel)
theorem tk_806 : ((Jvm.Cond.instanceMethod ({ cls := "SpectrumPartsModel", name := "measured", desc := "(III)I" } : Jvm.MethodName)) : Cond) ∈ lw_g := lwg (List.mem_of_getElem? (i := 806) (by decide +kernel)) (by decide +kernel)
theorem tk_809 : ((Jvm.Cond.methodLink "SpectrumPartsModel" (141 : Nat) ({ cls := "SpectrumPartsModel", name := "isSample", desc := "(I)Z" } : Jvm.MethodName)) : Cond) ∈ lw_g := lwg (List.mem_of_getElem? (i := 809) (by decide +kernel)) (by decide +kernel)
theorem tk_811 : ((Jvm.Cond.instanceMethod ({ cls := "SpectrumPartsModel", name := "isSample", desc := "(I)Z" } : Jvm.MethodName)) : Cond) ∈ lw_g := lwg (List.mem_of_getElem? (i := 811) (by decide +kernel)) (by decide +kernel)
theorem tk_813 : ((Jvm.Cond.methodLink "SpectrumPartsLaw" (151 : Nat) ({ cls := "SpectrumPartsModel", name := "covariance", desc := "(III)V" } : Jvm.MethodName)) : Cond) ∈ lw_g := lwg (List.mem_of_getElem? (i := 813) (by decide +kernel)) (by decide +kernel)
theorem tk_814 : ((Jvm.Cond.instanceMethod ({ cls := "SpectrumPartsModel", name := "covariance", desc := "(III)V" } : Jvm.MethodName)) : Cond) ∈ lw_g := lwg (List.mem_of_getElem? (i := 814) (by decide +kernel)) (by decide +kernel)
theorem tk_817 : ((Jvm.Cond.methodLink "SpectrumPartsLaw" (154 : Nat) ({ cls := "SpectrumPartsModel", name := "distance", desc := "(III)J" } : Jvm.MethodName)) : Cond) ∈ lw_g := lwg (List.mem_of_getElem? (i := 817) (by decide +kernel)) (by decide +kernel)
theorem tk_818 : ((Jvm.Cond.instanceMethod ({ cls := "SpectrumPartsModel", name := "distance", desc := "(III)J" } : Jvm.MethodName)) : Cond) ∈ lw_g := lwg (List.mem_of_getElem? (i := 818) (by decide +kernel)) (by decide +kernel)
theorem tk_821 : ((Jvm.Cond.methodLink "SpectrumPartsModel" (149 : Nat) ({ cls := "SpectrumPartsModel", name := "apart", desc := "(II)J" } : Jvm.MethodName)) : Cond) ∈ lw_g := lwg (List.mem_of_getElem? (i := 821) (by decide +kernel)) (by decide +kernel)
theorem tk_823 : ((Jvm.Cond.instanceMethod ({ cls := "SpectrumPartsModel", name := "apart", desc := "(II)J" } : Jvm.MethodName)) : Cond) ∈ lw_g := lwg (List.mem_of_getElem? (i := 823) (by decide +kernel)) (by decide +kernel)
theorem tk_825 : ((Jvm.Cond.constantLong "SpectrumPartsModel" (147 : Nat) (2 : Int64)) : Cond) ∈ lw_g := lwg (List.mem_of_getElem? (i := 825) (by decide +kernel)) (by decide +kernel)
theorem tk_826 : ((Jvm.Cond.methodLink "SpectrumPartsLaw" (157 : Nat) ({ cls := "SpectrumPartsModel", name := "group", desc := "(II)I" } : Jvm.MethodName)) : Cond) ∈ lw_g := lwg (List.mem_of_getElem? (i := 826) (by decide +kernel)) (by decide +kernel)
theorem tk_827 : ((Jvm.Cond.instanceMethod ({ cls := "SpectrumPartsModel", name := "group", desc := "(II)I" } : Jvm.MethodName)) : Cond) ∈ lw_g := lwg (List.mem_of_getElem? (i := 827) (by decide +kernel)) (by decide +kernel)
theorem tk_830 : ((Jvm.Cond.methodLink "SpectrumPartsLaw" (160 : Nat) ({ cls := "SpectrumPartsModel", name := "standard", desc := "(II)I" } : Jvm.MethodName)) : Cond) ∈ lw_g := lwg (List.mem_of_getElem? (i := 830) (by decide +kernel)) (by decide +kernel)
theorem tk_831 : ((Jvm.Cond.instanceMethod ({ cls := "SpectrumPartsModel", name := "standard", desc := "(II)I" } : Jvm.MethodName)) : Cond) ∈ lw_g := lwg (List.mem_of_getElem? (i := 831) (by decide +kernel)) (by decide +kernel)
theorem tk_834 : ((Jvm.Cond.constant "SpectrumPartsModel" (155 : Nat) (100000 : Int32)) : Cond) ∈ lw_g := lwg (List.mem_of_getElem? (i := 834) (by decide +kernel)) (by decide +kernel)
theorem tk_835 : ((Jvm.Cond.methodLink "SpectrumPartsLaw" (163 : Nat) ({ cls := "SpectrumPartsModel", name := "corrected", desc := "(II)J" } : Jvm.MethodName)) : Cond) ∈ lw_g := lwg (List.mem_of_getElem? (i := 835) (by decide +kernel)) (by decide +kernel)
theorem tk_836 : ((Jvm.Cond.instanceMethod ({ cls := "SpectrumPartsModel", name := "corrected", desc := "(II)J" } : Jvm.MethodName)) : Cond) ∈ lw_g := lwg (List.mem_of_getElem? (i := 836) (by decide +kernel)) (by decide +kernel)
theorem tk_839 : ((Jvm.Cond.constant "SpectrumPartsModel" (156 : Nat) (1000000 : Int32)) : Cond) ∈ lw_g := lwg (List.mem_of_getElem? (i := 839) (by decide +kernel)) (by decide +kernel)
theorem tk_840 : ((Jvm.Cond.constantLong "SpectrumPartsModel" (157 : Nat) (1000 : Int64)) : Cond) ∈ lw_g := lwg (List.mem_of_getElem? (i := 840) (by decide +kernel)) (by decide +kernel)
theorem tk_841 : ((Jvm.Cond.methodLink "SpectrumPartsModel" (159 : Nat) ({ cls := "SpectrumPartsModel", name := "factorOf", desc := "(I)I" } : Jvm.MethodName)) : Cond) ∈ lw_g := lwg (List.mem_of_getElem? (i := 841) (by decide +kernel)) (by decide +kernel)
theorem tk_843 : ((Jvm.Cond.instanceMethod ({ cls := "SpectrumPartsModel", name := "factorOf", desc := "(I)I" } : Jvm.MethodName)) : Cond) ∈ lw_g := lwg (List.mem_of_getElem? (i := 843) (by decide +kernel)) (by decide +kernel)
theorem tk_845 : ((Jvm.Cond.methodLink "SpectrumPartsLaw" (166 : Nat) ({ cls := "SpectrumPartsModel", name := "count", desc := "(I)I" } : Jvm.MethodName)) : Cond) ∈ lw_g := lwg (List.mem_of_getElem? (i := 845) (by decide +kernel)) (by decide +kernel)
theorem tk_846 : ((Jvm.Cond.instanceMethod ({ cls := "SpectrumPartsModel", name := "count", desc := "(I)I" } : Jvm.MethodName)) : Cond) ∈ lw_g := lwg (List.mem_of_getElem? (i := 846) (by decide +kernel)) (by decide +kernel)
