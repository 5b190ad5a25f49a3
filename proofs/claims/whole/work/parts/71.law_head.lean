theorem tk_17 : ((Jvm.Cond.classLink "SpectrumPartsLaw" (8 : Nat) "SpectrumParts") : Cond) ∈ lw_g := lwg (List.mem_of_getElem? (i := 17) (by decide +kernel)) (by decide +kernel)
theorem tk_18 : ((Jvm.Cond.instantiable "SpectrumParts" (6 : Nat)) : Cond) ∈ lw_g := lwg (List.mem_of_getElem? (i := 18) (by decide +kernel)) (by decide +kernel)
theorem tk_19 : ((Jvm.Cond.methodLink "SpectrumPartsLaw" (89 : Nat) ({ cls := "SpectrumParts", name := "<init>", desc := "(I)V" } : Jvm.MethodName)) : Cond) ∈ lw_g := lwg (List.mem_of_getElem? (i := 19) (by decide +kernel)) (by decide +kernel)
theorem tk_20 : ((Jvm.Cond.instanceMethod ({ cls := "SpectrumParts", name := "<init>", desc := "(I)V" } : Jvm.MethodName)) : Cond) ∈ lw_g := lwg (List.mem_of_getElem? (i := 20) (by decide +kernel)) (by decide +kernel)
theorem tk_245 : ((Jvm.Cond.methodLink "SpectrumPartsLaw" (83 : Nat) ({ cls := "SpectrumPartsLaw", name := "cell", desc := "([II)I" } : Jvm.MethodName)) : Cond) ∈ lw_g := lwg (List.mem_of_getElem? (i := 245) (by decide +kernel)) (by decide +kernel)
theorem tk_246 : ((Jvm.Cond.static ({ cls := "SpectrumPartsLaw", name := "cell", desc := "([II)I" } : Jvm.MethodName)) : Cond) ∈ lw_g := lwg (List.mem_of_getElem? (i := 246) (by decide +kernel)) (by decide +kernel)
theorem tk_602 : ((Jvm.Cond.classLink "SpectrumPartsLaw" (92 : Nat) "SpectrumPartsModel") : Cond) ∈ lw_g := lwg (List.mem_of_getElem? (i := 602) (by decide +kernel)) (by decide +kernel)
theorem tk_603 : ((Jvm.Cond.instantiable "SpectrumPartsModel" (25 : Nat)) : Cond) ∈ lw_g := lwg (List.mem_of_getElem? (i := 603) (by decide +kernel)) (by decide +kernel)
theorem tk_604 : ((Jvm.Cond.methodLink "SpectrumPartsLaw" (94 : Nat) ({ cls := "SpectrumPartsModel", name := "<init>", desc := "(I)V" } : Jvm.MethodName)) : Cond) ∈ lw_g := lwg (List.mem_of_getElem? (i := 604) (by decide +kernel)) (by decide +kernel)
theorem tk_605 : ((Jvm.Cond.instanceMethod ({ cls := "SpectrumPartsModel", name := "<init>", desc := "(I)V" } : Jvm.MethodName)) : Cond) ∈ lw_g := lwg (List.mem_of_getElem? (i := 605) (by decide +kernel)) (by decide +kernel)
def c_0 (L : Nat) (xs : Nat → Int32) : Int32 := if L = 0 then 0 else xs 0
def c_k (a1 : Int32) : Int32 := (if (4 : Int32) < (if a1 < (24 : Int32) then a1 else (24 : Int32)) then (if a1 < (24 : Int32) then a1 else (24 : Int32)) else (4 : Int32))
theorem ck_eq (a : Int32) : c_k a = f_ch a := by
  have h1 := Int32.lt_iff_toInt_lt (x := a) (y := 24)
  have h2 := Int32.lt_iff_toInt_lt (x := a) (y := 4)
  have h3 := Int32.lt_iff_toInt_lt (x := 4) (y := a)
  have h4 := Int32.lt_iff_toInt_lt (x := 24) (y := a)
  have e4 : (4 : Int32).toInt = 4 := rfl
  have e24 : (24 : Int32).toInt = 24 := rfl
  rw [e24] at h1 h4
  rw [e4] at h2 h3
  unfold c_k f_ch
  by_cases c1 : a < 24
  · rw [if_pos c1]
    by_cases c2 : (4 : Int32) < a
    · rw [if_pos c2, if_neg (by rw [h2]; rw [h3] at c2; omega), if_neg (by rw [h4]; rw [h1] at c1; omega)]
    · rw [if_neg c2]
      by_cases c3 : a < 4
      · rw [if_pos c3]
      · rw [if_neg c3, if_neg (by rw [h4]; rw [h1] at c1; omega)]
        refine Int32.toInt_inj.mp ?_
        rw [e4]; rw [h2] at c3; rw [h3] at c2; omega
  · rw [if_neg c1, if_pos (by decide), if_neg (by rw [h2]; rw [h1] at c1; omega)]
    by_cases c4 : (24 : Int32) < a
    · rw [if_pos c4]
    · rw [if_neg c4]
      refine Int32.toInt_inj.mp ?_
      rw [e24]; rw [h1] at c1; rw [h4] at c4; omega
theorem ck_b (a : Int32) : 4 ≤ (c_k a).toInt ∧ (c_k a).toInt ≤ 24 := by
  have h1 := Int32.lt_iff_toInt_lt (x := a) (y := 4)
  have h2 := Int32.lt_iff_toInt_lt (x := 24) (y := a)
  have e4 : (4 : Int32).toInt = 4 := rfl
  have e24 : (24 : Int32).toInt = 24 := rfl
  rw [e4] at h1
  rw [e24] at h2
  rw [ck_eq]
  unfold f_ch
  split
  · rw [e4]; omega
  · split
    · rw [e24]; omega
    · rename_i g1 g2
      rw [h1] at g1
      rw [h2] at g2
      omega
theorem ck_0 (a : Int32) : ¬ c_k a < 0 := by
  have h := ck_b a
  have e0 : (0 : Int32).toInt = 0 := rfl
  rw [Int32.lt_iff_toInt_lt, e0]
  omega
theorem ck_24 (a : Int32) : (c_k a).toNatClampNeg ≤ 24 := by
  have h := ck_b a
  have e : (c_k a).toNatClampNeg = (c_k a).toInt.toNat := rfl
  rw [e]
  omega
