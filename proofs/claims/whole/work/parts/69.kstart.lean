/-! the classes and array classes at the start -/
theorem ak_of {ty : FieldType} {args : Array Value} {s : State} (hob : ∀ C, ty ≠ .object C) (h : (Cond.arrayClass ty).before args s = true) : ∃ c : ClassId, ArrOfT s c ty ∧ va_RA s c ty := by
  obtain ⟨c, k, comp, h1, h2, h3⟩ := Cond.arrayClass_spec h
  refine ⟨c, fun N z => ⟨(fun q hq => by cases hq), k, h2, comp, h3⟩, ?_⟩
  cases ty <;> first | exact h1 | exact absurd rfl (hob _)
theorem ak_over {t : FieldType} {args : Array Value} {s : State} (h : (Cond.arrayOver (.array t)).before args s = true) : ∃ c : ClassId, ArrOfT s c (.array t) ∧ va_RA s c (.array t) := by
  obtain ⟨comp, cA, kA, k3, -, k1, k2, k4⟩ := arrayOverA_spec h
  exact ⟨cA, fun N z => ⟨(fun q hq => by cases hq), kA, k1, comp, k2⟩, k4⟩
set_option maxRecDepth 100000 in
set_option maxHeartbeats 4000000 in
theorem K_start {args : Array Value} {s : State} (hts : ∀ w ∈ lw_tbl, w.before args s = true) : ∃ (dC : Nat → ClassId) (dI : Nat → Nat → Nat) (kI kJ kZ kII kJJ : ClassId), va_K (dC, dI) vwCl (tysv kI kJ kZ kII kJJ) s := by
  have htg : ∀ w ∈ lw_g, w.before args s = true := fun w h => hts w (List.mem_filter.mp h).1
  obtain ⟨c0, iS0, hKn0⟩ := u_known (C := R_XLi) (T := T_XLi) (N := 2) (n := 2) htg i_XLi (hts (.instantiable R_XLi 2) (by decide +kernel))
  obtain ⟨c1, iS1, hKn1⟩ := u_known (C := R_XMi) (T := T_XMi) (N := 9) (n := 9) htg i_XMi (hts (.instantiable R_XMi 9) (by decide +kernel))
  obtain ⟨c2, iS2, hKn2⟩ := u_known (C := R_XPe) (T := T_XPe) (N := 2) (n := 2) htg i_XPe (hts (.instantiable R_XPe 2) (by decide +kernel))
  obtain ⟨c3, iS3, hKn3⟩ := u_known (C := R_XSa) (T := T_XSa) (N := 6) (n := 6) htg i_XSa (hts (.instantiable R_XSa 6) (by decide +kernel))
  obtain ⟨c4, iS4, hKn4⟩ := u_known (C := R_XSp) (T := T_XSp) (N := 4) (n := 4) htg i_XSp (hts (.instantiable R_XSp 4) (by decide +kernel))
  obtain ⟨c5, iS5, hKn5⟩ := u_known (C := R_XSt) (T := T_XSt) (N := 3) (n := 3) htg i_XSt (hts (.instantiable R_XSt 3) (by decide +kernel))
  obtain ⟨c6, iS6, hKn6⟩ := u_known (C := R_X) (T := T_X) (N := 6) (n := 6) htg i_X (hts (.instantiable R_X 6) (by decide +kernel))
  obtain ⟨c7, iS7, hKn7⟩ := u_known (C := R_M) (T := T_M) (N := 25) (n := 25) htg i_M (hts (.instantiable R_M 25) (by decide +kernel))
  obtain ⟨kI, h_kI⟩ := ak_of (by intro C h; cases h) (hts (.arrayClass .int) (by decide +kernel))
  obtain ⟨kJ, h_kJ⟩ := ak_of (by intro C h; cases h) (hts (.arrayClass .long) (by decide +kernel))
  obtain ⟨kZ, h_kZ⟩ := ak_of (by intro C h; cases h) (hts (.arrayClass .boolean) (by decide +kernel))
  obtain ⟨kII, h_kII⟩ := ak_over (hts (.arrayOver (.array .int)) (by decide +kernel))
  obtain ⟨kJJ, h_kJJ⟩ := ak_over (hts (.arrayOver (.array .long)) (by decide +kernel))
  refine ⟨fun k => if k = 0 then c0 else if k = 1 then c1 else if k = 2 then c2 else if k = 3 then c3 else if k = 4 then c4 else if k = 5 then c5 else if k = 6 then c6 else c7, fun k => if k = 0 then iS0 else if k = 1 then iS1 else if k = 2 then iS2 else if k = 3 then iS3 else if k = 4 then iS4 else if k = 5 then iS5 else if k = 6 then iS6 else iS7, kI, kJ, kZ, kII, kJJ, fun k q hq => ?_, fun k q hq => ?_⟩
  · match k, hq with
    | 0, hq => cases hq; exact hKn0
    | 1, hq => cases hq; exact hKn1
    | 2, hq => cases hq; exact hKn2
    | 3, hq => cases hq; exact hKn3
    | 4, hq => cases hq; exact hKn4
    | 5, hq => cases hq; exact hKn5
    | 6, hq => cases hq; exact hKn6
    | 7, hq => cases hq; exact hKn7
    | k + 8, hq => simp [vwCl] at hq
  · match k, hq with
    | 0, hq => cases hq; exact h_kI
    | 1, hq => cases hq; exact h_kJ
    | 2, hq => cases hq; exact h_kZ
    | 3, hq => cases hq; exact h_kII
    | 4, hq => cases hq; exact h_kJJ
    | k + 5, hq => simp [tysv] at hq
