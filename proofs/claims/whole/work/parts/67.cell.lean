theorem d_L_cell_0 : decode b_L_cell 0 = .ok (.iload_n 1, 1) := by decide +kernel
theorem d_L_cell_1 : decode b_L_cell 1 = .ok (.aload_n 0, 1) := by decide +kernel
theorem d_L_cell_2 : decode b_L_cell 2 = .ok (.arraylength, 1) := by decide +kernel
theorem d_L_cell_3 : decode b_L_cell 3 = .ok (.if_icmp .ge 9, 3) := by decide +kernel
theorem d_L_cell_6 : decode b_L_cell 6 = .ok (.aload_n 0, 1) := by decide +kernel
theorem d_L_cell_7 : decode b_L_cell 7 = .ok (.iload_n 1, 1) := by decide +kernel
theorem d_L_cell_8 : decode b_L_cell 8 = .ok (.iaload, 1) := by decide +kernel
theorem d_L_cell_9 : decode b_L_cell 9 = .ok (.goto 4, 3) := by decide +kernel
theorem d_L_cell_12 : decode b_L_cell 12 = .ok (.iconst 0, 1) := by decide +kernel
theorem d_L_cell_13 : decode b_L_cell 13 = .ok (.ireturn, 1) := by decide +kernel
/-! the law's cell(script, 0), and the script as a given thing -/
def gC (b L : Nat) (xs : Nat → Int32) (A : Nat → Prop) (U : State) : Prop := va_X b L xs U U.heap ∧ b < U.heap.size ∧ ¬ A b
theorem gC_mv {b L : Nat} {xs : Nat → Int32} : px_mv (gC b L xs) := by
  intro A B H0 u U locs h hS hW hBA
  obtain ⟨h1, h2, h3⟩ := h
  exact ⟨(h1.moved hW.alike).kept (hS.2.1 b h2 h3), Nat.lt_of_lt_of_le h2 hS.1, fun z => h3 (hBA b z)⟩
set_option maxRecDepth 100000 in
set_option maxHeartbeats 4000000 in
theorem c_L_cell (l : Launch) (dC : Nat → ClassId) (dI : Nat → Nat → Nat) (kI kJ kZ kII kJJ : ClassId) (b L : Nat) (xs : Nat → Int32) (hL : L ≤ 2049) (sz : Nat) :
    Met l y_L_cell w_L_cell ({ frames := 0, cells := 0, slots := 0, locals := 0 }) (va_Pc [.ref b, .int (0 : Int32)] (px_B (gC b L xs) (dC, dI) vwCl (tysv kI kJ kZ kII kJJ) [] sz))
      (va_Qi (fun (r : Int32) (u : Unit) => r = if L = 0 then 0 else xs 0) (fun (u : Unit) => ax_B (va_A [] sz) (dC, dI) vwCl (tysv kI kJ kZ kII kJJ) []) (va_A [] sz)) 0 0 (va_A [] sz) := by
  refine pxi (cc := b_L_cell) (maxL := 2) (wd := fun (u : Unit) => []) (by decide +kernel) rfl (Nat.le_of_ble_eq_true rfl) ?_
  intro p e s m below meth c A ls Q H hx hb hml hts hown hK hG hP hD hS hA hl hq
  have hl : lv_has ls 2 [(0, .ref b), (1, .int (0 : Int32))] := hl
  obtain ⟨hX, hbl, hbA⟩ := hG
  refine lv_iload_n hx hb d_L_cell_0 rfl (lv_at hl 1 rfl) ?_
  refine lv_aload_n hx hb d_L_cell_1 rfl (lv_at hl 0 rfl) ?_
  refine va_slen hx hb hX hbl hbA hS d_L_cell_2 ?_
  refine lv_icmp_ge (tgt := 12) hx hb d_L_cell_3 (by decide) (fun cd => ?_) (fun cd => ?_)
  · refine lv_iconst (v := (0 : Int32)) hx hb d_L_cell_12 (by decide) ?_
    refine hq (0 : Int32) () _ _ _ _ ?_ hP hD hS d_L_cell_13
    have h0 : L = 0 := by
      have h1 : (Int32.ofNat L).toInt = (L : Int) := nI_toInt (n := L) (by omega)
      rw [Int32.le_iff_toInt_le, h1] at cd
      have h2 : (0 : Int32).toInt = 0 := rfl
      omega
    rw [if_pos h0]
  · have h0 : 0 < L := by
      have h1 : (Int32.ofNat L).toInt = (L : Int) := nI_toInt (n := L) (by omega)
      rw [Int32.le_iff_toInt_le, h1] at cd
      have h2 : (0 : Int32).toInt = 0 := rfl
      omega
    refine lv_aload_n hx hb d_L_cell_6 rfl (lv_at hl 0 rfl) ?_
    refine lv_iload_n hx hb d_L_cell_7 rfl (lv_at hl 1 rfl) ?_
    refine va_sld hx hb hX hbl hbA hS (vp_in_nI (n := 0) h0 (by omega)) d_L_cell_8 ?_
    refine lv_goto (tgt := 13) hx hb d_L_cell_9 (by decide) ?_
    refine hq _ () _ _ _ _ ?_ hP hD hS d_L_cell_13
    rw [if_neg (by omega)]
    rfl
