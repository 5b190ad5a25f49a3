def vc_J_floorDiv (post : Int32 → Prop) (a0 : Int32) (a1 : Int32) : Prop :=
  (¬ a1 = 0 ∧ (∀ x2_1 : Int32, x2_1 = (a0 / a1) → ((0 ≤ (a0 ^^^ a1) → post x2_1) ∧ (¬ 0 ≤ (a0 ^^^ a1) → (((x2_1 * a1) = a0 → post x2_1) ∧ (¬ (x2_1 * a1) = a0 → post (x2_1 - (1 : Int32))))))))
set_option maxRecDepth 100000 in
set_option maxHeartbeats 4000000 in
/-- java/lang/Math.floorDiv -/
theorem c_J_floorDiv (l : Launch) (dC : Nat → ClassId) (dI : Nat → Nat → Nat) (kI kJ kZ kII kJJ : ClassId) (a0 : Int32) (a1 : Int32) (sz : Nat) (post : Int32 → Prop) (hv : vc_J_floorDiv post a0 a1) :
    Met l y_J_floorDiv w_J_floorDiv ({ frames := 0, cells := 0, slots := 0, locals := 0 }) (va_Pc [.int a0, .int a1] (px_B g0 (dC, dI) vwCl (tysv kI kJ kZ kII kJJ) [] sz))
      (va_Qi (fun (r : Int32) (u : Unit) => post r) (fun (u : Unit) => ax_B (va_A [] sz) (dC, dI) vwCl (tysv kI kJ kZ kII kJJ) []) (va_A [] sz)) 0 0 (va_A [] sz) := by
  refine pxiF (cc := b_J_floorDiv) (maxL := 3) (wd := fun (u : Unit) => []) (by decide +kernel) rfl (Nat.le_of_ble_eq_true rfl) ?_
  intro p e s m below meth c A ls Q H hx hb hml hts hown hK hG hP hD hS hA hl hq
  have hts := fun w h => hts w (List.mem_cons_of_mem _ h)
  have hown : s.vm.findClass R_J = some m.cls := hown
  have hl : lv_has ls 3 [(0, .int a0), (1, .int a1)] := hl
  unfold vc_J_floorDiv at hv
  refine lv_iload_n hx hb d_J_floorDiv_0 rfl (lv_at hl 0 rfl) ?_
  refine lv_iload_n hx hb d_J_floorDiv_1 rfl (lv_at hl 1 rfl) ?_
  refine lv_idiv hx hb d_J_floorDiv_2 hv.1 ?_
  have hv := hv.2
  refine lv_topi (fun x2_1 e_x2_1 => ?_)
  have hv := hv x2_1 e_x2_1
  refine lv_istore_n (lv' := [(2, .int x2_1), (0, .int a0), (1, .int a1)]) hx hb d_J_floorDiv_3 rfl hl (by decide) rfl (fun ls hl => ?_)
  refine lv_iload_n hx hb d_J_floorDiv_4 rfl (lv_at hl 1 rfl) ?_
  refine lv_iload_n hx hb d_J_floorDiv_5 rfl (lv_at hl 2 rfl) ?_
  refine lv_ixor hx hb d_J_floorDiv_6 ?_
  refine lv_if_ge (tgt := 21) hx hb d_J_floorDiv_7 (by decide) (fun cd => ?_) (fun cd => ?_)
  · have hv := hv.1 cd
    refine lv_iload_n hx hb d_J_floorDiv_21 rfl (lv_at hl 0 rfl) ?_
    exact hq x2_1 () _ _ _ _ hv hP hD hS d_J_floorDiv_22
  have hv := hv.2 cd
  refine lv_iload_n hx hb d_J_floorDiv_10 rfl (lv_at hl 0 rfl) ?_
  refine lv_iload_n hx hb d_J_floorDiv_11 rfl (lv_at hl 2 rfl) ?_
  refine lv_imul hx hb d_J_floorDiv_12 ?_
  refine lv_iload_n hx hb d_J_floorDiv_13 rfl (lv_at hl 1 rfl) ?_
  refine lv_icmp_eq (tgt := 21) hx hb d_J_floorDiv_14 (by decide) (fun cd => ?_) (fun cd => ?_)
  · have hv := hv.1 cd
    refine lv_iload_n hx hb d_J_floorDiv_21 rfl (lv_at hl 0 rfl) ?_
    exact hq x2_1 () _ _ _ _ hv hP hD hS d_J_floorDiv_22
  have hv := hv.2 cd
  refine lv_iload_n hx hb d_J_floorDiv_17 rfl (lv_at hl 0 rfl) ?_
  refine lv_iconst (v := (1 : Int32)) hx hb d_J_floorDiv_18 (by decide) ?_
  refine lv_isub hx hb d_J_floorDiv_19 ?_
  exact hq (x2_1 - (1 : Int32)) () _ _ _ _ hv hP hD hS d_J_floorDiv_20
