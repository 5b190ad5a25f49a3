def vc_XSt_placeOf (post : Int32 → Prop) (v_size : Int32) (v_days : Nat → Int32) (a1 : Int32) : Prop :=
  (∃ n, vlp1 (fun (R_2 : Int32 → Prop) (y2_2 : Int32) => ((v_size ≤ y2_2 → post v_size) ∧ (¬ v_size ≤ y2_2 → (vp_in y2_2 10 ∧ ((¬ (v_days y2_2.toNatClampNeg) = a1 → R_2 (y2_2 + (1 : Int32))) ∧ ((v_days y2_2.toNatClampNeg) = a1 → post y2_2)))))) n (0 : Int32))
def vc_XSt_put (post : Int32 → (Nat → Int32) → (Nat → Int32) → Prop) (v_size : Int32) (v_days : Nat → Int32) (v_factors : Nat → Int32) (a1 : Int32) (a2 : Int32) (a3 : Int32) : Prop :=
  (vp_in a1 10 ∧ (vp_in a1 10 ∧ post (if v_size < (a1 + (1 : Int32)) then (a1 + (1 : Int32)) else v_size) (upd v_days a1.toNatClampNeg a2) (upd v_factors a1.toNatClampNeg a3)))
def vc_XSt_onLine (post : Int32 → Prop) (v_days : Nat → Int32) (v_factors : Nat → Int32) (a1 : Int32) (a2 : Int32) (a3 : Int32) : Prop :=
  (vp_in a2 10 ∧ (vp_in a1 10 ∧ (∀ x4_1 : Int32, x4_1 = ((v_days a2.toNatClampNeg) - (v_days a1.toNatClampNeg)) → ((0 < x4_1 → (vp_in a2 10 ∧ (vp_in a1 10 ∧ (vp_in a1 10 ∧ (∀ x5_2 : Int32, x5_2 = (((v_factors a2.toNatClampNeg) - (v_factors a1.toNatClampNeg)) * (a3 - (v_days a1.toNatClampNeg))) → (vp_in a1 10 ∧ vc_J_floorDiv (fun (r_3 : Int32) => post ((v_factors a1.toNatClampNeg) + r_3)) x5_2 x4_1)))))) ∧ (¬ 0 < x4_1 → (vp_in a1 10 ∧ post (v_factors a1.toNatClampNeg)))))))
def vc_XSt_factorOn (post : Int32 → Prop) (v_size : Int32) (v_days : Nat → Int32) (v_factors : Nat → Int32) (a1 : Int32) : Prop :=
  (∃ n, vlp3 (fun (R_7 : Int32 → Int32 → Int32 → Prop) (y2_7 : Int32) (y3_7 : Int32) (y4_7 : Int32) => ((v_size ≤ y4_7 → ((¬ y2_7 = (-1 : Int32) → ((¬ y3_7 = (-1 : Int32) → vc_XSt_onLine (fun (r_1 : Int32) => post r_1) v_days v_factors y2_7 y3_7 a1) ∧ (y3_7 = (-1 : Int32) → (vp_in y2_7 10 ∧ post (v_factors y2_7.toNatClampNeg))))) ∧ (y2_7 = (-1 : Int32) → ((¬ y3_7 = (-1 : Int32) → (vp_in y3_7 10 ∧ post (v_factors y3_7.toNatClampNeg))) ∧ (y3_7 = (-1 : Int32) → post (1000 : Int32)))))) ∧ (¬ v_size ≤ y4_7 → (vp_in y4_7 10 ∧ (∀ J_51 : Int32 → Prop, (∀ (y2_51 : Int32), (vp_in y4_7 10 ∧ (((v_days y4_7.toNatClampNeg) < a1 → R_7 y2_51 y3_7 (y4_7 + (1 : Int32))) ∧ (¬ (v_days y4_7.toNatClampNeg) < a1 → ((y3_7 = (-1 : Int32) → R_7 y2_51 y4_7 (y4_7 + (1 : Int32))) ∧ (¬ y3_7 = (-1 : Int32) → (vp_in y4_7 10 ∧ (vp_in y3_7 10 ∧ (((v_days y3_7.toNatClampNeg) ≤ (v_days y4_7.toNatClampNeg) → R_7 y2_51 y3_7 (y4_7 + (1 : Int32))) ∧ (¬ (v_days y3_7.toNatClampNeg) ≤ (v_days y4_7.toNatClampNeg) → R_7 y2_51 y4_7 (y4_7 + (1 : Int32))))))))))) → J_51 y2_51) → ((a1 < (v_days y4_7.toNatClampNeg) → J_51 y2_7) ∧ (¬ a1 < (v_days y4_7.toNatClampNeg) → (∀ J_48 : Prop, (J_51 y4_7 → J_48) → ((y2_7 = (-1 : Int32) → J_48) ∧ (¬ y2_7 = (-1 : Int32) → (vp_in y4_7 10 ∧ (vp_in y2_7 10 ∧ (((v_days y4_7.toNatClampNeg) ≤ (v_days y2_7.toNatClampNeg) → J_51 y2_7) ∧ (¬ (v_days y4_7.toNatClampNeg) ≤ (v_days y2_7.toNatClampNeg) → J_48)))))))))))))) n (-1 : Int32) (-1 : Int32) (0 : Int32))
set_option maxRecDepth 100000 in
set_option maxHeartbeats 4000000 in
/-- SpectrumParts$StandardList.placeOf -/
theorem c_XSt_placeOf (l : Launch) (dC : Nat → ClassId) (dI : Nat → Nat → Nat) (kI kJ kZ kII kJJ : ClassId) (h_this : Nat) (h_days : Nat) (h_factors : Nat) (v_size : Int32) (v_days : Nat → Int32) (a1 : Int32) (sz : Nat) (post : Int32 → Prop) (hv : vc_XSt_placeOf post v_size v_days a1) :
    Met l y_XSt_placeOf w_XSt_placeOf ({ frames := 0, cells := 0, slots := 0, locals := 0 }) (va_Pc [.ref h_this, .int a1] (px_B g0 (dC, dI) vwCl (tysv kI kJ kZ kII kJJ) [(h_this, .inr (5, [.int v_size, .ref h_days, .ref h_factors])), (h_days, .inl (kI, 10, .inl v_days))] sz))
      (va_Qi (fun (r : Int32) (u : Unit) => post r) (fun (u : Unit) => ax_B (va_A [(h_this, .inr (5, [.int v_size, .ref h_days, .ref h_factors])), (h_days, .inl (kI, 10, .inl v_days))] sz) (dC, dI) vwCl (tysv kI kJ kZ kII kJJ) [(h_this, .inr (5, [.int v_size, .ref h_days, .ref h_factors])), (h_days, .inl (kI, 10, .inl v_days))]) (va_A [(h_this, .inr (5, [.int v_size, .ref h_days, .ref h_factors])), (h_days, .inl (kI, 10, .inl v_days))] sz)) 0 0 (va_A [(h_this, .inr (5, [.int v_size, .ref h_days, .ref h_factors])), (h_days, .inl (kI, 10, .inl v_days))] sz) := by
  refine pxi (cc := b_XSt_placeOf) (maxL := 3) (wd := fun (u : Unit) => [(h_this, .inr (5, [.int v_size, .ref h_days, .ref h_factors])), (h_days, .inl (kI, 10, .inl v_days))]) (by decide +kernel) rfl (Nat.le_of_ble_eq_true rfl) ?_
  intro p e s m below meth c A ls Q H hx hb hml hts hown hK hG hP hD hS hA hl hq
  have hts := fun w h => hts w (List.mem_cons_of_mem _ h)
  have hown : s.vm.findClass R_XSt = some m.cls := hown
  have hl : lv_has ls 3 [(0, .ref h_this), (1, .int a1)] := hl
  unfold vc_XSt_placeOf at hv
  refine lv_iconst (v := (0 : Int32)) hx hb d_XSt_placeOf_0 (by decide) ?_
  refine lv_istore_n (lv' := [(2, .int (0 : Int32)), (0, .ref h_this), (1, .int a1)]) hx hb d_XSt_placeOf_1 rfl hl (by decide) rfl (fun ls hl => ?_)
  obtain ⟨n_2, hv⟩ := hv
  refine vlp1_W (P := fun (y2_2 : Int32) => wst p l e (headSpec w_XSt_placeOf ({ frames := 0, cells := 0, slots := 0, locals := 0 })).room s m ([.ref h_this, .int a1] : List Value).toArray below meth c dC dI A 3 Q [(h_this, .inr (5, [.int v_size, .ref h_days, .ref h_factors])), (h_days, .inl (kI, 10, .inl v_days))] [(0, .ref h_this), (1, .int a1), (2, .int y2_2)] 2 [] 0 0) ?_ n_2 _ hv _ _ _ hP hD hS (lv_sub hl [1, 2, 0] rfl)
  intro R_2 hR_2 y2_2 hv H locs ls hP hD hS hl
  refine lv_iload_n hx hb d_XSt_placeOf_2 rfl (lv_at hl 2 rfl) ?_
  refine lv_aload_n hx hb d_XSt_placeOf_3 rfl (lv_at hl 0 rfl) ?_
  refine va_get (D := (dC, dI)) (ci := 5) (v := .int v_size) (C := R_XSt) (T := T_XSt) (N := 3) hx hb hts i_XSt hown hK hP 0 rfl rfl 0 (by decide) (hts _ tk_169) (fun _ h9 => h9) rfl d_XSt_placeOf_4 ?_
  refine lv_icmp_ge (tgt := 28) hx hb d_XSt_placeOf_7 (by decide) (fun cd => ?_) (fun cd => ?_)
  · have hv := hv.1 cd
    refine lv_aload_n hx hb d_XSt_placeOf_28 rfl (lv_at hl 0 rfl) ?_
    refine va_get (D := (dC, dI)) (ci := 5) (v := .int v_size) (C := R_XSt) (T := T_XSt) (N := 3) hx hb hts i_XSt hown hK hP 0 rfl rfl 0 (by decide) (hts _ tk_169) (fun _ h9 => h9) rfl d_XSt_placeOf_29 ?_
    exact hq v_size () _ _ _ _ hv hP hD hS d_XSt_placeOf_32
  have hv := hv.2 cd
  refine lv_aload_n hx hb d_XSt_placeOf_10 rfl (lv_at hl 0 rfl) ?_
  refine va_get (D := (dC, dI)) (ci := 5) (v := .ref h_days) (C := R_XSt) (T := T_XSt) (N := 3) hx hb hts i_XSt hown hK hP 0 rfl rfl 1 (by decide) (hts _ tk_171) (fun _ h9 => h9) rfl d_XSt_placeOf_11 ?_
  refine lv_iload_n hx hb d_XSt_placeOf_14 rfl (lv_at hl 2 rfl) ?_
  refine va_iald hx hb hK hP 1 0 rfl rfl hv.1 d_XSt_placeOf_15 ?_
  have hv := hv.2
  refine lv_iload_n hx hb d_XSt_placeOf_16 rfl (lv_at hl 1 rfl) ?_
  refine lv_icmp_ne (tgt := 22) hx hb d_XSt_placeOf_17 (by decide) (fun cd => ?_) (fun cd => ?_)
  · have hv := hv.1 cd
    refine lv_iinc (v := (y2_2 + (1 : Int32))) (lv' := [(2, .int (y2_2 + (1 : Int32))), (0, .ref h_this), (1, .int a1)]) hx hb d_XSt_placeOf_22 hl (k := 2) rfl rfl (by decide) rfl (fun ls hl => ?_)
    refine lv_goto (tgt := 2) hx hb d_XSt_placeOf_25 (by decide) ?_
    exact hR_2 _ hv _ _ _ hP hD hS (lv_sub hl [1, 2, 0] rfl)
  have hv := hv.2 cd
  refine lv_iload_n hx hb d_XSt_placeOf_20 rfl (lv_at hl 2 rfl) ?_
  exact hq y2_2 () _ _ _ _ hv hP hD hS d_XSt_placeOf_21
set_option maxRecDepth 100000 in
set_option maxHeartbeats 4000000 in
/-- SpectrumParts$StandardList.put -/
theorem c_XSt_put (l : Launch) (dC : Nat → ClassId) (dI : Nat → Nat → Nat) (kI kJ kZ kII kJJ : ClassId) (h_this : Nat) (h_days : Nat) (h_factors : Nat) (v_size : Int32) (v_days : Nat → Int32) (v_factors : Nat → Int32) (a1 : Int32) (a2 : Int32) (a3 : Int32) (sz : Nat) (post : Int32 → (Nat → Int32) → (Nat → Int32) → Prop) (hv : vc_XSt_put post v_size v_days v_factors a1 a2 a3) :
    Met l y_XSt_put w_XSt_put ({ frames := 1, cells := 0, slots := 0, locals := 21 }) (va_Pc [.ref h_this, .int a1, .int a2, .int a3] (px_B g0 (dC, dI) vwCl (tysv kI kJ kZ kII kJJ) [(h_this, .inr (5, [.int v_size, .ref h_days, .ref h_factors])), (h_days, .inl (kI, 10, .inl v_days)), (h_factors, .inl (kI, 10, .inl v_factors))] sz))
      (va_Qv (fun (u : (Int32) × (Nat → Int32) × (Nat → Int32)) => post u.1 u.2.1 u.2.2) (fun (u : (Int32) × (Nat → Int32) × (Nat → Int32)) => ax_B (va_A [(h_this, .inr (5, [.int v_size, .ref h_days, .ref h_factors])), (h_days, .inl (kI, 10, .inl v_days)), (h_factors, .inl (kI, 10, .inl v_factors))] sz) (dC, dI) vwCl (tysv kI kJ kZ kII kJJ) [(h_this, .inr (5, [.int u.1, .ref h_days, .ref h_factors])), (h_days, .inl (kI, 10, .inl u.2.1)), (h_factors, .inl (kI, 10, .inl u.2.2))]) (va_A [(h_this, .inr (5, [.int v_size, .ref h_days, .ref h_factors])), (h_days, .inl (kI, 10, .inl v_days)), (h_factors, .inl (kI, 10, .inl v_factors))] sz)) 0 0 (va_A [(h_this, .inr (5, [.int v_size, .ref h_days, .ref h_factors])), (h_days, .inl (kI, 10, .inl v_days)), (h_factors, .inl (kI, 10, .inl v_factors))] sz) := by
  refine pxv (cc := b_XSt_put) (maxL := 4) (wd := fun (u : (Int32) × (Nat → Int32) × (Nat → Int32)) => [(h_this, .inr (5, [.int u.1, .ref h_days, .ref h_factors])), (h_days, .inl (kI, 10, .inl u.2.1)), (h_factors, .inl (kI, 10, .inl u.2.2))]) (by decide +kernel) rfl (Nat.le_of_ble_eq_true rfl) ?_
  intro p e s m below meth c A ls Q H hx hb hml hts hown hK hG hP hD hS hA hl hq
  have hts := fun w h => hts w (List.mem_cons_of_mem _ h)
  have hown : s.vm.findClass R_XSt = some m.cls := hown
  have hl : lv_has ls 4 [(0, .ref h_this), (1, .int a1), (2, .int a2), (3, .int a3)] := hl
  unfold vc_XSt_put at hv
  refine lv_aload_n hx hb d_XSt_put_0 rfl (lv_at hl 0 rfl) ?_
  refine va_get (D := (dC, dI)) (ci := 5) (v := .ref h_days) (C := R_XSt) (T := T_XSt) (N := 3) hx hb hts i_XSt hown hK hP 0 rfl rfl 1 (by decide) (hts _ tk_171) (fun _ h9 => h9) rfl d_XSt_put_1 ?_
  refine lv_iload_n hx hb d_XSt_put_4 rfl (lv_at hl 1 rfl) ?_
  refine lv_iload_n hx hb d_XSt_put_5 rfl (lv_at hl 2 rfl) ?_
  refine va_iast hx hb hK hP hD hS 1 0 rfl rfl hv.1 d_XSt_put_6 (fun H locs hP hD hS => ?_)
  have hv := hv.2
  have hP : va_P (dC, dI) vwCl [(h_this, .inr (5, [.int v_size, .ref h_days, .ref h_factors])), (h_days, .inl (kI, 10, .inl (upd v_days a1.toNatClampNeg a2))), (h_factors, .inl (kI, 10, .inl v_factors))] H := hP
  have hD : va_D A [(h_this, .inr (5, [.int v_size, .ref h_days, .ref h_factors])), (h_days, .inl (kI, 10, .inl (upd v_days a1.toNatClampNeg a2))), (h_factors, .inl (kI, 10, .inl v_factors))] := hD
  refine lv_aload_n hx hb d_XSt_put_7 rfl (lv_at hl 0 rfl) ?_
  refine va_get (D := (dC, dI)) (ci := 5) (v := .ref h_factors) (C := R_XSt) (T := T_XSt) (N := 3) hx hb hts i_XSt hown hK hP 0 rfl rfl 2 (by decide) (hts _ tk_172) (fun _ h9 => h9) rfl d_XSt_put_8 ?_
  refine lv_iload_n hx hb d_XSt_put_11 rfl (lv_at hl 1 rfl) ?_
  refine lv_iload_n hx hb d_XSt_put_12 rfl (lv_at hl 3 rfl) ?_
  refine va_iast hx hb hK hP hD hS 2 0 rfl rfl hv.1 d_XSt_put_13 (fun H locs hP hD hS => ?_)
  have hv := hv.2
  have hP : va_P (dC, dI) vwCl [(h_this, .inr (5, [.int v_size, .ref h_days, .ref h_factors])), (h_days, .inl (kI, 10, .inl (upd v_days a1.toNatClampNeg a2))), (h_factors, .inl (kI, 10, .inl (upd v_factors a1.toNatClampNeg a3)))] H := hP
  have hD : va_D A [(h_this, .inr (5, [.int v_size, .ref h_days, .ref h_factors])), (h_days, .inl (kI, 10, .inl (upd v_days a1.toNatClampNeg a2))), (h_factors, .inl (kI, 10, .inl (upd v_factors a1.toNatClampNeg a3)))] := hD
  refine lv_aload_n hx hb d_XSt_put_14 rfl (lv_at hl 0 rfl) ?_
  refine lv_aload_n hx hb d_XSt_put_15 rfl (lv_at hl 0 rfl) ?_
  refine va_get (D := (dC, dI)) (ci := 5) (v := .int v_size) (C := R_XSt) (T := T_XSt) (N := 3) hx hb hts i_XSt hown hK hP 0 rfl rfl 0 (by decide) (hts _ tk_169) (fun _ h9 => h9) rfl d_XSt_put_16 ?_
  refine lv_iload_n hx hb d_XSt_put_19 rfl (lv_at hl 1 rfl) ?_
  refine lv_iconst (v := (1 : Int32)) hx hb d_XSt_put_20 (by decide) ?_
  refine lv_iadd hx hb d_XSt_put_21 ?_
  refine va_mmax hx hb (hml.trans hl.1.symm) hown (hts _ tk_574) (hts _ tk_29) (hts _ tk_2) (hts _ tk_30) (Nat.le_of_ble_eq_true rfl) (Nat.le_of_ble_eq_true rfl) (Nat.le_of_ble_eq_true rfl) (Nat.le_of_ble_eq_true rfl) d_XSt_put_22 ?_
  refine va_put (D := (dC, dI)) (ci := 5) (v := .int (if v_size < (a1 + (1 : Int32)) then (a1 + (1 : Int32)) else v_size)) (ty := .int) (C := R_XSt) (T := T_XSt) (N := 3) hx hb hts i_XSt u_XSt u_XSt_ok n_XSt hown hK hP hD hS 0 rfl rfl 0 (by decide) (hts _ tk_169) (fun _ h9 => h9) rfl rfl rfl rfl (Nat.le_of_ble_eq_true rfl) d_XSt_put_25 (fun H locs hP hD hS => ?_)
  have hP : va_P (dC, dI) vwCl [(h_this, .inr (5, [.int (if v_size < (a1 + (1 : Int32)) then (a1 + (1 : Int32)) else v_size), .ref h_days, .ref h_factors])), (h_days, .inl (kI, 10, .inl (upd v_days a1.toNatClampNeg a2))), (h_factors, .inl (kI, 10, .inl (upd v_factors a1.toNatClampNeg a3)))] H := hP
  have hD : va_D A [(h_this, .inr (5, [.int (if v_size < (a1 + (1 : Int32)) then (a1 + (1 : Int32)) else v_size), .ref h_days, .ref h_factors])), (h_days, .inl (kI, 10, .inl (upd v_days a1.toNatClampNeg a2))), (h_factors, .inl (kI, 10, .inl (upd v_factors a1.toNatClampNeg a3)))] := hD
  exact hq ((if v_size < (a1 + (1 : Int32)) then (a1 + (1 : Int32)) else v_size), (upd v_days a1.toNatClampNeg a2), (upd v_factors a1.toNatClampNeg a3)) _ _ _ _ hv hP hD hS d_XSt_put_28
set_option maxRecDepth 100000 in
set_option maxHeartbeats 4000000 in
/-- SpectrumParts$StandardList.onLine -/
theorem c_XSt_onLine (l : Launch) (dC : Nat → ClassId) (dI : Nat → Nat → Nat) (kI kJ kZ kII kJJ : ClassId) (h_this : Nat) (h_days : Nat) (h_factors : Nat) (v_size : Int32) (v_days : Nat → Int32) (v_factors : Nat → Int32) (a1 : Int32) (a2 : Int32) (a3 : Int32) (sz : Nat) (post : Int32 → Prop) (hv : vc_XSt_onLine post v_days v_factors a1 a2 a3) :
    Met l y_XSt_onLine w_XSt_onLine ({ frames := 1, cells := 0, slots := 0, locals := 22 }) (va_Pc [.ref h_this, .int a1, .int a2, .int a3] (px_B g0 (dC, dI) vwCl (tysv kI kJ kZ kII kJJ) [(h_this, .inr (5, [.int v_size, .ref h_days, .ref h_factors])), (h_days, .inl (kI, 10, .inl v_days)), (h_factors, .inl (kI, 10, .inl v_factors))] sz))
      (va_Qi (fun (r : Int32) (u : Unit) => post r) (fun (u : Unit) => ax_B (va_A [(h_this, .inr (5, [.int v_size, .ref h_days, .ref h_factors])), (h_days, .inl (kI, 10, .inl v_days)), (h_factors, .inl (kI, 10, .inl v_factors))] sz) (dC, dI) vwCl (tysv kI kJ kZ kII kJJ) [(h_this, .inr (5, [.int v_size, .ref h_days, .ref h_factors])), (h_days, .inl (kI, 10, .inl v_days)), (h_factors, .inl (kI, 10, .inl v_factors))]) (va_A [(h_this, .inr (5, [.int v_size, .ref h_days, .ref h_factors])), (h_days, .inl (kI, 10, .inl v_days)), (h_factors, .inl (kI, 10, .inl v_factors))] sz)) 0 0 (va_A [(h_this, .inr (5, [.int v_size, .ref h_days, .ref h_factors])), (h_days, .inl (kI, 10, .inl v_days)), (h_factors, .inl (kI, 10, .inl v_factors))] sz) := by
  refine pxi (cc := b_XSt_onLine) (maxL := 6) (wd := fun (u : Unit) => [(h_this, .inr (5, [.int v_size, .ref h_days, .ref h_factors])), (h_days, .inl (kI, 10, .inl v_days)), (h_factors, .inl (kI, 10, .inl v_factors))]) (by decide +kernel) rfl (Nat.le_of_ble_eq_true rfl) ?_
  intro p e s m below meth c A ls Q H hx hb hml hts hown hK hG hP hD hS hA hl hq
  have hts := fun w h => hts w (List.mem_cons_of_mem _ h)
  have hown : s.vm.findClass R_XSt = some m.cls := hown
  have hl : lv_has ls 6 [(0, .ref h_this), (1, .int a1), (2, .int a2), (3, .int a3)] := hl
  unfold vc_XSt_onLine at hv
  refine lv_aload_n hx hb d_XSt_onLine_0 rfl (lv_at hl 0 rfl) ?_
  refine va_get (D := (dC, dI)) (ci := 5) (v := .ref h_days) (C := R_XSt) (T := T_XSt) (N := 3) hx hb hts i_XSt hown hK hP 0 rfl rfl 1 (by decide) (hts _ tk_171) (fun _ h9 => h9) rfl d_XSt_onLine_1 ?_
  refine lv_iload_n hx hb d_XSt_onLine_4 rfl (lv_at hl 2 rfl) ?_
  refine va_iald hx hb hK hP 1 0 rfl rfl hv.1 d_XSt_onLine_5 ?_
  have hv := hv.2
  refine lv_aload_n hx hb d_XSt_onLine_6 rfl (lv_at hl 0 rfl) ?_
  refine va_get (D := (dC, dI)) (ci := 5) (v := .ref h_days) (C := R_XSt) (T := T_XSt) (N := 3) hx hb hts i_XSt hown hK hP 0 rfl rfl 1 (by decide) (hts _ tk_171) (fun _ h9 => h9) rfl d_XSt_onLine_7 ?_
  refine lv_iload_n hx hb d_XSt_onLine_10 rfl (lv_at hl 1 rfl) ?_
  refine va_iald hx hb hK hP 1 0 rfl rfl hv.1 d_XSt_onLine_11 ?_
  have hv := hv.2
  refine lv_isub hx hb d_XSt_onLine_12 ?_
  refine lv_topi (fun x4_1 e_x4_1 => ?_)
  have hv := hv x4_1 e_x4_1
  refine lv_istore (lv' := [(4, .int x4_1), (0, .ref h_this), (1, .int a1), (2, .int a2), (3, .int a3)]) hx hb d_XSt_onLine_13 hl (by decide) rfl (fun ls hl => ?_)
  refine lv_iload hx hb d_XSt_onLine_15 (lv_at hl 0 rfl) ?_
  refine lv_if_gt (tgt := 27) hx hb d_XSt_onLine_17 (by decide) (fun cd => ?_) (fun cd => ?_)
  · have hv := hv.1 cd
    refine lv_aload_n hx hb d_XSt_onLine_27 rfl (lv_at hl 1 rfl) ?_
    refine va_get (D := (dC, dI)) (ci := 5) (v := .ref h_factors) (C := R_XSt) (T := T_XSt) (N := 3) hx hb hts i_XSt hown hK hP 0 rfl rfl 2 (by decide) (hts _ tk_172) (fun _ h9 => h9) rfl d_XSt_onLine_28 ?_
    refine lv_iload_n hx hb d_XSt_onLine_31 rfl (lv_at hl 3 rfl) ?_
    refine va_iald hx hb hK hP 2 0 rfl rfl hv.1 d_XSt_onLine_32 ?_
    have hv := hv.2
    refine lv_aload_n hx hb d_XSt_onLine_33 rfl (lv_at hl 1 rfl) ?_
    refine va_get (D := (dC, dI)) (ci := 5) (v := .ref h_factors) (C := R_XSt) (T := T_XSt) (N := 3) hx hb hts i_XSt hown hK hP 0 rfl rfl 2 (by decide) (hts _ tk_172) (fun _ h9 => h9) rfl d_XSt_onLine_34 ?_
    refine lv_iload_n hx hb d_XSt_onLine_37 rfl (lv_at hl 2 rfl) ?_
    refine va_iald hx hb hK hP 2 0 rfl rfl hv.1 d_XSt_onLine_38 ?_
    have hv := hv.2
    refine lv_isub hx hb d_XSt_onLine_39 ?_
    refine lv_iload_n hx hb d_XSt_onLine_40 rfl (lv_at hl 4 rfl) ?_
    refine lv_aload_n hx hb d_XSt_onLine_41 rfl (lv_at hl 1 rfl) ?_
    refine va_get (D := (dC, dI)) (ci := 5) (v := .ref h_days) (C := R_XSt) (T := T_XSt) (N := 3) hx hb hts i_XSt hown hK hP 0 rfl rfl 1 (by decide) (hts _ tk_171) (fun _ h9 => h9) rfl d_XSt_onLine_42 ?_
    refine lv_iload_n hx hb d_XSt_onLine_45 rfl (lv_at hl 2 rfl) ?_
    refine va_iald hx hb hK hP 1 0 rfl rfl hv.1 d_XSt_onLine_46 ?_
    have hv := hv.2
    refine lv_isub hx hb d_XSt_onLine_47 ?_
    refine lv_imul hx hb d_XSt_onLine_48 ?_
    refine lv_topi (fun x5_2 e_x5_2 => ?_)
    have hv := hv x5_2 e_x5_2
    refine lv_istore (lv' := [(5, .int x5_2), (4, .int x4_1), (0, .ref h_this), (1, .int a1), (2, .int a2), (3, .int a3)]) hx hb d_XSt_onLine_49 hl (by decide) rfl (fun ls hl => ?_)
    refine lv_aload_n hx hb d_XSt_onLine_51 rfl (lv_at hl 2 rfl) ?_
    refine va_get (D := (dC, dI)) (ci := 5) (v := .ref h_factors) (C := R_XSt) (T := T_XSt) (N := 3) hx hb hts i_XSt hown hK hP 0 rfl rfl 2 (by decide) (hts _ tk_172) (fun _ h9 => h9) rfl d_XSt_onLine_52 ?_
    refine lv_iload_n hx hb d_XSt_onLine_55 rfl (lv_at hl 3 rfl) ?_
    refine va_iald hx hb hK hP 2 0 rfl rfl hv.1 d_XSt_onLine_56 ?_
    have hv := hv.2
    refine lv_iload hx hb d_XSt_onLine_57 (lv_at hl 0 rfl) ?_
    refine lv_iload hx hb d_XSt_onLine_59 (lv_at hl 1 rfl) ?_
    have hPc := hP.sub (ws' := []) [] rfl
    have hDc := hD.sub (ws' := []) [] (by decide) rfl
    have hFc := va_free (wc := []) hD hS hA [] rfl
    refine va_calli (va_runS (As := [.int x5_2, .int x4_1]) (rest := [.int (v_factors a1.toNatClampNeg)]) ⟨hx, hb, hml, hown, hts⟩ (c_J_floorDiv l dC dI kI kJ kZ kII kJJ x5_2 x4_1 H.size _ hv) (va_cwS 2 hts (gS2 tk_591 tk_592 tk_2 tc_J_floorDiv) rfl rfl rfl (by decide +kernel) ⟨Nat.le_of_ble_eq_true rfl, Nat.le_of_ble_eq_true rfl⟩) ⟨px_blind g0_mv, px_pre g0_mv hPc hK hDc trivial hS hFc⟩ rfl rfl hl.1 rfl (lv_room (Nat.le_of_ble_eq_true rfl)) d_XSt_onLine_61 ⟨Nat.le_of_ble_eq_true rfl, Nat.le_of_ble_eq_true rfl⟩) hS (fun q _ h => hFc q h) hFc (fun r_3 u t H1 locs ht hvm hv hB hz1 hk1 hS => ?_)
    obtain ⟨⟩ := u
    obtain ⟨hP, hD⟩ := cj_join (wr := [(h_this, .inr (5, [.int v_size, .ref h_days, .ref h_factors])), (h_days, .inl (kI, 10, .inl v_days)), (h_factors, .inl (kI, 10, .inl v_factors))]) (w1 := []) hP hD [] [0, 1, 2] rfl rfl (by decide) (by decide) hk1 hFc ht hB
    generalize H1 = H at hP hS ⊢
    have hP : va_P (dC, dI) vwCl [(h_this, .inr (5, [.int v_size, .ref h_days, .ref h_factors])), (h_days, .inl (kI, 10, .inl v_days)), (h_factors, .inl (kI, 10, .inl v_factors))] H := hP.sub [0, 1, 2] rfl
    have hD : va_D A [(h_this, .inr (5, [.int v_size, .ref h_days, .ref h_factors])), (h_days, .inl (kI, 10, .inl v_days)), (h_factors, .inl (kI, 10, .inl v_factors))] := hD.sub [0, 1, 2] (by decide) rfl
    refine lv_iadd hx hb d_XSt_onLine_64 ?_
    exact hq ((v_factors a1.toNatClampNeg) + r_3) () _ _ _ _ hv hP hD hS d_XSt_onLine_65
  have hv := hv.2 cd
  refine lv_aload_n hx hb d_XSt_onLine_20 rfl (lv_at hl 1 rfl) ?_
  refine va_get (D := (dC, dI)) (ci := 5) (v := .ref h_factors) (C := R_XSt) (T := T_XSt) (N := 3) hx hb hts i_XSt hown hK hP 0 rfl rfl 2 (by decide) (hts _ tk_172) (fun _ h9 => h9) rfl d_XSt_onLine_21 ?_
  refine lv_iload_n hx hb d_XSt_onLine_24 rfl (lv_at hl 2 rfl) ?_
  refine va_iald hx hb hK hP 2 0 rfl rfl hv.1 d_XSt_onLine_25 ?_
  have hv := hv.2
  exact hq (v_factors a1.toNatClampNeg) () _ _ _ _ hv hP hD hS d_XSt_onLine_26
set_option maxRecDepth 100000 in
set_option maxHeartbeats 4000000 in
/-- SpectrumParts$StandardList.factorOn -/
theorem c_XSt_factorOn (l : Launch) (dC : Nat → ClassId) (dI : Nat → Nat → Nat) (kI kJ kZ kII kJJ : ClassId) (h_this : Nat) (h_days : Nat) (h_factors : Nat) (v_size : Int32) (v_days : Nat → Int32) (v_factors : Nat → Int32) (a1 : Int32) (sz : Nat) (post : Int32 → Prop) (hv : vc_XSt_factorOn post v_size v_days v_factors a1) :
    Met l y_XSt_factorOn w_XSt_factorOn ({ frames := 2, cells := 0, slots := 0, locals := 47 }) (va_Pc [.ref h_this, .int a1] (px_B g0 (dC, dI) vwCl (tysv kI kJ kZ kII kJJ) [(h_this, .inr (5, [.int v_size, .ref h_days, .ref h_factors])), (h_days, .inl (kI, 10, .inl v_days)), (h_factors, .inl (kI, 10, .inl v_factors))] sz))
      (va_Qi (fun (r : Int32) (u : Unit) => post r) (fun (u : Unit) => ax_B (va_A [(h_this, .inr (5, [.int v_size, .ref h_days, .ref h_factors])), (h_days, .inl (kI, 10, .inl v_days)), (h_factors, .inl (kI, 10, .inl v_factors))] sz) (dC, dI) vwCl (tysv kI kJ kZ kII kJJ) [(h_this, .inr (5, [.int v_size, .ref h_days, .ref h_factors])), (h_days, .inl (kI, 10, .inl v_days)), (h_factors, .inl (kI, 10, .inl v_factors))]) (va_A [(h_this, .inr (5, [.int v_size, .ref h_days, .ref h_factors])), (h_days, .inl (kI, 10, .inl v_days)), (h_factors, .inl (kI, 10, .inl v_factors))] sz)) 0 0 (va_A [(h_this, .inr (5, [.int v_size, .ref h_days, .ref h_factors])), (h_days, .inl (kI, 10, .inl v_days)), (h_factors, .inl (kI, 10, .inl v_factors))] sz) := by
  refine pxi (cc := b_XSt_factorOn) (maxL := 5) (wd := fun (u : Unit) => [(h_this, .inr (5, [.int v_size, .ref h_days, .ref h_factors])), (h_days, .inl (kI, 10, .inl v_days)), (h_factors, .inl (kI, 10, .inl v_factors))]) (by decide +kernel) rfl (Nat.le_of_ble_eq_true rfl) ?_
  intro p e s m below meth c A ls Q H hx hb hml hts hown hK hG hP hD hS hA hl hq
  have hts := fun w h => hts w (List.mem_cons_of_mem _ h)
  have hown : s.vm.findClass R_XSt = some m.cls := hown
  have hl : lv_has ls 5 [(0, .ref h_this), (1, .int a1)] := hl
  unfold vc_XSt_factorOn at hv
  refine lv_iconst (v := (-1 : Int32)) hx hb d_XSt_factorOn_0 (by decide) ?_
  refine lv_istore_n (lv' := [(2, .int (-1 : Int32)), (0, .ref h_this), (1, .int a1)]) hx hb d_XSt_factorOn_1 rfl hl (by decide) rfl (fun ls hl => ?_)
  refine lv_iconst (v := (-1 : Int32)) hx hb d_XSt_factorOn_2 (by decide) ?_
  refine lv_istore_n (lv' := [(3, .int (-1 : Int32)), (2, .int (-1 : Int32)), (0, .ref h_this), (1, .int a1)]) hx hb d_XSt_factorOn_3 rfl hl (by decide) rfl (fun ls hl => ?_)
  refine lv_iconst (v := (0 : Int32)) hx hb d_XSt_factorOn_4 (by decide) ?_
  refine lv_istore (lv' := [(4, .int (0 : Int32)), (3, .int (-1 : Int32)), (2, .int (-1 : Int32)), (0, .ref h_this), (1, .int a1)]) hx hb d_XSt_factorOn_5 hl (by decide) rfl (fun ls hl => ?_)
  obtain ⟨n_7, hv⟩ := hv
  refine vlp3_W (P := fun (y2_7 : Int32) (y3_7 : Int32) (y4_7 : Int32) => wst p l e (headSpec w_XSt_factorOn ({ frames := 2, cells := 0, slots := 0, locals := 47 })).room s m ([.ref h_this, .int a1] : List Value).toArray below meth c dC dI A 5 Q [(h_this, .inr (5, [.int v_size, .ref h_days, .ref h_factors])), (h_days, .inl (kI, 10, .inl v_days)), (h_factors, .inl (kI, 10, .inl v_factors))] [(0, .ref h_this), (1, .int a1), (2, .int y2_7), (3, .int y3_7), (4, .int y4_7)] 7 [] 0 0) ?_ n_7 _ _ _ hv _ _ _ hP hD hS (lv_sub hl [3, 4, 2, 1, 0] rfl)
  intro R_7 hR_7 y2_7 y3_7 y4_7 hv H locs ls hP hD hS hl
  refine lv_iload hx hb d_XSt_factorOn_7 (lv_at hl 4 rfl) ?_
  refine lv_aload_n hx hb d_XSt_factorOn_9 rfl (lv_at hl 0 rfl) ?_
  refine va_get (D := (dC, dI)) (ci := 5) (v := .int v_size) (C := R_XSt) (T := T_XSt) (N := 3) hx hb hts i_XSt hown hK hP 0 rfl rfl 0 (by decide) (hts _ tk_169) (fun _ h9 => h9) rfl d_XSt_factorOn_10 ?_
  refine lv_icmp_ge (tgt := 92) hx hb d_XSt_factorOn_13 (by decide) (fun cd => ?_) (fun cd => ?_)
  · have hv := hv.1 cd
    refine lv_iload_n hx hb d_XSt_factorOn_92 rfl (lv_at hl 2 rfl) ?_
    refine lv_iconst (v := (-1 : Int32)) hx hb d_XSt_factorOn_93 (by decide) ?_
    refine lv_icmp_ne (tgt := 115) hx hb d_XSt_factorOn_94 (by decide) (fun cd => ?_) (fun cd => ?_)
    · have hv := hv.1 cd
      refine lv_iload_n hx hb d_XSt_factorOn_115 rfl (lv_at hl 3 rfl) ?_
      refine lv_iconst (v := (-1 : Int32)) hx hb d_XSt_factorOn_116 (by decide) ?_
      refine lv_icmp_ne (tgt := 129) hx hb d_XSt_factorOn_117 (by decide) (fun cd => ?_) (fun cd => ?_)
      · have hv := hv.1 cd
        refine lv_aload_n hx hb d_XSt_factorOn_129 rfl (lv_at hl 0 rfl) ?_
        refine lv_iload_n hx hb d_XSt_factorOn_130 rfl (lv_at hl 2 rfl) ?_
        refine lv_iload_n hx hb d_XSt_factorOn_131 rfl (lv_at hl 3 rfl) ?_
        refine lv_iload_n hx hb d_XSt_factorOn_132 rfl (lv_at hl 1 rfl) ?_
        have hPc := hP.sub (ws' := [(h_this, .inr (5, [.int v_size, .ref h_days, .ref h_factors])), (h_days, .inl (kI, 10, .inl v_days)), (h_factors, .inl (kI, 10, .inl v_factors))]) [0, 1, 2] rfl
        have hDc := hD.sub (ws' := [(h_this, .inr (5, [.int v_size, .ref h_days, .ref h_factors])), (h_days, .inl (kI, 10, .inl v_days)), (h_factors, .inl (kI, 10, .inl v_factors))]) [0, 1, 2] (by decide) rfl
        have hFc := va_free (wc := [(h_this, .inr (5, [.int v_size, .ref h_days, .ref h_factors])), (h_days, .inl (kI, 10, .inl v_days)), (h_factors, .inl (kI, 10, .inl v_factors))]) hD hS hA [0, 1, 2] rfl
        refine va_calli (va_runV (As := [.int y2_7, .int y3_7, .int a1]) (rest := []) ⟨hx, hb, hml, hown, hts⟩ (c_XSt_onLine l dC dI kI kJ kZ kII kJJ h_this h_days h_factors v_size v_days v_factors y2_7 y3_7 a1 H.size _ hv) (cwV 3 hts (gV tk_587 tk_589 ts_XSt_onLine tk_8 tc_XSt_onLine) rfl rfl rfl (by decide +kernel) ⟨Nat.le_of_ble_eq_true rfl, Nat.le_of_ble_eq_true rfl⟩) ⟨px_blind g0_mv, va_recv hK hPc (ci := 5) (q0 := 0) rfl rfl, px_pre g0_mv hPc hK hDc trivial hS hFc⟩ rfl rfl hl.1 rfl (lv_room (Nat.le_of_ble_eq_true rfl)) d_XSt_factorOn_133 ⟨Nat.le_of_ble_eq_true rfl, Nat.le_of_ble_eq_true rfl⟩) hS (fun q _ h => hFc q h) hFc (fun r_1 u t H1 locs ht hvm hv hB hz1 hk1 hS => ?_)
        obtain ⟨⟩ := u
        obtain ⟨hP, hD⟩ := cj_join (wr := []) (w1 := [(h_this, .inr (5, [.int v_size, .ref h_days, .ref h_factors])), (h_days, .inl (kI, 10, .inl v_days)), (h_factors, .inl (kI, 10, .inl v_factors))]) hP hD [0, 1, 2] [] rfl rfl (by decide) (by decide) hk1 hFc ht hB
        generalize H1 = H at hP hS ⊢
        have hP : va_P (dC, dI) vwCl [(h_this, .inr (5, [.int v_size, .ref h_days, .ref h_factors])), (h_days, .inl (kI, 10, .inl v_days)), (h_factors, .inl (kI, 10, .inl v_factors))] H := hP.sub [0, 1, 2] rfl
        have hD : va_D A [(h_this, .inr (5, [.int v_size, .ref h_days, .ref h_factors])), (h_days, .inl (kI, 10, .inl v_days)), (h_factors, .inl (kI, 10, .inl v_factors))] := hD.sub [0, 1, 2] (by decide) rfl
        exact hq r_1 () _ _ _ _ hv hP hD hS d_XSt_factorOn_136
      have hv := hv.2 cd
      refine lv_aload_n hx hb d_XSt_factorOn_120 rfl (lv_at hl 0 rfl) ?_
      refine va_get (D := (dC, dI)) (ci := 5) (v := .ref h_factors) (C := R_XSt) (T := T_XSt) (N := 3) hx hb hts i_XSt hown hK hP 0 rfl rfl 2 (by decide) (hts _ tk_172) (fun _ h9 => h9) rfl d_XSt_factorOn_121 ?_
      refine lv_iload_n hx hb d_XSt_factorOn_124 rfl (lv_at hl 2 rfl) ?_
      refine va_iald hx hb hK hP 2 0 rfl rfl hv.1 d_XSt_factorOn_125 ?_
      have hv := hv.2
      refine lv_goto (tgt := 136) hx hb d_XSt_factorOn_126 (by decide) ?_
      exact hq (v_factors y2_7.toNatClampNeg) () _ _ _ _ hv hP hD hS d_XSt_factorOn_136
    have hv := hv.2 cd
    refine lv_iload_n hx hb d_XSt_factorOn_97 rfl (lv_at hl 3 rfl) ?_
    refine lv_iconst (v := (-1 : Int32)) hx hb d_XSt_factorOn_98 (by decide) ?_
    refine lv_icmp_ne (tgt := 108) hx hb d_XSt_factorOn_99 (by decide) (fun cd => ?_) (fun cd => ?_)
    · have hv := hv.1 cd
      refine lv_aload_n hx hb d_XSt_factorOn_108 rfl (lv_at hl 0 rfl) ?_
      refine va_get (D := (dC, dI)) (ci := 5) (v := .ref h_factors) (C := R_XSt) (T := T_XSt) (N := 3) hx hb hts i_XSt hown hK hP 0 rfl rfl 2 (by decide) (hts _ tk_172) (fun _ h9 => h9) rfl d_XSt_factorOn_109 ?_
      refine lv_iload_n hx hb d_XSt_factorOn_112 rfl (lv_at hl 3 rfl) ?_
      refine va_iald hx hb hK hP 2 0 rfl rfl hv.1 d_XSt_factorOn_113 ?_
      have hv := hv.2
      exact hq (v_factors y3_7.toNatClampNeg) () _ _ _ _ hv hP hD hS d_XSt_factorOn_114
    have hv := hv.2 cd
    refine lv_sipush (v := (1000 : Int32)) hx hb d_XSt_factorOn_102 (by decide) ?_
    refine lv_goto (tgt := 114) hx hb d_XSt_factorOn_105 (by decide) ?_
    exact hq (1000 : Int32) () _ _ _ _ hv hP hD hS d_XSt_factorOn_114
  have hv := hv.2 cd
  refine lv_aload_n hx hb d_XSt_factorOn_16 rfl (lv_at hl 0 rfl) ?_
  refine va_get (D := (dC, dI)) (ci := 5) (v := .ref h_days) (C := R_XSt) (T := T_XSt) (N := 3) hx hb hts i_XSt hown hK hP 0 rfl rfl 1 (by decide) (hts _ tk_171) (fun _ h9 => h9) rfl d_XSt_factorOn_17 ?_
  refine lv_iload hx hb d_XSt_factorOn_20 (lv_at hl 4 rfl) ?_
  refine va_iald hx hb hK hP 1 0 rfl rfl hv.1 d_XSt_factorOn_22 ?_
  have hv := hv.2
  refine lv_iload_n hx hb d_XSt_factorOn_23 rfl (lv_at hl 1 rfl) ?_
  have hv := hv (fun (y2_51 : Int32) => wst p l e (headSpec w_XSt_factorOn ({ frames := 2, cells := 0, slots := 0, locals := 47 })).room s m ([.ref h_this, .int a1] : List Value).toArray below meth c dC dI A 5 Q [(h_this, .inr (5, [.int v_size, .ref h_days, .ref h_factors])), (h_days, .inl (kI, 10, .inl v_days)), (h_factors, .inl (kI, 10, .inl v_factors))] [(0, .ref h_this), (1, .int a1), (2, .int y2_51), (3, .int y3_7), (4, .int y4_7)] 51 [] 0 0) (by
      intro y2_51 hv H locs ls hP hD hS hl
      refine lv_aload_n hx hb d_XSt_factorOn_51 rfl (lv_at hl 0 rfl) ?_
      refine va_get (D := (dC, dI)) (ci := 5) (v := .ref h_days) (C := R_XSt) (T := T_XSt) (N := 3) hx hb hts i_XSt hown hK hP 0 rfl rfl 1 (by decide) (hts _ tk_171) (fun _ h9 => h9) rfl d_XSt_factorOn_52 ?_
      refine lv_iload hx hb d_XSt_factorOn_55 (lv_at hl 4 rfl) ?_
      refine va_iald hx hb hK hP 1 0 rfl rfl hv.1 d_XSt_factorOn_57 ?_
      have hv := hv.2
      refine lv_iload_n hx hb d_XSt_factorOn_58 rfl (lv_at hl 1 rfl) ?_
      refine lv_icmp_lt (tgt := 86) hx hb d_XSt_factorOn_59 (by decide) (fun cd => ?_) (fun cd => ?_)
      · have hv := hv.1 cd
        refine lv_iinc (v := (y4_7 + (1 : Int32))) (lv' := [(4, .int (y4_7 + (1 : Int32))), (0, .ref h_this), (1, .int a1), (2, .int y2_51), (3, .int y3_7)]) hx hb d_XSt_factorOn_86 hl (k := 4) rfl rfl (by decide) rfl (fun ls hl => ?_)
        refine lv_goto (tgt := 7) hx hb d_XSt_factorOn_89 (by decide) ?_
        exact hR_7 _ _ _ hv _ _ _ hP hD hS (lv_sub hl [1, 2, 3, 4, 0] rfl)
      have hv := hv.2 cd
      refine lv_iload_n hx hb d_XSt_factorOn_62 rfl (lv_at hl 3 rfl) ?_
      refine lv_iconst (v := (-1 : Int32)) hx hb d_XSt_factorOn_63 (by decide) ?_
      refine lv_icmp_eq (tgt := 83) hx hb d_XSt_factorOn_64 (by decide) (fun cd => ?_) (fun cd => ?_)
      · have hv := hv.1 cd
        refine lv_iload hx hb d_XSt_factorOn_83 (lv_at hl 4 rfl) ?_
        refine lv_istore_n (lv' := [(3, .int y4_7), (0, .ref h_this), (1, .int a1), (2, .int y2_51), (4, .int y4_7)]) hx hb d_XSt_factorOn_85 rfl hl (by decide) rfl (fun ls hl => ?_)
        refine lv_iinc (v := (y4_7 + (1 : Int32))) (lv' := [(4, .int (y4_7 + (1 : Int32))), (3, .int y4_7), (0, .ref h_this), (1, .int a1), (2, .int y2_51)]) hx hb d_XSt_factorOn_86 hl (k := 4) rfl rfl (by decide) rfl (fun ls hl => ?_)
        refine lv_goto (tgt := 7) hx hb d_XSt_factorOn_89 (by decide) ?_
        exact hR_7 _ _ _ hv _ _ _ hP hD hS (lv_sub hl [2, 3, 4, 1, 0] rfl)
      have hv := hv.2 cd
      refine lv_aload_n hx hb d_XSt_factorOn_67 rfl (lv_at hl 0 rfl) ?_
      refine va_get (D := (dC, dI)) (ci := 5) (v := .ref h_days) (C := R_XSt) (T := T_XSt) (N := 3) hx hb hts i_XSt hown hK hP 0 rfl rfl 1 (by decide) (hts _ tk_171) (fun _ h9 => h9) rfl d_XSt_factorOn_68 ?_
      refine lv_iload hx hb d_XSt_factorOn_71 (lv_at hl 4 rfl) ?_
      refine va_iald hx hb hK hP 1 0 rfl rfl hv.1 d_XSt_factorOn_73 ?_
      have hv := hv.2
      refine lv_aload_n hx hb d_XSt_factorOn_74 rfl (lv_at hl 0 rfl) ?_
      refine va_get (D := (dC, dI)) (ci := 5) (v := .ref h_days) (C := R_XSt) (T := T_XSt) (N := 3) hx hb hts i_XSt hown hK hP 0 rfl rfl 1 (by decide) (hts _ tk_171) (fun _ h9 => h9) rfl d_XSt_factorOn_75 ?_
      refine lv_iload_n hx hb d_XSt_factorOn_78 rfl (lv_at hl 3 rfl) ?_
      refine va_iald hx hb hK hP 1 0 rfl rfl hv.1 d_XSt_factorOn_79 ?_
      have hv := hv.2
      refine lv_icmp_ge (tgt := 86) hx hb d_XSt_factorOn_80 (by decide) (fun cd => ?_) (fun cd => ?_)
      · have hv := hv.1 cd
        refine lv_iinc (v := (y4_7 + (1 : Int32))) (lv' := [(4, .int (y4_7 + (1 : Int32))), (0, .ref h_this), (1, .int a1), (2, .int y2_51), (3, .int y3_7)]) hx hb d_XSt_factorOn_86 hl (k := 4) rfl rfl (by decide) rfl (fun ls hl => ?_)
        refine lv_goto (tgt := 7) hx hb d_XSt_factorOn_89 (by decide) ?_
        exact hR_7 _ _ _ hv _ _ _ hP hD hS (lv_sub hl [1, 2, 3, 4, 0] rfl)
      have hv := hv.2 cd
      refine lv_iload hx hb d_XSt_factorOn_83 (lv_at hl 4 rfl) ?_
      refine lv_istore_n (lv' := [(3, .int y4_7), (0, .ref h_this), (1, .int a1), (2, .int y2_51), (4, .int y4_7)]) hx hb d_XSt_factorOn_85 rfl hl (by decide) rfl (fun ls hl => ?_)
      refine lv_iinc (v := (y4_7 + (1 : Int32))) (lv' := [(4, .int (y4_7 + (1 : Int32))), (3, .int y4_7), (0, .ref h_this), (1, .int a1), (2, .int y2_51)]) hx hb d_XSt_factorOn_86 hl (k := 4) rfl rfl (by decide) rfl (fun ls hl => ?_)
      refine lv_goto (tgt := 7) hx hb d_XSt_factorOn_89 (by decide) ?_
      exact hR_7 _ _ _ hv _ _ _ hP hD hS (lv_sub hl [2, 3, 4, 1, 0] rfl))
  refine lv_icmp_gt (tgt := 51) hx hb d_XSt_factorOn_24 (by decide) (fun cd => ?_) (fun cd => ?_)
  · have hv := hv.1 cd
    exact hv _ _ _ hP hD hS (lv_sub hl [0, 1, 2, 3, 4] rfl)
  have hv := hv.2 cd
  refine lv_iload_n hx hb d_XSt_factorOn_27 rfl (lv_at hl 2 rfl) ?_
  refine lv_iconst (v := (-1 : Int32)) hx hb d_XSt_factorOn_28 (by decide) ?_
  have hv := hv (wst p l e (headSpec w_XSt_factorOn ({ frames := 2, cells := 0, slots := 0, locals := 47 })).room s m ([.ref h_this, .int a1] : List Value).toArray below meth c dC dI A 5 Q [(h_this, .inr (5, [.int v_size, .ref h_days, .ref h_factors])), (h_days, .inl (kI, 10, .inl v_days)), (h_factors, .inl (kI, 10, .inl v_factors))] [(0, .ref h_this), (1, .int a1), (3, .int y3_7), (4, .int y4_7)] 48 [] 0 0) (by
      intro  hv H locs ls hP hD hS hl
      refine lv_iload hx hb d_XSt_factorOn_48 (lv_at hl 3 rfl) ?_
      refine lv_istore_n (lv' := [(2, .int y4_7), (0, .ref h_this), (1, .int a1), (3, .int y3_7), (4, .int y4_7)]) hx hb d_XSt_factorOn_50 rfl hl (by decide) rfl (fun ls hl => ?_)
      exact hv _ _ _ hP hD hS (lv_sub hl [1, 2, 0, 3, 4] rfl))
  refine lv_icmp_eq (tgt := 48) hx hb d_XSt_factorOn_29 (by decide) (fun cd => ?_) (fun cd => ?_)
  · have hv := hv.1 cd
    exact hv _ _ _ hP hD hS (lv_sub hl [0, 1, 3, 4] rfl)
  have hv := hv.2 cd
  refine lv_aload_n hx hb d_XSt_factorOn_32 rfl (lv_at hl 0 rfl) ?_
  refine va_get (D := (dC, dI)) (ci := 5) (v := .ref h_days) (C := R_XSt) (T := T_XSt) (N := 3) hx hb hts i_XSt hown hK hP 0 rfl rfl 1 (by decide) (hts _ tk_171) (fun _ h9 => h9) rfl d_XSt_factorOn_33 ?_
  refine lv_iload hx hb d_XSt_factorOn_36 (lv_at hl 4 rfl) ?_
  refine va_iald hx hb hK hP 1 0 rfl rfl hv.1 d_XSt_factorOn_38 ?_
  have hv := hv.2
  refine lv_aload_n hx hb d_XSt_factorOn_39 rfl (lv_at hl 0 rfl) ?_
  refine va_get (D := (dC, dI)) (ci := 5) (v := .ref h_days) (C := R_XSt) (T := T_XSt) (N := 3) hx hb hts i_XSt hown hK hP 0 rfl rfl 1 (by decide) (hts _ tk_171) (fun _ h9 => h9) rfl d_XSt_factorOn_40 ?_
  refine lv_iload_n hx hb d_XSt_factorOn_43 rfl (lv_at hl 2 rfl) ?_
  refine va_iald hx hb hK hP 1 0 rfl rfl hv.1 d_XSt_factorOn_44 ?_
  have hv := hv.2
  refine lv_icmp_le (tgt := 51) hx hb d_XSt_factorOn_45 (by decide) (fun cd => ?_) (fun cd => ?_)
  · have hv := hv.1 cd
    exact hv _ _ _ hP hD hS (lv_sub hl [0, 1, 2, 3, 4] rfl)
  have hv := hv.2 cd
  exact hv _ _ _ hP hD hS (lv_sub hl [0, 1, 3, 4] rfl)
