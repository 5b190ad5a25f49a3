set_option maxRecDepth 100000 in
set_option maxHeartbeats 4000000 in
theorem c_XSp_init (l : Launch) (dC : Nat → ClassId) (dI : Nat → Nat → Nat) (kI kJ kZ kII kJJ : ClassId) (N : Nat) (tS s1 s2 s3 : Nat) (h_this : Nat) (a1 : Int32) (sz : Nat) (ha : ¬ a1 < 0) (hN : a1.toNatClampNeg = N) (h24 : N ≤ 24) : Met l y_XSp_init w_XSp_init ({ frames := 1, cells := 3, slots := 72, locals := 20 }) (va_Pc [.ref h_this, .int a1] (px_B (gX tS s1 s2 s3) (dC, dI) vwCl (tysv kI kJ kZ kII kJJ) [(h_this, .inr (4, [.int 0, .null, .null, .null]))] sz)) (va_Qv (fun _ : Nat × Nat × Nat => True) (fun (u : Nat × Nat × Nat) => ax_B (va_A [(h_this, .inr (4, [.int 0, .null, .null, .null]))] sz) (dC, dI) vwCl (tysv kI kJ kZ kII kJJ) [(h_this, .inr (4, [.int a1, .ref u.1, .ref u.2.1, .ref u.2.2])), (u.1, .inl (kI, N, .inl (fun _ => 0))), (u.2.1, .inl (kI, N, .inl (fun _ => 0))), (u.2.2, .inl (kI, N, .inl (fun _ => 0)))]) (va_A [(h_this, .inr (4, [.int 0, .null, .null, .null]))] sz)) 3 72 (va_A [(h_this, .inr (4, [.int 0, .null, .null, .null]))] sz) := by
  refine pxn (cc := b_XSp_init) (maxL := 2) (wd := fun (u : Nat × Nat × Nat) => [(h_this, .inr (4, [.int a1, .ref u.1, .ref u.2.1, .ref u.2.2])), (u.1, .inl (kI, N, .inl (fun _ => 0))), (u.2.1, .inl (kI, N, .inl (fun _ => 0))), (u.2.2, .inl (kI, N, .inl (fun _ => 0)))]) (by decide +kernel) rfl (Nat.le_of_ble_eq_true rfl) ?_
  intro p e s m below meth c A ls Q H hx hb hml hts hown hin hK hG hP hD hS hA hl hq
  have hl : lv_has ls 2 [(0, .ref h_this), (1, .int a1)] := hl
  have hts := fun w h => hts w (List.mem_cons_of_mem _ h)
  have hown : s.vm.findClass R_XSp = some m.cls := hown
  have hin : meth.name = "<init>" := hin
  refine lv_aload_n hx hb d_XSp_init_0 rfl (lv_at hl 0 rfl) ?_
  refine W.objInit hx hb hown (hts _ tk_36) (hts _ tk_23) (hts _ tk_24) rfl (by rw [hml]; exact hl.1) rfl d_XSp_init_1 (Nat.le_of_ble_eq_true rfl) (Nat.le_of_ble_eq_true rfl) ?_
  refine W.eq (g2 := F0 m 4 ls []) rfl ?_
  refine lv_aload_n hx hb d_XSp_init_4 rfl (lv_at hl 0 rfl) ?_
  refine lv_iload_n hx hb d_XSp_init_5 rfl (lv_at hl 1 rfl) ?_
  refine va_putF (D := (dC, dI)) (ci := 4) (v := .int a1) (ty := .int) (C := R_XSp) (T := T_XSp) (N := 4) hx hb hts i_XSp u_XSp u_XSp_ok n_XSp hown hK hP hD hS 0 rfl rfl 0 (by decide) (hts _ tk_37) (fun _ h9 => h9) rfl hin rfl rfl rfl rfl (Nat.le_of_ble_eq_true rfl) d_XSp_init_6 (fun H locs hP hD hS => ?_)
  have hP : va_P (dC, dI) vwCl [(h_this, .inr (4, [.int a1, .null, .null, .null]))] H := hP
  have hD : va_D A [(h_this, .inr (4, [.int a1, .null, .null, .null]))] := hD
  refine lv_aload_n hx hb d_XSp_init_9 rfl (lv_at hl 0 rfl) ?_
  refine lv_iload_n hx hb d_XSp_init_10 rfl (lv_at hl 1 rfl) ?_
  refine gx_newa (atype := .int) (k := kI) 0 rfl (by intro C h; cases h) hx hb (hts _ tk_55) rfl hK hP hD hS hA (a0 := (N, .inl (fun _ => 0))) (fun _ => rfl) ha hN (by show N * 4 ≤ 536870912; omega) (Nat.le_of_ble_eq_true rfl) (by show 0 + N ≤ 72; omega) d_XSp_init_11 (fun q11 H hP hD hS => ?_)
  have hP : va_P (dC, dI) vwCl [(h_this, .inr (4, [.int a1, .null, .null, .null])), (q11, .inl (kI, N, .inl (fun _ => 0)))] H := hP
  have hD : va_D A [(h_this, .inr (4, [.int a1, .null, .null, .null])), (q11, .inl (kI, N, .inl (fun _ => 0)))] := hD
  refine W.widen (k := 1) (n := 24) (by omega) (by omega) ?_
  refine va_putF (D := (dC, dI)) (ci := 4) (v := .ref q11) (ty := .array .int) (C := R_XSp) (T := T_XSp) (N := 4) hx hb hts i_XSp u_XSp u_XSp_ok n_XSp hown hK hP hD hS 0 rfl rfl 1 (by decide) (hts _ tk_41) (fun _ h9 => h9) rfl hin rfl rfl rfl rfl (Nat.le_of_ble_eq_true rfl) d_XSp_init_13 (fun H locs hP hD hS => ?_)
  have hP : va_P (dC, dI) vwCl [(h_this, .inr (4, [.int a1, .ref q11, .null, .null])), (q11, .inl (kI, N, .inl (fun _ => 0)))] H := hP
  have hD : va_D A [(h_this, .inr (4, [.int a1, .ref q11, .null, .null])), (q11, .inl (kI, N, .inl (fun _ => 0)))] := hD
  refine lv_aload_n hx hb d_XSp_init_16 rfl (lv_at hl 0 rfl) ?_
  refine lv_iload_n hx hb d_XSp_init_17 rfl (lv_at hl 1 rfl) ?_
  refine gx_newa (atype := .int) (k := kI) 0 rfl (by intro C h; cases h) hx hb (hts _ tk_55) rfl hK hP hD hS hA (a0 := (N, .inl (fun _ => 0))) (fun _ => rfl) ha hN (by show N * 4 ≤ 536870912; omega) (Nat.le_of_ble_eq_true rfl) (by show 24 + N ≤ 72; omega) d_XSp_init_18 (fun q18 H hP hD hS => ?_)
  have hP : va_P (dC, dI) vwCl [(h_this, .inr (4, [.int a1, .ref q11, .null, .null])), (q11, .inl (kI, N, .inl (fun _ => 0))), (q18, .inl (kI, N, .inl (fun _ => 0)))] H := hP
  have hD : va_D A [(h_this, .inr (4, [.int a1, .ref q11, .null, .null])), (q11, .inl (kI, N, .inl (fun _ => 0))), (q18, .inl (kI, N, .inl (fun _ => 0)))] := hD
  refine W.widen (k := 2) (n := 48) (by omega) (by omega) ?_
  refine va_putF (D := (dC, dI)) (ci := 4) (v := .ref q18) (ty := .array .int) (C := R_XSp) (T := T_XSp) (N := 4) hx hb hts i_XSp u_XSp u_XSp_ok n_XSp hown hK hP hD hS 0 rfl rfl 2 (by decide) (hts _ tk_43) (fun _ h9 => h9) rfl hin rfl rfl rfl rfl (Nat.le_of_ble_eq_true rfl) d_XSp_init_20 (fun H locs hP hD hS => ?_)
  have hP : va_P (dC, dI) vwCl [(h_this, .inr (4, [.int a1, .ref q11, .ref q18, .null])), (q11, .inl (kI, N, .inl (fun _ => 0))), (q18, .inl (kI, N, .inl (fun _ => 0)))] H := hP
  have hD : va_D A [(h_this, .inr (4, [.int a1, .ref q11, .ref q18, .null])), (q11, .inl (kI, N, .inl (fun _ => 0))), (q18, .inl (kI, N, .inl (fun _ => 0)))] := hD
  refine lv_aload_n hx hb d_XSp_init_23 rfl (lv_at hl 0 rfl) ?_
  refine lv_iload_n hx hb d_XSp_init_24 rfl (lv_at hl 1 rfl) ?_
  refine gx_newa (atype := .int) (k := kI) 0 rfl (by intro C h; cases h) hx hb (hts _ tk_55) rfl hK hP hD hS hA (a0 := (N, .inl (fun _ => 0))) (fun _ => rfl) ha hN (by show N * 4 ≤ 536870912; omega) (Nat.le_of_ble_eq_true rfl) (by show 48 + N ≤ 72; omega) d_XSp_init_25 (fun q25 H hP hD hS => ?_)
  have hP : va_P (dC, dI) vwCl [(h_this, .inr (4, [.int a1, .ref q11, .ref q18, .null])), (q11, .inl (kI, N, .inl (fun _ => 0))), (q18, .inl (kI, N, .inl (fun _ => 0))), (q25, .inl (kI, N, .inl (fun _ => 0)))] H := hP
  have hD : va_D A [(h_this, .inr (4, [.int a1, .ref q11, .ref q18, .null])), (q11, .inl (kI, N, .inl (fun _ => 0))), (q18, .inl (kI, N, .inl (fun _ => 0))), (q25, .inl (kI, N, .inl (fun _ => 0)))] := hD
  refine W.widen (k := 3) (n := 72) (by omega) (by omega) ?_
  refine va_putF (D := (dC, dI)) (ci := 4) (v := .ref q25) (ty := .array .int) (C := R_XSp) (T := T_XSp) (N := 4) hx hb hts i_XSp u_XSp u_XSp_ok n_XSp hown hK hP hD hS 0 rfl rfl 3 (by decide) (hts _ tk_45) (fun _ h9 => h9) rfl hin rfl rfl rfl rfl (Nat.le_of_ble_eq_true rfl) d_XSp_init_27 (fun H locs hP hD hS => ?_)
  have hP : va_P (dC, dI) vwCl [(h_this, .inr (4, [.int a1, .ref q11, .ref q18, .ref q25])), (q11, .inl (kI, N, .inl (fun _ => 0))), (q18, .inl (kI, N, .inl (fun _ => 0))), (q25, .inl (kI, N, .inl (fun _ => 0)))] H := hP
  have hD : va_D A [(h_this, .inr (4, [.int a1, .ref q11, .ref q18, .ref q25])), (q11, .inl (kI, N, .inl (fun _ => 0))), (q18, .inl (kI, N, .inl (fun _ => 0))), (q25, .inl (kI, N, .inl (fun _ => 0)))] := hD
  have hP : va_P (dC, dI) vwCl [(h_this, .inr (4, [.int a1, .ref q11, .ref q18, .ref q25])), (q11, .inl (kI, N, .inl (fun _ => 0))), (q18, .inl (kI, N, .inl (fun _ => 0))), (q25, .inl (kI, N, .inl (fun _ => 0)))] H := hP.sub [0, 1, 2, 3] rfl
  have hD : va_D A [(h_this, .inr (4, [.int a1, .ref q11, .ref q18, .ref q25])), (q11, .inl (kI, N, .inl (fun _ => 0))), (q18, .inl (kI, N, .inl (fun _ => 0))), (q25, .inl (kI, N, .inl (fun _ => 0)))] := hD.sub [0, 1, 2, 3] (by decide +kernel) rfl
  exact hq (q11, q18, q25) _ _ _ _ trivial hP hD hS d_XSp_init_30
set_option maxRecDepth 100000 in
set_option maxHeartbeats 4000000 in
theorem c_XPe_init (l : Launch) (dC : Nat → ClassId) (dI : Nat → Nat → Nat) (kI kJ kZ kII kJJ : ClassId) (N : Nat) (tS s1 s2 s3 : Nat) (h_this : Nat) (a1 : Int32) (sz : Nat) (ha : ¬ a1 < 0) (hN : a1.toNatClampNeg = N) (h24 : N ≤ 24) : Met l y_XPe_init w_XPe_init ({ frames := 1, cells := 6, slots := 125, locals := 20 }) (va_Pc [.ref h_this, .int a1] (px_B (gX tS s1 s2 s3) (dC, dI) vwCl (tysv kI kJ kZ kII kJJ) [(h_this, .inr (2, [.null, .int 0]))] sz)) (va_Qv (fun _ : Nat × (Nat → Nat) => True) (fun (u : Nat × (Nat → Nat)) => ax_B (va_A [(h_this, .inr (2, [.null, .int 0]))] sz) (dC, dI) vwCl (tysv kI kJ kZ kII kJJ) (wq [(h_this, .inr (2, [.ref u.1, .int 0])), (u.1, .inl (kII, 5, .inr (.inr (.inr (.inr (gq 5 u.2))))))] (wq (gi5 u.2 kI N (fun _ _ => 0)) []))) (va_A [(h_this, .inr (2, [.null, .int 0]))] sz)) 6 125 (va_A [(h_this, .inr (2, [.null, .int 0]))] sz) := by
  refine pxn (cc := b_XPe_init) (maxL := 2) (wd := fun (u : Nat × (Nat → Nat)) => (wq [(h_this, .inr (2, [.ref u.1, .int 0])), (u.1, .inl (kII, 5, .inr (.inr (.inr (.inr (gq 5 u.2))))))] (wq (gi5 u.2 kI N (fun _ _ => 0)) []))) (by decide +kernel) rfl (Nat.le_of_ble_eq_true rfl) ?_
  intro p e s m below meth c A ls Q H hx hb hml hts hown hin hK hG hP hD hS hA hl hq
  have hl : lv_has ls 2 [(0, .ref h_this), (1, .int a1)] := hl
  have hts := fun w h => hts w (List.mem_cons_of_mem _ h)
  have hown : s.vm.findClass R_XPe = some m.cls := hown
  have hin : meth.name = "<init>" := hin
  refine lv_aload_n hx hb d_XPe_init_0 rfl (lv_at hl 0 rfl) ?_
  refine W.objInit hx hb hown (hts _ tk_61) (hts _ tk_23) (hts _ tk_24) rfl (by rw [hml]; exact hl.1) rfl d_XPe_init_1 (Nat.le_of_ble_eq_true rfl) (Nat.le_of_ble_eq_true rfl) ?_
  refine W.eq (g2 := F0 m 4 ls []) rfl ?_
  refine lv_aload_n hx hb d_XPe_init_4 rfl (lv_at hl 0 rfl) ?_
  refine lv_iconst (v := 0) hx hb d_XPe_init_5 (by decide) ?_
  refine va_put (D := (dC, dI)) (ci := 2) (v := .int 0) (ty := .int) (C := R_XPe) (T := T_XPe) (N := 2) hx hb hts i_XPe u_XPe u_XPe_ok n_XPe hown hK hP hD hS 0 rfl rfl 1 (by decide) (hts _ tk_66) (fun _ h9 => h9) rfl rfl rfl rfl (Nat.le_of_ble_eq_true rfl) d_XPe_init_6 (fun H locs hP hD hS => ?_)
  have hP : va_P (dC, dI) vwCl [(h_this, .inr (2, [.null, .int 0]))] H := hP
  have hD : va_D A [(h_this, .inr (2, [.null, .int 0]))] := hD
  refine lv_aload_n hx hb d_XPe_init_9 rfl (lv_at hl 0 rfl) ?_
  refine lv_iconst (v := 5) hx hb d_XPe_init_10 (by decide) ?_
  refine lv_iload_n hx hb d_XPe_init_11 rfl (lv_at hl 1 rfl) ?_
  refine gx_mna (k := kII) (kR := kI) 3 0 rfl rfl (by intro C h; cases h) hx hb hown (gx_cl (by decide) (hts _ tk_62)) (xs_at (hG.2.2.2.2.2.2 (.arrayOver (.array .int)) (by decide +kernel))) (hts _ tk_55) hK hP hD hS hA (z := (N, .inl (fun _ => 0))) (N' := 5) (by decide) (by decide) ha hN (by decide) (by show N * 4 ≤ 536870912; omega) (by omega) rfl rfl (Nat.le_of_ble_eq_true rfl) (by show 0 + (5 + 5 * N) ≤ 125; omega) (fun _ => gz_i _ _) d_XPe_init_12 (fun q12 g12 H hP hD hS => ?_)
  have hP : va_P (dC, dI) vwCl [(h_this, .inr (2, [.null, .int 0])), (q12, .inl (kII, 5, .inr (.inr (.inr (.inr (gq 5 g12)))))), (g12 0, .inl (kI, N, .inl (fun _ => 0))), (g12 1, .inl (kI, N, .inl (fun _ => 0))), (g12 2, .inl (kI, N, .inl (fun _ => 0))), (g12 3, .inl (kI, N, .inl (fun _ => 0))), (g12 4, .inl (kI, N, .inl (fun _ => 0)))] H := hP
  have hD : va_D A [(h_this, .inr (2, [.null, .int 0])), (q12, .inl (kII, 5, .inr (.inr (.inr (.inr (gq 5 g12)))))), (g12 0, .inl (kI, N, .inl (fun _ => 0))), (g12 1, .inl (kI, N, .inl (fun _ => 0))), (g12 2, .inl (kI, N, .inl (fun _ => 0))), (g12 3, .inl (kI, N, .inl (fun _ => 0))), (g12 4, .inl (kI, N, .inl (fun _ => 0)))] := hD
  refine W.widen (k := 6) (n := 125) (by omega) (by omega) ?_
  refine va_putF (D := (dC, dI)) (ci := 2) (v := .ref q12) (ty := .array (.array .int)) (C := R_XPe) (T := T_XPe) (N := 2) hx hb hts i_XPe u_XPe u_XPe_ok n_XPe hown hK hP hD hS 0 rfl rfl 0 (by decide) (hts _ tk_64) (fun _ h9 => h9) rfl hin rfl rfl rfl rfl (Nat.le_of_ble_eq_true rfl) d_XPe_init_16 (fun H locs hP hD hS => ?_)
  have hP : va_P (dC, dI) vwCl [(h_this, .inr (2, [.ref q12, .int 0])), (q12, .inl (kII, 5, .inr (.inr (.inr (.inr (gq 5 g12)))))), (g12 0, .inl (kI, N, .inl (fun _ => 0))), (g12 1, .inl (kI, N, .inl (fun _ => 0))), (g12 2, .inl (kI, N, .inl (fun _ => 0))), (g12 3, .inl (kI, N, .inl (fun _ => 0))), (g12 4, .inl (kI, N, .inl (fun _ => 0)))] H := hP
  have hD : va_D A [(h_this, .inr (2, [.ref q12, .int 0])), (q12, .inl (kII, 5, .inr (.inr (.inr (.inr (gq 5 g12)))))), (g12 0, .inl (kI, N, .inl (fun _ => 0))), (g12 1, .inl (kI, N, .inl (fun _ => 0))), (g12 2, .inl (kI, N, .inl (fun _ => 0))), (g12 3, .inl (kI, N, .inl (fun _ => 0))), (g12 4, .inl (kI, N, .inl (fun _ => 0)))] := hD
  have hP : va_P (dC, dI) vwCl (wq [(h_this, .inr (2, [.ref q12, .int 0])), (q12, .inl (kII, 5, .inr (.inr (.inr (.inr (gq 5 g12))))))] (wq (gi5 g12 kI N (fun _ _ => 0)) [])) H := hP.sub [0, 1, 2, 3, 4, 5, 6] rfl
  have hD : va_D A (wq [(h_this, .inr (2, [.ref q12, .int 0])), (q12, .inl (kII, 5, .inr (.inr (.inr (.inr (gq 5 g12))))))] (wq (gi5 g12 kI N (fun _ _ => 0)) [])) := hD.sub [0, 1, 2, 3, 4, 5, 6] (by decide +kernel) rfl
  exact hq (q12, g12) _ _ _ _ trivial hP hD hS d_XPe_init_19
set_option maxRecDepth 100000 in
set_option maxHeartbeats 4000000 in
theorem c_XLi_init (l : Launch) (dC : Nat → ClassId) (dI : Nat → Nat → Nat) (kI kJ kZ kII kJJ : ClassId) (tS s1 s2 s3 : Nat) (h_this : Nat) (sz : Nat) : Met l y_XLi_init w_XLi_init ({ frames := 1, cells := 10, slots := 40, locals := 20 }) (va_Pc [.ref h_this] (px_B (gX tS s1 s2 s3) (dC, dI) vwCl (tysv kI kJ kZ kII kJJ) [(h_this, .inr (0, [.null, .null]))] sz)) (va_Qv (fun _ : Nat × Nat × (Nat → Nat) => True) (fun (u : Nat × Nat × (Nat → Nat)) => ax_B (va_A [(h_this, .inr (0, [.null, .null]))] sz) (dC, dI) vwCl (tysv kI kJ kZ kII kJJ) (wq [(h_this, .inr (0, [.ref u.1, .ref u.2.1])), (u.1, .inl (kI, 8, .inl (fun _ => 0))), (u.2.1, .inl (kII, 8, .inr (.inr (.inr (.inr (gq 8 u.2.2))))))] (wq (gi8 u.2.2 kI 3 (fun _ _ => 0)) []))) (va_A [(h_this, .inr (0, [.null, .null]))] sz)) 10 40 (va_A [(h_this, .inr (0, [.null, .null]))] sz) := by
  refine pxn (cc := b_XLi_init) (maxL := 1) (wd := fun (u : Nat × Nat × (Nat → Nat)) => (wq [(h_this, .inr (0, [.ref u.1, .ref u.2.1])), (u.1, .inl (kI, 8, .inl (fun _ => 0))), (u.2.1, .inl (kII, 8, .inr (.inr (.inr (.inr (gq 8 u.2.2))))))] (wq (gi8 u.2.2 kI 3 (fun _ _ => 0)) []))) (by decide +kernel) rfl (Nat.le_of_ble_eq_true rfl) ?_
  intro p e s m below meth c A ls Q H hx hb hml hts hown hin hK hG hP hD hS hA hl hq
  have hl : lv_has ls 1 [(0, .ref h_this)] := hl
  have hts := fun w h => hts w (List.mem_cons_of_mem _ h)
  have hown : s.vm.findClass R_XLi = some m.cls := hown
  have hin : meth.name = "<init>" := hin
  refine lv_aload_n hx hb d_XLi_init_0 rfl (lv_at hl 0 rfl) ?_
  refine W.objInit hx hb hown (hts _ tk_78) (hts _ tk_23) (hts _ tk_24) rfl (by rw [hml]; exact hl.1) rfl d_XLi_init_1 (Nat.le_of_ble_eq_true rfl) (Nat.le_of_ble_eq_true rfl) ?_
  refine W.eq (g2 := F0 m 4 ls []) rfl ?_
  refine lv_aload_n hx hb d_XLi_init_4 rfl (lv_at hl 0 rfl) ?_
  refine lv_bipush (v := 8) hx hb d_XLi_init_5 (by decide) ?_
  refine gx_newa (atype := .int) (k := kI) 0 rfl (by intro C h; cases h) hx hb (hts _ tk_55) rfl hK hP hD hS hA (a0 := (8, .inl (fun _ => 0))) (fun _ => rfl) (by decide) (by decide) (by decide) (Nat.le_of_ble_eq_true rfl) (Nat.le_of_ble_eq_true rfl) d_XLi_init_7 (fun q7 H hP hD hS => ?_)
  have hP : va_P (dC, dI) vwCl [(h_this, .inr (0, [.null, .null])), (q7, .inl (kI, 8, .inl (fun _ => 0)))] H := hP
  have hD : va_D A [(h_this, .inr (0, [.null, .null])), (q7, .inl (kI, 8, .inl (fun _ => 0)))] := hD
  refine W.widen (k := 1) (n := 8) (by omega) (by omega) ?_
  refine va_putF (D := (dC, dI)) (ci := 0) (v := .ref q7) (ty := .array .int) (C := R_XLi) (T := T_XLi) (N := 2) hx hb hts i_XLi u_XLi u_XLi_ok n_XLi hown hK hP hD hS 0 rfl rfl 0 (by decide) (hts _ tk_80) (fun _ h9 => h9) rfl hin rfl rfl rfl rfl (Nat.le_of_ble_eq_true rfl) d_XLi_init_9 (fun H locs hP hD hS => ?_)
  have hP : va_P (dC, dI) vwCl [(h_this, .inr (0, [.ref q7, .null])), (q7, .inl (kI, 8, .inl (fun _ => 0)))] H := hP
  have hD : va_D A [(h_this, .inr (0, [.ref q7, .null])), (q7, .inl (kI, 8, .inl (fun _ => 0)))] := hD
  refine lv_aload_n hx hb d_XLi_init_12 rfl (lv_at hl 0 rfl) ?_
  refine lv_bipush (v := 8) hx hb d_XLi_init_13 (by decide) ?_
  refine lv_iconst (v := 3) hx hb d_XLi_init_15 (by decide) ?_
  refine gx_mna (k := kII) (kR := kI) 3 0 rfl rfl (by intro C h; cases h) hx hb hown (gx_cl (by decide) (hts _ tk_79)) (xs_at (hG.2.2.2.2.2.2 (.arrayOver (.array .int)) (by decide +kernel))) (hts _ tk_55) hK hP hD hS hA (z := (3, .inl (fun _ => 0))) (N' := 8) (by decide) (by decide) (by decide) (by decide) (by decide) (by decide) (by decide) rfl rfl (Nat.le_of_ble_eq_true rfl) (Nat.le_of_ble_eq_true rfl) (fun _ => gz_i _ _) d_XLi_init_16 (fun q16 g16 H hP hD hS => ?_)
  have hP : va_P (dC, dI) vwCl [(h_this, .inr (0, [.ref q7, .null])), (q7, .inl (kI, 8, .inl (fun _ => 0))), (q16, .inl (kII, 8, .inr (.inr (.inr (.inr (gq 8 g16)))))), (g16 0, .inl (kI, 3, .inl (fun _ => 0))), (g16 1, .inl (kI, 3, .inl (fun _ => 0))), (g16 2, .inl (kI, 3, .inl (fun _ => 0))), (g16 3, .inl (kI, 3, .inl (fun _ => 0))), (g16 4, .inl (kI, 3, .inl (fun _ => 0))), (g16 5, .inl (kI, 3, .inl (fun _ => 0))), (g16 6, .inl (kI, 3, .inl (fun _ => 0))), (g16 7, .inl (kI, 3, .inl (fun _ => 0)))] H := hP
  have hD : va_D A [(h_this, .inr (0, [.ref q7, .null])), (q7, .inl (kI, 8, .inl (fun _ => 0))), (q16, .inl (kII, 8, .inr (.inr (.inr (.inr (gq 8 g16)))))), (g16 0, .inl (kI, 3, .inl (fun _ => 0))), (g16 1, .inl (kI, 3, .inl (fun _ => 0))), (g16 2, .inl (kI, 3, .inl (fun _ => 0))), (g16 3, .inl (kI, 3, .inl (fun _ => 0))), (g16 4, .inl (kI, 3, .inl (fun _ => 0))), (g16 5, .inl (kI, 3, .inl (fun _ => 0))), (g16 6, .inl (kI, 3, .inl (fun _ => 0))), (g16 7, .inl (kI, 3, .inl (fun _ => 0)))] := hD
  refine W.widen (k := 10) (n := 40) (by omega) (by omega) ?_
  refine va_putF (D := (dC, dI)) (ci := 0) (v := .ref q16) (ty := .array (.array .int)) (C := R_XLi) (T := T_XLi) (N := 2) hx hb hts i_XLi u_XLi u_XLi_ok n_XLi hown hK hP hD hS 0 rfl rfl 1 (by decide) (hts _ tk_82) (fun _ h9 => h9) rfl hin rfl rfl rfl rfl (Nat.le_of_ble_eq_true rfl) d_XLi_init_20 (fun H locs hP hD hS => ?_)
  have hP : va_P (dC, dI) vwCl [(h_this, .inr (0, [.ref q7, .ref q16])), (q7, .inl (kI, 8, .inl (fun _ => 0))), (q16, .inl (kII, 8, .inr (.inr (.inr (.inr (gq 8 g16)))))), (g16 0, .inl (kI, 3, .inl (fun _ => 0))), (g16 1, .inl (kI, 3, .inl (fun _ => 0))), (g16 2, .inl (kI, 3, .inl (fun _ => 0))), (g16 3, .inl (kI, 3, .inl (fun _ => 0))), (g16 4, .inl (kI, 3, .inl (fun _ => 0))), (g16 5, .inl (kI, 3, .inl (fun _ => 0))), (g16 6, .inl (kI, 3, .inl (fun _ => 0))), (g16 7, .inl (kI, 3, .inl (fun _ => 0)))] H := hP
  have hD : va_D A [(h_this, .inr (0, [.ref q7, .ref q16])), (q7, .inl (kI, 8, .inl (fun _ => 0))), (q16, .inl (kII, 8, .inr (.inr (.inr (.inr (gq 8 g16)))))), (g16 0, .inl (kI, 3, .inl (fun _ => 0))), (g16 1, .inl (kI, 3, .inl (fun _ => 0))), (g16 2, .inl (kI, 3, .inl (fun _ => 0))), (g16 3, .inl (kI, 3, .inl (fun _ => 0))), (g16 4, .inl (kI, 3, .inl (fun _ => 0))), (g16 5, .inl (kI, 3, .inl (fun _ => 0))), (g16 6, .inl (kI, 3, .inl (fun _ => 0))), (g16 7, .inl (kI, 3, .inl (fun _ => 0)))] := hD
  have hP : va_P (dC, dI) vwCl (wq [(h_this, .inr (0, [.ref q7, .ref q16])), (q7, .inl (kI, 8, .inl (fun _ => 0))), (q16, .inl (kII, 8, .inr (.inr (.inr (.inr (gq 8 g16))))))] (wq (gi8 g16 kI 3 (fun _ _ => 0)) [])) H := hP.sub [0, 1, 2, 3, 4, 5, 6, 7, 8, 9, 10] rfl
  have hD : va_D A (wq [(h_this, .inr (0, [.ref q7, .ref q16])), (q7, .inl (kI, 8, .inl (fun _ => 0))), (q16, .inl (kII, 8, .inr (.inr (.inr (.inr (gq 8 g16))))))] (wq (gi8 g16 kI 3 (fun _ _ => 0)) [])) := hD.sub [0, 1, 2, 3, 4, 5, 6, 7, 8, 9, 10] (by decide +kernel) rfl
  exact hq (q7, q16, g16) _ _ _ _ trivial hP hD hS d_XLi_init_23
