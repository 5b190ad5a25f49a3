def vc_XLi_add (post : Int32 → (Nat → Nat → Int32) → (Nat → Int32) → Prop) (v_lines : Nat → Nat → Int32) (v_sizes : Nat → Int32) (a1 : Int32) (a2 : Int32) : Prop :=
  (vp_in a1 8 ∧ (vp_in a1 8 ∧ (vp_in (v_sizes a1.toNatClampNeg) 3 ∧ (vp_in a1 8 ∧ (vp_in a1 8 ∧ (vp_in a1 8 ∧ post ((upd v_sizes a1.toNatClampNeg ((v_sizes a1.toNatClampNeg) + (1 : Int32))) a1.toNatClampNeg) (gseti v_lines a1.toNatClampNeg ((v_sizes a1.toNatClampNeg).toNatClampNeg) a2) (upd v_sizes a1.toNatClampNeg ((v_sizes a1.toNatClampNeg) + (1 : Int32)))))))))
def vc_XLi_nearest (post : Int32 → Prop) (v_sizes : Nat → Int32) (v_lines : Nat → Nat → Int32) (a1 : Int32) (a2 : Int32) : Prop :=
  (∀ x4_1 : Int32, x4_1 = (a2 + (1 : Int32)) → (∃ n, vlp3 (fun (R_10 : Int32 → Int32 → Int32 → Prop) (y3_10 : Int32) (y4_10 : Int32) (y5_10 : Int32) => (((8 : Int32) ≤ y5_10 → post y3_10) ∧ (¬ (8 : Int32) ≤ y5_10 → (∃ n, vlp3 (fun (R_20 : Int32 → Int32 → Int32 → Prop) (y3_20 : Int32) (y4_20 : Int32) (y6_20 : Int32) => (vp_in y5_10 8 ∧ (((v_sizes y5_10.toNatClampNeg) ≤ y6_20 → R_10 y3_20 y4_20 (y5_10 + (1 : Int32))) ∧ (¬ (v_sizes y5_10.toNatClampNeg) ≤ y6_20 → (vp_in y5_10 8 ∧ (vp_in y6_20 3 ∧ (∀ x7_3 : Int32, x7_3 = (if 0 ≤ ((v_lines y5_10.toNatClampNeg y6_20.toNatClampNeg) - a1) then ((v_lines y5_10.toNatClampNeg y6_20.toNatClampNeg) - a1) else 0 - ((v_lines y5_10.toNatClampNeg y6_20.toNatClampNeg) - a1)) → ((y4_20 ≤ x7_3 → R_20 y3_20 y4_20 (y6_20 + (1 : Int32))) ∧ (¬ y4_20 ≤ x7_3 → R_20 y5_10 x7_3 (y6_20 + (1 : Int32))))))))))) n y3_10 y4_10 (0 : Int32))))) n (-1 : Int32) x4_1 (0 : Int32)))
def vc_XLi_isAtOrNextTo (post : Int32 → Prop) (v_sizes : Nat → Int32) (v_lines : Nat → Nat → Int32) (a1 : Int32) (a2 : Int32) : Prop :=
  (∃ n, vlp1 (fun (R_2 : Int32 → Prop) (y3_2 : Int32) => (vp_in a1 8 ∧ (((v_sizes a1.toNatClampNeg) ≤ y3_2 → post (0 : Int32)) ∧ (¬ (v_sizes a1.toNatClampNeg) ≤ y3_2 → (vp_in a1 8 ∧ (vp_in y3_2 3 ∧ (((1 : Int32) < (if 0 ≤ ((v_lines a1.toNatClampNeg y3_2.toNatClampNeg) - a2) then ((v_lines a1.toNatClampNeg y3_2.toNatClampNeg) - a2) else 0 - ((v_lines a1.toNatClampNeg y3_2.toNatClampNeg) - a2)) → R_2 (y3_2 + (1 : Int32))) ∧ (¬ (1 : Int32) < (if 0 ≤ ((v_lines a1.toNatClampNeg y3_2.toNatClampNeg) - a2) then ((v_lines a1.toNatClampNeg y3_2.toNatClampNeg) - a2) else 0 - ((v_lines a1.toNatClampNeg y3_2.toNatClampNeg) - a2)) → post (1 : Int32))))))))) n (0 : Int32))
set_option maxRecDepth 100000 in
set_option maxHeartbeats 4000000 in
/-- SpectrumParts$LineTable.add -/
theorem c_XLi_add (l : Launch) (dC : Nat → ClassId) (dI : Nat → Nat → Nat) (kI kJ kZ kII kJJ : ClassId) (h_this : Nat) (h_sizes : Nat) (h_lines : Nat) (g_lines : Nat → Nat) (v_lines : Nat → Nat → Int32) (v_sizes : Nat → Int32) (a1 : Int32) (a2 : Int32) (sz : Nat) (post : Int32 → (Nat → Nat → Int32) → (Nat → Int32) → Prop) (hv : vc_XLi_add post v_lines v_sizes a1 a2) :
    Met l y_XLi_add w_XLi_add ({ frames := 0, cells := 0, slots := 0, locals := 0 }) (va_Pc [.ref h_this, .int a1, .int a2] (px_B g0 (dC, dI) vwCl (tysv kI kJ kZ kII kJJ) (wq [(h_this, .inr (0, [.ref h_sizes, .ref h_lines])), (h_lines, .inl (kII, 8, .inr (.inr (.inr (.inr (gq 8 g_lines)))))), (h_sizes, .inl (kI, 8, .inl v_sizes))] (wq (gi8 g_lines kI 3 v_lines) [])) sz))
      (va_Qi (fun (r : Int32) (u : (Nat → Nat → Int32) × (Nat → Int32)) => post r u.1 u.2) (fun (u : (Nat → Nat → Int32) × (Nat → Int32)) => ax_B (va_A (wq [(h_this, .inr (0, [.ref h_sizes, .ref h_lines])), (h_lines, .inl (kII, 8, .inr (.inr (.inr (.inr (gq 8 g_lines)))))), (h_sizes, .inl (kI, 8, .inl v_sizes))] (wq (gi8 g_lines kI 3 v_lines) [])) sz) (dC, dI) vwCl (tysv kI kJ kZ kII kJJ) (wq [(h_this, .inr (0, [.ref h_sizes, .ref h_lines])), (h_lines, .inl (kII, 8, .inr (.inr (.inr (.inr (gq 8 g_lines)))))), (h_sizes, .inl (kI, 8, .inl u.2))] (wq (gi8 g_lines kI 3 u.1) []))) (va_A (wq [(h_this, .inr (0, [.ref h_sizes, .ref h_lines])), (h_lines, .inl (kII, 8, .inr (.inr (.inr (.inr (gq 8 g_lines)))))), (h_sizes, .inl (kI, 8, .inl v_sizes))] (wq (gi8 g_lines kI 3 v_lines) [])) sz)) 0 0 (va_A (wq [(h_this, .inr (0, [.ref h_sizes, .ref h_lines])), (h_lines, .inl (kII, 8, .inr (.inr (.inr (.inr (gq 8 g_lines)))))), (h_sizes, .inl (kI, 8, .inl v_sizes))] (wq (gi8 g_lines kI 3 v_lines) [])) sz) := by
  refine pxi (cc := b_XLi_add) (maxL := 3) (wd := fun (u : (Nat → Nat → Int32) × (Nat → Int32)) => (wq [(h_this, .inr (0, [.ref h_sizes, .ref h_lines])), (h_lines, .inl (kII, 8, .inr (.inr (.inr (.inr (gq 8 g_lines)))))), (h_sizes, .inl (kI, 8, .inl u.2))] (wq (gi8 g_lines kI 3 u.1) []))) (by decide +kernel) rfl (Nat.le_of_ble_eq_true rfl) ?_
  intro p e s m below meth c A ls Q H hx hb hml hts hown hK hG hP hD hS hA hl hq
  have hts := fun w h => hts w (List.mem_cons_of_mem _ h)
  have hown : s.vm.findClass R_XLi = some m.cls := hown
  have hl : lv_has ls 3 [(0, .ref h_this), (1, .int a1), (2, .int a2)] := hl
  unfold vc_XLi_add at hv
  refine lv_aload_n hx hb d_XLi_add_0 rfl (lv_at hl 0 rfl) ?_
  refine va_get (D := (dC, dI)) (ci := 0) (v := .ref h_lines) (C := R_XLi) (T := T_XLi) (N := 2) hx hb hts i_XLi hown hK hP 0 rfl rfl 1 (by decide) (hts _ tk_82) (fun _ h9 => h9) rfl d_XLi_add_1 ?_
  refine lv_iload_n hx hb d_XLi_add_4 rfl (lv_at hl 1 rfl) ?_
  have hj_1 := gj_lt hv.1
  refine gx_ald hx hb hK hP 1 3 rfl rfl hv.1 d_XLi_add_5 ?_
  have hv := hv.2
  refine lv_aload_n hx hb d_XLi_add_6 rfl (lv_at hl 0 rfl) ?_
  refine va_get (D := (dC, dI)) (ci := 0) (v := .ref h_sizes) (C := R_XLi) (T := T_XLi) (N := 2) hx hb hts i_XLi hown hK hP 0 rfl rfl 0 (by decide) (hts _ tk_80) (fun _ h9 => h9) rfl d_XLi_add_7 ?_
  refine lv_iload_n hx hb d_XLi_add_10 rfl (lv_at hl 1 rfl) ?_
  refine va_iald hx hb hK hP 2 0 rfl rfl hv.1 d_XLi_add_11 ?_
  have hv := hv.2
  refine lv_iload_n hx hb d_XLi_add_12 rfl (lv_at hl 2 rfl) ?_
  refine gi8_st (pre := [(h_this, .inr (0, [.ref h_sizes, .ref h_lines])), (h_lines, .inl (kII, 8, .inr (.inr (.inr (.inr (gq 8 g_lines)))))), (h_sizes, .inl (kI, 8, .inl v_sizes))]) (suf := []) hx hb hK hP hD hS 0 rfl hj_1 hv.1 d_XLi_add_13 (fun H locs hP hD hS => ?_)
  have hv := hv.2
  have hP : va_P (dC, dI) vwCl (wq [(h_this, .inr (0, [.ref h_sizes, .ref h_lines])), (h_lines, .inl (kII, 8, .inr (.inr (.inr (.inr (gq 8 g_lines)))))), (h_sizes, .inl (kI, 8, .inl v_sizes))] (wq (gi8 g_lines kI 3 (gseti v_lines a1.toNatClampNeg ((v_sizes a1.toNatClampNeg).toNatClampNeg) a2)) [])) H := hP
  have hD : va_D A (wq [(h_this, .inr (0, [.ref h_sizes, .ref h_lines])), (h_lines, .inl (kII, 8, .inr (.inr (.inr (.inr (gq 8 g_lines)))))), (h_sizes, .inl (kI, 8, .inl v_sizes))] (wq (gi8 g_lines kI 3 (gseti v_lines a1.toNatClampNeg ((v_sizes a1.toNatClampNeg).toNatClampNeg) a2)) [])) := hD
  refine lv_aload_n hx hb d_XLi_add_14 rfl (lv_at hl 0 rfl) ?_
  refine va_get (D := (dC, dI)) (ci := 0) (v := .ref h_sizes) (C := R_XLi) (T := T_XLi) (N := 2) hx hb hts i_XLi hown hK hP 0 rfl rfl 0 (by decide) (hts _ tk_80) (fun _ h9 => h9) rfl d_XLi_add_15 ?_
  refine lv_iload_n hx hb d_XLi_add_18 rfl (lv_at hl 1 rfl) ?_
  refine lv_dup2_11 hx hb d_XLi_add_19 rfl rfl ?_
  refine va_iald hx hb hK hP 2 0 rfl rfl hv.1 d_XLi_add_20 ?_
  have hv := hv.2
  refine lv_iconst (v := (1 : Int32)) hx hb d_XLi_add_21 (by decide) ?_
  refine lv_iadd hx hb d_XLi_add_22 ?_
  refine va_iast hx hb hK hP hD hS 2 0 rfl rfl hv.1 d_XLi_add_23 (fun H locs hP hD hS => ?_)
  have hv := hv.2
  have hP : va_P (dC, dI) vwCl (wq [(h_this, .inr (0, [.ref h_sizes, .ref h_lines])), (h_lines, .inl (kII, 8, .inr (.inr (.inr (.inr (gq 8 g_lines)))))), (h_sizes, .inl (kI, 8, .inl (upd v_sizes a1.toNatClampNeg ((v_sizes a1.toNatClampNeg) + (1 : Int32)))))] (wq (gi8 g_lines kI 3 (gseti v_lines a1.toNatClampNeg ((v_sizes a1.toNatClampNeg).toNatClampNeg) a2)) [])) H := hP
  have hD : va_D A (wq [(h_this, .inr (0, [.ref h_sizes, .ref h_lines])), (h_lines, .inl (kII, 8, .inr (.inr (.inr (.inr (gq 8 g_lines)))))), (h_sizes, .inl (kI, 8, .inl (upd v_sizes a1.toNatClampNeg ((v_sizes a1.toNatClampNeg) + (1 : Int32)))))] (wq (gi8 g_lines kI 3 (gseti v_lines a1.toNatClampNeg ((v_sizes a1.toNatClampNeg).toNatClampNeg) a2)) [])) := hD
  refine lv_aload_n hx hb d_XLi_add_24 rfl (lv_at hl 0 rfl) ?_
  refine va_get (D := (dC, dI)) (ci := 0) (v := .ref h_sizes) (C := R_XLi) (T := T_XLi) (N := 2) hx hb hts i_XLi hown hK hP 0 rfl rfl 0 (by decide) (hts _ tk_80) (fun _ h9 => h9) rfl d_XLi_add_25 ?_
  refine lv_iload_n hx hb d_XLi_add_28 rfl (lv_at hl 1 rfl) ?_
  refine va_iald hx hb hK hP 2 0 rfl rfl hv.1 d_XLi_add_29 ?_
  have hv := hv.2
  exact hq ((upd v_sizes a1.toNatClampNeg ((v_sizes a1.toNatClampNeg) + (1 : Int32))) a1.toNatClampNeg) ((gseti v_lines a1.toNatClampNeg ((v_sizes a1.toNatClampNeg).toNatClampNeg) a2), (upd v_sizes a1.toNatClampNeg ((v_sizes a1.toNatClampNeg) + (1 : Int32)))) _ _ _ _ hv hP hD hS d_XLi_add_30
set_option maxRecDepth 100000 in
set_option maxHeartbeats 4000000 in
/-- SpectrumParts$LineTable.nearest -/
theorem c_XLi_nearest (l : Launch) (dC : Nat → ClassId) (dI : Nat → Nat → Nat) (kI kJ kZ kII kJJ : ClassId) (h_this : Nat) (h_sizes : Nat) (h_lines : Nat) (g_lines : Nat → Nat) (v_sizes : Nat → Int32) (v_lines : Nat → Nat → Int32) (a1 : Int32) (a2 : Int32) (sz : Nat) (post : Int32 → Prop) (hv : vc_XLi_nearest post v_sizes v_lines a1 a2) :
    Met l y_XLi_nearest w_XLi_nearest ({ frames := 1, cells := 0, slots := 0, locals := 21 }) (va_Pc [.ref h_this, .int a1, .int a2] (px_B g0 (dC, dI) vwCl (tysv kI kJ kZ kII kJJ) (wq [(h_this, .inr (0, [.ref h_sizes, .ref h_lines])), (h_sizes, .inl (kI, 8, .inl v_sizes)), (h_lines, .inl (kII, 8, .inr (.inr (.inr (.inr (gq 8 g_lines))))))] (wq (gi8 g_lines kI 3 v_lines) [])) sz))
      (va_Qi (fun (r : Int32) (u : Unit) => post r) (fun (u : Unit) => ax_B (va_A (wq [(h_this, .inr (0, [.ref h_sizes, .ref h_lines])), (h_sizes, .inl (kI, 8, .inl v_sizes)), (h_lines, .inl (kII, 8, .inr (.inr (.inr (.inr (gq 8 g_lines))))))] (wq (gi8 g_lines kI 3 v_lines) [])) sz) (dC, dI) vwCl (tysv kI kJ kZ kII kJJ) (wq [(h_this, .inr (0, [.ref h_sizes, .ref h_lines])), (h_sizes, .inl (kI, 8, .inl v_sizes)), (h_lines, .inl (kII, 8, .inr (.inr (.inr (.inr (gq 8 g_lines))))))] (wq (gi8 g_lines kI 3 v_lines) []))) (va_A (wq [(h_this, .inr (0, [.ref h_sizes, .ref h_lines])), (h_sizes, .inl (kI, 8, .inl v_sizes)), (h_lines, .inl (kII, 8, .inr (.inr (.inr (.inr (gq 8 g_lines))))))] (wq (gi8 g_lines kI 3 v_lines) [])) sz)) 0 0 (va_A (wq [(h_this, .inr (0, [.ref h_sizes, .ref h_lines])), (h_sizes, .inl (kI, 8, .inl v_sizes)), (h_lines, .inl (kII, 8, .inr (.inr (.inr (.inr (gq 8 g_lines))))))] (wq (gi8 g_lines kI 3 v_lines) [])) sz) := by
  refine pxi (cc := b_XLi_nearest) (maxL := 8) (wd := fun (u : Unit) => (wq [(h_this, .inr (0, [.ref h_sizes, .ref h_lines])), (h_sizes, .inl (kI, 8, .inl v_sizes)), (h_lines, .inl (kII, 8, .inr (.inr (.inr (.inr (gq 8 g_lines))))))] (wq (gi8 g_lines kI 3 v_lines) []))) (by decide +kernel) rfl (Nat.le_of_ble_eq_true rfl) ?_
  intro p e s m below meth c A ls Q H hx hb hml hts hown hK hG hP hD hS hA hl hq
  have hts := fun w h => hts w (List.mem_cons_of_mem _ h)
  have hown : s.vm.findClass R_XLi = some m.cls := hown
  have hl : lv_has ls 8 [(0, .ref h_this), (1, .int a1), (2, .int a2)] := hl
  unfold vc_XLi_nearest at hv
  refine lv_iconst (v := (-1 : Int32)) hx hb d_XLi_nearest_0 (by decide) ?_
  refine lv_istore_n (lv' := [(3, .int (-1 : Int32)), (0, .ref h_this), (1, .int a1), (2, .int a2)]) hx hb d_XLi_nearest_1 rfl hl (by decide) rfl (fun ls hl => ?_)
  refine lv_iload_n hx hb d_XLi_nearest_2 rfl (lv_at hl 3 rfl) ?_
  refine lv_iconst (v := (1 : Int32)) hx hb d_XLi_nearest_3 (by decide) ?_
  refine lv_iadd hx hb d_XLi_nearest_4 ?_
  refine lv_topi (fun x4_1 e_x4_1 => ?_)
  have hv := hv x4_1 e_x4_1
  refine lv_istore (lv' := [(4, .int x4_1), (3, .int (-1 : Int32)), (0, .ref h_this), (1, .int a1), (2, .int a2)]) hx hb d_XLi_nearest_5 hl (by decide) rfl (fun ls hl => ?_)
  refine lv_iconst (v := (0 : Int32)) hx hb d_XLi_nearest_7 (by decide) ?_
  refine lv_istore (lv' := [(5, .int (0 : Int32)), (4, .int x4_1), (3, .int (-1 : Int32)), (0, .ref h_this), (1, .int a1), (2, .int a2)]) hx hb d_XLi_nearest_8 hl (by decide) rfl (fun ls hl => ?_)
  obtain ⟨n_10, hv⟩ := hv
  refine vlp3_W (P := fun (y3_10 : Int32) (y4_10 : Int32) (y5_10 : Int32) => wst p l e (headSpec w_XLi_nearest ({ frames := 1, cells := 0, slots := 0, locals := 21 })).room s m ([.ref h_this, .int a1, .int a2] : List Value).toArray below meth c dC dI A 8 Q (wq [(h_this, .inr (0, [.ref h_sizes, .ref h_lines])), (h_sizes, .inl (kI, 8, .inl v_sizes)), (h_lines, .inl (kII, 8, .inr (.inr (.inr (.inr (gq 8 g_lines))))))] (wq (gi8 g_lines kI 3 v_lines) [])) [(0, .ref h_this), (1, .int a1), (3, .int y3_10), (4, .int y4_10), (5, .int y5_10)] 10 [] 0 0) ?_ n_10 _ _ _ hv _ _ _ hP hD hS (lv_sub hl [3, 4, 2, 1, 0] rfl)
  intro R_10 hR_10 y3_10 y4_10 y5_10 hv H locs ls hP hD hS hl
  refine lv_iload hx hb d_XLi_nearest_10 (lv_at hl 4 rfl) ?_
  refine lv_bipush (v := (8 : Int32)) hx hb d_XLi_nearest_12 (by decide) ?_
  refine lv_icmp_ge (tgt := 75) hx hb d_XLi_nearest_14 (by decide) (fun cd => ?_) (fun cd => ?_)
  · have hv := hv.1 cd
    refine lv_iload_n hx hb d_XLi_nearest_75 rfl (lv_at hl 2 rfl) ?_
    exact hq y3_10 () _ _ _ _ hv hP hD hS d_XLi_nearest_76
  have hv := hv.2 cd
  refine lv_iconst (v := (0 : Int32)) hx hb d_XLi_nearest_17 (by decide) ?_
  refine lv_istore (lv' := [(6, .int (0 : Int32)), (0, .ref h_this), (1, .int a1), (3, .int y3_10), (4, .int y4_10), (5, .int y5_10)]) hx hb d_XLi_nearest_18 hl (by decide) rfl (fun ls hl => ?_)
  obtain ⟨n_20, hv⟩ := hv
  refine vlp3_W (P := fun (y3_20 : Int32) (y4_20 : Int32) (y6_20 : Int32) => wst p l e (headSpec w_XLi_nearest ({ frames := 1, cells := 0, slots := 0, locals := 21 })).room s m ([.ref h_this, .int a1, .int a2] : List Value).toArray below meth c dC dI A 8 Q (wq [(h_this, .inr (0, [.ref h_sizes, .ref h_lines])), (h_sizes, .inl (kI, 8, .inl v_sizes)), (h_lines, .inl (kII, 8, .inr (.inr (.inr (.inr (gq 8 g_lines))))))] (wq (gi8 g_lines kI 3 v_lines) [])) [(0, .ref h_this), (1, .int a1), (3, .int y3_20), (4, .int y4_20), (5, .int y5_10), (6, .int y6_20)] 20 [] 0 0) ?_ n_20 _ _ _ hv _ _ _ hP hD hS (lv_sub hl [1, 2, 3, 4, 5, 0] rfl)
  intro R_20 hR_20 y3_20 y4_20 y6_20 hv H locs ls hP hD hS hl
  refine lv_iload hx hb d_XLi_nearest_20 (lv_at hl 5 rfl) ?_
  refine lv_aload_n hx hb d_XLi_nearest_22 rfl (lv_at hl 0 rfl) ?_
  refine va_get (D := (dC, dI)) (ci := 0) (v := .ref h_sizes) (C := R_XLi) (T := T_XLi) (N := 2) hx hb hts i_XLi hown hK hP 0 rfl rfl 0 (by decide) (hts _ tk_80) (fun _ h9 => h9) rfl d_XLi_nearest_23 ?_
  refine lv_iload hx hb d_XLi_nearest_26 (lv_at hl 4 rfl) ?_
  refine va_iald hx hb hK hP 1 0 rfl rfl hv.1 d_XLi_nearest_28 ?_
  have hv := hv.2
  refine lv_icmp_ge (tgt := 69) hx hb d_XLi_nearest_29 (by decide) (fun cd => ?_) (fun cd => ?_)
  · have hv := hv.1 cd
    refine lv_iinc (v := (y5_10 + (1 : Int32))) (lv' := [(5, .int (y5_10 + (1 : Int32))), (0, .ref h_this), (1, .int a1), (3, .int y3_20), (4, .int y4_20), (6, .int y6_20)]) hx hb d_XLi_nearest_69 hl (k := 4) rfl rfl (by decide) rfl (fun ls hl => ?_)
    refine lv_goto (tgt := 10) hx hb d_XLi_nearest_72 (by decide) ?_
    exact hR_10 _ _ _ hv _ _ _ hP hD hS (lv_sub hl [1, 2, 3, 4, 0] rfl)
  have hv := hv.2 cd
  refine lv_aload_n hx hb d_XLi_nearest_32 rfl (lv_at hl 0 rfl) ?_
  refine va_get (D := (dC, dI)) (ci := 0) (v := .ref h_lines) (C := R_XLi) (T := T_XLi) (N := 2) hx hb hts i_XLi hown hK hP 0 rfl rfl 1 (by decide) (hts _ tk_82) (fun _ h9 => h9) rfl d_XLi_nearest_33 ?_
  refine lv_iload hx hb d_XLi_nearest_36 (lv_at hl 4 rfl) ?_
  have hj_2 := gj_lt hv.1
  refine gx_ald hx hb hK hP 2 3 rfl rfl hv.1 d_XLi_nearest_38 ?_
  have hv := hv.2
  refine lv_iload hx hb d_XLi_nearest_39 (lv_at hl 5 rfl) ?_
  refine gi8_ld (pre := [(h_this, .inr (0, [.ref h_sizes, .ref h_lines])), (h_sizes, .inl (kI, 8, .inl v_sizes)), (h_lines, .inl (kII, 8, .inr (.inr (.inr (.inr (gq 8 g_lines))))))]) (suf := []) hx hb hK hP 0 rfl hj_2 hv.1 d_XLi_nearest_41 ?_
  have hv := hv.2
  refine lv_iload_n hx hb d_XLi_nearest_42 rfl (lv_at hl 1 rfl) ?_
  refine lv_isub hx hb d_XLi_nearest_43 ?_
  refine va_mabs hx hb (hml.trans hl.1.symm) hown (hts _ tk_452) (hts _ tk_453) (hts _ tk_2) (hts _ tk_454) (Nat.le_of_ble_eq_true rfl) (Nat.le_of_ble_eq_true rfl) (Nat.le_of_ble_eq_true rfl) (Nat.le_of_ble_eq_true rfl) d_XLi_nearest_44 ?_
  refine lv_topi (fun x7_3 e_x7_3 => ?_)
  have hv := hv x7_3 e_x7_3
  refine lv_istore (lv' := [(7, .int x7_3), (0, .ref h_this), (1, .int a1), (3, .int y3_20), (4, .int y4_20), (5, .int y5_10), (6, .int y6_20)]) hx hb d_XLi_nearest_47 hl (by decide) rfl (fun ls hl => ?_)
  refine lv_iload hx hb d_XLi_nearest_49 (lv_at hl 0 rfl) ?_
  refine lv_iload hx hb d_XLi_nearest_51 (lv_at hl 4 rfl) ?_
  refine lv_icmp_ge (tgt := 63) hx hb d_XLi_nearest_53 (by decide) (fun cd => ?_) (fun cd => ?_)
  · have hv := hv.1 cd
    refine lv_iinc (v := (y6_20 + (1 : Int32))) (lv' := [(6, .int (y6_20 + (1 : Int32))), (7, .int x7_3), (0, .ref h_this), (1, .int a1), (3, .int y3_20), (4, .int y4_20), (5, .int y5_10)]) hx hb d_XLi_nearest_63 hl (k := 6) rfl rfl (by decide) rfl (fun ls hl => ?_)
    refine lv_goto (tgt := 20) hx hb d_XLi_nearest_66 (by decide) ?_
    exact hR_20 _ _ _ hv _ _ _ hP hD hS (lv_sub hl [2, 3, 4, 5, 6, 0] rfl)
  have hv := hv.2 cd
  refine lv_iload hx hb d_XLi_nearest_56 (lv_at hl 5 rfl) ?_
  refine lv_istore_n (lv' := [(3, .int y5_10), (7, .int x7_3), (0, .ref h_this), (1, .int a1), (4, .int y4_20), (5, .int y5_10), (6, .int y6_20)]) hx hb d_XLi_nearest_58 rfl hl (by decide) rfl (fun ls hl => ?_)
  refine lv_iload hx hb d_XLi_nearest_59 (lv_at hl 1 rfl) ?_
  refine lv_istore (lv' := [(4, .int x7_3), (3, .int y5_10), (7, .int x7_3), (0, .ref h_this), (1, .int a1), (5, .int y5_10), (6, .int y6_20)]) hx hb d_XLi_nearest_61 hl (by decide) rfl (fun ls hl => ?_)
  refine lv_iinc (v := (y6_20 + (1 : Int32))) (lv' := [(6, .int (y6_20 + (1 : Int32))), (4, .int x7_3), (3, .int y5_10), (7, .int x7_3), (0, .ref h_this), (1, .int a1), (5, .int y5_10)]) hx hb d_XLi_nearest_63 hl (k := 6) rfl rfl (by decide) rfl (fun ls hl => ?_)
  refine lv_goto (tgt := 20) hx hb d_XLi_nearest_66 (by decide) ?_
  exact hR_20 _ _ _ hv _ _ _ hP hD hS (lv_sub hl [4, 5, 2, 1, 6, 0] rfl)
set_option maxRecDepth 100000 in
set_option maxHeartbeats 4000000 in
/-- SpectrumParts$LineTable.isAtOrNextTo -/
theorem c_XLi_isAtOrNextTo (l : Launch) (dC : Nat → ClassId) (dI : Nat → Nat → Nat) (kI kJ kZ kII kJJ : ClassId) (h_this : Nat) (h_sizes : Nat) (h_lines : Nat) (g_lines : Nat → Nat) (v_sizes : Nat → Int32) (v_lines : Nat → Nat → Int32) (a1 : Int32) (a2 : Int32) (sz : Nat) (post : Int32 → Prop) (hv : vc_XLi_isAtOrNextTo post v_sizes v_lines a1 a2) :
    Met l y_XLi_isAtOrNextTo w_XLi_isAtOrNextTo ({ frames := 1, cells := 0, slots := 0, locals := 21 }) (va_Pc [.ref h_this, .int a1, .int a2] (px_B g0 (dC, dI) vwCl (tysv kI kJ kZ kII kJJ) (wq [(h_this, .inr (0, [.ref h_sizes, .ref h_lines])), (h_sizes, .inl (kI, 8, .inl v_sizes)), (h_lines, .inl (kII, 8, .inr (.inr (.inr (.inr (gq 8 g_lines))))))] (wq (gi8 g_lines kI 3 v_lines) [])) sz))
      (va_Qi (fun (r : Int32) (u : Unit) => post r) (fun (u : Unit) => ax_B (va_A (wq [(h_this, .inr (0, [.ref h_sizes, .ref h_lines])), (h_sizes, .inl (kI, 8, .inl v_sizes)), (h_lines, .inl (kII, 8, .inr (.inr (.inr (.inr (gq 8 g_lines))))))] (wq (gi8 g_lines kI 3 v_lines) [])) sz) (dC, dI) vwCl (tysv kI kJ kZ kII kJJ) (wq [(h_this, .inr (0, [.ref h_sizes, .ref h_lines])), (h_sizes, .inl (kI, 8, .inl v_sizes)), (h_lines, .inl (kII, 8, .inr (.inr (.inr (.inr (gq 8 g_lines))))))] (wq (gi8 g_lines kI 3 v_lines) []))) (va_A (wq [(h_this, .inr (0, [.ref h_sizes, .ref h_lines])), (h_sizes, .inl (kI, 8, .inl v_sizes)), (h_lines, .inl (kII, 8, .inr (.inr (.inr (.inr (gq 8 g_lines))))))] (wq (gi8 g_lines kI 3 v_lines) [])) sz)) 0 0 (va_A (wq [(h_this, .inr (0, [.ref h_sizes, .ref h_lines])), (h_sizes, .inl (kI, 8, .inl v_sizes)), (h_lines, .inl (kII, 8, .inr (.inr (.inr (.inr (gq 8 g_lines))))))] (wq (gi8 g_lines kI 3 v_lines) [])) sz) := by
  refine pxz (cc := b_XLi_isAtOrNextTo) (maxL := 4) (wd := fun (u : Unit) => (wq [(h_this, .inr (0, [.ref h_sizes, .ref h_lines])), (h_sizes, .inl (kI, 8, .inl v_sizes)), (h_lines, .inl (kII, 8, .inr (.inr (.inr (.inr (gq 8 g_lines))))))] (wq (gi8 g_lines kI 3 v_lines) []))) (by decide +kernel) rfl (Nat.le_of_ble_eq_true rfl) ?_
  intro p e s m below meth c A ls Q H hx hb hml hts hown hK hG hP hD hS hA hl hq
  have hts := fun w h => hts w (List.mem_cons_of_mem _ h)
  have hown : s.vm.findClass R_XLi = some m.cls := hown
  have hl : lv_has ls 4 [(0, .ref h_this), (1, .int a1), (2, .int a2)] := hl
  unfold vc_XLi_isAtOrNextTo at hv
  refine lv_iconst (v := (0 : Int32)) hx hb d_XLi_isAtOrNextTo_0 (by decide) ?_
  refine lv_istore_n (lv' := [(3, .int (0 : Int32)), (0, .ref h_this), (1, .int a1), (2, .int a2)]) hx hb d_XLi_isAtOrNextTo_1 rfl hl (by decide) rfl (fun ls hl => ?_)
  obtain ⟨n_2, hv⟩ := hv
  refine vlp1_W (P := fun (y3_2 : Int32) => wst p l e (headSpec w_XLi_isAtOrNextTo ({ frames := 1, cells := 0, slots := 0, locals := 21 })).room s m ([.ref h_this, .int a1, .int a2] : List Value).toArray below meth c dC dI A 4 Q (wq [(h_this, .inr (0, [.ref h_sizes, .ref h_lines])), (h_sizes, .inl (kI, 8, .inl v_sizes)), (h_lines, .inl (kII, 8, .inr (.inr (.inr (.inr (gq 8 g_lines))))))] (wq (gi8 g_lines kI 3 v_lines) [])) [(0, .ref h_this), (1, .int a1), (2, .int a2), (3, .int y3_2)] 2 [] 0 0) ?_ n_2 _ hv _ _ _ hP hD hS (lv_sub hl [1, 2, 3, 0] rfl)
  intro R_2 hR_2 y3_2 hv H locs ls hP hD hS hl
  refine lv_iload_n hx hb d_XLi_isAtOrNextTo_2 rfl (lv_at hl 3 rfl) ?_
  refine lv_aload_n hx hb d_XLi_isAtOrNextTo_3 rfl (lv_at hl 0 rfl) ?_
  refine va_get (D := (dC, dI)) (ci := 0) (v := .ref h_sizes) (C := R_XLi) (T := T_XLi) (N := 2) hx hb hts i_XLi hown hK hP 0 rfl rfl 0 (by decide) (hts _ tk_80) (fun _ h9 => h9) rfl d_XLi_isAtOrNextTo_4 ?_
  refine lv_iload_n hx hb d_XLi_isAtOrNextTo_7 rfl (lv_at hl 1 rfl) ?_
  refine va_iald hx hb hK hP 1 0 rfl rfl hv.1 d_XLi_isAtOrNextTo_8 ?_
  have hv := hv.2
  refine lv_icmp_ge (tgt := 37) hx hb d_XLi_isAtOrNextTo_9 (by decide) (fun cd => ?_) (fun cd => ?_)
  · have hv := hv.1 cd
    refine lv_iconst (v := (0 : Int32)) hx hb d_XLi_isAtOrNextTo_37 (by decide) ?_
    exact hq (0 : Int32) () _ _ _ _ hv hP hD hS d_XLi_isAtOrNextTo_38 rfl
  have hv := hv.2 cd
  refine lv_aload_n hx hb d_XLi_isAtOrNextTo_12 rfl (lv_at hl 0 rfl) ?_
  refine va_get (D := (dC, dI)) (ci := 0) (v := .ref h_lines) (C := R_XLi) (T := T_XLi) (N := 2) hx hb hts i_XLi hown hK hP 0 rfl rfl 1 (by decide) (hts _ tk_82) (fun _ h9 => h9) rfl d_XLi_isAtOrNextTo_13 ?_
  refine lv_iload_n hx hb d_XLi_isAtOrNextTo_16 rfl (lv_at hl 1 rfl) ?_
  have hj_1 := gj_lt hv.1
  refine gx_ald hx hb hK hP 2 3 rfl rfl hv.1 d_XLi_isAtOrNextTo_17 ?_
  have hv := hv.2
  refine lv_iload_n hx hb d_XLi_isAtOrNextTo_18 rfl (lv_at hl 3 rfl) ?_
  refine gi8_ld (pre := [(h_this, .inr (0, [.ref h_sizes, .ref h_lines])), (h_sizes, .inl (kI, 8, .inl v_sizes)), (h_lines, .inl (kII, 8, .inr (.inr (.inr (.inr (gq 8 g_lines))))))]) (suf := []) hx hb hK hP 0 rfl hj_1 hv.1 d_XLi_isAtOrNextTo_19 ?_
  have hv := hv.2
  refine lv_iload_n hx hb d_XLi_isAtOrNextTo_20 rfl (lv_at hl 2 rfl) ?_
  refine lv_isub hx hb d_XLi_isAtOrNextTo_21 ?_
  refine va_mabs hx hb (hml.trans hl.1.symm) hown (hts _ tk_452) (hts _ tk_453) (hts _ tk_2) (hts _ tk_454) (Nat.le_of_ble_eq_true rfl) (Nat.le_of_ble_eq_true rfl) (Nat.le_of_ble_eq_true rfl) (Nat.le_of_ble_eq_true rfl) d_XLi_isAtOrNextTo_22 ?_
  refine lv_iconst (v := (1 : Int32)) hx hb d_XLi_isAtOrNextTo_25 (by decide) ?_
  refine lv_icmp_gt (tgt := 31) hx hb d_XLi_isAtOrNextTo_26 (by decide) (fun cd => ?_) (fun cd => ?_)
  · have hv := hv.1 cd
    refine lv_iinc (v := (y3_2 + (1 : Int32))) (lv' := [(3, .int (y3_2 + (1 : Int32))), (0, .ref h_this), (1, .int a1), (2, .int a2)]) hx hb d_XLi_isAtOrNextTo_31 hl (k := 3) rfl rfl (by decide) rfl (fun ls hl => ?_)
    refine lv_goto (tgt := 2) hx hb d_XLi_isAtOrNextTo_34 (by decide) ?_
    exact hR_2 _ hv _ _ _ hP hD hS (lv_sub hl [1, 2, 3, 0] rfl)
  have hv := hv.2 cd
  refine lv_iconst (v := (1 : Int32)) hx hb d_XLi_isAtOrNextTo_29 (by decide) ?_
  exact hq (1 : Int32) () _ _ _ _ hv hP hD hS d_XLi_isAtOrNextTo_30 rfl
