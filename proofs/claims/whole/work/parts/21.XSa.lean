def vc_XSa_apartAbove (post : Int64 → Prop) (v_a : Int64) (v_b : Int64) (v_c : Int64) (v_measures : Nat → Nat → Int32) (a1 : Int32) (a2 : Int32) : Prop :=
  (vp_in (0 : Int32) 2 ∧ (vp_in a1 12 ∧ (vp_in (0 : Int32) 2 ∧ (vp_in a2 12 ∧ (∀ x3_3 : Int64, x3_3 = ((v_measures ((0 : Int32).toNatClampNeg) a1.toNatClampNeg) - (v_measures ((0 : Int32).toNatClampNeg) a2.toNatClampNeg)).toInt64 → (vp_in (1 : Int32) 2 ∧ (vp_in a1 12 ∧ (vp_in (1 : Int32) 2 ∧ (vp_in a2 12 ∧ (∀ x5_6 : Int64, x5_6 = ((v_measures ((1 : Int32).toNatClampNeg) a1.toNatClampNeg) - (v_measures ((1 : Int32).toNatClampNeg) a2.toNatClampNeg)).toInt64 → post ((((v_c * x3_3) * x3_3) - ((((2 : Int64) * v_b) * x3_3) * x5_6)) + ((v_a * x5_6) * x5_6))))))))))))
def vc_XSa_apartBelow (post : Int64 → Prop) (v_a : Int64) (v_b : Int64) (v_c : Int64) : Prop :=
  post ((v_a * v_c) - (v_b * v_b))
def vc_XSa_joinOnce (post : (Nat → Int32) → Prop) (v_size : Int32) (v_a : Int64) (v_b : Int64) (v_c : Int64) (v_joined : Nat → Int32) (v_measures : Nat → Nat → Int32) (a1 : Int32) : Prop :=
  vc_XSa_apartBelow (fun (r_1 : Int64) => (∀ x2_2 : Int64, x2_2 = (a1.toInt64 * r_1) → (∃ n, vlp2 (fun (R_11 : Int32 → (Nat → Int32) → Prop) (y4_11 : Int32) (v_joined_11 : Nat → Int32) => ((v_size ≤ y4_11 → post v_joined_11) ∧ (¬ v_size ≤ y4_11 → (∃ n, vlp2 (fun (R_23 : Int32 → (Nat → Int32) → Prop) (y5_23 : Int32) (v_joined_23 : Nat → Int32) => ((v_size ≤ y5_23 → R_11 (y4_11 + (1 : Int32)) v_joined_23) ∧ (¬ v_size ≤ y5_23 → (vp_in y4_11 12 ∧ (((v_joined_23 y4_11.toNatClampNeg) = 0 → R_23 (y5_23 + (1 : Int32)) v_joined_23) ∧ (¬ (v_joined_23 y4_11.toNatClampNeg) = 0 → vc_XSa_apartAbove (fun (r_3 : Int64) => ((0 < (lg_cmp r_3 x2_2) → R_23 (y5_23 + (1 : Int32)) v_joined_23) ∧ (¬ 0 < (lg_cmp r_3 x2_2) → (vp_in y5_23 12 ∧ R_23 (y5_23 + (1 : Int32)) (upd v_joined_23 y5_23.toNatClampNeg (vp_nar .boolean (1 : Int32))))))) v_a v_b v_c v_measures y4_11 y5_23)))))) n (0 : Int32) v_joined_11)))) n (0 : Int32) v_joined))) v_a v_b v_c
def vc_XSa_lowestJoined (post : Int32 → (Nat → Int32) → Prop) (v_size : Int32) (v_a : Int64) (v_b : Int64) (v_c : Int64) (v_joined : Nat → Int32) (v_measures : Nat → Nat → Int32) (a1 : Int32) (a2 : Int32) : Prop :=
  (∃ n, vlp2 (fun (R_2 : Int32 → (Nat → Int32) → Prop) (y3_2 : Int32) (v_joined_2 : Nat → Int32) => ((v_size ≤ y3_2 → (∃ n, vlp2 (fun (R_34 : Int32 → (Nat → Int32) → Prop) (y3_34 : Int32) (v_joined_34 : Nat → Int32) => ((v_size ≤ y3_34 → (∃ n, vlp1 (fun (R_55 : Int32 → Prop) (y3_55 : Int32) => ((a1 ≤ y3_55 → post a1 v_joined_34) ∧ (¬ a1 ≤ y3_55 → (vp_in y3_55 12 ∧ (((v_joined_34 y3_55.toNatClampNeg) = 0 → R_55 (y3_55 + (1 : Int32))) ∧ (¬ (v_joined_34 y3_55.toNatClampNeg) = 0 → post y3_55 v_joined_34)))))) n (0 : Int32))) ∧ (¬ v_size ≤ y3_34 → vc_XSa_joinOnce (fun (v_joined_1 : Nat → Int32) => R_34 (y3_34 + (1 : Int32)) v_joined_1) v_size v_a v_b v_c v_joined_34 v_measures a2))) n (0 : Int32) v_joined_2)) ∧ (¬ v_size ≤ y3_2 → ((¬ y3_2 = a1 → (vp_in y3_2 12 ∧ R_2 (y3_2 + (1 : Int32)) (upd v_joined_2 y3_2.toNatClampNeg (vp_nar .boolean (0 : Int32))))) ∧ (y3_2 = a1 → (vp_in y3_2 12 ∧ R_2 (y3_2 + (1 : Int32)) (upd v_joined_2 y3_2.toNatClampNeg (vp_nar .boolean (1 : Int32))))))))) n (0 : Int32) v_joined)
set_option maxRecDepth 100000 in
set_option maxHeartbeats 4000000 in
/-- SpectrumParts$SampleSet.apartAbove -/
theorem c_XSa_apartAbove (l : Launch) (dC : Nat → ClassId) (dI : Nat → Nat → Nat) (kI kJ kZ kII kJJ : ClassId) (h_this : Nat) (h_measures : Nat) (h_joined : Nat) (g_measures : Nat → Nat) (v_size : Int32) (v_a : Int64) (v_b : Int64) (v_c : Int64) (v_measures : Nat → Nat → Int32) (a1 : Int32) (a2 : Int32) (sz : Nat) (post : Int64 → Prop) (hv : vc_XSa_apartAbove post v_a v_b v_c v_measures a1 a2) :
    Met l y_XSa_apartAbove w_XSa_apartAbove ({ frames := 0, cells := 0, slots := 0, locals := 0 }) (va_Pc [.ref h_this, .int a1, .int a2] (px_B g0 (dC, dI) vwCl (tysv kI kJ kZ kII kJJ) (wq [(h_this, .inr (3, [.ref h_measures, .int v_size, .long v_a, .long v_b, .long v_c, .ref h_joined])), (h_measures, .inl (kII, 2, .inr (.inr (.inr (.inr (gq 2 g_measures))))))] (wq (gi2 g_measures kI 12 v_measures) [])) sz))
      (va_Ql (fun (r : Int64) (u : Unit) => post r) (fun (u : Unit) => ax_B (va_A (wq [(h_this, .inr (3, [.ref h_measures, .int v_size, .long v_a, .long v_b, .long v_c, .ref h_joined])), (h_measures, .inl (kII, 2, .inr (.inr (.inr (.inr (gq 2 g_measures))))))] (wq (gi2 g_measures kI 12 v_measures) [])) sz) (dC, dI) vwCl (tysv kI kJ kZ kII kJJ) (wq [(h_this, .inr (3, [.ref h_measures, .int v_size, .long v_a, .long v_b, .long v_c, .ref h_joined])), (h_measures, .inl (kII, 2, .inr (.inr (.inr (.inr (gq 2 g_measures))))))] (wq (gi2 g_measures kI 12 v_measures) []))) (va_A (wq [(h_this, .inr (3, [.ref h_measures, .int v_size, .long v_a, .long v_b, .long v_c, .ref h_joined])), (h_measures, .inl (kII, 2, .inr (.inr (.inr (.inr (gq 2 g_measures))))))] (wq (gi2 g_measures kI 12 v_measures) [])) sz)) 0 0 (va_A (wq [(h_this, .inr (3, [.ref h_measures, .int v_size, .long v_a, .long v_b, .long v_c, .ref h_joined])), (h_measures, .inl (kII, 2, .inr (.inr (.inr (.inr (gq 2 g_measures))))))] (wq (gi2 g_measures kI 12 v_measures) [])) sz) := by
  refine pxl (cc := b_XSa_apartAbove) (maxL := 7) (wd := fun (u : Unit) => (wq [(h_this, .inr (3, [.ref h_measures, .int v_size, .long v_a, .long v_b, .long v_c, .ref h_joined])), (h_measures, .inl (kII, 2, .inr (.inr (.inr (.inr (gq 2 g_measures))))))] (wq (gi2 g_measures kI 12 v_measures) []))) (by decide +kernel) rfl (Nat.le_of_ble_eq_true rfl) ?_
  intro p e s m below meth c A ls Q H hx hb hml hts hown hK hG hP hD hS hA hl hq
  have hts := fun w h => hts w (List.mem_cons_of_mem _ h)
  have hown : s.vm.findClass R_XSa = some m.cls := hown
  have hl : lv_has ls 7 [(0, .ref h_this), (1, .int a1), (2, .int a2)] := hl
  unfold vc_XSa_apartAbove at hv
  refine lv_aload_n hx hb d_XSa_apartAbove_0 rfl (lv_at hl 0 rfl) ?_
  refine va_get (D := (dC, dI)) (ci := 3) (v := .ref h_measures) (C := R_XSa) (T := T_XSa) (N := 6) hx hb hts i_XSa hown hK hP 0 rfl rfl 0 (by decide) (hts _ tk_138) (fun _ h9 => h9) rfl d_XSa_apartAbove_1 ?_
  refine lv_iconst (v := (0 : Int32)) hx hb d_XSa_apartAbove_4 (by decide) ?_
  have hj_1 := gj_lt hv.1
  refine gx_ald hx hb hK hP 1 3 rfl rfl hv.1 d_XSa_apartAbove_5 ?_
  have hv := hv.2
  refine lv_iload_n hx hb d_XSa_apartAbove_6 rfl (lv_at hl 1 rfl) ?_
  refine gi2_ld (pre := [(h_this, .inr (3, [.ref h_measures, .int v_size, .long v_a, .long v_b, .long v_c, .ref h_joined])), (h_measures, .inl (kII, 2, .inr (.inr (.inr (.inr (gq 2 g_measures))))))]) (suf := []) hx hb hK hP 0 rfl hj_1 hv.1 d_XSa_apartAbove_7 ?_
  have hv := hv.2
  refine lv_aload_n hx hb d_XSa_apartAbove_8 rfl (lv_at hl 0 rfl) ?_
  refine va_get (D := (dC, dI)) (ci := 3) (v := .ref h_measures) (C := R_XSa) (T := T_XSa) (N := 6) hx hb hts i_XSa hown hK hP 0 rfl rfl 0 (by decide) (hts _ tk_138) (fun _ h9 => h9) rfl d_XSa_apartAbove_9 ?_
  refine lv_iconst (v := (0 : Int32)) hx hb d_XSa_apartAbove_12 (by decide) ?_
  have hj_2 := gj_lt hv.1
  refine gx_ald hx hb hK hP 1 3 rfl rfl hv.1 d_XSa_apartAbove_13 ?_
  have hv := hv.2
  refine lv_iload_n hx hb d_XSa_apartAbove_14 rfl (lv_at hl 2 rfl) ?_
  refine gi2_ld (pre := [(h_this, .inr (3, [.ref h_measures, .int v_size, .long v_a, .long v_b, .long v_c, .ref h_joined])), (h_measures, .inl (kII, 2, .inr (.inr (.inr (.inr (gq 2 g_measures))))))]) (suf := []) hx hb hK hP 0 rfl hj_2 hv.1 d_XSa_apartAbove_15 ?_
  have hv := hv.2
  refine lv_isub hx hb d_XSa_apartAbove_16 ?_
  refine lv_i2l hx hb d_XSa_apartAbove_17 rfl ?_
  refine lv_topl (fun x3_3 e_x3_3 => ?_)
  have hv := hv x3_3 e_x3_3
  refine lv_lstore_n (lv' := [(3, .long x3_3), (0, .ref h_this), (1, .int a1), (2, .int a2)]) hx hb d_XSa_apartAbove_18 rfl hl (by decide) rfl (fun ls hl => ?_)
  refine lv_aload_n hx hb d_XSa_apartAbove_19 rfl (lv_at hl 1 rfl) ?_
  refine va_get (D := (dC, dI)) (ci := 3) (v := .ref h_measures) (C := R_XSa) (T := T_XSa) (N := 6) hx hb hts i_XSa hown hK hP 0 rfl rfl 0 (by decide) (hts _ tk_138) (fun _ h9 => h9) rfl d_XSa_apartAbove_20 ?_
  refine lv_iconst (v := (1 : Int32)) hx hb d_XSa_apartAbove_23 (by decide) ?_
  have hj_4 := gj_lt hv.1
  refine gx_ald hx hb hK hP 1 3 rfl rfl hv.1 d_XSa_apartAbove_24 ?_
  have hv := hv.2
  refine lv_iload_n hx hb d_XSa_apartAbove_25 rfl (lv_at hl 2 rfl) ?_
  refine gi2_ld (pre := [(h_this, .inr (3, [.ref h_measures, .int v_size, .long v_a, .long v_b, .long v_c, .ref h_joined])), (h_measures, .inl (kII, 2, .inr (.inr (.inr (.inr (gq 2 g_measures))))))]) (suf := []) hx hb hK hP 0 rfl hj_4 hv.1 d_XSa_apartAbove_26 ?_
  have hv := hv.2
  refine lv_aload_n hx hb d_XSa_apartAbove_27 rfl (lv_at hl 1 rfl) ?_
  refine va_get (D := (dC, dI)) (ci := 3) (v := .ref h_measures) (C := R_XSa) (T := T_XSa) (N := 6) hx hb hts i_XSa hown hK hP 0 rfl rfl 0 (by decide) (hts _ tk_138) (fun _ h9 => h9) rfl d_XSa_apartAbove_28 ?_
  refine lv_iconst (v := (1 : Int32)) hx hb d_XSa_apartAbove_31 (by decide) ?_
  have hj_5 := gj_lt hv.1
  refine gx_ald hx hb hK hP 1 3 rfl rfl hv.1 d_XSa_apartAbove_32 ?_
  have hv := hv.2
  refine lv_iload_n hx hb d_XSa_apartAbove_33 rfl (lv_at hl 3 rfl) ?_
  refine gi2_ld (pre := [(h_this, .inr (3, [.ref h_measures, .int v_size, .long v_a, .long v_b, .long v_c, .ref h_joined])), (h_measures, .inl (kII, 2, .inr (.inr (.inr (.inr (gq 2 g_measures))))))]) (suf := []) hx hb hK hP 0 rfl hj_5 hv.1 d_XSa_apartAbove_34 ?_
  have hv := hv.2
  refine lv_isub hx hb d_XSa_apartAbove_35 ?_
  refine lv_i2l hx hb d_XSa_apartAbove_36 rfl ?_
  refine lv_topl (fun x5_6 e_x5_6 => ?_)
  have hv := hv x5_6 e_x5_6
  refine lv_lstore (lv' := [(5, .long x5_6), (3, .long x3_3), (0, .ref h_this), (1, .int a1), (2, .int a2)]) hx hb d_XSa_apartAbove_37 hl (by decide) rfl (fun ls hl => ?_)
  refine lv_aload_n hx hb d_XSa_apartAbove_39 rfl (lv_at hl 2 rfl) ?_
  refine va_get (D := (dC, dI)) (ci := 3) (v := .long v_c) (C := R_XSa) (T := T_XSa) (N := 6) hx hb hts i_XSa hown hK hP 0 rfl rfl 4 (by decide) (hts _ tk_146) (fun _ h9 => h9) rfl d_XSa_apartAbove_40 ?_
  refine lv_lload_n hx hb d_XSa_apartAbove_43 rfl (lv_at hl 1 rfl) ?_
  refine lv_lmul hx hb d_XSa_apartAbove_44 ?_
  refine lv_lload_n hx hb d_XSa_apartAbove_45 rfl (lv_at hl 1 rfl) ?_
  refine lv_lmul hx hb d_XSa_apartAbove_46 ?_
  refine lv_ldc2 (v := (2 : Int64)) hx hb hown (hts _ tk_536) d_XSa_apartAbove_47 ?_
  refine lv_aload_n hx hb d_XSa_apartAbove_50 rfl (lv_at hl 2 rfl) ?_
  refine va_get (D := (dC, dI)) (ci := 3) (v := .long v_b) (C := R_XSa) (T := T_XSa) (N := 6) hx hb hts i_XSa hown hK hP 0 rfl rfl 3 (by decide) (hts _ tk_144) (fun _ h9 => h9) rfl d_XSa_apartAbove_51 ?_
  refine lv_lmul hx hb d_XSa_apartAbove_54 ?_
  refine lv_lload_n hx hb d_XSa_apartAbove_55 rfl (lv_at hl 1 rfl) ?_
  refine lv_lmul hx hb d_XSa_apartAbove_56 ?_
  refine lv_lload hx hb d_XSa_apartAbove_57 (lv_at hl 0 rfl) ?_
  refine lv_lmul hx hb d_XSa_apartAbove_59 ?_
  refine lv_lsub hx hb d_XSa_apartAbove_60 ?_
  refine lv_aload_n hx hb d_XSa_apartAbove_61 rfl (lv_at hl 2 rfl) ?_
  refine va_get (D := (dC, dI)) (ci := 3) (v := .long v_a) (C := R_XSa) (T := T_XSa) (N := 6) hx hb hts i_XSa hown hK hP 0 rfl rfl 2 (by decide) (hts _ tk_142) (fun _ h9 => h9) rfl d_XSa_apartAbove_62 ?_
  refine lv_lload hx hb d_XSa_apartAbove_65 (lv_at hl 0 rfl) ?_
  refine lv_lmul hx hb d_XSa_apartAbove_67 ?_
  refine lv_lload hx hb d_XSa_apartAbove_68 (lv_at hl 0 rfl) ?_
  refine lv_lmul hx hb d_XSa_apartAbove_70 ?_
  refine lv_ladd hx hb d_XSa_apartAbove_71 ?_
  exact hq ((((v_c * x3_3) * x3_3) - ((((2 : Int64) * v_b) * x3_3) * x5_6)) + ((v_a * x5_6) * x5_6)) () _ _ _ _ hv hP hD hS d_XSa_apartAbove_72
set_option maxRecDepth 100000 in
set_option maxHeartbeats 4000000 in
/-- SpectrumParts$SampleSet.apartBelow -/
theorem c_XSa_apartBelow (l : Launch) (dC : Nat → ClassId) (dI : Nat → Nat → Nat) (kI kJ kZ kII kJJ : ClassId) (h_this : Nat) (h_measures : Nat) (h_joined : Nat) (v_size : Int32) (v_a : Int64) (v_b : Int64) (v_c : Int64) (sz : Nat) (post : Int64 → Prop) (hv : vc_XSa_apartBelow post v_a v_b v_c) :
    Met l y_XSa_apartBelow w_XSa_apartBelow ({ frames := 0, cells := 0, slots := 0, locals := 0 }) (va_Pc [.ref h_this] (px_B g0 (dC, dI) vwCl (tysv kI kJ kZ kII kJJ) [(h_this, .inr (3, [.ref h_measures, .int v_size, .long v_a, .long v_b, .long v_c, .ref h_joined]))] sz))
      (va_Ql (fun (r : Int64) (u : Unit) => post r) (fun (u : Unit) => ax_B (va_A [(h_this, .inr (3, [.ref h_measures, .int v_size, .long v_a, .long v_b, .long v_c, .ref h_joined]))] sz) (dC, dI) vwCl (tysv kI kJ kZ kII kJJ) [(h_this, .inr (3, [.ref h_measures, .int v_size, .long v_a, .long v_b, .long v_c, .ref h_joined]))]) (va_A [(h_this, .inr (3, [.ref h_measures, .int v_size, .long v_a, .long v_b, .long v_c, .ref h_joined]))] sz)) 0 0 (va_A [(h_this, .inr (3, [.ref h_measures, .int v_size, .long v_a, .long v_b, .long v_c, .ref h_joined]))] sz) := by
  refine pxl (cc := b_XSa_apartBelow) (maxL := 1) (wd := fun (u : Unit) => [(h_this, .inr (3, [.ref h_measures, .int v_size, .long v_a, .long v_b, .long v_c, .ref h_joined]))]) (by decide +kernel) rfl (Nat.le_of_ble_eq_true rfl) ?_
  intro p e s m below meth c A ls Q H hx hb hml hts hown hK hG hP hD hS hA hl hq
  have hts := fun w h => hts w (List.mem_cons_of_mem _ h)
  have hown : s.vm.findClass R_XSa = some m.cls := hown
  have hl : lv_has ls 1 [(0, .ref h_this)] := hl
  unfold vc_XSa_apartBelow at hv
  refine lv_aload_n hx hb d_XSa_apartBelow_0 rfl (lv_at hl 0 rfl) ?_
  refine va_get (D := (dC, dI)) (ci := 3) (v := .long v_a) (C := R_XSa) (T := T_XSa) (N := 6) hx hb hts i_XSa hown hK hP 0 rfl rfl 2 (by decide) (hts _ tk_142) (fun _ h9 => h9) rfl d_XSa_apartBelow_1 ?_
  refine lv_aload_n hx hb d_XSa_apartBelow_4 rfl (lv_at hl 0 rfl) ?_
  refine va_get (D := (dC, dI)) (ci := 3) (v := .long v_c) (C := R_XSa) (T := T_XSa) (N := 6) hx hb hts i_XSa hown hK hP 0 rfl rfl 4 (by decide) (hts _ tk_146) (fun _ h9 => h9) rfl d_XSa_apartBelow_5 ?_
  refine lv_lmul hx hb d_XSa_apartBelow_8 ?_
  refine lv_aload_n hx hb d_XSa_apartBelow_9 rfl (lv_at hl 0 rfl) ?_
  refine va_get (D := (dC, dI)) (ci := 3) (v := .long v_b) (C := R_XSa) (T := T_XSa) (N := 6) hx hb hts i_XSa hown hK hP 0 rfl rfl 3 (by decide) (hts _ tk_144) (fun _ h9 => h9) rfl d_XSa_apartBelow_10 ?_
  refine lv_aload_n hx hb d_XSa_apartBelow_13 rfl (lv_at hl 0 rfl) ?_
  refine va_get (D := (dC, dI)) (ci := 3) (v := .long v_b) (C := R_XSa) (T := T_XSa) (N := 6) hx hb hts i_XSa hown hK hP 0 rfl rfl 3 (by decide) (hts _ tk_144) (fun _ h9 => h9) rfl d_XSa_apartBelow_14 ?_
  refine lv_lmul hx hb d_XSa_apartBelow_17 ?_
  refine lv_lsub hx hb d_XSa_apartBelow_18 ?_
  exact hq ((v_a * v_c) - (v_b * v_b)) () _ _ _ _ hv hP hD hS d_XSa_apartBelow_19
set_option maxRecDepth 100000 in
set_option maxHeartbeats 4000000 in
/-- SpectrumParts$SampleSet.joinOnce -/
theorem c_XSa_joinOnce (l : Launch) (dC : Nat → ClassId) (dI : Nat → Nat → Nat) (kI kJ kZ kII kJJ : ClassId) (h_this : Nat) (h_measures : Nat) (h_joined : Nat) (g_measures : Nat → Nat) (v_size : Int32) (v_a : Int64) (v_b : Int64) (v_c : Int64) (v_joined : Nat → Int32) (v_measures : Nat → Nat → Int32) (a1 : Int32) (sz : Nat) (post : (Nat → Int32) → Prop) (hv : vc_XSa_joinOnce post v_size v_a v_b v_c v_joined v_measures a1) :
    Met l y_XSa_joinOnce w_XSa_joinOnce ({ frames := 1, cells := 0, slots := 0, locals := 26 }) (va_Pc [.ref h_this, .int a1] (px_B g0 (dC, dI) vwCl (tysv kI kJ kZ kII kJJ) (wq [(h_this, .inr (3, [.ref h_measures, .int v_size, .long v_a, .long v_b, .long v_c, .ref h_joined])), (h_joined, .inl (kZ, 12, .inl v_joined)), (h_measures, .inl (kII, 2, .inr (.inr (.inr (.inr (gq 2 g_measures))))))] (wq (gi2 g_measures kI 12 v_measures) [])) sz))
      (va_Qv (fun (u : (Nat → Int32)) => post u) (fun (u : (Nat → Int32)) => ax_B (va_A (wq [(h_this, .inr (3, [.ref h_measures, .int v_size, .long v_a, .long v_b, .long v_c, .ref h_joined])), (h_joined, .inl (kZ, 12, .inl v_joined)), (h_measures, .inl (kII, 2, .inr (.inr (.inr (.inr (gq 2 g_measures))))))] (wq (gi2 g_measures kI 12 v_measures) [])) sz) (dC, dI) vwCl (tysv kI kJ kZ kII kJJ) (wq [(h_this, .inr (3, [.ref h_measures, .int v_size, .long v_a, .long v_b, .long v_c, .ref h_joined])), (h_joined, .inl (kZ, 12, .inl u)), (h_measures, .inl (kII, 2, .inr (.inr (.inr (.inr (gq 2 g_measures))))))] (wq (gi2 g_measures kI 12 v_measures) []))) (va_A (wq [(h_this, .inr (3, [.ref h_measures, .int v_size, .long v_a, .long v_b, .long v_c, .ref h_joined])), (h_joined, .inl (kZ, 12, .inl v_joined)), (h_measures, .inl (kII, 2, .inr (.inr (.inr (.inr (gq 2 g_measures))))))] (wq (gi2 g_measures kI 12 v_measures) [])) sz)) 0 0 (va_A (wq [(h_this, .inr (3, [.ref h_measures, .int v_size, .long v_a, .long v_b, .long v_c, .ref h_joined])), (h_joined, .inl (kZ, 12, .inl v_joined)), (h_measures, .inl (kII, 2, .inr (.inr (.inr (.inr (gq 2 g_measures))))))] (wq (gi2 g_measures kI 12 v_measures) [])) sz) := by
  refine pxv (cc := b_XSa_joinOnce) (maxL := 6) (wd := fun (u : (Nat → Int32)) => (wq [(h_this, .inr (3, [.ref h_measures, .int v_size, .long v_a, .long v_b, .long v_c, .ref h_joined])), (h_joined, .inl (kZ, 12, .inl u)), (h_measures, .inl (kII, 2, .inr (.inr (.inr (.inr (gq 2 g_measures))))))] (wq (gi2 g_measures kI 12 v_measures) []))) (by decide +kernel) rfl (Nat.le_of_ble_eq_true rfl) ?_
  intro p e s m below meth c A ls Q H hx hb hml hts hown hK hG hP hD hS hA hl hq
  have hts := fun w h => hts w (List.mem_cons_of_mem _ h)
  have hown : s.vm.findClass R_XSa = some m.cls := hown
  have hl : lv_has ls 6 [(0, .ref h_this), (1, .int a1)] := hl
  unfold vc_XSa_joinOnce at hv
  refine lv_iload_n hx hb d_XSa_joinOnce_0 rfl (lv_at hl 1 rfl) ?_
  refine lv_i2l hx hb d_XSa_joinOnce_1 rfl ?_
  refine lv_aload_n hx hb d_XSa_joinOnce_2 rfl (lv_at hl 0 rfl) ?_
  have hPc := hP.sub (ws' := [(h_this, .inr (3, [.ref h_measures, .int v_size, .long v_a, .long v_b, .long v_c, .ref h_joined]))]) [0] rfl
  have hDc := hD.sub (ws' := [(h_this, .inr (3, [.ref h_measures, .int v_size, .long v_a, .long v_b, .long v_c, .ref h_joined]))]) [0] (by decide) rfl
  have hFc := va_free (wc := [(h_this, .inr (3, [.ref h_measures, .int v_size, .long v_a, .long v_b, .long v_c, .ref h_joined]))]) hD hS hA [0] rfl
  refine va_calll (va_runV (As := []) (rest := [.long a1.toInt64]) ⟨hx, hb, hml, hown, hts⟩ (c_XSa_apartBelow l dC dI kI kJ kZ kII kJJ h_this h_measures h_joined v_size v_a v_b v_c H.size _ hv) (cwV 0 hts (gV tk_556 tk_538 ts_XSa_apartBelow tk_7 tc_XSa_apartBelow) rfl rfl rfl (by decide +kernel) ⟨Nat.le_of_ble_eq_true rfl, Nat.le_of_ble_eq_true rfl⟩) ⟨px_blind g0_mv, va_recv hK hPc (ci := 3) (q0 := 0) rfl rfl, px_pre g0_mv hPc hK hDc trivial hS hFc⟩ rfl rfl hl.1 rfl (lv_room (Nat.le_of_ble_eq_true rfl)) d_XSa_joinOnce_3 ⟨Nat.le_of_ble_eq_true rfl, Nat.le_of_ble_eq_true rfl⟩) hS (fun q _ h => hFc q h) hFc (fun r_1 u t H1 locs ht hvm hv hB hz1 hk1 hS => ?_)
  obtain ⟨⟩ := u
  obtain ⟨hP, hD⟩ := cj_join (wr := (wq [(h_joined, .inl (kZ, 12, .inl v_joined)), (h_measures, .inl (kII, 2, .inr (.inr (.inr (.inr (gq 2 g_measures))))))] (wq (gi2 g_measures kI 12 v_measures) []))) (w1 := [(h_this, .inr (3, [.ref h_measures, .int v_size, .long v_a, .long v_b, .long v_c, .ref h_joined]))]) hP hD [0] [1, 2, 3, 4] rfl rfl (by decide) (by decide) hk1 hFc ht hB
  generalize H1 = H at hP hS ⊢
  have hP : va_P (dC, dI) vwCl (wq [(h_this, .inr (3, [.ref h_measures, .int v_size, .long v_a, .long v_b, .long v_c, .ref h_joined])), (h_joined, .inl (kZ, 12, .inl v_joined)), (h_measures, .inl (kII, 2, .inr (.inr (.inr (.inr (gq 2 g_measures))))))] (wq (gi2 g_measures kI 12 v_measures) [])) H := hP.sub [4, 0, 1, 2, 3] rfl
  have hD : va_D A (wq [(h_this, .inr (3, [.ref h_measures, .int v_size, .long v_a, .long v_b, .long v_c, .ref h_joined])), (h_joined, .inl (kZ, 12, .inl v_joined)), (h_measures, .inl (kII, 2, .inr (.inr (.inr (.inr (gq 2 g_measures))))))] (wq (gi2 g_measures kI 12 v_measures) [])) := hD.sub [4, 0, 1, 2, 3] (by decide) rfl
  refine lv_lmul hx hb d_XSa_joinOnce_6 ?_
  refine lv_topl (fun x2_2 e_x2_2 => ?_)
  have hv := hv x2_2 e_x2_2
  refine lv_lstore_n (lv' := [(2, .long x2_2), (0, .ref h_this), (1, .int a1)]) hx hb d_XSa_joinOnce_7 rfl hl (by decide) rfl (fun ls hl => ?_)
  refine lv_iconst (v := (0 : Int32)) hx hb d_XSa_joinOnce_8 (by decide) ?_
  refine lv_istore (lv' := [(4, .int (0 : Int32)), (2, .long x2_2), (0, .ref h_this), (1, .int a1)]) hx hb d_XSa_joinOnce_9 hl (by decide) rfl (fun ls hl => ?_)
  obtain ⟨n_11, hv⟩ := hv
  refine vlp2_W (P := fun (y4_11 : Int32) (v_joined_11 : Nat → Int32) => wst p l e (headSpec w_XSa_joinOnce ({ frames := 1, cells := 0, slots := 0, locals := 26 })).room s m ([.ref h_this, .int a1] : List Value).toArray below meth c dC dI A 6 Q (wq [(h_this, .inr (3, [.ref h_measures, .int v_size, .long v_a, .long v_b, .long v_c, .ref h_joined])), (h_joined, .inl (kZ, 12, .inl v_joined_11)), (h_measures, .inl (kII, 2, .inr (.inr (.inr (.inr (gq 2 g_measures))))))] (wq (gi2 g_measures kI 12 v_measures) [])) [(0, .ref h_this), (2, .long x2_2), (4, .int y4_11)] 11 [] 0 0) ?_ n_11 _ _ hv _ _ _ hP hD hS (lv_sub hl [2, 1, 0] rfl)
  intro R_11 hR_11 y4_11 v_joined_11 hv H locs ls hP hD hS hl
  refine lv_iload hx hb d_XSa_joinOnce_11 (lv_at hl 2 rfl) ?_
  refine lv_aload_n hx hb d_XSa_joinOnce_13 rfl (lv_at hl 0 rfl) ?_
  refine va_get (D := (dC, dI)) (ci := 3) (v := .int v_size) (C := R_XSa) (T := T_XSa) (N := 6) hx hb hts i_XSa hown hK hP 0 rfl rfl 1 (by decide) (hts _ tk_140) (fun _ h9 => h9) rfl d_XSa_joinOnce_14 ?_
  refine lv_icmp_ge (tgt := 75) hx hb d_XSa_joinOnce_17 (by decide) (fun cd => ?_) (fun cd => ?_)
  · have hv := hv.1 cd
    exact hq v_joined_11 _ _ _ _ hv hP hD hS d_XSa_joinOnce_75
  have hv := hv.2 cd
  refine lv_iconst (v := (0 : Int32)) hx hb d_XSa_joinOnce_20 (by decide) ?_
  refine lv_istore (lv' := [(5, .int (0 : Int32)), (0, .ref h_this), (2, .long x2_2), (4, .int y4_11)]) hx hb d_XSa_joinOnce_21 hl (by decide) rfl (fun ls hl => ?_)
  obtain ⟨n_23, hv⟩ := hv
  refine vlp2_W (P := fun (y5_23 : Int32) (v_joined_23 : Nat → Int32) => wst p l e (headSpec w_XSa_joinOnce ({ frames := 1, cells := 0, slots := 0, locals := 26 })).room s m ([.ref h_this, .int a1] : List Value).toArray below meth c dC dI A 6 Q (wq [(h_this, .inr (3, [.ref h_measures, .int v_size, .long v_a, .long v_b, .long v_c, .ref h_joined])), (h_joined, .inl (kZ, 12, .inl v_joined_23)), (h_measures, .inl (kII, 2, .inr (.inr (.inr (.inr (gq 2 g_measures))))))] (wq (gi2 g_measures kI 12 v_measures) [])) [(0, .ref h_this), (2, .long x2_2), (4, .int y4_11), (5, .int y5_23)] 23 [] 0 0) ?_ n_23 _ _ hv _ _ _ hP hD hS (lv_sub hl [1, 2, 3, 0] rfl)
  intro R_23 hR_23 y5_23 v_joined_23 hv H locs ls hP hD hS hl
  refine lv_iload hx hb d_XSa_joinOnce_23 (lv_at hl 3 rfl) ?_
  refine lv_aload_n hx hb d_XSa_joinOnce_25 rfl (lv_at hl 0 rfl) ?_
  refine va_get (D := (dC, dI)) (ci := 3) (v := .int v_size) (C := R_XSa) (T := T_XSa) (N := 6) hx hb hts i_XSa hown hK hP 0 rfl rfl 1 (by decide) (hts _ tk_140) (fun _ h9 => h9) rfl d_XSa_joinOnce_26 ?_
  refine lv_icmp_ge (tgt := 69) hx hb d_XSa_joinOnce_29 (by decide) (fun cd => ?_) (fun cd => ?_)
  · have hv := hv.1 cd
    refine lv_iinc (v := (y4_11 + (1 : Int32))) (lv' := [(4, .int (y4_11 + (1 : Int32))), (0, .ref h_this), (2, .long x2_2), (5, .int y5_23)]) hx hb d_XSa_joinOnce_69 hl (k := 2) rfl rfl (by decide) rfl (fun ls hl => ?_)
    refine lv_goto (tgt := 11) hx hb d_XSa_joinOnce_72 (by decide) ?_
    exact hR_11 _ _ hv _ _ _ hP hD hS (lv_sub hl [1, 2, 0] rfl)
  have hv := hv.2 cd
  refine lv_aload_n hx hb d_XSa_joinOnce_32 rfl (lv_at hl 0 rfl) ?_
  refine va_get (D := (dC, dI)) (ci := 3) (v := .ref h_joined) (C := R_XSa) (T := T_XSa) (N := 6) hx hb hts i_XSa hown hK hP 0 rfl rfl 5 (by decide) (hts _ tk_148) (fun _ h9 => h9) rfl d_XSa_joinOnce_33 ?_
  refine lv_iload hx hb d_XSa_joinOnce_36 (lv_at hl 2 rfl) ?_
  refine va_zald hx hb hK hP 1 2 rfl rfl hv.1 d_XSa_joinOnce_38 ?_
  have hv := hv.2
  refine lv_if_eq (tgt := 63) hx hb d_XSa_joinOnce_39 (by decide) (fun cd => ?_) (fun cd => ?_)
  · have hv := hv.1 cd
    refine lv_iinc (v := (y5_23 + (1 : Int32))) (lv' := [(5, .int (y5_23 + (1 : Int32))), (0, .ref h_this), (2, .long x2_2), (4, .int y4_11)]) hx hb d_XSa_joinOnce_63 hl (k := 3) rfl rfl (by decide) rfl (fun ls hl => ?_)
    refine lv_goto (tgt := 23) hx hb d_XSa_joinOnce_66 (by decide) ?_
    exact hR_23 _ _ hv _ _ _ hP hD hS (lv_sub hl [1, 2, 3, 0] rfl)
  have hv := hv.2 cd
  refine lv_aload_n hx hb d_XSa_joinOnce_42 rfl (lv_at hl 0 rfl) ?_
  refine lv_iload hx hb d_XSa_joinOnce_43 (lv_at hl 2 rfl) ?_
  refine lv_iload hx hb d_XSa_joinOnce_45 (lv_at hl 3 rfl) ?_
  have hPc := hP.sub (ws' := (wq [(h_this, .inr (3, [.ref h_measures, .int v_size, .long v_a, .long v_b, .long v_c, .ref h_joined])), (h_measures, .inl (kII, 2, .inr (.inr (.inr (.inr (gq 2 g_measures))))))] (wq (gi2 g_measures kI 12 v_measures) []))) [0, 2, 3, 4] rfl
  have hDc := hD.sub (ws' := (wq [(h_this, .inr (3, [.ref h_measures, .int v_size, .long v_a, .long v_b, .long v_c, .ref h_joined])), (h_measures, .inl (kII, 2, .inr (.inr (.inr (.inr (gq 2 g_measures))))))] (wq (gi2 g_measures kI 12 v_measures) []))) [0, 2, 3, 4] (by decide) rfl
  have hFc := va_free (wc := (wq [(h_this, .inr (3, [.ref h_measures, .int v_size, .long v_a, .long v_b, .long v_c, .ref h_joined])), (h_measures, .inl (kII, 2, .inr (.inr (.inr (.inr (gq 2 g_measures))))))] (wq (gi2 g_measures kI 12 v_measures) []))) hD hS hA [0, 2, 3, 4] rfl
  refine va_calll (va_runV (As := [.int y4_11, .int y5_23]) (rest := []) ⟨hx, hb, hml, hown, hts⟩ (c_XSa_apartAbove l dC dI kI kJ kZ kII kJJ h_this h_measures h_joined g_measures v_size v_a v_b v_c v_measures y4_11 y5_23 H.size _ hv) (cwV 2 hts (gV tk_557 tk_533 ts_XSa_apartAbove tk_7 tc_XSa_apartAbove) rfl rfl rfl (by decide +kernel) ⟨Nat.le_of_ble_eq_true rfl, Nat.le_of_ble_eq_true rfl⟩) ⟨px_blind g0_mv, va_recv hK hPc (ci := 3) (q0 := 0) rfl rfl, px_pre g0_mv hPc hK hDc trivial hS hFc⟩ rfl rfl hl.1 rfl (lv_room (Nat.le_of_ble_eq_true rfl)) d_XSa_joinOnce_47 ⟨Nat.le_of_ble_eq_true rfl, Nat.le_of_ble_eq_true rfl⟩) hS (fun q _ h => hFc q h) hFc (fun r_3 u t H1 locs ht hvm hv hB hz1 hk1 hS => ?_)
  obtain ⟨⟩ := u
  obtain ⟨hP, hD⟩ := cj_join (wr := [(h_joined, .inl (kZ, 12, .inl v_joined_23))]) (w1 := (wq [(h_this, .inr (3, [.ref h_measures, .int v_size, .long v_a, .long v_b, .long v_c, .ref h_joined])), (h_measures, .inl (kII, 2, .inr (.inr (.inr (.inr (gq 2 g_measures))))))] (wq (gi2 g_measures kI 12 v_measures) []))) hP hD [0, 2, 3, 4] [1] rfl rfl (by decide) (by decide) hk1 hFc ht hB
  generalize H1 = H at hP hS ⊢
  have hP : va_P (dC, dI) vwCl (wq [(h_this, .inr (3, [.ref h_measures, .int v_size, .long v_a, .long v_b, .long v_c, .ref h_joined])), (h_joined, .inl (kZ, 12, .inl v_joined_23)), (h_measures, .inl (kII, 2, .inr (.inr (.inr (.inr (gq 2 g_measures))))))] (wq (gi2 g_measures kI 12 v_measures) [])) H := hP.sub [1, 0, 2, 3, 4] rfl
  have hD : va_D A (wq [(h_this, .inr (3, [.ref h_measures, .int v_size, .long v_a, .long v_b, .long v_c, .ref h_joined])), (h_joined, .inl (kZ, 12, .inl v_joined_23)), (h_measures, .inl (kII, 2, .inr (.inr (.inr (.inr (gq 2 g_measures))))))] (wq (gi2 g_measures kI 12 v_measures) [])) := hD.sub [1, 0, 2, 3, 4] (by decide) rfl
  refine lv_lload_n hx hb d_XSa_joinOnce_50 rfl (lv_at hl 1 rfl) ?_
  refine W.lcmp hx hb d_XSa_joinOnce_51 ?_
  refine lv_if_gt (tgt := 63) hx hb d_XSa_joinOnce_52 (by decide) (fun cd => ?_) (fun cd => ?_)
  · have hv := hv.1 cd
    refine lv_iinc (v := (y5_23 + (1 : Int32))) (lv' := [(5, .int (y5_23 + (1 : Int32))), (0, .ref h_this), (2, .long x2_2), (4, .int y4_11)]) hx hb d_XSa_joinOnce_63 hl (k := 3) rfl rfl (by decide) rfl (fun ls hl => ?_)
    refine lv_goto (tgt := 23) hx hb d_XSa_joinOnce_66 (by decide) ?_
    exact hR_23 _ _ hv _ _ _ hP hD hS (lv_sub hl [1, 2, 3, 0] rfl)
  have hv := hv.2 cd
  refine lv_aload_n hx hb d_XSa_joinOnce_55 rfl (lv_at hl 0 rfl) ?_
  refine va_get (D := (dC, dI)) (ci := 3) (v := .ref h_joined) (C := R_XSa) (T := T_XSa) (N := 6) hx hb hts i_XSa hown hK hP 0 rfl rfl 5 (by decide) (hts _ tk_148) (fun _ h9 => h9) rfl d_XSa_joinOnce_56 ?_
  refine lv_iload hx hb d_XSa_joinOnce_59 (lv_at hl 3 rfl) ?_
  refine lv_iconst (v := (1 : Int32)) hx hb d_XSa_joinOnce_61 (by decide) ?_
  refine va_zast hx hb hK hP hD hS 1 2 rfl rfl hv.1 d_XSa_joinOnce_62 (fun H locs hP hD hS => ?_)
  have hv := hv.2
  have hP : va_P (dC, dI) vwCl (wq [(h_this, .inr (3, [.ref h_measures, .int v_size, .long v_a, .long v_b, .long v_c, .ref h_joined])), (h_joined, .inl (kZ, 12, .inl (upd v_joined_23 y5_23.toNatClampNeg (vp_nar .boolean (1 : Int32))))), (h_measures, .inl (kII, 2, .inr (.inr (.inr (.inr (gq 2 g_measures))))))] (wq (gi2 g_measures kI 12 v_measures) [])) H := hP
  have hD : va_D A (wq [(h_this, .inr (3, [.ref h_measures, .int v_size, .long v_a, .long v_b, .long v_c, .ref h_joined])), (h_joined, .inl (kZ, 12, .inl (upd v_joined_23 y5_23.toNatClampNeg (vp_nar .boolean (1 : Int32))))), (h_measures, .inl (kII, 2, .inr (.inr (.inr (.inr (gq 2 g_measures))))))] (wq (gi2 g_measures kI 12 v_measures) [])) := hD
  refine lv_iinc (v := (y5_23 + (1 : Int32))) (lv' := [(5, .int (y5_23 + (1 : Int32))), (0, .ref h_this), (2, .long x2_2), (4, .int y4_11)]) hx hb d_XSa_joinOnce_63 hl (k := 3) rfl rfl (by decide) rfl (fun ls hl => ?_)
  refine lv_goto (tgt := 23) hx hb d_XSa_joinOnce_66 (by decide) ?_
  exact hR_23 _ _ hv _ _ _ hP hD hS (lv_sub hl [1, 2, 3, 0] rfl)
set_option maxRecDepth 100000 in
set_option maxHeartbeats 4000000 in
/-- SpectrumParts$SampleSet.lowestJoined -/
theorem c_XSa_lowestJoined (l : Launch) (dC : Nat → ClassId) (dI : Nat → Nat → Nat) (kI kJ kZ kII kJJ : ClassId) (h_this : Nat) (h_measures : Nat) (h_joined : Nat) (g_measures : Nat → Nat) (v_size : Int32) (v_a : Int64) (v_b : Int64) (v_c : Int64) (v_joined : Nat → Int32) (v_measures : Nat → Nat → Int32) (a1 : Int32) (a2 : Int32) (sz : Nat) (post : Int32 → (Nat → Int32) → Prop) (hv : vc_XSa_lowestJoined post v_size v_a v_b v_c v_joined v_measures a1 a2) :
    Met l y_XSa_lowestJoined w_XSa_lowestJoined ({ frames := 2, cells := 0, slots := 0, locals := 51 }) (va_Pc [.ref h_this, .int a1, .int a2] (px_B g0 (dC, dI) vwCl (tysv kI kJ kZ kII kJJ) (wq [(h_this, .inr (3, [.ref h_measures, .int v_size, .long v_a, .long v_b, .long v_c, .ref h_joined])), (h_joined, .inl (kZ, 12, .inl v_joined)), (h_measures, .inl (kII, 2, .inr (.inr (.inr (.inr (gq 2 g_measures))))))] (wq (gi2 g_measures kI 12 v_measures) [])) sz))
      (va_Qi (fun (r : Int32) (u : (Nat → Int32)) => post r u) (fun (u : (Nat → Int32)) => ax_B (va_A (wq [(h_this, .inr (3, [.ref h_measures, .int v_size, .long v_a, .long v_b, .long v_c, .ref h_joined])), (h_joined, .inl (kZ, 12, .inl v_joined)), (h_measures, .inl (kII, 2, .inr (.inr (.inr (.inr (gq 2 g_measures))))))] (wq (gi2 g_measures kI 12 v_measures) [])) sz) (dC, dI) vwCl (tysv kI kJ kZ kII kJJ) (wq [(h_this, .inr (3, [.ref h_measures, .int v_size, .long v_a, .long v_b, .long v_c, .ref h_joined])), (h_joined, .inl (kZ, 12, .inl u)), (h_measures, .inl (kII, 2, .inr (.inr (.inr (.inr (gq 2 g_measures))))))] (wq (gi2 g_measures kI 12 v_measures) []))) (va_A (wq [(h_this, .inr (3, [.ref h_measures, .int v_size, .long v_a, .long v_b, .long v_c, .ref h_joined])), (h_joined, .inl (kZ, 12, .inl v_joined)), (h_measures, .inl (kII, 2, .inr (.inr (.inr (.inr (gq 2 g_measures))))))] (wq (gi2 g_measures kI 12 v_measures) [])) sz)) 0 0 (va_A (wq [(h_this, .inr (3, [.ref h_measures, .int v_size, .long v_a, .long v_b, .long v_c, .ref h_joined])), (h_joined, .inl (kZ, 12, .inl v_joined)), (h_measures, .inl (kII, 2, .inr (.inr (.inr (.inr (gq 2 g_measures))))))] (wq (gi2 g_measures kI 12 v_measures) [])) sz) := by
  refine pxi (cc := b_XSa_lowestJoined) (maxL := 4) (wd := fun (u : (Nat → Int32)) => (wq [(h_this, .inr (3, [.ref h_measures, .int v_size, .long v_a, .long v_b, .long v_c, .ref h_joined])), (h_joined, .inl (kZ, 12, .inl u)), (h_measures, .inl (kII, 2, .inr (.inr (.inr (.inr (gq 2 g_measures))))))] (wq (gi2 g_measures kI 12 v_measures) []))) (by decide +kernel) rfl (Nat.le_of_ble_eq_true rfl) ?_
  intro p e s m below meth c A ls Q H hx hb hml hts hown hK hG hP hD hS hA hl hq
  have hts := fun w h => hts w (List.mem_cons_of_mem _ h)
  have hown : s.vm.findClass R_XSa = some m.cls := hown
  have hl : lv_has ls 4 [(0, .ref h_this), (1, .int a1), (2, .int a2)] := hl
  unfold vc_XSa_lowestJoined at hv
  refine lv_iconst (v := (0 : Int32)) hx hb d_XSa_lowestJoined_0 (by decide) ?_
  refine lv_istore_n (lv' := [(3, .int (0 : Int32)), (0, .ref h_this), (1, .int a1), (2, .int a2)]) hx hb d_XSa_lowestJoined_1 rfl hl (by decide) rfl (fun ls hl => ?_)
  obtain ⟨n_2, hv⟩ := hv
  refine vlp2_W (P := fun (y3_2 : Int32) (v_joined_2 : Nat → Int32) => wst p l e (headSpec w_XSa_lowestJoined ({ frames := 2, cells := 0, slots := 0, locals := 51 })).room s m ([.ref h_this, .int a1, .int a2] : List Value).toArray below meth c dC dI A 4 Q (wq [(h_this, .inr (3, [.ref h_measures, .int v_size, .long v_a, .long v_b, .long v_c, .ref h_joined])), (h_joined, .inl (kZ, 12, .inl v_joined_2)), (h_measures, .inl (kII, 2, .inr (.inr (.inr (.inr (gq 2 g_measures))))))] (wq (gi2 g_measures kI 12 v_measures) [])) [(0, .ref h_this), (1, .int a1), (2, .int a2), (3, .int y3_2)] 2 [] 0 0) ?_ n_2 _ _ hv _ _ _ hP hD hS (lv_sub hl [1, 2, 3, 0] rfl)
  intro R_2 hR_2 y3_2 v_joined_2 hv H locs ls hP hD hS hl
  refine lv_iload_n hx hb d_XSa_lowestJoined_2 rfl (lv_at hl 3 rfl) ?_
  refine lv_aload_n hx hb d_XSa_lowestJoined_3 rfl (lv_at hl 0 rfl) ?_
  refine va_get (D := (dC, dI)) (ci := 3) (v := .int v_size) (C := R_XSa) (T := T_XSa) (N := 6) hx hb hts i_XSa hown hK hP 0 rfl rfl 1 (by decide) (hts _ tk_140) (fun _ h9 => h9) rfl d_XSa_lowestJoined_4 ?_
  refine lv_icmp_ge (tgt := 32) hx hb d_XSa_lowestJoined_7 (by decide) (fun cd => ?_) (fun cd => ?_)
  · have hv := hv.1 cd
    refine lv_iconst (v := (0 : Int32)) hx hb d_XSa_lowestJoined_32 (by decide) ?_
    refine lv_istore_n (lv' := [(3, .int (0 : Int32)), (0, .ref h_this), (1, .int a1), (2, .int a2)]) hx hb d_XSa_lowestJoined_33 rfl hl (by decide) rfl (fun ls hl => ?_)
    obtain ⟨n_34, hv⟩ := hv
    refine vlp2_W (P := fun (y3_34 : Int32) (v_joined_34 : Nat → Int32) => wst p l e (headSpec w_XSa_lowestJoined ({ frames := 2, cells := 0, slots := 0, locals := 51 })).room s m ([.ref h_this, .int a1, .int a2] : List Value).toArray below meth c dC dI A 4 Q (wq [(h_this, .inr (3, [.ref h_measures, .int v_size, .long v_a, .long v_b, .long v_c, .ref h_joined])), (h_joined, .inl (kZ, 12, .inl v_joined_34)), (h_measures, .inl (kII, 2, .inr (.inr (.inr (.inr (gq 2 g_measures))))))] (wq (gi2 g_measures kI 12 v_measures) [])) [(0, .ref h_this), (1, .int a1), (2, .int a2), (3, .int y3_34)] 34 [] 0 0) ?_ n_34 _ _ hv _ _ _ hP hD hS (lv_sub hl [1, 2, 3, 0] rfl)
    intro R_34 hR_34 y3_34 v_joined_34 hv H locs ls hP hD hS hl
    refine lv_iload_n hx hb d_XSa_lowestJoined_34 rfl (lv_at hl 3 rfl) ?_
    refine lv_aload_n hx hb d_XSa_lowestJoined_35 rfl (lv_at hl 0 rfl) ?_
    refine va_get (D := (dC, dI)) (ci := 3) (v := .int v_size) (C := R_XSa) (T := T_XSa) (N := 6) hx hb hts i_XSa hown hK hP 0 rfl rfl 1 (by decide) (hts _ tk_140) (fun _ h9 => h9) rfl d_XSa_lowestJoined_36 ?_
    refine lv_icmp_ge (tgt := 53) hx hb d_XSa_lowestJoined_39 (by decide) (fun cd => ?_) (fun cd => ?_)
    · have hv := hv.1 cd
      refine lv_iconst (v := (0 : Int32)) hx hb d_XSa_lowestJoined_53 (by decide) ?_
      refine lv_istore_n (lv' := [(3, .int (0 : Int32)), (0, .ref h_this), (1, .int a1), (2, .int a2)]) hx hb d_XSa_lowestJoined_54 rfl hl (by decide) rfl (fun ls hl => ?_)
      obtain ⟨n_55, hv⟩ := hv
      refine vlp1_W (P := fun (y3_55 : Int32) => wst p l e (headSpec w_XSa_lowestJoined ({ frames := 2, cells := 0, slots := 0, locals := 51 })).room s m ([.ref h_this, .int a1, .int a2] : List Value).toArray below meth c dC dI A 4 Q (wq [(h_this, .inr (3, [.ref h_measures, .int v_size, .long v_a, .long v_b, .long v_c, .ref h_joined])), (h_joined, .inl (kZ, 12, .inl v_joined_34)), (h_measures, .inl (kII, 2, .inr (.inr (.inr (.inr (gq 2 g_measures))))))] (wq (gi2 g_measures kI 12 v_measures) [])) [(0, .ref h_this), (1, .int a1), (3, .int y3_55)] 55 [] 0 0) ?_ n_55 _ hv _ _ _ hP hD hS (lv_sub hl [1, 2, 0] rfl)
      intro R_55 hR_55 y3_55 hv H locs ls hP hD hS hl
      refine lv_iload_n hx hb d_XSa_lowestJoined_55 rfl (lv_at hl 2 rfl) ?_
      refine lv_iload_n hx hb d_XSa_lowestJoined_56 rfl (lv_at hl 1 rfl) ?_
      refine lv_icmp_ge (tgt := 77) hx hb d_XSa_lowestJoined_57 (by decide) (fun cd => ?_) (fun cd => ?_)
      · have hv := hv.1 cd
        refine lv_iload_n hx hb d_XSa_lowestJoined_77 rfl (lv_at hl 1 rfl) ?_
        exact hq a1 v_joined_34 _ _ _ _ hv hP hD hS d_XSa_lowestJoined_78
      have hv := hv.2 cd
      refine lv_aload_n hx hb d_XSa_lowestJoined_60 rfl (lv_at hl 0 rfl) ?_
      refine va_get (D := (dC, dI)) (ci := 3) (v := .ref h_joined) (C := R_XSa) (T := T_XSa) (N := 6) hx hb hts i_XSa hown hK hP 0 rfl rfl 5 (by decide) (hts _ tk_148) (fun _ h9 => h9) rfl d_XSa_lowestJoined_61 ?_
      refine lv_iload_n hx hb d_XSa_lowestJoined_64 rfl (lv_at hl 2 rfl) ?_
      refine va_zald hx hb hK hP 1 2 rfl rfl hv.1 d_XSa_lowestJoined_65 ?_
      have hv := hv.2
      refine lv_if_eq (tgt := 71) hx hb d_XSa_lowestJoined_66 (by decide) (fun cd => ?_) (fun cd => ?_)
      · have hv := hv.1 cd
        refine lv_iinc (v := (y3_55 + (1 : Int32))) (lv' := [(3, .int (y3_55 + (1 : Int32))), (0, .ref h_this), (1, .int a1)]) hx hb d_XSa_lowestJoined_71 hl (k := 2) rfl rfl (by decide) rfl (fun ls hl => ?_)
        refine lv_goto (tgt := 55) hx hb d_XSa_lowestJoined_74 (by decide) ?_
        exact hR_55 _ hv _ _ _ hP hD hS (lv_sub hl [1, 2, 0] rfl)
      have hv := hv.2 cd
      refine lv_iload_n hx hb d_XSa_lowestJoined_69 rfl (lv_at hl 2 rfl) ?_
      exact hq y3_55 v_joined_34 _ _ _ _ hv hP hD hS d_XSa_lowestJoined_70
    have hv := hv.2 cd
    refine lv_aload_n hx hb d_XSa_lowestJoined_42 rfl (lv_at hl 0 rfl) ?_
    refine lv_iload_n hx hb d_XSa_lowestJoined_43 rfl (lv_at hl 2 rfl) ?_
    have hPc := hP.sub (ws' := (wq [(h_this, .inr (3, [.ref h_measures, .int v_size, .long v_a, .long v_b, .long v_c, .ref h_joined])), (h_joined, .inl (kZ, 12, .inl v_joined_34)), (h_measures, .inl (kII, 2, .inr (.inr (.inr (.inr (gq 2 g_measures))))))] (wq (gi2 g_measures kI 12 v_measures) []))) [0, 1, 2, 3, 4] rfl
    have hDc := hD.sub (ws' := (wq [(h_this, .inr (3, [.ref h_measures, .int v_size, .long v_a, .long v_b, .long v_c, .ref h_joined])), (h_joined, .inl (kZ, 12, .inl v_joined_34)), (h_measures, .inl (kII, 2, .inr (.inr (.inr (.inr (gq 2 g_measures))))))] (wq (gi2 g_measures kI 12 v_measures) []))) [0, 1, 2, 3, 4] (by decide) rfl
    have hFc := va_free (wc := (wq [(h_this, .inr (3, [.ref h_measures, .int v_size, .long v_a, .long v_b, .long v_c, .ref h_joined])), (h_joined, .inl (kZ, 12, .inl v_joined_34)), (h_measures, .inl (kII, 2, .inr (.inr (.inr (.inr (gq 2 g_measures))))))] (wq (gi2 g_measures kI 12 v_measures) []))) hD hS hA [0, 1, 2, 3, 4] rfl
    refine va_callv (va_runV (As := [.int a2]) (rest := []) ⟨hx, hb, hml, hown, hts⟩ (c_XSa_joinOnce l dC dI kI kJ kZ kII kJJ h_this h_measures h_joined g_measures v_size v_a v_b v_c v_joined_34 v_measures a2 H.size _ hv) (cwV 1 hts (gV tk_552 tk_554 ts_XSa_joinOnce tk_7 tc_XSa_joinOnce) rfl rfl rfl (by decide +kernel) ⟨Nat.le_of_ble_eq_true rfl, Nat.le_of_ble_eq_true rfl⟩) ⟨px_blind g0_mv, va_recv hK hPc (ci := 3) (q0 := 0) rfl rfl, px_pre g0_mv hPc hK hDc trivial hS hFc⟩ rfl rfl hl.1 rfl (lv_room (Nat.le_of_ble_eq_true rfl)) d_XSa_lowestJoined_44 ⟨Nat.le_of_ble_eq_true rfl, Nat.le_of_ble_eq_true rfl⟩) hS (fun q _ h => hFc q h) hFc (fun u t H1 locs ht hvm hv hB hz1 hk1 hS => ?_)
    obtain ⟨v_joined_1, rfl⟩ : ∃ z, z = u := ⟨_, rfl⟩
    obtain ⟨hP, hD⟩ := cj_join (wr := []) (w1 := (wq [(h_this, .inr (3, [.ref h_measures, .int v_size, .long v_a, .long v_b, .long v_c, .ref h_joined])), (h_joined, .inl (kZ, 12, .inl v_joined_1)), (h_measures, .inl (kII, 2, .inr (.inr (.inr (.inr (gq 2 g_measures))))))] (wq (gi2 g_measures kI 12 v_measures) []))) hP hD [0, 1, 2, 3, 4] [] rfl rfl (by decide) (by decide) hk1 hFc ht hB
    generalize H1 = H at hP hS ⊢
    have hP : va_P (dC, dI) vwCl (wq [(h_this, .inr (3, [.ref h_measures, .int v_size, .long v_a, .long v_b, .long v_c, .ref h_joined])), (h_joined, .inl (kZ, 12, .inl v_joined_1)), (h_measures, .inl (kII, 2, .inr (.inr (.inr (.inr (gq 2 g_measures))))))] (wq (gi2 g_measures kI 12 v_measures) [])) H := hP.sub [0, 1, 2, 3, 4] rfl
    have hD : va_D A (wq [(h_this, .inr (3, [.ref h_measures, .int v_size, .long v_a, .long v_b, .long v_c, .ref h_joined])), (h_joined, .inl (kZ, 12, .inl v_joined_1)), (h_measures, .inl (kII, 2, .inr (.inr (.inr (.inr (gq 2 g_measures))))))] (wq (gi2 g_measures kI 12 v_measures) [])) := hD.sub [0, 1, 2, 3, 4] (by decide) rfl
    refine lv_iinc (v := (y3_34 + (1 : Int32))) (lv' := [(3, .int (y3_34 + (1 : Int32))), (0, .ref h_this), (1, .int a1), (2, .int a2)]) hx hb d_XSa_lowestJoined_47 hl (k := 3) rfl rfl (by decide) rfl (fun ls hl => ?_)
    refine lv_goto (tgt := 34) hx hb d_XSa_lowestJoined_50 (by decide) ?_
    exact hR_34 _ _ hv _ _ _ hP hD hS (lv_sub hl [1, 2, 3, 0] rfl)
  have hv := hv.2 cd
  refine lv_aload_n hx hb d_XSa_lowestJoined_10 rfl (lv_at hl 0 rfl) ?_
  refine va_get (D := (dC, dI)) (ci := 3) (v := .ref h_joined) (C := R_XSa) (T := T_XSa) (N := 6) hx hb hts i_XSa hown hK hP 0 rfl rfl 5 (by decide) (hts _ tk_148) (fun _ h9 => h9) rfl d_XSa_lowestJoined_11 ?_
  refine lv_iload_n hx hb d_XSa_lowestJoined_14 rfl (lv_at hl 3 rfl) ?_
  refine lv_iload_n hx hb d_XSa_lowestJoined_15 rfl (lv_at hl 3 rfl) ?_
  refine lv_iload_n hx hb d_XSa_lowestJoined_16 rfl (lv_at hl 1 rfl) ?_
  refine lv_icmp_ne (tgt := 24) hx hb d_XSa_lowestJoined_17 (by decide) (fun cd => ?_) (fun cd => ?_)
  · have hv := hv.1 cd
    refine lv_iconst (v := (0 : Int32)) hx hb d_XSa_lowestJoined_24 (by decide) ?_
    refine va_zast hx hb hK hP hD hS 1 2 rfl rfl hv.1 d_XSa_lowestJoined_25 (fun H locs hP hD hS => ?_)
    have hv := hv.2
    have hP : va_P (dC, dI) vwCl (wq [(h_this, .inr (3, [.ref h_measures, .int v_size, .long v_a, .long v_b, .long v_c, .ref h_joined])), (h_joined, .inl (kZ, 12, .inl (upd v_joined_2 y3_2.toNatClampNeg (vp_nar .boolean (0 : Int32))))), (h_measures, .inl (kII, 2, .inr (.inr (.inr (.inr (gq 2 g_measures))))))] (wq (gi2 g_measures kI 12 v_measures) [])) H := hP
    have hD : va_D A (wq [(h_this, .inr (3, [.ref h_measures, .int v_size, .long v_a, .long v_b, .long v_c, .ref h_joined])), (h_joined, .inl (kZ, 12, .inl (upd v_joined_2 y3_2.toNatClampNeg (vp_nar .boolean (0 : Int32))))), (h_measures, .inl (kII, 2, .inr (.inr (.inr (.inr (gq 2 g_measures))))))] (wq (gi2 g_measures kI 12 v_measures) [])) := hD
    refine lv_iinc (v := (y3_2 + (1 : Int32))) (lv' := [(3, .int (y3_2 + (1 : Int32))), (0, .ref h_this), (1, .int a1), (2, .int a2)]) hx hb d_XSa_lowestJoined_26 hl (k := 3) rfl rfl (by decide) rfl (fun ls hl => ?_)
    refine lv_goto (tgt := 2) hx hb d_XSa_lowestJoined_29 (by decide) ?_
    exact hR_2 _ _ hv _ _ _ hP hD hS (lv_sub hl [1, 2, 3, 0] rfl)
  have hv := hv.2 cd
  refine lv_iconst (v := (1 : Int32)) hx hb d_XSa_lowestJoined_20 (by decide) ?_
  refine lv_goto (tgt := 25) hx hb d_XSa_lowestJoined_21 (by decide) ?_
  refine va_zast hx hb hK hP hD hS 1 2 rfl rfl hv.1 d_XSa_lowestJoined_25 (fun H locs hP hD hS => ?_)
  have hv := hv.2
  have hP : va_P (dC, dI) vwCl (wq [(h_this, .inr (3, [.ref h_measures, .int v_size, .long v_a, .long v_b, .long v_c, .ref h_joined])), (h_joined, .inl (kZ, 12, .inl (upd v_joined_2 y3_2.toNatClampNeg (vp_nar .boolean (1 : Int32))))), (h_measures, .inl (kII, 2, .inr (.inr (.inr (.inr (gq 2 g_measures))))))] (wq (gi2 g_measures kI 12 v_measures) [])) H := hP
  have hD : va_D A (wq [(h_this, .inr (3, [.ref h_measures, .int v_size, .long v_a, .long v_b, .long v_c, .ref h_joined])), (h_joined, .inl (kZ, 12, .inl (upd v_joined_2 y3_2.toNatClampNeg (vp_nar .boolean (1 : Int32))))), (h_measures, .inl (kII, 2, .inr (.inr (.inr (.inr (gq 2 g_measures))))))] (wq (gi2 g_measures kI 12 v_measures) [])) := hD
  refine lv_iinc (v := (y3_2 + (1 : Int32))) (lv' := [(3, .int (y3_2 + (1 : Int32))), (0, .ref h_this), (1, .int a1), (2, .int a2)]) hx hb d_XSa_lowestJoined_26 hl (k := 3) rfl rfl (by decide) rfl (fun ls hl => ?_)
  refine lv_goto (tgt := 2) hx hb d_XSa_lowestJoined_29 (by decide) ?_
  exact hR_2 _ _ hv _ _ _ hP hD hS (lv_sub hl [1, 2, 3, 0] rfl)
