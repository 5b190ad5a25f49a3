def vc_XSp_lowerOnce (post : (Nat → Int32) → (Nat → Int32) → Prop) (N : Nat) (v_channels : Int32) (v_ground : Nat → Int32) (v_former : Nat → Int32) (a1 : Int32) : Prop :=
  (¬ (0 : Int32) < 0 ∧ ¬ (0 : Int32) < 0 ∧ ¬ v_channels < 0 ∧ (0 : Int32).toNatClampNeg + v_channels.toNatClampNeg ≤ N ∧ (0 : Int32).toNatClampNeg + v_channels.toNatClampNeg ≤ N ∧ (∃ n, vlp2 (fun (R_19 : Int32 → (Nat → Int32) → Prop) (y2_19 : Int32) (v_ground_19 : Nat → Int32) => ((v_channels ≤ (y2_19 + a1) → post v_ground_19 (va_cpy v_ground v_former (0 : Int32).toNatClampNeg (0 : Int32).toNatClampNeg v_channels.toNatClampNeg)) ∧ (¬ v_channels ≤ (y2_19 + a1) → (vp_in (y2_19 - a1) N ∧ (vp_in (y2_19 + a1) N ∧ (¬ (2 : Int32) = 0 ∧ (∀ x3_1 : Int32, x3_1 = ((((va_cpy v_ground v_former (0 : Int32).toNatClampNeg (0 : Int32).toNatClampNeg v_channels.toNatClampNeg) ((y2_19 - a1).toNatClampNeg)) + ((va_cpy v_ground v_former (0 : Int32).toNatClampNeg (0 : Int32).toNatClampNeg v_channels.toNatClampNeg) ((y2_19 + a1).toNatClampNeg))) / (2 : Int32)) → (vp_in y2_19 N ∧ (vp_in y2_19 N ∧ R_19 (y2_19 + (1 : Int32)) (upd v_ground_19 y2_19.toNatClampNeg (if x3_1 < ((va_cpy v_ground v_former (0 : Int32).toNatClampNeg (0 : Int32).toNatClampNeg v_channels.toNatClampNeg) y2_19.toNatClampNeg) then x3_1 else ((va_cpy v_ground v_former (0 : Int32).toNatClampNeg (0 : Int32).toNatClampNeg v_channels.toNatClampNeg) y2_19.toNatClampNeg)))))))))))) n a1 v_ground))
def vc_XSp_lowerFor (post : (Nat → Int32) → (Nat → Int32) → Prop) (N : Nat) (v_channels : Int32) (v_counts : Nat → Int32) (v_ground : Nat → Int32) (v_former : Nat → Int32) (a1 : Int32) : Prop :=
  (¬ (0 : Int32) < 0 ∧ ¬ (0 : Int32) < 0 ∧ ¬ v_channels < 0 ∧ (0 : Int32).toNatClampNeg + v_channels.toNatClampNeg ≤ N ∧ (0 : Int32).toNatClampNeg + v_channels.toNatClampNeg ≤ N ∧ (∃ n, vlp3 (fun (R_19 : Int32 → (Nat → Int32) → (Nat → Int32) → Prop) (y2_19 : Int32) (v_ground_19 : Nat → Int32) (v_former_19 : Nat → Int32) => ((a1 < y2_19 → post v_ground_19 v_former_19) ∧ (¬ a1 < y2_19 → vc_XSp_lowerOnce (fun (v_ground_1 : Nat → Int32) (v_former_2 : Nat → Int32) => R_19 (y2_19 + (1 : Int32)) v_ground_1 v_former_2) N v_channels v_ground_19 v_former_19 y2_19))) n (1 : Int32) (va_cpy v_counts v_ground (0 : Int32).toNatClampNeg (0 : Int32).toNatClampNeg v_channels.toNatClampNeg) v_former))
def vc_XSp_groundSum (post : Int32 → Prop) (N : Nat) (v_channels : Int32) (v_ground : Nat → Int32) : Prop :=
  (∃ n, vlp2 (fun (R_4 : Int32 → Int32 → Prop) (y1_4 : Int32) (y2_4 : Int32) => ((v_channels ≤ y2_4 → post y1_4) ∧ (¬ v_channels ≤ y2_4 → (vp_in y2_4 N ∧ (∀ x1_1 : Int32, x1_1 = (y1_4 + (v_ground y2_4.toNatClampNeg)) → R_4 x1_1 (y2_4 + (1 : Int32))))))) n (0 : Int32) (0 : Int32))
def vc_XSp_netAt (post : Int32 → Prop) (N : Nat) (v_counts : Nat → Int32) (v_ground : Nat → Int32) (a1 : Int32) : Prop :=
  (vp_in a1 N ∧ (vp_in a1 N ∧ post (if (0 : Int32) < ((v_counts a1.toNatClampNeg) - (v_ground a1.toNatClampNeg)) then ((v_counts a1.toNatClampNeg) - (v_ground a1.toNatClampNeg)) else (0 : Int32))))
set_option maxRecDepth 100000 in
set_option maxHeartbeats 4000000 in
/-- SpectrumParts$Spectrum.lowerOnce -/
theorem c_XSp_lowerOnce (l : Launch) (dC : Nat → ClassId) (dI : Nat → Nat → Nat) (kI kJ kZ kII kJJ : ClassId) (N : Nat) (h_this : Nat) (h_counts : Nat) (h_ground : Nat) (h_former : Nat) (v_channels : Int32) (v_ground : Nat → Int32) (v_former : Nat → Int32) (a1 : Int32) (sz : Nat) (post : (Nat → Int32) → (Nat → Int32) → Prop) (hv : vc_XSp_lowerOnce post N v_channels v_ground v_former a1) :
    Met l y_XSp_lowerOnce w_XSp_lowerOnce ({ frames := 1, cells := 0, slots := 0, locals := 60 }) (va_Pc [.ref h_this, .int a1] (px_B g0 (dC, dI) vwCl (tysv kI kJ kZ kII kJJ) [(h_this, .inr (4, [.int v_channels, .ref h_counts, .ref h_ground, .ref h_former])), (h_ground, .inl (kI, N, .inl v_ground)), (h_former, .inl (kI, N, .inl v_former))] sz))
      (va_Qv (fun (u : (Nat → Int32) × (Nat → Int32)) => post u.1 u.2) (fun (u : (Nat → Int32) × (Nat → Int32)) => ax_B (va_A [(h_this, .inr (4, [.int v_channels, .ref h_counts, .ref h_ground, .ref h_former])), (h_ground, .inl (kI, N, .inl v_ground)), (h_former, .inl (kI, N, .inl v_former))] sz) (dC, dI) vwCl (tysv kI kJ kZ kII kJJ) [(h_this, .inr (4, [.int v_channels, .ref h_counts, .ref h_ground, .ref h_former])), (h_ground, .inl (kI, N, .inl u.1)), (h_former, .inl (kI, N, .inl u.2))]) (va_A [(h_this, .inr (4, [.int v_channels, .ref h_counts, .ref h_ground, .ref h_former])), (h_ground, .inl (kI, N, .inl v_ground)), (h_former, .inl (kI, N, .inl v_former))] sz)) 0 0 (va_A [(h_this, .inr (4, [.int v_channels, .ref h_counts, .ref h_ground, .ref h_former])), (h_ground, .inl (kI, N, .inl v_ground)), (h_former, .inl (kI, N, .inl v_former))] sz) := by
  refine pxv (cc := b_XSp_lowerOnce) (maxL := 4) (wd := fun (u : (Nat → Int32) × (Nat → Int32)) => [(h_this, .inr (4, [.int v_channels, .ref h_counts, .ref h_ground, .ref h_former])), (h_ground, .inl (kI, N, .inl u.1)), (h_former, .inl (kI, N, .inl u.2))]) (by decide +kernel) rfl (Nat.le_of_ble_eq_true rfl) ?_
  intro p e s m below meth c A ls Q H hx hb hml hts hown hK hG hP hD hS hA hl hq
  have hts := fun w h => hts w (List.mem_cons_of_mem _ h)
  have hown : s.vm.findClass R_XSp = some m.cls := hown
  have hl : lv_has ls 4 [(0, .ref h_this), (1, .int a1)] := hl
  unfold vc_XSp_lowerOnce at hv
  refine lv_aload_n hx hb d_XSp_lowerOnce_0 rfl (lv_at hl 0 rfl) ?_
  refine va_get (D := (dC, dI)) (ci := 4) (v := .ref h_ground) (C := R_XSp) (T := T_XSp) (N := 4) hx hb hts i_XSp hown hK hP 0 rfl rfl 2 (by decide) (hts _ tk_43) (fun _ h9 => h9) rfl d_XSp_lowerOnce_1 ?_
  refine lv_iconst (v := (0 : Int32)) hx hb d_XSp_lowerOnce_4 (by decide) ?_
  refine lv_aload_n hx hb d_XSp_lowerOnce_5 rfl (lv_at hl 0 rfl) ?_
  refine va_get (D := (dC, dI)) (ci := 4) (v := .ref h_former) (C := R_XSp) (T := T_XSp) (N := 4) hx hb hts i_XSp hown hK hP 0 rfl rfl 3 (by decide) (hts _ tk_45) (fun _ h9 => h9) rfl d_XSp_lowerOnce_6 ?_
  refine lv_iconst (v := (0 : Int32)) hx hb d_XSp_lowerOnce_9 (by decide) ?_
  refine lv_aload_n hx hb d_XSp_lowerOnce_10 rfl (lv_at hl 0 rfl) ?_
  refine va_get (D := (dC, dI)) (ci := 4) (v := .int v_channels) (C := R_XSp) (T := T_XSp) (N := 4) hx hb hts i_XSp hown hK hP 0 rfl rfl 0 (by decide) (hts _ tk_37) (fun _ h9 => h9) rfl d_XSp_lowerOnce_11 ?_
  refine va_copyi hx hb (hml.trans hl.1.symm) hown (hts _ tk_358) (hts _ tk_360) (hts _ tk_359) (hts _ tk_15) hK hP hD hS 1 2 0 0 rfl rfl rfl rfl rfl hv.1 hv.2.1 hv.2.2.1 hv.2.2.2.1 hv.2.2.2.2.1 (fun _ _ => rfl) (Nat.le_of_ble_eq_true rfl) (by decide +kernel) d_XSp_lowerOnce_14 (fun H locs hP hD hS => ?_)
  have hv := hv.2.2.2.2.2
  have hP : va_P (dC, dI) vwCl [(h_this, .inr (4, [.int v_channels, .ref h_counts, .ref h_ground, .ref h_former])), (h_ground, .inl (kI, N, .inl v_ground)), (h_former, .inl (kI, N, .inl (va_cpy v_ground v_former (0 : Int32).toNatClampNeg (0 : Int32).toNatClampNeg v_channels.toNatClampNeg)))] H := hP
  have hD : va_D A [(h_this, .inr (4, [.int v_channels, .ref h_counts, .ref h_ground, .ref h_former])), (h_ground, .inl (kI, N, .inl v_ground)), (h_former, .inl (kI, N, .inl (va_cpy v_ground v_former (0 : Int32).toNatClampNeg (0 : Int32).toNatClampNeg v_channels.toNatClampNeg)))] := hD
  refine lv_iload_n hx hb d_XSp_lowerOnce_17 rfl (lv_at hl 1 rfl) ?_
  refine lv_istore_n (lv' := [(2, .int a1), (0, .ref h_this), (1, .int a1)]) hx hb d_XSp_lowerOnce_18 rfl hl (by decide) rfl (fun ls hl => ?_)
  obtain ⟨n_19, hv⟩ := hv
  refine vlp2_W (P := fun (y2_19 : Int32) (v_ground_19 : Nat → Int32) => wst p l e (headSpec w_XSp_lowerOnce ({ frames := 1, cells := 0, slots := 0, locals := 60 })).room s m ([.ref h_this, .int a1] : List Value).toArray below meth c dC dI A 4 Q [(h_this, .inr (4, [.int v_channels, .ref h_counts, .ref h_ground, .ref h_former])), (h_ground, .inl (kI, N, .inl v_ground_19)), (h_former, .inl (kI, N, .inl (va_cpy v_ground v_former (0 : Int32).toNatClampNeg (0 : Int32).toNatClampNeg v_channels.toNatClampNeg)))] [(0, .ref h_this), (1, .int a1), (2, .int y2_19)] 19 [] 0 0) ?_ n_19 _ _ hv _ _ _ hP hD hS (lv_sub hl [1, 2, 0] rfl)
  intro R_19 hR_19 y2_19 v_ground_19 hv H locs ls hP hD hS hl
  refine lv_iload_n hx hb d_XSp_lowerOnce_19 rfl (lv_at hl 2 rfl) ?_
  refine lv_iload_n hx hb d_XSp_lowerOnce_20 rfl (lv_at hl 1 rfl) ?_
  refine lv_iadd hx hb d_XSp_lowerOnce_21 ?_
  refine lv_aload_n hx hb d_XSp_lowerOnce_22 rfl (lv_at hl 0 rfl) ?_
  refine va_get (D := (dC, dI)) (ci := 4) (v := .int v_channels) (C := R_XSp) (T := T_XSp) (N := 4) hx hb hts i_XSp hown hK hP 0 rfl rfl 0 (by decide) (hts _ tk_37) (fun _ h9 => h9) rfl d_XSp_lowerOnce_23 ?_
  refine lv_icmp_ge (tgt := 71) hx hb d_XSp_lowerOnce_26 (by decide) (fun cd => ?_) (fun cd => ?_)
  · have hv := hv.1 cd
    exact hq (v_ground_19, (va_cpy v_ground v_former (0 : Int32).toNatClampNeg (0 : Int32).toNatClampNeg v_channels.toNatClampNeg)) _ _ _ _ hv hP hD hS d_XSp_lowerOnce_71
  have hv := hv.2 cd
  refine lv_aload_n hx hb d_XSp_lowerOnce_29 rfl (lv_at hl 0 rfl) ?_
  refine va_get (D := (dC, dI)) (ci := 4) (v := .ref h_former) (C := R_XSp) (T := T_XSp) (N := 4) hx hb hts i_XSp hown hK hP 0 rfl rfl 3 (by decide) (hts _ tk_45) (fun _ h9 => h9) rfl d_XSp_lowerOnce_30 ?_
  refine lv_iload_n hx hb d_XSp_lowerOnce_33 rfl (lv_at hl 2 rfl) ?_
  refine lv_iload_n hx hb d_XSp_lowerOnce_34 rfl (lv_at hl 1 rfl) ?_
  refine lv_isub hx hb d_XSp_lowerOnce_35 ?_
  refine va_iald hx hb hK hP 2 0 rfl rfl hv.1 d_XSp_lowerOnce_36 ?_
  have hv := hv.2
  refine lv_aload_n hx hb d_XSp_lowerOnce_37 rfl (lv_at hl 0 rfl) ?_
  refine va_get (D := (dC, dI)) (ci := 4) (v := .ref h_former) (C := R_XSp) (T := T_XSp) (N := 4) hx hb hts i_XSp hown hK hP 0 rfl rfl 3 (by decide) (hts _ tk_45) (fun _ h9 => h9) rfl d_XSp_lowerOnce_38 ?_
  refine lv_iload_n hx hb d_XSp_lowerOnce_41 rfl (lv_at hl 2 rfl) ?_
  refine lv_iload_n hx hb d_XSp_lowerOnce_42 rfl (lv_at hl 1 rfl) ?_
  refine lv_iadd hx hb d_XSp_lowerOnce_43 ?_
  refine va_iald hx hb hK hP 2 0 rfl rfl hv.1 d_XSp_lowerOnce_44 ?_
  have hv := hv.2
  refine lv_iadd hx hb d_XSp_lowerOnce_45 ?_
  refine lv_iconst (v := (2 : Int32)) hx hb d_XSp_lowerOnce_46 (by decide) ?_
  refine lv_idiv hx hb d_XSp_lowerOnce_47 hv.1 ?_
  have hv := hv.2
  refine lv_topi (fun x3_1 e_x3_1 => ?_)
  have hv := hv x3_1 e_x3_1
  refine lv_istore_n (lv' := [(3, .int x3_1), (0, .ref h_this), (1, .int a1), (2, .int y2_19)]) hx hb d_XSp_lowerOnce_48 rfl hl (by decide) rfl (fun ls hl => ?_)
  refine lv_aload_n hx hb d_XSp_lowerOnce_49 rfl (lv_at hl 1 rfl) ?_
  refine va_get (D := (dC, dI)) (ci := 4) (v := .ref h_ground) (C := R_XSp) (T := T_XSp) (N := 4) hx hb hts i_XSp hown hK hP 0 rfl rfl 2 (by decide) (hts _ tk_43) (fun _ h9 => h9) rfl d_XSp_lowerOnce_50 ?_
  refine lv_iload_n hx hb d_XSp_lowerOnce_53 rfl (lv_at hl 3 rfl) ?_
  refine lv_aload_n hx hb d_XSp_lowerOnce_54 rfl (lv_at hl 1 rfl) ?_
  refine va_get (D := (dC, dI)) (ci := 4) (v := .ref h_former) (C := R_XSp) (T := T_XSp) (N := 4) hx hb hts i_XSp hown hK hP 0 rfl rfl 3 (by decide) (hts _ tk_45) (fun _ h9 => h9) rfl d_XSp_lowerOnce_55 ?_
  refine lv_iload_n hx hb d_XSp_lowerOnce_58 rfl (lv_at hl 3 rfl) ?_
  refine va_iald hx hb hK hP 2 0 rfl rfl hv.1 d_XSp_lowerOnce_59 ?_
  have hv := hv.2
  refine lv_iload_n hx hb d_XSp_lowerOnce_60 rfl (lv_at hl 0 rfl) ?_
  refine va_mmin hx hb (hml.trans hl.1.symm) hown (hts _ tk_365) (hts _ tk_26) (hts _ tk_2) (hts _ tk_27) (Nat.le_of_ble_eq_true rfl) (Nat.le_of_ble_eq_true rfl) (Nat.le_of_ble_eq_true rfl) (Nat.le_of_ble_eq_true rfl) d_XSp_lowerOnce_61 ?_
  refine va_iast hx hb hK hP hD hS 1 0 rfl rfl hv.1 d_XSp_lowerOnce_64 (fun H locs hP hD hS => ?_)
  have hv := hv.2
  have hP : va_P (dC, dI) vwCl [(h_this, .inr (4, [.int v_channels, .ref h_counts, .ref h_ground, .ref h_former])), (h_ground, .inl (kI, N, .inl (upd v_ground_19 y2_19.toNatClampNeg (if x3_1 < ((va_cpy v_ground v_former (0 : Int32).toNatClampNeg (0 : Int32).toNatClampNeg v_channels.toNatClampNeg) y2_19.toNatClampNeg) then x3_1 else ((va_cpy v_ground v_former (0 : Int32).toNatClampNeg (0 : Int32).toNatClampNeg v_channels.toNatClampNeg) y2_19.toNatClampNeg))))), (h_former, .inl (kI, N, .inl (va_cpy v_ground v_former (0 : Int32).toNatClampNeg (0 : Int32).toNatClampNeg v_channels.toNatClampNeg)))] H := hP
  have hD : va_D A [(h_this, .inr (4, [.int v_channels, .ref h_counts, .ref h_ground, .ref h_former])), (h_ground, .inl (kI, N, .inl (upd v_ground_19 y2_19.toNatClampNeg (if x3_1 < ((va_cpy v_ground v_former (0 : Int32).toNatClampNeg (0 : Int32).toNatClampNeg v_channels.toNatClampNeg) y2_19.toNatClampNeg) then x3_1 else ((va_cpy v_ground v_former (0 : Int32).toNatClampNeg (0 : Int32).toNatClampNeg v_channels.toNatClampNeg) y2_19.toNatClampNeg))))), (h_former, .inl (kI, N, .inl (va_cpy v_ground v_former (0 : Int32).toNatClampNeg (0 : Int32).toNatClampNeg v_channels.toNatClampNeg)))] := hD
  refine lv_iinc (v := (y2_19 + (1 : Int32))) (lv' := [(2, .int (y2_19 + (1 : Int32))), (3, .int x3_1), (0, .ref h_this), (1, .int a1)]) hx hb d_XSp_lowerOnce_65 hl (k := 3) rfl rfl (by decide) rfl (fun ls hl => ?_)
  refine lv_goto (tgt := 19) hx hb d_XSp_lowerOnce_68 (by decide) ?_
  exact hR_19 _ _ hv _ _ _ hP hD hS (lv_sub hl [2, 3, 0] rfl)
set_option maxRecDepth 100000 in
set_option maxHeartbeats 4000000 in
/-- SpectrumParts$Spectrum.lowerFor -/
theorem c_XSp_lowerFor (l : Launch) (dC : Nat → ClassId) (dI : Nat → Nat → Nat) (kI kJ kZ kII kJJ : ClassId) (N : Nat) (h_this : Nat) (h_counts : Nat) (h_ground : Nat) (h_former : Nat) (v_channels : Int32) (v_counts : Nat → Int32) (v_ground : Nat → Int32) (v_former : Nat → Int32) (a1 : Int32) (sz : Nat) (post : (Nat → Int32) → (Nat → Int32) → Prop) (hv : vc_XSp_lowerFor post N v_channels v_counts v_ground v_former a1) :
    Met l y_XSp_lowerFor w_XSp_lowerFor ({ frames := 2, cells := 0, slots := 0, locals := 83 }) (va_Pc [.ref h_this, .int a1] (px_B g0 (dC, dI) vwCl (tysv kI kJ kZ kII kJJ) [(h_this, .inr (4, [.int v_channels, .ref h_counts, .ref h_ground, .ref h_former])), (h_counts, .inl (kI, N, .inl v_counts)), (h_ground, .inl (kI, N, .inl v_ground)), (h_former, .inl (kI, N, .inl v_former))] sz))
      (va_Qv (fun (u : (Nat → Int32) × (Nat → Int32)) => post u.1 u.2) (fun (u : (Nat → Int32) × (Nat → Int32)) => ax_B (va_A [(h_this, .inr (4, [.int v_channels, .ref h_counts, .ref h_ground, .ref h_former])), (h_counts, .inl (kI, N, .inl v_counts)), (h_ground, .inl (kI, N, .inl v_ground)), (h_former, .inl (kI, N, .inl v_former))] sz) (dC, dI) vwCl (tysv kI kJ kZ kII kJJ) [(h_this, .inr (4, [.int v_channels, .ref h_counts, .ref h_ground, .ref h_former])), (h_counts, .inl (kI, N, .inl v_counts)), (h_ground, .inl (kI, N, .inl u.1)), (h_former, .inl (kI, N, .inl u.2))]) (va_A [(h_this, .inr (4, [.int v_channels, .ref h_counts, .ref h_ground, .ref h_former])), (h_counts, .inl (kI, N, .inl v_counts)), (h_ground, .inl (kI, N, .inl v_ground)), (h_former, .inl (kI, N, .inl v_former))] sz)) 0 0 (va_A [(h_this, .inr (4, [.int v_channels, .ref h_counts, .ref h_ground, .ref h_former])), (h_counts, .inl (kI, N, .inl v_counts)), (h_ground, .inl (kI, N, .inl v_ground)), (h_former, .inl (kI, N, .inl v_former))] sz) := by
  refine pxv (cc := b_XSp_lowerFor) (maxL := 3) (wd := fun (u : (Nat → Int32) × (Nat → Int32)) => [(h_this, .inr (4, [.int v_channels, .ref h_counts, .ref h_ground, .ref h_former])), (h_counts, .inl (kI, N, .inl v_counts)), (h_ground, .inl (kI, N, .inl u.1)), (h_former, .inl (kI, N, .inl u.2))]) (by decide +kernel) rfl (Nat.le_of_ble_eq_true rfl) ?_
  intro p e s m below meth c A ls Q H hx hb hml hts hown hK hG hP hD hS hA hl hq
  have hts := fun w h => hts w (List.mem_cons_of_mem _ h)
  have hown : s.vm.findClass R_XSp = some m.cls := hown
  have hl : lv_has ls 3 [(0, .ref h_this), (1, .int a1)] := hl
  unfold vc_XSp_lowerFor at hv
  refine lv_aload_n hx hb d_XSp_lowerFor_0 rfl (lv_at hl 0 rfl) ?_
  refine va_get (D := (dC, dI)) (ci := 4) (v := .ref h_counts) (C := R_XSp) (T := T_XSp) (N := 4) hx hb hts i_XSp hown hK hP 0 rfl rfl 1 (by decide) (hts _ tk_41) (fun _ h9 => h9) rfl d_XSp_lowerFor_1 ?_
  refine lv_iconst (v := (0 : Int32)) hx hb d_XSp_lowerFor_4 (by decide) ?_
  refine lv_aload_n hx hb d_XSp_lowerFor_5 rfl (lv_at hl 0 rfl) ?_
  refine va_get (D := (dC, dI)) (ci := 4) (v := .ref h_ground) (C := R_XSp) (T := T_XSp) (N := 4) hx hb hts i_XSp hown hK hP 0 rfl rfl 2 (by decide) (hts _ tk_43) (fun _ h9 => h9) rfl d_XSp_lowerFor_6 ?_
  refine lv_iconst (v := (0 : Int32)) hx hb d_XSp_lowerFor_9 (by decide) ?_
  refine lv_aload_n hx hb d_XSp_lowerFor_10 rfl (lv_at hl 0 rfl) ?_
  refine va_get (D := (dC, dI)) (ci := 4) (v := .int v_channels) (C := R_XSp) (T := T_XSp) (N := 4) hx hb hts i_XSp hown hK hP 0 rfl rfl 0 (by decide) (hts _ tk_37) (fun _ h9 => h9) rfl d_XSp_lowerFor_11 ?_
  refine va_copyi hx hb (hml.trans hl.1.symm) hown (hts _ tk_358) (hts _ tk_360) (hts _ tk_359) (hts _ tk_15) hK hP hD hS 1 2 0 0 rfl rfl rfl rfl rfl hv.1 hv.2.1 hv.2.2.1 hv.2.2.2.1 hv.2.2.2.2.1 (fun _ _ => rfl) (Nat.le_of_ble_eq_true rfl) (by decide +kernel) d_XSp_lowerFor_14 (fun H locs hP hD hS => ?_)
  have hv := hv.2.2.2.2.2
  have hP : va_P (dC, dI) vwCl [(h_this, .inr (4, [.int v_channels, .ref h_counts, .ref h_ground, .ref h_former])), (h_counts, .inl (kI, N, .inl v_counts)), (h_ground, .inl (kI, N, .inl (va_cpy v_counts v_ground (0 : Int32).toNatClampNeg (0 : Int32).toNatClampNeg v_channels.toNatClampNeg))), (h_former, .inl (kI, N, .inl v_former))] H := hP
  have hD : va_D A [(h_this, .inr (4, [.int v_channels, .ref h_counts, .ref h_ground, .ref h_former])), (h_counts, .inl (kI, N, .inl v_counts)), (h_ground, .inl (kI, N, .inl (va_cpy v_counts v_ground (0 : Int32).toNatClampNeg (0 : Int32).toNatClampNeg v_channels.toNatClampNeg))), (h_former, .inl (kI, N, .inl v_former))] := hD
  refine lv_iconst (v := (1 : Int32)) hx hb d_XSp_lowerFor_17 (by decide) ?_
  refine lv_istore_n (lv' := [(2, .int (1 : Int32)), (0, .ref h_this), (1, .int a1)]) hx hb d_XSp_lowerFor_18 rfl hl (by decide) rfl (fun ls hl => ?_)
  obtain ⟨n_19, hv⟩ := hv
  refine vlp3_W (P := fun (y2_19 : Int32) (v_ground_19 : Nat → Int32) (v_former_19 : Nat → Int32) => wst p l e (headSpec w_XSp_lowerFor ({ frames := 2, cells := 0, slots := 0, locals := 83 })).room s m ([.ref h_this, .int a1] : List Value).toArray below meth c dC dI A 3 Q [(h_this, .inr (4, [.int v_channels, .ref h_counts, .ref h_ground, .ref h_former])), (h_counts, .inl (kI, N, .inl v_counts)), (h_ground, .inl (kI, N, .inl v_ground_19)), (h_former, .inl (kI, N, .inl v_former_19))] [(0, .ref h_this), (1, .int a1), (2, .int y2_19)] 19 [] 0 0) ?_ n_19 _ _ _ hv _ _ _ hP hD hS (lv_sub hl [1, 2, 0] rfl)
  intro R_19 hR_19 y2_19 v_ground_19 v_former_19 hv H locs ls hP hD hS hl
  refine lv_iload_n hx hb d_XSp_lowerFor_19 rfl (lv_at hl 2 rfl) ?_
  refine lv_iload_n hx hb d_XSp_lowerFor_20 rfl (lv_at hl 1 rfl) ?_
  refine lv_icmp_gt (tgt := 35) hx hb d_XSp_lowerFor_21 (by decide) (fun cd => ?_) (fun cd => ?_)
  · have hv := hv.1 cd
    exact hq (v_ground_19, v_former_19) _ _ _ _ hv hP hD hS d_XSp_lowerFor_35
  have hv := hv.2 cd
  refine lv_aload_n hx hb d_XSp_lowerFor_24 rfl (lv_at hl 0 rfl) ?_
  refine lv_iload_n hx hb d_XSp_lowerFor_25 rfl (lv_at hl 2 rfl) ?_
  have hPc := hP.sub (ws' := [(h_this, .inr (4, [.int v_channels, .ref h_counts, .ref h_ground, .ref h_former])), (h_ground, .inl (kI, N, .inl v_ground_19)), (h_former, .inl (kI, N, .inl v_former_19))]) [0, 2, 3] rfl
  have hDc := hD.sub (ws' := [(h_this, .inr (4, [.int v_channels, .ref h_counts, .ref h_ground, .ref h_former])), (h_ground, .inl (kI, N, .inl v_ground_19)), (h_former, .inl (kI, N, .inl v_former_19))]) [0, 2, 3] (by decide) rfl
  have hFc := va_free (wc := [(h_this, .inr (4, [.int v_channels, .ref h_counts, .ref h_ground, .ref h_former])), (h_ground, .inl (kI, N, .inl v_ground_19)), (h_former, .inl (kI, N, .inl v_former_19))]) hD hS hA [0, 2, 3] rfl
  refine va_callv (va_runV (As := [.int y2_19]) (rest := []) ⟨hx, hb, hml, hown, hts⟩ (c_XSp_lowerOnce l dC dI kI kJ kZ kII kJJ N h_this h_counts h_ground h_former v_channels v_ground_19 v_former_19 y2_19 H.size _ hv) (cwV 1 hts (gV tk_361 tk_363 ts_XSp_lowerOnce tk_3 tc_XSp_lowerOnce) rfl rfl rfl (by decide +kernel) ⟨Nat.le_of_ble_eq_true rfl, Nat.le_of_ble_eq_true rfl⟩) ⟨px_blind g0_mv, va_recv hK hPc (ci := 4) (q0 := 0) rfl rfl, px_pre g0_mv hPc hK hDc trivial hS hFc⟩ rfl rfl hl.1 rfl (lv_room (Nat.le_of_ble_eq_true rfl)) d_XSp_lowerFor_26 ⟨Nat.le_of_ble_eq_true rfl, Nat.le_of_ble_eq_true rfl⟩) hS (fun q _ h => hFc q h) hFc (fun u t H1 locs ht hvm hv hB hz1 hk1 hS => ?_)
  obtain ⟨v_ground_1, v_former_2⟩ := u
  obtain ⟨hP, hD⟩ := cj_join (wr := [(h_counts, .inl (kI, N, .inl v_counts))]) (w1 := [(h_this, .inr (4, [.int v_channels, .ref h_counts, .ref h_ground, .ref h_former])), (h_ground, .inl (kI, N, .inl v_ground_1)), (h_former, .inl (kI, N, .inl v_former_2))]) hP hD [0, 2, 3] [1] rfl rfl (by decide) (by decide) hk1 hFc ht hB
  generalize H1 = H at hP hS ⊢
  have hP : va_P (dC, dI) vwCl [(h_this, .inr (4, [.int v_channels, .ref h_counts, .ref h_ground, .ref h_former])), (h_counts, .inl (kI, N, .inl v_counts)), (h_ground, .inl (kI, N, .inl v_ground_1)), (h_former, .inl (kI, N, .inl v_former_2))] H := hP.sub [1, 0, 2, 3] rfl
  have hD : va_D A [(h_this, .inr (4, [.int v_channels, .ref h_counts, .ref h_ground, .ref h_former])), (h_counts, .inl (kI, N, .inl v_counts)), (h_ground, .inl (kI, N, .inl v_ground_1)), (h_former, .inl (kI, N, .inl v_former_2))] := hD.sub [1, 0, 2, 3] (by decide) rfl
  refine lv_iinc (v := (y2_19 + (1 : Int32))) (lv' := [(2, .int (y2_19 + (1 : Int32))), (0, .ref h_this), (1, .int a1)]) hx hb d_XSp_lowerFor_29 hl (k := 2) rfl rfl (by decide) rfl (fun ls hl => ?_)
  refine lv_goto (tgt := 19) hx hb d_XSp_lowerFor_32 (by decide) ?_
  exact hR_19 _ _ _ hv _ _ _ hP hD hS (lv_sub hl [1, 2, 0] rfl)
set_option maxRecDepth 100000 in
set_option maxHeartbeats 4000000 in
/-- SpectrumParts$Spectrum.groundSum -/
theorem c_XSp_groundSum (l : Launch) (dC : Nat → ClassId) (dI : Nat → Nat → Nat) (kI kJ kZ kII kJJ : ClassId) (N : Nat) (h_this : Nat) (h_counts : Nat) (h_ground : Nat) (h_former : Nat) (v_channels : Int32) (v_ground : Nat → Int32) (sz : Nat) (post : Int32 → Prop) (hv : vc_XSp_groundSum post N v_channels v_ground) :
    Met l y_XSp_groundSum w_XSp_groundSum ({ frames := 0, cells := 0, slots := 0, locals := 0 }) (va_Pc [.ref h_this] (px_B g0 (dC, dI) vwCl (tysv kI kJ kZ kII kJJ) [(h_this, .inr (4, [.int v_channels, .ref h_counts, .ref h_ground, .ref h_former])), (h_ground, .inl (kI, N, .inl v_ground))] sz))
      (va_Qi (fun (r : Int32) (u : Unit) => post r) (fun (u : Unit) => ax_B (va_A [(h_this, .inr (4, [.int v_channels, .ref h_counts, .ref h_ground, .ref h_former])), (h_ground, .inl (kI, N, .inl v_ground))] sz) (dC, dI) vwCl (tysv kI kJ kZ kII kJJ) [(h_this, .inr (4, [.int v_channels, .ref h_counts, .ref h_ground, .ref h_former])), (h_ground, .inl (kI, N, .inl v_ground))]) (va_A [(h_this, .inr (4, [.int v_channels, .ref h_counts, .ref h_ground, .ref h_former])), (h_ground, .inl (kI, N, .inl v_ground))] sz)) 0 0 (va_A [(h_this, .inr (4, [.int v_channels, .ref h_counts, .ref h_ground, .ref h_former])), (h_ground, .inl (kI, N, .inl v_ground))] sz) := by
  refine pxi (cc := b_XSp_groundSum) (maxL := 3) (wd := fun (u : Unit) => [(h_this, .inr (4, [.int v_channels, .ref h_counts, .ref h_ground, .ref h_former])), (h_ground, .inl (kI, N, .inl v_ground))]) (by decide +kernel) rfl (Nat.le_of_ble_eq_true rfl) ?_
  intro p e s m below meth c A ls Q H hx hb hml hts hown hK hG hP hD hS hA hl hq
  have hts := fun w h => hts w (List.mem_cons_of_mem _ h)
  have hown : s.vm.findClass R_XSp = some m.cls := hown
  have hl : lv_has ls 3 [(0, .ref h_this)] := hl
  unfold vc_XSp_groundSum at hv
  refine lv_iconst (v := (0 : Int32)) hx hb d_XSp_groundSum_0 (by decide) ?_
  refine lv_istore_n (lv' := [(1, .int (0 : Int32)), (0, .ref h_this)]) hx hb d_XSp_groundSum_1 rfl hl (by decide) rfl (fun ls hl => ?_)
  refine lv_iconst (v := (0 : Int32)) hx hb d_XSp_groundSum_2 (by decide) ?_
  refine lv_istore_n (lv' := [(2, .int (0 : Int32)), (1, .int (0 : Int32)), (0, .ref h_this)]) hx hb d_XSp_groundSum_3 rfl hl (by decide) rfl (fun ls hl => ?_)
  obtain ⟨n_4, hv⟩ := hv
  refine vlp2_W (P := fun (y1_4 : Int32) (y2_4 : Int32) => wst p l e (headSpec w_XSp_groundSum ({ frames := 0, cells := 0, slots := 0, locals := 0 })).room s m ([.ref h_this] : List Value).toArray below meth c dC dI A 3 Q [(h_this, .inr (4, [.int v_channels, .ref h_counts, .ref h_ground, .ref h_former])), (h_ground, .inl (kI, N, .inl v_ground))] [(0, .ref h_this), (1, .int y1_4), (2, .int y2_4)] 4 [] 0 0) ?_ n_4 _ _ hv _ _ _ hP hD hS (lv_sub hl [2, 1, 0] rfl)
  intro R_4 hR_4 y1_4 y2_4 hv H locs ls hP hD hS hl
  refine lv_iload_n hx hb d_XSp_groundSum_4 rfl (lv_at hl 2 rfl) ?_
  refine lv_aload_n hx hb d_XSp_groundSum_5 rfl (lv_at hl 0 rfl) ?_
  refine va_get (D := (dC, dI)) (ci := 4) (v := .int v_channels) (C := R_XSp) (T := T_XSp) (N := 4) hx hb hts i_XSp hown hK hP 0 rfl rfl 0 (by decide) (hts _ tk_37) (fun _ h9 => h9) rfl d_XSp_groundSum_6 ?_
  refine lv_icmp_ge (tgt := 27) hx hb d_XSp_groundSum_9 (by decide) (fun cd => ?_) (fun cd => ?_)
  · have hv := hv.1 cd
    refine lv_iload_n hx hb d_XSp_groundSum_27 rfl (lv_at hl 1 rfl) ?_
    exact hq y1_4 () _ _ _ _ hv hP hD hS d_XSp_groundSum_28
  have hv := hv.2 cd
  refine lv_iload_n hx hb d_XSp_groundSum_12 rfl (lv_at hl 1 rfl) ?_
  refine lv_aload_n hx hb d_XSp_groundSum_13 rfl (lv_at hl 0 rfl) ?_
  refine va_get (D := (dC, dI)) (ci := 4) (v := .ref h_ground) (C := R_XSp) (T := T_XSp) (N := 4) hx hb hts i_XSp hown hK hP 0 rfl rfl 2 (by decide) (hts _ tk_43) (fun _ h9 => h9) rfl d_XSp_groundSum_14 ?_
  refine lv_iload_n hx hb d_XSp_groundSum_17 rfl (lv_at hl 2 rfl) ?_
  refine va_iald hx hb hK hP 1 0 rfl rfl hv.1 d_XSp_groundSum_18 ?_
  have hv := hv.2
  refine lv_iadd hx hb d_XSp_groundSum_19 ?_
  refine lv_topi (fun x1_1 e_x1_1 => ?_)
  have hv := hv x1_1 e_x1_1
  refine lv_istore_n (lv' := [(1, .int x1_1), (0, .ref h_this), (2, .int y2_4)]) hx hb d_XSp_groundSum_20 rfl hl (by decide) rfl (fun ls hl => ?_)
  refine lv_iinc (v := (y2_4 + (1 : Int32))) (lv' := [(2, .int (y2_4 + (1 : Int32))), (1, .int x1_1), (0, .ref h_this)]) hx hb d_XSp_groundSum_21 hl (k := 2) rfl rfl (by decide) rfl (fun ls hl => ?_)
  refine lv_goto (tgt := 4) hx hb d_XSp_groundSum_24 (by decide) ?_
  exact hR_4 _ _ hv _ _ _ hP hD hS (lv_sub hl [2, 1, 0] rfl)
set_option maxRecDepth 100000 in
set_option maxHeartbeats 4000000 in
/-- SpectrumParts$Spectrum.netAt -/
theorem c_XSp_netAt (l : Launch) (dC : Nat → ClassId) (dI : Nat → Nat → Nat) (kI kJ kZ kII kJJ : ClassId) (N : Nat) (h_this : Nat) (h_counts : Nat) (h_ground : Nat) (h_former : Nat) (v_channels : Int32) (v_counts : Nat → Int32) (v_ground : Nat → Int32) (a1 : Int32) (sz : Nat) (post : Int32 → Prop) (hv : vc_XSp_netAt post N v_counts v_ground a1) :
    Met l y_XSp_netAt w_XSp_netAt ({ frames := 1, cells := 0, slots := 0, locals := 21 }) (va_Pc [.ref h_this, .int a1] (px_B g0 (dC, dI) vwCl (tysv kI kJ kZ kII kJJ) [(h_this, .inr (4, [.int v_channels, .ref h_counts, .ref h_ground, .ref h_former])), (h_counts, .inl (kI, N, .inl v_counts)), (h_ground, .inl (kI, N, .inl v_ground))] sz))
      (va_Qi (fun (r : Int32) (u : Unit) => post r) (fun (u : Unit) => ax_B (va_A [(h_this, .inr (4, [.int v_channels, .ref h_counts, .ref h_ground, .ref h_former])), (h_counts, .inl (kI, N, .inl v_counts)), (h_ground, .inl (kI, N, .inl v_ground))] sz) (dC, dI) vwCl (tysv kI kJ kZ kII kJJ) [(h_this, .inr (4, [.int v_channels, .ref h_counts, .ref h_ground, .ref h_former])), (h_counts, .inl (kI, N, .inl v_counts)), (h_ground, .inl (kI, N, .inl v_ground))]) (va_A [(h_this, .inr (4, [.int v_channels, .ref h_counts, .ref h_ground, .ref h_former])), (h_counts, .inl (kI, N, .inl v_counts)), (h_ground, .inl (kI, N, .inl v_ground))] sz)) 0 0 (va_A [(h_this, .inr (4, [.int v_channels, .ref h_counts, .ref h_ground, .ref h_former])), (h_counts, .inl (kI, N, .inl v_counts)), (h_ground, .inl (kI, N, .inl v_ground))] sz) := by
  refine pxi (cc := b_XSp_netAt) (maxL := 2) (wd := fun (u : Unit) => [(h_this, .inr (4, [.int v_channels, .ref h_counts, .ref h_ground, .ref h_former])), (h_counts, .inl (kI, N, .inl v_counts)), (h_ground, .inl (kI, N, .inl v_ground))]) (by decide +kernel) rfl (Nat.le_of_ble_eq_true rfl) ?_
  intro p e s m below meth c A ls Q H hx hb hml hts hown hK hG hP hD hS hA hl hq
  have hts := fun w h => hts w (List.mem_cons_of_mem _ h)
  have hown : s.vm.findClass R_XSp = some m.cls := hown
  have hl : lv_has ls 2 [(0, .ref h_this), (1, .int a1)] := hl
  unfold vc_XSp_netAt at hv
  refine lv_iconst (v := (0 : Int32)) hx hb d_XSp_netAt_0 (by decide) ?_
  refine lv_aload_n hx hb d_XSp_netAt_1 rfl (lv_at hl 0 rfl) ?_
  refine va_get (D := (dC, dI)) (ci := 4) (v := .ref h_counts) (C := R_XSp) (T := T_XSp) (N := 4) hx hb hts i_XSp hown hK hP 0 rfl rfl 1 (by decide) (hts _ tk_41) (fun _ h9 => h9) rfl d_XSp_netAt_2 ?_
  refine lv_iload_n hx hb d_XSp_netAt_5 rfl (lv_at hl 1 rfl) ?_
  refine va_iald hx hb hK hP 1 0 rfl rfl hv.1 d_XSp_netAt_6 ?_
  have hv := hv.2
  refine lv_aload_n hx hb d_XSp_netAt_7 rfl (lv_at hl 0 rfl) ?_
  refine va_get (D := (dC, dI)) (ci := 4) (v := .ref h_ground) (C := R_XSp) (T := T_XSp) (N := 4) hx hb hts i_XSp hown hK hP 0 rfl rfl 2 (by decide) (hts _ tk_43) (fun _ h9 => h9) rfl d_XSp_netAt_8 ?_
  refine lv_iload_n hx hb d_XSp_netAt_11 rfl (lv_at hl 1 rfl) ?_
  refine va_iald hx hb hK hP 2 0 rfl rfl hv.1 d_XSp_netAt_12 ?_
  have hv := hv.2
  refine lv_isub hx hb d_XSp_netAt_13 ?_
  refine va_mmax hx hb (hml.trans hl.1.symm) hown (hts _ tk_211) (hts _ tk_29) (hts _ tk_2) (hts _ tk_30) (Nat.le_of_ble_eq_true rfl) (Nat.le_of_ble_eq_true rfl) (Nat.le_of_ble_eq_true rfl) (Nat.le_of_ble_eq_true rfl) d_XSp_netAt_14 ?_
  exact hq (if (0 : Int32) < ((v_counts a1.toNatClampNeg) - (v_ground a1.toNatClampNeg)) then ((v_counts a1.toNatClampNeg) - (v_ground a1.toNatClampNeg)) else (0 : Int32)) () _ _ _ _ hv hP hD hS d_XSp_netAt_17
