def vc_XPe_isTop (post : Int32 → Prop) (N : Nat) (v_p0_channels : Int32) (v_p0_counts : Nat → Int32) (v_p0_ground : Nat → Int32) (a1 : Int32) : Prop :=
  vc_XSp_netAt (fun (r_1 : Int32) => (∀ J_23 : Prop, (((v_p0_channels ≤ (a1 + (1 : Int32)) → post (1 : Int32)) ∧ (¬ v_p0_channels ≤ (a1 + (1 : Int32)) → vc_XSp_netAt (fun (r_2 : Int32) => ((r_1 < r_2 → post (0 : Int32)) ∧ (¬ r_1 < r_2 → post (1 : Int32)))) N v_p0_counts v_p0_ground (a1 + (1 : Int32)))) → J_23) → ((a1 ≤ 0 → J_23) ∧ (¬ a1 ≤ 0 → vc_XSp_netAt (fun (r_3 : Int32) => ((r_3 < r_1 → J_23) ∧ (¬ r_3 < r_1 → post (0 : Int32)))) N v_p0_counts v_p0_ground (a1 - (1 : Int32)))))) N v_p0_counts v_p0_ground a1
def vc_XPe_firstOfSpan (post : Int32 → Prop) (N : Nat) (v_p0_counts : Nat → Int32) (v_p0_ground : Nat → Int32) (a1 : Int32) : Prop :=
  (∃ n, vlp1 (fun (R_2 : Int32 → Prop) (y2_2 : Int32) => ((y2_2 ≤ 0 → post y2_2) ∧ (¬ y2_2 ≤ 0 → vc_XSp_netAt (fun (r_1 : Int32) => ((r_1 ≤ 0 → post y2_2) ∧ (¬ r_1 ≤ 0 → vc_XSp_netAt (fun (r_2 : Int32) => vc_XSp_netAt (fun (r_3 : Int32) => ((r_3 ≤ r_2 → post y2_2) ∧ (¬ r_3 ≤ r_2 → R_2 (y2_2 + (-1 : Int32))))) N v_p0_counts v_p0_ground y2_2) N v_p0_counts v_p0_ground (y2_2 - (1 : Int32))))) N v_p0_counts v_p0_ground (y2_2 - (1 : Int32))))) n a1)
def vc_XPe_lastOfSpan (post : Int32 → Prop) (N : Nat) (v_p0_channels : Int32) (v_p0_counts : Nat → Int32) (v_p0_ground : Nat → Int32) (a1 : Int32) : Prop :=
  (∃ n, vlp1 (fun (R_2 : Int32 → Prop) (y2_2 : Int32) => ((v_p0_channels ≤ (y2_2 + (1 : Int32)) → post y2_2) ∧ (¬ v_p0_channels ≤ (y2_2 + (1 : Int32)) → vc_XSp_netAt (fun (r_1 : Int32) => ((r_1 ≤ 0 → post y2_2) ∧ (¬ r_1 ≤ 0 → vc_XSp_netAt (fun (r_2 : Int32) => vc_XSp_netAt (fun (r_3 : Int32) => ((r_3 < r_2 → post y2_2) ∧ (¬ r_3 < r_2 → R_2 (y2_2 + (1 : Int32))))) N v_p0_counts v_p0_ground y2_2) N v_p0_counts v_p0_ground (y2_2 + (1 : Int32))))) N v_p0_counts v_p0_ground (y2_2 + (1 : Int32))))) n a1)
def vc_XPe_keep (post : Int32 → (Nat → Nat → Int32) → Prop) (N : Nat) (v_p1_channels : Int32) (v_p1_counts : Nat → Int32) (v_p1_ground : Nat → Int32) (v_size : Int32) (v_rows : Nat → Nat → Int32) (a2 : Int32) : Prop :=
  vc_XPe_firstOfSpan (fun (r_1 : Int32) => vc_XPe_lastOfSpan (fun (r_2 : Int32) => (∃ n, vlp2 (fun (R_19 : Int32 → Int32 → Prop) (y5_19 : Int32) (y6_19 : Int32) => ((r_2 < y6_19 → (vp_in (0 : Int32) 5 ∧ (vp_in v_size N ∧ (vp_in (1 : Int32) 5 ∧ vc_XSp_netAt (fun (r_5 : Int32) => (vp_in v_size N ∧ (vp_in (2 : Int32) 5 ∧ (vp_in v_size N ∧ (vp_in (3 : Int32) 5 ∧ (vp_in v_size N ∧ (vp_in (4 : Int32) 5 ∧ (vp_in v_size N ∧ post (v_size + (1 : Int32)) (gseti (gseti (gseti (gseti (gseti v_rows ((0 : Int32).toNatClampNeg) v_size.toNatClampNeg a2) ((1 : Int32).toNatClampNeg) v_size.toNatClampNeg r_5) ((2 : Int32).toNatClampNeg) v_size.toNatClampNeg y5_19) ((3 : Int32).toNatClampNeg) v_size.toNatClampNeg r_1) ((4 : Int32).toNatClampNeg) v_size.toNatClampNeg r_2))))))))) N v_p1_counts v_p1_ground a2)))) ∧ (¬ r_2 < y6_19 → vc_XSp_netAt (fun (r_9 : Int32) => (∀ x5_10 : Int32, x5_10 = (y5_19 + r_9) → R_19 x5_10 (y6_19 + (1 : Int32)))) N v_p1_counts v_p1_ground y6_19))) n (0 : Int32) r_1)) N v_p1_channels v_p1_counts v_p1_ground a2) N v_p1_counts v_p1_ground a2
def vc_XPe_lookFor (post : Int32 → (Nat → Nat → Int32) → Prop) (N : Nat) (v_size : Int32) (v_p1_channels : Int32) (v_p1_counts : Nat → Int32) (v_p1_ground : Nat → Int32) (v_rows : Nat → Nat → Int32) (a2 : Int32) : Prop :=
  (∃ n, vlp3 (fun (R_7 : Int32 → Int32 → (Nat → Nat → Int32) → Prop) (y3_7 : Int32) (v_size_7 : Int32) (v_rows_7 : Nat → Nat → Int32) => ((v_p1_channels ≤ y3_7 → post v_size_7 v_rows_7) ∧ (¬ v_p1_channels ≤ y3_7 → vc_XSp_netAt (fun (r_1 : Int32) => ((r_1 ≤ a2 → R_7 (y3_7 + (1 : Int32)) v_size_7 v_rows_7) ∧ (¬ r_1 ≤ a2 → vc_XPe_isTop (fun (r_2 : Int32) => ((r_2 = 0 → R_7 (y3_7 + (1 : Int32)) v_size_7 v_rows_7) ∧ (¬ r_2 = 0 → vc_XPe_keep (fun (v_size_3 : Int32) (v_rows_4 : Nat → Nat → Int32) => R_7 (y3_7 + (1 : Int32)) v_size_3 v_rows_4) N v_p1_channels v_p1_counts v_p1_ground v_size_7 v_rows_7 y3_7))) N v_p1_channels v_p1_counts v_p1_ground y3_7))) N v_p1_counts v_p1_ground y3_7))) n (0 : Int32) (0 : Int32) v_rows)
set_option maxRecDepth 100000 in
set_option maxHeartbeats 4000000 in
/-- SpectrumParts$PeakList.isTop -/
theorem c_XPe_isTop (l : Launch) (dC : Nat → ClassId) (dI : Nat → Nat → Nat) (kI kJ kZ kII kJJ : ClassId) (N : Nat) (h_p0 : Nat) (h_p0_counts : Nat) (h_p0_ground : Nat) (h_p0_former : Nat) (v_p0_channels : Int32) (v_p0_counts : Nat → Int32) (v_p0_ground : Nat → Int32) (a1 : Int32) (sz : Nat) (post : Int32 → Prop) (hv : vc_XPe_isTop post N v_p0_channels v_p0_counts v_p0_ground a1) :
    Met l y_XPe_isTop w_XPe_isTop ({ frames := 2, cells := 0, slots := 0, locals := 42 }) (va_Pc [.ref h_p0, .int a1] (px_B g0 (dC, dI) vwCl (tysv kI kJ kZ kII kJJ) [(h_p0, .inr (4, [.int v_p0_channels, .ref h_p0_counts, .ref h_p0_ground, .ref h_p0_former])), (h_p0_counts, .inl (kI, N, .inl v_p0_counts)), (h_p0_ground, .inl (kI, N, .inl v_p0_ground))] sz))
      (va_Qi (fun (r : Int32) (u : Unit) => post r) (fun (u : Unit) => ax_B (va_A [(h_p0, .inr (4, [.int v_p0_channels, .ref h_p0_counts, .ref h_p0_ground, .ref h_p0_former])), (h_p0_counts, .inl (kI, N, .inl v_p0_counts)), (h_p0_ground, .inl (kI, N, .inl v_p0_ground))] sz) (dC, dI) vwCl (tysv kI kJ kZ kII kJJ) [(h_p0, .inr (4, [.int v_p0_channels, .ref h_p0_counts, .ref h_p0_ground, .ref h_p0_former])), (h_p0_counts, .inl (kI, N, .inl v_p0_counts)), (h_p0_ground, .inl (kI, N, .inl v_p0_ground))]) (va_A [(h_p0, .inr (4, [.int v_p0_channels, .ref h_p0_counts, .ref h_p0_ground, .ref h_p0_former])), (h_p0_counts, .inl (kI, N, .inl v_p0_counts)), (h_p0_ground, .inl (kI, N, .inl v_p0_ground))] sz)) 0 0 (va_A [(h_p0, .inr (4, [.int v_p0_channels, .ref h_p0_counts, .ref h_p0_ground, .ref h_p0_former])), (h_p0_counts, .inl (kI, N, .inl v_p0_counts)), (h_p0_ground, .inl (kI, N, .inl v_p0_ground))] sz) := by
  refine pxz (cc := b_XPe_isTop) (maxL := 3) (wd := fun (u : Unit) => [(h_p0, .inr (4, [.int v_p0_channels, .ref h_p0_counts, .ref h_p0_ground, .ref h_p0_former])), (h_p0_counts, .inl (kI, N, .inl v_p0_counts)), (h_p0_ground, .inl (kI, N, .inl v_p0_ground))]) (by decide +kernel) rfl (Nat.le_of_ble_eq_true rfl) ?_
  intro p e s m below meth c A ls Q H hx hb hml hts hown hK hG hP hD hS hA hl hq
  have hts := fun w h => hts w (List.mem_cons_of_mem _ h)
  have hown : s.vm.findClass R_XPe = some m.cls := hown
  have hl : lv_has ls 3 [(0, .ref h_p0), (1, .int a1)] := hl
  unfold vc_XPe_isTop at hv
  refine lv_aload_n hx hb d_XPe_isTop_0 rfl (lv_at hl 0 rfl) ?_
  refine lv_iload_n hx hb d_XPe_isTop_1 rfl (lv_at hl 1 rfl) ?_
  have hPc := hP.sub (ws' := [(h_p0, .inr (4, [.int v_p0_channels, .ref h_p0_counts, .ref h_p0_ground, .ref h_p0_former])), (h_p0_counts, .inl (kI, N, .inl v_p0_counts)), (h_p0_ground, .inl (kI, N, .inl v_p0_ground))]) [0, 1, 2] rfl
  have hDc := hD.sub (ws' := [(h_p0, .inr (4, [.int v_p0_channels, .ref h_p0_counts, .ref h_p0_ground, .ref h_p0_former])), (h_p0_counts, .inl (kI, N, .inl v_p0_counts)), (h_p0_ground, .inl (kI, N, .inl v_p0_ground))]) [0, 1, 2] (by decide) rfl
  have hFc := va_free (wc := [(h_p0, .inr (4, [.int v_p0_channels, .ref h_p0_counts, .ref h_p0_ground, .ref h_p0_former])), (h_p0_counts, .inl (kI, N, .inl v_p0_counts)), (h_p0_ground, .inl (kI, N, .inl v_p0_ground))]) hD hS hA [0, 1, 2] rfl
  refine va_calli (va_runV (As := [.int a1]) (rest := []) ⟨hx, hb, hml, hown, hts⟩ (c_XSp_netAt l dC dI kI kJ kZ kII kJJ N h_p0 h_p0_counts h_p0_ground h_p0_former v_p0_channels v_p0_counts v_p0_ground a1 H.size _ hv) (cwV 1 hts (gV tk_389 tk_208 ts_XSp_netAt tk_3 tc_XSp_netAt) rfl rfl rfl (by decide +kernel) ⟨Nat.le_of_ble_eq_true rfl, Nat.le_of_ble_eq_true rfl⟩) ⟨px_blind g0_mv, va_recv hK hPc (ci := 4) (q0 := 0) rfl rfl, px_pre g0_mv hPc hK hDc trivial hS hFc⟩ rfl rfl hl.1 rfl (lv_room (Nat.le_of_ble_eq_true rfl)) d_XPe_isTop_2 ⟨Nat.le_of_ble_eq_true rfl, Nat.le_of_ble_eq_true rfl⟩) hS (fun q _ h => hFc q h) hFc (fun r_1 u t H1 locs ht hvm hv hB hz1 hk1 hS => ?_)
  obtain ⟨⟩ := u
  obtain ⟨hP, hD⟩ := cj_join (wr := []) (w1 := [(h_p0, .inr (4, [.int v_p0_channels, .ref h_p0_counts, .ref h_p0_ground, .ref h_p0_former])), (h_p0_counts, .inl (kI, N, .inl v_p0_counts)), (h_p0_ground, .inl (kI, N, .inl v_p0_ground))]) hP hD [0, 1, 2] [] rfl rfl (by decide) (by decide) hk1 hFc ht hB
  generalize H1 = H at hP hS ⊢
  have hP : va_P (dC, dI) vwCl [(h_p0, .inr (4, [.int v_p0_channels, .ref h_p0_counts, .ref h_p0_ground, .ref h_p0_former])), (h_p0_counts, .inl (kI, N, .inl v_p0_counts)), (h_p0_ground, .inl (kI, N, .inl v_p0_ground))] H := hP.sub [0, 1, 2] rfl
  have hD : va_D A [(h_p0, .inr (4, [.int v_p0_channels, .ref h_p0_counts, .ref h_p0_ground, .ref h_p0_former])), (h_p0_counts, .inl (kI, N, .inl v_p0_counts)), (h_p0_ground, .inl (kI, N, .inl v_p0_ground))] := hD.sub [0, 1, 2] (by decide) rfl
  refine lv_istore_n (lv' := [(2, .int r_1), (0, .ref h_p0), (1, .int a1)]) hx hb d_XPe_isTop_5 rfl hl (by decide) rfl (fun ls hl => ?_)
  refine lv_iload_n hx hb d_XPe_isTop_6 rfl (lv_at hl 2 rfl) ?_
  have hv := hv (wst p l e (headSpec w_XPe_isTop ({ frames := 2, cells := 0, slots := 0, locals := 42 })).room s m ([.ref h_p0, .int a1] : List Value).toArray below meth c dC dI A 3 Q [(h_p0, .inr (4, [.int v_p0_channels, .ref h_p0_counts, .ref h_p0_ground, .ref h_p0_former])), (h_p0_counts, .inl (kI, N, .inl v_p0_counts)), (h_p0_ground, .inl (kI, N, .inl v_p0_ground))] [(0, .ref h_p0), (1, .int a1), (2, .int r_1)] 23 [] 0 0) (by
      intro  hv H locs ls hP hD hS hl
      refine lv_iload_n hx hb d_XPe_isTop_23 rfl (lv_at hl 1 rfl) ?_
      refine lv_iconst (v := (1 : Int32)) hx hb d_XPe_isTop_24 (by decide) ?_
      refine lv_iadd hx hb d_XPe_isTop_25 ?_
      refine lv_aload_n hx hb d_XPe_isTop_26 rfl (lv_at hl 0 rfl) ?_
      refine va_get (D := (dC, dI)) (ci := 4) (v := .int v_p0_channels) (C := R_XSp) (T := T_XSp) (N := 4) hx hb hts i_XSp hown hK hP 0 rfl rfl 0 (by decide) (hts _ tk_39) (fun _ h9 => h9) rfl d_XPe_isTop_27 ?_
      refine lv_icmp_ge (tgt := 44) hx hb d_XPe_isTop_30 (by decide) (fun cd => ?_) (fun cd => ?_)
      · have hv := hv.1 cd
        refine lv_iconst (v := (1 : Int32)) hx hb d_XPe_isTop_44 (by decide) ?_
        refine lv_goto (tgt := 49) hx hb d_XPe_isTop_45 (by decide) ?_
        exact hq (1 : Int32) () _ _ _ _ hv hP hD hS d_XPe_isTop_49 rfl
      have hv := hv.2 cd
      refine lv_iload_n hx hb d_XPe_isTop_33 rfl (lv_at hl 2 rfl) ?_
      refine lv_aload_n hx hb d_XPe_isTop_34 rfl (lv_at hl 0 rfl) ?_
      refine lv_iload_n hx hb d_XPe_isTop_35 rfl (lv_at hl 1 rfl) ?_
      refine lv_iconst (v := (1 : Int32)) hx hb d_XPe_isTop_36 (by decide) ?_
      refine lv_iadd hx hb d_XPe_isTop_37 ?_
      have hPc := hP.sub (ws' := [(h_p0, .inr (4, [.int v_p0_channels, .ref h_p0_counts, .ref h_p0_ground, .ref h_p0_former])), (h_p0_counts, .inl (kI, N, .inl v_p0_counts)), (h_p0_ground, .inl (kI, N, .inl v_p0_ground))]) [0, 1, 2] rfl
      have hDc := hD.sub (ws' := [(h_p0, .inr (4, [.int v_p0_channels, .ref h_p0_counts, .ref h_p0_ground, .ref h_p0_former])), (h_p0_counts, .inl (kI, N, .inl v_p0_counts)), (h_p0_ground, .inl (kI, N, .inl v_p0_ground))]) [0, 1, 2] (by decide) rfl
      have hFc := va_free (wc := [(h_p0, .inr (4, [.int v_p0_channels, .ref h_p0_counts, .ref h_p0_ground, .ref h_p0_former])), (h_p0_counts, .inl (kI, N, .inl v_p0_counts)), (h_p0_ground, .inl (kI, N, .inl v_p0_ground))]) hD hS hA [0, 1, 2] rfl
      refine va_calli (va_runV (As := [.int (a1 + (1 : Int32))]) (rest := [.int r_1]) ⟨hx, hb, hml, hown, hts⟩ (c_XSp_netAt l dC dI kI kJ kZ kII kJJ N h_p0 h_p0_counts h_p0_ground h_p0_former v_p0_channels v_p0_counts v_p0_ground (a1 + (1 : Int32)) H.size _ hv) (cwV 1 hts (gV tk_389 tk_208 ts_XSp_netAt tk_3 tc_XSp_netAt) rfl rfl rfl (by decide +kernel) ⟨Nat.le_of_ble_eq_true rfl, Nat.le_of_ble_eq_true rfl⟩) ⟨px_blind g0_mv, va_recv hK hPc (ci := 4) (q0 := 0) rfl rfl, px_pre g0_mv hPc hK hDc trivial hS hFc⟩ rfl rfl hl.1 rfl (lv_room (Nat.le_of_ble_eq_true rfl)) d_XPe_isTop_38 ⟨Nat.le_of_ble_eq_true rfl, Nat.le_of_ble_eq_true rfl⟩) hS (fun q _ h => hFc q h) hFc (fun r_2 u t H1 locs ht hvm hv hB hz1 hk1 hS => ?_)
      obtain ⟨⟩ := u
      obtain ⟨hP, hD⟩ := cj_join (wr := []) (w1 := [(h_p0, .inr (4, [.int v_p0_channels, .ref h_p0_counts, .ref h_p0_ground, .ref h_p0_former])), (h_p0_counts, .inl (kI, N, .inl v_p0_counts)), (h_p0_ground, .inl (kI, N, .inl v_p0_ground))]) hP hD [0, 1, 2] [] rfl rfl (by decide) (by decide) hk1 hFc ht hB
      generalize H1 = H at hP hS ⊢
      have hP : va_P (dC, dI) vwCl [(h_p0, .inr (4, [.int v_p0_channels, .ref h_p0_counts, .ref h_p0_ground, .ref h_p0_former])), (h_p0_counts, .inl (kI, N, .inl v_p0_counts)), (h_p0_ground, .inl (kI, N, .inl v_p0_ground))] H := hP.sub [0, 1, 2] rfl
      have hD : va_D A [(h_p0, .inr (4, [.int v_p0_channels, .ref h_p0_counts, .ref h_p0_ground, .ref h_p0_former])), (h_p0_counts, .inl (kI, N, .inl v_p0_counts)), (h_p0_ground, .inl (kI, N, .inl v_p0_ground))] := hD.sub [0, 1, 2] (by decide) rfl
      refine lv_icmp_lt (tgt := 48) hx hb d_XPe_isTop_41 (by decide) (fun cd => ?_) (fun cd => ?_)
      · have hv := hv.1 cd
        refine lv_iconst (v := (0 : Int32)) hx hb d_XPe_isTop_48 (by decide) ?_
        exact hq (0 : Int32) () _ _ _ _ hv hP hD hS d_XPe_isTop_49 rfl
      have hv := hv.2 cd
      refine lv_iconst (v := (1 : Int32)) hx hb d_XPe_isTop_44 (by decide) ?_
      refine lv_goto (tgt := 49) hx hb d_XPe_isTop_45 (by decide) ?_
      exact hq (1 : Int32) () _ _ _ _ hv hP hD hS d_XPe_isTop_49 rfl)
  refine lv_if_le (tgt := 23) hx hb d_XPe_isTop_7 (by decide) (fun cd => ?_) (fun cd => ?_)
  · have hv := hv.1 cd
    exact hv _ _ _ hP hD hS (lv_sub hl [1, 2, 0] rfl)
  have hv := hv.2 cd
  refine lv_iload_n hx hb d_XPe_isTop_10 rfl (lv_at hl 0 rfl) ?_
  refine lv_aload_n hx hb d_XPe_isTop_11 rfl (lv_at hl 1 rfl) ?_
  refine lv_iload_n hx hb d_XPe_isTop_12 rfl (lv_at hl 2 rfl) ?_
  refine lv_iconst (v := (1 : Int32)) hx hb d_XPe_isTop_13 (by decide) ?_
  refine lv_isub hx hb d_XPe_isTop_14 ?_
  have hPc := hP.sub (ws' := [(h_p0, .inr (4, [.int v_p0_channels, .ref h_p0_counts, .ref h_p0_ground, .ref h_p0_former])), (h_p0_counts, .inl (kI, N, .inl v_p0_counts)), (h_p0_ground, .inl (kI, N, .inl v_p0_ground))]) [0, 1, 2] rfl
  have hDc := hD.sub (ws' := [(h_p0, .inr (4, [.int v_p0_channels, .ref h_p0_counts, .ref h_p0_ground, .ref h_p0_former])), (h_p0_counts, .inl (kI, N, .inl v_p0_counts)), (h_p0_ground, .inl (kI, N, .inl v_p0_ground))]) [0, 1, 2] (by decide) rfl
  have hFc := va_free (wc := [(h_p0, .inr (4, [.int v_p0_channels, .ref h_p0_counts, .ref h_p0_ground, .ref h_p0_former])), (h_p0_counts, .inl (kI, N, .inl v_p0_counts)), (h_p0_ground, .inl (kI, N, .inl v_p0_ground))]) hD hS hA [0, 1, 2] rfl
  refine va_calli (va_runV (As := [.int (a1 - (1 : Int32))]) (rest := [.int r_1]) ⟨hx, hb, hml, hown, hts⟩ (c_XSp_netAt l dC dI kI kJ kZ kII kJJ N h_p0 h_p0_counts h_p0_ground h_p0_former v_p0_channels v_p0_counts v_p0_ground (a1 - (1 : Int32)) H.size _ hv) (cwV 1 hts (gV tk_389 tk_208 ts_XSp_netAt tk_3 tc_XSp_netAt) rfl rfl rfl (by decide +kernel) ⟨Nat.le_of_ble_eq_true rfl, Nat.le_of_ble_eq_true rfl⟩) ⟨px_blind g0_mv, va_recv hK hPc (ci := 4) (q0 := 0) rfl rfl, px_pre g0_mv hPc hK hDc trivial hS hFc⟩ rfl rfl hl.1 rfl (lv_room (Nat.le_of_ble_eq_true rfl)) d_XPe_isTop_15 ⟨Nat.le_of_ble_eq_true rfl, Nat.le_of_ble_eq_true rfl⟩) hS (fun q _ h => hFc q h) hFc (fun r_3 u t H1 locs ht hvm hv hB hz1 hk1 hS => ?_)
  obtain ⟨⟩ := u
  obtain ⟨hP, hD⟩ := cj_join (wr := []) (w1 := [(h_p0, .inr (4, [.int v_p0_channels, .ref h_p0_counts, .ref h_p0_ground, .ref h_p0_former])), (h_p0_counts, .inl (kI, N, .inl v_p0_counts)), (h_p0_ground, .inl (kI, N, .inl v_p0_ground))]) hP hD [0, 1, 2] [] rfl rfl (by decide) (by decide) hk1 hFc ht hB
  generalize H1 = H at hP hS ⊢
  have hP : va_P (dC, dI) vwCl [(h_p0, .inr (4, [.int v_p0_channels, .ref h_p0_counts, .ref h_p0_ground, .ref h_p0_former])), (h_p0_counts, .inl (kI, N, .inl v_p0_counts)), (h_p0_ground, .inl (kI, N, .inl v_p0_ground))] H := hP.sub [0, 1, 2] rfl
  have hD : va_D A [(h_p0, .inr (4, [.int v_p0_channels, .ref h_p0_counts, .ref h_p0_ground, .ref h_p0_former])), (h_p0_counts, .inl (kI, N, .inl v_p0_counts)), (h_p0_ground, .inl (kI, N, .inl v_p0_ground))] := hD.sub [0, 1, 2] (by decide) rfl
  refine lv_icmp_gt (tgt := 23) hx hb d_XPe_isTop_18 (by decide) (fun cd => ?_) (fun cd => ?_)
  · have hv := hv.1 cd
    exact hv _ _ _ hP hD hS (lv_sub hl [1, 2, 0] rfl)
  have hv := hv.2 cd
  refine lv_iconst (v := (0 : Int32)) hx hb d_XPe_isTop_21 (by decide) ?_
  exact hq (0 : Int32) () _ _ _ _ hv hP hD hS d_XPe_isTop_22 rfl
set_option maxRecDepth 100000 in
set_option maxHeartbeats 4000000 in
/-- SpectrumParts$PeakList.firstOfSpan -/
theorem c_XPe_firstOfSpan (l : Launch) (dC : Nat → ClassId) (dI : Nat → Nat → Nat) (kI kJ kZ kII kJJ : ClassId) (N : Nat) (h_p0 : Nat) (h_p0_counts : Nat) (h_p0_ground : Nat) (h_p0_former : Nat) (v_p0_channels : Int32) (v_p0_counts : Nat → Int32) (v_p0_ground : Nat → Int32) (a1 : Int32) (sz : Nat) (post : Int32 → Prop) (hv : vc_XPe_firstOfSpan post N v_p0_counts v_p0_ground a1) :
    Met l y_XPe_firstOfSpan w_XPe_firstOfSpan ({ frames := 2, cells := 0, slots := 0, locals := 42 }) (va_Pc [.ref h_p0, .int a1] (px_B g0 (dC, dI) vwCl (tysv kI kJ kZ kII kJJ) [(h_p0, .inr (4, [.int v_p0_channels, .ref h_p0_counts, .ref h_p0_ground, .ref h_p0_former])), (h_p0_counts, .inl (kI, N, .inl v_p0_counts)), (h_p0_ground, .inl (kI, N, .inl v_p0_ground))] sz))
      (va_Qi (fun (r : Int32) (u : Unit) => post r) (fun (u : Unit) => ax_B (va_A [(h_p0, .inr (4, [.int v_p0_channels, .ref h_p0_counts, .ref h_p0_ground, .ref h_p0_former])), (h_p0_counts, .inl (kI, N, .inl v_p0_counts)), (h_p0_ground, .inl (kI, N, .inl v_p0_ground))] sz) (dC, dI) vwCl (tysv kI kJ kZ kII kJJ) [(h_p0, .inr (4, [.int v_p0_channels, .ref h_p0_counts, .ref h_p0_ground, .ref h_p0_former])), (h_p0_counts, .inl (kI, N, .inl v_p0_counts)), (h_p0_ground, .inl (kI, N, .inl v_p0_ground))]) (va_A [(h_p0, .inr (4, [.int v_p0_channels, .ref h_p0_counts, .ref h_p0_ground, .ref h_p0_former])), (h_p0_counts, .inl (kI, N, .inl v_p0_counts)), (h_p0_ground, .inl (kI, N, .inl v_p0_ground))] sz)) 0 0 (va_A [(h_p0, .inr (4, [.int v_p0_channels, .ref h_p0_counts, .ref h_p0_ground, .ref h_p0_former])), (h_p0_counts, .inl (kI, N, .inl v_p0_counts)), (h_p0_ground, .inl (kI, N, .inl v_p0_ground))] sz) := by
  refine pxi (cc := b_XPe_firstOfSpan) (maxL := 3) (wd := fun (u : Unit) => [(h_p0, .inr (4, [.int v_p0_channels, .ref h_p0_counts, .ref h_p0_ground, .ref h_p0_former])), (h_p0_counts, .inl (kI, N, .inl v_p0_counts)), (h_p0_ground, .inl (kI, N, .inl v_p0_ground))]) (by decide +kernel) rfl (Nat.le_of_ble_eq_true rfl) ?_
  intro p e s m below meth c A ls Q H hx hb hml hts hown hK hG hP hD hS hA hl hq
  have hts := fun w h => hts w (List.mem_cons_of_mem _ h)
  have hown : s.vm.findClass R_XPe = some m.cls := hown
  have hl : lv_has ls 3 [(0, .ref h_p0), (1, .int a1)] := hl
  unfold vc_XPe_firstOfSpan at hv
  refine lv_iload_n hx hb d_XPe_firstOfSpan_0 rfl (lv_at hl 1 rfl) ?_
  refine lv_istore_n (lv' := [(2, .int a1), (0, .ref h_p0), (1, .int a1)]) hx hb d_XPe_firstOfSpan_1 rfl hl (by decide) rfl (fun ls hl => ?_)
  obtain ⟨n_2, hv⟩ := hv
  refine vlp1_W (P := fun (y2_2 : Int32) => wst p l e (headSpec w_XPe_firstOfSpan ({ frames := 2, cells := 0, slots := 0, locals := 42 })).room s m ([.ref h_p0, .int a1] : List Value).toArray below meth c dC dI A 3 Q [(h_p0, .inr (4, [.int v_p0_channels, .ref h_p0_counts, .ref h_p0_ground, .ref h_p0_former])), (h_p0_counts, .inl (kI, N, .inl v_p0_counts)), (h_p0_ground, .inl (kI, N, .inl v_p0_ground))] [(0, .ref h_p0), (2, .int y2_2)] 2 [] 0 0) ?_ n_2 _ hv _ _ _ hP hD hS (lv_sub hl [1, 0] rfl)
  intro R_2 hR_2 y2_2 hv H locs ls hP hD hS hl
  refine lv_iload_n hx hb d_XPe_firstOfSpan_2 rfl (lv_at hl 1 rfl) ?_
  refine lv_if_le (tgt := 37) hx hb d_XPe_firstOfSpan_3 (by decide) (fun cd => ?_) (fun cd => ?_)
  · have hv := hv.1 cd
    refine lv_iload_n hx hb d_XPe_firstOfSpan_37 rfl (lv_at hl 1 rfl) ?_
    exact hq y2_2 () _ _ _ _ hv hP hD hS d_XPe_firstOfSpan_38
  have hv := hv.2 cd
  refine lv_aload_n hx hb d_XPe_firstOfSpan_6 rfl (lv_at hl 0 rfl) ?_
  refine lv_iload_n hx hb d_XPe_firstOfSpan_7 rfl (lv_at hl 1 rfl) ?_
  refine lv_iconst (v := (1 : Int32)) hx hb d_XPe_firstOfSpan_8 (by decide) ?_
  refine lv_isub hx hb d_XPe_firstOfSpan_9 ?_
  have hPc := hP.sub (ws' := [(h_p0, .inr (4, [.int v_p0_channels, .ref h_p0_counts, .ref h_p0_ground, .ref h_p0_former])), (h_p0_counts, .inl (kI, N, .inl v_p0_counts)), (h_p0_ground, .inl (kI, N, .inl v_p0_ground))]) [0, 1, 2] rfl
  have hDc := hD.sub (ws' := [(h_p0, .inr (4, [.int v_p0_channels, .ref h_p0_counts, .ref h_p0_ground, .ref h_p0_former])), (h_p0_counts, .inl (kI, N, .inl v_p0_counts)), (h_p0_ground, .inl (kI, N, .inl v_p0_ground))]) [0, 1, 2] (by decide) rfl
  have hFc := va_free (wc := [(h_p0, .inr (4, [.int v_p0_channels, .ref h_p0_counts, .ref h_p0_ground, .ref h_p0_former])), (h_p0_counts, .inl (kI, N, .inl v_p0_counts)), (h_p0_ground, .inl (kI, N, .inl v_p0_ground))]) hD hS hA [0, 1, 2] rfl
  refine va_calli (va_runV (As := [.int (y2_2 - (1 : Int32))]) (rest := []) ⟨hx, hb, hml, hown, hts⟩ (c_XSp_netAt l dC dI kI kJ kZ kII kJJ N h_p0 h_p0_counts h_p0_ground h_p0_former v_p0_channels v_p0_counts v_p0_ground (y2_2 - (1 : Int32)) H.size _ hv) (cwV 1 hts (gV tk_389 tk_208 ts_XSp_netAt tk_3 tc_XSp_netAt) rfl rfl rfl (by decide +kernel) ⟨Nat.le_of_ble_eq_true rfl, Nat.le_of_ble_eq_true rfl⟩) ⟨px_blind g0_mv, va_recv hK hPc (ci := 4) (q0 := 0) rfl rfl, px_pre g0_mv hPc hK hDc trivial hS hFc⟩ rfl rfl hl.1 rfl (lv_room (Nat.le_of_ble_eq_true rfl)) d_XPe_firstOfSpan_10 ⟨Nat.le_of_ble_eq_true rfl, Nat.le_of_ble_eq_true rfl⟩) hS (fun q _ h => hFc q h) hFc (fun r_1 u t H1 locs ht hvm hv hB hz1 hk1 hS => ?_)
  obtain ⟨⟩ := u
  obtain ⟨hP, hD⟩ := cj_join (wr := []) (w1 := [(h_p0, .inr (4, [.int v_p0_channels, .ref h_p0_counts, .ref h_p0_ground, .ref h_p0_former])), (h_p0_counts, .inl (kI, N, .inl v_p0_counts)), (h_p0_ground, .inl (kI, N, .inl v_p0_ground))]) hP hD [0, 1, 2] [] rfl rfl (by decide) (by decide) hk1 hFc ht hB
  generalize H1 = H at hP hS ⊢
  have hP : va_P (dC, dI) vwCl [(h_p0, .inr (4, [.int v_p0_channels, .ref h_p0_counts, .ref h_p0_ground, .ref h_p0_former])), (h_p0_counts, .inl (kI, N, .inl v_p0_counts)), (h_p0_ground, .inl (kI, N, .inl v_p0_ground))] H := hP.sub [0, 1, 2] rfl
  have hD : va_D A [(h_p0, .inr (4, [.int v_p0_channels, .ref h_p0_counts, .ref h_p0_ground, .ref h_p0_former])), (h_p0_counts, .inl (kI, N, .inl v_p0_counts)), (h_p0_ground, .inl (kI, N, .inl v_p0_ground))] := hD.sub [0, 1, 2] (by decide) rfl
  refine lv_if_le (tgt := 37) hx hb d_XPe_firstOfSpan_13 (by decide) (fun cd => ?_) (fun cd => ?_)
  · have hv := hv.1 cd
    refine lv_iload_n hx hb d_XPe_firstOfSpan_37 rfl (lv_at hl 1 rfl) ?_
    exact hq y2_2 () _ _ _ _ hv hP hD hS d_XPe_firstOfSpan_38
  have hv := hv.2 cd
  refine lv_aload_n hx hb d_XPe_firstOfSpan_16 rfl (lv_at hl 0 rfl) ?_
  refine lv_iload_n hx hb d_XPe_firstOfSpan_17 rfl (lv_at hl 1 rfl) ?_
  refine lv_iconst (v := (1 : Int32)) hx hb d_XPe_firstOfSpan_18 (by decide) ?_
  refine lv_isub hx hb d_XPe_firstOfSpan_19 ?_
  have hPc := hP.sub (ws' := [(h_p0, .inr (4, [.int v_p0_channels, .ref h_p0_counts, .ref h_p0_ground, .ref h_p0_former])), (h_p0_counts, .inl (kI, N, .inl v_p0_counts)), (h_p0_ground, .inl (kI, N, .inl v_p0_ground))]) [0, 1, 2] rfl
  have hDc := hD.sub (ws' := [(h_p0, .inr (4, [.int v_p0_channels, .ref h_p0_counts, .ref h_p0_ground, .ref h_p0_former])), (h_p0_counts, .inl (kI, N, .inl v_p0_counts)), (h_p0_ground, .inl (kI, N, .inl v_p0_ground))]) [0, 1, 2] (by decide) rfl
  have hFc := va_free (wc := [(h_p0, .inr (4, [.int v_p0_channels, .ref h_p0_counts, .ref h_p0_ground, .ref h_p0_former])), (h_p0_counts, .inl (kI, N, .inl v_p0_counts)), (h_p0_ground, .inl (kI, N, .inl v_p0_ground))]) hD hS hA [0, 1, 2] rfl
  refine va_calli (va_runV (As := [.int (y2_2 - (1 : Int32))]) (rest := []) ⟨hx, hb, hml, hown, hts⟩ (c_XSp_netAt l dC dI kI kJ kZ kII kJJ N h_p0 h_p0_counts h_p0_ground h_p0_former v_p0_channels v_p0_counts v_p0_ground (y2_2 - (1 : Int32)) H.size _ hv) (cwV 1 hts (gV tk_389 tk_208 ts_XSp_netAt tk_3 tc_XSp_netAt) rfl rfl rfl (by decide +kernel) ⟨Nat.le_of_ble_eq_true rfl, Nat.le_of_ble_eq_true rfl⟩) ⟨px_blind g0_mv, va_recv hK hPc (ci := 4) (q0 := 0) rfl rfl, px_pre g0_mv hPc hK hDc trivial hS hFc⟩ rfl rfl hl.1 rfl (lv_room (Nat.le_of_ble_eq_true rfl)) d_XPe_firstOfSpan_20 ⟨Nat.le_of_ble_eq_true rfl, Nat.le_of_ble_eq_true rfl⟩) hS (fun q _ h => hFc q h) hFc (fun r_2 u t H1 locs ht hvm hv hB hz1 hk1 hS => ?_)
  obtain ⟨⟩ := u
  obtain ⟨hP, hD⟩ := cj_join (wr := []) (w1 := [(h_p0, .inr (4, [.int v_p0_channels, .ref h_p0_counts, .ref h_p0_ground, .ref h_p0_former])), (h_p0_counts, .inl (kI, N, .inl v_p0_counts)), (h_p0_ground, .inl (kI, N, .inl v_p0_ground))]) hP hD [0, 1, 2] [] rfl rfl (by decide) (by decide) hk1 hFc ht hB
  generalize H1 = H at hP hS ⊢
  have hP : va_P (dC, dI) vwCl [(h_p0, .inr (4, [.int v_p0_channels, .ref h_p0_counts, .ref h_p0_ground, .ref h_p0_former])), (h_p0_counts, .inl (kI, N, .inl v_p0_counts)), (h_p0_ground, .inl (kI, N, .inl v_p0_ground))] H := hP.sub [0, 1, 2] rfl
  have hD : va_D A [(h_p0, .inr (4, [.int v_p0_channels, .ref h_p0_counts, .ref h_p0_ground, .ref h_p0_former])), (h_p0_counts, .inl (kI, N, .inl v_p0_counts)), (h_p0_ground, .inl (kI, N, .inl v_p0_ground))] := hD.sub [0, 1, 2] (by decide) rfl
  refine lv_aload_n hx hb d_XPe_firstOfSpan_23 rfl (lv_at hl 0 rfl) ?_
  refine lv_iload_n hx hb d_XPe_firstOfSpan_24 rfl (lv_at hl 1 rfl) ?_
  have hPc := hP.sub (ws' := [(h_p0, .inr (4, [.int v_p0_channels, .ref h_p0_counts, .ref h_p0_ground, .ref h_p0_former])), (h_p0_counts, .inl (kI, N, .inl v_p0_counts)), (h_p0_ground, .inl (kI, N, .inl v_p0_ground))]) [0, 1, 2] rfl
  have hDc := hD.sub (ws' := [(h_p0, .inr (4, [.int v_p0_channels, .ref h_p0_counts, .ref h_p0_ground, .ref h_p0_former])), (h_p0_counts, .inl (kI, N, .inl v_p0_counts)), (h_p0_ground, .inl (kI, N, .inl v_p0_ground))]) [0, 1, 2] (by decide) rfl
  have hFc := va_free (wc := [(h_p0, .inr (4, [.int v_p0_channels, .ref h_p0_counts, .ref h_p0_ground, .ref h_p0_former])), (h_p0_counts, .inl (kI, N, .inl v_p0_counts)), (h_p0_ground, .inl (kI, N, .inl v_p0_ground))]) hD hS hA [0, 1, 2] rfl
  refine va_calli (va_runV (As := [.int y2_2]) (rest := [.int r_2]) ⟨hx, hb, hml, hown, hts⟩ (c_XSp_netAt l dC dI kI kJ kZ kII kJJ N h_p0 h_p0_counts h_p0_ground h_p0_former v_p0_channels v_p0_counts v_p0_ground y2_2 H.size _ hv) (cwV 1 hts (gV tk_389 tk_208 ts_XSp_netAt tk_3 tc_XSp_netAt) rfl rfl rfl (by decide +kernel) ⟨Nat.le_of_ble_eq_true rfl, Nat.le_of_ble_eq_true rfl⟩) ⟨px_blind g0_mv, va_recv hK hPc (ci := 4) (q0 := 0) rfl rfl, px_pre g0_mv hPc hK hDc trivial hS hFc⟩ rfl rfl hl.1 rfl (lv_room (Nat.le_of_ble_eq_true rfl)) d_XPe_firstOfSpan_25 ⟨Nat.le_of_ble_eq_true rfl, Nat.le_of_ble_eq_true rfl⟩) hS (fun q _ h => hFc q h) hFc (fun r_3 u t H1 locs ht hvm hv hB hz1 hk1 hS => ?_)
  obtain ⟨⟩ := u
  obtain ⟨hP, hD⟩ := cj_join (wr := []) (w1 := [(h_p0, .inr (4, [.int v_p0_channels, .ref h_p0_counts, .ref h_p0_ground, .ref h_p0_former])), (h_p0_counts, .inl (kI, N, .inl v_p0_counts)), (h_p0_ground, .inl (kI, N, .inl v_p0_ground))]) hP hD [0, 1, 2] [] rfl rfl (by decide) (by decide) hk1 hFc ht hB
  generalize H1 = H at hP hS ⊢
  have hP : va_P (dC, dI) vwCl [(h_p0, .inr (4, [.int v_p0_channels, .ref h_p0_counts, .ref h_p0_ground, .ref h_p0_former])), (h_p0_counts, .inl (kI, N, .inl v_p0_counts)), (h_p0_ground, .inl (kI, N, .inl v_p0_ground))] H := hP.sub [0, 1, 2] rfl
  have hD : va_D A [(h_p0, .inr (4, [.int v_p0_channels, .ref h_p0_counts, .ref h_p0_ground, .ref h_p0_former])), (h_p0_counts, .inl (kI, N, .inl v_p0_counts)), (h_p0_ground, .inl (kI, N, .inl v_p0_ground))] := hD.sub [0, 1, 2] (by decide) rfl
  refine lv_icmp_ge (tgt := 37) hx hb d_XPe_firstOfSpan_28 (by decide) (fun cd => ?_) (fun cd => ?_)
  · have hv := hv.1 cd
    refine lv_iload_n hx hb d_XPe_firstOfSpan_37 rfl (lv_at hl 1 rfl) ?_
    exact hq y2_2 () _ _ _ _ hv hP hD hS d_XPe_firstOfSpan_38
  have hv := hv.2 cd
  refine lv_iinc (v := (y2_2 + (-1 : Int32))) (lv' := [(2, .int (y2_2 + (-1 : Int32))), (0, .ref h_p0)]) hx hb d_XPe_firstOfSpan_31 hl (k := 1) rfl rfl (by decide) rfl (fun ls hl => ?_)
  refine lv_goto (tgt := 2) hx hb d_XPe_firstOfSpan_34 (by decide) ?_
  exact hR_2 _ hv _ _ _ hP hD hS (lv_sub hl [1, 0] rfl)
set_option maxRecDepth 100000 in
set_option maxHeartbeats 4000000 in
/-- SpectrumParts$PeakList.lastOfSpan -/
theorem c_XPe_lastOfSpan (l : Launch) (dC : Nat → ClassId) (dI : Nat → Nat → Nat) (kI kJ kZ kII kJJ : ClassId) (N : Nat) (h_p0 : Nat) (h_p0_counts : Nat) (h_p0_ground : Nat) (h_p0_former : Nat) (v_p0_channels : Int32) (v_p0_counts : Nat → Int32) (v_p0_ground : Nat → Int32) (a1 : Int32) (sz : Nat) (post : Int32 → Prop) (hv : vc_XPe_lastOfSpan post N v_p0_channels v_p0_counts v_p0_ground a1) :
    Met l y_XPe_lastOfSpan w_XPe_lastOfSpan ({ frames := 2, cells := 0, slots := 0, locals := 42 }) (va_Pc [.ref h_p0, .int a1] (px_B g0 (dC, dI) vwCl (tysv kI kJ kZ kII kJJ) [(h_p0, .inr (4, [.int v_p0_channels, .ref h_p0_counts, .ref h_p0_ground, .ref h_p0_former])), (h_p0_counts, .inl (kI, N, .inl v_p0_counts)), (h_p0_ground, .inl (kI, N, .inl v_p0_ground))] sz))
      (va_Qi (fun (r : Int32) (u : Unit) => post r) (fun (u : Unit) => ax_B (va_A [(h_p0, .inr (4, [.int v_p0_channels, .ref h_p0_counts, .ref h_p0_ground, .ref h_p0_former])), (h_p0_counts, .inl (kI, N, .inl v_p0_counts)), (h_p0_ground, .inl (kI, N, .inl v_p0_ground))] sz) (dC, dI) vwCl (tysv kI kJ kZ kII kJJ) [(h_p0, .inr (4, [.int v_p0_channels, .ref h_p0_counts, .ref h_p0_ground, .ref h_p0_former])), (h_p0_counts, .inl (kI, N, .inl v_p0_counts)), (h_p0_ground, .inl (kI, N, .inl v_p0_ground))]) (va_A [(h_p0, .inr (4, [.int v_p0_channels, .ref h_p0_counts, .ref h_p0_ground, .ref h_p0_former])), (h_p0_counts, .inl (kI, N, .inl v_p0_counts)), (h_p0_ground, .inl (kI, N, .inl v_p0_ground))] sz)) 0 0 (va_A [(h_p0, .inr (4, [.int v_p0_channels, .ref h_p0_counts, .ref h_p0_ground, .ref h_p0_former])), (h_p0_counts, .inl (kI, N, .inl v_p0_counts)), (h_p0_ground, .inl (kI, N, .inl v_p0_ground))] sz) := by
  refine pxi (cc := b_XPe_lastOfSpan) (maxL := 3) (wd := fun (u : Unit) => [(h_p0, .inr (4, [.int v_p0_channels, .ref h_p0_counts, .ref h_p0_ground, .ref h_p0_former])), (h_p0_counts, .inl (kI, N, .inl v_p0_counts)), (h_p0_ground, .inl (kI, N, .inl v_p0_ground))]) (by decide +kernel) rfl (Nat.le_of_ble_eq_true rfl) ?_
  intro p e s m below meth c A ls Q H hx hb hml hts hown hK hG hP hD hS hA hl hq
  have hts := fun w h => hts w (List.mem_cons_of_mem _ h)
  have hown : s.vm.findClass R_XPe = some m.cls := hown
  have hl : lv_has ls 3 [(0, .ref h_p0), (1, .int a1)] := hl
  unfold vc_XPe_lastOfSpan at hv
  refine lv_iload_n hx hb d_XPe_lastOfSpan_0 rfl (lv_at hl 1 rfl) ?_
  refine lv_istore_n (lv' := [(2, .int a1), (0, .ref h_p0), (1, .int a1)]) hx hb d_XPe_lastOfSpan_1 rfl hl (by decide) rfl (fun ls hl => ?_)
  obtain ⟨n_2, hv⟩ := hv
  refine vlp1_W (P := fun (y2_2 : Int32) => wst p l e (headSpec w_XPe_lastOfSpan ({ frames := 2, cells := 0, slots := 0, locals := 42 })).room s m ([.ref h_p0, .int a1] : List Value).toArray below meth c dC dI A 3 Q [(h_p0, .inr (4, [.int v_p0_channels, .ref h_p0_counts, .ref h_p0_ground, .ref h_p0_former])), (h_p0_counts, .inl (kI, N, .inl v_p0_counts)), (h_p0_ground, .inl (kI, N, .inl v_p0_ground))] [(0, .ref h_p0), (2, .int y2_2)] 2 [] 0 0) ?_ n_2 _ hv _ _ _ hP hD hS (lv_sub hl [1, 0] rfl)
  intro R_2 hR_2 y2_2 hv H locs ls hP hD hS hl
  refine lv_iload_n hx hb d_XPe_lastOfSpan_2 rfl (lv_at hl 1 rfl) ?_
  refine lv_iconst (v := (1 : Int32)) hx hb d_XPe_lastOfSpan_3 (by decide) ?_
  refine lv_iadd hx hb d_XPe_lastOfSpan_4 ?_
  refine lv_aload_n hx hb d_XPe_lastOfSpan_5 rfl (lv_at hl 0 rfl) ?_
  refine va_get (D := (dC, dI)) (ci := 4) (v := .int v_p0_channels) (C := R_XSp) (T := T_XSp) (N := 4) hx hb hts i_XSp hown hK hP 0 rfl rfl 0 (by decide) (hts _ tk_39) (fun _ h9 => h9) rfl d_XPe_lastOfSpan_6 ?_
  refine lv_icmp_ge (tgt := 43) hx hb d_XPe_lastOfSpan_9 (by decide) (fun cd => ?_) (fun cd => ?_)
  · have hv := hv.1 cd
    refine lv_iload_n hx hb d_XPe_lastOfSpan_43 rfl (lv_at hl 1 rfl) ?_
    exact hq y2_2 () _ _ _ _ hv hP hD hS d_XPe_lastOfSpan_44
  have hv := hv.2 cd
  refine lv_aload_n hx hb d_XPe_lastOfSpan_12 rfl (lv_at hl 0 rfl) ?_
  refine lv_iload_n hx hb d_XPe_lastOfSpan_13 rfl (lv_at hl 1 rfl) ?_
  refine lv_iconst (v := (1 : Int32)) hx hb d_XPe_lastOfSpan_14 (by decide) ?_
  refine lv_iadd hx hb d_XPe_lastOfSpan_15 ?_
  have hPc := hP.sub (ws' := [(h_p0, .inr (4, [.int v_p0_channels, .ref h_p0_counts, .ref h_p0_ground, .ref h_p0_former])), (h_p0_counts, .inl (kI, N, .inl v_p0_counts)), (h_p0_ground, .inl (kI, N, .inl v_p0_ground))]) [0, 1, 2] rfl
  have hDc := hD.sub (ws' := [(h_p0, .inr (4, [.int v_p0_channels, .ref h_p0_counts, .ref h_p0_ground, .ref h_p0_former])), (h_p0_counts, .inl (kI, N, .inl v_p0_counts)), (h_p0_ground, .inl (kI, N, .inl v_p0_ground))]) [0, 1, 2] (by decide) rfl
  have hFc := va_free (wc := [(h_p0, .inr (4, [.int v_p0_channels, .ref h_p0_counts, .ref h_p0_ground, .ref h_p0_former])), (h_p0_counts, .inl (kI, N, .inl v_p0_counts)), (h_p0_ground, .inl (kI, N, .inl v_p0_ground))]) hD hS hA [0, 1, 2] rfl
  refine va_calli (va_runV (As := [.int (y2_2 + (1 : Int32))]) (rest := []) ⟨hx, hb, hml, hown, hts⟩ (c_XSp_netAt l dC dI kI kJ kZ kII kJJ N h_p0 h_p0_counts h_p0_ground h_p0_former v_p0_channels v_p0_counts v_p0_ground (y2_2 + (1 : Int32)) H.size _ hv) (cwV 1 hts (gV tk_389 tk_208 ts_XSp_netAt tk_3 tc_XSp_netAt) rfl rfl rfl (by decide +kernel) ⟨Nat.le_of_ble_eq_true rfl, Nat.le_of_ble_eq_true rfl⟩) ⟨px_blind g0_mv, va_recv hK hPc (ci := 4) (q0 := 0) rfl rfl, px_pre g0_mv hPc hK hDc trivial hS hFc⟩ rfl rfl hl.1 rfl (lv_room (Nat.le_of_ble_eq_true rfl)) d_XPe_lastOfSpan_16 ⟨Nat.le_of_ble_eq_true rfl, Nat.le_of_ble_eq_true rfl⟩) hS (fun q _ h => hFc q h) hFc (fun r_1 u t H1 locs ht hvm hv hB hz1 hk1 hS => ?_)
  obtain ⟨⟩ := u
  obtain ⟨hP, hD⟩ := cj_join (wr := []) (w1 := [(h_p0, .inr (4, [.int v_p0_channels, .ref h_p0_counts, .ref h_p0_ground, .ref h_p0_former])), (h_p0_counts, .inl (kI, N, .inl v_p0_counts)), (h_p0_ground, .inl (kI, N, .inl v_p0_ground))]) hP hD [0, 1, 2] [] rfl rfl (by decide) (by decide) hk1 hFc ht hB
  generalize H1 = H at hP hS ⊢
  have hP : va_P (dC, dI) vwCl [(h_p0, .inr (4, [.int v_p0_channels, .ref h_p0_counts, .ref h_p0_ground, .ref h_p0_former])), (h_p0_counts, .inl (kI, N, .inl v_p0_counts)), (h_p0_ground, .inl (kI, N, .inl v_p0_ground))] H := hP.sub [0, 1, 2] rfl
  have hD : va_D A [(h_p0, .inr (4, [.int v_p0_channels, .ref h_p0_counts, .ref h_p0_ground, .ref h_p0_former])), (h_p0_counts, .inl (kI, N, .inl v_p0_counts)), (h_p0_ground, .inl (kI, N, .inl v_p0_ground))] := hD.sub [0, 1, 2] (by decide) rfl
  refine lv_if_le (tgt := 43) hx hb d_XPe_lastOfSpan_19 (by decide) (fun cd => ?_) (fun cd => ?_)
  · have hv := hv.1 cd
    refine lv_iload_n hx hb d_XPe_lastOfSpan_43 rfl (lv_at hl 1 rfl) ?_
    exact hq y2_2 () _ _ _ _ hv hP hD hS d_XPe_lastOfSpan_44
  have hv := hv.2 cd
  refine lv_aload_n hx hb d_XPe_lastOfSpan_22 rfl (lv_at hl 0 rfl) ?_
  refine lv_iload_n hx hb d_XPe_lastOfSpan_23 rfl (lv_at hl 1 rfl) ?_
  refine lv_iconst (v := (1 : Int32)) hx hb d_XPe_lastOfSpan_24 (by decide) ?_
  refine lv_iadd hx hb d_XPe_lastOfSpan_25 ?_
  have hPc := hP.sub (ws' := [(h_p0, .inr (4, [.int v_p0_channels, .ref h_p0_counts, .ref h_p0_ground, .ref h_p0_former])), (h_p0_counts, .inl (kI, N, .inl v_p0_counts)), (h_p0_ground, .inl (kI, N, .inl v_p0_ground))]) [0, 1, 2] rfl
  have hDc := hD.sub (ws' := [(h_p0, .inr (4, [.int v_p0_channels, .ref h_p0_counts, .ref h_p0_ground, .ref h_p0_former])), (h_p0_counts, .inl (kI, N, .inl v_p0_counts)), (h_p0_ground, .inl (kI, N, .inl v_p0_ground))]) [0, 1, 2] (by decide) rfl
  have hFc := va_free (wc := [(h_p0, .inr (4, [.int v_p0_channels, .ref h_p0_counts, .ref h_p0_ground, .ref h_p0_former])), (h_p0_counts, .inl (kI, N, .inl v_p0_counts)), (h_p0_ground, .inl (kI, N, .inl v_p0_ground))]) hD hS hA [0, 1, 2] rfl
  refine va_calli (va_runV (As := [.int (y2_2 + (1 : Int32))]) (rest := []) ⟨hx, hb, hml, hown, hts⟩ (c_XSp_netAt l dC dI kI kJ kZ kII kJJ N h_p0 h_p0_counts h_p0_ground h_p0_former v_p0_channels v_p0_counts v_p0_ground (y2_2 + (1 : Int32)) H.size _ hv) (cwV 1 hts (gV tk_389 tk_208 ts_XSp_netAt tk_3 tc_XSp_netAt) rfl rfl rfl (by decide +kernel) ⟨Nat.le_of_ble_eq_true rfl, Nat.le_of_ble_eq_true rfl⟩) ⟨px_blind g0_mv, va_recv hK hPc (ci := 4) (q0 := 0) rfl rfl, px_pre g0_mv hPc hK hDc trivial hS hFc⟩ rfl rfl hl.1 rfl (lv_room (Nat.le_of_ble_eq_true rfl)) d_XPe_lastOfSpan_26 ⟨Nat.le_of_ble_eq_true rfl, Nat.le_of_ble_eq_true rfl⟩) hS (fun q _ h => hFc q h) hFc (fun r_2 u t H1 locs ht hvm hv hB hz1 hk1 hS => ?_)
  obtain ⟨⟩ := u
  obtain ⟨hP, hD⟩ := cj_join (wr := []) (w1 := [(h_p0, .inr (4, [.int v_p0_channels, .ref h_p0_counts, .ref h_p0_ground, .ref h_p0_former])), (h_p0_counts, .inl (kI, N, .inl v_p0_counts)), (h_p0_ground, .inl (kI, N, .inl v_p0_ground))]) hP hD [0, 1, 2] [] rfl rfl (by decide) (by decide) hk1 hFc ht hB
  generalize H1 = H at hP hS ⊢
  have hP : va_P (dC, dI) vwCl [(h_p0, .inr (4, [.int v_p0_channels, .ref h_p0_counts, .ref h_p0_ground, .ref h_p0_former])), (h_p0_counts, .inl (kI, N, .inl v_p0_counts)), (h_p0_ground, .inl (kI, N, .inl v_p0_ground))] H := hP.sub [0, 1, 2] rfl
  have hD : va_D A [(h_p0, .inr (4, [.int v_p0_channels, .ref h_p0_counts, .ref h_p0_ground, .ref h_p0_former])), (h_p0_counts, .inl (kI, N, .inl v_p0_counts)), (h_p0_ground, .inl (kI, N, .inl v_p0_ground))] := hD.sub [0, 1, 2] (by decide) rfl
  refine lv_aload_n hx hb d_XPe_lastOfSpan_29 rfl (lv_at hl 0 rfl) ?_
  refine lv_iload_n hx hb d_XPe_lastOfSpan_30 rfl (lv_at hl 1 rfl) ?_
  have hPc := hP.sub (ws' := [(h_p0, .inr (4, [.int v_p0_channels, .ref h_p0_counts, .ref h_p0_ground, .ref h_p0_former])), (h_p0_counts, .inl (kI, N, .inl v_p0_counts)), (h_p0_ground, .inl (kI, N, .inl v_p0_ground))]) [0, 1, 2] rfl
  have hDc := hD.sub (ws' := [(h_p0, .inr (4, [.int v_p0_channels, .ref h_p0_counts, .ref h_p0_ground, .ref h_p0_former])), (h_p0_counts, .inl (kI, N, .inl v_p0_counts)), (h_p0_ground, .inl (kI, N, .inl v_p0_ground))]) [0, 1, 2] (by decide) rfl
  have hFc := va_free (wc := [(h_p0, .inr (4, [.int v_p0_channels, .ref h_p0_counts, .ref h_p0_ground, .ref h_p0_former])), (h_p0_counts, .inl (kI, N, .inl v_p0_counts)), (h_p0_ground, .inl (kI, N, .inl v_p0_ground))]) hD hS hA [0, 1, 2] rfl
  refine va_calli (va_runV (As := [.int y2_2]) (rest := [.int r_2]) ⟨hx, hb, hml, hown, hts⟩ (c_XSp_netAt l dC dI kI kJ kZ kII kJJ N h_p0 h_p0_counts h_p0_ground h_p0_former v_p0_channels v_p0_counts v_p0_ground y2_2 H.size _ hv) (cwV 1 hts (gV tk_389 tk_208 ts_XSp_netAt tk_3 tc_XSp_netAt) rfl rfl rfl (by decide +kernel) ⟨Nat.le_of_ble_eq_true rfl, Nat.le_of_ble_eq_true rfl⟩) ⟨px_blind g0_mv, va_recv hK hPc (ci := 4) (q0 := 0) rfl rfl, px_pre g0_mv hPc hK hDc trivial hS hFc⟩ rfl rfl hl.1 rfl (lv_room (Nat.le_of_ble_eq_true rfl)) d_XPe_lastOfSpan_31 ⟨Nat.le_of_ble_eq_true rfl, Nat.le_of_ble_eq_true rfl⟩) hS (fun q _ h => hFc q h) hFc (fun r_3 u t H1 locs ht hvm hv hB hz1 hk1 hS => ?_)
  obtain ⟨⟩ := u
  obtain ⟨hP, hD⟩ := cj_join (wr := []) (w1 := [(h_p0, .inr (4, [.int v_p0_channels, .ref h_p0_counts, .ref h_p0_ground, .ref h_p0_former])), (h_p0_counts, .inl (kI, N, .inl v_p0_counts)), (h_p0_ground, .inl (kI, N, .inl v_p0_ground))]) hP hD [0, 1, 2] [] rfl rfl (by decide) (by decide) hk1 hFc ht hB
  generalize H1 = H at hP hS ⊢
  have hP : va_P (dC, dI) vwCl [(h_p0, .inr (4, [.int v_p0_channels, .ref h_p0_counts, .ref h_p0_ground, .ref h_p0_former])), (h_p0_counts, .inl (kI, N, .inl v_p0_counts)), (h_p0_ground, .inl (kI, N, .inl v_p0_ground))] H := hP.sub [0, 1, 2] rfl
  have hD : va_D A [(h_p0, .inr (4, [.int v_p0_channels, .ref h_p0_counts, .ref h_p0_ground, .ref h_p0_former])), (h_p0_counts, .inl (kI, N, .inl v_p0_counts)), (h_p0_ground, .inl (kI, N, .inl v_p0_ground))] := hD.sub [0, 1, 2] (by decide) rfl
  refine lv_icmp_gt (tgt := 43) hx hb d_XPe_lastOfSpan_34 (by decide) (fun cd => ?_) (fun cd => ?_)
  · have hv := hv.1 cd
    refine lv_iload_n hx hb d_XPe_lastOfSpan_43 rfl (lv_at hl 1 rfl) ?_
    exact hq y2_2 () _ _ _ _ hv hP hD hS d_XPe_lastOfSpan_44
  have hv := hv.2 cd
  refine lv_iinc (v := (y2_2 + (1 : Int32))) (lv' := [(2, .int (y2_2 + (1 : Int32))), (0, .ref h_p0)]) hx hb d_XPe_lastOfSpan_37 hl (k := 1) rfl rfl (by decide) rfl (fun ls hl => ?_)
  refine lv_goto (tgt := 2) hx hb d_XPe_lastOfSpan_40 (by decide) ?_
  exact hR_2 _ hv _ _ _ hP hD hS (lv_sub hl [1, 0] rfl)
set_option maxRecDepth 100000 in
set_option maxHeartbeats 4000000 in
/-- SpectrumParts$PeakList.keep -/
theorem c_XPe_keep (l : Launch) (dC : Nat → ClassId) (dI : Nat → Nat → Nat) (kI kJ kZ kII kJJ : ClassId) (N : Nat) (h_p1 : Nat) (h_p1_counts : Nat) (h_p1_ground : Nat) (h_p1_former : Nat) (h_this : Nat) (h_rows : Nat) (g_rows : Nat → Nat) (v_p1_channels : Int32) (v_p1_counts : Nat → Int32) (v_p1_ground : Nat → Int32) (v_size : Int32) (v_rows : Nat → Nat → Int32) (a2 : Int32) (sz : Nat) (post : Int32 → (Nat → Nat → Int32) → Prop) (hv : vc_XPe_keep post N v_p1_channels v_p1_counts v_p1_ground v_size v_rows a2) :
    Met l y_XPe_keep w_XPe_keep ({ frames := 3, cells := 0, slots := 0, locals := 64 }) (va_Pc [.ref h_this, .ref h_p1, .int a2] (px_B g0 (dC, dI) vwCl (tysv kI kJ kZ kII kJJ) (wq [(h_p1, .inr (4, [.int v_p1_channels, .ref h_p1_counts, .ref h_p1_ground, .ref h_p1_former])), (h_p1_counts, .inl (kI, N, .inl v_p1_counts)), (h_p1_ground, .inl (kI, N, .inl v_p1_ground)), (h_this, .inr (2, [.ref h_rows, .int v_size])), (h_rows, .inl (kII, 5, .inr (.inr (.inr (.inr (gq 5 g_rows))))))] (wq (gi5 g_rows kI N v_rows) [])) sz))
      (va_Qv (fun (u : (Int32) × (Nat → Nat → Int32)) => post u.1 u.2) (fun (u : (Int32) × (Nat → Nat → Int32)) => ax_B (va_A (wq [(h_p1, .inr (4, [.int v_p1_channels, .ref h_p1_counts, .ref h_p1_ground, .ref h_p1_former])), (h_p1_counts, .inl (kI, N, .inl v_p1_counts)), (h_p1_ground, .inl (kI, N, .inl v_p1_ground)), (h_this, .inr (2, [.ref h_rows, .int v_size])), (h_rows, .inl (kII, 5, .inr (.inr (.inr (.inr (gq 5 g_rows))))))] (wq (gi5 g_rows kI N v_rows) [])) sz) (dC, dI) vwCl (tysv kI kJ kZ kII kJJ) (wq [(h_p1, .inr (4, [.int v_p1_channels, .ref h_p1_counts, .ref h_p1_ground, .ref h_p1_former])), (h_p1_counts, .inl (kI, N, .inl v_p1_counts)), (h_p1_ground, .inl (kI, N, .inl v_p1_ground)), (h_this, .inr (2, [.ref h_rows, .int u.1])), (h_rows, .inl (kII, 5, .inr (.inr (.inr (.inr (gq 5 g_rows))))))] (wq (gi5 g_rows kI N u.2) []))) (va_A (wq [(h_p1, .inr (4, [.int v_p1_channels, .ref h_p1_counts, .ref h_p1_ground, .ref h_p1_former])), (h_p1_counts, .inl (kI, N, .inl v_p1_counts)), (h_p1_ground, .inl (kI, N, .inl v_p1_ground)), (h_this, .inr (2, [.ref h_rows, .int v_size])), (h_rows, .inl (kII, 5, .inr (.inr (.inr (.inr (gq 5 g_rows))))))] (wq (gi5 g_rows kI N v_rows) [])) sz)) 0 0 (va_A (wq [(h_p1, .inr (4, [.int v_p1_channels, .ref h_p1_counts, .ref h_p1_ground, .ref h_p1_former])), (h_p1_counts, .inl (kI, N, .inl v_p1_counts)), (h_p1_ground, .inl (kI, N, .inl v_p1_ground)), (h_this, .inr (2, [.ref h_rows, .int v_size])), (h_rows, .inl (kII, 5, .inr (.inr (.inr (.inr (gq 5 g_rows))))))] (wq (gi5 g_rows kI N v_rows) [])) sz) := by
  refine pxv (cc := b_XPe_keep) (maxL := 7) (wd := fun (u : (Int32) × (Nat → Nat → Int32)) => (wq [(h_p1, .inr (4, [.int v_p1_channels, .ref h_p1_counts, .ref h_p1_ground, .ref h_p1_former])), (h_p1_counts, .inl (kI, N, .inl v_p1_counts)), (h_p1_ground, .inl (kI, N, .inl v_p1_ground)), (h_this, .inr (2, [.ref h_rows, .int u.1])), (h_rows, .inl (kII, 5, .inr (.inr (.inr (.inr (gq 5 g_rows))))))] (wq (gi5 g_rows kI N u.2) []))) (by decide +kernel) rfl (Nat.le_of_ble_eq_true rfl) ?_
  intro p e s m below meth c A ls Q H hx hb hml hts hown hK hG hP hD hS hA hl hq
  have hts := fun w h => hts w (List.mem_cons_of_mem _ h)
  have hown : s.vm.findClass R_XPe = some m.cls := hown
  have hl : lv_has ls 7 [(0, .ref h_this), (1, .ref h_p1), (2, .int a2)] := hl
  unfold vc_XPe_keep at hv
  refine lv_aload_n hx hb d_XPe_keep_0 rfl (lv_at hl 1 rfl) ?_
  refine lv_iload_n hx hb d_XPe_keep_1 rfl (lv_at hl 2 rfl) ?_
  have hPc := hP.sub (ws' := [(h_p1, .inr (4, [.int v_p1_channels, .ref h_p1_counts, .ref h_p1_ground, .ref h_p1_former])), (h_p1_counts, .inl (kI, N, .inl v_p1_counts)), (h_p1_ground, .inl (kI, N, .inl v_p1_ground))]) [0, 1, 2] rfl
  have hDc := hD.sub (ws' := [(h_p1, .inr (4, [.int v_p1_channels, .ref h_p1_counts, .ref h_p1_ground, .ref h_p1_former])), (h_p1_counts, .inl (kI, N, .inl v_p1_counts)), (h_p1_ground, .inl (kI, N, .inl v_p1_ground))]) [0, 1, 2] (by decide) rfl
  have hFc := va_free (wc := [(h_p1, .inr (4, [.int v_p1_channels, .ref h_p1_counts, .ref h_p1_ground, .ref h_p1_former])), (h_p1_counts, .inl (kI, N, .inl v_p1_counts)), (h_p1_ground, .inl (kI, N, .inl v_p1_ground))]) hD hS hA [0, 1, 2] rfl
  refine va_calli (va_runS (As := [.ref h_p1, .int a2]) (rest := []) ⟨hx, hb, hml, hown, hts⟩ (c_XPe_firstOfSpan l dC dI kI kJ kZ kII kJJ N h_p1 h_p1_counts h_p1_ground h_p1_former v_p1_channels v_p1_counts v_p1_ground a2 H.size _ hv) (cwS 2 hts (gS tk_397 tk_398 tk_4 tc_XPe_firstOfSpan) rfl rfl rfl (by decide +kernel) ⟨Nat.le_of_ble_eq_true rfl, Nat.le_of_ble_eq_true rfl⟩) ⟨px_blind g0_mv, px_pre g0_mv hPc hK hDc trivial hS hFc⟩ rfl rfl hl.1 rfl (lv_room (Nat.le_of_ble_eq_true rfl)) d_XPe_keep_2 ⟨Nat.le_of_ble_eq_true rfl, Nat.le_of_ble_eq_true rfl⟩) hS (fun q _ h => hFc q h) hFc (fun r_1 u t H1 locs ht hvm hv hB hz1 hk1 hS => ?_)
  obtain ⟨⟩ := u
  obtain ⟨hP, hD⟩ := cj_join (wr := (wq [(h_this, .inr (2, [.ref h_rows, .int v_size])), (h_rows, .inl (kII, 5, .inr (.inr (.inr (.inr (gq 5 g_rows))))))] (wq (gi5 g_rows kI N v_rows) []))) (w1 := [(h_p1, .inr (4, [.int v_p1_channels, .ref h_p1_counts, .ref h_p1_ground, .ref h_p1_former])), (h_p1_counts, .inl (kI, N, .inl v_p1_counts)), (h_p1_ground, .inl (kI, N, .inl v_p1_ground))]) hP hD [0, 1, 2] [3, 4, 5, 6, 7, 8, 9] rfl rfl (by decide) (by decide) hk1 hFc ht hB
  generalize H1 = H at hP hS ⊢
  have hP : va_P (dC, dI) vwCl (wq [(h_p1, .inr (4, [.int v_p1_channels, .ref h_p1_counts, .ref h_p1_ground, .ref h_p1_former])), (h_p1_counts, .inl (kI, N, .inl v_p1_counts)), (h_p1_ground, .inl (kI, N, .inl v_p1_ground)), (h_this, .inr (2, [.ref h_rows, .int v_size])), (h_rows, .inl (kII, 5, .inr (.inr (.inr (.inr (gq 5 g_rows))))))] (wq (gi5 g_rows kI N v_rows) [])) H := hP.sub [7, 8, 9, 0, 1, 2, 3, 4, 5, 6] rfl
  have hD : va_D A (wq [(h_p1, .inr (4, [.int v_p1_channels, .ref h_p1_counts, .ref h_p1_ground, .ref h_p1_former])), (h_p1_counts, .inl (kI, N, .inl v_p1_counts)), (h_p1_ground, .inl (kI, N, .inl v_p1_ground)), (h_this, .inr (2, [.ref h_rows, .int v_size])), (h_rows, .inl (kII, 5, .inr (.inr (.inr (.inr (gq 5 g_rows))))))] (wq (gi5 g_rows kI N v_rows) [])) := hD.sub [7, 8, 9, 0, 1, 2, 3, 4, 5, 6] (by decide) rfl
  refine lv_istore_n (lv' := [(3, .int r_1), (0, .ref h_this), (1, .ref h_p1), (2, .int a2)]) hx hb d_XPe_keep_5 rfl hl (by decide) rfl (fun ls hl => ?_)
  refine lv_aload_n hx hb d_XPe_keep_6 rfl (lv_at hl 2 rfl) ?_
  refine lv_iload_n hx hb d_XPe_keep_7 rfl (lv_at hl 3 rfl) ?_
  have hPc := hP.sub (ws' := [(h_p1, .inr (4, [.int v_p1_channels, .ref h_p1_counts, .ref h_p1_ground, .ref h_p1_former])), (h_p1_counts, .inl (kI, N, .inl v_p1_counts)), (h_p1_ground, .inl (kI, N, .inl v_p1_ground))]) [0, 1, 2] rfl
  have hDc := hD.sub (ws' := [(h_p1, .inr (4, [.int v_p1_channels, .ref h_p1_counts, .ref h_p1_ground, .ref h_p1_former])), (h_p1_counts, .inl (kI, N, .inl v_p1_counts)), (h_p1_ground, .inl (kI, N, .inl v_p1_ground))]) [0, 1, 2] (by decide) rfl
  have hFc := va_free (wc := [(h_p1, .inr (4, [.int v_p1_channels, .ref h_p1_counts, .ref h_p1_ground, .ref h_p1_former])), (h_p1_counts, .inl (kI, N, .inl v_p1_counts)), (h_p1_ground, .inl (kI, N, .inl v_p1_ground))]) hD hS hA [0, 1, 2] rfl
  refine va_calli (va_runS (As := [.ref h_p1, .int a2]) (rest := []) ⟨hx, hb, hml, hown, hts⟩ (c_XPe_lastOfSpan l dC dI kI kJ kZ kII kJJ N h_p1 h_p1_counts h_p1_ground h_p1_former v_p1_channels v_p1_counts v_p1_ground a2 H.size _ hv) (cwS 2 hts (gS tk_400 tk_401 tk_4 tc_XPe_lastOfSpan) rfl rfl rfl (by decide +kernel) ⟨Nat.le_of_ble_eq_true rfl, Nat.le_of_ble_eq_true rfl⟩) ⟨px_blind g0_mv, px_pre g0_mv hPc hK hDc trivial hS hFc⟩ rfl rfl hl.1 rfl (lv_room (Nat.le_of_ble_eq_true rfl)) d_XPe_keep_8 ⟨Nat.le_of_ble_eq_true rfl, Nat.le_of_ble_eq_true rfl⟩) hS (fun q _ h => hFc q h) hFc (fun r_2 u t H1 locs ht hvm hv hB hz1 hk1 hS => ?_)
  obtain ⟨⟩ := u
  obtain ⟨hP, hD⟩ := cj_join (wr := (wq [(h_this, .inr (2, [.ref h_rows, .int v_size])), (h_rows, .inl (kII, 5, .inr (.inr (.inr (.inr (gq 5 g_rows))))))] (wq (gi5 g_rows kI N v_rows) []))) (w1 := [(h_p1, .inr (4, [.int v_p1_channels, .ref h_p1_counts, .ref h_p1_ground, .ref h_p1_former])), (h_p1_counts, .inl (kI, N, .inl v_p1_counts)), (h_p1_ground, .inl (kI, N, .inl v_p1_ground))]) hP hD [0, 1, 2] [3, 4, 5, 6, 7, 8, 9] rfl rfl (by decide) (by decide) hk1 hFc ht hB
  generalize H1 = H at hP hS ⊢
  have hP : va_P (dC, dI) vwCl (wq [(h_p1, .inr (4, [.int v_p1_channels, .ref h_p1_counts, .ref h_p1_ground, .ref h_p1_former])), (h_p1_counts, .inl (kI, N, .inl v_p1_counts)), (h_p1_ground, .inl (kI, N, .inl v_p1_ground)), (h_this, .inr (2, [.ref h_rows, .int v_size])), (h_rows, .inl (kII, 5, .inr (.inr (.inr (.inr (gq 5 g_rows))))))] (wq (gi5 g_rows kI N v_rows) [])) H := hP.sub [7, 8, 9, 0, 1, 2, 3, 4, 5, 6] rfl
  have hD : va_D A (wq [(h_p1, .inr (4, [.int v_p1_channels, .ref h_p1_counts, .ref h_p1_ground, .ref h_p1_former])), (h_p1_counts, .inl (kI, N, .inl v_p1_counts)), (h_p1_ground, .inl (kI, N, .inl v_p1_ground)), (h_this, .inr (2, [.ref h_rows, .int v_size])), (h_rows, .inl (kII, 5, .inr (.inr (.inr (.inr (gq 5 g_rows))))))] (wq (gi5 g_rows kI N v_rows) [])) := hD.sub [7, 8, 9, 0, 1, 2, 3, 4, 5, 6] (by decide) rfl
  refine lv_istore (lv' := [(4, .int r_2), (3, .int r_1), (0, .ref h_this), (1, .ref h_p1), (2, .int a2)]) hx hb d_XPe_keep_11 hl (by decide) rfl (fun ls hl => ?_)
  refine lv_iconst (v := (0 : Int32)) hx hb d_XPe_keep_13 (by decide) ?_
  refine lv_istore (lv' := [(5, .int (0 : Int32)), (4, .int r_2), (3, .int r_1), (0, .ref h_this), (1, .ref h_p1), (2, .int a2)]) hx hb d_XPe_keep_14 hl (by decide) rfl (fun ls hl => ?_)
  refine lv_iload_n hx hb d_XPe_keep_16 rfl (lv_at hl 2 rfl) ?_
  refine lv_istore (lv' := [(6, .int r_1), (5, .int (0 : Int32)), (4, .int r_2), (3, .int r_1), (0, .ref h_this), (1, .ref h_p1), (2, .int a2)]) hx hb d_XPe_keep_17 hl (by decide) rfl (fun ls hl => ?_)
  obtain ⟨n_19, hv⟩ := hv
  refine vlp2_W (P := fun (y5_19 : Int32) (y6_19 : Int32) => wst p l e (headSpec w_XPe_keep ({ frames := 3, cells := 0, slots := 0, locals := 64 })).room s m ([.ref h_this, .ref h_p1, .int a2] : List Value).toArray below meth c dC dI A 7 Q (wq [(h_p1, .inr (4, [.int v_p1_channels, .ref h_p1_counts, .ref h_p1_ground, .ref h_p1_former])), (h_p1_counts, .inl (kI, N, .inl v_p1_counts)), (h_p1_ground, .inl (kI, N, .inl v_p1_ground)), (h_this, .inr (2, [.ref h_rows, .int v_size])), (h_rows, .inl (kII, 5, .inr (.inr (.inr (.inr (gq 5 g_rows))))))] (wq (gi5 g_rows kI N v_rows) [])) [(0, .ref h_this), (1, .ref h_p1), (2, .int a2), (3, .int r_1), (4, .int r_2), (5, .int y5_19), (6, .int y6_19)] 19 [] 0 0) ?_ n_19 _ _ hv _ _ _ hP hD hS (lv_sub hl [4, 5, 6, 3, 2, 1, 0] rfl)
  intro R_19 hR_19 y5_19 y6_19 hv H locs ls hP hD hS hl
  refine lv_iload hx hb d_XPe_keep_19 (lv_at hl 6 rfl) ?_
  refine lv_iload hx hb d_XPe_keep_21 (lv_at hl 4 rfl) ?_
  refine lv_icmp_gt (tgt := 43) hx hb d_XPe_keep_23 (by decide) (fun cd => ?_) (fun cd => ?_)
  · have hv := hv.1 cd
    refine lv_aload_n hx hb d_XPe_keep_43 rfl (lv_at hl 0 rfl) ?_
    refine va_get (D := (dC, dI)) (ci := 2) (v := .ref h_rows) (C := R_XPe) (T := T_XPe) (N := 2) hx hb hts i_XPe hown hK hP 3 rfl rfl 0 (by decide) (hts _ tk_64) (fun _ h9 => h9) rfl d_XPe_keep_44 ?_
    refine lv_iconst (v := (0 : Int32)) hx hb d_XPe_keep_47 (by decide) ?_
    have hj_3 := gj_lt hv.1
    refine gx_ald hx hb hK hP 4 3 rfl rfl hv.1 d_XPe_keep_48 ?_
    have hv := hv.2
    refine lv_aload_n hx hb d_XPe_keep_49 rfl (lv_at hl 0 rfl) ?_
    refine va_get (D := (dC, dI)) (ci := 2) (v := .int v_size) (C := R_XPe) (T := T_XPe) (N := 2) hx hb hts i_XPe hown hK hP 3 rfl rfl 1 (by decide) (hts _ tk_66) (fun _ h9 => h9) rfl d_XPe_keep_50 ?_
    refine lv_iload_n hx hb d_XPe_keep_53 rfl (lv_at hl 2 rfl) ?_
    refine gi5_st (pre := [(h_p1, .inr (4, [.int v_p1_channels, .ref h_p1_counts, .ref h_p1_ground, .ref h_p1_former])), (h_p1_counts, .inl (kI, N, .inl v_p1_counts)), (h_p1_ground, .inl (kI, N, .inl v_p1_ground)), (h_this, .inr (2, [.ref h_rows, .int v_size])), (h_rows, .inl (kII, 5, .inr (.inr (.inr (.inr (gq 5 g_rows))))))]) (suf := []) hx hb hK hP hD hS 0 rfl hj_3 hv.1 d_XPe_keep_54 (fun H locs hP hD hS => ?_)
    have hv := hv.2
    have hP : va_P (dC, dI) vwCl (wq [(h_p1, .inr (4, [.int v_p1_channels, .ref h_p1_counts, .ref h_p1_ground, .ref h_p1_former])), (h_p1_counts, .inl (kI, N, .inl v_p1_counts)), (h_p1_ground, .inl (kI, N, .inl v_p1_ground)), (h_this, .inr (2, [.ref h_rows, .int v_size])), (h_rows, .inl (kII, 5, .inr (.inr (.inr (.inr (gq 5 g_rows))))))] (wq (gi5 g_rows kI N (gseti v_rows ((0 : Int32).toNatClampNeg) v_size.toNatClampNeg a2)) [])) H := hP
    have hD : va_D A (wq [(h_p1, .inr (4, [.int v_p1_channels, .ref h_p1_counts, .ref h_p1_ground, .ref h_p1_former])), (h_p1_counts, .inl (kI, N, .inl v_p1_counts)), (h_p1_ground, .inl (kI, N, .inl v_p1_ground)), (h_this, .inr (2, [.ref h_rows, .int v_size])), (h_rows, .inl (kII, 5, .inr (.inr (.inr (.inr (gq 5 g_rows))))))] (wq (gi5 g_rows kI N (gseti v_rows ((0 : Int32).toNatClampNeg) v_size.toNatClampNeg a2)) [])) := hD
    refine lv_aload_n hx hb d_XPe_keep_55 rfl (lv_at hl 0 rfl) ?_
    refine va_get (D := (dC, dI)) (ci := 2) (v := .ref h_rows) (C := R_XPe) (T := T_XPe) (N := 2) hx hb hts i_XPe hown hK hP 3 rfl rfl 0 (by decide) (hts _ tk_64) (fun _ h9 => h9) rfl d_XPe_keep_56 ?_
    refine lv_iconst (v := (1 : Int32)) hx hb d_XPe_keep_59 (by decide) ?_
    have hj_4 := gj_lt hv.1
    refine gx_ald hx hb hK hP 4 3 rfl rfl hv.1 d_XPe_keep_60 ?_
    have hv := hv.2
    refine lv_aload_n hx hb d_XPe_keep_61 rfl (lv_at hl 0 rfl) ?_
    refine va_get (D := (dC, dI)) (ci := 2) (v := .int v_size) (C := R_XPe) (T := T_XPe) (N := 2) hx hb hts i_XPe hown hK hP 3 rfl rfl 1 (by decide) (hts _ tk_66) (fun _ h9 => h9) rfl d_XPe_keep_62 ?_
    refine lv_aload_n hx hb d_XPe_keep_65 rfl (lv_at hl 1 rfl) ?_
    refine lv_iload_n hx hb d_XPe_keep_66 rfl (lv_at hl 2 rfl) ?_
    have hPc := hP.sub (ws' := [(h_p1, .inr (4, [.int v_p1_channels, .ref h_p1_counts, .ref h_p1_ground, .ref h_p1_former])), (h_p1_counts, .inl (kI, N, .inl v_p1_counts)), (h_p1_ground, .inl (kI, N, .inl v_p1_ground))]) [0, 1, 2] rfl
    have hDc := hD.sub (ws' := [(h_p1, .inr (4, [.int v_p1_channels, .ref h_p1_counts, .ref h_p1_ground, .ref h_p1_former])), (h_p1_counts, .inl (kI, N, .inl v_p1_counts)), (h_p1_ground, .inl (kI, N, .inl v_p1_ground))]) [0, 1, 2] (by decide) rfl
    have hFc := va_free (wc := [(h_p1, .inr (4, [.int v_p1_channels, .ref h_p1_counts, .ref h_p1_ground, .ref h_p1_former])), (h_p1_counts, .inl (kI, N, .inl v_p1_counts)), (h_p1_ground, .inl (kI, N, .inl v_p1_ground))]) hD hS hA [0, 1, 2] rfl
    refine va_calli (va_runV (As := [.int a2]) (rest := [.int v_size, .ref (g_rows ((1 : Int32).toNatClampNeg))]) ⟨hx, hb, hml, hown, hts⟩ (c_XSp_netAt l dC dI kI kJ kZ kII kJJ N h_p1 h_p1_counts h_p1_ground h_p1_former v_p1_channels v_p1_counts v_p1_ground a2 H.size _ hv) (cwV 1 hts (gV tk_389 tk_208 ts_XSp_netAt tk_3 tc_XSp_netAt) rfl rfl rfl (by decide +kernel) ⟨Nat.le_of_ble_eq_true rfl, Nat.le_of_ble_eq_true rfl⟩) ⟨px_blind g0_mv, va_recv hK hPc (ci := 4) (q0 := 0) rfl rfl, px_pre g0_mv hPc hK hDc trivial hS hFc⟩ rfl rfl hl.1 rfl (lv_room (Nat.le_of_ble_eq_true rfl)) d_XPe_keep_67 ⟨Nat.le_of_ble_eq_true rfl, Nat.le_of_ble_eq_true rfl⟩) hS (fun q _ h => hFc q h) hFc (fun r_5 u t H1 locs ht hvm hv hB hz1 hk1 hS => ?_)
    obtain ⟨⟩ := u
    obtain ⟨hP, hD⟩ := cj_join (wr := (wq [(h_this, .inr (2, [.ref h_rows, .int v_size])), (h_rows, .inl (kII, 5, .inr (.inr (.inr (.inr (gq 5 g_rows))))))] (wq (gi5 g_rows kI N (gseti v_rows ((0 : Int32).toNatClampNeg) v_size.toNatClampNeg a2)) []))) (w1 := [(h_p1, .inr (4, [.int v_p1_channels, .ref h_p1_counts, .ref h_p1_ground, .ref h_p1_former])), (h_p1_counts, .inl (kI, N, .inl v_p1_counts)), (h_p1_ground, .inl (kI, N, .inl v_p1_ground))]) hP hD [0, 1, 2] [3, 4, 5, 6, 7, 8, 9] rfl rfl (by decide) (by decide) hk1 hFc ht hB
    generalize H1 = H at hP hS ⊢
    have hP : va_P (dC, dI) vwCl (wq [(h_p1, .inr (4, [.int v_p1_channels, .ref h_p1_counts, .ref h_p1_ground, .ref h_p1_former])), (h_p1_counts, .inl (kI, N, .inl v_p1_counts)), (h_p1_ground, .inl (kI, N, .inl v_p1_ground)), (h_this, .inr (2, [.ref h_rows, .int v_size])), (h_rows, .inl (kII, 5, .inr (.inr (.inr (.inr (gq 5 g_rows))))))] (wq (gi5 g_rows kI N (gseti v_rows ((0 : Int32).toNatClampNeg) v_size.toNatClampNeg a2)) [])) H := hP.sub [7, 8, 9, 0, 1, 2, 3, 4, 5, 6] rfl
    have hD : va_D A (wq [(h_p1, .inr (4, [.int v_p1_channels, .ref h_p1_counts, .ref h_p1_ground, .ref h_p1_former])), (h_p1_counts, .inl (kI, N, .inl v_p1_counts)), (h_p1_ground, .inl (kI, N, .inl v_p1_ground)), (h_this, .inr (2, [.ref h_rows, .int v_size])), (h_rows, .inl (kII, 5, .inr (.inr (.inr (.inr (gq 5 g_rows))))))] (wq (gi5 g_rows kI N (gseti v_rows ((0 : Int32).toNatClampNeg) v_size.toNatClampNeg a2)) [])) := hD.sub [7, 8, 9, 0, 1, 2, 3, 4, 5, 6] (by decide) rfl
    refine gi5_st (pre := [(h_p1, .inr (4, [.int v_p1_channels, .ref h_p1_counts, .ref h_p1_ground, .ref h_p1_former])), (h_p1_counts, .inl (kI, N, .inl v_p1_counts)), (h_p1_ground, .inl (kI, N, .inl v_p1_ground)), (h_this, .inr (2, [.ref h_rows, .int v_size])), (h_rows, .inl (kII, 5, .inr (.inr (.inr (.inr (gq 5 g_rows))))))]) (suf := []) hx hb hK hP hD hS 0 rfl hj_4 hv.1 d_XPe_keep_70 (fun H locs hP hD hS => ?_)
    have hv := hv.2
    have hP : va_P (dC, dI) vwCl (wq [(h_p1, .inr (4, [.int v_p1_channels, .ref h_p1_counts, .ref h_p1_ground, .ref h_p1_former])), (h_p1_counts, .inl (kI, N, .inl v_p1_counts)), (h_p1_ground, .inl (kI, N, .inl v_p1_ground)), (h_this, .inr (2, [.ref h_rows, .int v_size])), (h_rows, .inl (kII, 5, .inr (.inr (.inr (.inr (gq 5 g_rows))))))] (wq (gi5 g_rows kI N (gseti (gseti v_rows ((0 : Int32).toNatClampNeg) v_size.toNatClampNeg a2) ((1 : Int32).toNatClampNeg) v_size.toNatClampNeg r_5)) [])) H := hP
    have hD : va_D A (wq [(h_p1, .inr (4, [.int v_p1_channels, .ref h_p1_counts, .ref h_p1_ground, .ref h_p1_former])), (h_p1_counts, .inl (kI, N, .inl v_p1_counts)), (h_p1_ground, .inl (kI, N, .inl v_p1_ground)), (h_this, .inr (2, [.ref h_rows, .int v_size])), (h_rows, .inl (kII, 5, .inr (.inr (.inr (.inr (gq 5 g_rows))))))] (wq (gi5 g_rows kI N (gseti (gseti v_rows ((0 : Int32).toNatClampNeg) v_size.toNatClampNeg a2) ((1 : Int32).toNatClampNeg) v_size.toNatClampNeg r_5)) [])) := hD
    refine lv_aload_n hx hb d_XPe_keep_71 rfl (lv_at hl 0 rfl) ?_
    refine va_get (D := (dC, dI)) (ci := 2) (v := .ref h_rows) (C := R_XPe) (T := T_XPe) (N := 2) hx hb hts i_XPe hown hK hP 3 rfl rfl 0 (by decide) (hts _ tk_64) (fun _ h9 => h9) rfl d_XPe_keep_72 ?_
    refine lv_iconst (v := (2 : Int32)) hx hb d_XPe_keep_75 (by decide) ?_
    have hj_6 := gj_lt hv.1
    refine gx_ald hx hb hK hP 4 3 rfl rfl hv.1 d_XPe_keep_76 ?_
    have hv := hv.2
    refine lv_aload_n hx hb d_XPe_keep_77 rfl (lv_at hl 0 rfl) ?_
    refine va_get (D := (dC, dI)) (ci := 2) (v := .int v_size) (C := R_XPe) (T := T_XPe) (N := 2) hx hb hts i_XPe hown hK hP 3 rfl rfl 1 (by decide) (hts _ tk_66) (fun _ h9 => h9) rfl d_XPe_keep_78 ?_
    refine lv_iload hx hb d_XPe_keep_81 (lv_at hl 5 rfl) ?_
    refine gi5_st (pre := [(h_p1, .inr (4, [.int v_p1_channels, .ref h_p1_counts, .ref h_p1_ground, .ref h_p1_former])), (h_p1_counts, .inl (kI, N, .inl v_p1_counts)), (h_p1_ground, .inl (kI, N, .inl v_p1_ground)), (h_this, .inr (2, [.ref h_rows, .int v_size])), (h_rows, .inl (kII, 5, .inr (.inr (.inr (.inr (gq 5 g_rows))))))]) (suf := []) hx hb hK hP hD hS 0 rfl hj_6 hv.1 d_XPe_keep_83 (fun H locs hP hD hS => ?_)
    have hv := hv.2
    have hP : va_P (dC, dI) vwCl (wq [(h_p1, .inr (4, [.int v_p1_channels, .ref h_p1_counts, .ref h_p1_ground, .ref h_p1_former])), (h_p1_counts, .inl (kI, N, .inl v_p1_counts)), (h_p1_ground, .inl (kI, N, .inl v_p1_ground)), (h_this, .inr (2, [.ref h_rows, .int v_size])), (h_rows, .inl (kII, 5, .inr (.inr (.inr (.inr (gq 5 g_rows))))))] (wq (gi5 g_rows kI N (gseti (gseti (gseti v_rows ((0 : Int32).toNatClampNeg) v_size.toNatClampNeg a2) ((1 : Int32).toNatClampNeg) v_size.toNatClampNeg r_5) ((2 : Int32).toNatClampNeg) v_size.toNatClampNeg y5_19)) [])) H := hP
    have hD : va_D A (wq [(h_p1, .inr (4, [.int v_p1_channels, .ref h_p1_counts, .ref h_p1_ground, .ref h_p1_former])), (h_p1_counts, .inl (kI, N, .inl v_p1_counts)), (h_p1_ground, .inl (kI, N, .inl v_p1_ground)), (h_this, .inr (2, [.ref h_rows, .int v_size])), (h_rows, .inl (kII, 5, .inr (.inr (.inr (.inr (gq 5 g_rows))))))] (wq (gi5 g_rows kI N (gseti (gseti (gseti v_rows ((0 : Int32).toNatClampNeg) v_size.toNatClampNeg a2) ((1 : Int32).toNatClampNeg) v_size.toNatClampNeg r_5) ((2 : Int32).toNatClampNeg) v_size.toNatClampNeg y5_19)) [])) := hD
    refine lv_aload_n hx hb d_XPe_keep_84 rfl (lv_at hl 0 rfl) ?_
    refine va_get (D := (dC, dI)) (ci := 2) (v := .ref h_rows) (C := R_XPe) (T := T_XPe) (N := 2) hx hb hts i_XPe hown hK hP 3 rfl rfl 0 (by decide) (hts _ tk_64) (fun _ h9 => h9) rfl d_XPe_keep_85 ?_
    refine lv_iconst (v := (3 : Int32)) hx hb d_XPe_keep_88 (by decide) ?_
    have hj_7 := gj_lt hv.1
    refine gx_ald hx hb hK hP 4 3 rfl rfl hv.1 d_XPe_keep_89 ?_
    have hv := hv.2
    refine lv_aload_n hx hb d_XPe_keep_90 rfl (lv_at hl 0 rfl) ?_
    refine va_get (D := (dC, dI)) (ci := 2) (v := .int v_size) (C := R_XPe) (T := T_XPe) (N := 2) hx hb hts i_XPe hown hK hP 3 rfl rfl 1 (by decide) (hts _ tk_66) (fun _ h9 => h9) rfl d_XPe_keep_91 ?_
    refine lv_iload_n hx hb d_XPe_keep_94 rfl (lv_at hl 3 rfl) ?_
    refine gi5_st (pre := [(h_p1, .inr (4, [.int v_p1_channels, .ref h_p1_counts, .ref h_p1_ground, .ref h_p1_former])), (h_p1_counts, .inl (kI, N, .inl v_p1_counts)), (h_p1_ground, .inl (kI, N, .inl v_p1_ground)), (h_this, .inr (2, [.ref h_rows, .int v_size])), (h_rows, .inl (kII, 5, .inr (.inr (.inr (.inr (gq 5 g_rows))))))]) (suf := []) hx hb hK hP hD hS 0 rfl hj_7 hv.1 d_XPe_keep_95 (fun H locs hP hD hS => ?_)
    have hv := hv.2
    have hP : va_P (dC, dI) vwCl (wq [(h_p1, .inr (4, [.int v_p1_channels, .ref h_p1_counts, .ref h_p1_ground, .ref h_p1_former])), (h_p1_counts, .inl (kI, N, .inl v_p1_counts)), (h_p1_ground, .inl (kI, N, .inl v_p1_ground)), (h_this, .inr (2, [.ref h_rows, .int v_size])), (h_rows, .inl (kII, 5, .inr (.inr (.inr (.inr (gq 5 g_rows))))))] (wq (gi5 g_rows kI N (gseti (gseti (gseti (gseti v_rows ((0 : Int32).toNatClampNeg) v_size.toNatClampNeg a2) ((1 : Int32).toNatClampNeg) v_size.toNatClampNeg r_5) ((2 : Int32).toNatClampNeg) v_size.toNatClampNeg y5_19) ((3 : Int32).toNatClampNeg) v_size.toNatClampNeg r_1)) [])) H := hP
    have hD : va_D A (wq [(h_p1, .inr (4, [.int v_p1_channels, .ref h_p1_counts, .ref h_p1_ground, .ref h_p1_former])), (h_p1_counts, .inl (kI, N, .inl v_p1_counts)), (h_p1_ground, .inl (kI, N, .inl v_p1_ground)), (h_this, .inr (2, [.ref h_rows, .int v_size])), (h_rows, .inl (kII, 5, .inr (.inr (.inr (.inr (gq 5 g_rows))))))] (wq (gi5 g_rows kI N (gseti (gseti (gseti (gseti v_rows ((0 : Int32).toNatClampNeg) v_size.toNatClampNeg a2) ((1 : Int32).toNatClampNeg) v_size.toNatClampNeg r_5) ((2 : Int32).toNatClampNeg) v_size.toNatClampNeg y5_19) ((3 : Int32).toNatClampNeg) v_size.toNatClampNeg r_1)) [])) := hD
    refine lv_aload_n hx hb d_XPe_keep_96 rfl (lv_at hl 0 rfl) ?_
    refine va_get (D := (dC, dI)) (ci := 2) (v := .ref h_rows) (C := R_XPe) (T := T_XPe) (N := 2) hx hb hts i_XPe hown hK hP 3 rfl rfl 0 (by decide) (hts _ tk_64) (fun _ h9 => h9) rfl d_XPe_keep_97 ?_
    refine lv_iconst (v := (4 : Int32)) hx hb d_XPe_keep_100 (by decide) ?_
    have hj_8 := gj_lt hv.1
    refine gx_ald hx hb hK hP 4 3 rfl rfl hv.1 d_XPe_keep_101 ?_
    have hv := hv.2
    refine lv_aload_n hx hb d_XPe_keep_102 rfl (lv_at hl 0 rfl) ?_
    refine va_get (D := (dC, dI)) (ci := 2) (v := .int v_size) (C := R_XPe) (T := T_XPe) (N := 2) hx hb hts i_XPe hown hK hP 3 rfl rfl 1 (by decide) (hts _ tk_66) (fun _ h9 => h9) rfl d_XPe_keep_103 ?_
    refine lv_iload hx hb d_XPe_keep_106 (lv_at hl 4 rfl) ?_
    refine gi5_st (pre := [(h_p1, .inr (4, [.int v_p1_channels, .ref h_p1_counts, .ref h_p1_ground, .ref h_p1_former])), (h_p1_counts, .inl (kI, N, .inl v_p1_counts)), (h_p1_ground, .inl (kI, N, .inl v_p1_ground)), (h_this, .inr (2, [.ref h_rows, .int v_size])), (h_rows, .inl (kII, 5, .inr (.inr (.inr (.inr (gq 5 g_rows))))))]) (suf := []) hx hb hK hP hD hS 0 rfl hj_8 hv.1 d_XPe_keep_108 (fun H locs hP hD hS => ?_)
    have hv := hv.2
    have hP : va_P (dC, dI) vwCl (wq [(h_p1, .inr (4, [.int v_p1_channels, .ref h_p1_counts, .ref h_p1_ground, .ref h_p1_former])), (h_p1_counts, .inl (kI, N, .inl v_p1_counts)), (h_p1_ground, .inl (kI, N, .inl v_p1_ground)), (h_this, .inr (2, [.ref h_rows, .int v_size])), (h_rows, .inl (kII, 5, .inr (.inr (.inr (.inr (gq 5 g_rows))))))] (wq (gi5 g_rows kI N (gseti (gseti (gseti (gseti (gseti v_rows ((0 : Int32).toNatClampNeg) v_size.toNatClampNeg a2) ((1 : Int32).toNatClampNeg) v_size.toNatClampNeg r_5) ((2 : Int32).toNatClampNeg) v_size.toNatClampNeg y5_19) ((3 : Int32).toNatClampNeg) v_size.toNatClampNeg r_1) ((4 : Int32).toNatClampNeg) v_size.toNatClampNeg r_2)) [])) H := hP
    have hD : va_D A (wq [(h_p1, .inr (4, [.int v_p1_channels, .ref h_p1_counts, .ref h_p1_ground, .ref h_p1_former])), (h_p1_counts, .inl (kI, N, .inl v_p1_counts)), (h_p1_ground, .inl (kI, N, .inl v_p1_ground)), (h_this, .inr (2, [.ref h_rows, .int v_size])), (h_rows, .inl (kII, 5, .inr (.inr (.inr (.inr (gq 5 g_rows))))))] (wq (gi5 g_rows kI N (gseti (gseti (gseti (gseti (gseti v_rows ((0 : Int32).toNatClampNeg) v_size.toNatClampNeg a2) ((1 : Int32).toNatClampNeg) v_size.toNatClampNeg r_5) ((2 : Int32).toNatClampNeg) v_size.toNatClampNeg y5_19) ((3 : Int32).toNatClampNeg) v_size.toNatClampNeg r_1) ((4 : Int32).toNatClampNeg) v_size.toNatClampNeg r_2)) [])) := hD
    refine lv_aload_n hx hb d_XPe_keep_109 rfl (lv_at hl 0 rfl) ?_
    refine lv_dup hx hb d_XPe_keep_110 rfl ?_
    refine va_get (D := (dC, dI)) (ci := 2) (v := .int v_size) (C := R_XPe) (T := T_XPe) (N := 2) hx hb hts i_XPe hown hK hP 3 rfl rfl 1 (by decide) (hts _ tk_66) (fun _ h9 => h9) rfl d_XPe_keep_111 ?_
    refine lv_iconst (v := (1 : Int32)) hx hb d_XPe_keep_114 (by decide) ?_
    refine lv_iadd hx hb d_XPe_keep_115 ?_
    refine va_put (D := (dC, dI)) (ci := 2) (v := .int (v_size + (1 : Int32))) (ty := .int) (C := R_XPe) (T := T_XPe) (N := 2) hx hb hts i_XPe u_XPe u_XPe_ok n_XPe hown hK hP hD hS 3 rfl rfl 1 (by decide) (hts _ tk_66) (fun _ h9 => h9) rfl rfl rfl rfl (Nat.le_of_ble_eq_true rfl) d_XPe_keep_116 (fun H locs hP hD hS => ?_)
    have hP : va_P (dC, dI) vwCl (wq [(h_p1, .inr (4, [.int v_p1_channels, .ref h_p1_counts, .ref h_p1_ground, .ref h_p1_former])), (h_p1_counts, .inl (kI, N, .inl v_p1_counts)), (h_p1_ground, .inl (kI, N, .inl v_p1_ground)), (h_this, .inr (2, [.ref h_rows, .int (v_size + (1 : Int32))])), (h_rows, .inl (kII, 5, .inr (.inr (.inr (.inr (gq 5 g_rows))))))] (wq (gi5 g_rows kI N (gseti (gseti (gseti (gseti (gseti v_rows ((0 : Int32).toNatClampNeg) v_size.toNatClampNeg a2) ((1 : Int32).toNatClampNeg) v_size.toNatClampNeg r_5) ((2 : Int32).toNatClampNeg) v_size.toNatClampNeg y5_19) ((3 : Int32).toNatClampNeg) v_size.toNatClampNeg r_1) ((4 : Int32).toNatClampNeg) v_size.toNatClampNeg r_2)) [])) H := hP
    have hD : va_D A (wq [(h_p1, .inr (4, [.int v_p1_channels, .ref h_p1_counts, .ref h_p1_ground, .ref h_p1_former])), (h_p1_counts, .inl (kI, N, .inl v_p1_counts)), (h_p1_ground, .inl (kI, N, .inl v_p1_ground)), (h_this, .inr (2, [.ref h_rows, .int (v_size + (1 : Int32))])), (h_rows, .inl (kII, 5, .inr (.inr (.inr (.inr (gq 5 g_rows))))))] (wq (gi5 g_rows kI N (gseti (gseti (gseti (gseti (gseti v_rows ((0 : Int32).toNatClampNeg) v_size.toNatClampNeg a2) ((1 : Int32).toNatClampNeg) v_size.toNatClampNeg r_5) ((2 : Int32).toNatClampNeg) v_size.toNatClampNeg y5_19) ((3 : Int32).toNatClampNeg) v_size.toNatClampNeg r_1) ((4 : Int32).toNatClampNeg) v_size.toNatClampNeg r_2)) [])) := hD
    exact hq ((v_size + (1 : Int32)), (gseti (gseti (gseti (gseti (gseti v_rows ((0 : Int32).toNatClampNeg) v_size.toNatClampNeg a2) ((1 : Int32).toNatClampNeg) v_size.toNatClampNeg r_5) ((2 : Int32).toNatClampNeg) v_size.toNatClampNeg y5_19) ((3 : Int32).toNatClampNeg) v_size.toNatClampNeg r_1) ((4 : Int32).toNatClampNeg) v_size.toNatClampNeg r_2)) _ _ _ _ hv hP hD hS d_XPe_keep_119
  have hv := hv.2 cd
  refine lv_iload hx hb d_XPe_keep_26 (lv_at hl 5 rfl) ?_
  refine lv_aload_n hx hb d_XPe_keep_28 rfl (lv_at hl 1 rfl) ?_
  refine lv_iload hx hb d_XPe_keep_29 (lv_at hl 6 rfl) ?_
  have hPc := hP.sub (ws' := [(h_p1, .inr (4, [.int v_p1_channels, .ref h_p1_counts, .ref h_p1_ground, .ref h_p1_former])), (h_p1_counts, .inl (kI, N, .inl v_p1_counts)), (h_p1_ground, .inl (kI, N, .inl v_p1_ground))]) [0, 1, 2] rfl
  have hDc := hD.sub (ws' := [(h_p1, .inr (4, [.int v_p1_channels, .ref h_p1_counts, .ref h_p1_ground, .ref h_p1_former])), (h_p1_counts, .inl (kI, N, .inl v_p1_counts)), (h_p1_ground, .inl (kI, N, .inl v_p1_ground))]) [0, 1, 2] (by decide) rfl
  have hFc := va_free (wc := [(h_p1, .inr (4, [.int v_p1_channels, .ref h_p1_counts, .ref h_p1_ground, .ref h_p1_former])), (h_p1_counts, .inl (kI, N, .inl v_p1_counts)), (h_p1_ground, .inl (kI, N, .inl v_p1_ground))]) hD hS hA [0, 1, 2] rfl
  refine va_calli (va_runV (As := [.int y6_19]) (rest := [.int y5_19]) ⟨hx, hb, hml, hown, hts⟩ (c_XSp_netAt l dC dI kI kJ kZ kII kJJ N h_p1 h_p1_counts h_p1_ground h_p1_former v_p1_channels v_p1_counts v_p1_ground y6_19 H.size _ hv) (cwV 1 hts (gV tk_389 tk_208 ts_XSp_netAt tk_3 tc_XSp_netAt) rfl rfl rfl (by decide +kernel) ⟨Nat.le_of_ble_eq_true rfl, Nat.le_of_ble_eq_true rfl⟩) ⟨px_blind g0_mv, va_recv hK hPc (ci := 4) (q0 := 0) rfl rfl, px_pre g0_mv hPc hK hDc trivial hS hFc⟩ rfl rfl hl.1 rfl (lv_room (Nat.le_of_ble_eq_true rfl)) d_XPe_keep_31 ⟨Nat.le_of_ble_eq_true rfl, Nat.le_of_ble_eq_true rfl⟩) hS (fun q _ h => hFc q h) hFc (fun r_9 u t H1 locs ht hvm hv hB hz1 hk1 hS => ?_)
  obtain ⟨⟩ := u
  obtain ⟨hP, hD⟩ := cj_join (wr := (wq [(h_this, .inr (2, [.ref h_rows, .int v_size])), (h_rows, .inl (kII, 5, .inr (.inr (.inr (.inr (gq 5 g_rows))))))] (wq (gi5 g_rows kI N v_rows) []))) (w1 := [(h_p1, .inr (4, [.int v_p1_channels, .ref h_p1_counts, .ref h_p1_ground, .ref h_p1_former])), (h_p1_counts, .inl (kI, N, .inl v_p1_counts)), (h_p1_ground, .inl (kI, N, .inl v_p1_ground))]) hP hD [0, 1, 2] [3, 4, 5, 6, 7, 8, 9] rfl rfl (by decide) (by decide) hk1 hFc ht hB
  generalize H1 = H at hP hS ⊢
  have hP : va_P (dC, dI) vwCl (wq [(h_p1, .inr (4, [.int v_p1_channels, .ref h_p1_counts, .ref h_p1_ground, .ref h_p1_former])), (h_p1_counts, .inl (kI, N, .inl v_p1_counts)), (h_p1_ground, .inl (kI, N, .inl v_p1_ground)), (h_this, .inr (2, [.ref h_rows, .int v_size])), (h_rows, .inl (kII, 5, .inr (.inr (.inr (.inr (gq 5 g_rows))))))] (wq (gi5 g_rows kI N v_rows) [])) H := hP.sub [7, 8, 9, 0, 1, 2, 3, 4, 5, 6] rfl
  have hD : va_D A (wq [(h_p1, .inr (4, [.int v_p1_channels, .ref h_p1_counts, .ref h_p1_ground, .ref h_p1_former])), (h_p1_counts, .inl (kI, N, .inl v_p1_counts)), (h_p1_ground, .inl (kI, N, .inl v_p1_ground)), (h_this, .inr (2, [.ref h_rows, .int v_size])), (h_rows, .inl (kII, 5, .inr (.inr (.inr (.inr (gq 5 g_rows))))))] (wq (gi5 g_rows kI N v_rows) [])) := hD.sub [7, 8, 9, 0, 1, 2, 3, 4, 5, 6] (by decide) rfl
  refine lv_iadd hx hb d_XPe_keep_34 ?_
  refine lv_topi (fun x5_10 e_x5_10 => ?_)
  have hv := hv x5_10 e_x5_10
  refine lv_istore (lv' := [(5, .int x5_10), (0, .ref h_this), (1, .ref h_p1), (2, .int a2), (3, .int r_1), (4, .int r_2), (6, .int y6_19)]) hx hb d_XPe_keep_35 hl (by decide) rfl (fun ls hl => ?_)
  refine lv_iinc (v := (y6_19 + (1 : Int32))) (lv' := [(6, .int (y6_19 + (1 : Int32))), (5, .int x5_10), (0, .ref h_this), (1, .ref h_p1), (2, .int a2), (3, .int r_1), (4, .int r_2)]) hx hb d_XPe_keep_37 hl (k := 6) rfl rfl (by decide) rfl (fun ls hl => ?_)
  refine lv_goto (tgt := 19) hx hb d_XPe_keep_40 (by decide) ?_
  exact hR_19 _ _ hv _ _ _ hP hD hS (lv_sub hl [2, 3, 4, 5, 6, 1, 0] rfl)
set_option maxRecDepth 100000 in
set_option maxHeartbeats 4000000 in
/-- SpectrumParts$PeakList.lookFor -/
theorem c_XPe_lookFor (l : Launch) (dC : Nat → ClassId) (dI : Nat → Nat → Nat) (kI kJ kZ kII kJJ : ClassId) (N : Nat) (h_this : Nat) (h_rows : Nat) (h_p1 : Nat) (h_p1_counts : Nat) (h_p1_ground : Nat) (h_p1_former : Nat) (g_rows : Nat → Nat) (v_size : Int32) (v_p1_channels : Int32) (v_p1_counts : Nat → Int32) (v_p1_ground : Nat → Int32) (v_rows : Nat → Nat → Int32) (a2 : Int32) (sz : Nat) (post : Int32 → (Nat → Nat → Int32) → Prop) (hv : vc_XPe_lookFor post N v_size v_p1_channels v_p1_counts v_p1_ground v_rows a2) :
    Met l y_XPe_lookFor w_XPe_lookFor ({ frames := 4, cells := 0, slots := 0, locals := 90 }) (va_Pc [.ref h_this, .ref h_p1, .int a2] (px_B g0 (dC, dI) vwCl (tysv kI kJ kZ kII kJJ) (wq [(h_this, .inr (2, [.ref h_rows, .int v_size])), (h_p1, .inr (4, [.int v_p1_channels, .ref h_p1_counts, .ref h_p1_ground, .ref h_p1_former])), (h_p1_counts, .inl (kI, N, .inl v_p1_counts)), (h_p1_ground, .inl (kI, N, .inl v_p1_ground)), (h_rows, .inl (kII, 5, .inr (.inr (.inr (.inr (gq 5 g_rows))))))] (wq (gi5 g_rows kI N v_rows) [])) sz))
      (va_Qv (fun (u : (Int32) × (Nat → Nat → Int32)) => post u.1 u.2) (fun (u : (Int32) × (Nat → Nat → Int32)) => ax_B (va_A (wq [(h_this, .inr (2, [.ref h_rows, .int v_size])), (h_p1, .inr (4, [.int v_p1_channels, .ref h_p1_counts, .ref h_p1_ground, .ref h_p1_former])), (h_p1_counts, .inl (kI, N, .inl v_p1_counts)), (h_p1_ground, .inl (kI, N, .inl v_p1_ground)), (h_rows, .inl (kII, 5, .inr (.inr (.inr (.inr (gq 5 g_rows))))))] (wq (gi5 g_rows kI N v_rows) [])) sz) (dC, dI) vwCl (tysv kI kJ kZ kII kJJ) (wq [(h_this, .inr (2, [.ref h_rows, .int u.1])), (h_p1, .inr (4, [.int v_p1_channels, .ref h_p1_counts, .ref h_p1_ground, .ref h_p1_former])), (h_p1_counts, .inl (kI, N, .inl v_p1_counts)), (h_p1_ground, .inl (kI, N, .inl v_p1_ground)), (h_rows, .inl (kII, 5, .inr (.inr (.inr (.inr (gq 5 g_rows))))))] (wq (gi5 g_rows kI N u.2) []))) (va_A (wq [(h_this, .inr (2, [.ref h_rows, .int v_size])), (h_p1, .inr (4, [.int v_p1_channels, .ref h_p1_counts, .ref h_p1_ground, .ref h_p1_former])), (h_p1_counts, .inl (kI, N, .inl v_p1_counts)), (h_p1_ground, .inl (kI, N, .inl v_p1_ground)), (h_rows, .inl (kII, 5, .inr (.inr (.inr (.inr (gq 5 g_rows))))))] (wq (gi5 g_rows kI N v_rows) [])) sz)) 0 0 (va_A (wq [(h_this, .inr (2, [.ref h_rows, .int v_size])), (h_p1, .inr (4, [.int v_p1_channels, .ref h_p1_counts, .ref h_p1_ground, .ref h_p1_former])), (h_p1_counts, .inl (kI, N, .inl v_p1_counts)), (h_p1_ground, .inl (kI, N, .inl v_p1_ground)), (h_rows, .inl (kII, 5, .inr (.inr (.inr (.inr (gq 5 g_rows))))))] (wq (gi5 g_rows kI N v_rows) [])) sz) := by
  refine pxv (cc := b_XPe_lookFor) (maxL := 4) (wd := fun (u : (Int32) × (Nat → Nat → Int32)) => (wq [(h_this, .inr (2, [.ref h_rows, .int u.1])), (h_p1, .inr (4, [.int v_p1_channels, .ref h_p1_counts, .ref h_p1_ground, .ref h_p1_former])), (h_p1_counts, .inl (kI, N, .inl v_p1_counts)), (h_p1_ground, .inl (kI, N, .inl v_p1_ground)), (h_rows, .inl (kII, 5, .inr (.inr (.inr (.inr (gq 5 g_rows))))))] (wq (gi5 g_rows kI N u.2) []))) (by decide +kernel) rfl (Nat.le_of_ble_eq_true rfl) ?_
  intro p e s m below meth c A ls Q H hx hb hml hts hown hK hG hP hD hS hA hl hq
  have hts := fun w h => hts w (List.mem_cons_of_mem _ h)
  have hown : s.vm.findClass R_XPe = some m.cls := hown
  have hl : lv_has ls 4 [(0, .ref h_this), (1, .ref h_p1), (2, .int a2)] := hl
  unfold vc_XPe_lookFor at hv
  refine lv_aload_n hx hb d_XPe_lookFor_0 rfl (lv_at hl 0 rfl) ?_
  refine lv_iconst (v := (0 : Int32)) hx hb d_XPe_lookFor_1 (by decide) ?_
  refine va_put (D := (dC, dI)) (ci := 2) (v := .int (0 : Int32)) (ty := .int) (C := R_XPe) (T := T_XPe) (N := 2) hx hb hts i_XPe u_XPe u_XPe_ok n_XPe hown hK hP hD hS 0 rfl rfl 1 (by decide) (hts _ tk_66) (fun _ h9 => h9) rfl rfl rfl rfl (Nat.le_of_ble_eq_true rfl) d_XPe_lookFor_2 (fun H locs hP hD hS => ?_)
  have hP : va_P (dC, dI) vwCl (wq [(h_this, .inr (2, [.ref h_rows, .int (0 : Int32)])), (h_p1, .inr (4, [.int v_p1_channels, .ref h_p1_counts, .ref h_p1_ground, .ref h_p1_former])), (h_p1_counts, .inl (kI, N, .inl v_p1_counts)), (h_p1_ground, .inl (kI, N, .inl v_p1_ground)), (h_rows, .inl (kII, 5, .inr (.inr (.inr (.inr (gq 5 g_rows))))))] (wq (gi5 g_rows kI N v_rows) [])) H := hP
  have hD : va_D A (wq [(h_this, .inr (2, [.ref h_rows, .int (0 : Int32)])), (h_p1, .inr (4, [.int v_p1_channels, .ref h_p1_counts, .ref h_p1_ground, .ref h_p1_former])), (h_p1_counts, .inl (kI, N, .inl v_p1_counts)), (h_p1_ground, .inl (kI, N, .inl v_p1_ground)), (h_rows, .inl (kII, 5, .inr (.inr (.inr (.inr (gq 5 g_rows))))))] (wq (gi5 g_rows kI N v_rows) [])) := hD
  refine lv_iconst (v := (0 : Int32)) hx hb d_XPe_lookFor_5 (by decide) ?_
  refine lv_istore_n (lv' := [(3, .int (0 : Int32)), (0, .ref h_this), (1, .ref h_p1), (2, .int a2)]) hx hb d_XPe_lookFor_6 rfl hl (by decide) rfl (fun ls hl => ?_)
  obtain ⟨n_7, hv⟩ := hv
  refine vlp3_W (P := fun (y3_7 : Int32) (v_size_7 : Int32) (v_rows_7 : Nat → Nat → Int32) => wst p l e (headSpec w_XPe_lookFor ({ frames := 4, cells := 0, slots := 0, locals := 90 })).room s m ([.ref h_this, .ref h_p1, .int a2] : List Value).toArray below meth c dC dI A 4 Q (wq [(h_this, .inr (2, [.ref h_rows, .int v_size_7])), (h_p1, .inr (4, [.int v_p1_channels, .ref h_p1_counts, .ref h_p1_ground, .ref h_p1_former])), (h_p1_counts, .inl (kI, N, .inl v_p1_counts)), (h_p1_ground, .inl (kI, N, .inl v_p1_ground)), (h_rows, .inl (kII, 5, .inr (.inr (.inr (.inr (gq 5 g_rows))))))] (wq (gi5 g_rows kI N v_rows_7) [])) [(0, .ref h_this), (1, .ref h_p1), (2, .int a2), (3, .int y3_7)] 7 [] 0 0) ?_ n_7 _ _ _ hv _ _ _ hP hD hS (lv_sub hl [1, 2, 3, 0] rfl)
  intro R_7 hR_7 y3_7 v_size_7 v_rows_7 hv H locs ls hP hD hS hl
  refine lv_iload_n hx hb d_XPe_lookFor_7 rfl (lv_at hl 3 rfl) ?_
  refine lv_aload_n hx hb d_XPe_lookFor_8 rfl (lv_at hl 1 rfl) ?_
  refine va_get (D := (dC, dI)) (ci := 4) (v := .int v_p1_channels) (C := R_XSp) (T := T_XSp) (N := 4) hx hb hts i_XSp hown hK hP 1 rfl rfl 0 (by decide) (hts _ tk_39) (fun _ h9 => h9) rfl d_XPe_lookFor_9 ?_
  refine lv_icmp_ge (tgt := 44) hx hb d_XPe_lookFor_12 (by decide) (fun cd => ?_) (fun cd => ?_)
  · have hv := hv.1 cd
    exact hq (v_size_7, v_rows_7) _ _ _ _ hv hP hD hS d_XPe_lookFor_44
  have hv := hv.2 cd
  refine lv_aload_n hx hb d_XPe_lookFor_15 rfl (lv_at hl 1 rfl) ?_
  refine lv_iload_n hx hb d_XPe_lookFor_16 rfl (lv_at hl 3 rfl) ?_
  have hPc := hP.sub (ws' := [(h_p1, .inr (4, [.int v_p1_channels, .ref h_p1_counts, .ref h_p1_ground, .ref h_p1_former])), (h_p1_counts, .inl (kI, N, .inl v_p1_counts)), (h_p1_ground, .inl (kI, N, .inl v_p1_ground))]) [1, 2, 3] rfl
  have hDc := hD.sub (ws' := [(h_p1, .inr (4, [.int v_p1_channels, .ref h_p1_counts, .ref h_p1_ground, .ref h_p1_former])), (h_p1_counts, .inl (kI, N, .inl v_p1_counts)), (h_p1_ground, .inl (kI, N, .inl v_p1_ground))]) [1, 2, 3] (by decide) rfl
  have hFc := va_free (wc := [(h_p1, .inr (4, [.int v_p1_channels, .ref h_p1_counts, .ref h_p1_ground, .ref h_p1_former])), (h_p1_counts, .inl (kI, N, .inl v_p1_counts)), (h_p1_ground, .inl (kI, N, .inl v_p1_ground))]) hD hS hA [1, 2, 3] rfl
  refine va_calli (va_runV (As := [.int y3_7]) (rest := []) ⟨hx, hb, hml, hown, hts⟩ (c_XSp_netAt l dC dI kI kJ kZ kII kJJ N h_p1 h_p1_counts h_p1_ground h_p1_former v_p1_channels v_p1_counts v_p1_ground y3_7 H.size _ hv) (cwV 1 hts (gV tk_389 tk_208 ts_XSp_netAt tk_3 tc_XSp_netAt) rfl rfl rfl (by decide +kernel) ⟨Nat.le_of_ble_eq_true rfl, Nat.le_of_ble_eq_true rfl⟩) ⟨px_blind g0_mv, va_recv hK hPc (ci := 4) (q0 := 0) rfl rfl, px_pre g0_mv hPc hK hDc trivial hS hFc⟩ rfl rfl hl.1 rfl (lv_room (Nat.le_of_ble_eq_true rfl)) d_XPe_lookFor_17 ⟨Nat.le_of_ble_eq_true rfl, Nat.le_of_ble_eq_true rfl⟩) hS (fun q _ h => hFc q h) hFc (fun r_1 u t H1 locs ht hvm hv hB hz1 hk1 hS => ?_)
  obtain ⟨⟩ := u
  obtain ⟨hP, hD⟩ := cj_join (wr := (wq [(h_this, .inr (2, [.ref h_rows, .int v_size_7])), (h_rows, .inl (kII, 5, .inr (.inr (.inr (.inr (gq 5 g_rows))))))] (wq (gi5 g_rows kI N v_rows_7) []))) (w1 := [(h_p1, .inr (4, [.int v_p1_channels, .ref h_p1_counts, .ref h_p1_ground, .ref h_p1_former])), (h_p1_counts, .inl (kI, N, .inl v_p1_counts)), (h_p1_ground, .inl (kI, N, .inl v_p1_ground))]) hP hD [1, 2, 3] [0, 4, 5, 6, 7, 8, 9] rfl rfl (by decide) (by decide) hk1 hFc ht hB
  generalize H1 = H at hP hS ⊢
  have hP : va_P (dC, dI) vwCl (wq [(h_this, .inr (2, [.ref h_rows, .int v_size_7])), (h_p1, .inr (4, [.int v_p1_channels, .ref h_p1_counts, .ref h_p1_ground, .ref h_p1_former])), (h_p1_counts, .inl (kI, N, .inl v_p1_counts)), (h_p1_ground, .inl (kI, N, .inl v_p1_ground)), (h_rows, .inl (kII, 5, .inr (.inr (.inr (.inr (gq 5 g_rows))))))] (wq (gi5 g_rows kI N v_rows_7) [])) H := hP.sub [0, 7, 8, 9, 1, 2, 3, 4, 5, 6] rfl
  have hD : va_D A (wq [(h_this, .inr (2, [.ref h_rows, .int v_size_7])), (h_p1, .inr (4, [.int v_p1_channels, .ref h_p1_counts, .ref h_p1_ground, .ref h_p1_former])), (h_p1_counts, .inl (kI, N, .inl v_p1_counts)), (h_p1_ground, .inl (kI, N, .inl v_p1_ground)), (h_rows, .inl (kII, 5, .inr (.inr (.inr (.inr (gq 5 g_rows))))))] (wq (gi5 g_rows kI N v_rows_7) [])) := hD.sub [0, 7, 8, 9, 1, 2, 3, 4, 5, 6] (by decide) rfl
  refine lv_iload_n hx hb d_XPe_lookFor_20 rfl (lv_at hl 2 rfl) ?_
  refine lv_icmp_le (tgt := 38) hx hb d_XPe_lookFor_21 (by decide) (fun cd => ?_) (fun cd => ?_)
  · have hv := hv.1 cd
    refine lv_iinc (v := (y3_7 + (1 : Int32))) (lv' := [(3, .int (y3_7 + (1 : Int32))), (0, .ref h_this), (1, .ref h_p1), (2, .int a2)]) hx hb d_XPe_lookFor_38 hl (k := 3) rfl rfl (by decide) rfl (fun ls hl => ?_)
    refine lv_goto (tgt := 7) hx hb d_XPe_lookFor_41 (by decide) ?_
    exact hR_7 _ _ _ hv _ _ _ hP hD hS (lv_sub hl [1, 2, 3, 0] rfl)
  have hv := hv.2 cd
  refine lv_aload_n hx hb d_XPe_lookFor_24 rfl (lv_at hl 1 rfl) ?_
  refine lv_iload_n hx hb d_XPe_lookFor_25 rfl (lv_at hl 3 rfl) ?_
  have hPc := hP.sub (ws' := [(h_p1, .inr (4, [.int v_p1_channels, .ref h_p1_counts, .ref h_p1_ground, .ref h_p1_former])), (h_p1_counts, .inl (kI, N, .inl v_p1_counts)), (h_p1_ground, .inl (kI, N, .inl v_p1_ground))]) [1, 2, 3] rfl
  have hDc := hD.sub (ws' := [(h_p1, .inr (4, [.int v_p1_channels, .ref h_p1_counts, .ref h_p1_ground, .ref h_p1_former])), (h_p1_counts, .inl (kI, N, .inl v_p1_counts)), (h_p1_ground, .inl (kI, N, .inl v_p1_ground))]) [1, 2, 3] (by decide) rfl
  have hFc := va_free (wc := [(h_p1, .inr (4, [.int v_p1_channels, .ref h_p1_counts, .ref h_p1_ground, .ref h_p1_former])), (h_p1_counts, .inl (kI, N, .inl v_p1_counts)), (h_p1_ground, .inl (kI, N, .inl v_p1_ground))]) hD hS hA [1, 2, 3] rfl
  refine va_calli (va_runS (As := [.ref h_p1, .int y3_7]) (rest := []) ⟨hx, hb, hml, hown, hts⟩ (c_XPe_isTop l dC dI kI kJ kZ kII kJJ N h_p1 h_p1_counts h_p1_ground h_p1_former v_p1_channels v_p1_counts v_p1_ground y3_7 H.size _ hv) (cwS 2 hts (gS tk_390 tk_391 tk_4 tc_XPe_isTop) rfl rfl rfl (by decide +kernel) ⟨Nat.le_of_ble_eq_true rfl, Nat.le_of_ble_eq_true rfl⟩) ⟨px_blind g0_mv, px_pre g0_mv hPc hK hDc trivial hS hFc⟩ rfl rfl hl.1 rfl (lv_room (Nat.le_of_ble_eq_true rfl)) d_XPe_lookFor_26 ⟨Nat.le_of_ble_eq_true rfl, Nat.le_of_ble_eq_true rfl⟩) hS (fun q _ h => hFc q h) hFc (fun r_2 u t H1 locs ht hvm hv hB hz1 hk1 hS => ?_)
  obtain ⟨⟩ := u
  obtain ⟨hP, hD⟩ := cj_join (wr := (wq [(h_this, .inr (2, [.ref h_rows, .int v_size_7])), (h_rows, .inl (kII, 5, .inr (.inr (.inr (.inr (gq 5 g_rows))))))] (wq (gi5 g_rows kI N v_rows_7) []))) (w1 := [(h_p1, .inr (4, [.int v_p1_channels, .ref h_p1_counts, .ref h_p1_ground, .ref h_p1_former])), (h_p1_counts, .inl (kI, N, .inl v_p1_counts)), (h_p1_ground, .inl (kI, N, .inl v_p1_ground))]) hP hD [1, 2, 3] [0, 4, 5, 6, 7, 8, 9] rfl rfl (by decide) (by decide) hk1 hFc ht hB
  generalize H1 = H at hP hS ⊢
  have hP : va_P (dC, dI) vwCl (wq [(h_this, .inr (2, [.ref h_rows, .int v_size_7])), (h_p1, .inr (4, [.int v_p1_channels, .ref h_p1_counts, .ref h_p1_ground, .ref h_p1_former])), (h_p1_counts, .inl (kI, N, .inl v_p1_counts)), (h_p1_ground, .inl (kI, N, .inl v_p1_ground)), (h_rows, .inl (kII, 5, .inr (.inr (.inr (.inr (gq 5 g_rows))))))] (wq (gi5 g_rows kI N v_rows_7) [])) H := hP.sub [0, 7, 8, 9, 1, 2, 3, 4, 5, 6] rfl
  have hD : va_D A (wq [(h_this, .inr (2, [.ref h_rows, .int v_size_7])), (h_p1, .inr (4, [.int v_p1_channels, .ref h_p1_counts, .ref h_p1_ground, .ref h_p1_former])), (h_p1_counts, .inl (kI, N, .inl v_p1_counts)), (h_p1_ground, .inl (kI, N, .inl v_p1_ground)), (h_rows, .inl (kII, 5, .inr (.inr (.inr (.inr (gq 5 g_rows))))))] (wq (gi5 g_rows kI N v_rows_7) [])) := hD.sub [0, 7, 8, 9, 1, 2, 3, 4, 5, 6] (by decide) rfl
  refine lv_if_eq (tgt := 38) hx hb d_XPe_lookFor_29 (by decide) (fun cd => ?_) (fun cd => ?_)
  · have hv := hv.1 cd
    refine lv_iinc (v := (y3_7 + (1 : Int32))) (lv' := [(3, .int (y3_7 + (1 : Int32))), (0, .ref h_this), (1, .ref h_p1), (2, .int a2)]) hx hb d_XPe_lookFor_38 hl (k := 3) rfl rfl (by decide) rfl (fun ls hl => ?_)
    refine lv_goto (tgt := 7) hx hb d_XPe_lookFor_41 (by decide) ?_
    exact hR_7 _ _ _ hv _ _ _ hP hD hS (lv_sub hl [1, 2, 3, 0] rfl)
  have hv := hv.2 cd
  refine lv_aload_n hx hb d_XPe_lookFor_32 rfl (lv_at hl 0 rfl) ?_
  refine lv_aload_n hx hb d_XPe_lookFor_33 rfl (lv_at hl 1 rfl) ?_
  refine lv_iload_n hx hb d_XPe_lookFor_34 rfl (lv_at hl 3 rfl) ?_
  have hPc := hP.sub (ws' := (wq [(h_p1, .inr (4, [.int v_p1_channels, .ref h_p1_counts, .ref h_p1_ground, .ref h_p1_former])), (h_p1_counts, .inl (kI, N, .inl v_p1_counts)), (h_p1_ground, .inl (kI, N, .inl v_p1_ground)), (h_this, .inr (2, [.ref h_rows, .int v_size_7])), (h_rows, .inl (kII, 5, .inr (.inr (.inr (.inr (gq 5 g_rows))))))] (wq (gi5 g_rows kI N v_rows_7) []))) [1, 2, 3, 0, 4, 5, 6, 7, 8, 9] rfl
  have hDc := hD.sub (ws' := (wq [(h_p1, .inr (4, [.int v_p1_channels, .ref h_p1_counts, .ref h_p1_ground, .ref h_p1_former])), (h_p1_counts, .inl (kI, N, .inl v_p1_counts)), (h_p1_ground, .inl (kI, N, .inl v_p1_ground)), (h_this, .inr (2, [.ref h_rows, .int v_size_7])), (h_rows, .inl (kII, 5, .inr (.inr (.inr (.inr (gq 5 g_rows))))))] (wq (gi5 g_rows kI N v_rows_7) []))) [1, 2, 3, 0, 4, 5, 6, 7, 8, 9] (by decide) rfl
  have hFc := va_free (wc := (wq [(h_p1, .inr (4, [.int v_p1_channels, .ref h_p1_counts, .ref h_p1_ground, .ref h_p1_former])), (h_p1_counts, .inl (kI, N, .inl v_p1_counts)), (h_p1_ground, .inl (kI, N, .inl v_p1_ground)), (h_this, .inr (2, [.ref h_rows, .int v_size_7])), (h_rows, .inl (kII, 5, .inr (.inr (.inr (.inr (gq 5 g_rows))))))] (wq (gi5 g_rows kI N v_rows_7) []))) hD hS hA [1, 2, 3, 0, 4, 5, 6, 7, 8, 9] rfl
  refine va_callv (va_runV (As := [.ref h_p1, .int y3_7]) (rest := []) ⟨hx, hb, hml, hown, hts⟩ (c_XPe_keep l dC dI kI kJ kZ kII kJJ N h_p1 h_p1_counts h_p1_ground h_p1_former h_this h_rows g_rows v_p1_channels v_p1_counts v_p1_ground v_size_7 v_rows_7 y3_7 H.size _ hv) (cwV 2 hts (gV tk_393 tk_395 ts_XPe_keep tk_4 tc_XPe_keep) rfl rfl rfl (by decide +kernel) ⟨Nat.le_of_ble_eq_true rfl, Nat.le_of_ble_eq_true rfl⟩) ⟨px_blind g0_mv, va_recv hK hPc (ci := 2) (q0 := 3) rfl rfl, px_pre g0_mv hPc hK hDc trivial hS hFc⟩ rfl rfl hl.1 rfl (lv_room (Nat.le_of_ble_eq_true rfl)) d_XPe_lookFor_35 ⟨Nat.le_of_ble_eq_true rfl, Nat.le_of_ble_eq_true rfl⟩) hS (fun q _ h => hFc q h) hFc (fun u t H1 locs ht hvm hv hB hz1 hk1 hS => ?_)
  obtain ⟨v_size_3, v_rows_4⟩ := u
  obtain ⟨hP, hD⟩ := cj_join (wr := []) (w1 := (wq [(h_p1, .inr (4, [.int v_p1_channels, .ref h_p1_counts, .ref h_p1_ground, .ref h_p1_former])), (h_p1_counts, .inl (kI, N, .inl v_p1_counts)), (h_p1_ground, .inl (kI, N, .inl v_p1_ground)), (h_this, .inr (2, [.ref h_rows, .int v_size_3])), (h_rows, .inl (kII, 5, .inr (.inr (.inr (.inr (gq 5 g_rows))))))] (wq (gi5 g_rows kI N v_rows_4) []))) hP hD [1, 2, 3, 0, 4, 5, 6, 7, 8, 9] [] rfl rfl (by decide) (by decide) hk1 hFc ht hB
  generalize H1 = H at hP hS ⊢
  have hP : va_P (dC, dI) vwCl (wq [(h_this, .inr (2, [.ref h_rows, .int v_size_3])), (h_p1, .inr (4, [.int v_p1_channels, .ref h_p1_counts, .ref h_p1_ground, .ref h_p1_former])), (h_p1_counts, .inl (kI, N, .inl v_p1_counts)), (h_p1_ground, .inl (kI, N, .inl v_p1_ground)), (h_rows, .inl (kII, 5, .inr (.inr (.inr (.inr (gq 5 g_rows))))))] (wq (gi5 g_rows kI N v_rows_4) [])) H := hP.sub [3, 0, 1, 2, 4, 5, 6, 7, 8, 9] rfl
  have hD : va_D A (wq [(h_this, .inr (2, [.ref h_rows, .int v_size_3])), (h_p1, .inr (4, [.int v_p1_channels, .ref h_p1_counts, .ref h_p1_ground, .ref h_p1_former])), (h_p1_counts, .inl (kI, N, .inl v_p1_counts)), (h_p1_ground, .inl (kI, N, .inl v_p1_ground)), (h_rows, .inl (kII, 5, .inr (.inr (.inr (.inr (gq 5 g_rows))))))] (wq (gi5 g_rows kI N v_rows_4) [])) := hD.sub [3, 0, 1, 2, 4, 5, 6, 7, 8, 9] (by decide) rfl
  refine lv_iinc (v := (y3_7 + (1 : Int32))) (lv' := [(3, .int (y3_7 + (1 : Int32))), (0, .ref h_this), (1, .ref h_p1), (2, .int a2)]) hx hb d_XPe_lookFor_38 hl (k := 3) rfl rfl (by decide) rfl (fun ls hl => ?_)
  refine lv_goto (tgt := 7) hx hb d_XPe_lookFor_41 (by decide) ?_
  exact hR_7 _ _ _ hv _ _ _ hP hD hS (lv_sub hl [1, 2, 3, 0] rfl)
