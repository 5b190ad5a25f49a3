def vc_X_rootDown (post : Int32 → Prop) (a0 : Int32) : Prop :=
  (∃ n, vlp1 (fun (R_2 : Int32 → Prop) (y1_2 : Int32) => (((1000 : Int32) ≤ y1_2 → post y1_2) ∧ (¬ (1000 : Int32) ≤ y1_2 → ((a0 < ((y1_2 + (1 : Int32)) * (y1_2 + (1 : Int32))) → post y1_2) ∧ (¬ a0 < ((y1_2 + (1 : Int32)) * (y1_2 + (1 : Int32))) → R_2 (y1_2 + (1 : Int32))))))) n (0 : Int32))
def vc_X_greatestDivisor (post : Int64 → Prop) (a0 : Int64) (a2 : Int64) : Prop :=
  (∃ n, vlp3 (fun (R_9 : Int64 → Int64 → Int32 → Prop) (y4_9 : Int64) (y6_9 : Int64) (y8_9 : Int32) => (((200 : Int32) ≤ y8_9 → post y4_9) ∧ (¬ (200 : Int32) ≤ y8_9 → (((lg_cmp y6_9 (0 : Int64)) = 0 → post y4_9) ∧ (¬ (lg_cmp y6_9 (0 : Int64)) = 0 → (¬ y6_9 = 0 ∧ (∀ x9_1 : Int64, x9_1 = (y4_9 - y4_9 / y6_9 * y6_9) → R_9 y6_9 x9_1 (y8_9 + (1 : Int32))))))))) n a0 a2 (0 : Int32))
def vc_X_lessened (post : Int64 → Prop) (a0 : Int64) (a2 : Int64) (a4 : Int32) : Prop :=
  vc_X_greatestDivisor (fun (r_1 : Int64) => (∀ J_17 : Int64 → Prop, (∀ (z0_17 : Int64), (((lg_cmp r_1 (0 : Int64)) ≤ 0 → post z0_17) ∧ (¬ (lg_cmp r_1 (0 : Int64)) ≤ 0 → (¬ r_1 = 0 ∧ post (z0_17 / r_1)))) → J_17 z0_17) → ((¬ a4 = 0 → J_17 a2) ∧ (a4 = 0 → J_17 a0)))) a0 a2
set_option maxRecDepth 100000 in
set_option maxHeartbeats 4000000 in
/-- SpectrumParts.rootDown -/
theorem c_X_rootDown (l : Launch) (dC : Nat → ClassId) (dI : Nat → Nat → Nat) (kI kJ kZ kII kJJ : ClassId) (a0 : Int32) (sz : Nat) (post : Int32 → Prop) (hv : vc_X_rootDown post a0) :
    Met l y_X_rootDown w_X_rootDown ({ frames := 0, cells := 0, slots := 0, locals := 0 }) (va_Pc [.int a0] (px_B g0 (dC, dI) vwCl (tysv kI kJ kZ kII kJJ) [] sz))
      (va_Qi (fun (r : Int32) (u : Unit) => post r) (fun (u : Unit) => ax_B (va_A [] sz) (dC, dI) vwCl (tysv kI kJ kZ kII kJJ) []) (va_A [] sz)) 0 0 (va_A [] sz) := by
  refine pxi (cc := b_X_rootDown) (maxL := 2) (wd := fun (u : Unit) => []) (by decide +kernel) rfl (Nat.le_of_ble_eq_true rfl) ?_
  intro p e s m below meth c A ls Q H hx hb hml hts hown hK hG hP hD hS hA hl hq
  have hts := fun w h => hts w (List.mem_cons_of_mem _ h)
  have hown : s.vm.findClass R_X = some m.cls := hown
  have hl : lv_has ls 2 [(0, .int a0)] := hl
  unfold vc_X_rootDown at hv
  refine lv_iconst (v := (0 : Int32)) hx hb d_X_rootDown_0 (by decide) ?_
  refine lv_istore_n (lv' := [(1, .int (0 : Int32)), (0, .int a0)]) hx hb d_X_rootDown_1 rfl hl (by decide) rfl (fun ls hl => ?_)
  obtain ⟨n_2, hv⟩ := hv
  refine vlp1_W (P := fun (y1_2 : Int32) => wst p l e (headSpec w_X_rootDown ({ frames := 0, cells := 0, slots := 0, locals := 0 })).room s m ([.int a0] : List Value).toArray below meth c dC dI A 2 Q [] [(0, .int a0), (1, .int y1_2)] 2 [] 0 0) ?_ n_2 _ hv _ _ _ hP hD hS (lv_sub hl [1, 0] rfl)
  intro R_2 hR_2 y1_2 hv H locs ls hP hD hS hl
  refine lv_iload_n hx hb d_X_rootDown_2 rfl (lv_at hl 1 rfl) ?_
  refine lv_sipush (v := (1000 : Int32)) hx hb d_X_rootDown_3 (by decide) ?_
  refine lv_icmp_ge (tgt := 26) hx hb d_X_rootDown_6 (by decide) (fun cd => ?_) (fun cd => ?_)
  · have hv := hv.1 cd
    refine lv_iload_n hx hb d_X_rootDown_26 rfl (lv_at hl 1 rfl) ?_
    exact hq y1_2 () _ _ _ _ hv hP hD hS d_X_rootDown_27
  have hv := hv.2 cd
  refine lv_iload_n hx hb d_X_rootDown_9 rfl (lv_at hl 1 rfl) ?_
  refine lv_iconst (v := (1 : Int32)) hx hb d_X_rootDown_10 (by decide) ?_
  refine lv_iadd hx hb d_X_rootDown_11 ?_
  refine lv_iload_n hx hb d_X_rootDown_12 rfl (lv_at hl 1 rfl) ?_
  refine lv_iconst (v := (1 : Int32)) hx hb d_X_rootDown_13 (by decide) ?_
  refine lv_iadd hx hb d_X_rootDown_14 ?_
  refine lv_imul hx hb d_X_rootDown_15 ?_
  refine lv_iload_n hx hb d_X_rootDown_16 rfl (lv_at hl 0 rfl) ?_
  refine lv_icmp_gt (tgt := 26) hx hb d_X_rootDown_17 (by decide) (fun cd => ?_) (fun cd => ?_)
  · have hv := hv.1 cd
    refine lv_iload_n hx hb d_X_rootDown_26 rfl (lv_at hl 1 rfl) ?_
    exact hq y1_2 () _ _ _ _ hv hP hD hS d_X_rootDown_27
  have hv := hv.2 cd
  refine lv_iinc (v := (y1_2 + (1 : Int32))) (lv' := [(1, .int (y1_2 + (1 : Int32))), (0, .int a0)]) hx hb d_X_rootDown_20 hl (k := 1) rfl rfl (by decide) rfl (fun ls hl => ?_)
  refine lv_goto (tgt := 2) hx hb d_X_rootDown_23 (by decide) ?_
  exact hR_2 _ hv _ _ _ hP hD hS (lv_sub hl [1, 0] rfl)
set_option maxRecDepth 100000 in
set_option maxHeartbeats 4000000 in
/-- SpectrumParts.greatestDivisor -/
theorem c_X_greatestDivisor (l : Launch) (dC : Nat → ClassId) (dI : Nat → Nat → Nat) (kI kJ kZ kII kJJ : ClassId) (a0 : Int64) (a2 : Int64) (sz : Nat) (post : Int64 → Prop) (hv : vc_X_greatestDivisor post a0 a2) :
    Met l y_X_greatestDivisor w_X_greatestDivisor ({ frames := 0, cells := 0, slots := 0, locals := 0 }) (va_Pc [.long a0, .long a2] (px_B g0 (dC, dI) vwCl (tysv kI kJ kZ kII kJJ) [] sz))
      (va_Ql (fun (r : Int64) (u : Unit) => post r) (fun (u : Unit) => ax_B (va_A [] sz) (dC, dI) vwCl (tysv kI kJ kZ kII kJJ) []) (va_A [] sz)) 0 0 (va_A [] sz) := by
  refine pxl (cc := b_X_greatestDivisor) (maxL := 11) (wd := fun (u : Unit) => []) (by decide +kernel) rfl (Nat.le_of_ble_eq_true rfl) ?_
  intro p e s m below meth c A ls Q H hx hb hml hts hown hK hG hP hD hS hA hl hq
  have hts := fun w h => hts w (List.mem_cons_of_mem _ h)
  have hown : s.vm.findClass R_X = some m.cls := hown
  have hl : lv_has ls 11 [(0, .long a0), (2, .long a2)] := hl
  unfold vc_X_greatestDivisor at hv
  refine lv_lload_n hx hb d_X_greatestDivisor_0 rfl (lv_at hl 0 rfl) ?_
  refine lv_lstore (lv' := [(4, .long a0), (0, .long a0), (2, .long a2)]) hx hb d_X_greatestDivisor_1 hl (by decide) rfl (fun ls hl => ?_)
  refine lv_lload_n hx hb d_X_greatestDivisor_3 rfl (lv_at hl 2 rfl) ?_
  refine lv_lstore (lv' := [(6, .long a2), (4, .long a0), (0, .long a0), (2, .long a2)]) hx hb d_X_greatestDivisor_4 hl (by decide) rfl (fun ls hl => ?_)
  refine lv_iconst (v := (0 : Int32)) hx hb d_X_greatestDivisor_6 (by decide) ?_
  refine lv_istore (lv' := [(8, .int (0 : Int32)), (6, .long a2), (4, .long a0), (0, .long a0), (2, .long a2)]) hx hb d_X_greatestDivisor_7 hl (by decide) rfl (fun ls hl => ?_)
  obtain ⟨n_9, hv⟩ := hv
  refine vlp3_W (P := fun (y4_9 : Int64) (y6_9 : Int64) (y8_9 : Int32) => wst p l e (headSpec w_X_greatestDivisor ({ frames := 0, cells := 0, slots := 0, locals := 0 })).room s m ([.long a0, .long a2] : List Value).toArray below meth c dC dI A 11 Q [] [(4, .long y4_9), (6, .long y6_9), (8, .int y8_9)] 9 [] 0 0) ?_ n_9 _ _ _ hv _ _ _ hP hD hS (lv_sub hl [2, 1, 0] rfl)
  intro R_9 hR_9 y4_9 y6_9 y8_9 hv H locs ls hP hD hS hl
  refine lv_iload hx hb d_X_greatestDivisor_9 (lv_at hl 2 rfl) ?_
  refine lv_sipush (v := (200 : Int32)) hx hb d_X_greatestDivisor_11 (by decide) ?_
  refine lv_icmp_ge (tgt := 45) hx hb d_X_greatestDivisor_14 (by decide) (fun cd => ?_) (fun cd => ?_)
  · have hv := hv.1 cd
    refine lv_lload hx hb d_X_greatestDivisor_45 (lv_at hl 0 rfl) ?_
    exact hq y4_9 () _ _ _ _ hv hP hD hS d_X_greatestDivisor_47
  have hv := hv.2 cd
  refine lv_lload hx hb d_X_greatestDivisor_17 (lv_at hl 1 rfl) ?_
  refine lv_lconst (v := (0 : Int64)) hx hb d_X_greatestDivisor_19 (by decide) ?_
  refine W.lcmp hx hb d_X_greatestDivisor_20 ?_
  refine lv_if_eq (tgt := 45) hx hb d_X_greatestDivisor_21 (by decide) (fun cd => ?_) (fun cd => ?_)
  · have hv := hv.1 cd
    refine lv_lload hx hb d_X_greatestDivisor_45 (lv_at hl 0 rfl) ?_
    exact hq y4_9 () _ _ _ _ hv hP hD hS d_X_greatestDivisor_47
  have hv := hv.2 cd
  refine lv_lload hx hb d_X_greatestDivisor_24 (lv_at hl 0 rfl) ?_
  refine lv_lload hx hb d_X_greatestDivisor_26 (lv_at hl 1 rfl) ?_
  refine lv_lrem hx hb d_X_greatestDivisor_28 hv.1 ?_
  have hv := hv.2
  refine lv_topl (fun x9_1 e_x9_1 => ?_)
  have hv := hv x9_1 e_x9_1
  refine lv_lstore (lv' := [(9, .long x9_1), (4, .long y4_9), (6, .long y6_9), (8, .int y8_9)]) hx hb d_X_greatestDivisor_29 hl (by decide) rfl (fun ls hl => ?_)
  refine lv_lload hx hb d_X_greatestDivisor_31 (lv_at hl 2 rfl) ?_
  refine lv_lstore (lv' := [(4, .long y6_9), (9, .long x9_1), (6, .long y6_9), (8, .int y8_9)]) hx hb d_X_greatestDivisor_33 hl (by decide) rfl (fun ls hl => ?_)
  refine lv_lload hx hb d_X_greatestDivisor_35 (lv_at hl 1 rfl) ?_
  refine lv_lstore (lv' := [(6, .long x9_1), (4, .long y6_9), (9, .long x9_1), (8, .int y8_9)]) hx hb d_X_greatestDivisor_37 hl (by decide) rfl (fun ls hl => ?_)
  refine lv_iinc (v := (y8_9 + (1 : Int32))) (lv' := [(8, .int (y8_9 + (1 : Int32))), (6, .long x9_1), (4, .long y6_9), (9, .long x9_1)]) hx hb d_X_greatestDivisor_39 hl (k := 3) rfl rfl (by decide) rfl (fun ls hl => ?_)
  refine lv_goto (tgt := 9) hx hb d_X_greatestDivisor_42 (by decide) ?_
  exact hR_9 _ _ _ hv _ _ _ hP hD hS (lv_sub hl [2, 1, 0] rfl)
set_option maxRecDepth 100000 in
set_option maxHeartbeats 4000000 in
/-- SpectrumParts.lessened -/
theorem c_X_lessened (l : Launch) (dC : Nat → ClassId) (dI : Nat → Nat → Nat) (kI kJ kZ kII kJJ : ClassId) (a0 : Int64) (a2 : Int64) (a4 : Int32) (sz : Nat) (post : Int64 → Prop) (hv : vc_X_lessened post a0 a2 a4) :
    Met l y_X_lessened w_X_lessened ({ frames := 1, cells := 0, slots := 0, locals := 30 }) (va_Pc [.long a0, .long a2, .int a4] (px_B g0 (dC, dI) vwCl (tysv kI kJ kZ kII kJJ) [] sz))
      (va_Ql (fun (r : Int64) (u : Unit) => post r) (fun (u : Unit) => ax_B (va_A [] sz) (dC, dI) vwCl (tysv kI kJ kZ kII kJJ) []) (va_A [] sz)) 0 0 (va_A [] sz) := by
  refine pxl (cc := b_X_lessened) (maxL := 9) (wd := fun (u : Unit) => []) (by decide +kernel) rfl (Nat.le_of_ble_eq_true rfl) ?_
  intro p e s m below meth c A ls Q H hx hb hml hts hown hK hG hP hD hS hA hl hq
  have hts := fun w h => hts w (List.mem_cons_of_mem _ h)
  have hown : s.vm.findClass R_X = some m.cls := hown
  have hl : lv_has ls 9 [(0, .long a0), (2, .long a2), (4, .int a4)] := hl
  unfold vc_X_lessened at hv
  refine lv_lload_n hx hb d_X_lessened_0 rfl (lv_at hl 0 rfl) ?_
  refine lv_lload_n hx hb d_X_lessened_1 rfl (lv_at hl 1 rfl) ?_
  have hPc := hP.sub (ws' := []) [] rfl
  have hDc := hD.sub (ws' := []) [] (by decide) rfl
  have hFc := va_free (wc := []) hD hS hA [] rfl
  refine va_calll (va_runS (As := [.long a0, .long a2]) (rest := []) ⟨hx, hb, hml, hown, hts⟩ (c_X_greatestDivisor l dC dI kI kJ kZ kII kJJ a0 a2 H.size _ hv) (cwS 2 hts (gS tk_493 tk_494 tk_1 tc_X_greatestDivisor) rfl rfl rfl (by decide +kernel) ⟨Nat.le_of_ble_eq_true rfl, Nat.le_of_ble_eq_true rfl⟩) ⟨px_blind g0_mv, px_pre g0_mv hPc hK hDc trivial hS hFc⟩ rfl rfl hl.1 rfl (lv_room (Nat.le_of_ble_eq_true rfl)) d_X_lessened_2 ⟨Nat.le_of_ble_eq_true rfl, Nat.le_of_ble_eq_true rfl⟩) hS (fun q _ h => hFc q h) hFc (fun r_1 u t H1 locs ht hvm hv hB hz1 hk1 hS => ?_)
  obtain ⟨⟩ := u
  obtain ⟨hP, hD⟩ := cj_join (wr := []) (w1 := []) hP hD [] [] rfl rfl (by decide) (by decide) hk1 hFc ht hB
  generalize H1 = H at hP hS ⊢
  have hP : va_P (dC, dI) vwCl [] H := hP.sub [] rfl
  have hD : va_D A [] := hD.sub [] (by decide) rfl
  refine lv_lstore (lv' := [(5, .long r_1), (0, .long a0), (2, .long a2), (4, .int a4)]) hx hb d_X_lessened_5 hl (by decide) rfl (fun ls hl => ?_)
  refine lv_iload hx hb d_X_lessened_7 (lv_at hl 3 rfl) ?_
  have hv := hv (fun (z0_17 : Int64) => wst p l e (headSpec w_X_lessened ({ frames := 1, cells := 0, slots := 0, locals := 30 })).room s m ([.long a0, .long a2, .int a4] : List Value).toArray below meth c dC dI A 9 Q [] [(5, .long r_1)] 17 [.long z0_17] 0 0) (by
      intro z0_17 hv H locs ls hP hD hS hl
      refine lv_lstore (lv' := [(7, .long z0_17), (5, .long r_1)]) hx hb d_X_lessened_17 hl (by decide) rfl (fun ls hl => ?_)
      refine lv_lload hx hb d_X_lessened_19 (lv_at hl 1 rfl) ?_
      refine lv_lconst (v := (0 : Int64)) hx hb d_X_lessened_21 (by decide) ?_
      refine W.lcmp hx hb d_X_lessened_22 ?_
      refine lv_if_le (tgt := 34) hx hb d_X_lessened_23 (by decide) (fun cd => ?_) (fun cd => ?_)
      · have hv := hv.1 cd
        refine lv_lload hx hb d_X_lessened_34 (lv_at hl 0 rfl) ?_
        exact hq z0_17 () _ _ _ _ hv hP hD hS d_X_lessened_36
      have hv := hv.2 cd
      refine lv_lload hx hb d_X_lessened_26 (lv_at hl 0 rfl) ?_
      refine lv_lload hx hb d_X_lessened_28 (lv_at hl 1 rfl) ?_
      refine lv_ldiv hx hb d_X_lessened_30 hv.1 ?_
      have hv := hv.2
      refine lv_goto (tgt := 36) hx hb d_X_lessened_31 (by decide) ?_
      exact hq (z0_17 / r_1) () _ _ _ _ hv hP hD hS d_X_lessened_36)
  refine lv_if_ne (tgt := 16) hx hb d_X_lessened_9 (by decide) (fun cd => ?_) (fun cd => ?_)
  · have hv := hv.1 cd
    refine lv_lload_n hx hb d_X_lessened_16 rfl (lv_at hl 2 rfl) ?_
    exact hv _ _ _ hP hD hS (lv_sub hl [0] rfl)
  have hv := hv.2 cd
  refine lv_lload_n hx hb d_X_lessened_12 rfl (lv_at hl 1 rfl) ?_
  refine lv_goto (tgt := 17) hx hb d_X_lessened_13 (by decide) ?_
  exact hv _ _ _ hP hD hS (lv_sub hl [0] rfl)
