/-! new arrays: of numbers, of rows; their classes are those that the tables name -/
section GN
variable {p : Program} {l : Launch} {e : Env} {R : Room} {s : State} {m : MethodId} {args : Array Value} {below : List Frame} {meth : Method} {c : Code} {H : Heap} {locs : List Loc} {cells slots : Nat} {Q : State → Prop}
variable {cc : ByteArray} {pc : Nat} {ls : Array Slot} {rest : List Value} {D : va_G} {cl : List vw_C} {A : Nat → Prop} {tys : List (ClassId × FieldType)} {ws : va_W} {H0 : Heap}
theorem gx_cls {k k2 : ClassId} {ty : FieldType} (hob : ∀ C, ty ≠ .object C) (h1 : va_RA s k ty) (h2 : va_RA s k2 ty) : k2 = k := by
  cases ty <;> first | exact Option.some.inj (Eq.trans (Eq.symm h2) h1) | exact absurd rfl (hob _)
theorem gx_newa {k : ClassId} {ty : FieldType} (t0 : Nat) (ht : tys[t0]? = some (k, ty)) (hob : ∀ C, ty ≠ .object C) (hexec : p.tables.exec = Jvm.exec) (hb : c.code = cc) {atype : ArrayType} (harr : (Cond.arrayClass (newarray.typeOf atype)).before args s = true) (hty : newarray.typeOf atype = ty) (hK : va_K D cl tys s) (hP : va_P D cl ws H) (hD : va_D A ws) (hS : va_S A H0 H locs) (hA : ∀ q, H0.size ≤ q → A q)
    {n : Int32} {N' : Nat} {a0 : vp_A} (ha : ∀ cA : ClassId, vp_cell cA a0 = arrV cA N' (fun _ => defaultValue ty)) (hn : ¬ n < 0) (hN : n.toNatClampNeg = N') (hbytes : N' * componentBytes ty ≤ 536870912) (hcells : cells + 1 ≤ R.cells) (hslots : slots + N' ≤ R.slots) (hdg : decode cc pc = .ok (.newarray atype, 2))
    (kk : ∀ (q : Nat) (H1 : Heap), va_P D cl (ws ++ [(q, .inl (k, a0))]) H1 → va_D A (ws ++ [(q, .inl (k, a0))]) → va_S A H0 H1 locs → W p l e R s m args below meth c H1 locs (cells + 1) (slots + N') Q (F0 m (pc + 2) ls (.ref q :: rest))) : W p l e R s m args below meth c H locs cells slots Q (F0 m pc ls (.int n :: rest)) := by
  refine va_newa hexec hb harr hty hK hP hD hS hA ha hn hN hbytes hcells hslots hdg (fun q cA H1 hK1 hP1 hD1 hS1 => ?_)
  have h2 := (hK1.2 tys.length (cA, ty) (by rw [List.getElem?_append_right (Nat.le_refl _), Nat.sub_self]; rfl)).2
  have e9 : cA = k := gx_cls hob (hK.2 t0 _ ht).2 h2
  subst e9
  exact kk q H1 hP1 hD1 hS1
theorem gx_D {new : va_W} {h : Nat} (hD : va_D A ws) (hlt : ∀ (k : Nat) (x : Nat × va_E), ws[k]? = some x → x.1 < h) (hnew : ∀ (j : Nat) (x : Nat × va_E), new[j]? = some x → x.1 = h + j) (hA : ∀ q, h ≤ q → A q) : va_D A (ws ++ new) := by
  refine ⟨fun i j x y hi hj hxy => ?_, fun k x hx => ?_⟩
  · by_cases h1 : i < ws.length <;> by_cases h2 : j < ws.length
    · rw [List.getElem?_append_left h1] at hi
      rw [List.getElem?_append_left h2] at hj
      exact hD.1 i j x y hi hj hxy
    · rw [List.getElem?_append_left h1] at hi
      rw [List.getElem?_append_right (by omega)] at hj
      have h3 := hlt _ _ hi
      have h4 := hnew _ _ hj
      omega
    · rw [List.getElem?_append_right (by omega)] at hi
      rw [List.getElem?_append_left h2] at hj
      have h3 := hlt _ _ hj
      have h4 := hnew _ _ hi
      omega
    · rw [List.getElem?_append_right (by omega)] at hi hj
      have h3 := hnew _ _ hi
      have h4 := hnew _ _ hj
      omega
  · by_cases h1 : k < ws.length
    · rw [List.getElem?_append_left h1] at hx
      exact hD.2 k x hx
    · rw [List.getElem?_append_right (by omega)] at hx
      have h4 := hnew _ _ hx
      exact hA _ (by omega)
theorem gx_outer (c : ClassId) (N h0 : Nat) : ∀ i : Nat, Jvm.Free.Multi.outerC c N h0 i = arrV c N (fun j => va_rf (gq i (fun z => h0 + 1 + z) j))
  | 0 => by
    show ({ cls := c, slots := Array.replicate N .null, vm := .none } : Cell) = _
    rw [arrV_new]
    refine congrArg (arrV c N) (funext fun j => ?_)
    simp [va_rf, gq]
  | i + 1 => by
    show (Jvm.Free.Multi.outerC c N h0 i).setSlot i (.ref (h0 + 1 + i)) = _
    rw [gx_outer c N h0 i, arrV_store]
    refine congrArg (arrV c N) (funext fun j => ?_)
    by_cases e : j = i
    · subst e
      simp [updV, va_rf, gq]
    · by_cases h : j < i
      · simp [updV, e, h, gq, Nat.lt_succ_of_lt h]
      · simp [updV, e, h, gq, show ¬ j < i + 1 by omega]
theorem gx_mna {k kR : ClassId} {ty : FieldType} (t0 t1 : Nat) (ht0 : tys[t0]? = some (k, .array ty)) (ht1 : tys[t1]? = some (kR, ty)) (hob : ∀ C, ty ≠ .object C) (hexec : p.tables.exec = Jvm.exec) (hb : c.code = cc) {own : String} {index : Nat} (hown : s.vm.findClass own = some m.cls) (hclink : (Cond.classLink own index ("[" ++ (FieldType.array ty).toString)).before args s = true) (hover : (Cond.arrayOver (.array ty)).before args s = true) (harr : (Cond.arrayClass ty).before args s = true)
    (hK : va_K D cl tys s) (hP : va_P D cl ws H) (hD : va_D A ws) (hS : va_S A H0 H locs) (hA : ∀ q, H0.size ≤ q → A q) {n i2 : Int32} {N' K' : Nat} {z : vp_A} (hn : ¬ n < 0) (hN : n.toNatClampNeg = N') (hk : ¬ i2 < 0) (hM : i2.toNatClampNeg = K')
    (hb1 : N' * 4 ≤ 536870912) (hb2 : K' * componentBytes ty ≤ 536870912) (hb3 : K' ≤ 536870912) (hdf : fits ty (defaultValue ty) = true) (hdd : (defaultValue ty).isDefault = true) (hcells : cells + (1 + N') ≤ R.cells) (hslots : slots + (N' + N' * K') ≤ R.slots) (hz : ∀ c : ClassId, Jvm.Free.Multi.innerC c K' (defaultValue ty) = vp_cell c z) (hdg : decode cc pc = .ok (.multianewarray index 2, 4))
    (kk : ∀ (q : Nat) (g : Nat → Nat) (H1 : Heap), va_P D cl (ws ++ ((q, .inl (k, N', .inr (.inr (.inr (.inr (gq N' g)))))) :: (List.range N').map (fun i => (g i, .inl (kR, z))))) H1 → va_D A (ws ++ ((q, .inl (k, N', .inr (.inr (.inr (.inr (gq N' g)))))) :: (List.range N').map (fun i => (g i, .inl (kR, z))))) → va_S A H0 H1 locs →
      W p l e R s m args below meth c H1 locs (cells + 1 + N') (slots + N' + N' * K') Q (F0 m (pc + 4) ls (.ref q :: rest))) : W p l e R s m args below meth c H locs cells slots Q (F0 m pc ls (.int i2 :: .int n :: rest)) := by
  subst hN
  subst hM
  intro T hT Xs
  obtain ⟨vm₁, cA, comp, -, fA, fC, hO, -, X', step⟩ := Xs.multianewarray2F hexec hown hclink hover harr (g := F0 m pc ls (.int i2 :: .int n :: rest)) rfl (by rw [hb]; exact hdg) rfl hn hk hb1 hb2 hb3 hdf hdd hcells hslots
  have eA : cA = k := Option.some.inj (fA.symm.trans ((hK.2 t0 _ ht0).2 : s.vm.findClass ("[" ++ (FieldType.array ty).toString) = some k))
  have eC : comp = kR := by
    have h1 : va_RA s kR ty := (hK.2 t1 _ ht1).2
    have h2 : va_RA s comp ty := by
      cases ty <;> first | exact absurd rfl (hob _) | exact fC
    exact gx_cls hob h1 h2
  subst eA
  subst eC
  generalize hF : Jvm.Free.Multi.fill (T.setVm vm₁) cA comp n.toNatClampNeg i2.toNatClampNeg (defaultValue ty) n.toNatClampNeg = F at X' step
  have hTh : (T.setVm vm₁).heap = H := hT
  obtain ⟨f1, f2, -, -⟩ := Jvm.Free.Multi.fill_facts (T.setVm vm₁) cA comp n.toNatClampNeg i2.toNatClampNeg (defaultValue ty) n.toNatClampNeg
  rw [hF, hTh] at f1 f2
  have hold : ∀ x : Nat, x < H.size → F.heap[x]? = H[x]? := fun x hx => by
    have h9 := Jvm.Free.Multi.fill_old (T.setVm vm₁) cA comp n.toNatClampNeg i2.toNatClampNeg (defaultValue ty) (a := x) (by rw [hTh]; exact hx) n.toNatClampNeg
    rw [hF, hTh] at h9
    exact h9
  have hrow : ∀ j : Nat, j < n.toNatClampNeg → F.heap[H.size + 1 + j]? = some (vp_cell comp z) := fun j hj => by
    have h9 := Jvm.Free.Multi.fill_inner (T.setVm vm₁) cA comp n.toNatClampNeg i2.toNatClampNeg (defaultValue ty) n.toNatClampNeg j hj
    rw [hF, hTh, hz] at h9
    exact h9
  rw [gx_outer] at f2
  have hlt : ∀ (k : Nat) (x : Nat × va_E), ws[k]? = some x → x.1 < H.size := fun k x hx => (hP k x hx).lt
  have hP9 : va_P D cl (ws ++ ((H.size, .inl (cA, n.toNatClampNeg, .inr (.inr (.inr (.inr (gq n.toNatClampNeg (fun i => H.size + 1 + i))))))) :: (List.range n.toNatClampNeg).map (fun i => (H.size + 1 + i, .inl (comp, z))))) F.heap := by
    refine (hP.kept (fun k9 x hx => hold x.1 (hlt k9 x hx))).app (fun k9 x hx => ?_)
    cases k9 with
    | zero =>
      cases hx
      show F.heap[H.size]? = some (vp_cell _ _)
      rw [vp_cell_q]
      exact f2
    | succ k9 =>
      obtain ⟨i, hi, rfl⟩ := List.mem_map.mp (List.mem_of_getElem? (show ((List.range n.toNatClampNeg).map (fun i => ((H.size + 1 + i, .inl (comp, z)) : Nat × va_E)))[k9]? = some x from hx))
      exact hrow i (List.mem_range.mp hi)
  have hD9 : va_D A (ws ++ ((H.size, .inl (cA, n.toNatClampNeg, .inr (.inr (.inr (.inr (gq n.toNatClampNeg (fun i => H.size + 1 + i))))))) :: (List.range n.toNatClampNeg).map (fun i => (H.size + 1 + i, .inl (comp, z))))) := by
    refine gx_D (h := H.size) hD hlt (fun j x hx => ?_) (fun q hq => hA q (Nat.le_trans hS.1 hq))
    cases j with
    | zero => cases hx; rfl
    | succ j =>
      have hx : ((List.range n.toNatClampNeg).map (fun i => ((H.size + 1 + i, .inl (comp, z)) : Nat × va_E)))[j]? = some x := hx
      rw [List.getElem?_map] at hx
      by_cases h9 : j < n.toNatClampNeg
      · rw [List.getElem?_range h9] at hx
        cases hx
        show H.size + 1 + j = H.size + (j + 1)
        omega
      · rw [List.getElem?_eq_none (by rw [List.length_range]; omega)] at hx
        cases hx
  obtain ⟨t, a1, b1⟩ := kk H.size (fun i => H.size + 1 + i) F.heap hP9 hD9 ⟨by rw [f1]; have := hS.1; omega, fun x h1 h2 => (hold x (Nat.lt_of_lt_of_le h1 hS.1)).trans (hS.2.1 x h1 h2), hS.2.2⟩ F rfl X'
  refine ⟨t, step t ?_, b1⟩
  have e : T.heap.size = H.size := by rw [hT]
  rw [e]
  exact a1
theorem gx_cl {own a b : String} {i : Nat} {args : Array Value} {s : State} (e : a = b) (h : (Cond.classLink own i b).before args s = true) : (Cond.classLink own i a).before args s = true := e ▸ h
theorem gz_i (K : Nat) (c : ClassId) : Jvm.Free.Multi.innerC c K (defaultValue .int) = vp_cell c (K, .inl (fun _ => 0)) := arrV_new _ _ _
theorem gz_l (K : Nat) (c : ClassId) : Jvm.Free.Multi.innerC c K (defaultValue .long) = vp_cell c (K, .inr (.inl (fun _ => 0))) := arrV_new _ _ _
end GN
