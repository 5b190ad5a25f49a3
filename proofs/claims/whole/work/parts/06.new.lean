/-! new arrays: of numbers, of rows; their classes are those that the tables name -/
section GN
variable {p : Program} {l : Launch} {e : Env} {R : Room} {s : State} {m : MethodId} {args : Array Value} {below : List Frame} {meth : Method} {c : Code} {H : Heap} {locs : List Loc} {cells slots : Nat} {Q : State → Prop}
variable {cc : ByteArray} {pc : Nat} {ls : Array Slot} {rest : List Value} {D : va_G} {cl : List vw_C} {A : Nat → Prop} {tys : List (ClassId × FieldType)} {ws : va_W} {H0 : Heap}
theorem gx_cls {k k2 : ClassId} {ty : FieldType} (hob : ∀ C, ty ≠ .object C) (h1 : va_RA s k ty) (h2 : va_RA s k2 ty) : k2 = k := by
  cases ty <;> first | exact Option.some.inj (Eq.trans (Eq.symm h2) h1) | exact absurd rfl (hob _)
theorem gx_newa {k : ClassId} {ty : FieldType} (t0 : Nat) (ht : tys[t0]? = some (k, ty)) (hob : ∀ C, ty ≠ .object C) (hexec : p.tables.exec = Jvm.exec) (hb : c.code = cc) {atype : ArrayType} (harr : (Cond.arrayClass (newarray.typeOf atype)).before args s = true) (hty : newarray.typeOf atype = ty) (hK : va_K D cl tys s) (hP : va_P D cl ws H) (hD : va_D A ws) (hS : va_S A H0 H locs) (hA : ∀ q, H0.size ≤ q → A q)
    {n : Int32} {N' : Nat} {a0 : vp_A} (ha : ∀ cA : ClassId, vp_cell cA a0 = arrV cA N' (fun _ => defaultValue ty)) (hn : ¬ n < 0) (hN : n.toNatClampNeg = N') (hbytes : N' * componentBytes ty ≤ 536870912) (hcells : cells + 1 ≤ R.cells) (hslots : slots + N' ≤ R.slots) (hdg : decode cc pc = .ok (.newarray atype, 2))
    (kk : ∀ (q : Nat) (H1 : Heap), va_P D cl (ws ++ [(q, .inl (k, a0))]) H1 → va_D A (ws ++ [(q, .inl (k, a0))]) → va_S A H0 H1 locs → W p l e R s m args below meth c H1 locs (cells + 1) (slots + N') Q (F0 m (pc + 2) ls (.ref q :: rest))) : W p l e R s m args below meth c H locs cells slots Q (F0 m pc ls (.int n :: rest)) := by
  refine va_newa hexec hb harr hty hK hP hD hS hA ha hn hN hbytes hcells hslots hdg (fun q cA H1 hK1 hP1 hD1 hS1 => ?_)
  have h2 := (hK1.2 tys.length (cA, ty) (by rw [List.getElem?_append_right (Nat.le_refl _), Nat.sub_self]; rfl)).2
  have e9 : cA = k := gx_cls hob (hK.2 t0 _ ht).2 h2
  subst e9
  exact kk q H1 hP1 hD1 hS1
theorem gx_D {new : va_W} {h : Nat} (hD : va_D A ws) (hlt : ∀ (k : Nat) (x : Nat × va_E), ws[k]? = some x → x.1 < h) (hnew : ∀ (j : Nat) (x : Nat × va_E), new[j]? = some x → x.1 = h + j) (hA : ∀ q, h ≤ q → A q) : va_D A (ws ++ new) := by
  refine ⟨fun i j x y hi hj hxy => ?_, fun k x hx => ?_⟩
  · by_cases h1 : i < ws.length <;> by_cases h2 : j < ws.length
    · rw [List.getElem?_append_left h1] at hi
      rw [List.getElem?_append_left h2] at hj
      exact hD.1 i j x y hi hj hxy
    · rw [List.getElem?_append_left h1] at hi
      rw [List.getElem?_append_right (by omega)] at hj
      have h3 := hlt _ _ hi
      have h4 := hnew _ _ hj
      omega
    · rw [List.getElem?_append_right (by omega)] at hi
      rw [List.getElem?_append_left h2] at hj
      have h3 := hlt _ _ hj
      have h4 := hnew _ _ hi
      omega
    · rw [List.getElem?_append_right (by omega)] at hi hj
      have h3 := hnew _ _ hi
      have h4 := hnew _ _ hj
      omega
  · by_cases h1 : k < ws.length
    · rw [List.getElem?_append_left h1] at hx
      exact hD.2 k x hx
    · rw [List.getElem?_append_right (by omega)] at hx
      have h4 := hnew _ _ hx
      exact hA _ (by omega)
/-- one more row into the array of rows -/
theorem gr_set (cA : ClassId) (N h i : Nat) : (arrV cA N (fun j => va_rf (gq i (fun z => h + 1 + z) j))).setSlot i (.ref (h + 1 + i)) = arrV cA N (fun j => va_rf (gq (i + 1) (fun z => h + 1 + z) j)) := by
  rw [arrV_store]
  refine congrArg (arrV cA N) (funext fun j => ?_)
  by_cases e : j = i
  · subst e
    simp [updV, va_rf, gq]
  · by_cases h : j < i
    · simp [updV, e, h, gq, Nat.lt_succ_of_lt h]
    · simp [updV, e, h, gq, show ¬ j < i + 1 by omega]
/-- the array of rows with i of its rows: how the walk stands there, and what the heap holds -/
def gr_I (p : Program) (l : Launch) (e : Env) (R : Room) (s : State) (m : MethodId) (args : Array Value) (below : List Frame) (meth : Method) (c : Code) (H : Heap) (locs : List Loc) (cells slots : Nat) (V : Vm) (cA comp : ClassId) (N K : Nat) (dv : Value) (i : Nat) (U : State) : Prop :=
  Stand p l e R s m args below meth c U locs (cells + 1 + i) (slots + N + i * K) ∧ U.vm = V ∧ U.heap.size = H.size + 1 + i ∧ U.heap[H.size]? = some (arrV cA N (fun j => va_rf (gq i (fun z => H.size + 1 + z) j))) ∧
    (∀ x : Nat, x < H.size → U.heap[x]? = H[x]?) ∧ ∀ j : Nat, j < i → U.heap[H.size + 1 + j]? = some (arrV comp K (fun _ => dv))
theorem gr_next {V : Vm} {cA comp : ClassId} {N K i : Nat} {dv : Value} {U : State} (hs : s.heap.size ≤ H.size) (h : gr_I p l e R s m args below meth c H locs cells slots V cA comp N K dv i U) :
    gr_I p l e R s m args below meth c H locs cells slots V cA comp N K dv (i + 1) ((U.pushCell (arrV comp K (fun _ => dv))).setCell H.size ((arrV cA N (fun j => va_rf (gq i (fun z => H.size + 1 + z) j))).setSlot i (.ref (H.size + 1 + i)))) := by
  obtain ⟨X, hV, hz, ho, hold, hrow⟩ := h
  have hlt : H.size < U.heap.size := by omega
  have hz1 : (U.pushCell (arrV comp K (fun _ => dv))).heap.size = U.heap.size + 1 := State.heap_size_pushCell ..
  have hc1 : (U.pushCell (arrV comp K (fun _ => dv))).heap[H.size]? = some (arrV cA N (fun j => va_rf (gq i (fun z => H.size + 1 + z) j))) := (State.heap_pushCell_of_lt _ _ hlt).trans ho
  have X1 := ((X.pushed (arrV comp K (fun _ => dv))).stored hc1 i (.ref (H.size + 1 + i))).dropFresh (fun x hx => by
    rw [List.mem_singleton] at hx
    rw [hx]
    exact hs)
  rw [arrV_size] at X1
  refine ⟨?_, hV, ?_, ?_, fun x hx => ?_, fun j hj => ?_⟩
  · have e9 : slots + N + (i + 1) * K = slots + N + i * K + K := by rw [Nat.succ_mul]; omega
    rw [e9]
    exact X1
  · rw [size_setCell, hz1, hz]
    omega
  · have h9 : H.size < (U.pushCell (arrV comp K (fun _ => dv))).heap.size := by rw [hz1]; omega
    rw [heapAt_setCell_self _ h9, gr_set]
  · have h8 : H.size ≠ x := by omega
    have h9 : x < U.heap.size := by omega
    rw [heapAt_setCell_ne _ h8, State.heap_pushCell_of_lt _ _ h9]
    exact hold x hx
  · have h8 : H.size ≠ H.size + 1 + j := by omega
    rw [heapAt_setCell_ne _ h8]
    by_cases h9 : j < i
    · have h7 : H.size + 1 + j < U.heap.size := by omega
      rw [State.heap_pushCell_of_lt _ _ h7]
      exact hrow j h9
    · rw [show H.size + 1 + j = U.heap.size by omega]
      exact State.heap_pushCell_size ..
/-- a row by itself -/
theorem gr_row {E : CtlPost} {d : Bool} {acts : List Action} {Z : State} {comp cw : ClassId} {kC : Class} {ty : FieldType} {i2 : Int32} (hkC : Z.vm.classes[comp]? = some kC) (hkind : kC.kind = .array cw ty) (hk : ¬ i2 < 0)
    (hl : ¬ i2.toNatClampNeg > e.platform.arrayLengthLimit) (hh : ¬ i2.toNatClampNeg * componentBytes ty > e.platform.maxHeapBytes) (hdf : fits ty (defaultValue ty) = true)
    (h1 : Z.heap.size < e.platform.maxCells) (h2 : Z.slotsUsed + i2.toNatClampNeg ≤ e.platform.maxSlots) {Qa : Addr → Pre}
    (hq : ∀ acts1, Qa Z.heap.size d acts1 (Z.pushCell (arrV comp i2.toNatClampNeg (fun _ => defaultValue ty)))) : wp (multianewarray.make comp [i2]) Qa E e d acts Z := by
  rw [multianewarray.make]
  simp only [wp_bind', W.ite, hk, if_false, wp_pure', W.theClass, hkC, hkind, Option.some.injEq, exists_eq_left']
  refine W.newArray_of hkC hkind hl hh h1 h2 hdf (fun acts1 => ?_)
  have h9 := hq acts1
  rw [← arrV_new] at h9
  exact h9
/-- the rows, one behind the other -/
theorem gr_loop {V : Vm} {cA comp cw : ClassId} {kA kC : Class} {ty : FieldType} {i2 : Int32} {N : Nat} {f : JFrame} (hs : s.heap.size ≤ H.size) (hkA : V.classes[cA]? = some kA) (hkA1 : kA.kind = .array comp (.array ty)) (hkC : V.classes[comp]? = some kC) (hkC1 : kC.kind = .array cw ty) (hk : ¬ i2 < 0)
    (hl : ¬ i2.toNatClampNeg > e.platform.arrayLengthLimit) (hh : ¬ i2.toNatClampNeg * componentBytes ty > e.platform.maxHeapBytes) (hdf : fits ty (defaultValue ty) = true)
    (hcells : cells + (1 + N) ≤ R.cells) (hslots : slots + (N + N * i2.toNatClampNeg) ≤ R.slots) :
    ∀ (k i : Nat) (U : State), i + k = N → gr_I p l e R s m args below meth c H locs cells slots V cA comp N i2.toNatClampNeg (defaultValue ty) i U →
      ∃ U1 : State, gr_I p l e R s m args below meth c H locs cells slots V cA comp N i2.toNatClampNeg (defaultValue ty) N U1 ∧
        ∀ (E : CtlPost) (body : Nat → PUnit → Sem (ForInStep PUnit)), (∀ (x : Nat) (Qb : ForInStep PUnit → Pre) (d : Bool) (acts : List Action) (Z : State), wp (body x PUnit.unit) Qb E e d acts Z ↔
            wp (multianewarray.make comp [i2]) (fun a d1 a1 Z1 => wp (writeLoc H.size x (.ref a)) (fun _ d2 a2 Z2 => Qb (.yield PUnit.unit) d2 a2 Z2) E e d1 a1 Z1) E e d acts Z) →
          ∀ (Qf : PUnit → Pre) (d : Bool) (acts : List Action), (∀ d1 acts1, Qf PUnit.unit d1 acts1 (U1.setTop f)) → wp (forIn (List.range' i k) PUnit.unit body) Qf E e d acts (U.setTop f)
  | 0, i, U, hik, hI => by
    have e0 : i = N := by omega
    subst e0
    exact ⟨U, hI, fun E body _ Qf d acts hq => by
      simp only [List.range'_zero, List.forIn_nil, wp_pure']
      exact hq d acts⟩
  | k + 1, i, U, hik, hI => by
    obtain ⟨X, hV, hz, ho, h5, h6⟩ := id hI
    obtain ⟨U1, hI1, hw⟩ := gr_loop hs hkA hkA1 hkC hkC1 hk hl hh hdf hcells hslots k (i + 1) _ (by omega) (gr_next hs hI)
    refine ⟨U1, hI1, fun E body hb Qf d acts hq => ?_⟩
    have hmul : i * i2.toNatClampNeg + i2.toNatClampNeg ≤ N * i2.toNatClampNeg := by
      have h9 := Nat.mul_le_mul_right i2.toNatClampNeg (show i + 1 ≤ N by omega)
      rw [Nat.succ_mul] at h9
      exact h9
    obtain ⟨hr1, hr2⟩ := X.roomAbove (a := 1) (b := i2.toNatClampNeg) (by omega) (by omega)
    have hlt : H.size < U.heap.size := by omega
    rw [List.range'_succ, List.forIn_cons, wp_bind', hb]
    refine gr_row (Z := U.setTop f) (by rw [State.vm_setTop, hV]; exact hkC) hkC1 hk hl hh hdf (by show U.heap.size < _; omega) hr2 (fun acts1 => ?_)
    refine ⟨arrV cA N (fun j => va_rf (gq i (fun z => H.size + 1 + z) j)), (State.heap_pushCell_of_lt U _ hlt).trans ho, by simp [arrV], by rw [arrV_size]; show i < N; omega, ?_, ?_⟩
    · show State.fitsSlot _ cA _ i _ = true
      simp [State.fitsSlot, State.slotType?, hV, hkA, hkA1, arrV]
      rfl
    · have e9 : (U.setTop f).heap.size = H.size + 1 + i := hz
      rw [e9]
      exact hw E body hb Qf _ _ hq
theorem gx_mna {k kR : ClassId} {ty : FieldType} (t0 t1 : Nat) (ht0 : tys[t0]? = some (k, .array ty)) (ht1 : tys[t1]? = some (kR, ty)) (hob : ∀ C, ty ≠ .object C) (hexec : p.tables.exec = Jvm.exec) (hb : c.code = cc) {own : String} {index : Nat} (hown : s.vm.findClass own = some m.cls) (hclink : (Cond.classLink own index ("[" ++ (FieldType.array ty).toString)).before args s = true) (hover : (Cond.arrayOver (.array ty)).before args s = true) (harr : (Cond.arrayClass ty).before args s = true)
    (hK : va_K D cl tys s) (hP : va_P D cl ws H) (hD : va_D A ws) (hS : va_S A H0 H locs) (hA : ∀ q, H0.size ≤ q → A q) {n i2 : Int32} {N' K' : Nat} {z : vp_A} (hn : ¬ n < 0) (hN : n.toNatClampNeg = N') (hk : ¬ i2 < 0) (hM : i2.toNatClampNeg = K')
    (hb1 : N' * 4 ≤ 536870912) (hb2 : K' * componentBytes ty ≤ 536870912) (hb3 : K' ≤ 536870912) (hdf : fits ty (defaultValue ty) = true) (hdd : (defaultValue ty).isDefault = true) (hcells : cells + (1 + N') ≤ R.cells) (hslots : slots + (N' + N' * K') ≤ R.slots) (hz : ∀ c : ClassId, arrV c K' (fun _ => defaultValue ty) = vp_cell c z) (hdg : decode cc pc = .ok (.multianewarray index 2, 4))
    (kk : ∀ (q : Nat) (g : Nat → Nat) (H1 : Heap), va_P D cl (ws ++ ((q, .inl (k, N', .inr (.inr (.inr (.inr (gq N' g)))))) :: (List.range N').map (fun i => (g i, .inl (kR, z))))) H1 → va_D A (ws ++ ((q, .inl (k, N', .inr (.inr (.inr (.inr (gq N' g)))))) :: (List.range N').map (fun i => (g i, .inl (kR, z))))) → va_S A H0 H1 locs →
      W p l e R s m args below meth c H1 locs (cells + 1 + N') (slots + N' + N' * K') Q (F0 m (pc + 4) ls (.ref q :: rest))) : W p l e R s m args below meth c H locs cells slots Q (F0 m pc ls (.int i2 :: .int n :: rest)) := by
  subst hN
  subst hM
  intro T hT Xs
  have hpl : e.platform.magicAccessors = ({} : Platform).magicAccessors := by rw [Xs.admits.platform]
  obtain ⟨comp, cA, kA, fC, -, hkA, hkindA, fA⟩ := arrayOverA_spec hover
  obtain ⟨comp9, kC, cw, fC9, hkC, hkindC⟩ := Cond.arrayClass_spec harr
  cases Option.some.inj (fC9.symm.trans fC)
  obtain ⟨cA9, fA9, hcl9⟩ := Cond.classLink_spec hown hclink e.platform hpl
  cases Option.some.inj (fA9.symm.trans fA)
  have eA : cA = k := Option.some.inj (fA.symm.trans ((hK.2 t0 _ ht0).2 : s.vm.findClass ("[" ++ (FieldType.array ty).toString) = some k))
  have eC : comp = kR := by
    have h1 : va_RA s kR ty := (hK.2 t1 _ ht1).2
    have h2 : va_RA s comp ty := by
      cases ty <;> first | exact absurd rfl (hob _) | exact fC
    exact gx_cls hob h1 h2
  subst eA
  subst eC
  obtain ⟨hgv, hwv, -⟩ := State.classEntry (e := e) Xs.warmed hcl9
  generalize T.vm.noted m.cls index (.cls cA) = vm₁ at hgv hwv
  obtain ⟨kA₁, hkA₁, heA⟩ := hwv.alike.2.2 _ _ hkA
  obtain ⟨kC₁, hkC₁, heC⟩ := hwv.alike.2.2 _ _ hkC
  have hkindA₁ : kA₁.kind = .array comp (.array ty) := by rw [heA]; exact hkindA
  have hkindC₁ : kC₁.kind = .array cw ty := by rw [heC]; exact hkindC
  have hl1 : ¬ n.toNatClampNeg > e.platform.arrayLengthLimit := by rw [Launch.admits_arrayLengthLimit Xs.admits]; omega
  have hh1 : ¬ n.toNatClampNeg * componentBytes (.array ty) > e.platform.maxHeapBytes := by
    rw [Launch.admits_maxHeapBytes Xs.admits]
    show ¬ n.toNatClampNeg * 4 > 536870912
    omega
  have hl2 : ¬ i2.toNatClampNeg > e.platform.arrayLengthLimit := by rw [Launch.admits_arrayLengthLimit Xs.admits]; omega
  have hh2 : ¬ i2.toNatClampNeg * componentBytes ty > e.platform.maxHeapBytes := by rw [Launch.admits_maxHeapBytes Xs.admits]; omega
  have hTz : T.heap.size = H.size := by rw [hT]
  obtain ⟨hr1, hr2⟩ := Xs.roomAbove hcells hslots
  have h0 : gr_I p l e R s m args below meth c H locs cells slots vm₁ cA comp n.toNatClampNeg i2.toNatClampNeg (defaultValue ty) 0 ((T.setVm vm₁).pushCell (arrV cA n.toNatClampNeg (fun _ => .null))) := by
    have X9 := (Xs.noted hwv).pushed (arrV cA n.toNatClampNeg (fun _ => .null))
    rw [arrV_size] at X9
    refine ⟨by rw [Nat.zero_mul]; exact X9, rfl, by rw [State.heap_size_pushCell]; show T.heap.size + 1 = _; omega, ?_, fun x hx => ?_, fun j hj => absurd hj (Nat.not_lt_zero _)⟩
    · rw [← hTz]
      refine (State.heap_pushCell_size (s := T.setVm vm₁) ..).trans ?_
      simp [va_rf, gq]
    · rw [State.heap_pushCell_of_lt _ _ (by show x < T.heap.size; omega)]
      show T.heap[x]? = _
      rw [hT]
  obtain ⟨F, hF, hrun⟩ := gr_loop (f := F0 m pc ls rest) (by rw [← hTz]; exact Xs.heapGrown) hkA₁ hkindA₁ hkC₁ hkindC₁ hk hl2 hh2 hdf hcells hslots n.toNatClampNeg 0 _ (Nat.zero_add _) h0
  obtain ⟨X', hFv, f1, f2, hold, hrow0⟩ := hF
  have hrow : ∀ j : Nat, j < n.toNatClampNeg → F.heap[H.size + 1 + j]? = some (vp_cell comp z) := fun j hj => (hrow0 j hj).trans (congrArg some (hz comp))
  have hlt : ∀ (k : Nat) (x : Nat × va_E), ws[k]? = some x → x.1 < H.size := fun k x hx => (hP k x hx).lt
  have hP9 : va_P D cl (ws ++ ((H.size, .inl (cA, n.toNatClampNeg, .inr (.inr (.inr (.inr (gq n.toNatClampNeg (fun i => H.size + 1 + i))))))) :: (List.range n.toNatClampNeg).map (fun i => (H.size + 1 + i, .inl (comp, z))))) F.heap := by
    refine (hP.kept (fun k9 x hx => hold x.1 (hlt k9 x hx))).app (fun k9 x hx => ?_)
    cases k9 with
    | zero =>
      cases hx
      show F.heap[H.size]? = some (vp_cell _ _)
      rw [vp_cell_q]
      exact f2
    | succ k9 =>
      obtain ⟨i, hi, rfl⟩ := List.mem_map.mp (List.mem_of_getElem? (show ((List.range n.toNatClampNeg).map (fun i => ((H.size + 1 + i, .inl (comp, z)) : Nat × va_E)))[k9]? = some x from hx))
      exact hrow i (List.mem_range.mp hi)
  have hD9 : va_D A (ws ++ ((H.size, .inl (cA, n.toNatClampNeg, .inr (.inr (.inr (.inr (gq n.toNatClampNeg (fun i => H.size + 1 + i))))))) :: (List.range n.toNatClampNeg).map (fun i => (H.size + 1 + i, .inl (comp, z))))) := by
    refine gx_D (h := H.size) hD hlt (fun j x hx => ?_) (fun q hq => hA q (Nat.le_trans hS.1 hq))
    cases j with
    | zero => cases hx; rfl
    | succ j =>
      have hx : ((List.range n.toNatClampNeg).map (fun i => ((H.size + 1 + i, .inl (comp, z)) : Nat × va_E)))[j]? = some x := hx
      rw [List.getElem?_map] at hx
      by_cases h9 : j < n.toNatClampNeg
      · rw [List.getElem?_range h9] at hx
        cases hx
        show H.size + 1 + j = H.size + (j + 1)
        omega
      · rw [List.getElem?_eq_none (by rw [List.length_range]; omega)] at hx
        cases hx
  obtain ⟨t, a1, b1⟩ := kk H.size (fun i => H.size + 1 + i) F.heap hP9 hD9 ⟨by rw [f1]; have := hS.1; omega, fun x h1 h2 => (hold x (Nat.lt_of_lt_of_le h1 hS.1)).trans (hS.2.1 x h1 h2), hS.2.2⟩ F rfl X'
  refine ⟨t, ?_, b1⟩
  jvm_step Xs.here [hexec, hb, hdg]
  simp only [multianewarray.sem, wp_bind', W.resolveClassAt_links (State.method?_setTop (F0 m pc ls (.int i2 :: .int n :: rest)) Xs.here.top) hgv]
  refine (popN_top (s := T.setVm vm₁) (f := F0 m pc ls (.int i2 :: .int n :: rest)) (args := [.int n, .int i2]) (rest := rest) Xs.here.top rfl).mpr ?_
  simp only [List.mapM_cons, List.mapM_nil, wp_bind', wp_pure']
  rw [multianewarray.make]
  simp only [wp_bind', W.ite, hn, if_false, wp_pure', W.theClass, State.vm_setTop, State.vm_setVm, hkA₁, hkindA₁, Option.some.injEq, exists_eq_left']
  refine W.newArray_of (s := (T.setVm vm₁).setTop (F0 m pc ls rest)) hkA₁ hkindA₁ hl1 hh1 (by show T.heap.size < _; omega) (by show T.slotsUsed + _ ≤ _; omega) rfl (fun acts1 => ?_)
  have hnone : List.find? (fun x : Int32 => decide (x < 0)) [i2] = none := by simp [hk]
  simp only [hnone]
  rw [ite_self, wp_bind', Std.Legacy.Range.forIn_eq_forIn_range', show ([:n.toNatClampNeg] : Std.Legacy.Range).size = n.toNatClampNeg by simp [Std.Legacy.Range.size]]
  have eU : ((T.setVm vm₁).setTop (F0 m pc ls rest)).pushCell { cls := cA, slots := Array.replicate n.toNatClampNeg .null } = ((T.setVm vm₁).pushCell (arrV cA n.toNatClampNeg (fun _ => .null))).setTop (F0 m pc ls rest) := by
    rw [← arrV_new]
    rfl
  rw [eU]
  refine hrun _ _ (fun x Qb d acts Z => ?_) _ _ _ (fun d1 acts2 => ?_)
  · simp only [wp_bind', wp_pure']
    rw [← hTz]
    exact Iff.rfl
  · simp only [wp_pure', wp_bind', W.mark, W.pushRef, State.topJava?_setTop' _ X'.here.top, Option.some.injEq, exists_eq_left', State.setTop_setTop]
    intro acts
    simp [jvm, X'.here.top]
    rw [hTz]
    exact a1
theorem gx_cl {own a b : String} {i : Nat} {args : Array Value} {s : State} (e : a = b) (h : (Cond.classLink own i b).before args s = true) : (Cond.classLink own i a).before args s = true := e ▸ h
theorem gz_i (K : Nat) (c : ClassId) : arrV c K (fun _ => defaultValue .int) = vp_cell c (K, .inl (fun _ => 0)) := rfl
theorem gz_l (K : Nat) (c : ClassId) : arrV c K (fun _ => defaultValue .long) = vp_cell c (K, .inr (.inl (fun _ => 0))) := rfl
end GN
