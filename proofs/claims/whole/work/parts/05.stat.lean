/-! what is given at the start and carried along: the statics, the texts -/
/-- a word that holds however the cells of A and the new ones change -/
def xs_K (w : Cond) (A : Nat → Prop) (U : State) : Prop := ∀ (args : Array Value) (V : State), U.WarmedH V.vm → (∀ a : Nat, a < U.heap.size → ¬ A a → V.heap[a]? = U.heap[a]?) → w.before args V = true
theorem xs_K.mv {w : Cond} {A B : Nat → Prop} {u U : State} {locs : List Loc} (h : xs_K w A u) (hS : va_S A u.heap U.heap locs) (hW : u.WarmedH U.vm) (hBA : ∀ q, B q → A q) : xs_K w B U := fun args V hV hk =>
  h args V (State.WarmedH.trans hW hV) (fun a ha hA => by rw [hk a (Nat.lt_of_lt_of_le ha hS.1) (fun z => hA (hBA a z))]; exact hS.2.1 a ha hA)
theorem xs_at {w : Cond} {A : Nat → Prop} {args : Array Value} {s : State} (h : xs_K w A s) : w.before args s = true := h args s (State.WarmedH.refl s) (fun _ _ _ => rfl)
def f_ch (n : Int32) : Int32 := if n < 4 then 4 else if 24 < n then 24 else n
theorem ch_1 {n : Int32} (h : ¬ 4 ≤ n) : f_ch n = 4 := if_pos (Int32.not_le.mp h)
theorem ch_2 {n : Int32} (h : 4 ≤ n) (h2 : ¬ n ≤ 24) : f_ch n = 24 := by rw [f_ch, if_neg (Int32.not_lt.mpr h), if_pos (Int32.not_le.mp h2)]
theorem ch_3 {n : Int32} (h : 4 ≤ n) (h2 : n ≤ 24) : f_ch n = n := by rw [f_ch, if_neg (Int32.not_lt.mpr h), if_neg (Int32.not_lt.mpr h2)]
def f_sets : Nat → Int32 := fun j => match j with
  | 0 => 0
  | 1 => 1
  | 2 => 2
  | 3 => 4
  | 4 => 3
  | 5 => 5
  | 6 => 6
  | _ => 7
def xw : List Cond := [.isRef (.static Bundle.tN "UNASSIGNED_STACK" Bundle.steD), .isRef (.static Bundle.tN "SUPPRESSED_SENTINEL" Bundle.listD), .laysStatic Bundle.tN "UNASSIGNED_STACK" Bundle.steD, .laysStatic Bundle.tN "SUPPRESSED_SENTINEL" Bundle.listD,
  .declares (Bundle.initS "java/lang/RuntimeException"), .declares (Bundle.initS "java/lang/Exception"), .declares (Bundle.initS Bundle.tN), .castable "java/lang/IndexOutOfBoundsException" "java/lang/IndexOutOfBoundsException", .castable "java/lang/IllegalArgumentException" "java/lang/IllegalArgumentException", .castable "java/lang/IllegalStateException" "java/lang/IllegalStateException",
  .arrayOver (.array .int), .arrayOver (.array .long), .methodLinkNest "SpectrumParts" 36 y_XLi_init "SpectrumParts", .methodLinkNest "SpectrumParts" 50 y_XSa_init "SpectrumParts", .methodLinkNest "SpectrumParts" 57 y_XSt_init "SpectrumParts",
  .not (.castable "java/lang/IllegalArgumentException" "java/lang/IndexOutOfBoundsException"), .not (.castable "java/lang/IllegalStateException" "java/lang/IndexOutOfBoundsException"), .not (.castable "java/lang/IllegalStateException" "java/lang/IllegalArgumentException")]
def gX (tS s1 s2 s3 : Nat) (A : Nat → Prop) (U : State) : Prop :=
  va_Z "SpectrumParts" "SETS" "[I" (.ref tS) A U U.heap ∧ va_T .int tS 8 (fun j => .int (f_sets j)) A U U.heap ∧ va_Nw (.fieldLinkNest "SpectrumParts$Mixture" 55 "SpectrumParts" "SETS" "[I" "SpectrumParts") U ∧
  vk_R "SpectrumParts" 194 "there is no such one" s1 U ∧ vk_R "SpectrumParts" 201 "a value is outside its bounds" s2 U ∧ vk_R "SpectrumParts" 206 "the state does not allow this call" s3 U ∧ ∀ w ∈ xw, xs_K w A U
theorem gX_mv {tS s1 s2 s3 : Nat} : px_mv (gX tS s1 s2 s3) := by
  intro A B H0 u U locs h hS hW hBA
  obtain ⟨h1, h2, h3, h4, h5, h6, h7⟩ := h
  exact ⟨((h1.moved hW.alike).kept hS.2.1).narrow hBA, ((h2.moved hW.alike).kept hS.2.1).narrow hBA, h3.warmF hW, h4.warm hW, h5.warm hW, h6.warm hW, fun w hw => (h7 w hw).mv hS hW hBA⟩
def nmx : List String := ["java/lang/RuntimeException", "java/lang/Exception"]
theorem hx_all {E : String} {ic : Nat} (h : (Bundle.ownAtoms "SpectrumParts" ic E nmx).all (fun w => decide (w ∈ lw_g) || decide (w ∈ xw)) = true) {args : Array Value} {s : State} {A : Nat → Prop} (hts : ∀ w ∈ lw_g, w.before args s = true) (hG : ∀ w ∈ xw, xs_K w A s) : ∀ w ∈ Bundle.ownAtoms "SpectrumParts" ic E nmx, w.before args s = true := by
  intro w hw
  have h1 := List.all_eq_true.mp h w hw
  simp only [Bool.or_eq_true, decide_eq_true_eq] at h1
  rcases h1 with h1 | h1
  · exact hts w h1
  · exact hG w h1 args s (State.WarmedH.refl s) (fun _ _ _ => rfl)
theorem hx_io : (Bundle.ownAtoms "SpectrumParts" 196 "java/lang/IndexOutOfBoundsException" nmx).all (fun w => decide (w ∈ lw_g) || decide (w ∈ xw)) = true := by decide +kernel
theorem hx_ia : (Bundle.ownAtoms "SpectrumParts" 203 "java/lang/IllegalArgumentException" nmx).all (fun w => decide (w ∈ lw_g) || decide (w ∈ xw)) = true := by decide +kernel
theorem hx_is : (Bundle.ownAtoms "SpectrumParts" 208 "java/lang/IllegalStateException" nmx).all (fun w => decide (w ∈ lw_g) || decide (w ∈ xw)) = true := by decide +kernel
/-- a method that looks at its arguments and returns, or throws: it has no world -/
theorem pyt {l : Launch} (hlt : l.stackTraces = false) {G : (Nat → Prop) → State → Prop} {y : MethodName} {ws ws' : List Cond} {rm : Room} {cc : ByteArray} {maxL : Nat} {av : List Value} {D : va_G} {cl : List vw_C} {tys : List (ClassId × FieldType)} {post : Unit → Unit → Prop} {pX : String → Unit → Prop} {sz : Nat}
    (hy : plainName y.cls = true) (hw : ws = Cond.code y cc maxL none :: ws') (hlen : (lg_sl av).length ≤ maxL) (hrf : 5 < rm.frames) (hrl : 83 ≤ rm.locals) (hrc : 1 ≤ rm.cells) (hrs : 6 ≤ rm.slots)
    (body : ∀ (p : Program) (e : Env) (s : State) (m : MethodId) (below : List Frame) (meth : Method) (c : Code) (A : Nat → Prop) (ls : Array Slot) (Q : State → Prop), p.tables.exec = Jvm.exec → c.code = cc → c.maxLocals = maxL → (∀ w ∈ ws, w.before av.toArray s = true) → s.vm.findClass y.cls = some m.cls → G A s → lv_has ls maxL (lv_args 0 av) →
      (∀ (pc : Nat) (ls : Array Slot), post () () → decode cc pc = .ok (.return_, 1) → W p l e (headSpec ws rm).room s m av.toArray below meth c s.heap [] 0 0 Q (F0 m pc ls [])) →
      (∀ (E text own : String) (ik is ic sa pc : Nat) (ls : Array Slot), pX E () → Bundle.fit E = true → s.vm.findClass own = some m.cls → (Cond.classLink own ik E).before av.toArray s = true → (Cond.initialized E).before av.toArray s = true → vk_R own is text sa s → (∀ w ∈ Bundle.ownAtoms own ic E nmx, w.before av.toArray s = true) → ls.size = c.maxLocals →
        decode cc pc = .ok (.new ik, 3) → decode cc (pc + 3) = .ok (.dup, 1) → decode cc (pc + 4) = .ok (.ldc is, 2) → decode cc (pc + 6) = .ok (.invokespecial ic, 3) → decode cc (pc + 9) = .ok (.athrow, 1) → W p l e (headSpec ws rm).room s m av.toArray below meth c s.heap [] 0 0 Q (F0 m pc ls [])) →
      W p l e (headSpec ws rm).room s m av.toArray below meth c s.heap [] 0 0 Q (F0 m 0 ls [])) :
    xe_Met l y ws rm (va_Pc av (px_B G D cl tys [] sz)) (fun _ : Unit => none) post pX (fun _ : Unit => ax_B (va_A [] sz) D cl tys []) (va_A [] sz) 1 6 := by
  refine xe_ofW (cc := cc) (maxL := maxL) (ret := none) hy hw ?_
  intro p e s m args below meth c s₁ X hml hno hv
  obtain ⟨rfl, hsz, hP, hK, hD0, hG⟩ := hv
  subst hsz
  have hl := lv_entry av (n := maxL) hlen
  rw [lg_entry_eq]
  generalize (lg_sl av ++ List.replicate (maxL - (lg_sl av).length) Slot.unset).toArray = ls at hl ⊢
  have hD := hD0.self (sz := s.heap.size)
  refine body p e s m below meth c (va_A [] s.heap.size) ls _ X.exec X.bytes hml (atoms_spec (ws := ws) X.pre) (findClass_of_methodNamed X.named) hG hl
    (fun pc ls hp hd => W.widen (k := 1) (n := 6) (by omega) (by omega) (xe_ret (W.vret X.exec X.bytes X.returns (fun t ht hW => ⟨⟨(), (), rfl, hp, by rw [ht]; exact hP, va_K.moved hW.alike hK, hD⟩, (va_S.rf (A := va_A [] s.heap.size) (H0 := s.heap)).F ht⟩) (fun q hq => nomatch hq) hd (hlocks := X.notSynchronized)))) ?_
  intro E text own ik is ic sa pc ls hp hE hown hk hini hstr hat hsize d0 d3 d4 d6 d9
  refine xe_throw (u := ()) X.exec X.bytes hlt hno X.notSynchronized hown hE (by decide +kernel) hk hini hstr hat hsize d0 d3 d4 d6 d9 hrf hrl hrc hrs (Nat.le_refl _) (Nat.le_refl _) hp (fun t hvm _ _ => ⟨fun k q h => by simp at h, va_K.moved hvm hK, hD⟩)
theorem pyi {l : Launch} {G : (Nat → Prop) → State → Prop} {y : MethodName} {ws ws' : List Cond} {rm : Room} {cc : ByteArray} {maxL : Nat} {av : List Value} {D : va_G} {cl : List vw_C} {tys : List (ClassId × FieldType)} {w0 : va_W} {S : Type} {wd : S → va_W} {post : Int32 → S → Prop} {pX : String → S → Prop} {mc ms sz : Nat}
    (hy : plainName y.cls = true) (hw : ws = Cond.code y cc maxL (some .int) :: ws') (hlen : (lg_sl av).length ≤ maxL)
    (body : ∀ (p : Program) (e : Env) (s : State) (m : MethodId) (below : List Frame) (meth : Method) (c : Code) (A : Nat → Prop) (ls : Array Slot) (Q : State → Prop) (H : Heap), p.tables.exec = Jvm.exec → c.code = cc → c.maxLocals = maxL → (∀ w ∈ ws, w.before av.toArray s = true) → s.vm.findClass y.cls = some m.cls → va_K D cl tys s → G A s → va_P D cl w0 H → va_D A w0 → va_S A s.heap H [] → (∀ q : Nat, s.heap.size ≤ q → A q) → lv_has ls maxL (lv_args 0 av) →
      (∀ (r : Int32) (u : S) (H : Heap) (locs : List Loc) (pc : Nat) (ls : Array Slot), post r u → va_P D cl (wd u) H → va_D A (wd u) → va_S A s.heap H locs → decode cc pc = .ok (.ireturn, 1) → W p l e (headSpec ws rm).room s m av.toArray below meth c H locs mc ms Q (F0 m pc ls [.int r])) →
      (∀ (E : String) (u : S) (H : Heap) (locs : List Loc) (pc : Nat) (ls : Array Slot) (rest : List Value) (q : Addr) (ce : Cell), pX E u → va_P D cl (wd u) H → va_D A (wd u) → va_S A s.heap H locs → H[q]? = some ce → ce.vm = .none → s.vm.findClass E = some ce.cls → xe_W p l e (headSpec ws rm).room s m av.toArray below meth c H locs mc ms Q (F0 m pc ls rest) q) →
      W p l e (headSpec ws rm).room s m av.toArray below meth c H [] 0 0 Q (F0 m 0 ls [])) :
    xe_Met l y ws rm (va_Pc av (px_B G D cl tys w0 sz)) (fun r : Int32 => some (.int r)) post pX (fun u => ax_B (va_A w0 sz) D cl tys (wd u)) (va_A w0 sz) mc ms := by
  refine xe_ofW (cc := cc) (maxL := maxL) (ret := some .int) hy hw ?_
  intro p e s m args below meth c s₁ X hml hno hv
  obtain ⟨rfl, hsz, hP, hK, hD0, hG⟩ := hv
  subst hsz
  have hl := lv_entry av (n := maxL) hlen
  rw [lg_entry_eq]
  generalize (lg_sl av ++ List.replicate (maxL - (lg_sl av).length) Slot.unset).toArray = ls at hl ⊢
  exact body p e s m below meth c (va_A w0 s.heap.size) ls _ s.heap X.exec X.bytes hml (atoms_spec (ws := ws) X.pre) (findClass_of_methodNamed X.named) hK hG hP (hD0.self (sz := s.heap.size)) va_S.rf (fun q h => Or.inr h) hl
    (fun r u H locs pc ls hp hP hD hS hd => xe_ret (W.iret X.exec X.bytes X.returns (fun t ht hW => ⟨⟨r, u, rfl, hp, by rw [ht]; exact hP, va_K.moved hW.alike hK, hD⟩, hS.F ht⟩) hS.2.2 hd (hlocks := X.notSynchronized)))
    (fun E u H locs pc ls rest q ce hp hP hD hS hce hcv hcl => xe_out hno X.notSynchronized hce hcv hcl hp (fun t ht hvm => ⟨by rw [ht]; exact hP, va_K.moved hvm hK, hD⟩) hS (Nat.le_refl _) (Nat.le_refl _))
theorem pyl {l : Launch} {G : (Nat → Prop) → State → Prop} {y : MethodName} {ws ws' : List Cond} {rm : Room} {cc : ByteArray} {maxL : Nat} {av : List Value} {D : va_G} {cl : List vw_C} {tys : List (ClassId × FieldType)} {w0 : va_W} {S : Type} {wd : S → va_W} {post : Int64 → S → Prop} {pX : String → S → Prop} {mc ms sz : Nat}
    (hy : plainName y.cls = true) (hw : ws = Cond.code y cc maxL (some .long) :: ws') (hlen : (lg_sl av).length ≤ maxL)
    (body : ∀ (p : Program) (e : Env) (s : State) (m : MethodId) (below : List Frame) (meth : Method) (c : Code) (A : Nat → Prop) (ls : Array Slot) (Q : State → Prop) (H : Heap), p.tables.exec = Jvm.exec → c.code = cc → c.maxLocals = maxL → (∀ w ∈ ws, w.before av.toArray s = true) → s.vm.findClass y.cls = some m.cls → va_K D cl tys s → G A s → va_P D cl w0 H → va_D A w0 → va_S A s.heap H [] → (∀ q : Nat, s.heap.size ≤ q → A q) → lv_has ls maxL (lv_args 0 av) →
      (∀ (r : Int64) (u : S) (H : Heap) (locs : List Loc) (pc : Nat) (ls : Array Slot), post r u → va_P D cl (wd u) H → va_D A (wd u) → va_S A s.heap H locs → decode cc pc = .ok (.lreturn, 1) → W p l e (headSpec ws rm).room s m av.toArray below meth c H locs mc ms Q (F0 m pc ls [.long r])) →
      (∀ (E : String) (u : S) (H : Heap) (locs : List Loc) (pc : Nat) (ls : Array Slot) (rest : List Value) (q : Addr) (ce : Cell), pX E u → va_P D cl (wd u) H → va_D A (wd u) → va_S A s.heap H locs → H[q]? = some ce → ce.vm = .none → s.vm.findClass E = some ce.cls → xe_W p l e (headSpec ws rm).room s m av.toArray below meth c H locs mc ms Q (F0 m pc ls rest) q) →
      W p l e (headSpec ws rm).room s m av.toArray below meth c H [] 0 0 Q (F0 m 0 ls [])) :
    xe_Met l y ws rm (va_Pc av (px_B G D cl tys w0 sz)) (fun r : Int64 => some (.long r)) post pX (fun u => ax_B (va_A w0 sz) D cl tys (wd u)) (va_A w0 sz) mc ms := by
  refine xe_ofW (cc := cc) (maxL := maxL) (ret := some .long) hy hw ?_
  intro p e s m args below meth c s₁ X hml hno hv
  obtain ⟨rfl, hsz, hP, hK, hD0, hG⟩ := hv
  subst hsz
  have hl := lv_entry av (n := maxL) hlen
  rw [lg_entry_eq]
  generalize (lg_sl av ++ List.replicate (maxL - (lg_sl av).length) Slot.unset).toArray = ls at hl ⊢
  exact body p e s m below meth c (va_A w0 s.heap.size) ls _ s.heap X.exec X.bytes hml (atoms_spec (ws := ws) X.pre) (findClass_of_methodNamed X.named) hK hG hP (hD0.self (sz := s.heap.size)) va_S.rf (fun q h => Or.inr h) hl
    (fun r u H locs pc ls hp hP hD hS hd => xe_ret (W.lret X.exec X.bytes X.returns (fun t ht hW => ⟨⟨r, u, rfl, hp, by rw [ht]; exact hP, va_K.moved hW.alike hK, hD⟩, hS.F ht⟩) hS.2.2 hd (hlocks := X.notSynchronized)))
    (fun E u H locs pc ls rest q ce hp hP hD hS hce hcv hcl => xe_out hno X.notSynchronized hce hcv hcl hp (fun t ht hvm => ⟨by rw [ht]; exact hP, va_K.moved hvm hK, hD⟩) hS (Nat.le_refl _) (Nat.le_refl _))
theorem pyz {l : Launch} {G : (Nat → Prop) → State → Prop} {y : MethodName} {ws ws' : List Cond} {rm : Room} {cc : ByteArray} {maxL : Nat} {av : List Value} {D : va_G} {cl : List vw_C} {tys : List (ClassId × FieldType)} {w0 : va_W} {S : Type} {wd : S → va_W} {post : Int32 → S → Prop} {pX : String → S → Prop} {mc ms sz : Nat}
    (hy : plainName y.cls = true) (hw : ws = Cond.code y cc maxL (some .boolean) :: ws') (hlen : (lg_sl av).length ≤ maxL)
    (body : ∀ (p : Program) (e : Env) (s : State) (m : MethodId) (below : List Frame) (meth : Method) (c : Code) (A : Nat → Prop) (ls : Array Slot) (Q : State → Prop) (H : Heap), p.tables.exec = Jvm.exec → c.code = cc → c.maxLocals = maxL → (∀ w ∈ ws, w.before av.toArray s = true) → s.vm.findClass y.cls = some m.cls → va_K D cl tys s → G A s → va_P D cl w0 H → va_D A w0 → va_S A s.heap H [] → (∀ q : Nat, s.heap.size ≤ q → A q) → lv_has ls maxL (lv_args 0 av) →
      (∀ (r : Int32) (u : S) (H : Heap) (locs : List Loc) (pc : Nat) (ls : Array Slot), post r u → va_P D cl (wd u) H → va_D A (wd u) → va_S A s.heap H locs → decode cc pc = .ok (.ireturn, 1) → narrow .boolean (.int r) = .int r → W p l e (headSpec ws rm).room s m av.toArray below meth c H locs mc ms Q (F0 m pc ls [.int r])) →
      (∀ (E : String) (u : S) (H : Heap) (locs : List Loc) (pc : Nat) (ls : Array Slot) (rest : List Value) (q : Addr) (ce : Cell), pX E u → va_P D cl (wd u) H → va_D A (wd u) → va_S A s.heap H locs → H[q]? = some ce → ce.vm = .none → s.vm.findClass E = some ce.cls → xe_W p l e (headSpec ws rm).room s m av.toArray below meth c H locs mc ms Q (F0 m pc ls rest) q) →
      W p l e (headSpec ws rm).room s m av.toArray below meth c H [] 0 0 Q (F0 m 0 ls [])) :
    xe_Met l y ws rm (va_Pc av (px_B G D cl tys w0 sz)) (fun r : Int32 => some (.int r)) post pX (fun u => ax_B (va_A w0 sz) D cl tys (wd u)) (va_A w0 sz) mc ms := by
  refine xe_ofW (cc := cc) (maxL := maxL) (ret := some .boolean) hy hw ?_
  intro p e s m args below meth c s₁ X hml hno hv
  obtain ⟨rfl, hsz, hP, hK, hD0, hG⟩ := hv
  subst hsz
  have hl := lv_entry av (n := maxL) hlen
  rw [lg_entry_eq]
  generalize (lg_sl av ++ List.replicate (maxL - (lg_sl av).length) Slot.unset).toArray = ls at hl ⊢
  exact body p e s m below meth c (va_A w0 s.heap.size) ls _ s.heap X.exec X.bytes hml (atoms_spec (ws := ws) X.pre) (findClass_of_methodNamed X.named) hK hG hP (hD0.self (sz := s.heap.size)) va_S.rf (fun q h => Or.inr h) hl
    (fun r u H locs pc ls hp hP hD hS hd hn => xe_ret (W.zret X.exec X.bytes X.returns hn (fun t ht hW => ⟨⟨r, u, rfl, hp, by rw [ht]; exact hP, va_K.moved hW.alike hK, hD⟩, hS.F ht⟩) hS.2.2 hd (hlocks := X.notSynchronized)))
    (fun E u H locs pc ls rest q ce hp hP hD hS hce hcv hcl => xe_out hno X.notSynchronized hce hcv hcl hp (fun t ht hvm => ⟨by rw [ht]; exact hP, va_K.moved hvm hK, hD⟩) hS (Nat.le_refl _) (Nat.le_refl _))
theorem pyv {l : Launch} {G : (Nat → Prop) → State → Prop} {y : MethodName} {ws ws' : List Cond} {rm : Room} {cc : ByteArray} {maxL : Nat} {av : List Value} {D : va_G} {cl : List vw_C} {tys : List (ClassId × FieldType)} {w0 : va_W} {S : Type} {wd : S → va_W} {post : Unit → S → Prop} {pX : String → S → Prop} {mc ms sz : Nat}
    (hy : plainName y.cls = true) (hw : ws = Cond.code y cc maxL (none) :: ws') (hlen : (lg_sl av).length ≤ maxL)
    (body : ∀ (p : Program) (e : Env) (s : State) (m : MethodId) (below : List Frame) (meth : Method) (c : Code) (A : Nat → Prop) (ls : Array Slot) (Q : State → Prop) (H : Heap), p.tables.exec = Jvm.exec → c.code = cc → c.maxLocals = maxL → (∀ w ∈ ws, w.before av.toArray s = true) → s.vm.findClass y.cls = some m.cls → va_K D cl tys s → G A s → va_P D cl w0 H → va_D A w0 → va_S A s.heap H [] → (∀ q : Nat, s.heap.size ≤ q → A q) → lv_has ls maxL (lv_args 0 av) →
      (∀ (r : Unit) (u : S) (H : Heap) (locs : List Loc) (pc : Nat) (ls : Array Slot), post r u → va_P D cl (wd u) H → va_D A (wd u) → va_S A s.heap H locs → decode cc pc = .ok (.return_, 1) → W p l e (headSpec ws rm).room s m av.toArray below meth c H locs mc ms Q (F0 m pc ls [])) →
      (∀ (E : String) (u : S) (H : Heap) (locs : List Loc) (pc : Nat) (ls : Array Slot) (rest : List Value) (q : Addr) (ce : Cell), pX E u → va_P D cl (wd u) H → va_D A (wd u) → va_S A s.heap H locs → H[q]? = some ce → ce.vm = .none → s.vm.findClass E = some ce.cls → xe_W p l e (headSpec ws rm).room s m av.toArray below meth c H locs mc ms Q (F0 m pc ls rest) q) →
      W p l e (headSpec ws rm).room s m av.toArray below meth c H [] 0 0 Q (F0 m 0 ls [])) :
    xe_Met l y ws rm (va_Pc av (px_B G D cl tys w0 sz)) (fun _ : Unit => none) post pX (fun u => ax_B (va_A w0 sz) D cl tys (wd u)) (va_A w0 sz) mc ms := by
  refine xe_ofW (cc := cc) (maxL := maxL) (ret := none) hy hw ?_
  intro p e s m args below meth c s₁ X hml hno hv
  obtain ⟨rfl, hsz, hP, hK, hD0, hG⟩ := hv
  subst hsz
  have hl := lv_entry av (n := maxL) hlen
  rw [lg_entry_eq]
  generalize (lg_sl av ++ List.replicate (maxL - (lg_sl av).length) Slot.unset).toArray = ls at hl ⊢
  exact body p e s m below meth c (va_A w0 s.heap.size) ls _ s.heap X.exec X.bytes hml (atoms_spec (ws := ws) X.pre) (findClass_of_methodNamed X.named) hK hG hP (hD0.self (sz := s.heap.size)) va_S.rf (fun q h => Or.inr h) hl
    (fun r u H locs pc ls hp hP hD hS hd => xe_ret (W.vret X.exec X.bytes X.returns (fun t ht hW => ⟨⟨r, u, rfl, hp, by rw [ht]; exact hP, va_K.moved hW.alike hK, hD⟩, hS.F ht⟩) hS.2.2 hd (hlocks := X.notSynchronized)))
    (fun E u H locs pc ls rest q ce hp hP hD hS hce hcv hcl => xe_out hno X.notSynchronized hce hcv hcl hp (fun t ht hvm => ⟨by rw [ht]; exact hP, va_K.moved hvm hK, hD⟩) hS (Nat.le_refl _) (Nat.le_refl _))
