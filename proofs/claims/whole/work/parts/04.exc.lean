section XF
variable {p : Program} {l : Launch} {e : Env} {R : Room} {s : State} {m : MethodId} {args : Array Value} {below : List Frame} {meth : Method} {c : Code} {H : Heap} {locs : List Loc} {cells slots : Nat} {Q : State → Prop}
variable {ρ S : Type} {emb : ρ → Option Value} {post : ρ → S → Prop} {px : String → S → Prop} {B : S → State → Prop} {A A0 : Nat → Prop} {mc ms : Nat} {ws : List Cond} {rm : Room} {Pc : Array Value → State → Prop} {y : MethodName}
variable {own C : String} {index maxL nL n pc : Nat} {bytes cc : ByteArray} {ret : Option FieldType} {Ts : List Cond} {As rest st0 : List Value} {ls : Array Slot} {H0 : Heap} {b : Addr}
/-- what a body that may throw owes at its end -/
def xe_MQ (below : List Frame) (emb : ρ → Option Value) (post : ρ → S → Prop) (px : String → S → Prop) (B : S → State → Prop) (A : Nat → Prop) (s : State) (mc ms : Nat) : State → Prop := fun t =>
  ∃ o, t.status = .running ∧ Ended t below o ∧ xe_C emb post px B A mc ms s o t
theorem xe_ret {g : JFrame} (k : W p l e R s m args below meth c H locs cells slots (MQ below (fun _ st o t => (∃ (r : ρ) (u : S), o = .returned (emb r) ∧ post r u ∧ B u t) ∧ va_F A st t) args s mc ms A) g) :
    W p l e R s m args below meth c H locs cells slots (xe_MQ below emb post px B A s mc ms) g := by
  intro T hT X
  obtain ⟨t, a1, o, b1, b2, ⟨⟨r, u, ho, hp, hB⟩, hF⟩, L, ⟨-, hW, hsm⟩, hL⟩ := k T hT X
  exact ⟨t, a1, o, b1, b2, L, u, hW, hsm, hL, hB, hF, Or.inl ⟨r, ho, hp⟩⟩
/-- not caught here: it goes on to the caller -/
theorem xe_out {E : String} {ce : Cell} {q : Addr} {u : S} (hno : ∀ x ∈ c.exceptionTable.toList, False) (hlocks : meth.locks = false) (hce : H[q]? = some ce) (hcv : ce.vm = .none) (hcl : s.vm.findClass E = some ce.cls) (hp : px E u)
    (hB : ∀ t : State, t.heap = H → s.vm.Alike t.vm → B u t) (hS : va_S A s.heap H locs) (h1 : cells ≤ mc) (h2 : slots ≤ ms) :
    xe_W p l e R s m args below meth c H locs cells slots (xe_MQ below emb post px B A s mc ms) (F0 m pc ls rest) q := by
  intro T hT X
  obtain ⟨st1, hrun, hend, hW, hsm⟩ := X.leaveThrown q (g := F0 m pc ls rest) rfl rfl rfl (fun x hx => absurd (hno x hx) id) hlocks
  have hT9 : (T.setFrames (.throwing q :: below)).heap = H := hT
  refine ⟨_, st1, .threw q, hrun, hend, locs, u, hW, hsm.mono h1 h2, hS.2.2, hB _ hT9 hW.alike, hS.F hT9, Or.inr ⟨q, E, ce, rfl, hp, ?_, hcv, hcl⟩⟩
  rw [hT9]; exact hce
/-- a contract out of a walk -/
theorem xe_ofW {ws' : List Cond} (hy : plainName y.cls = true) (hw : ws = Cond.code y cc maxL ret :: ws')
    (body : ∀ p e s m args below meth c s₁, BodyLoose p l y (headSpec ws rm) cc maxL ret e s m args below meth c s₁ → c.maxLocals = maxL → (∀ x ∈ c.exceptionTable.toList, False) → Pc args s →
      W p l e (headSpec ws rm).room s m args below meth c s.heap [] 0 0 (xe_MQ below emb post px B A s mc ms) (entryFrame m args maxL)) : xe_Met l y ws rm Pc emb post px B A mc ms := by
  refine MetFree.of_bodyS (code := cc) (maxLocals := maxL) (ret := ret) hy ?_ ?_
  · intro args s m h hn
    obtain ⟨meth, c, h1, h2, h3, h4, h5, h6, -, -⟩ := Cond.code_spec hn (atoms_spec (ws := ws) h _ (by rw [hw]; exact List.mem_cons_self))
    exact ⟨meth, c, h1, h2, h3, h4, h5, h6⟩
  · intro p e s m args below meth c s₁ X hml hP _
    have hh0 : s₁.heap = s.heap := by rw [X.state]; rfl
    have ht : ∀ x ∈ c.exceptionTable.toList, False := by
      obtain ⟨meth9, c9, h1, h2, -, -, -, -, h7, -⟩ := Cond.code_spec X.named (atoms_spec (ws := ws) X.pre _ (by rw [hw]; exact List.mem_cons_self))
      cases Option.some.inj (h1.symm.trans X.method)
      cases Option.some.inj (h2.symm.trans (Stand.of_body X).code)
      intro x hx
      rw [Array.isEmpty_iff.mp h7] at hx
      cases hx
    obtain ⟨t, a1, o, b1, b2, b3⟩ := body p e s m args below meth c s₁ X hml ht hP s₁ hh0 (Stand.of_body X)
    exact ⟨t, o, a1, b1, b2, b3⟩
/-- a row whose class may not have been looked up yet: the search from these tables is the search from the tables that have it noted -/
theorem xc_warm {Qh : Handler → Pre} {E : CtlPost} {d : Bool} {acts : List Action} {Z : State} {f : JFrame} {q : Addr} {x : ExceptionTableEntry} {tl : List ExceptionTableEntry} {kx : ClassId} (hx : covers x f.pc = true) (h0 : x.catchType ≠ 0)
    (hl : Z.vm.ClassLinks e.platform f.method.cls x.catchType kx) :
    wp (findHandler.go f q (x :: tl)) Qh E e d acts Z ↔ wp (findHandler.go f q (x :: tl)) Qh E e d acts (Z.setVm (Z.vm.noted f.method.cls x.catchType (.cls kx))) := by
  obtain ⟨a1, a2⟩ := (resolveClass_links e.toSetting hl).op (op := VmOp.resolveClass f.method.cls x.catchType) rfl
  obtain ⟨kd, b1, b2⟩ := hl.ready
  obtain ⟨b3, b4⟩ := resolveClass_memo e b1 b2
  simp only [covers] at hx
  simp [findHandler.go, hx, h0, a1, a2, b3, b4, VmOp.dirties, VmOp.acts, State.setVm_setVm]
/-- one row of the table, from any warmer tables: it takes the object, or the search goes on behind it -/
theorem xc_row {Z : State} {f : JFrame} {q : Addr} {ce : Cell} {x : ExceptionTableEntry} {kx : ClassId} (hW : s.WarmedH Z.vm) (hcell : Z.heap[q]? = some ce) (hobj : ∀ k, ce.vm ≠ .statics k) (hk : ∃ k, s.vm.classes[ce.cls]? = some k)
    (hx : covers x f.pc = true) (h0 : x.catchType ≠ 0) (hl : s.vm.ClassLinks e.platform f.method.cls x.catchType kx) :
    ∃ vm1 : Vm, s.WarmedH vm1 ∧ ∀ (tl : List ExceptionTableEntry) (Qh : Handler → Pre) (E : CtlPost) (d : Bool) (acts : List Action), wp (findHandler.go f q (x :: tl)) Qh E e d acts Z ↔
      if s.vm.assignable ce.cls kx = true then Qh (.found x.handlerPc) d acts (Z.setVm vm1) else wp (findHandler.go f q tl) Qh E e d acts (Z.setVm vm1) := by
  obtain ⟨-, hW1, hr⟩ := State.classEntry (e := e) hW hl
  obtain ⟨k0, hk0⟩ := hk
  obtain ⟨_, _, _, kt, _, _, _, _, _, hkt, _, _⟩ := hl.here
  obtain ⟨k1, hk1, -⟩ := hW1.alike.2.2 _ _ hk0
  obtain ⟨k2, hk2, -⟩ := hW1.alike.2.2 _ _ hkt
  refine ⟨_, hW1, fun tl Qh E d acts => ?_⟩
  rw [← hW1.alike.assignable ce.cls kx]
  exact (xc_warm hx h0 (hW.classLinks hl)).trans (W.findHandler_go_class (s := Z.setVm (Z.vm.noted f.method.cls x.catchType (.cls kx))) hx h0 hr hcell hobj ⟨k1, hk1⟩ ⟨k2, hk2⟩)
/-- rows that don't take it, then one that does -/
theorem xc_rows {f : JFrame} {q : Addr} {ce : Cell} {x : ExceptionTableEntry} {kx : ClassId} (suf : List ExceptionTableEntry) (hobj : ∀ k, ce.vm ≠ .statics k) (hk : ∃ k, s.vm.classes[ce.cls]? = some k)
    (hx : covers x f.pc = true) (h0 : x.catchType ≠ 0) (hl : s.vm.ClassLinks e.platform f.method.cls x.catchType kx) (hyes : s.vm.assignable ce.cls kx = true) :
    ∀ (pre : List ExceptionTableEntry), (∀ z ∈ pre, z.catchType ≠ 0 ∧ ∃ kz : ClassId, s.vm.ClassLinks e.platform f.method.cls z.catchType kz ∧ s.vm.assignable ce.cls kz = false) → ∀ Z : State, s.WarmedH Z.vm → Z.heap[q]? = some ce →
      ∃ vm1 : Vm, s.WarmedH vm1 ∧ ∀ (Qh : Handler → Pre) (E : CtlPost) (d : Bool) (acts : List Action), wp (findHandler.go f q (pre ++ x :: suf)) Qh E e d acts Z ↔ Qh (.found x.handlerPc) d acts (Z.setVm vm1)
  | [], _, Z, hW, hcell => by
    obtain ⟨vm1, hW1, h1⟩ := xc_row hW hcell hobj hk hx h0 hl
    exact ⟨vm1, hW1, fun Qh E d acts => by rw [List.nil_append, h1, if_pos hyes]⟩
  | z :: zs, hz, Z, hW, hcell => by
    cases hcov : covers z f.pc with
    | false =>
      obtain ⟨vm1, hW1, h1⟩ := xc_rows suf hobj hk hx h0 hl hyes zs (fun y hy => hz y (List.mem_cons_of_mem _ hy)) Z hW hcell
      exact ⟨vm1, hW1, fun Qh E d acts => (W.findHandler_go_skip hcov).trans (h1 Qh E d acts)⟩
    | true =>
      obtain ⟨hz0, kz, hlz, hno⟩ := hz z List.mem_cons_self
      obtain ⟨vm0, hW0, h9⟩ := xc_row hW hcell hobj hk hcov hz0 hlz
      obtain ⟨vm1, hW1, h1⟩ := xc_rows suf hobj hk hx h0 hl hyes zs (fun y hy => hz y (List.mem_cons_of_mem _ hy)) (Z.setVm vm0) hW0 hcell
      exact ⟨vm1, hW1, fun Qh E d acts => by
        rw [List.cons_append, h9, if_neg (by rw [hno]; decide)]
        exact h1 Qh E d acts⟩
/-- the step of the search that finds a handler and leaves warmer tables -/
theorem xc_step {Z : State} {f : JFrame} {q : Addr} {vm1 : Vm} {hp : Nat} {fr : List Frame} (hf : ∀ (Qh : Handler → Pre) (E : CtlPost) (d : Bool) (acts : List Action), wp (findHandler f q) Qh E e d acts Z ↔ Qh (.found hp) d acts (Z.setVm vm1)) :
    (stepThrowing e Z q (.java f :: fr)).1 = (Z.setVm vm1).setFrames (.java { f with pc := hp, stack := [.ref q] } :: fr) := by
  simp only [stepThrowing, searchFrame, vmDo]
  generalize hr : Sem.go _ e false [] Z = res
  obtain ⟨as, rfl, -⟩ := Sem.eq_ok_of hr (a := Handler.found hp) (s' := Z.setVm vm1) (acts' := []) (by simp [hf _ _ _ _])
  rfl
/-- caught by the row x of this method's table; the rows ahead of it don't take it -/
theorem xe_catch {name E : String} {ce : Cell} {q : Addr} (hown : s.vm.findClass own = some m.cls) (pre : List ExceptionTableEntry) (x : ExceptionTableEntry) (suf : List ExceptionTableEntry) (hsplit : c.exceptionTable.toList = pre ++ x :: suf)
    (hpass : ∀ z ∈ pre, z.catchType ≠ 0 ∧ ∃ nm : String, (Cond.classLink own z.catchType nm).before args s = true ∧ va_Nc E nm s) (hx : covers x pc = true) (h0 : x.catchType ≠ 0)
    (hlink : (Cond.classLink own x.catchType name).before args s = true) (hcast : (Cond.castable E name).before args s = true) (hcell : H[q]? = some ce) (hv : ce.vm = .none) (hcl : s.vm.findClass E = some ce.cls)
    (kk : W p l e R s m args below meth c H locs cells slots Q (F0 m x.handlerPc ls [.ref q])) : xe_W p l e R s m args below meth c H locs cells slots Q (F0 m pc ls rest) q := by
  intro T hT X
  have hpl : e.platform.magicAccessors = ({} : Platform).magicAccessors := by rw [X.admits.platform]
  obtain ⟨c3, c4, hc3, hc4, hasg⟩ := Cond.castable_spec hcast
  cases Option.some.inj (hc3.symm.trans hcl)
  obtain ⟨c5, hc5, hcl5⟩ := Cond.classLink_spec hown hlink e.platform hpl
  cases Option.some.inj (hc4.symm.trans hc5)
  have hk : ∃ k, s.vm.classes[ce.cls]? = some k := by obtain ⟨k9, h9, -⟩ := Vm.findClass_spec hcl; exact ⟨k9, h9⟩
  obtain ⟨vm', hW', hf⟩ := xc_rows (e := e) (s := s) (f := F0 m pc ls rest) (q := q) (ce := ce) (x := x) suf (fun k => by rw [hv]; simp) hk hx h0 hcl5 hasg pre
    (fun z hz => by
      obtain ⟨hz0, nm, hl1, hn1⟩ := hpass z hz
      obtain ⟨c6, hc6, hcl6⟩ := Cond.classLink_spec hown hl1 e.platform hpl
      obtain ⟨a8, b8, h1, h2, h3⟩ := hn1
      cases Option.some.inj (h1.symm.trans hcl)
      cases Option.some.inj (h2.symm.trans hc6)
      exact ⟨hz0, _, hcl6, h3⟩) ((T.setTop (F0 m pc ls rest)).pushFrame (.throwing q)) X.warmed (by show T.heap[q]? = _; rw [hT]; exact hcell)
  obtain ⟨t, a1, b1⟩ := kk (T.setVm vm') hT (X.noted hW')
  refine ⟨t, ?_, b1⟩
  have hAt : At T (F0 m pc ls rest).method c below := X.here
  obtain ⟨hgo, hin⟩ := hAt.throwing q
  refine Steps.head hgo hin ?_
  rw [stepThread_throwing (frames_entered hAt.top _), xc_step (fun Qh E d acts => by rw [W.findHandler_eq X.method' X.code, hsplit]; exact hf Qh E d acts)]
  obtain ⟨g0, hg0⟩ := Option.isSome_iff_exists.mp hAt.top
  obtain ⟨fr, hfr⟩ := State.topJava?_eq_some.mp hg0
  have e1 : (((T.setTop (F0 m pc ls rest)).pushFrame (.throwing q)).setVm vm').setFrames (.java { F0 m pc ls rest with pc := x.handlerPc, stack := [.ref q] } :: T.frames.tail) = (T.setVm vm').setTop (F0 m x.handlerPc ls [.ref q]) := by
    rw [State.setTop_of_frames (s := T.setVm vm') _ hfr, hfr, State.setTop_of_frames _ hfr]
    show ((((T.setVm vm').setFrames (.java (F0 m pc ls rest) :: fr)).setFrames (.throwing q :: (T.setFrames (.java (F0 m pc ls rest) :: fr)).frames)).setFrames (.java (F0 m x.handlerPc ls [.ref q]) :: fr)) = (T.setVm vm').setFrames (.java (F0 m x.handlerPc ls [.ref q]) :: fr)
    rw [State.setFrames_setFrames, State.setFrames_setFrames]
  rw [e1]
  exact a1
/-- 'throw new E("text")' in a method that has changed nothing yet -/
theorem xe_throw {E text : String} {names : List String} {ik is ic sa : Nat} {u : S} (hexec : p.tables.exec = Jvm.exec) (hb : c.code = cc) (hl : l.stackTraces = false) (hno : ∀ x ∈ c.exceptionTable.toList, False) (hlocks : meth.locks = false)
    (hown : s.vm.findClass own = some m.cls) (hE : Bundle.fit E = true) (hnames : ∀ n ∈ names, Bundle.fit n = true)
    (hk : (Cond.classLink own ik E).before args s = true) (hini : (Cond.initialized E).before args s = true) (hstr : vk_R own is text sa s) (hat : ∀ w ∈ Bundle.ownAtoms own ic E names, w.before args s = true) (hsize : ls.size = c.maxLocals)
    (d0 : decode cc pc = .ok (.new ik, 3)) (d3 : decode cc (pc + 3) = .ok (.dup, 1)) (d4 : decode cc (pc + 4) = .ok (.ldc is, 2)) (d6 : decode cc (pc + 6) = .ok (.invokespecial ic, 3)) (d9 : decode cc (pc + 9) = .ok (.athrow, 1))
    (hRf : names.length + 3 < R.frames) (hRl : 13 * (names.length + 1) + 44 ≤ R.locals) (hRc : 1 ≤ R.cells) (hRs : 6 ≤ R.slots) (hmc : 1 ≤ mc) (hms : 6 ≤ ms)
    (hp : px E u) (hB : ∀ t : State, s.vm.Alike t.vm → s.heap.size ≤ t.heap.size → (∀ q : Nat, q < s.heap.size → t.heap[q]? = s.heap[q]?) → B u t) :
    W p l e R s m args below meth c s.heap [] 0 0 (xe_MQ below emb post px B A s mc ms) (F0 m pc ls []) := by
  intro T hT X
  have htr : e.platform.stackTraces = false := (show e.platform.stackTraces = l.stackTraces by rw [X.admits.platform]).trans hl
  have hins : (Cond.instantiable E 6).before args s = true := hat _ (by simp [Bundle.ownAtoms])
  obtain ⟨vm₁, cX, kX, hfX, hkX, -, -, X₁, st1⟩ := X.newCold hexec (own := own) (C := E) (index := ik) (n := 6) hown hk hins hini (g := F0 m pc ls []) rfl (by rw [hb]; exact d0) (by omega) (by omega)
  have hsz : T.heap.size = s.heap.size := by rw [hT]
  rw [hsz] at st1
  generalize hT1 : (T.setVm vm₁).pushCell { cls := cX, slots := kX.instanceTypes.map defaultValue, vm := .none } = T1 at X₁ st1
  have hcell1 : T1.heap[s.heap.size]? = some (freshCell cX kX) := by
    rw [← hT1, ← hsz]
    exact State.heap_pushCell_size _ _
  have K : W p l e R s m args below meth c T1.heap [] (0 + 1) (0 + 6) (xe_MQ below emb post px B A s mc ms) (F0 m (pc + 3) ls [.ref s.heap.size]) := by
    refine lv_dup hexec hb d3 rfl ?_
    refine va_ldcS hexec hb hown hstr d4 ?_
    intro T2 hT2 X2
    have hcell2 : T2.heap[s.heap.size]? = some (freshCell cX kX) := by rw [hT2]; exact hcell1
    obtain ⟨U, hsteps, hrun, hend, hWm, hsame, ce, hce, hO⟩ := X2.ctorThrowS hexec htr (own := own) (cls := E) (names := names) (ic := ic) hown hE hnames hat (fun x hx => nomatch hx) hfX hkX hcell2 (Nat.le_refl _) (msg := .ref sa) rfl
      (g := F0 m (pc + 4 + 2) ls [.ref sa, .ref s.heap.size, .ref s.heap.size]) rfl hsize rfl rfl (rest := []) rfl
      (by rw [hb]; exact d6) (by rw [hb]; exact d9) (fun x hx => absurd (hno x hx) id) hRf (by show 2 * 0 + (1 + 0) + (13 * (names.length + 1) + 42) ≤ R.locals; omega) hlocks
    have hq : ∀ q : Nat, q < s.heap.size → U.heap[q]? = s.heap[q]? := by
      intro q hq
      obtain ⟨-, -, -, -, -, h6⟩ := hsame
      obtain ⟨c9, e1, e2, e3, e4⟩ := h6 q _ (Array.getElem?_eq_getElem hq)
      have hs9 : c9.slots = (s.heap[q]).slots := Array.ext_getElem? fun i => e4 i (fun hm => nomatch hm)
      have h9 : c9 = s.heap[q] := by
        rw [hs9] at e2
        exact e2
      have e5 : U.heap[q]? = some c9 := e1
      rw [e5, h9, Array.getElem?_eq_getElem hq]
    have hz : s.heap.size ≤ U.heap.size := hsame.2.1
    refine ⟨U, hsteps, .threw s.heap.size, hrun, hend, [], u, hWm, hsame.mono (by omega) (by omega), (fun z hz => nomatch hz), hB U hWm.alike hz hq, ⟨hz, fun q h1 _ => hq q h1⟩, Or.inr ⟨s.heap.size, E, ce, rfl, hp, hce, hO.vm, hO.cls⟩⟩
  obtain ⟨t, a1, b1⟩ := K T1 rfl X₁
  exact ⟨t, st1 _ a1, b1⟩
end XF
