/-! methods that may throw: a contract with both ends, its calls, leaving by a throw, being caught -/
section XE
/-- how a call ends that may throw: what is new, what was written, the world behind it; the answer, or what was thrown -/
def xe_C {ρ S : Type} (emb : ρ → Option Value) (post : ρ → S → Prop) (px : String → S → Prop) (B : S → State → Prop) (A : Nat → Prop) (mc ms : Nat) (st : State) (o : Outcome) (t : State) : Prop :=
  ∃ (L : List Loc) (u : S), st.WarmedH t.vm ∧ st.sameButNew ({ t with vm := st.vm } : State) L mc ms ∧ (∀ z ∈ L, A z.base) ∧ B u t ∧ va_F A st t ∧
    ((∃ r : ρ, o = .returned (emb r) ∧ post r u) ∨ ∃ (q : Addr) (E : String) (ce : Cell), o = .threw q ∧ px E u ∧ t.heap[q]? = some ce ∧ ce.vm = .none ∧ st.vm.findClass E = some ce.cls)
def xe_Met {ρ S : Type} (l : Launch) (y : MethodName) (ws : List Cond) (rm : Room) (Pc : Array Value → State → Prop) (emb : ρ → Option Value) (post : ρ → S → Prop) (px : String → S → Prop) (B : S → State → Prop) (A : Nat → Prop) (mc ms : Nat) : Prop :=
  MetFree l y (headSpec ws rm) Pc (fun _ _ _ _ _ => True) (fun _ st o t => xe_C emb post px B A mc ms st o t)
section Pay
variable {p : Program} {l : Launch} {e : Env} {R : Room} {s : State} {m : MethodId} {args : Array Value} {below : List Frame} {meth : Method} {c : Code} {U : State} {locs : List Loc} {cells slots : Nat}
variable {ρ S : Type} {emb : ρ → Option Value} {post : ρ → S → Prop} {px : String → S → Prop} {B : S → State → Prop} {A : Nat → Prop} {mc ms : Nat} {ws : List Cond} {rm : Room} {Pc : Array Value → State → Prop} {y : MethodName}
/-- the callee's run, seen from the caller: behind its frame with the answer on the stack, or with what it threw -/
theorem xe_pay (X : Stand p l e R s m args below meth c U locs cells slots) (hM : xe_Met l y ws rm Pc emb post px B A mc ms) (hbl : FrameBlind Pc) {own : String} {index maxL n : Nat} {bytes : ByteArray} {ret : Option FieldType} (cb : CallB R s args own index y bytes maxL ret ws rm mc ms n)
    {g : JFrame} {ig : Instr} {mk : MethodId} {a : Array Value} (hg : g.method = m) (hsize : g.locals.size = c.maxLocals) (hdg : decode c.code g.pc = .ok (ig, 3)) (hW : 2 * g.monitorRoom + (g.stack.map fun v => v.category).sum ≤ 8) (hn : U.methodNamed? y = some mk)
    (hc1 : cells + mc ≤ R.cells) (hs1 : slots + ms ≤ R.slots) (hPc : Pc a U) :
    ∃ (t T' : State) (L : List Loc) (u : S), Stand p l e R s m args below meth c T' (locs ++ L) (cells + mc) (slots + ms) ∧ (∀ z ∈ L, A z.base) ∧ T'.heap = t.heap ∧ T'.vm = t.vm ∧ B u t ∧ va_F A U t ∧
      ((∃ r : ρ, post r u ∧ Steps p.tables e below (doInvoke e (U.setTop g) [] mk a).1 (T'.setTop { g with pc := g.pc + 3, stack := (emb r).toList ++ g.stack })) ∨
       ∃ (q : Addr) (E : String) (ce : Cell), px E u ∧ t.heap[q]? = some ce ∧ ce.vm = .none ∧ U.vm.findClass E = some ce.cls ∧ Steps p.tables e below (doInvoke e (U.setTop g) [] mk a).1 ((T'.setTop g).pushFrame (.throwing q))) := by
  obtain ⟨hrc, hrs, hfr0, hlo, hws, hcw, -, hini, -⟩ := cb
  have h1 : (headSpec ws rm).pre.before a U = true := atoms_intro fun w hw => hws w hw _ _ X.warmed
  have h2 : (Cond.code y bytes maxL ret).before a U = true := hws _ hcw _ _ X.warmed
  have h3 : (Cond.initialized y.cls).before a U = true := word_at X.warmed (Or.inl (by first | rfl | simp [Cond.onTables, Cond.keeps, Cond.steady])) hini
  obtain ⟨methY, cY, hmY, hcY, -, hlY, -, -, -, -⟩ := Cond.code_spec hn h2
  obtain ⟨kY, hkY, -⟩ := className_of_methodNamed hn
  have hiY : kY.init = .initialized := Cond.initialized_spec (findClass_of_methodNamed hn) hkY h3
  have h : At U g.method c below := by rw [hg]; exact X.here
  have happ : (headSpec ws rm).appliesLoose y e.platform (U.calling g mk a) = true := by
    refine Spec.appliesLoose_calling (g := g) h hdg hn hkY hiY (X.room_calling (g := g) (R' := (headSpec ws rm).room) hsize hmY hcY hfr0 ?_ ?_ ?_) h1
    · rw [hlY]
      have : (headSpec ws rm).room.locals = rm.locals := rfl
      omega
    · rw [show (headSpec ws rm).room.cells = mc from hrc]; exact hc1
    · rw [show (headSpec ws rm).room.slots = ms from hrs]; exact hs1
  obtain ⟨mid, hmid⟩ := h.above
  have hfr : (U.setTop g).frames = (.java g :: mid) ++ below := by rw [State.frames_setTop' g h.top, hmid]; rfl
  obtain ⟨o, s₂, hsteps, -, hend, hq⟩ := Steps.callFree hM p X.admits X.cas X.clock (acts := []) hfr happ (hbl _ _ _ _ hPc) trivial
  rw [State.frames_setTop' g h.top] at hend
  obtain ⟨L, u, hW2, hsm, hL, hB, hF, hcase⟩ := hq
  have hW2' : U.WarmedH s₂.vm := hW2
  obtain ⟨e2, q2, q3, q4, q5, q6⟩ := id hsm
  have e3 : s₂ = ({ (U.calling g mk a).setFrames s₂.frames with heap := s₂.heap, slotsUsed := s₂.slotsUsed } : State).setVm s₂.vm := by
    have h9 : s₂ = ({ s₂ with vm := (U.calling g mk a).vm } : State).setVm s₂.vm := rfl
    refine h9.trans ?_
    exact congrArg (fun z : State => z.setVm s₂.vm) e2
  obtain ⟨g₀, hg0⟩ := Option.isSome_iff_exists.mp h.top
  obtain ⟨r, hr⟩ := State.topJava?_eq_some.mp hg0
  have hr' : (({ U with heap := s₂.heap, slotsUsed := s₂.slotsUsed } : State).setVm s₂.vm).frames = .java g₀ :: r := hr
  have hsame : U.sameButNew ({ U with heap := s₂.heap, slotsUsed := s₂.slotsUsed } : State) L mc ms := by
    refine ⟨?_, q2, q3, q4, q5, q6⟩
    obtain ⟨t, ht, -⟩ := State.frames_cons hr
    show ({ U with heap := s₂.heap, slotsUsed := s₂.slotsUsed } : State) = { U.setFrames U.frames with heap := s₂.heap, slotsUsed := s₂.slotsUsed }
    rw [State.setFrames_self ht]
  subst hg
  refine ⟨s₂, (({ U with heap := s₂.heap, slotsUsed := s₂.slotsUsed } : State).setVm s₂.vm), L, u,
    ⟨X.admits, X.cas, X.clock, X.frames, X.room, X.hears, X.method, X.code, (X.here.setHeapUsed s₂.heap s₂.slotsUsed).setVm hW2'.alike, X.tail, State.WarmedH.trans X.warmed hW2', X.limits, X.bytes, X.same.trans (hsame.setVm s.vm)⟩,
    hL, rfl, rfl, hB, hF, ?_⟩
  rcases hcase with ⟨v, rfl, hp⟩ | ⟨q, E, ce, rfl, hx, hce, hcv, hcl⟩
  · obtain ⟨c₂, i₂, len₂, hc₂, hd₂, hf₂⟩ := hend
    have hcc : c₂ = c := by
      have h9 : s₂.code? g.method = U.code? g.method := by rw [State.code?_eq, State.code?_eq, hW2'.alike.method?]
      exact Option.some.inj (hc₂.symm.trans (h9.trans h.code))
    subst hcc
    have hlen : len₂ = 3 := by rw [hdg] at hd₂; cases hd₂; rfl
    subst hlen
    refine Or.inl ⟨v, hp, ?_⟩
    have hs₂ : s₂ = (({ U with heap := s₂.heap, slotsUsed := s₂.slotsUsed } : State).setVm s₂.vm).setTop { g with pc := g.pc + 3, stack := (emb v).toList ++ g.stack } := by
      refine e3.trans ?_
      rw [hf₂, State.calling_eq h.top, State.setFrames_setFrames, State.setTop_of_frames _ hr', hr]
      rfl
    rw [← hs₂]
    exact hsteps
  · have hf₂ : s₂.frames = .throwing q :: .java g :: U.frames.tail := hend
    refine Or.inr ⟨q, E, ce, hx, hce, hcv, hcl, ?_⟩
    have hs₂ : s₂ = ((({ U with heap := s₂.heap, slotsUsed := s₂.slotsUsed } : State).setVm s₂.vm).setTop g).pushFrame (.throwing q) := by
      refine e3.trans ?_
      rw [hf₂, State.calling_eq h.top, State.setFrames_setFrames, State.pushFrame, State.frames_setTop _ hr', State.setTop_of_frames _ hr', State.setFrames_setFrames, hr]
      rfl
    rw [← hs₂]
    exact hsteps
end Pay
/-- the machine with q thrown over the frame g comes to a state with Q -/
def xe_W (p : Program) (l : Launch) (e : Env) (R : Room) (s : State) (m : MethodId) (args : Array Value) (below : List Frame) (meth : Method) (c : Code) (H : Heap) (locs : List Loc) (cells slots : Nat) (Q : State → Prop) (g : JFrame) (q : Addr) : Prop :=
  ∀ T : State, T.heap = H → Stand p l e R s m args below meth c T locs cells slots → ∃ t, Steps p.tables e below ((T.setTop g).pushFrame (.throwing q)) t ∧ Q t
section Rows
variable {p : Program} {l : Launch} {e : Env} {R : Room} {s : State} {m : MethodId} {args : Array Value} {below : List Frame} {meth : Method} {c : Code} {H : Heap} {locs : List Loc} {cells slots : Nat} {Q : State → Prop}
variable {ρ S : Type} {emb : ρ → Option Value} {post : ρ → S → Prop} {px : String → S → Prop} {B : S → State → Prop} {A A0 : Nat → Prop} {mc ms : Nat} {ws : List Cond} {rm : Room} {Pc : Array Value → State → Prop} {y : MethodName}
variable {own C : String} {index maxL nL n pc : Nat} {bytes cc : ByteArray} {ret : Option FieldType} {Ts : List Cond} {As rest st0 : List Value} {ls : Array Slot} {H0 : Heap} {b : Addr}
theorem xe_after {t T' U : State} {L : List Loc} (hU : U.heap = H) (e1 : T'.heap = t.heap) (hS : va_S A0 H0 H locs) (hA : ∀ q, A q → A0 q) (hL : ∀ z ∈ L, A z.base) (hF : va_F A U t) :
    (∀ q : Nat, q < H.size → ¬ A q → T'.heap[q]? = H[q]?) ∧ H.size ≤ T'.heap.size ∧ va_S A0 H0 T'.heap (locs ++ L) := by
  obtain ⟨hz, hk⟩ := hF
  rw [hU] at hz hk
  refine ⟨fun q h1 h2 => by rw [e1]; exact hk q h1 h2, by rw [e1]; exact hz, Nat.le_trans hS.1 (by rw [e1]; exact hz), fun q h1 h2 => ?_, fun z hz9 => ?_⟩
  · rw [e1, hk q (Nat.lt_of_lt_of_le h1 hS.1) (fun z => h2 (hA q z))]
    exact hS.2.1 q h1 h2
  · rcases List.mem_append.mp hz9 with h | h
    · exact hS.2.2 z h
    · exact hA _ (hL z h)
theorem xe_cls {T : State} {vm₁ : Vm} {E : String} {k : ClassId} (hW : s.WarmedH vm₁) (h : (T.setVm vm₁).vm.findClass E = some k) : s.vm.findClass E = some k := by
  have h1 : vm₁.findClass E = some k := h
  rw [hW.alike.findClass] at h1
  exact h1
/-- a static call of a method that may throw -/
theorem xe_callS (F : CallFix p m c cc nL s args Ts own) (hM : xe_Met l y ws rm Pc emb post px B A mc ms) (cw : CallB R s args own index y bytes maxL ret ws rm mc ms n ∧ (Cond.static y).before args s = true) (hp : PreS s H Pc As)
    (hn : As.length = n) (hsize : ls.size = nL) (hstack : st0 = As.reverse ++ rest) (hW : 2 * (F0 m pc ls st0).monitorRoom + (rest.map fun v => v.category).sum ≤ 8) (hdg : decode cc pc = .ok (.invokestatic index, 3)) (hf : cells + mc ≤ R.cells ∧ slots + ms ≤ R.slots)
    (hS : va_S A0 H0 H locs) (hA : ∀ q, A q → A0 q)
    (kx : ∀ (E : String) (ce : Cell) (q : Addr) (u : S) (t : State) (H1 : Heap) (locs1 : List Loc), t.heap = H1 → s.vm.Alike t.vm → px E u → B u t → (∀ q : Nat, q < H.size → ¬ A q → H1[q]? = H[q]?) → va_S A0 H0 H1 locs1 → H1[q]? = some ce → ce.vm = .none → s.vm.findClass E = some ce.cls → xe_W p l e R s m args below meth c H1 locs1 (cells + mc) (slots + ms) Q (F0 m pc ls rest) q)
    (kk : ∀ (r : ρ) (u : S) (t : State) (H1 : Heap) (locs1 : List Loc), t.heap = H1 → s.vm.Alike t.vm → post r u → B u t → (∀ q : Nat, q < H.size → ¬ A q → H1[q]? = H[q]?) → va_S A0 H0 H1 locs1 → W p l e R s m args below meth c H1 locs1 (cells + mc) (slots + ms) Q (F0 m (pc + 3) ls ((emb r).toList ++ rest))) :
    W p l e R s m args below meth c H locs cells slots Q (F0 m pc ls st0) := by
  obtain ⟨cb, hstt⟩ := cw
  obtain ⟨-, -, -, -, -, -, hcode, hini, hy, hlen, hl⟩ := id cb
  obtain ⟨hx, hb, hml, ho, -⟩ := F
  intro T hT X
  obtain ⟨mk, methM, hnamed, hmethM, hstM⟩ : ∃ mk methM, s.methodNamed? y = some mk ∧ s.vm.method? mk = some methM ∧ methM.isStatic = true := by
    have h9 := hstt
    obtain ⟨mk, hmk⟩ : ∃ mk, s.methodNamed? y = some mk := by
      cases hq : s.methodNamed? y with
      | some z => exact ⟨z, rfl⟩
      | none => simp [Cond.before, Cond.holds, Cond.value, hq] at h9
    obtain ⟨methM, cM, h1, -⟩ := Cond.code_spec hmk hcode
    exact ⟨mk, methM, hmk, h1, Cond.static_spec hmk h1 hstt⟩
  obtain ⟨methM', cM, hmethM', -, -, -, -, -, -, hsigM⟩ := Cond.code_spec hnamed hcode
  cases hmethM.symm.trans hmethM'
  obtain ⟨kP, hkP, -⟩ := className_of_methodNamed hnamed
  have hinitP : kP.init = .initialized := Cond.initialized_spec (findClass_of_methodNamed hnamed) hkP hini
  obtain ⟨vm₁, X₁, hstep₁⟩ := X.invokestatic hx ho hl hnamed hmethM hstM hkP hinitP hy (g := F0 m pc ls st0) rfl (argsL := As) (rest := rest) (hn.trans (hlen _ hsigM)) hstack (by rw [hb]; exact hdg)
  obtain ⟨t, T', L, u, X', hL, e1, e2, hB, hF, hcase⟩ := xe_pay X₁ hM hp.1 cb (g := { F0 m pc ls st0 with stack := rest }) (ig := .invokestatic index) (mk := mk) (a := As.toArray) rfl (hsize.trans hml.symm) (by rw [hb]; exact hdg) hW (X₁.named hnamed) hf.1 hf.2 (hp.2 (T.setVm vm₁) hT X₁.warmed)
  obtain ⟨k1, k2, k3⟩ := xe_after (show (T.setVm vm₁).heap = H from hT) e1 hS hA hL hF
  have hal : s.vm.Alike t.vm := by rw [← e2]; exact X'.warmed.alike
  rcases hcase with ⟨r, hr, st⟩ | ⟨q, E, ce, hpx, hce, hcv, hcl, st⟩
  · obtain ⟨t2, a1, b1⟩ := kk r u t T'.heap (locs ++ L) e1.symm hal hr hB k1 k3 T' rfl X'
    exact ⟨t2, hstep₁ _ (fun acts => by rw [doInvoke_state]; exact st.trans a1), b1⟩
  · obtain ⟨t2, a1, b1⟩ := kx E ce q u t T'.heap (locs ++ L) e1.symm hal hpx hB k1 k3 (by rw [e1]; exact hce) hcv (xe_cls X₁.warmed hcl) T' rfl X'
    exact ⟨t2, hstep₁ _ (fun acts => by rw [doInvoke_state]; exact st.trans a1), b1⟩
/-- a call on an object of a method that may throw -/
theorem xe_callV (F : CallFix p m c cc nL s args Ts own) (hM : xe_Met l y ws rm Pc emb post px B A mc ms) (cw : CallW R s args own C index y bytes maxL ret ws rm mc ms n) (hp : PreV s H C b Pc As)
    (hn : As.length = n) (hsize : ls.size = nL) (hstack : st0 = As.reverse ++ .ref b :: rest) (hW : 2 * (F0 m pc ls st0).monitorRoom + (rest.map fun v => v.category).sum ≤ 8) (hdg : decode cc pc = .ok (.invokevirtual index, 3)) (hf : cells + mc ≤ R.cells ∧ slots + ms ≤ R.slots)
    (hS : va_S A0 H0 H locs) (hA : ∀ q, A q → A0 q)
    (kx : ∀ (E : String) (ce : Cell) (q : Addr) (u : S) (t : State) (H1 : Heap) (locs1 : List Loc), t.heap = H1 → s.vm.Alike t.vm → px E u → B u t → (∀ q : Nat, q < H.size → ¬ A q → H1[q]? = H[q]?) → va_S A0 H0 H1 locs1 → H1[q]? = some ce → ce.vm = .none → s.vm.findClass E = some ce.cls → xe_W p l e R s m args below meth c H1 locs1 (cells + mc) (slots + ms) Q (F0 m pc ls rest) q)
    (kk : ∀ (r : ρ) (u : S) (t : State) (H1 : Heap) (locs1 : List Loc), t.heap = H1 → s.vm.Alike t.vm → post r u → B u t → (∀ q : Nat, q < H.size → ¬ A q → H1[q]? = H[q]?) → va_S A0 H0 H1 locs1 → W p l e R s m args below meth c H1 locs1 (cells + mc) (slots + ms) Q (F0 m (pc + 3) ls ((emb r).toList ++ rest))) :
    W p l e R s m args below meth c H locs cells slots Q (F0 m pc ls st0) := by
  obtain ⟨cb, hinst, hsel⟩ := cw
  obtain ⟨-, -, -, -, -, -, hcode, hini, hy, hlen, hl⟩ := id cb
  obtain ⟨hx, hb, hml, ho, -⟩ := F
  obtain ⟨hbl, ⟨cellB, hcB, hoB, hclB⟩, hPc⟩ := hp
  intro T hT X
  obtain ⟨mk, methM, hnamed, hmethM, hstM, habM⟩ := Cond.instanceMethod_spec hinst
  obtain ⟨methM', cM, hmethM', -, -, -, -, -, -, hsigM⟩ := Cond.code_spec hnamed hcode
  cases hmethM.symm.trans hmethM'
  obtain ⟨c2, r2, m2, q1, q2, q3, q4, kP, hkP, hkPi⟩ := Cond.selects_spec hsel
  cases hclB.symm.trans q1
  cases (State.methodFound?_of_named hnamed hy).symm.trans q2
  cases hnamed.symm.trans q3
  have hselP : selectMethod e.platform s.vm cellB.cls mk = .method mk := by rw [Launch.admits_selectMethod X.admits]; exact q4
  obtain ⟨vm₁, X₁, hstep₁⟩ := X.invokevirtual hx ho hl hnamed hmethM hstM hkP hkPi hy (a := b) (cell := cellB) (by rw [hT]; exact hcB)
    (fun z h => by rw [h] at hoB; cases hoB) hselP hmethM habM hkP hkPi (g := F0 m pc ls st0) rfl (argsL := As) (rest := rest) (hn.trans (hlen _ hsigM)) hstack (by rw [hb]; exact hdg)
  obtain ⟨t, T', L, u, X', hL, e1, e2, hB, hF, hcase⟩ := xe_pay X₁ hM hbl cb (g := { F0 m pc ls st0 with stack := rest }) (ig := .invokevirtual index) (mk := mk) (a := (Value.ref b :: As).toArray) rfl (hsize.trans hml.symm) (by rw [hb]; exact hdg) hW (X₁.named hnamed) hf.1 hf.2 (hPc (T.setVm vm₁) hT X₁.warmed)
  obtain ⟨k1, k2, k3⟩ := xe_after (show (T.setVm vm₁).heap = H from hT) e1 hS hA hL hF
  have hal : s.vm.Alike t.vm := by rw [← e2]; exact X'.warmed.alike
  rcases hcase with ⟨r, hr, st⟩ | ⟨q, E, ce, hpx, hce, hcv, hcl, st⟩
  · obtain ⟨t2, a1, b1⟩ := kk r u t T'.heap (locs ++ L) e1.symm hal hr hB k1 k3 T' rfl X'
    exact ⟨t2, hstep₁ _ (fun acts => by rw [doInvoke_state]; exact st.trans a1), b1⟩
  · obtain ⟨t2, a1, b1⟩ := kx E ce q u t T'.heap (locs ++ L) e1.symm hal hpx hB k1 k3 (by rw [e1]; exact hce) hcv (xe_cls X₁.warmed hcl) T' rfl X'
    exact ⟨t2, hstep₁ _ (fun acts => by rw [doInvoke_state]; exact st.trans a1), b1⟩
theorem xe_widen {g : JFrame} {q : Addr} {k n : Nat} (h1 : cells ≤ k) (h2 : slots ≤ n) (kk : xe_W p l e R s m args below meth c H locs k n Q g q) : xe_W p l e R s m args below meth c H locs cells slots Q g q := fun T hT X => kk T hT (stand_widen X h1 h2)
end Rows
end XE
