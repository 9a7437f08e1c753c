/-! Contracts whose end may be a throw: the form, the payer, the three calls, the throw, the catch. -/
section IvA
variable {p : Program} {l : Launch} {e : Env} {R : Room} {s : State} {m : MethodId} {args : Array Value} {below : List Frame} {meth : Method} {c : Code} {H : Heap} {locs : List Loc} {cells slots : Nat} {Q : State → Prop}
def iv_FE (first : State) (t : State) (L : List Loc) (k n : Nat) : Prop := first.WarmedH t.vm ∧ first.sameButNew ({ t with vm := first.vm } : State) L k n
def iv_Met (l : Launch) (y : MethodName) (ws : List Cond) (rm : Room) (Pc : Array Value → State → Prop) (Qc : Array Value → State → Outcome → State → Prop) (mc ms : Nat) (free : Addr → Prop) : Prop :=
  MetFree l y (headSpec ws rm) Pc (fun _ _ _ _ _ => True) (fun a st o t => Qc a st o t ∧ ∃ L, iv_FE st t L mc ms ∧ ∀ q ∈ L, free q.base)
def iv_MQ (below : List Frame) (Qc : Array Value → State → Outcome → State → Prop) (a : Array Value) (s : State) (mc ms : Nat) (free : Addr → Prop) : State → Prop := fun t =>
  ∃ o, t.status = .running ∧ Ended t below o ∧ Qc a s o t ∧ ∃ L, iv_FE s t L mc ms ∧ ∀ q ∈ L, free q.base
theorem iv_MQ.of {Qc : Array Value → State → Outcome → State → Prop} {a : Array Value} {mc ms : Nat} {free : Addr → Prop} (t : State) (h : MQ below Qc a s mc ms free t) : iv_MQ below Qc a s mc ms free t := by
  obtain ⟨o, h1, h2, h3, L, ⟨-, h4⟩, h5⟩ := h
  exact ⟨o, h1, h2, h3, L, h4, h5⟩
theorem iv_mono {Q' : State → Prop} {g : JFrame} (h : ∀ t, Q t → Q' t) (k : W p l e R s m args below meth c H locs cells slots Q g) : W p l e R s m args below meth c H locs cells slots Q' g := fun T hT X => by
  obtain ⟨t, a, b⟩ := k T hT X
  exact ⟨t, a, h t b⟩
/-- a contract out of a walk -/
theorem iv_Met.ofW {y : MethodName} {ws : List Cond} {rm : Room} {Pc : Array Value → State → Prop} {Qc : Array Value → State → Outcome → State → Prop} {mc ms : Nat} {free : Addr → Prop} {cc : ByteArray} {maxL : Nat} {ret : Option FieldType} {hh : List (Nat × Nat × Nat × Nat)}
    (hy : plainFor y = true) (hcw : ∀ (a : Array Value) (U : State), (headSpec ws rm).pre.before a U = true → (Cond.codeWith y cc maxL ret hh).before a U = true)
    (body : ∀ p e s m args below meth c s₁, BodyLoose p l y (headSpec ws rm) cc maxL ret e s m args below meth c s₁ → c.maxLocals = maxL → Pc args s →
      W p l e (headSpec ws rm).room s m args below meth c s.heap [] 0 0 (iv_MQ below Qc args s mc ms free) (entryFrame m args maxL)) : iv_Met l y ws rm Pc Qc mc ms free := by
  refine MetFree.of_bodySF (code := cc) (maxLocals := maxL) (ret := ret) hy ?_ ?_
  · intro a U mk h hn
    obtain ⟨m9, me, cd, hn9, h1, h2, h3, h4, -, h5, h6, -⟩ := Cond.codeWith_spec (hcw a U h)
    cases hn.symm.trans hn9
    exact ⟨me, cd, h1, h2, h3, h4, h5, h6⟩
  · intro p e s m args below meth c s₁ B hml hP _
    have hh0 : s₁.heap = s.heap := by rw [B.state]; rfl
    obtain ⟨t, a1, o, b1, b2, b3⟩ := body p e s m args below meth c s₁ B hml hP s₁ hh0 (Stand.of_body B)
    exact ⟨t, o, a1, b1, b2, b3⟩
/-- what the code's word says -/
theorem iv_cwS {y : MethodName} {cc : ByteArray} {maxL : Nat} {ret : Option FieldType} {hh : List (Nat × Nat × Nat × Nat)} {a : Array Value} {U : State} {mk : MethodId} (h : (Cond.codeWith y cc maxL ret hh).before a U = true) (hn : U.methodNamed? y = some mk) :
    ∃ (me : Method) (cd : Code), U.vm.method? mk = some me ∧ me.code = some cd ∧ cd.code = cc ∧ cd.maxLocals = maxL ∧ me.sig.returnType = ret ∧ me.locks = false ∧ cd.exceptionTable.toList = tableOf hh ∧ parseMethodDescriptor y.desc = some me.sig := by
  obtain ⟨m', me, cd, h1, h2, h3, h4, h5, h6, h7, h8, h9⟩ := Cond.codeWith_spec h
  cases hn.symm.trans h1
  exact ⟨me, cd, h2, h3, h4, h5, h7, h8, by rw [← h6, table_eq], h9⟩
/-- the payer: the callee has returned, or it has thrown -/
theorem iv_back {y : MethodName} {ws : List Cond} {rm : Room} {Pc : Array Value → State → Prop} {Qc : Array Value → State → Outcome → State → Prop} {mc ms len Wd maxL : Nat} {free : Addr → Prop} {cc : ByteArray} {ret : Option FieldType} {hh : List (Nat × Nat × Nat × Nat)}
    (hM : iv_Met l y ws rm Pc Qc mc ms free) (hblind : FrameBlind Pc) (hrc : rm.cells = mc) (hrs : rm.slots = ms) (hframes : rm.frames + 1 ≤ R.frames) (hlocals : Wd + (maxL + 11) + rm.locals ≤ R.locals)
    (hws : ∀ w ∈ ws, ∀ (a' : Array Value) (U : State), s.WarmedH U.vm → w.before a' U = true) (hcw : ∀ (a' : Array Value) (U : State), s.WarmedH U.vm → (Cond.codeWith y cc maxL ret hh).before a' U = true)
    (hinit : ∀ (a' : Array Value) (U : State), s.WarmedH U.vm → (Cond.initialized y.cls).before a' U = true)
    {U : State} {Ls : List Loc} {c0 s0 : Nat} {g : JFrame} {ig : Instr} {mk : MethodId} {a : Array Value}
    (X : Stand p l e R s m args below meth c U Ls c0 s0) (hg : g.method = m) (hsize : g.locals.size = c.maxLocals) (hdg : decode c.code g.pc = .ok (ig, len)) (hW : 2 * g.monitorRoom + (g.stack.map fun v => v.category).sum ≤ Wd) (hn : U.methodNamed? y = some mk)
    (h4 : c0 + mc ≤ R.cells) (h5 : s0 + ms ≤ R.slots) (hp : Pc a U) :
    ∃ (o : Outcome) (t T' : State) (L : List Loc), Qc a (U.calling g mk a) o t ∧ (∀ q ∈ L, free q.base) ∧ T'.heap = t.heap ∧ T'.vm = t.vm ∧ Stand p l e R s m args below meth c T' (Ls ++ L) (c0 + mc) (s0 + ms) ∧
      ((∃ v, o = .returned v ∧ Steps p.tables e below (doInvoke e (U.setTop g) [] mk a).1 (T'.setTop { g with pc := g.pc + len, stack := v.toList ++ g.stack })) ∨
       ∃ x, o = .threw x ∧ Steps p.tables e below (doInvoke e (U.setTop g) [] mk a).1 ((T'.setTop g).pushFrame (.throwing x))) := by
  obtain ⟨methY, cY, hmY, hcY, -, hlY, -⟩ := iv_cwS (hcw a U X.warmed) hn
  obtain ⟨kY, hkY, -⟩ := className_of_methodNamed hn
  have hinitY : kY.init = .initialized := Cond.initialized_spec (findClass_of_methodNamed hn) hkY (hinit a U X.warmed)
  have h : At U g.method c below := by rw [hg]; exact X.here
  have happ : (headSpec ws rm).appliesLoose y e.platform (U.calling g mk a) = true :=
    Spec.appliesLoose_calling (g := g) h hdg hn hkY hinitY
      (X.room_calling (g := g) (R' := (headSpec ws rm).room) hsize hmY hcY hframes (by rw [hlY]; show _ + _ + (maxL + 11) + rm.locals ≤ _; omega) (by show c0 + rm.cells ≤ _; omega) (by show s0 + rm.slots ≤ _; omega))
      (atoms_intro fun w hw => hws w hw _ _ X.warmed)
  obtain ⟨mid, hmid⟩ := h.above
  have hfr : (U.setTop g).frames = (.java g :: mid) ++ below := by rw [State.frames_setTop' g h.top, hmid]; rfl
  obtain ⟨o, s₂, hsteps, -, hend, hq, L, ⟨hW₂, e2, q2, q3, q4, q5, q6⟩, hL⟩ := Steps.callFree hM p X.admits X.cas X.clock (acts := []) hfr happ (hblind _ _ _ _ hp) trivial
  rw [State.frames_setTop' g h.top] at hend
  have e3 : s₂ = ({ (U.calling g mk a).setFrames s₂.frames with heap := s₂.heap, slotsUsed := s₂.slotsUsed } : State).setVm s₂.vm := by
    have : s₂ = ({ s₂ with vm := (U.calling g mk a).vm } : State).setVm s₂.vm := rfl
    rw [show ({ s₂ with vm := (U.calling g mk a).vm } : State) = _ from e2] at this
    exact this
  have hW' : U.WarmedH s₂.vm := hW₂
  obtain ⟨g₀, hg0⟩ := Option.isSome_iff_exists.mp h.top
  obtain ⟨r, hr⟩ := State.topJava?_eq_some.mp hg0
  have hr' : (({ U with heap := s₂.heap, slotsUsed := s₂.slotsUsed } : State).setVm s₂.vm).frames = .java g₀ :: r := hr
  have hsame : U.sameButNew ({ U with heap := s₂.heap, slotsUsed := s₂.slotsUsed } : State) L mc ms := by
    refine ⟨?_, q2, q3, q4, q5, q6⟩
    obtain ⟨t, ht, -⟩ := State.frames_cons hr
    show ({ U with heap := s₂.heap, slotsUsed := s₂.slotsUsed } : State) = { U.setFrames U.frames with heap := s₂.heap, slotsUsed := s₂.slotsUsed }
    rw [State.setFrames_self ht]
  refine ⟨o, s₂, (({ U with heap := s₂.heap, slotsUsed := s₂.slotsUsed } : State).setVm s₂.vm), L, hq, hL, rfl, rfl,
    ⟨X.admits, X.cas, X.clock, X.frames, X.room, X.hears, X.method, X.code, (X.here.setHeapUsed s₂.heap s₂.slotsUsed).setVm hW'.alike, X.tail, State.WarmedH.trans X.warmed hW', X.limits, X.bytes, X.same.trans (hsame.setVm s.vm)⟩, ?_⟩
  cases o with
  | returned v =>
    refine Or.inl ⟨v, rfl, ?_⟩
    obtain ⟨c₂, i₂, len₂, hc₂, hd₂, hf₂⟩ := hend
    have hcc : c₂ = c := by
      have h1 : s₂.code? g.method = U.code? g.method := by
        rw [State.code?_eq, State.code?_eq, hW'.alike.method?]
      exact Option.some.inj (hc₂.symm.trans (h1.trans h.code))
    subst hcc
    have hlen : len₂ = len := by rw [hdg] at hd₂; cases hd₂; rfl
    subst hlen
    have hs₂ : s₂ = (({ U with heap := s₂.heap, slotsUsed := s₂.slotsUsed } : State).setVm s₂.vm).setTop { g with pc := g.pc + len₂, stack := v.toList ++ g.stack } := by
      refine e3.trans ?_
      rw [hf₂, State.calling_eq h.top, State.setFrames_setFrames, State.setTop_of_frames _ hr', hr]
      rfl
    rw [← hs₂]
    exact hsteps
  | threw x =>
    refine Or.inr ⟨x, rfl, ?_⟩
    have hf₂ : s₂.frames = .throwing x :: .java g :: U.frames.tail := hend
    have hs₂ : s₂ = ((({ U with heap := s₂.heap, slotsUsed := s₂.slotsUsed } : State).setVm s₂.vm).setTop g).pushFrame (.throwing x) := by
      refine e3.trans ?_
      rw [hf₂, State.calling_eq h.top, State.setFrames_setFrames, State.pushFrame, State.frames_setTop _ hr', State.setTop_of_frames _ hr', State.setFrames_setFrames, hr]
      rfl
    rw [← hs₂]
    exact hsteps
/-- what is known behind a call -/
def iv_Res (p : Program) (l : Launch) (e : Env) (R : Room) (s : State) (m : MethodId) (args : Array Value) (below : List Frame) (meth : Method) (c : Code) (T : State) (locs : List Loc) (cells slots mc ms : Nat) (g : JFrame) (rest : List Value) (Qa : State → Outcome → State → Prop) (free : Addr → Prop) : Prop :=
  ∃ (o : Outcome) (st₀ t T' : State) (L : List Loc), st₀.heap = T.heap ∧ Qa st₀ o t ∧ (∀ q ∈ L, free q.base) ∧ T'.heap = t.heap ∧ T'.vm = t.vm ∧ Stand p l e R s m args below meth c T' (locs ++ L) (cells + mc) (slots + ms) ∧
    ((∃ v, o = .returned v ∧ ∀ target, Steps p.tables e below (T'.setTop { g with pc := g.pc + 3, stack := v.toList ++ rest }) target → Steps p.tables e below (T.setTop g) target) ∨
     ∃ x, o = .threw x ∧ ∀ target, Steps p.tables e below ((T'.setTop { g with stack := rest }).pushFrame (.throwing x)) target → Steps p.tables e below (T.setTop g) target)
theorem iv_tail {y : MethodName} {ws : List Cond} {rm : Room} {Pc : Array Value → State → Prop} {Qc : Array Value → State → Outcome → State → Prop} {mc ms maxL : Nat} {free : Addr → Prop} {cc : ByteArray} {ret : Option FieldType} {hh : List (Nat × Nat × Nat × Nat)}
    (hM : iv_Met l y ws rm Pc Qc mc ms free) (hblind : FrameBlind Pc) (hrc : rm.cells = mc) (hrs : rm.slots = ms) (hframes : rm.frames + 1 ≤ R.frames) (hlocals : 8 + (maxL + 11) + rm.locals ≤ R.locals)
    (hws : ∀ w ∈ ws, ∀ (a' : Array Value) (U : State), s.WarmedH U.vm → w.before a' U = true) (hcw : ∀ (a' : Array Value) (U : State), s.WarmedH U.vm → (Cond.codeWith y cc maxL ret hh).before a' U = true)
    (hinit : ∀ (a' : Array Value) (U : State), s.WarmedH U.vm → (Cond.initialized y.cls).before a' U = true)
    {T : State} {g : JFrame} {ig : Instr} {mk : MethodId} {a : Array Value} {vm₁ : Vm} {rest : List Value}
    (X : Stand p l e R s m args below meth c (T.setVm vm₁) locs cells slots) (hg : g.method = m) (hsize : g.locals.size = c.maxLocals) (hdg : decode c.code g.pc = .ok (ig, 3)) (hW : 2 * g.monitorRoom + (rest.map fun v => v.category).sum ≤ 8) (hn : s.methodNamed? y = some mk)
    (h4 : cells + mc ≤ R.cells) (h5 : slots + ms ≤ R.slots) (hp : ∀ U : State, U.heap = T.heap → s.WarmedH U.vm → Pc a U)
    (hst : ∀ target, (∀ acts, Steps p.tables e below (doInvoke e ((T.setVm vm₁).setTop { g with stack := rest }) acts mk a).1 target) → Steps p.tables e below (T.setTop g) target) :
    iv_Res p l e R s m args below meth c T locs cells slots mc ms g rest (Qc a) free := by
  obtain ⟨o, t, T', L, h1, h2, h3, h3', h4', h5'⟩ := iv_back (g := { g with stack := rest }) (ig := ig) (len := 3) (Wd := 8) hM hblind hrc hrs hframes hlocals hws hcw hinit X hg hsize hdg hW (X.named hn) h4 h5 (hp _ rfl X.warmed)
  refine ⟨o, _, t, T', L, ?_, h1, h2, h3, h3', h4', ?_⟩
  · rfl
  · rcases h5' with ⟨v, rfl, hs⟩ | ⟨x, rfl, hs⟩
    · exact Or.inl ⟨v, rfl, fun target k => hst _ fun acts => by rw [doInvoke_state]; exact hs.trans k⟩
    · exact Or.inr ⟨x, rfl, fun target k => hst _ fun acts => by rw [doInvoke_state]; exact hs.trans k⟩
end IvA
section IvB
variable {p : Program} {l : Launch} {e : Env} {R : Room} {s : State} {m : MethodId} {args : Array Value} {below : List Frame} {meth : Method} {c : Code} {H : Heap} {locs : List Loc} {cells slots : Nat} {Q : State → Prop}
variable {y : MethodName} {ws : List Cond} {rm : Room} {Pc : Array Value → State → Prop} {Qc : Array Value → State → Outcome → State → Prop} {mc ms maxL index : Nat} {free : Addr → Prop} {cc : ByteArray} {ret : Option FieldType} {hh : List (Nat × Nat × Nat × Nat)} {own host : String} {T : State} {g : JFrame} {As rest : List Value}
/-- what every call asks -/
abbrev iv_CB (l : Launch) (R : Room) (s : State) (args : Array Value) (y : MethodName) (ws : List Cond) (rm : Room) (Pc : Array Value → State → Prop) (Qc : Array Value → State → Outcome → State → Prop) (mc ms maxL : Nat) (free : Addr → Prop) (cc : ByteArray) (ret : Option FieldType) (hh : List (Nat × Nat × Nat × Nat)) : Prop :=
  iv_Met l y ws rm Pc Qc mc ms free ∧ FrameBlind Pc ∧ rm.cells = mc ∧ rm.slots = ms ∧ rm.frames + 1 ≤ R.frames ∧ 8 + (maxL + 11) + rm.locals ≤ R.locals ∧
  (∀ w ∈ ws, ∀ (a' : Array Value) (U : State), s.WarmedH U.vm → w.before a' U = true) ∧ (∀ (a' : Array Value) (U : State), s.WarmedH U.vm → (Cond.codeWith y cc maxL ret hh).before a' U = true) ∧
  (∀ (a' : Array Value) (U : State), s.WarmedH U.vm → (Cond.initialized y.cls).before a' U = true) ∧ (y.cls ≠ "java/lang/invoke/MethodHandle" ∧ y.cls ≠ "java/lang/invoke/VarHandle")
theorem iv_selfW (s : State) : s.WarmedH s.vm := State.WarmedH.refl s
theorem iv_callV (hx : p.tables.exec = Jvm.exec) (hb : iv_CB l R s args y ws rm Pc Qc mc ms maxL free cc ret hh) (hown : s.vm.findClass own = some m.cls)
    (hlink : (Cond.methodLink own index y).before args s = true ∨ (Cond.methodLinkNest own index y host).before args s = true) (hinst : (Cond.instanceMethod y).before args s = true) (hsel : (Cond.selects y.cls y y).before args s = true)
    (X : Stand p l e R s m args below meth c T locs cells slots) {b : Addr} {cellB : Cell} (hcell : T.heap[b]? = some cellB) (hobj : cellB.vm.isStatics = false) (hcls : s.vm.findClass y.cls = some cellB.cls)
    (hg : g.method = m) (hsize : g.locals.size = c.maxLocals) (hlen : (parseMethodDescriptor y.desc).map (fun d => d.parameters.length) = some As.length) (hstack : g.stack = As.reverse ++ .ref b :: rest) (hW : 2 * g.monitorRoom + (rest.map fun v => v.category).sum ≤ 8)
    (hdg : decode c.code g.pc = .ok (.invokevirtual index, 3)) (h4 : cells + mc ≤ R.cells) (h5 : slots + ms ≤ R.slots) (hp : ∀ U : State, U.heap = T.heap → s.WarmedH U.vm → Pc (Value.ref b :: As).toArray U) :
    iv_Res p l e R s m args below meth c T locs cells slots mc ms g rest (Qc (Value.ref b :: As).toArray) free := by
  obtain ⟨hM, hbl, hrc, hrs, hfr, hlo, hws, hcw, hini, hy⟩ := hb
  obtain ⟨mk, methM, hnamed, hmethM, hstM, habM⟩ := Cond.instanceMethod_spec hinst
  obtain ⟨methM', cM, hmethM', -, -, -, -, -, -, hsigM⟩ := iv_cwS (hcw args s (iv_selfW s)) hnamed
  cases hmethM.symm.trans hmethM'
  have hlen' : As.length = methM.sig.parameters.length := by rw [hsigM] at hlen; exact (Option.some.inj hlen).symm
  obtain ⟨c2, r2, m2, q1, q2, q3, q4, kP, hkP, hkPi⟩ := Cond.selects_spec hsel
  cases hcls.symm.trans q1
  cases (State.methodFound?_of_named hnamed hy).symm.trans q2
  cases hnamed.symm.trans q3
  have hselP : selectMethod e.platform s.vm cellB.cls mk = .method mk := by rw [Launch.admits_selectMethod X.admits]; exact q4
  have hob : ∀ z, cellB.vm ≠ .statics z := fun z h => by rw [h] at hobj; cases hobj
  rcases hlink with hl | hl
  · obtain ⟨vm₁, X₁, hst⟩ := X.invokevirtual hx hown hl hnamed hmethM hstM hkP hkPi hy (a := b) (cell := cellB) hcell hob hselP hmethM habM hkP hkPi (g := g) hg (argsL := As) (rest := rest) hlen' hstack hdg
    exact iv_tail hM hbl hrc hrs hfr hlo hws hcw hini X₁ hg hsize hdg hW hnamed h4 h5 hp hst
  · obtain ⟨vm₁, X₁, hst⟩ := X.invokevirtualNest hx hown hl hnamed hmethM hstM hkP hkPi hy (a := b) (cell := cellB) hcell hob hselP hmethM habM hkP hkPi (g := g) hg (argsL := As) (rest := rest) hlen' hstack hdg
    exact iv_tail hM hbl hrc hrs hfr hlo hws hcw hini X₁ hg hsize hdg hW hnamed h4 h5 hp hst
theorem iv_callS (hx : p.tables.exec = Jvm.exec) (hb : iv_CB l R s args y ws rm Pc Qc mc ms maxL free cc ret hh) (hown : s.vm.findClass own = some m.cls)
    (hlink : (Cond.methodLink own index y).before args s = true ∨ (Cond.methodLinkNest own index y host).before args s = true) (hstat : (Cond.static y).before args s = true)
    (X : Stand p l e R s m args below meth c T locs cells slots)
    (hg : g.method = m) (hsize : g.locals.size = c.maxLocals) (hlen : (parseMethodDescriptor y.desc).map (fun d => d.parameters.length) = some As.length) (hstack : g.stack = As.reverse ++ rest) (hW : 2 * g.monitorRoom + (rest.map fun v => v.category).sum ≤ 8)
    (hdg : decode c.code g.pc = .ok (.invokestatic index, 3)) (h4 : cells + mc ≤ R.cells) (h5 : slots + ms ≤ R.slots) (hp : ∀ U : State, U.heap = T.heap → s.WarmedH U.vm → Pc As.toArray U) :
    iv_Res p l e R s m args below meth c T locs cells slots mc ms g rest (Qc As.toArray) free := by
  obtain ⟨hM, hbl, hrc, hrs, hfr, hlo, hws, hcw, hini, hy⟩ := hb
  obtain ⟨mk, methM0, cM0, hnamed, -⟩ := Cond.codeWith_spec (hcw args s (iv_selfW s))
  obtain ⟨methM, cM, hmethM, -, -, -, -, -, -, hsigM⟩ := iv_cwS (hcw args s (iv_selfW s)) hnamed
  have hlen' : As.length = methM.sig.parameters.length := by rw [hsigM] at hlen; exact (Option.some.inj hlen).symm
  have hstatic : methM.isStatic = true := Cond.static_spec hnamed hmethM hstat
  obtain ⟨kP, hkP, -⟩ := className_of_methodNamed hnamed
  have hinitP : kP.init = .initialized := Cond.initialized_spec (findClass_of_methodNamed hnamed) hkP (hini args s (iv_selfW s))
  rcases hlink with hl | hl
  · obtain ⟨vm₁, X₁, hst⟩ := X.invokestatic hx hown hl hnamed hmethM hstatic hkP hinitP hy (g := g) hg (argsL := As) (rest := rest) hlen' hstack hdg
    exact iv_tail hM hbl hrc hrs hfr hlo hws hcw hini X₁ hg hsize hdg hW hnamed h4 h5 hp hst
  · obtain ⟨vm₁, X₁, hst⟩ := X.invokestaticNest hx hown hl hnamed hmethM hstatic hkP hinitP hy (g := g) hg (argsL := As) (rest := rest) hlen' hstack hdg
    exact iv_tail hM hbl hrc hrs hfr hlo hws hcw hini X₁ hg hsize hdg hW hnamed h4 h5 hp hst
theorem iv_callI (hx : p.tables.exec = Jvm.exec) (hb : iv_CB l R s args y ws rm Pc Qc mc ms maxL free cc none []) (hown : s.vm.findClass own = some m.cls) (hy1 : y.name = "<init>")
    (hlink : (Cond.methodLink own index y).before args s = true ∨ (Cond.methodLinkNest own index y host).before args s = true) (hinst : (Cond.instanceMethod y).before args s = true) (hcode : (Cond.code y cc maxL none).before args s = true)
    (X : Stand p l e R s m args below meth c T locs cells slots) {b : Addr}
    (hg : g.method = m) (hsize : g.locals.size = c.maxLocals) (hlen : (parseMethodDescriptor y.desc).map (fun d => d.parameters.length) = some As.length) (hstack : g.stack = As.reverse ++ .ref b :: rest) (hW : 2 * g.monitorRoom + (rest.map fun v => v.category).sum ≤ 8)
    (hdg : decode c.code g.pc = .ok (.invokespecial index, 3)) (h4 : cells + mc ≤ R.cells) (h5 : slots + ms ≤ R.slots) (hp : ∀ U : State, U.heap = T.heap → s.WarmedH U.vm → Pc (Value.ref b :: As).toArray U) :
    iv_Res p l e R s m args below meth c T locs cells slots mc ms g rest (Qc (Value.ref b :: As).toArray) free := by
  obtain ⟨hM, hbl, hrc, hrs, hfr, hlo, hws, hcw, hini, hy⟩ := hb
  subst hg
  have hpl : e.platform.magicAccessors = ({} : Platform).magicAccessors := by rw [X.admits.platform]
  have hlen' : ∀ sig, parseMethodDescriptor y.desc = some sig → As.length = sig.parameters.length := fun sig h => by rw [h] at hlen; exact (Option.some.inj hlen).symm
  rcases hlink with hl | hl
  · obtain ⟨mk, methM, cM, kP, vm₁, hnamed, hmethM, hcodeM, -, hlocalsM, -, hkP, -, hW₁, hst⟩ := Steps.initColdArgs (e := e) X.here hx X.warmed hpl hown hy1 hy hl hinst hcode (f := g) rfl hlen' hstack hdg
    exact iv_tail hM hbl hrc hrs hfr hlo hws hcw hini (X.noted hW₁) rfl hsize hdg hW hnamed h4 h5 hp hst
  · obtain ⟨mk, methM, cM, kP, vm₁, hnamed, hmethM, hcodeM, -, hlocalsM, -, hkP, -, hW₁, hst⟩ := Steps.initColdArgsNest (e := e) X.here hx X.warmed hpl hown hy1 hy hl hinst hcode (f := g) rfl hlen' hstack hdg
    exact iv_tail hM hbl hrc hrs hfr hlo hws hcw hini (X.noted hW₁) rfl hsize hdg hW hnamed h4 h5 hp hst
/-- the walk goes on behind a call, or where it throws -/
theorem iv_callW {pc : Nat} {ls : Array Slot} {st0 : List Value} {Qa : State → Outcome → State → Prop}
    (hr : ∀ T : State, T.heap = H → Stand p l e R s m args below meth c T locs cells slots → iv_Res p l e R s m args below meth c T locs cells slots mc ms (F0 m pc ls st0) rest Qa free)
    (kret : ∀ (v : Option Value) (st₀ t : State) (L : List Loc), st₀.heap = H → s.WarmedH t.vm → Qa st₀ (.returned v) t → (∀ q ∈ L, free q.base) → W p l e R s m args below meth c t.heap (locs ++ L) (cells + mc) (slots + ms) Q (F0 m (pc + 3) ls (v.toList ++ rest)))
    (kthr : ∀ (x : Addr) (st₀ t T' : State) (L : List Loc), st₀.heap = H → s.WarmedH t.vm → Qa st₀ (.threw x) t → (∀ q ∈ L, free q.base) → T'.heap = t.heap → Stand p l e R s m args below meth c T' (locs ++ L) (cells + mc) (slots + ms) →
      ∃ u, Steps p.tables e below ((T'.setTop (F0 m pc ls rest)).pushFrame (.throwing x)) u ∧ Q u) :
    W p l e R s m args below meth c H locs cells slots Q (F0 m pc ls st0) := by
  intro T hT X
  obtain ⟨o, st₀, t, T', L, h1, h2, h3, h4, h5, X', h6⟩ := hr T hT X
  have hw : s.WarmedH t.vm := by rw [← h5]; exact X'.warmed
  rcases h6 with ⟨v, rfl, hs⟩ | ⟨x, rfl, hs⟩
  · obtain ⟨u, a1, b1⟩ := kret v st₀ t L (h1.trans hT) hw h2 h3 T' h4 X'
    exact ⟨u, hs u a1, b1⟩
  · obtain ⟨u, a1, b1⟩ := kthr x st₀ t T' L (h1.trans hT) hw h2 h3 h4 X'
    exact ⟨u, hs u a1, b1⟩
end IvB
