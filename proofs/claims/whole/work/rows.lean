section
-- ===== PART A: goes FIRST, ahead of the names: the tables' words, and 'selects' of the private methods out of them =====
/-- a private method of a class that the tables say can be made, by its rows of tables_1 -/
def lw_okq (q : MethodName × Nat) : Prop := (q.1.cls ≠ "java/lang/invoke/MethodHandle" ∧ q.1.cls ≠ "java/lang/invoke/VarHandle") ∧ Cond.instantiable q.1.cls q.2 ∈ tables_1 ∧ Cond.privateMethod q.1 ∈ tables_1 ∧ Cond.instanceMethod q.1 ∈ tables_1
theorem lw_p0 : lw_okq (⟨"TripGuard$Channel", "judge", "(ILTripGuard$Journal;)V"⟩, 8) := ⟨⟨by decide +kernel, by decide +kernel⟩, List.mem_of_getElem? (i := 97) (by decide +kernel), List.mem_of_getElem? (i := 185) (by decide +kernel), List.mem_of_getElem? (i := 186) (by decide +kernel)⟩
theorem lw_p1 : lw_okq (⟨"TripGuard$Channel", "isWrong", "(IZ)Z"⟩, 8) := ⟨⟨by decide +kernel, by decide +kernel⟩, List.mem_of_getElem? (i := 97) (by decide +kernel), List.mem_of_getElem? (i := 189) (by decide +kernel), List.mem_of_getElem? (i := 190) (by decide +kernel)⟩
theorem lw_p2 : lw_okq (⟨"TripGuard$Channel", "moveBistable", "(IILTripGuard$Journal;)V"⟩, 8) := ⟨⟨by decide +kernel, by decide +kernel⟩, List.mem_of_getElem? (i := 97) (by decide +kernel), List.mem_of_getElem? (i := 206) (by decide +kernel), List.mem_of_getElem? (i := 207) (by decide +kernel)⟩
theorem lw_p3 : lw_okq (⟨"TripGuard$Channel", "isBeyond", "(I)Z"⟩, 8) := ⟨⟨by decide +kernel, by decide +kernel⟩, List.mem_of_getElem? (i := 97) (by decide +kernel), List.mem_of_getElem? (i := 210) (by decide +kernel), List.mem_of_getElem? (i := 211) (by decide +kernel)⟩
theorem lw_p4 : lw_okq (⟨"TripGuard$Channel", "isInside", "(I)Z"⟩, 8) := ⟨⟨by decide +kernel, by decide +kernel⟩, List.mem_of_getElem? (i := 97) (by decide +kernel), List.mem_of_getElem? (i := 227) (by decide +kernel), List.mem_of_getElem? (i := 228) (by decide +kernel)⟩
theorem lw_p5 : lw_okq (⟨"TripGuard", "receiveFrames", "(LTripGuard$Train;)V"⟩, 8) := ⟨⟨by decide +kernel, by decide +kernel⟩, List.mem_of_getElem? (i := 17) (by decide +kernel), List.mem_of_getElem? (i := 231) (by decide +kernel), List.mem_of_getElem? (i := 232) (by decide +kernel)⟩
theorem lw_p6 : lw_okq (⟨"TripGuard$Train", "countVotes", "(II)I"⟩, 4) := ⟨⟨by decide +kernel, by decide +kernel⟩, List.mem_of_getElem? (i := 129) (by decide +kernel), List.mem_of_getElem? (i := 260) (by decide +kernel), List.mem_of_getElem? (i := 261) (by decide +kernel)⟩
theorem lw_p7 : lw_okq (⟨"TripGuard$Train", "latch", "(LTripGuard$Journal;)V"⟩, 4) := ⟨⟨by decide +kernel, by decide +kernel⟩, List.mem_of_getElem? (i := 129) (by decide +kernel), List.mem_of_getElem? (i := 265) (by decide +kernel), List.mem_of_getElem? (i := 266) (by decide +kernel)⟩
theorem lw_p8 : lw_okq (⟨"TripGuard", "endTrial", "()V"⟩, 8) := ⟨⟨by decide +kernel, by decide +kernel⟩, List.mem_of_getElem? (i := 17) (by decide +kernel), List.mem_of_getElem? (i := 271) (by decide +kernel), List.mem_of_getElem? (i := 272) (by decide +kernel)⟩
theorem lw_p9 : lw_okq (⟨"TripGuard", "sendFrames", "()V"⟩, 8) := ⟨⟨by decide +kernel, by decide +kernel⟩, List.mem_of_getElem? (i := 17) (by decide +kernel), List.mem_of_getElem? (i := 283) (by decide +kernel), List.mem_of_getElem? (i := 284) (by decide +kernel)⟩
theorem lw_p10 : lw_okq (⟨"java/lang/Throwable", "fillInStackTrace", "(I)Ljava/lang/Throwable;"⟩, 6) := ⟨⟨by decide +kernel, by decide +kernel⟩, List.mem_of_getElem? (i := 351) (by decide +kernel), List.mem_of_getElem? (i := 349) (by decide +kernel), List.mem_of_getElem? (i := 350) (by decide +kernel)⟩
theorem lw_p11 : lw_okq (⟨"TripGuardModel", "limitOf", "(II)I"⟩, 30) := ⟨⟨by decide +kernel, by decide +kernel⟩, List.mem_of_getElem? (i := 523) (by decide +kernel), List.mem_of_getElem? (i := 636) (by decide +kernel), List.mem_of_getElem? (i := 637) (by decide +kernel)⟩
theorem lw_p12 : lw_okq (⟨"TripGuardModel", "look", "(II)V"⟩, 30) := ⟨⟨by decide +kernel, by decide +kernel⟩, List.mem_of_getElem? (i := 523) (by decide +kernel), List.mem_of_getElem? (i := 648) (by decide +kernel), List.mem_of_getElem? (i := 649) (by decide +kernel)⟩
theorem lw_p13 : lw_okq (⟨"TripGuardModel", "isWrong", "(I)Z"⟩, 30) := ⟨⟨by decide +kernel, by decide +kernel⟩, List.mem_of_getElem? (i := 523) (by decide +kernel), List.mem_of_getElem? (i := 652) (by decide +kernel), List.mem_of_getElem? (i := 653) (by decide +kernel)⟩
theorem lw_p14 : lw_okq (⟨"TripGuardModel", "note", "(III)V"⟩, 30) := ⟨⟨by decide +kernel, by decide +kernel⟩, List.mem_of_getElem? (i := 523) (by decide +kernel), List.mem_of_getElem? (i := 659) (by decide +kernel), List.mem_of_getElem? (i := 660) (by decide +kernel)⟩
theorem lw_p15 : lw_okq (⟨"TripGuardModel", "isSet", "(II)Z"⟩, 30) := ⟨⟨by decide +kernel, by decide +kernel⟩, List.mem_of_getElem? (i := 523) (by decide +kernel), List.mem_of_getElem? (i := 663) (by decide +kernel), List.mem_of_getElem? (i := 664) (by decide +kernel)⟩
def lw_privs_1 : List (MethodName × Nat) := [(⟨"TripGuard$Channel", "judge", "(ILTripGuard$Journal;)V"⟩, 8), (⟨"TripGuard$Channel", "isWrong", "(IZ)Z"⟩, 8), (⟨"TripGuard$Channel", "moveBistable", "(IILTripGuard$Journal;)V"⟩, 8), (⟨"TripGuard$Channel", "isBeyond", "(I)Z"⟩, 8), (⟨"TripGuard$Channel", "isInside", "(I)Z"⟩, 8), (⟨"TripGuard", "receiveFrames", "(LTripGuard$Train;)V"⟩, 8), (⟨"TripGuard$Train", "countVotes", "(II)I"⟩, 4), (⟨"TripGuard$Train", "latch", "(LTripGuard$Journal;)V"⟩, 4), (⟨"TripGuard", "endTrial", "()V"⟩, 8), (⟨"TripGuard", "sendFrames", "()V"⟩, 8), (⟨"java/lang/Throwable", "fillInStackTrace", "(I)Ljava/lang/Throwable;"⟩, 6), (⟨"TripGuardModel", "limitOf", "(II)I"⟩, 30), (⟨"TripGuardModel", "look", "(II)V"⟩, 30), (⟨"TripGuardModel", "isWrong", "(I)Z"⟩, 30), (⟨"TripGuardModel", "note", "(III)V"⟩, 30), (⟨"TripGuardModel", "isSet", "(II)Z"⟩, 30)]
theorem lw_r1 : ∀ q ∈ lw_privs_1, lw_okq q := List.forall_mem_cons.mpr ⟨lw_p0, List.forall_mem_cons.mpr ⟨lw_p1, List.forall_mem_cons.mpr ⟨lw_p2, List.forall_mem_cons.mpr ⟨lw_p3, List.forall_mem_cons.mpr ⟨lw_p4, List.forall_mem_cons.mpr ⟨lw_p5, List.forall_mem_cons.mpr ⟨lw_p6, List.forall_mem_cons.mpr ⟨lw_p7, List.forall_mem_cons.mpr ⟨lw_p8, List.forall_mem_cons.mpr ⟨lw_p9, List.forall_mem_cons.mpr ⟨lw_p10, List.forall_mem_cons.mpr ⟨lw_p11, List.forall_mem_cons.mpr ⟨lw_p12, List.forall_mem_cons.mpr ⟨lw_p13, List.forall_mem_cons.mpr ⟨lw_p14, List.forall_mem_cons.mpr ⟨lw_p15, fun _ h => absurd h List.not_mem_nil⟩⟩⟩⟩⟩⟩⟩⟩⟩⟩⟩⟩⟩⟩⟩⟩
theorem lw_p16 : lw_okq (⟨"TripGuardModel", "hear", "(II)V"⟩, 30) := ⟨⟨by decide +kernel, by decide +kernel⟩, List.mem_of_getElem? (i := 523) (by decide +kernel), List.mem_of_getElem? (i := 667) (by decide +kernel), List.mem_of_getElem? (i := 668) (by decide +kernel)⟩
theorem lw_p17 : lw_okq (⟨"TripGuardModel", "vote", "(I)V"⟩, 30) := ⟨⟨by decide +kernel, by decide +kernel⟩, List.mem_of_getElem? (i := 523) (by decide +kernel), List.mem_of_getElem? (i := 674) (by decide +kernel), List.mem_of_getElem? (i := 675) (by decide +kernel)⟩
theorem lw_p18 : lw_okq (⟨"TripGuardModel", "endTest", "()V"⟩, 30) := ⟨⟨by decide +kernel, by decide +kernel⟩, List.mem_of_getElem? (i := 523) (by decide +kernel), List.mem_of_getElem? (i := 678) (by decide +kernel), List.mem_of_getElem? (i := 679) (by decide +kernel)⟩
theorem lw_p19 : lw_okq (⟨"TripGuardModel", "setBits", "(I)I"⟩, 30) := ⟨⟨by decide +kernel, by decide +kernel⟩, List.mem_of_getElem? (i := 523) (by decide +kernel), List.mem_of_getElem? (i := 682) (by decide +kernel), List.mem_of_getElem? (i := 683) (by decide +kernel)⟩
theorem lw_p20 : lw_okq (⟨"TripGuardModel", "wrongBits", "(I)I"⟩, 30) := ⟨⟨by decide +kernel, by decide +kernel⟩, List.mem_of_getElem? (i := 523) (by decide +kernel), List.mem_of_getElem? (i := 686) (by decide +kernel), List.mem_of_getElem? (i := 687) (by decide +kernel)⟩
theorem lw_p21 : lw_okq (⟨"TripGuardModel", "emit", "(III)V"⟩, 30) := ⟨⟨by decide +kernel, by decide +kernel⟩, List.mem_of_getElem? (i := 523) (by decide +kernel), List.mem_of_getElem? (i := 690) (by decide +kernel), List.mem_of_getElem? (i := 691) (by decide +kernel)⟩
def lw_privs_2 : List (MethodName × Nat) := [(⟨"TripGuardModel", "hear", "(II)V"⟩, 30), (⟨"TripGuardModel", "vote", "(I)V"⟩, 30), (⟨"TripGuardModel", "endTest", "()V"⟩, 30), (⟨"TripGuardModel", "setBits", "(I)I"⟩, 30), (⟨"TripGuardModel", "wrongBits", "(I)I"⟩, 30), (⟨"TripGuardModel", "emit", "(III)V"⟩, 30)]
theorem lw_r2 : ∀ q ∈ lw_privs_2, lw_okq q := List.forall_mem_cons.mpr ⟨lw_p16, List.forall_mem_cons.mpr ⟨lw_p17, List.forall_mem_cons.mpr ⟨lw_p18, List.forall_mem_cons.mpr ⟨lw_p19, List.forall_mem_cons.mpr ⟨lw_p20, List.forall_mem_cons.mpr ⟨lw_p21, fun _ h => absurd h List.not_mem_nil⟩⟩⟩⟩⟩⟩
def lw_privs : List (MethodName × Nat) := lw_privs_1 ++ (lw_privs_2)
def lw_tbl : List Cond := k2_sels lw_privs ++ tables_1
theorem lw_privs_ok : ∀ q ∈ lw_privs, lw_okq q := by
  show ∀ q ∈ lw_privs_1 ++ (lw_privs_2), lw_okq q
  exact List.forall_mem_append.mpr ⟨lw_r1, lw_r2⟩
end
section
/-! Contracts whose end may be a throw: the form, the payer, the three calls, the throw, the catch. -/
section IvA
variable {p : Program} {l : Launch} {e : Env} {R : Room} {s : State} {m : MethodId} {args : Array Value} {below : List Frame} {meth : Method} {c : Code} {H : Heap} {locs : List Loc} {cells slots : Nat} {Q : State → Prop}
def iv_FE (first : State) (t : State) (L : List Loc) (k n : Nat) : Prop := first.WarmedH t.vm ∧ first.sameButNew ({ t with vm := first.vm } : State) L k n
def iv_Met (l : Launch) (y : MethodName) (ws : List Cond) (rm : Room) (Pc : Array Value → State → Prop) (Qc : Array Value → State → Outcome → State → Prop) (mc ms : Nat) (free : Addr → Prop) : Prop :=
  MetFree l y (headSpec ws rm) Pc (fun _ _ _ _ _ => True) (fun a st o t => Qc a st o t ∧ ∃ L, iv_FE st t L mc ms ∧ ∀ q ∈ L, free q.base)
def iv_MQ (below : List Frame) (Qc : Array Value → State → Outcome → State → Prop) (a : Array Value) (s : State) (mc ms : Nat) (free : Addr → Prop) : State → Prop := fun t =>
  ∃ o, t.status = .running ∧ Ended t below o ∧ Qc a s o t ∧ ∃ L, iv_FE s t L mc ms ∧ ∀ q ∈ L, free q.base
theorem iv_MQ.of {Qc : Array Value → State → Outcome → State → Prop} {a : Array Value} {mc ms : Nat} {free : Addr → Prop} (t : State) (h : MQ below Qc a s mc ms free t) : iv_MQ below Qc a s mc ms free t := by
  obtain ⟨o, h1, h2, h3, L, ⟨-, h4⟩, h5⟩ := h
  exact ⟨o, h1, h2, h3, L, h4, h5⟩
theorem iv_mono {Q' : State → Prop} {g : JFrame} (h : ∀ t, Q t → Q' t) (k : W p l e R s m args below meth c H locs cells slots Q g) : W p l e R s m args below meth c H locs cells slots Q' g := fun T hT X => by
  obtain ⟨t, a, b⟩ := k T hT X
  exact ⟨t, a, h t b⟩
/-- a contract out of a walk -/
theorem iv_Met.ofW {y : MethodName} {ws : List Cond} {rm : Room} {Pc : Array Value → State → Prop} {Qc : Array Value → State → Outcome → State → Prop} {mc ms : Nat} {free : Addr → Prop} {cc : ByteArray} {maxL : Nat} {ret : Option FieldType} {hh : List (Nat × Nat × Nat × Nat)}
    (hy : plainFor y = true) (hcw : ∀ (a : Array Value) (U : State), (headSpec ws rm).pre.before a U = true → (Cond.codeWith y cc maxL ret hh).before a U = true)
    (body : ∀ p e s m args below meth c s₁, BodyLoose p l y (headSpec ws rm) cc maxL ret e s m args below meth c s₁ → c.maxLocals = maxL → Pc args s →
      W p l e (headSpec ws rm).room s m args below meth c s.heap [] 0 0 (iv_MQ below Qc args s mc ms free) (entryFrame m args maxL)) : iv_Met l y ws rm Pc Qc mc ms free := by
  refine MetFree.of_bodySF (code := cc) (maxLocals := maxL) (ret := ret) hy ?_ ?_
  · intro a U mk h hn
    obtain ⟨m9, me, cd, hn9, h1, h2, h3, h4, -, h5, h6, -⟩ := Cond.codeWith_spec (hcw a U h)
    cases hn.symm.trans hn9
    exact ⟨me, cd, h1, h2, h3, h4, h5, h6⟩
  · intro p e s m args below meth c s₁ B hml hP _
    have hh0 : s₁.heap = s.heap := by rw [B.state]; rfl
    obtain ⟨t, a1, o, b1, b2, b3⟩ := body p e s m args below meth c s₁ B hml hP s₁ hh0 (Stand.of_body B)
    exact ⟨t, o, a1, b1, b2, b3⟩
/-- what the code's word says -/
theorem iv_cwS {y : MethodName} {cc : ByteArray} {maxL : Nat} {ret : Option FieldType} {hh : List (Nat × Nat × Nat × Nat)} {a : Array Value} {U : State} {mk : MethodId} (h : (Cond.codeWith y cc maxL ret hh).before a U = true) (hn : U.methodNamed? y = some mk) :
    ∃ (me : Method) (cd : Code), U.vm.method? mk = some me ∧ me.code = some cd ∧ cd.code = cc ∧ cd.maxLocals = maxL ∧ me.sig.returnType = ret ∧ me.locks = false ∧ cd.exceptionTable.toList = tableOf hh ∧ parseMethodDescriptor y.desc = some me.sig := by
  obtain ⟨m', me, cd, h1, h2, h3, h4, h5, h6, h7, h8, h9⟩ := Cond.codeWith_spec h
  cases hn.symm.trans h1
  exact ⟨me, cd, h2, h3, h4, h5, h7, h8, by rw [← h6, table_eq], h9⟩
/-- the payer: the callee has returned, or it has thrown -/
theorem iv_back {y : MethodName} {ws : List Cond} {rm : Room} {Pc : Array Value → State → Prop} {Qc : Array Value → State → Outcome → State → Prop} {mc ms len Wd maxL : Nat} {free : Addr → Prop} {cc : ByteArray} {ret : Option FieldType} {hh : List (Nat × Nat × Nat × Nat)}
    (hM : iv_Met l y ws rm Pc Qc mc ms free) (hblind : FrameBlind Pc) (hrc : rm.cells = mc) (hrs : rm.slots = ms) (hframes : rm.frames + 1 ≤ R.frames) (hlocals : Wd + (maxL + 11) + rm.locals ≤ R.locals)
    (hws : ∀ w ∈ ws, ∀ (a' : Array Value) (U : State), s.WarmedH U.vm → w.before a' U = true) (hcw : ∀ (a' : Array Value) (U : State), s.WarmedH U.vm → (Cond.codeWith y cc maxL ret hh).before a' U = true)
    (hinit : ∀ (a' : Array Value) (U : State), s.WarmedH U.vm → (Cond.initialized y.cls).before a' U = true)
    {U : State} {Ls : List Loc} {c0 s0 : Nat} {g : JFrame} {ig : Instr} {mk : MethodId} {a : Array Value}
    (X : Stand p l e R s m args below meth c U Ls c0 s0) (hg : g.method = m) (hsize : g.locals.size = c.maxLocals) (hdg : decode c.code g.pc = .ok (ig, len)) (hW : 2 * g.monitorRoom + (g.stack.map fun v => v.category).sum ≤ Wd) (hn : U.methodNamed? y = some mk)
    (h4 : c0 + mc ≤ R.cells) (h5 : s0 + ms ≤ R.slots) (hp : Pc a U) :
    ∃ (o : Outcome) (t T' : State) (L : List Loc), Qc a (U.calling g mk a) o t ∧ (∀ q ∈ L, free q.base) ∧ T'.heap = t.heap ∧ T'.vm = t.vm ∧ Stand p l e R s m args below meth c T' (Ls ++ L) (c0 + mc) (s0 + ms) ∧
      ((∃ v, o = .returned v ∧ Steps p.tables e below (doInvoke e (U.setTop g) [] mk a).1 (T'.setTop { g with pc := g.pc + len, stack := v.toList ++ g.stack })) ∨
       ∃ x, o = .threw x ∧ Steps p.tables e below (doInvoke e (U.setTop g) [] mk a).1 ((T'.setTop g).pushFrame (.throwing x))) := by
  obtain ⟨methY, cY, hmY, hcY, -, hlY, -⟩ := iv_cwS (hcw a U X.warmed) hn
  obtain ⟨kY, hkY, -⟩ := className_of_methodNamed hn
  have hinitY : kY.init = .initialized := Cond.initialized_spec (findClass_of_methodNamed hn) hkY (hinit a U X.warmed)
  have h : At U g.method c below := by rw [hg]; exact X.here
  have happ : (headSpec ws rm).appliesLoose y e.platform (U.calling g mk a) = true :=
    Spec.appliesLoose_calling (g := g) h hdg hn hkY hinitY
      (X.room_calling (g := g) (R' := (headSpec ws rm).room) hsize hmY hcY hframes (by rw [hlY]; show _ + _ + (maxL + 11) + rm.locals ≤ _; omega) (by show c0 + rm.cells ≤ _; omega) (by show s0 + rm.slots ≤ _; omega))
      (atoms_intro fun w hw => hws w hw _ _ X.warmed)
  obtain ⟨mid, hmid⟩ := h.above
  have hfr : (U.setTop g).frames = (.java g :: mid) ++ below := by rw [State.frames_setTop' g h.top, hmid]; rfl
  obtain ⟨o, s₂, hsteps, -, hend, hq, L, ⟨hW₂, e2, q2, q3, q4, q5, q6⟩, hL⟩ := Steps.callFree hM p X.admits X.cas X.clock (acts := []) hfr happ (hblind _ _ _ _ hp) trivial
  rw [State.frames_setTop' g h.top] at hend
  have e3 : s₂ = ({ (U.calling g mk a).setFrames s₂.frames with heap := s₂.heap, slotsUsed := s₂.slotsUsed } : State).setVm s₂.vm := by
    have : s₂ = ({ s₂ with vm := (U.calling g mk a).vm } : State).setVm s₂.vm := rfl
    rw [show ({ s₂ with vm := (U.calling g mk a).vm } : State) = _ from e2] at this
    exact this
  have hW' : U.WarmedH s₂.vm := hW₂
  obtain ⟨g₀, hg0⟩ := Option.isSome_iff_exists.mp h.top
  obtain ⟨r, hr⟩ := State.topJava?_eq_some.mp hg0
  have hr' : (({ U with heap := s₂.heap, slotsUsed := s₂.slotsUsed } : State).setVm s₂.vm).frames = .java g₀ :: r := hr
  have hsame : U.sameButNew ({ U with heap := s₂.heap, slotsUsed := s₂.slotsUsed } : State) L mc ms := by
    refine ⟨?_, q2, q3, q4, q5, q6⟩
    obtain ⟨t, ht, -⟩ := State.frames_cons hr
    show ({ U with heap := s₂.heap, slotsUsed := s₂.slotsUsed } : State) = { U.setFrames U.frames with heap := s₂.heap, slotsUsed := s₂.slotsUsed }
    rw [State.setFrames_self ht]
  refine ⟨o, s₂, (({ U with heap := s₂.heap, slotsUsed := s₂.slotsUsed } : State).setVm s₂.vm), L, hq, hL, rfl, rfl,
    ⟨X.admits, X.cas, X.clock, X.frames, X.room, X.hears, X.method, X.code, (X.here.setHeapUsed s₂.heap s₂.slotsUsed).setVm hW'.alike, X.tail, State.WarmedH.trans X.warmed hW', X.limits, X.bytes, X.same.trans (hsame.setVm s.vm)⟩, ?_⟩
  cases o with
  | returned v =>
    refine Or.inl ⟨v, rfl, ?_⟩
    obtain ⟨c₂, i₂, len₂, hc₂, hd₂, hf₂⟩ := hend
    have hcc : c₂ = c := by
      have h1 : s₂.code? g.method = U.code? g.method := by
        rw [State.code?_eq, State.code?_eq, hW'.alike.method?]
      exact Option.some.inj (hc₂.symm.trans (h1.trans h.code))
    subst hcc
    have hlen : len₂ = len := by rw [hdg] at hd₂; cases hd₂; rfl
    subst hlen
    have hs₂ : s₂ = (({ U with heap := s₂.heap, slotsUsed := s₂.slotsUsed } : State).setVm s₂.vm).setTop { g with pc := g.pc + len₂, stack := v.toList ++ g.stack } := by
      refine e3.trans ?_
      rw [hf₂, State.calling_eq h.top, State.setFrames_setFrames, State.setTop_of_frames _ hr', hr]
      rfl
    rw [← hs₂]
    exact hsteps
  | threw x =>
    refine Or.inr ⟨x, rfl, ?_⟩
    have hf₂ : s₂.frames = .throwing x :: .java g :: U.frames.tail := hend
    have hs₂ : s₂ = ((({ U with heap := s₂.heap, slotsUsed := s₂.slotsUsed } : State).setVm s₂.vm).setTop g).pushFrame (.throwing x) := by
      refine e3.trans ?_
      rw [hf₂, State.calling_eq h.top, State.setFrames_setFrames, State.pushFrame, State.frames_setTop _ hr', State.setTop_of_frames _ hr', State.setFrames_setFrames, hr]
      rfl
    rw [← hs₂]
    exact hsteps
/-- what is known behind a call -/
def iv_Res (p : Program) (l : Launch) (e : Env) (R : Room) (s : State) (m : MethodId) (args : Array Value) (below : List Frame) (meth : Method) (c : Code) (T : State) (locs : List Loc) (cells slots mc ms : Nat) (g : JFrame) (rest : List Value) (Qa : State → Outcome → State → Prop) (free : Addr → Prop) : Prop :=
  ∃ (o : Outcome) (st₀ t T' : State) (L : List Loc), st₀.heap = T.heap ∧ Qa st₀ o t ∧ (∀ q ∈ L, free q.base) ∧ T'.heap = t.heap ∧ T'.vm = t.vm ∧ Stand p l e R s m args below meth c T' (locs ++ L) (cells + mc) (slots + ms) ∧
    ((∃ v, o = .returned v ∧ ∀ target, Steps p.tables e below (T'.setTop { g with pc := g.pc + 3, stack := v.toList ++ rest }) target → Steps p.tables e below (T.setTop g) target) ∨
     ∃ x, o = .threw x ∧ ∀ target, Steps p.tables e below ((T'.setTop { g with stack := rest }).pushFrame (.throwing x)) target → Steps p.tables e below (T.setTop g) target)
theorem iv_tail {y : MethodName} {ws : List Cond} {rm : Room} {Pc : Array Value → State → Prop} {Qc : Array Value → State → Outcome → State → Prop} {mc ms maxL : Nat} {free : Addr → Prop} {cc : ByteArray} {ret : Option FieldType} {hh : List (Nat × Nat × Nat × Nat)}
    (hM : iv_Met l y ws rm Pc Qc mc ms free) (hblind : FrameBlind Pc) (hrc : rm.cells = mc) (hrs : rm.slots = ms) (hframes : rm.frames + 1 ≤ R.frames) (hlocals : 8 + (maxL + 11) + rm.locals ≤ R.locals)
    (hws : ∀ w ∈ ws, ∀ (a' : Array Value) (U : State), s.WarmedH U.vm → w.before a' U = true) (hcw : ∀ (a' : Array Value) (U : State), s.WarmedH U.vm → (Cond.codeWith y cc maxL ret hh).before a' U = true)
    (hinit : ∀ (a' : Array Value) (U : State), s.WarmedH U.vm → (Cond.initialized y.cls).before a' U = true)
    {T : State} {g : JFrame} {ig : Instr} {mk : MethodId} {a : Array Value} {vm₁ : Vm} {rest : List Value}
    (X : Stand p l e R s m args below meth c (T.setVm vm₁) locs cells slots) (hg : g.method = m) (hsize : g.locals.size = c.maxLocals) (hdg : decode c.code g.pc = .ok (ig, 3)) (hW : 2 * g.monitorRoom + (rest.map fun v => v.category).sum ≤ 8) (hn : s.methodNamed? y = some mk)
    (h4 : cells + mc ≤ R.cells) (h5 : slots + ms ≤ R.slots) (hp : ∀ U : State, U.heap = T.heap → s.WarmedH U.vm → Pc a U)
    (hst : ∀ target, (∀ acts, Steps p.tables e below (doInvoke e ((T.setVm vm₁).setTop { g with stack := rest }) acts mk a).1 target) → Steps p.tables e below (T.setTop g) target) :
    iv_Res p l e R s m args below meth c T locs cells slots mc ms g rest (Qc a) free := by
  obtain ⟨o, t, T', L, h1, h2, h3, h3', h4', h5'⟩ := iv_back (g := { g with stack := rest }) (ig := ig) (len := 3) (Wd := 8) hM hblind hrc hrs hframes hlocals hws hcw hinit X hg hsize hdg hW (X.named hn) h4 h5 (hp _ rfl X.warmed)
  refine ⟨o, _, t, T', L, ?_, h1, h2, h3, h3', h4', ?_⟩
  · rfl
  · rcases h5' with ⟨v, rfl, hs⟩ | ⟨x, rfl, hs⟩
    · exact Or.inl ⟨v, rfl, fun target k => hst _ fun acts => by rw [doInvoke_state]; exact hs.trans k⟩
    · exact Or.inr ⟨x, rfl, fun target k => hst _ fun acts => by rw [doInvoke_state]; exact hs.trans k⟩
end IvA
section IvB
variable {p : Program} {l : Launch} {e : Env} {R : Room} {s : State} {m : MethodId} {args : Array Value} {below : List Frame} {meth : Method} {c : Code} {H : Heap} {locs : List Loc} {cells slots : Nat} {Q : State → Prop}
variable {y : MethodName} {ws : List Cond} {rm : Room} {Pc : Array Value → State → Prop} {Qc : Array Value → State → Outcome → State → Prop} {mc ms maxL index : Nat} {free : Addr → Prop} {cc : ByteArray} {ret : Option FieldType} {hh : List (Nat × Nat × Nat × Nat)} {own host : String} {T : State} {g : JFrame} {As rest : List Value}
/-- what every call asks -/
abbrev iv_CB (l : Launch) (R : Room) (s : State) (args : Array Value) (y : MethodName) (ws : List Cond) (rm : Room) (Pc : Array Value → State → Prop) (Qc : Array Value → State → Outcome → State → Prop) (mc ms maxL : Nat) (free : Addr → Prop) (cc : ByteArray) (ret : Option FieldType) (hh : List (Nat × Nat × Nat × Nat)) : Prop :=
  iv_Met l y ws rm Pc Qc mc ms free ∧ FrameBlind Pc ∧ rm.cells = mc ∧ rm.slots = ms ∧ rm.frames + 1 ≤ R.frames ∧ 8 + (maxL + 11) + rm.locals ≤ R.locals ∧
  (∀ w ∈ ws, ∀ (a' : Array Value) (U : State), s.WarmedH U.vm → w.before a' U = true) ∧ (∀ (a' : Array Value) (U : State), s.WarmedH U.vm → (Cond.codeWith y cc maxL ret hh).before a' U = true) ∧
  (∀ (a' : Array Value) (U : State), s.WarmedH U.vm → (Cond.initialized y.cls).before a' U = true) ∧ (y.cls ≠ "java/lang/invoke/MethodHandle" ∧ y.cls ≠ "java/lang/invoke/VarHandle")
theorem iv_selfW (s : State) : s.WarmedH s.vm := State.WarmedH.refl s
theorem iv_callV (hx : p.tables.exec = Jvm.exec) (hb : iv_CB l R s args y ws rm Pc Qc mc ms maxL free cc ret hh) (hown : s.vm.findClass own = some m.cls)
    (hlink : (Cond.methodLink own index y).before args s = true ∨ (Cond.methodLinkNest own index y host).before args s = true) (hinst : (Cond.instanceMethod y).before args s = true) (hsel : (Cond.selects y.cls y y).before args s = true)
    (X : Stand p l e R s m args below meth c T locs cells slots) {b : Addr} {cellB : Cell} (hcell : T.heap[b]? = some cellB) (hobj : cellB.vm.isStatics = false) (hcls : s.vm.findClass y.cls = some cellB.cls)
    (hg : g.method = m) (hsize : g.locals.size = c.maxLocals) (hlen : (parseMethodDescriptor y.desc).map (fun d => d.parameters.length) = some As.length) (hstack : g.stack = As.reverse ++ .ref b :: rest) (hW : 2 * g.monitorRoom + (rest.map fun v => v.category).sum ≤ 8)
    (hdg : decode c.code g.pc = .ok (.invokevirtual index, 3)) (h4 : cells + mc ≤ R.cells) (h5 : slots + ms ≤ R.slots) (hp : ∀ U : State, U.heap = T.heap → s.WarmedH U.vm → Pc (Value.ref b :: As).toArray U) :
    iv_Res p l e R s m args below meth c T locs cells slots mc ms g rest (Qc (Value.ref b :: As).toArray) free := by
  obtain ⟨hM, hbl, hrc, hrs, hfr, hlo, hws, hcw, hini, hy⟩ := hb
  obtain ⟨mk, methM, hnamed, hmethM, hstM, habM⟩ := Cond.instanceMethod_spec hinst
  obtain ⟨methM', cM, hmethM', -, -, -, -, -, -, hsigM⟩ := iv_cwS (hcw args s (iv_selfW s)) hnamed
  cases hmethM.symm.trans hmethM'
  have hlen' : As.length = methM.sig.parameters.length := by rw [hsigM] at hlen; exact (Option.some.inj hlen).symm
  obtain ⟨c2, r2, m2, q1, q2, q3, q4, kP, hkP, hkPi⟩ := Cond.selects_spec hsel
  cases hcls.symm.trans q1
  cases (State.methodFound?_of_named hnamed hy).symm.trans q2
  cases hnamed.symm.trans q3
  have hselP : selectMethod e.platform s.vm cellB.cls mk = .method mk := by rw [Launch.admits_selectMethod X.admits]; exact q4
  have hob : ∀ z, cellB.vm ≠ .statics z := fun z h => by rw [h] at hobj; cases hobj
  rcases hlink with hl | hl
  · obtain ⟨vm₁, X₁, hst⟩ := X.invokevirtual hx hown hl hnamed hmethM hstM hkP hkPi hy (a := b) (cell := cellB) hcell hob hselP hmethM habM hkP hkPi (g := g) hg (argsL := As) (rest := rest) hlen' hstack hdg
    exact iv_tail hM hbl hrc hrs hfr hlo hws hcw hini X₁ hg hsize hdg hW hnamed h4 h5 hp hst
  · obtain ⟨vm₁, X₁, hst⟩ := X.invokevirtualNest hx hown hl hnamed hmethM hstM hkP hkPi hy (a := b) (cell := cellB) hcell hob hselP hmethM habM hkP hkPi (g := g) hg (argsL := As) (rest := rest) hlen' hstack hdg
    exact iv_tail hM hbl hrc hrs hfr hlo hws hcw hini X₁ hg hsize hdg hW hnamed h4 h5 hp hst
theorem iv_callS (hx : p.tables.exec = Jvm.exec) (hb : iv_CB l R s args y ws rm Pc Qc mc ms maxL free cc ret hh) (hown : s.vm.findClass own = some m.cls)
    (hlink : (Cond.methodLink own index y).before args s = true ∨ (Cond.methodLinkNest own index y host).before args s = true) (hstat : (Cond.static y).before args s = true)
    (X : Stand p l e R s m args below meth c T locs cells slots)
    (hg : g.method = m) (hsize : g.locals.size = c.maxLocals) (hlen : (parseMethodDescriptor y.desc).map (fun d => d.parameters.length) = some As.length) (hstack : g.stack = As.reverse ++ rest) (hW : 2 * g.monitorRoom + (rest.map fun v => v.category).sum ≤ 8)
    (hdg : decode c.code g.pc = .ok (.invokestatic index, 3)) (h4 : cells + mc ≤ R.cells) (h5 : slots + ms ≤ R.slots) (hp : ∀ U : State, U.heap = T.heap → s.WarmedH U.vm → Pc As.toArray U) :
    iv_Res p l e R s m args below meth c T locs cells slots mc ms g rest (Qc As.toArray) free := by
  obtain ⟨hM, hbl, hrc, hrs, hfr, hlo, hws, hcw, hini, hy⟩ := hb
  obtain ⟨mk, methM0, cM0, hnamed, -⟩ := Cond.codeWith_spec (hcw args s (iv_selfW s))
  obtain ⟨methM, cM, hmethM, -, -, -, -, -, -, hsigM⟩ := iv_cwS (hcw args s (iv_selfW s)) hnamed
  have hlen' : As.length = methM.sig.parameters.length := by rw [hsigM] at hlen; exact (Option.some.inj hlen).symm
  have hstatic : methM.isStatic = true := Cond.static_spec hnamed hmethM hstat
  obtain ⟨kP, hkP, -⟩ := className_of_methodNamed hnamed
  have hinitP : kP.init = .initialized := Cond.initialized_spec (findClass_of_methodNamed hnamed) hkP (hini args s (iv_selfW s))
  rcases hlink with hl | hl
  · obtain ⟨vm₁, X₁, hst⟩ := X.invokestatic hx hown hl hnamed hmethM hstatic hkP hinitP hy (g := g) hg (argsL := As) (rest := rest) hlen' hstack hdg
    exact iv_tail hM hbl hrc hrs hfr hlo hws hcw hini X₁ hg hsize hdg hW hnamed h4 h5 hp hst
  · obtain ⟨vm₁, X₁, hst⟩ := X.invokestaticNest hx hown hl hnamed hmethM hstatic hkP hinitP hy (g := g) hg (argsL := As) (rest := rest) hlen' hstack hdg
    exact iv_tail hM hbl hrc hrs hfr hlo hws hcw hini X₁ hg hsize hdg hW hnamed h4 h5 hp hst
theorem iv_callI (hx : p.tables.exec = Jvm.exec) (hb : iv_CB l R s args y ws rm Pc Qc mc ms maxL free cc none []) (hown : s.vm.findClass own = some m.cls) (hy1 : y.name = "<init>")
    (hlink : (Cond.methodLink own index y).before args s = true ∨ (Cond.methodLinkNest own index y host).before args s = true) (hinst : (Cond.instanceMethod y).before args s = true) (hcode : (Cond.code y cc maxL none).before args s = true)
    (X : Stand p l e R s m args below meth c T locs cells slots) {b : Addr}
    (hg : g.method = m) (hsize : g.locals.size = c.maxLocals) (hlen : (parseMethodDescriptor y.desc).map (fun d => d.parameters.length) = some As.length) (hstack : g.stack = As.reverse ++ .ref b :: rest) (hW : 2 * g.monitorRoom + (rest.map fun v => v.category).sum ≤ 8)
    (hdg : decode c.code g.pc = .ok (.invokespecial index, 3)) (h4 : cells + mc ≤ R.cells) (h5 : slots + ms ≤ R.slots) (hp : ∀ U : State, U.heap = T.heap → s.WarmedH U.vm → Pc (Value.ref b :: As).toArray U) :
    iv_Res p l e R s m args below meth c T locs cells slots mc ms g rest (Qc (Value.ref b :: As).toArray) free := by
  obtain ⟨hM, hbl, hrc, hrs, hfr, hlo, hws, hcw, hini, hy⟩ := hb
  subst hg
  have hpl : e.platform.magicAccessors = ({} : Platform).magicAccessors := by rw [X.admits.platform]
  have hlen' : ∀ sig, parseMethodDescriptor y.desc = some sig → As.length = sig.parameters.length := fun sig h => by rw [h] at hlen; exact (Option.some.inj hlen).symm
  rcases hlink with hl | hl
  · obtain ⟨mk, methM, cM, kP, vm₁, hnamed, hmethM, hcodeM, -, hlocalsM, -, hkP, -, hW₁, hst⟩ := Steps.initColdArgs (e := e) X.here hx X.warmed hpl hown hy1 hy hl hinst hcode (f := g) rfl hlen' hstack hdg
    exact iv_tail hM hbl hrc hrs hfr hlo hws hcw hini (X.noted hW₁) rfl hsize hdg hW hnamed h4 h5 hp hst
  · obtain ⟨mk, methM, cM, kP, vm₁, hnamed, hmethM, hcodeM, -, hlocalsM, -, hkP, -, hW₁, hst⟩ := Steps.initColdArgsNest (e := e) X.here hx X.warmed hpl hown hy1 hy hl hinst hcode (f := g) rfl hlen' hstack hdg
    exact iv_tail hM hbl hrc hrs hfr hlo hws hcw hini (X.noted hW₁) rfl hsize hdg hW hnamed h4 h5 hp hst
/-- the walk goes on behind a call, or where it throws -/
theorem iv_callW {pc : Nat} {ls : Array Slot} {st0 : List Value} {Qa : State → Outcome → State → Prop}
    (hr : ∀ T : State, T.heap = H → Stand p l e R s m args below meth c T locs cells slots → iv_Res p l e R s m args below meth c T locs cells slots mc ms (F0 m pc ls st0) rest Qa free)
    (kret : ∀ (v : Option Value) (st₀ t : State) (L : List Loc), st₀.heap = H → s.WarmedH t.vm → Qa st₀ (.returned v) t → (∀ q ∈ L, free q.base) → W p l e R s m args below meth c t.heap (locs ++ L) (cells + mc) (slots + ms) Q (F0 m (pc + 3) ls (v.toList ++ rest)))
    (kthr : ∀ (x : Addr) (st₀ t T' : State) (L : List Loc), st₀.heap = H → s.WarmedH t.vm → Qa st₀ (.threw x) t → (∀ q ∈ L, free q.base) → T'.heap = t.heap → Stand p l e R s m args below meth c T' (locs ++ L) (cells + mc) (slots + ms) →
      ∃ u, Steps p.tables e below ((T'.setTop (F0 m pc ls rest)).pushFrame (.throwing x)) u ∧ Q u) :
    W p l e R s m args below meth c H locs cells slots Q (F0 m pc ls st0) := by
  intro T hT X
  obtain ⟨o, st₀, t, T', L, h1, h2, h3, h4, h5, X', h6⟩ := hr T hT X
  have hw : s.WarmedH t.vm := by rw [← h5]; exact X'.warmed
  rcases h6 with ⟨v, rfl, hs⟩ | ⟨x, rfl, hs⟩
  · obtain ⟨u, a1, b1⟩ := kret v st₀ t L (h1.trans hT) hw h2 h3 T' h4 X'
    exact ⟨u, hs u a1, b1⟩
  · obtain ⟨u, a1, b1⟩ := kthr x st₀ t T' L (h1.trans hT) hw h2 h3 h4 X'
    exact ⟨u, hs u a1, b1⟩
end IvB
end
section
/-! A throw that a row of the method's own table catches (its class not yet resolved), a throw that leaves, 'throw new E()'. -/
def iv_pick (pc : Nat) (ok : Nat → Bool) : List (Nat × Nat × Nat × Nat) → Option Nat
  | [] => none
  | r :: t => bif decide (r.1 ≤ pc) && decide (pc < r.2.1) then (bif ok r.2.2.2 then some r.2.2.1 else iv_pick pc ok t) else iv_pick pc ok t
section IvC
variable {e : Env} {s₀ : State} {f : JFrame} {a : Addr} {cell : Cell} {ok : Nat → Bool} {h : Nat}
theorem iv_go (hobj : ∀ k, cell.vm ≠ .statics k) (hk0 : ∃ k, s₀.vm.classes[cell.cls]? = some k) :
    ∀ hh : List (Nat × Nat × Nat × Nat), (∀ r ∈ hh, r.2.2.2 ≠ 0 ∧ ∃ c, s₀.vm.ClassLinks e.platform f.method.cls r.2.2.2 c ∧ s₀.vm.assignable cell.cls c = ok r.2.2.2) → iv_pick f.pc ok hh = some h →
    ∀ S : State, s₀.WarmedH S.vm → S.heap[a]? = some cell →
      ∃ vm', s₀.WarmedH vm' ∧ ∀ (Q : Handler → Pre) (E : CtlPost) (d : Bool) (acts : List Action), wp (findHandler.go f a (tableOf hh)) Q E e d acts S ↔ Q (.found h) d acts (S.setVm vm') := by
  intro hh
  induction hh with
  | nil => intro _ hp; cases hp
  | cons r t ih =>
    intro hall hp S hW hcell
    obtain ⟨sp, ep, hd, ct⟩ := r
    obtain ⟨h0, c, hl, hok⟩ := hall _ (List.mem_cons_self ..)
    have ih' := ih (fun r hr => hall r (List.mem_cons_of_mem _ hr))
    have htab : tableOf ((sp, ep, hd, ct) :: t) = (⟨sp, ep, hd, ct⟩ : ExceptionTableEntry) :: tableOf t := rfl
    simp only [iv_pick] at hp
    cases hc : decide (sp ≤ f.pc) && decide (f.pc < ep) with
    | false =>
      rw [hc] at hp
      obtain ⟨vm', hW', hq⟩ := ih' hp S hW hcell
      refine ⟨vm', hW', fun Q E d acts => ?_⟩
      rw [htab, W.findHandler_go_skip (x := ⟨sp, ep, hd, ct⟩) hc]
      exact hq Q E d acts
    | true =>
      rw [hc] at hp
      obtain ⟨dk, _, _, kt, hdk, _, _, _, _, hkt, _, hopen⟩ := hl.here
      obtain ⟨kt', hkt', -⟩ := hW.alike.2.2 _ _ hkt
      obtain ⟨k0, hk0⟩ := hk0
      obtain ⟨k0', hk0', -⟩ := hW.alike.2.2 _ _ hk0
      have hl' := hW.classLinks hl
      obtain ⟨ha, ht⟩ := (resolveClass_links e.toSetting hl').op (op := VmOp.resolveClass f.method.cls ct) rfl
      have hal : S.vm.Alike (S.vm.noted f.method.cls ct (.cls c)) := (Vm.Alike.refl S.vm).noted _ _ _
      obtain ⟨k1', hk1', -⟩ := hal.2.2 _ _ hk0'
      obtain ⟨k2', hk2', -⟩ := hal.2.2 _ _ hkt'
      have hW2 : s₀.WarmedH (S.vm.noted f.method.cls ct (.cls c)) := hW.noted hdk hopen (State.rightAt_cls hl)
      have has : (S.vm.noted f.method.cls ct (.cls c)).assignable cell.cls c = ok ct := by rw [hW2.alike.assignable]; exact hok
      cases hb : ok ct with
      | true =>
        rw [hb] at hp has
        obtain rfl := Option.some.inj hp
        refine ⟨_, hW2, fun Q E d acts => ?_⟩
        rw [htab]
        simp [findHandler.go, hc, h0, ha, ht, hcell, hobj, hk1', hk2', has, VmOp.dirties, VmOp.acts]
      | false =>
        rw [hb] at hp has
        obtain ⟨vm', hW', hq⟩ := ih' hp (S.setVm (S.vm.noted f.method.cls ct (.cls c))) hW2 hcell
        refine ⟨vm', hW', fun Q E d acts => ?_⟩
        have h1 : wp (findHandler.go f a (tableOf ((sp, ep, hd, ct) :: t))) Q E e d acts S ↔ wp (findHandler.go f a (tableOf t)) Q E e d acts (S.setVm (S.vm.noted f.method.cls ct (.cls c))) := by
          rw [htab]
          simp [findHandler.go, hc, h0, ha, ht, hcell, hobj, hk1', hk2', has, VmOp.dirties, VmOp.acts]
        rw [h1]
        exact hq Q E d acts
theorem iv_stepT {s : State} {r : List Frame} {pc : Nat} {vm' : Vm} (hfind : ∀ (Q : Handler → Pre) (E : CtlPost) (d : Bool) (acts : List Action), wp (findHandler f a) Q E e d acts s ↔ Q (.found pc) d acts (s.setVm vm')) :
    (stepThrowing e s a (.java f :: r)).Is ((s.setVm vm').setFrames (.java { f with pc := pc, stack := [.ref a] } :: r)) [] := by
  simp only [stepThrowing, searchFrame, vmDo]
  generalize hr : Sem.go _ e false [] s = res
  obtain ⟨as, rfl, ha⟩ := Sem.eq_ok_of hr (a := Handler.found pc) (s' := s.setVm vm') (acts' := []) (by simp [hfind _ _ _ _])
  exact ⟨rfl, ha⟩
end IvC
section IvD
variable {p : Program} {l : Launch} {e : Env} {R : Room} {s : State} {m : MethodId} {args : Array Value} {below : List Frame} {meth : Method} {c : Code} {H : Heap} {locs : List Loc} {cells slots : Nat} {Q : State → Prop} {T : State} {pc : Nat} {ls : Array Slot} {rest : List Value}
theorem iv_catch (X : Stand p l e R s m args below meth c T locs cells slots) {x : Addr} {cell : Cell} {h : Nat} {ok : Nat → Bool} {hh : List (Nat × Nat × Nat × Nat)} (htab : c.exceptionTable.toList = tableOf hh) (hcell : T.heap[x]? = some cell) (hobj : cell.vm.isStatics = false) (hk0 : ∃ k, s.vm.classes[cell.cls]? = some k)
    (hall : ∀ r ∈ hh, r.2.2.2 ≠ 0 ∧ ∃ c, s.vm.ClassLinks e.platform m.cls r.2.2.2 c ∧ s.vm.assignable cell.cls c = ok r.2.2.2) (hp : iv_pick pc ok hh = some h)
    (k : W p l e R s m args below meth c T.heap locs cells slots Q (F0 m h ls [.ref x])) : ∃ u, Steps p.tables e below ((T.setTop (F0 m pc ls rest)).pushFrame (.throwing x)) u ∧ Q u := by
  obtain ⟨vm', hW', hf⟩ := iv_go (e := e) (f := F0 m pc ls rest) (a := x) (VmData.ne_statics_of hobj) hk0 hh hall hp ((T.setTop (F0 m pc ls rest)).pushFrame (.throwing x)) X.warmed hcell
  have hf2 : ∀ (Q : Handler → Pre) (E : CtlPost) (d : Bool) (acts : List Action), wp (findHandler (F0 m pc ls rest) x) Q E e d acts ((T.setTop (F0 m pc ls rest)).pushFrame (.throwing x)) ↔ Q (.found h) d acts (((T.setTop (F0 m pc ls rest)).pushFrame (.throwing x)).setVm vm') := by
    intro Q E d acts
    rw [W.findHandler_eq (meth := meth) (code := c) X.method' X.code, htab]
    exact hf Q E d acts
  obtain ⟨u, a1, b1⟩ := k (T.setVm vm') rfl (X.noted hW')
  refine ⟨u, ?_, b1⟩
  have hat : At T (F0 m pc ls rest).method c below := X.here
  obtain ⟨hgo, hw⟩ := hat.throwing x
  refine Steps.head hgo hw ?_
  rw [stepThread_throwing (frames_entered hat.top _), (iv_stepT (s := (T.setTop (F0 m pc ls rest)).pushFrame (.throwing x)) hf2).1]
  obtain ⟨g₀, hg⟩ := Option.isSome_iff_exists.mp hat.top
  obtain ⟨r, hr⟩ := State.topJava?_eq_some.mp hg
  have hr' : (T.setVm vm').frames = .java g₀ :: r := hr
  rw [State.setTop_of_frames _ hr'] at a1
  have hsv : ∀ (u : State) (F G : List Frame), ((u.setFrames F).setVm vm').setFrames G = (u.setVm vm').setFrames G := fun u F G => by
    have h1 : (u.setFrames F).setVm vm' = (u.setVm vm').setFrames F := rfl
    rw [h1, State.setFrames_setFrames]
  rw [hr, List.tail_cons, State.pushFrame, hsv, State.setTop_of_frames _ hr, hsv]
  exact a1
theorem iv_leave (X : Stand p l e R s m args below meth c T locs cells slots) {x : Addr} (hout : ∀ r ∈ c.exceptionTable.toList, covers r pc = false) (hlk : meth.locks = false)
    (k : ∀ u : State, u.heap = T.heap → u.status = .running → Ended u below (.threw x) → s.WarmedH u.vm → s.sameButNew ({ u with vm := s.vm } : State) locs cells slots → Q u) : ∃ u, Steps p.tables e below ((T.setTop (F0 m pc ls rest)).pushFrame (.throwing x)) u ∧ Q u := by
  obtain ⟨h1, h2, h3, h4, h5⟩ := X.leaveThrown x (g := F0 m pc ls rest) rfl rfl rfl hout hlk
  exact ⟨_, h1, k _ rfl h2 h3 h4 h5⟩
/-- the same point, told from a start that has the heap of now -/
theorem iv_reroot (X : Stand p l e R s m args below meth c T locs cells slots) (hc : cells ≤ R.cells) (hs : slots ≤ R.slots) :
    Stand p l e { R with cells := R.cells - cells, slots := R.slots - slots } ({ s with heap := T.heap, slotsUsed := T.slotsUsed } : State) m args below meth c T [] 0 0 := by
  have hsz := X.heapSize
  have hus := X.used
  refine ⟨X.admits, X.cas, X.clock, X.frames, ?_, X.hears, X.method, X.code, X.here, X.tail, X.warmed, X.limits, X.bytes, ?_⟩
  · have hr := X.room
    have hb := X.book
    simp only [State.hasRoom, Bool.and_eq_true, decide_eq_true_eq] at hr ⊢
    obtain ⟨⟨⟨⟨r1, r2⟩, r3⟩, r4⟩, r5⟩ := hr
    refine ⟨⟨⟨⟨r1, r2⟩, ?_⟩, ?_⟩, hb⟩
    · show T.heap.size + (R.cells - cells) ≤ _
      omega
    · show T.slotsUsed + (R.slots - slots) ≤ _
      omega
  · obtain ⟨e1, -⟩ := X.same
    have hdr : T.heap.toList.drop T.heap.size = [] := List.drop_eq_nil_of_le (by rw [Array.length_toList]; exact Nat.le_refl _)
    refine ⟨e1, Nat.le_refl _, Nat.le_refl _, ?_, ?_, fun a cl h => ⟨cl, h, rfl, rfl, fun _ _ => rfl⟩⟩
    · show T.slotsUsed = T.slotsUsed + ((T.heap.toList.drop T.heap.size).map (fun x : Cell => x.slots.size)).sum
      rw [hdr]
      rfl
    · show ((T.heap.toList.drop T.heap.size).map (fun x : Cell => x.slots.size)).sum ≤ 0
      rw [hdr]
      exact Nat.le_refl _
theorem iv_inst_mem (own : String) (ic : Nat) (cls : String) (names : List String) : Cond.instantiable cls 6 ∈ Bundle.ownAtoms0 own ic cls names := by
  unfold Bundle.ownAtoms0
  exact List.mem_append_right _ (List.mem_cons_of_mem _ (List.mem_cons_self ..))
set_option maxHeartbeats 4000000 in
theorem iv_throw {cc : ByteArray} {own cls : String} {names : List String} {ic idx : Nat} (hx : p.tables.exec = Jvm.exec) (hb : c.code = cc) (hsize : ls.size = c.maxLocals) (htr : l.admits e → e.platform.stackTraces = false) (hlk : meth.locks = false)
    (hown : s.vm.findClass own = some m.cls) (hcls : Bundle.fit cls = true) (hnames : ∀ n ∈ names, Bundle.fit n = true)
    (hat : ∀ U : State, U.vm = s.vm → U.heap = H → ∀ w ∈ Bundle.ownAtoms0 own ic cls names, w.before args U = true)
    (hcl : ∀ U : State, U.vm = s.vm → (Cond.classLink own idx cls).before args U = true ∧ (Cond.initialized cls).before args U = true)
    (hd0 : decode cc pc = .ok (.new idx, 3)) (hd3 : decode cc (pc + 3) = .ok (.dup, 1)) (hd4 : decode cc (pc + 4) = .ok (.invokespecial ic, 3)) (hd7 : decode cc (pc + 7) = .ok (.athrow, 1)) (hout : ∀ r ∈ c.exceptionTable.toList, covers r (pc + 7) = false)
    (hf : names.length + 3 < R.frames) (hlo : ((rest.map fun v => v.category).sum + 1) + (13 * (names.length + 1) + 41) ≤ R.locals) (hc1 : cells + 1 ≤ R.cells) (hs6 : slots + 6 ≤ R.slots)
    (kk : ∀ (U : State) (a : Addr) (ce : Cell), U.status = .running → Ended U below (.threw a) → s.WarmedH U.vm → s.sameButNew ({ U with vm := s.vm } : State) locs (cells + 1) (slots + 6) → H.size ≤ a → U.heap[a]? = some ce → s.vm.findClass cls = some ce.cls → ce.vm = .none → (∀ (q : Nat) (cq : Cell), H[q]? = some cq → U.heap[q]? = some cq) → Q U) :
    W p l e R s m args below meth c H locs cells slots Q (F0 m pc ls rest) := by
  intro T hT X
  subst hT
  have X' := iv_reroot X (by omega) (by omega)
  have hat' := hat ({ s with heap := T.heap, slotsUsed := T.slotsUsed } : State) rfl rfl
  have hcl' := hcl ({ s with heap := T.heap, slotsUsed := T.slotsUsed } : State) rfl
  have key : W p l e { R with cells := R.cells - cells, slots := R.slots - slots } ({ s with heap := T.heap, slotsUsed := T.slotsUsed } : State) m args below meth c T.heap [] 0 0
      (fun U => ∃ (ce : Cell), U.status = .running ∧ Ended U below (.threw T.heap.size) ∧ s.WarmedH U.vm ∧ State.sameButNew ({ s with heap := T.heap, slotsUsed := T.slotsUsed } : State) ({ U with vm := s.vm } : State) [] (0 + 1) (0 + 6) ∧ U.heap[T.heap.size]? = some ce ∧ s.vm.findClass cls = some ce.cls ∧ ce.vm = .none) (F0 m pc ls rest) := by
    refine W.newc (s := ({ s with heap := T.heap, slotsUsed := T.slotsUsed } : State)) (g := F0 m pc ls rest) hx hb hown hcl'.1 (hat' (.instantiable cls 6) (iv_inst_mem own ic cls names)) hcl'.2 rfl hd0 ?_ ?_ ?_
    · show 0 + 1 ≤ R.cells - cells
      omega
    · show 0 + 6 ≤ R.slots - slots
      omega
    intro cC kC h1 h2 h3 h4
    refine lv_dup hx hb hd3 rfl ?_
    intro T2 hT2 X2
    have hcell : T2.heap[T.heap.size]? = some (freshCell cC kC) := by rw [hT2]; simp
    obtain ⟨U, st, r1, r2, r3, r4, ce, r5, r6⟩ := X2.ctorThrow0 hx (htr X2.admits) hown hcls hnames hat' (fun x hx => by cases hx) h1 h2 hcell (Nat.le_refl _) (g := F0 m (pc + 4) ls (.ref T.heap.size :: .ref T.heap.size :: rest)) rfl hsize rfl rfl rfl (by rw [hb]; exact hd4) (by rw [hb]; exact hd7) hout hf (by show 2 * 0 + (1 + (rest.map fun v => v.category).sum) + (13 * (names.length + 1) + 41) ≤ R.locals; omega) hlk
    exact ⟨U, st, ce, r1, r2, r3, r4, r5, r6.cls, r6.vm⟩
  obtain ⟨U, st, ce, r1, r2, r3, r4, r5, r6, r7⟩ := key T rfl X'
  refine ⟨U, st, kk U T.heap.size ce r1 r2 r3 ?_ (Nat.le_refl _) r5 r6 r7 ?_⟩
  · have h2 : (T.setVm s.vm).sameButNew ({ U with vm := s.vm } : State) [] 1 6 := by
      obtain ⟨e1, e2⟩ := r4
      refine ⟨?_, e2⟩
      have e3 : T.setVm s.vm = { s.setFrames T.frames with heap := T.heap, slotsUsed := T.slotsUsed } := X.same.1
      rw [e3]
      refine e1.trans ?_
      show ({ s.setFrames U.frames with heap := U.heap, slotsUsed := U.slotsUsed } : State) = { (s.setFrames T.frames).setFrames U.frames with heap := U.heap, slotsUsed := U.slotsUsed }
      rw [State.setFrames_setFrames]
    have h3 := X.same.trans h2
    rw [List.append_nil] at h3
    exact h3
  · intro q cq hq
    obtain ⟨c', x1, x2, x3, x4⟩ := r4.2.2.2.2.2 q cq hq
    have hs : c'.slots = cq.slots := Array.ext_getElem? fun i => x4 i (by simp)
    have : c' = cq := by rw [x2, hs]
    rw [← this]
    exact x1
end IvD
end
