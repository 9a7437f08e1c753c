section
-- ===== PART A: goes FIRST, ahead of the names: the tables' words, and 'selects' of the private methods out of them =====
/-- a private method of a class that the tables say can be made, by its rows of tables_1 -/
def lw_okq (q : MethodName × Nat) : Prop := (q.1.cls ≠ "java/lang/invoke/MethodHandle" ∧ q.1.cls ≠ "java/lang/invoke/VarHandle") ∧ Cond.instantiable q.1.cls q.2 ∈ tables_1 ∧ Cond.privateMethod q.1 ∈ tables_1 ∧ Cond.instanceMethod q.1 ∈ tables_1
theorem lw_p0 : lw_okq (⟨"TripGuard$Channel", "judge", "(ILTripGuard$Journal;)V"⟩, 8) := ⟨⟨by decide +kernel, by decide +kernel⟩, List.mem_of_getElem? (i := 97) (by decide +kernel), List.mem_of_getElem? (i := 185) (by decide +kernel), List.mem_of_getElem? (i := 186) (by decide +kernel)⟩
theorem lw_p1 : lw_okq (⟨"TripGuard$Channel", "isWrong", "(IZ)Z"⟩, 8) := ⟨⟨by decide +kernel, by decide +kernel⟩, List.mem_of_getElem? (i := 97) (by decide +kernel), List.mem_of_getElem? (i := 189) (by decide +kernel), List.mem_of_getElem? (i := 190) (by decide +kernel)⟩
theorem lw_p2 : lw_okq (⟨"TripGuard$Channel", "moveBistable", "(IILTripGuard$Journal;)V"⟩, 8) := ⟨⟨by decide +kernel, by decide +kernel⟩, List.mem_of_getElem? (i := 97) (by decide +kernel), List.mem_of_getElem? (i := 206) (by decide +kernel), List.mem_of_getElem? (i := 207) (by decide +kernel)⟩
theorem lw_p3 : lw_okq (⟨"TripGuard$Channel", "isBeyond", "(I)Z"⟩, 8) := ⟨⟨by decide +kernel, by decide +kernel⟩, List.mem_of_getElem? (i := 97) (by decide +kernel), List.mem_of_getElem? (i := 210) (by decide +kernel), List.mem_of_getElem? (i := 211) (by decide +kernel)⟩
theorem lw_p4 : lw_okq (⟨"TripGuard$Channel", "isInside", "(I)Z"⟩, 8) := ⟨⟨by decide +kernel, by decide +kernel⟩, List.mem_of_getElem? (i := 97) (by decide +kernel), List.mem_of_getElem? (i := 227) (by decide +kernel), List.mem_of_getElem? (i := 228) (by decide +kernel)⟩
theorem lw_p5 : lw_okq (⟨"TripGuard", "receiveFrames", "(LTripGuard$Train;)V"⟩, 8) := ⟨⟨by decide +kernel, by decide +kernel⟩, List.mem_of_getElem? (i := 17) (by decide +kernel), List.mem_of_getElem? (i := 231) (by decide +kernel), List.mem_of_getElem? (i := 232) (by decide +kernel)⟩
theorem lw_p6 : lw_okq (⟨"TripGuard$Train", "countVotes", "(II)I"⟩, 4) := ⟨⟨by decide +kernel, by decide +kernel⟩, List.mem_of_getElem? (i := 129) (by decide +kernel), List.mem_of_getElem? (i := 260) (by decide +kernel), List.mem_of_getElem? (i := 261) (by decide +kernel)⟩
theorem lw_p7 : lw_okq (⟨"TripGuard$Train", "latch", "(LTripGuard$Journal;)V"⟩, 4) := ⟨⟨by decide +kernel, by decide +kernel⟩, List.mem_of_getElem? (i := 129) (by decide +kernel), List.mem_of_getElem? (i := 265) (by decide +kernel), List.mem_of_getElem? (i := 266) (by decide +kernel)⟩
theorem lw_p8 : lw_okq (⟨"TripGuard", "endTrial", "()V"⟩, 8) := ⟨⟨by decide +kernel, by decide +kernel⟩, List.mem_of_getElem? (i := 17) (by decide +kernel), List.mem_of_getElem? (i := 271) (by decide +kernel), List.mem_of_getElem? (i := 272) (by decide +kernel)⟩
theorem lw_p9 : lw_okq (⟨"TripGuard", "sendFrames", "()V"⟩, 8) := ⟨⟨by decide +kernel, by decide +kernel⟩, List.mem_of_getElem? (i := 17) (by decide +kernel), List.mem_of_getElem? (i := 283) (by decide +kernel), List.mem_of_getElem? (i := 284) (by decide +kernel)⟩
theorem lw_p10 : lw_okq (⟨"java/lang/Throwable", "fillInStackTrace", "(I)Ljava/lang/Throwable;"⟩, 6) := ⟨⟨by decide +kernel, by decide +kernel⟩, List.mem_of_getElem? (i := 351) (by decide +kernel), List.mem_of_getElem? (i := 349) (by decide +kernel), List.mem_of_getElem? (i := 350) (by decide +kernel)⟩
theorem lw_p11 : lw_okq (⟨"TripGuardModel", "limitOf", "(II)I"⟩, 30) := ⟨⟨by decide +kernel, by decide +kernel⟩, List.mem_of_getElem? (i := 523) (by decide +kernel), List.mem_of_getElem? (i := 636) (by decide +kernel), List.mem_of_getElem? (i := 637) (by decide +kernel)⟩
theorem lw_p12 : lw_okq (⟨"TripGuardModel", "look", "(II)V"⟩, 30) := ⟨⟨by decide +kernel, by decide +kernel⟩, List.mem_of_getElem? (i := 523) (by decide +kernel), List.mem_of_getElem? (i := 648) (by decide +kernel), List.mem_of_getElem? (i := 649) (by decide +kernel)⟩
theorem lw_p13 : lw_okq (⟨"TripGuardModel", "isWrong", "(I)Z"⟩, 30) := ⟨⟨by decide +kernel, by decide +kernel⟩, List.mem_of_getElem? (i := 523) (by decide +kernel), List.mem_of_getElem? (i := 652) (by decide +kernel), List.mem_of_getElem? (i := 653) (by decide +kernel)⟩
theorem lw_p14 : lw_okq (⟨"TripGuardModel", "note", "(III)V"⟩, 30) := ⟨⟨by decide +kernel, by decide +kernel⟩, List.mem_of_getElem? (i := 523) (by decide +kernel), List.mem_of_getElem? (i := 659) (by decide +kernel), List.mem_of_getElem? (i := 660) (by decide +kernel)⟩
theorem lw_p15 : lw_okq (⟨"TripGuardModel", "isSet", "(II)Z"⟩, 30) := ⟨⟨by decide +kernel, by decide +kernel⟩, List.mem_of_getElem? (i := 523) (by decide +kernel), List.mem_of_getElem? (i := 663) (by decide +kernel), List.mem_of_getElem? (i := 664) (by decide +kernel)⟩
def lw_privs_1 : List (MethodName × Nat) := [(⟨"TripGuard$Channel", "judge", "(ILTripGuard$Journal;)V"⟩, 8), (⟨"TripGuard$Channel", "isWrong", "(IZ)Z"⟩, 8), (⟨"TripGuard$Channel", "moveBistable", "(IILTripGuard$Journal;)V"⟩, 8), (⟨"TripGuard$Channel", "isBeyond", "(I)Z"⟩, 8), (⟨"TripGuard$Channel", "isInside", "(I)Z"⟩, 8), (⟨"TripGuard", "receiveFrames", "(LTripGuard$Train;)V"⟩, 8), (⟨"TripGuard$Train", "countVotes", "(II)I"⟩, 4), (⟨"TripGuard$Train", "latch", "(LTripGuard$Journal;)V"⟩, 4), (⟨"TripGuard", "endTrial", "()V"⟩, 8), (⟨"TripGuard", "sendFrames", "()V"⟩, 8), (⟨"java/lang/Throwable", "fillInStackTrace", "(I)Ljava/lang/Throwable;"⟩, 6), (⟨"TripGuardModel", "limitOf", "(II)I"⟩, 30), (⟨"TripGuardModel", "look", "(II)V"⟩, 30), (⟨"TripGuardModel", "isWrong", "(I)Z"⟩, 30), (⟨"TripGuardModel", "note", "(III)V"⟩, 30), (⟨"TripGuardModel", "isSet", "(II)Z"⟩, 30)]
theorem lw_r1 : ∀ q ∈ lw_privs_1, lw_okq q := List.forall_mem_cons.mpr ⟨lw_p0, List.forall_mem_cons.mpr ⟨lw_p1, List.forall_mem_cons.mpr ⟨lw_p2, List.forall_mem_cons.mpr ⟨lw_p3, List.forall_mem_cons.mpr ⟨lw_p4, List.forall_mem_cons.mpr ⟨lw_p5, List.forall_mem_cons.mpr ⟨lw_p6, List.forall_mem_cons.mpr ⟨lw_p7, List.forall_mem_cons.mpr ⟨lw_p8, List.forall_mem_cons.mpr ⟨lw_p9, List.forall_mem_cons.mpr ⟨lw_p10, List.forall_mem_cons.mpr ⟨lw_p11, List.forall_mem_cons.mpr ⟨lw_p12, List.forall_mem_cons.mpr ⟨lw_p13, List.forall_mem_cons.mpr ⟨lw_p14, List.forall_mem_cons.mpr ⟨lw_p15, fun _ h => absurd h List.not_mem_nil⟩⟩⟩⟩⟩⟩⟩⟩⟩⟩⟩⟩⟩⟩⟩⟩
theorem lw_p16 : lw_okq (⟨"TripGuardModel", "hear", "(II)V"⟩, 30) := ⟨⟨by decide +kernel, by decide +kernel⟩, List.mem_of_getElem? (i := 523) (by decide +kernel), List.mem_of_getElem? (i := 667) (by decide +kernel), List.mem_of_getElem? (i := 668) (by decide +kernel)⟩
theorem lw_p17 : lw_okq (⟨"TripGuardModel", "vote", "(I)V"⟩, 30) := ⟨⟨by decide +kernel, by decide +kernel⟩, List.mem_of_getElem? (i := 523) (by decide +kernel), List.mem_of_getElem? (i := 674) (by decide +kernel), List.mem_of_getElem? (i := 675) (by decide +kernel)⟩
theorem lw_p18 : lw_okq (⟨"TripGuardModel", "endTest", "()V"⟩, 30) := ⟨⟨by decide +kernel, by decide +kernel⟩, List.mem_of_getElem? (i := 523) (by decide +kernel), List.mem_of_getElem? (i := 678) (by decide +kernel), List.mem_of_getElem? (i := 679) (by decide +kernel)⟩
theorem lw_p19 : lw_okq (⟨"TripGuardModel", "setBits", "(I)I"⟩, 30) := ⟨⟨by decide +kernel, by decide +kernel⟩, List.mem_of_getElem? (i := 523) (by decide +kernel), List.mem_of_getElem? (i := 682) (by decide +kernel), List.mem_of_getElem? (i := 683) (by decide +kernel)⟩
theorem lw_p20 : lw_okq (⟨"TripGuardModel", "wrongBits", "(I)I"⟩, 30) := ⟨⟨by decide +kernel, by decide +kernel⟩, List.mem_of_getElem? (i := 523) (by decide +kernel), List.mem_of_getElem? (i := 686) (by decide +kernel), List.mem_of_getElem? (i := 687) (by decide +kernel)⟩
theorem lw_p21 : lw_okq (⟨"TripGuardModel", "emit", "(III)V"⟩, 30) := ⟨⟨by decide +kernel, by decide +kernel⟩, List.mem_of_getElem? (i := 523) (by decide +kernel), List.mem_of_getElem? (i := 690) (by decide +kernel), List.mem_of_getElem? (i := 691) (by decide +kernel)⟩
def lw_privs_2 : List (MethodName × Nat) := [(⟨"TripGuardModel", "hear", "(II)V"⟩, 30), (⟨"TripGuardModel", "vote", "(I)V"⟩, 30), (⟨"TripGuardModel", "endTest", "()V"⟩, 30), (⟨"TripGuardModel", "setBits", "(I)I"⟩, 30), (⟨"TripGuardModel", "wrongBits", "(I)I"⟩, 30), (⟨"TripGuardModel", "emit", "(III)V"⟩, 30)]
theorem lw_r2 : ∀ q ∈ lw_privs_2, lw_okq q := List.forall_mem_cons.mpr ⟨lw_p16, List.forall_mem_cons.mpr ⟨lw_p17, List.forall_mem_cons.mpr ⟨lw_p18, List.forall_mem_cons.mpr ⟨lw_p19, List.forall_mem_cons.mpr ⟨lw_p20, List.forall_mem_cons.mpr ⟨lw_p21, fun _ h => absurd h List.not_mem_nil⟩⟩⟩⟩⟩⟩
def lw_privs : List (MethodName × Nat) := lw_privs_1 ++ (lw_privs_2)
def lw_tbl : List Cond := k2_sels lw_privs ++ tables_1
theorem lw_privs_ok : ∀ q ∈ lw_privs, lw_okq q := by
  show ∀ q ∈ lw_privs_1 ++ (lw_privs_2), lw_okq q
  exact List.forall_mem_append.mpr ⟨lw_r1, lw_r2⟩
end
section
/-! Contracts whose end may be a throw: the form, the payer, the three calls, the throw, the catch. -/
section IvA
variable {p : Program} {l : Launch} {e : Env} {R : Room} {s : State} {m : MethodId} {args : Array Value} {below : List Frame} {meth : Method} {c : Code} {H : Heap} {locs : List Loc} {cells slots : Nat} {Q : State → Prop}
def iv_FE (first : State) (t : State) (L : List Loc) (k n : Nat) : Prop := first.WarmedH t.vm ∧ first.sameButNew ({ t with vm := first.vm } : State) L k n
def iv_Met (l : Launch) (y : MethodName) (ws : List Cond) (rm : Room) (Pc : Array Value → State → Prop) (Qc : Array Value → State → Outcome → State → Prop) (mc ms : Nat) (free : Addr → Prop) : Prop :=
  MetFree l y (headSpec ws rm) Pc (fun _ _ _ _ _ => True) (fun a st o t => Qc a st o t ∧ ∃ L, iv_FE st t L mc ms ∧ ∀ q ∈ L, free q.base)
def iv_MQ (below : List Frame) (Qc : Array Value → State → Outcome → State → Prop) (a : Array Value) (s : State) (mc ms : Nat) (free : Addr → Prop) : State → Prop := fun t =>
  ∃ o, t.status = .running ∧ Ended t below o ∧ Qc a s o t ∧ ∃ L, iv_FE s t L mc ms ∧ ∀ q ∈ L, free q.base
theorem iv_MQ.of {Qc : Array Value → State → Outcome → State → Prop} {a : Array Value} {mc ms : Nat} {free : Addr → Prop} (t : State) (h : MQ below Qc a s mc ms free t) : iv_MQ below Qc a s mc ms free t := by
  obtain ⟨o, h1, h2, h3, L, ⟨-, h4⟩, h5⟩ := h
  exact ⟨o, h1, h2, h3, L, h4, h5⟩
theorem iv_mono {Q' : State → Prop} {g : JFrame} (h : ∀ t, Q t → Q' t) (k : W p l e R s m args below meth c H locs cells slots Q g) : W p l e R s m args below meth c H locs cells slots Q' g := fun T hT X => by
  obtain ⟨t, a, b⟩ := k T hT X
  exact ⟨t, a, h t b⟩
/-- a contract out of a walk -/
theorem iv_Met.ofW {y : MethodName} {ws : List Cond} {rm : Room} {Pc : Array Value → State → Prop} {Qc : Array Value → State → Outcome → State → Prop} {mc ms : Nat} {free : Addr → Prop} {cc : ByteArray} {maxL : Nat} {ret : Option FieldType} {hh : List (Nat × Nat × Nat × Nat)}
    (hy : plainFor y = true) (hcw : ∀ (a : Array Value) (U : State), (headSpec ws rm).pre.before a U = true → (Cond.codeWith y cc maxL ret hh).before a U = true)
    (body : ∀ p e s m args below meth c s₁, BodyLoose p l y (headSpec ws rm) cc maxL ret e s m args below meth c s₁ → c.maxLocals = maxL → Pc args s →
      W p l e (headSpec ws rm).room s m args below meth c s.heap [] 0 0 (iv_MQ below Qc args s mc ms free) (entryFrame m args maxL)) : iv_Met l y ws rm Pc Qc mc ms free := by
  refine MetFree.of_bodySF (code := cc) (maxLocals := maxL) (ret := ret) hy ?_ ?_
  · intro a U mk h hn
    obtain ⟨m9, me, cd, hn9, h1, h2, h3, h4, -, h5, h6, -⟩ := Cond.codeWith_spec (hcw a U h)
    cases hn.symm.trans hn9
    exact ⟨me, cd, h1, h2, h3, h4, h5, h6⟩
  · intro p e s m args below meth c s₁ B hml hP _
    have hh0 : s₁.heap = s.heap := by rw [B.state]; rfl
    obtain ⟨t, a1, o, b1, b2, b3⟩ := body p e s m args below meth c s₁ B hml hP s₁ hh0 (Stand.of_body B)
    exact ⟨t, o, a1, b1, b2, b3⟩
/-- what the code's word says -/
theorem iv_cwS {y : MethodName} {cc : ByteArray} {maxL : Nat} {ret : Option FieldType} {hh : List (Nat × Nat × Nat × Nat)} {a : Array Value} {U : State} {mk : MethodId} (h : (Cond.codeWith y cc maxL ret hh).before a U = true) (hn : U.methodNamed? y = some mk) :
    ∃ (me : Method) (cd : Code), U.vm.method? mk = some me ∧ me.code = some cd ∧ cd.code = cc ∧ cd.maxLocals = maxL ∧ me.sig.returnType = ret ∧ me.locks = false ∧ cd.exceptionTable.toList = tableOf hh ∧ parseMethodDescriptor y.desc = some me.sig := by
  obtain ⟨m', me, cd, h1, h2, h3, h4, h5, h6, h7, h8, h9⟩ := Cond.codeWith_spec h
  cases hn.symm.trans h1
  exact ⟨me, cd, h2, h3, h4, h5, h7, h8, by rw [← h6, table_eq], h9⟩
/-- the payer: the callee has returned, or it has thrown -/
theorem iv_back {y : MethodName} {ws : List Cond} {rm : Room} {Pc : Array Value → State → Prop} {Qc : Array Value → State → Outcome → State → Prop} {mc ms len Wd maxL : Nat} {free : Addr → Prop} {cc : ByteArray} {ret : Option FieldType} {hh : List (Nat × Nat × Nat × Nat)}
    (hM : iv_Met l y ws rm Pc Qc mc ms free) (hblind : FrameBlind Pc) (hrc : rm.cells = mc) (hrs : rm.slots = ms) (hframes : rm.frames + 1 ≤ R.frames) (hlocals : Wd + (maxL + 11) + rm.locals ≤ R.locals)
    (hws : ∀ w ∈ ws, ∀ (a' : Array Value) (U : State), s.WarmedH U.vm → w.before a' U = true) (hcw : ∀ (a' : Array Value) (U : State), s.WarmedH U.vm → (Cond.codeWith y cc maxL ret hh).before a' U = true)
    (hinit : ∀ (a' : Array Value) (U : State), s.WarmedH U.vm → (Cond.initialized y.cls).before a' U = true)
    {U : State} {Ls : List Loc} {c0 s0 : Nat} {g : JFrame} {ig : Instr} {mk : MethodId} {a : Array Value}
    (X : Stand p l e R s m args below meth c U Ls c0 s0) (hg : g.method = m) (hsize : g.locals.size = c.maxLocals) (hdg : decode c.code g.pc = .ok (ig, len)) (hW : 2 * g.monitorRoom + (g.stack.map fun v => v.category).sum ≤ Wd) (hn : U.methodNamed? y = some mk)
    (h4 : c0 + mc ≤ R.cells) (h5 : s0 + ms ≤ R.slots) (hp : Pc a U) :
    ∃ (o : Outcome) (t T' : State) (L : List Loc), Qc a (U.calling g mk a) o t ∧ (∀ q ∈ L, free q.base) ∧ T'.heap = t.heap ∧ T'.vm = t.vm ∧ Stand p l e R s m args below meth c T' (Ls ++ L) (c0 + mc) (s0 + ms) ∧
      ((∃ v, o = .returned v ∧ Steps p.tables e below (doInvoke e (U.setTop g) [] mk a).1 (T'.setTop { g with pc := g.pc + len, stack := v.toList ++ g.stack })) ∨
       ∃ x, o = .threw x ∧ Steps p.tables e below (doInvoke e (U.setTop g) [] mk a).1 ((T'.setTop g).pushFrame (.throwing x))) := by
  obtain ⟨methY, cY, hmY, hcY, -, hlY, -⟩ := iv_cwS (hcw a U X.warmed) hn
  obtain ⟨kY, hkY, -⟩ := className_of_methodNamed hn
  have hinitY : kY.init = .initialized := Cond.initialized_spec (findClass_of_methodNamed hn) hkY (hinit a U X.warmed)
  have h : At U g.method c below := by rw [hg]; exact X.here
  have happ : (headSpec ws rm).appliesLoose y e.platform (U.calling g mk a) = true :=
    Spec.appliesLoose_calling (g := g) h hdg hn hkY hinitY
      (X.room_calling (g := g) (R' := (headSpec ws rm).room) hsize hmY hcY hframes (by rw [hlY]; show _ + _ + (maxL + 11) + rm.locals ≤ _; omega) (by show c0 + rm.cells ≤ _; omega) (by show s0 + rm.slots ≤ _; omega))
      (atoms_intro fun w hw => hws w hw _ _ X.warmed)
  obtain ⟨mid, hmid⟩ := h.above
  have hfr : (U.setTop g).frames = (.java g :: mid) ++ below := by rw [State.frames_setTop' g h.top, hmid]; rfl
  obtain ⟨o, s₂, hsteps, -, hend, hq, L, ⟨hW₂, e2, q2, q3, q4, q5, q6⟩, hL⟩ := Steps.callFree hM p X.admits X.cas X.clock (acts := []) hfr happ (hblind _ _ _ _ hp) trivial
  rw [State.frames_setTop' g h.top] at hend
  have e3 : s₂ = ({ (U.calling g mk a).setFrames s₂.frames with heap := s₂.heap, slotsUsed := s₂.slotsUsed } : State).setVm s₂.vm := by
    have : s₂ = ({ s₂ with vm := (U.calling g mk a).vm } : State).setVm s₂.vm := rfl
    rw [show ({ s₂ with vm := (U.calling g mk a).vm } : State) = _ from e2] at this
    exact this
  have hW' : U.WarmedH s₂.vm := hW₂
  obtain ⟨g₀, hg0⟩ := Option.isSome_iff_exists.mp h.top
  obtain ⟨r, hr⟩ := State.topJava?_eq_some.mp hg0
  have hr' : (({ U with heap := s₂.heap, slotsUsed := s₂.slotsUsed } : State).setVm s₂.vm).frames = .java g₀ :: r := hr
  have hsame : U.sameButNew ({ U with heap := s₂.heap, slotsUsed := s₂.slotsUsed } : State) L mc ms := by
    refine ⟨?_, q2, q3, q4, q5, q6⟩
    obtain ⟨t, ht, -⟩ := State.frames_cons hr
    show ({ U with heap := s₂.heap, slotsUsed := s₂.slotsUsed } : State) = { U.setFrames U.frames with heap := s₂.heap, slotsUsed := s₂.slotsUsed }
    rw [State.setFrames_self ht]
  refine ⟨o, s₂, (({ U with heap := s₂.heap, slotsUsed := s₂.slotsUsed } : State).setVm s₂.vm), L, hq, hL, rfl, rfl,
    ⟨X.admits, X.cas, X.clock, X.frames, X.room, X.hears, X.method, X.code, (X.here.setHeapUsed s₂.heap s₂.slotsUsed).setVm hW'.alike, X.tail, State.WarmedH.trans X.warmed hW', X.limits, X.bytes, X.same.trans (hsame.setVm s.vm)⟩, ?_⟩
  cases o with
  | returned v =>
    refine Or.inl ⟨v, rfl, ?_⟩
    obtain ⟨c₂, i₂, len₂, hc₂, hd₂, hf₂⟩ := hend
    have hcc : c₂ = c := by
      have h1 : s₂.code? g.method = U.code? g.method := by
        rw [State.code?_eq, State.code?_eq, hW'.alike.method?]
      exact Option.some.inj (hc₂.symm.trans (h1.trans h.code))
    subst hcc
    have hlen : len₂ = len := by rw [hdg] at hd₂; cases hd₂; rfl
    subst hlen
    have hs₂ : s₂ = (({ U with heap := s₂.heap, slotsUsed := s₂.slotsUsed } : State).setVm s₂.vm).setTop { g with pc := g.pc + len₂, stack := v.toList ++ g.stack } := by
      refine e3.trans ?_
      rw [hf₂, State.calling_eq h.top, State.setFrames_setFrames, State.setTop_of_frames _ hr', hr]
      rfl
    rw [← hs₂]
    exact hsteps
  | threw x =>
    refine Or.inr ⟨x, rfl, ?_⟩
    have hf₂ : s₂.frames = .throwing x :: .java g :: U.frames.tail := hend
    have hs₂ : s₂ = ((({ U with heap := s₂.heap, slotsUsed := s₂.slotsUsed } : State).setVm s₂.vm).setTop g).pushFrame (.throwing x) := by
      refine e3.trans ?_
      rw [hf₂, State.calling_eq h.top, State.setFrames_setFrames, State.pushFrame, State.frames_setTop _ hr', State.setTop_of_frames _ hr', State.setFrames_setFrames, hr]
      rfl
    rw [← hs₂]
    exact hsteps
/-- what is known behind a call -/
def iv_Res (p : Program) (l : Launch) (e : Env) (R : Room) (s : State) (m : MethodId) (args : Array Value) (below : List Frame) (meth : Method) (c : Code) (T : State) (locs : List Loc) (cells slots mc ms : Nat) (g : JFrame) (rest : List Value) (Qa : State → Outcome → State → Prop) (free : Addr → Prop) : Prop :=
  ∃ (o : Outcome) (st₀ t T' : State) (L : List Loc), st₀.heap = T.heap ∧ Qa st₀ o t ∧ (∀ q ∈ L, free q.base) ∧ T'.heap = t.heap ∧ T'.vm = t.vm ∧ Stand p l e R s m args below meth c T' (locs ++ L) (cells + mc) (slots + ms) ∧
    ((∃ v, o = .returned v ∧ ∀ target, Steps p.tables e below (T'.setTop { g with pc := g.pc + 3, stack := v.toList ++ rest }) target → Steps p.tables e below (T.setTop g) target) ∨
     ∃ x, o = .threw x ∧ ∀ target, Steps p.tables e below ((T'.setTop { g with stack := rest }).pushFrame (.throwing x)) target → Steps p.tables e below (T.setTop g) target)
theorem iv_tail {y : MethodName} {ws : List Cond} {rm : Room} {Pc : Array Value → State → Prop} {Qc : Array Value → State → Outcome → State → Prop} {mc ms maxL : Nat} {free : Addr → Prop} {cc : ByteArray} {ret : Option FieldType} {hh : List (Nat × Nat × Nat × Nat)}
    (hM : iv_Met l y ws rm Pc Qc mc ms free) (hblind : FrameBlind Pc) (hrc : rm.cells = mc) (hrs : rm.slots = ms) (hframes : rm.frames + 1 ≤ R.frames) (hlocals : 8 + (maxL + 11) + rm.locals ≤ R.locals)
    (hws : ∀ w ∈ ws, ∀ (a' : Array Value) (U : State), s.WarmedH U.vm → w.before a' U = true) (hcw : ∀ (a' : Array Value) (U : State), s.WarmedH U.vm → (Cond.codeWith y cc maxL ret hh).before a' U = true)
    (hinit : ∀ (a' : Array Value) (U : State), s.WarmedH U.vm → (Cond.initialized y.cls).before a' U = true)
    {T : State} {g : JFrame} {ig : Instr} {mk : MethodId} {a : Array Value} {vm₁ : Vm} {rest : List Value}
    (X : Stand p l e R s m args below meth c (T.setVm vm₁) locs cells slots) (hg : g.method = m) (hsize : g.locals.size = c.maxLocals) (hdg : decode c.code g.pc = .ok (ig, 3)) (hW : 2 * g.monitorRoom + (rest.map fun v => v.category).sum ≤ 8) (hn : s.methodNamed? y = some mk)
    (h4 : cells + mc ≤ R.cells) (h5 : slots + ms ≤ R.slots) (hp : ∀ U : State, U.heap = T.heap → s.WarmedH U.vm → Pc a U)
    (hst : ∀ target, (∀ acts, Steps p.tables e below (doInvoke e ((T.setVm vm₁).setTop { g with stack := rest }) acts mk a).1 target) → Steps p.tables e below (T.setTop g) target) :
    iv_Res p l e R s m args below meth c T locs cells slots mc ms g rest (Qc a) free := by
  obtain ⟨o, t, T', L, h1, h2, h3, h3', h4', h5'⟩ := iv_back (g := { g with stack := rest }) (ig := ig) (len := 3) (Wd := 8) hM hblind hrc hrs hframes hlocals hws hcw hinit X hg hsize hdg hW (X.named hn) h4 h5 (hp _ rfl X.warmed)
  refine ⟨o, _, t, T', L, ?_, h1, h2, h3, h3', h4', ?_⟩
  · rfl
  · rcases h5' with ⟨v, rfl, hs⟩ | ⟨x, rfl, hs⟩
    · exact Or.inl ⟨v, rfl, fun target k => hst _ fun acts => by rw [doInvoke_state]; exact hs.trans k⟩
    · exact Or.inr ⟨x, rfl, fun target k => hst _ fun acts => by rw [doInvoke_state]; exact hs.trans k⟩
end IvA
section IvB
variable {p : Program} {l : Launch} {e : Env} {R : Room} {s : State} {m : MethodId} {args : Array Value} {below : List Frame} {meth : Method} {c : Code} {H : Heap} {locs : List Loc} {cells slots : Nat} {Q : State → Prop}
variable {y : MethodName} {ws : List Cond} {rm : Room} {Pc : Array Value → State → Prop} {Qc : Array Value → State → Outcome → State → Prop} {mc ms maxL index : Nat} {free : Addr → Prop} {cc : ByteArray} {ret : Option FieldType} {hh : List (Nat × Nat × Nat × Nat)} {own host : String} {T : State} {g : JFrame} {As rest : List Value}
/-- what every call asks -/
abbrev iv_CB (l : Launch) (R : Room) (s : State) (args : Array Value) (y : MethodName) (ws : List Cond) (rm : Room) (Pc : Array Value → State → Prop) (Qc : Array Value → State → Outcome → State → Prop) (mc ms maxL : Nat) (free : Addr → Prop) (cc : ByteArray) (ret : Option FieldType) (hh : List (Nat × Nat × Nat × Nat)) : Prop :=
  iv_Met l y ws rm Pc Qc mc ms free ∧ FrameBlind Pc ∧ rm.cells = mc ∧ rm.slots = ms ∧ rm.frames + 1 ≤ R.frames ∧ 8 + (maxL + 11) + rm.locals ≤ R.locals ∧
  (∀ w ∈ ws, ∀ (a' : Array Value) (U : State), s.WarmedH U.vm → w.before a' U = true) ∧ (∀ (a' : Array Value) (U : State), s.WarmedH U.vm → (Cond.codeWith y cc maxL ret hh).before a' U = true) ∧
  (∀ (a' : Array Value) (U : State), s.WarmedH U.vm → (Cond.initialized y.cls).before a' U = true) ∧ (y.cls ≠ "java/lang/invoke/MethodHandle" ∧ y.cls ≠ "java/lang/invoke/VarHandle")
theorem iv_selfW (s : State) : s.WarmedH s.vm := State.WarmedH.refl s
theorem iv_callV (hx : p.tables.exec = Jvm.exec) (hb : iv_CB l R s args y ws rm Pc Qc mc ms maxL free cc ret hh) (hown : s.vm.findClass own = some m.cls)
    (hlink : (Cond.methodLink own index y).before args s = true ∨ (Cond.methodLinkNest own index y host).before args s = true) (hinst : (Cond.instanceMethod y).before args s = true) (hsel : (Cond.selects y.cls y y).before args s = true)
    (X : Stand p l e R s m args below meth c T locs cells slots) {b : Addr} {cellB : Cell} (hcell : T.heap[b]? = some cellB) (hobj : cellB.vm.isStatics = false) (hcls : s.vm.findClass y.cls = some cellB.cls)
    (hg : g.method = m) (hsize : g.locals.size = c.maxLocals) (hlen : (parseMethodDescriptor y.desc).map (fun d => d.parameters.length) = some As.length) (hstack : g.stack = As.reverse ++ .ref b :: rest) (hW : 2 * g.monitorRoom + (rest.map fun v => v.category).sum ≤ 8)
    (hdg : decode c.code g.pc = .ok (.invokevirtual index, 3)) (h4 : cells + mc ≤ R.cells) (h5 : slots + ms ≤ R.slots) (hp : ∀ U : State, U.heap = T.heap → s.WarmedH U.vm → Pc (Value.ref b :: As).toArray U) :
    iv_Res p l e R s m args below meth c T locs cells slots mc ms g rest (Qc (Value.ref b :: As).toArray) free := by
  obtain ⟨hM, hbl, hrc, hrs, hfr, hlo, hws, hcw, hini, hy⟩ := hb
  obtain ⟨mk, methM, hnamed, hmethM, hstM, habM⟩ := Cond.instanceMethod_spec hinst
  obtain ⟨methM', cM, hmethM', -, -, -, -, -, -, hsigM⟩ := iv_cwS (hcw args s (iv_selfW s)) hnamed
  cases hmethM.symm.trans hmethM'
  have hlen' : As.length = methM.sig.parameters.length := by rw [hsigM] at hlen; exact (Option.some.inj hlen).symm
  obtain ⟨c2, r2, m2, q1, q2, q3, q4, kP, hkP, hkPi⟩ := Cond.selects_spec hsel
  cases hcls.symm.trans q1
  cases (State.methodFound?_of_named hnamed hy).symm.trans q2
  cases hnamed.symm.trans q3
  have hselP : selectMethod e.platform s.vm cellB.cls mk = .method mk := by rw [Launch.admits_selectMethod X.admits]; exact q4
  have hob : ∀ z, cellB.vm ≠ .statics z := fun z h => by rw [h] at hobj; cases hobj
  rcases hlink with hl | hl
  · obtain ⟨vm₁, X₁, hst⟩ := X.invokevirtual hx hown hl hnamed hmethM hstM hkP hkPi hy (a := b) (cell := cellB) hcell hob hselP hmethM habM hkP hkPi (g := g) hg (argsL := As) (rest := rest) hlen' hstack hdg
    exact iv_tail hM hbl hrc hrs hfr hlo hws hcw hini X₁ hg hsize hdg hW hnamed h4 h5 hp hst
  · obtain ⟨vm₁, X₁, hst⟩ := X.invokevirtualNest hx hown hl hnamed hmethM hstM hkP hkPi hy (a := b) (cell := cellB) hcell hob hselP hmethM habM hkP hkPi (g := g) hg (argsL := As) (rest := rest) hlen' hstack hdg
    exact iv_tail hM hbl hrc hrs hfr hlo hws hcw hini X₁ hg hsize hdg hW hnamed h4 h5 hp hst
theorem iv_callS (hx : p.tables.exec = Jvm.exec) (hb : iv_CB l R s args y ws rm Pc Qc mc ms maxL free cc ret hh) (hown : s.vm.findClass own = some m.cls)
    (hlink : (Cond.methodLink own index y).before args s = true ∨ (Cond.methodLinkNest own index y host).before args s = true) (hstat : (Cond.static y).before args s = true)
    (X : Stand p l e R s m args below meth c T locs cells slots)
    (hg : g.method = m) (hsize : g.locals.size = c.maxLocals) (hlen : (parseMethodDescriptor y.desc).map (fun d => d.parameters.length) = some As.length) (hstack : g.stack = As.reverse ++ rest) (hW : 2 * g.monitorRoom + (rest.map fun v => v.category).sum ≤ 8)
    (hdg : decode c.code g.pc = .ok (.invokestatic index, 3)) (h4 : cells + mc ≤ R.cells) (h5 : slots + ms ≤ R.slots) (hp : ∀ U : State, U.heap = T.heap → s.WarmedH U.vm → Pc As.toArray U) :
    iv_Res p l e R s m args below meth c T locs cells slots mc ms g rest (Qc As.toArray) free := by
  obtain ⟨hM, hbl, hrc, hrs, hfr, hlo, hws, hcw, hini, hy⟩ := hb
  obtain ⟨mk, methM0, cM0, hnamed, -⟩ := Cond.codeWith_spec (hcw args s (iv_selfW s))
  obtain ⟨methM, cM, hmethM, -, -, -, -, -, -, hsigM⟩ := iv_cwS (hcw args s (iv_selfW s)) hnamed
  have hlen' : As.length = methM.sig.parameters.length := by rw [hsigM] at hlen; exact (Option.some.inj hlen).symm
  have hstatic : methM.isStatic = true := Cond.static_spec hnamed hmethM hstat
  obtain ⟨kP, hkP, -⟩ := className_of_methodNamed hnamed
  have hinitP : kP.init = .initialized := Cond.initialized_spec (findClass_of_methodNamed hnamed) hkP (hini args s (iv_selfW s))
  rcases hlink with hl | hl
  · obtain ⟨vm₁, X₁, hst⟩ := X.invokestatic hx hown hl hnamed hmethM hstatic hkP hinitP hy (g := g) hg (argsL := As) (rest := rest) hlen' hstack hdg
    exact iv_tail hM hbl hrc hrs hfr hlo hws hcw hini X₁ hg hsize hdg hW hnamed h4 h5 hp hst
  · obtain ⟨vm₁, X₁, hst⟩ := X.invokestaticNest hx hown hl hnamed hmethM hstatic hkP hinitP hy (g := g) hg (argsL := As) (rest := rest) hlen' hstack hdg
    exact iv_tail hM hbl hrc hrs hfr hlo hws hcw hini X₁ hg hsize hdg hW hnamed h4 h5 hp hst
theorem iv_callI (hx : p.tables.exec = Jvm.exec) (hb : iv_CB l R s args y ws rm Pc Qc mc ms maxL free cc none []) (hown : s.vm.findClass own = some m.cls) (hy1 : y.name = "<init>")
    (hlink : (Cond.methodLink own index y).before args s = true ∨ (Cond.methodLinkNest own index y host).before args s = true) (hinst : (Cond.instanceMethod y).before args s = true) (hcode : (Cond.code y cc maxL none).before args s = true)
    (X : Stand p l e R s m args below meth c T locs cells slots) {b : Addr}
    (hg : g.method = m) (hsize : g.locals.size = c.maxLocals) (hlen : (parseMethodDescriptor y.desc).map (fun d => d.parameters.length) = some As.length) (hstack : g.stack = As.reverse ++ .ref b :: rest) (hW : 2 * g.monitorRoom + (rest.map fun v => v.category).sum ≤ 8)
    (hdg : decode c.code g.pc = .ok (.invokespecial index, 3)) (h4 : cells + mc ≤ R.cells) (h5 : slots + ms ≤ R.slots) (hp : ∀ U : State, U.heap = T.heap → s.WarmedH U.vm → Pc (Value.ref b :: As).toArray U) :
    iv_Res p l e R s m args below meth c T locs cells slots mc ms g rest (Qc (Value.ref b :: As).toArray) free := by
  obtain ⟨hM, hbl, hrc, hrs, hfr, hlo, hws, hcw, hini, hy⟩ := hb
  subst hg
  have hpl : e.platform.magicAccessors = ({} : Platform).magicAccessors := by rw [X.admits.platform]
  have hlen' : ∀ sig, parseMethodDescriptor y.desc = some sig → As.length = sig.parameters.length := fun sig h => by rw [h] at hlen; exact (Option.some.inj hlen).symm
  rcases hlink with hl | hl
  · obtain ⟨mk, methM, cM, kP, vm₁, hnamed, hmethM, hcodeM, -, hlocalsM, -, hkP, -, hW₁, hst⟩ := Steps.initColdArgs (e := e) X.here hx X.warmed hpl hown hy1 hy hl hinst hcode (f := g) rfl hlen' hstack hdg
    exact iv_tail hM hbl hrc hrs hfr hlo hws hcw hini (X.noted hW₁) rfl hsize hdg hW hnamed h4 h5 hp hst
  · obtain ⟨mk, methM, cM, kP, vm₁, hnamed, hmethM, hcodeM, -, hlocalsM, -, hkP, -, hW₁, hst⟩ := Steps.initColdArgsNest (e := e) X.here hx X.warmed hpl hown hy1 hy hl hinst hcode (f := g) rfl hlen' hstack hdg
    exact iv_tail hM hbl hrc hrs hfr hlo hws hcw hini (X.noted hW₁) rfl hsize hdg hW hnamed h4 h5 hp hst
/-- the walk goes on behind a call, or where it throws -/
theorem iv_callW {pc : Nat} {ls : Array Slot} {st0 : List Value} {Qa : State → Outcome → State → Prop}
    (hr : ∀ T : State, T.heap = H → Stand p l e R s m args below meth c T locs cells slots → iv_Res p l e R s m args below meth c T locs cells slots mc ms (F0 m pc ls st0) rest Qa free)
    (kret : ∀ (v : Option Value) (st₀ t : State) (L : List Loc), st₀.heap = H → s.WarmedH t.vm → Qa st₀ (.returned v) t → (∀ q ∈ L, free q.base) → W p l e R s m args below meth c t.heap (locs ++ L) (cells + mc) (slots + ms) Q (F0 m (pc + 3) ls (v.toList ++ rest)))
    (kthr : ∀ (x : Addr) (st₀ t T' : State) (L : List Loc), st₀.heap = H → s.WarmedH t.vm → Qa st₀ (.threw x) t → (∀ q ∈ L, free q.base) → T'.heap = t.heap → Stand p l e R s m args below meth c T' (locs ++ L) (cells + mc) (slots + ms) →
      ∃ u, Steps p.tables e below ((T'.setTop (F0 m pc ls rest)).pushFrame (.throwing x)) u ∧ Q u) :
    W p l e R s m args below meth c H locs cells slots Q (F0 m pc ls st0) := by
  intro T hT X
  obtain ⟨o, st₀, t, T', L, h1, h2, h3, h4, h5, X', h6⟩ := hr T hT X
  have hw : s.WarmedH t.vm := by rw [← h5]; exact X'.warmed
  rcases h6 with ⟨v, rfl, hs⟩ | ⟨x, rfl, hs⟩
  · obtain ⟨u, a1, b1⟩ := kret v st₀ t L (h1.trans hT) hw h2 h3 T' h4 X'
    exact ⟨u, hs u a1, b1⟩
  · obtain ⟨u, a1, b1⟩ := kthr x st₀ t T' L (h1.trans hT) hw h2 h3 h4 X'
    exact ⟨u, hs u a1, b1⟩
end IvB
end
section
/-! A throw that a row of the method's own table catches (its class not yet resolved), a throw that leaves, 'throw new E()'. -/
def iv_pick (pc : Nat) (ok : Nat → Bool) : List (Nat × Nat × Nat × Nat) → Option Nat
  | [] => none
  | r :: t => bif decide (r.1 ≤ pc) && decide (pc < r.2.1) then (bif ok r.2.2.2 then some r.2.2.1 else iv_pick pc ok t) else iv_pick pc ok t
section IvC
variable {e : Env} {s₀ : State} {f : JFrame} {a : Addr} {cell : Cell} {ok : Nat → Bool} {h : Nat}
theorem iv_go (hobj : ∀ k, cell.vm ≠ .statics k) (hk0 : ∃ k, s₀.vm.classes[cell.cls]? = some k) :
    ∀ hh : List (Nat × Nat × Nat × Nat), (∀ r ∈ hh, r.2.2.2 ≠ 0 ∧ ∃ c, s₀.vm.ClassLinks e.platform f.method.cls r.2.2.2 c ∧ s₀.vm.assignable cell.cls c = ok r.2.2.2) → iv_pick f.pc ok hh = some h →
    ∀ S : State, s₀.WarmedH S.vm → S.heap[a]? = some cell →
      ∃ vm', s₀.WarmedH vm' ∧ ∀ (Q : Handler → Pre) (E : CtlPost) (d : Bool) (acts : List Action), wp (findHandler.go f a (tableOf hh)) Q E e d acts S ↔ Q (.found h) d acts (S.setVm vm') := by
  intro hh
  induction hh with
  | nil => intro _ hp; cases hp
  | cons r t ih =>
    intro hall hp S hW hcell
    obtain ⟨sp, ep, hd, ct⟩ := r
    obtain ⟨h0, c, hl, hok⟩ := hall _ (List.mem_cons_self ..)
    have ih' := ih (fun r hr => hall r (List.mem_cons_of_mem _ hr))
    have htab : tableOf ((sp, ep, hd, ct) :: t) = (⟨sp, ep, hd, ct⟩ : ExceptionTableEntry) :: tableOf t := rfl
    simp only [iv_pick] at hp
    cases hc : decide (sp ≤ f.pc) && decide (f.pc < ep) with
    | false =>
      rw [hc] at hp
      obtain ⟨vm', hW', hq⟩ := ih' hp S hW hcell
      refine ⟨vm', hW', fun Q E d acts => ?_⟩
      rw [htab, W.findHandler_go_skip (x := ⟨sp, ep, hd, ct⟩) hc]
      exact hq Q E d acts
    | true =>
      rw [hc] at hp
      obtain ⟨dk, _, _, kt, hdk, _, _, _, _, hkt, _, hopen⟩ := hl.here
      obtain ⟨kt', hkt', -⟩ := hW.alike.2.2 _ _ hkt
      obtain ⟨k0, hk0⟩ := hk0
      obtain ⟨k0', hk0', -⟩ := hW.alike.2.2 _ _ hk0
      have hl' := hW.classLinks hl
      obtain ⟨ha, ht⟩ := (resolveClass_links e.toSetting hl').op (op := VmOp.resolveClass f.method.cls ct) rfl
      have hal : S.vm.Alike (S.vm.noted f.method.cls ct (.cls c)) := (Vm.Alike.refl S.vm).noted _ _ _
      obtain ⟨k1', hk1', -⟩ := hal.2.2 _ _ hk0'
      obtain ⟨k2', hk2', -⟩ := hal.2.2 _ _ hkt'
      have hW2 : s₀.WarmedH (S.vm.noted f.method.cls ct (.cls c)) := hW.noted hdk hopen (State.rightAt_cls hl)
      have has : (S.vm.noted f.method.cls ct (.cls c)).assignable cell.cls c = ok ct := by rw [hW2.alike.assignable]; exact hok
      cases hb : ok ct with
      | true =>
        rw [hb] at hp has
        obtain rfl := Option.some.inj hp
        refine ⟨_, hW2, fun Q E d acts => ?_⟩
        rw [htab]
        simp [findHandler.go, hc, h0, ha, ht, hcell, hobj, hk1', hk2', has, VmOp.dirties, VmOp.acts]
      | false =>
        rw [hb] at hp has
        obtain ⟨vm', hW', hq⟩ := ih' hp (S.setVm (S.vm.noted f.method.cls ct (.cls c))) hW2 hcell
        refine ⟨vm', hW', fun Q E d acts => ?_⟩
        have h1 : wp (findHandler.go f a (tableOf ((sp, ep, hd, ct) :: t))) Q E e d acts S ↔ wp (findHandler.go f a (tableOf t)) Q E e d acts (S.setVm (S.vm.noted f.method.cls ct (.cls c))) := by
          rw [htab]
          simp [findHandler.go, hc, h0, ha, ht, hcell, hobj, hk1', hk2', has, VmOp.dirties, VmOp.acts]
        rw [h1]
        exact hq Q E d acts
theorem iv_stepT {s : State} {r : List Frame} {pc : Nat} {vm' : Vm} (hfind : ∀ (Q : Handler → Pre) (E : CtlPost) (d : Bool) (acts : List Action), wp (findHandler f a) Q E e d acts s ↔ Q (.found pc) d acts (s.setVm vm')) :
    (stepThrowing e s a (.java f :: r)).Is ((s.setVm vm').setFrames (.java { f with pc := pc, stack := [.ref a] } :: r)) [] := by
  simp only [stepThrowing, searchFrame, vmDo]
  generalize hr : Sem.go _ e false [] s = res
  obtain ⟨as, rfl, ha⟩ := Sem.eq_ok_of hr (a := Handler.found pc) (s' := s.setVm vm') (acts' := []) (by simp [hfind _ _ _ _])
  exact ⟨rfl, ha⟩
end IvC
section IvD
variable {p : Program} {l : Launch} {e : Env} {R : Room} {s : State} {m : MethodId} {args : Array Value} {below : List Frame} {meth : Method} {c : Code} {H : Heap} {locs : List Loc} {cells slots : Nat} {Q : State → Prop} {T : State} {pc : Nat} {ls : Array Slot} {rest : List Value}
theorem iv_catch (X : Stand p l e R s m args below meth c T locs cells slots) {x : Addr} {cell : Cell} {h : Nat} {ok : Nat → Bool} {hh : List (Nat × Nat × Nat × Nat)} (htab : c.exceptionTable.toList = tableOf hh) (hcell : T.heap[x]? = some cell) (hobj : cell.vm.isStatics = false) (hk0 : ∃ k, s.vm.classes[cell.cls]? = some k)
    (hall : ∀ r ∈ hh, r.2.2.2 ≠ 0 ∧ ∃ c, s.vm.ClassLinks e.platform m.cls r.2.2.2 c ∧ s.vm.assignable cell.cls c = ok r.2.2.2) (hp : iv_pick pc ok hh = some h)
    (k : W p l e R s m args below meth c T.heap locs cells slots Q (F0 m h ls [.ref x])) : ∃ u, Steps p.tables e below ((T.setTop (F0 m pc ls rest)).pushFrame (.throwing x)) u ∧ Q u := by
  obtain ⟨vm', hW', hf⟩ := iv_go (e := e) (f := F0 m pc ls rest) (a := x) (VmData.ne_statics_of hobj) hk0 hh hall hp ((T.setTop (F0 m pc ls rest)).pushFrame (.throwing x)) X.warmed hcell
  have hf2 : ∀ (Q : Handler → Pre) (E : CtlPost) (d : Bool) (acts : List Action), wp (findHandler (F0 m pc ls rest) x) Q E e d acts ((T.setTop (F0 m pc ls rest)).pushFrame (.throwing x)) ↔ Q (.found h) d acts (((T.setTop (F0 m pc ls rest)).pushFrame (.throwing x)).setVm vm') := by
    intro Q E d acts
    rw [W.findHandler_eq (meth := meth) (code := c) X.method' X.code, htab]
    exact hf Q E d acts
  obtain ⟨u, a1, b1⟩ := k (T.setVm vm') rfl (X.noted hW')
  refine ⟨u, ?_, b1⟩
  have hat : At T (F0 m pc ls rest).method c below := X.here
  obtain ⟨hgo, hw⟩ := hat.throwing x
  refine Steps.head hgo hw ?_
  rw [stepThread_throwing (frames_entered hat.top _), (iv_stepT (s := (T.setTop (F0 m pc ls rest)).pushFrame (.throwing x)) hf2).1]
  obtain ⟨g₀, hg⟩ := Option.isSome_iff_exists.mp hat.top
  obtain ⟨r, hr⟩ := State.topJava?_eq_some.mp hg
  have hr' : (T.setVm vm').frames = .java g₀ :: r := hr
  rw [State.setTop_of_frames _ hr'] at a1
  have hsv : ∀ (u : State) (F G : List Frame), ((u.setFrames F).setVm vm').setFrames G = (u.setVm vm').setFrames G := fun u F G => by
    have h1 : (u.setFrames F).setVm vm' = (u.setVm vm').setFrames F := rfl
    rw [h1, State.setFrames_setFrames]
  rw [hr, List.tail_cons, State.pushFrame, hsv, State.setTop_of_frames _ hr, hsv]
  exact a1
theorem iv_leave (X : Stand p l e R s m args below meth c T locs cells slots) {x : Addr} (hout : ∀ r ∈ c.exceptionTable.toList, covers r pc = false) (hlk : meth.locks = false)
    (k : ∀ u : State, u.heap = T.heap → u.status = .running → Ended u below (.threw x) → s.WarmedH u.vm → s.sameButNew ({ u with vm := s.vm } : State) locs cells slots → Q u) : ∃ u, Steps p.tables e below ((T.setTop (F0 m pc ls rest)).pushFrame (.throwing x)) u ∧ Q u := by
  obtain ⟨h1, h2, h3, h4, h5⟩ := X.leaveThrown x (g := F0 m pc ls rest) rfl rfl rfl hout hlk
  exact ⟨_, h1, k _ rfl h2 h3 h4 h5⟩
/-- the same point, told from a start that has the heap of now -/
theorem iv_reroot (X : Stand p l e R s m args below meth c T locs cells slots) (hc : cells ≤ R.cells) (hs : slots ≤ R.slots) :
    Stand p l e { R with cells := R.cells - cells, slots := R.slots - slots } ({ s with heap := T.heap, slotsUsed := T.slotsUsed } : State) m args below meth c T [] 0 0 := by
  have hsz := X.heapSize
  have hus := X.used
  refine ⟨X.admits, X.cas, X.clock, X.frames, ?_, X.hears, X.method, X.code, X.here, X.tail, X.warmed, X.limits, X.bytes, ?_⟩
  · have hr := X.room
    have hb := X.book
    simp only [State.hasRoom, Bool.and_eq_true, decide_eq_true_eq] at hr ⊢
    obtain ⟨⟨⟨⟨r1, r2⟩, r3⟩, r4⟩, r5⟩ := hr
    refine ⟨⟨⟨⟨r1, r2⟩, ?_⟩, ?_⟩, hb⟩
    · show T.heap.size + (R.cells - cells) ≤ _
      omega
    · show T.slotsUsed + (R.slots - slots) ≤ _
      omega
  · obtain ⟨e1, -⟩ := X.same
    have hdr : T.heap.toList.drop T.heap.size = [] := List.drop_eq_nil_of_le (by rw [Array.length_toList]; exact Nat.le_refl _)
    refine ⟨e1, Nat.le_refl _, Nat.le_refl _, ?_, ?_, fun a cl h => ⟨cl, h, rfl, rfl, fun _ _ => rfl⟩⟩
    · show T.slotsUsed = T.slotsUsed + ((T.heap.toList.drop T.heap.size).map (fun x : Cell => x.slots.size)).sum
      rw [hdr]
      rfl
    · show ((T.heap.toList.drop T.heap.size).map (fun x : Cell => x.slots.size)).sum ≤ 0
      rw [hdr]
      exact Nat.le_refl _
theorem iv_inst_mem (own : String) (ic : Nat) (cls : String) (names : List String) : Cond.instantiable cls 6 ∈ Bundle.ownAtoms0 own ic cls names := by
  unfold Bundle.ownAtoms0
  exact List.mem_append_right _ (List.mem_cons_of_mem _ (List.mem_cons_self ..))
set_option maxHeartbeats 4000000 in
theorem iv_throw {cc : ByteArray} {own cls : String} {names : List String} {ic idx : Nat} (hx : p.tables.exec = Jvm.exec) (hb : c.code = cc) (hsize : ls.size = c.maxLocals) (htr : l.admits e → e.platform.stackTraces = false) (hlk : meth.locks = false)
    (hown : s.vm.findClass own = some m.cls) (hcls : Bundle.fit cls = true) (hnames : ∀ n ∈ names, Bundle.fit n = true)
    (hat : ∀ U : State, U.vm = s.vm → U.heap = H → ∀ w ∈ Bundle.ownAtoms0 own ic cls names, w.before args U = true)
    (hcl : ∀ U : State, U.vm = s.vm → (Cond.classLink own idx cls).before args U = true ∧ (Cond.initialized cls).before args U = true)
    (hd0 : decode cc pc = .ok (.new idx, 3)) (hd3 : decode cc (pc + 3) = .ok (.dup, 1)) (hd4 : decode cc (pc + 4) = .ok (.invokespecial ic, 3)) (hd7 : decode cc (pc + 7) = .ok (.athrow, 1)) (hout : ∀ r ∈ c.exceptionTable.toList, covers r (pc + 7) = false)
    (hf : names.length + 3 < R.frames) (hlo : ((rest.map fun v => v.category).sum + 1) + (13 * (names.length + 1) + 41) ≤ R.locals) (hc1 : cells + 1 ≤ R.cells) (hs6 : slots + 6 ≤ R.slots)
    (kk : ∀ (U : State) (a : Addr) (ce : Cell), U.status = .running → Ended U below (.threw a) → s.WarmedH U.vm → s.sameButNew ({ U with vm := s.vm } : State) locs (cells + 1) (slots + 6) → H.size ≤ a → U.heap[a]? = some ce → s.vm.findClass cls = some ce.cls → ce.vm = .none → (∀ (q : Nat) (cq : Cell), H[q]? = some cq → U.heap[q]? = some cq) → Q U) :
    W p l e R s m args below meth c H locs cells slots Q (F0 m pc ls rest) := by
  intro T hT X
  subst hT
  have X' := iv_reroot X (by omega) (by omega)
  have hat' := hat ({ s with heap := T.heap, slotsUsed := T.slotsUsed } : State) rfl rfl
  have hcl' := hcl ({ s with heap := T.heap, slotsUsed := T.slotsUsed } : State) rfl
  have key : W p l e { R with cells := R.cells - cells, slots := R.slots - slots } ({ s with heap := T.heap, slotsUsed := T.slotsUsed } : State) m args below meth c T.heap [] 0 0
      (fun U => ∃ (ce : Cell), U.status = .running ∧ Ended U below (.threw T.heap.size) ∧ s.WarmedH U.vm ∧ State.sameButNew ({ s with heap := T.heap, slotsUsed := T.slotsUsed } : State) ({ U with vm := s.vm } : State) [] (0 + 1) (0 + 6) ∧ U.heap[T.heap.size]? = some ce ∧ s.vm.findClass cls = some ce.cls ∧ ce.vm = .none) (F0 m pc ls rest) := by
    refine W.newc (s := ({ s with heap := T.heap, slotsUsed := T.slotsUsed } : State)) (g := F0 m pc ls rest) hx hb hown hcl'.1 (hat' (.instantiable cls 6) (iv_inst_mem own ic cls names)) hcl'.2 rfl hd0 ?_ ?_ ?_
    · show 0 + 1 ≤ R.cells - cells
      omega
    · show 0 + 6 ≤ R.slots - slots
      omega
    intro cC kC h1 h2 h3 h4
    refine lv_dup hx hb hd3 rfl ?_
    intro T2 hT2 X2
    have hcell : T2.heap[T.heap.size]? = some (freshCell cC kC) := by rw [hT2]; simp
    obtain ⟨U, st, r1, r2, r3, r4, ce, r5, r6⟩ := X2.ctorThrow0 hx (htr X2.admits) hown hcls hnames hat' (fun x hx => by cases hx) h1 h2 hcell (Nat.le_refl _) (g := F0 m (pc + 4) ls (.ref T.heap.size :: .ref T.heap.size :: rest)) rfl hsize rfl rfl rfl (by rw [hb]; exact hd4) (by rw [hb]; exact hd7) hout hf (by show 2 * 0 + (1 + (rest.map fun v => v.category).sum) + (13 * (names.length + 1) + 41) ≤ R.locals; omega) hlk
    exact ⟨U, st, ce, r1, r2, r3, r4, r5, r6.cls, r6.vm⟩
  obtain ⟨U, st, ce, r1, r2, r3, r4, r5, r6, r7⟩ := key T rfl X'
  refine ⟨U, st, kk U T.heap.size ce r1 r2 r3 ?_ (Nat.le_refl _) r5 r6 r7 ?_⟩
  · have h2 : (T.setVm s.vm).sameButNew ({ U with vm := s.vm } : State) [] 1 6 := by
      obtain ⟨e1, e2⟩ := r4
      refine ⟨?_, e2⟩
      have e3 : T.setVm s.vm = { s.setFrames T.frames with heap := T.heap, slotsUsed := T.slotsUsed } := X.same.1
      rw [e3]
      refine e1.trans ?_
      show ({ s.setFrames U.frames with heap := U.heap, slotsUsed := U.slotsUsed } : State) = { (s.setFrames T.frames).setFrames U.frames with heap := U.heap, slotsUsed := U.slotsUsed }
      rw [State.setFrames_setFrames]
    have h3 := X.same.trans h2
    rw [List.append_nil] at h3
    exact h3
  · intro q cq hq
    obtain ⟨c', x1, x2, x3, x4⟩ := r4.2.2.2.2.2 q cq hq
    have hs : c'.slots = cq.slots := Array.ext_getElem? fun i => x4 i (by simp)
    have : c' = cq := by rw [x2, hs]
    rw [← this]
    exact x1
end IvD
end
section
/-! The picture of the heap: cells by number (a reference i + 3 names the cell i; 0, 1, 2 name arrays that are only read); numbers are turned to addresses by ρ, the kinds of arrays to classes by κ. -/
abbrev iv_A : Type := List va_E
def iv_r (ρ : Nat → Nat) (v : Value) : Value := match v with
  | .ref i => .ref (ρ i)
  | .int x => .int x
  | .long x => .long x
  | .float x => .float x
  | .double x => .double x
  | .null => .null
  | .retAddr x => .retAddr x
abbrev iv_X : Type := (Nat → Int32) ⊕ (Nat → Int64) ⊕ (Nat → UInt32) ⊕ (Nat → UInt64) ⊕ (Nat → Option Nat)
def iv_x (ρ : Nat → Nat) (x : iv_X) : iv_X := match x with
  | .inl f => .inl f
  | .inr (.inl f) => .inr (.inl f)
  | .inr (.inr (.inl f)) => .inr (.inr (.inl f))
  | .inr (.inr (.inr (.inl f))) => .inr (.inr (.inr (.inl f)))
  | .inr (.inr (.inr (.inr f))) => .inr (.inr (.inr (.inr (fun j => (f j).map ρ))))
def iv_e (ρ : Nat → Nat) (κ : Nat → ClassId) (e : va_E) : va_E := match e with
  | .inl a => .inl (κ a.1, a.2.1, iv_x ρ a.2.2)
  | .inr o => .inr (o.1, o.2.map (iv_r ρ))
def iv_w (ρ : Nat → Nat) (κ : Nat → ClassId) (A : iv_A) : va_W := A.mapIdx fun i e => (ρ (i + 3), iv_e ρ κ e)
def iv_vc (n : Nat) (v : Value) : Prop := ∀ i, v = .ref i → i < n + 3
def iv_ec (n : Nat) (e : va_E) : Prop := match e with
  | .inl a => ∀ f : Nat → Option Nat, a.2.2 = .inr (.inr (.inr (.inr f))) → ∀ j i, f j = some i → i < n + 3
  | .inr o => ∀ v ∈ o.2, iv_vc n v
def iv_hc (A : iv_A) : Prop := ∀ (i : Nat) (e : va_E), A[i]? = some e → iv_ec A.length e
section IvE
variable {ρ ρ' : Nat → Nat} {κ : Nat → ClassId} {A : iv_A} {i n n' : Nat} {e : va_E} {v : Value}
theorem iv_w_at (h : A[i]? = some e) : (iv_w ρ κ A)[i]? = some (ρ (i + 3), iv_e ρ κ e) := by
  simp [iv_w, List.getElem?_mapIdx, h]
theorem iv_w_set : (iv_w ρ κ A).set i (ρ (i + 3), iv_e ρ κ e) = iv_w ρ κ (A.set i e) := by
  apply List.ext_getElem?
  intro j
  simp only [iv_w, List.getElem?_set, List.getElem?_mapIdx, List.length_mapIdx]
  by_cases h : i = j
  · subst h
    by_cases hl : i < A.length <;> simp [hl]
  · simp [h]
theorem iv_w_push : iv_w ρ κ (A ++ [e]) = iv_w ρ κ A ++ [(ρ (A.length + 3), iv_e ρ κ e)] := by
  simp [iv_w, List.mapIdx_append]
theorem iv_w_len : (iv_w ρ κ A).length = A.length := by simp [iv_w]
theorem iv_vc_int (x : Int32) : iv_vc n (.int x) := fun _ h => by cases h
theorem iv_vc_long (x : Int64) : iv_vc n (.long x) := fun _ h => by cases h
theorem iv_vc_un (x : Nat) : iv_vc n (.retAddr x) := fun _ h => by cases h
theorem iv_vc_null : iv_vc n .null := fun _ h => by cases h
theorem iv_vc_mono (h : iv_vc n v) (hn : n ≤ n') : iv_vc n' v := fun i hi => Nat.lt_of_lt_of_le (h i hi) (by omega)
theorem iv_ec_mono (h : iv_ec n e) (hn : n ≤ n') : iv_ec n' e := by
  cases e with
  | inl a => exact fun f hf j i hj => Nat.lt_of_lt_of_le (h f hf j i hj) (by omega)
  | inr o => exact fun v hv => iv_vc_mono (h v hv) hn
theorem iv_r_congr (h : ∀ i, i < n + 3 → ρ' i = ρ i) (hv : iv_vc n v) : iv_r ρ' v = iv_r ρ v := by
  cases v with
  | ref i => simp only [iv_r, h i (hv i rfl)]
  | _ => rfl
theorem iv_rl_congr {vs : List Value} (h : ∀ i, i < n + 3 → ρ' i = ρ i) (hv : ∀ v ∈ vs, iv_vc n v) : vs.map (iv_r ρ') = vs.map (iv_r ρ) :=
  List.map_congr_left fun v hm => iv_r_congr h (hv v hm)
theorem iv_x_congr {x : iv_X} (h : ∀ i, i < n + 3 → ρ' i = ρ i) (hc : ∀ f : Nat → Option Nat, x = .inr (.inr (.inr (.inr f))) → ∀ j i, f j = some i → i < n + 3) : iv_x ρ' x = iv_x ρ x := by
  match x, hc with
  | .inl f, _ => rfl
  | .inr (.inl f), _ => rfl
  | .inr (.inr (.inl f)), _ => rfl
  | .inr (.inr (.inr (.inl f))), _ => rfl
  | .inr (.inr (.inr (.inr f))), hc =>
    simp only [iv_x]
    congr 4
    funext j
    cases hj : f j with
    | none => rfl
    | some i => simp only [Option.map_some, h i (hc f rfl j i hj)]
theorem iv_e_congr (h : ∀ i, i < n + 3 → ρ' i = ρ i) (hc : iv_ec n e) : iv_e ρ' κ e = iv_e ρ κ e := by
  cases e with
  | inl a => simp only [iv_e, iv_x_congr h hc]
  | inr o => simp only [iv_e, iv_rl_congr h hc]
theorem iv_w_congr (h : ∀ i, i < A.length + 3 → ρ' i = ρ i) (hc : iv_hc A) : iv_w ρ' κ A = iv_w ρ κ A := by
  apply List.ext_getElem?
  intro j
  simp only [iv_w, List.getElem?_mapIdx]
  cases hj : A[j]? with
  | none => rfl
  | some e =>
    have hlt : j < A.length := (List.getElem?_eq_some_iff.mp hj).1
    simp only [Option.map_some, h (j + 3) (by omega), iv_e_congr h (hc j e hj)]
theorem iv_hc_set (h : iv_hc A) (he : iv_ec A.length e) : iv_hc (A.set i e) := by
  intro j e' hj
  rw [List.length_set]
  rw [List.getElem?_set] at hj
  split at hj
  · split at hj
    · obtain rfl := Option.some.inj hj
      exact he
    · cases hj
  · exact h j e' hj
theorem iv_hc_push (h : iv_hc A) (he : iv_ec (A.length + 1) e) : iv_hc (A ++ [e]) := by
  intro j e' hj
  rw [List.length_append, List.length_singleton]
  rw [List.getElem?_append] at hj
  split at hj
  · exact iv_ec_mono (h j e' hj) (by omega)
  · have : j - A.length = 0 := by
      cases hz : j - A.length with
      | zero => rfl
      | succ z => rw [hz] at hj; simp at hj
    rw [this] at hj
    obtain rfl := Option.some.inj hj
    exact he
theorem iv_rf_map (x : Option Nat) : iv_r ρ (va_rf x) = va_rf (x.map ρ) := by cases x <;> rfl
theorem iv_r_cat (v : Value) : (iv_r ρ v).category = v.category := by cases v <;> rfl
end IvE
/-! the locals: a value '.retAddr _' stands for a slot of which nothing is known -/
def iv_un (v : Value) : Bool := match v with
  | .retAddr _ => true
  | _ => false
def iv_L (ρ : Nat → Nat) (nL : Nat) (ls : List Value) (lsR : Array Slot) : Prop :=
  ls.length = nL ∧ lsR.size = nL ∧ lv_wf lsR ∧ (∀ v ∈ ls, v.category = 1) ∧ ∀ (i : Nat) (v : Value), ls[i]? = some v → iv_un v = false → lsR[i]? = some (Slot.val (iv_r ρ v))
def iv_ll (ρ : Nat → Nat) (ls : List Value) : List (Nat × Value) := (List.range ls.length).filterMap fun i => match ls[i]? with
  | some v => bif iv_un v then none else some (i, iv_r ρ v)
  | none => none
section IvF
variable {ρ ρ' : Nat → Nat} {nL n i : Nat} {ls : List Value} {lsR ls' : Array Slot} {v : Value}
theorem iv_ll_mem {q : Nat × Value} : q ∈ iv_ll ρ ls ↔ ∃ v, ls[q.1]? = some v ∧ iv_un v = false ∧ q.2 = iv_r ρ v := by
  simp only [iv_ll, List.mem_filterMap, List.mem_range]
  constructor
  · rintro ⟨i, hi, h⟩
    cases hv : ls[i]? with
    | none => rw [hv] at h; cases h
    | some v =>
      rw [hv] at h
      cases hu : iv_un v with
      | true => simp [hu] at h
      | false =>
        simp [hu] at h
        subst h
        exact ⟨v, hv, hu, rfl⟩
  · rintro ⟨v, hv, hu, h2⟩
    refine ⟨q.1, (List.getElem?_eq_some_iff.mp hv).1, ?_⟩
    obtain ⟨q1, q2⟩ := q
    simp only at hv h2 ⊢
    rw [hv, h2]
    simp [hu]
theorem iv_L.has (h : iv_L ρ nL ls lsR) : lv_has lsR nL (iv_ll ρ ls) := by
  refine ⟨h.2.1, h.2.2.1, fun q hq => ?_⟩
  obtain ⟨v, hv, hu, h2⟩ := iv_ll_mem.mp hq
  rw [h2]
  exact h.2.2.2.2 q.1 v hv hu
theorem iv_L.get (h : iv_L ρ nL ls lsR) (hv : ls[i]? = some v) (hu : iv_un v = false) : lsR[i]? = some (Slot.val (iv_r ρ v)) := h.2.2.2.2 i v hv hu
theorem iv_L.put (h : iv_L ρ nL ls lsR) (hi : i < ls.length) (hv : v.category = 1) (h' : lv_has ls' nL ((i, iv_r ρ v) :: (iv_ll ρ ls).filter (fun q => !(q.1 == i) && !(q.1 + 1 == i && q.2.category == 2)))) : iv_L ρ nL (ls.set i v) ls' := by
  refine ⟨by rw [List.length_set]; exact h.1, h'.1, h'.2.1, fun x hx => ?_, fun j x hj hu => ?_⟩
  · rcases List.mem_or_eq_of_mem_set hx with h1 | h1
    · exact h.2.2.2.1 x h1
    · rw [h1]; exact hv
  · rw [List.getElem?_set] at hj
    split at hj
    · rename_i hij
      subst hij
      (try rw [if_pos hi] at hj)
      obtain rfl := Option.some.inj hj
      exact h'.2.2 (i, iv_r ρ v) (List.mem_cons_self ..)
    · rename_i hij
      have hm : (j, iv_r ρ x) ∈ iv_ll ρ ls := iv_ll_mem.mpr ⟨x, hj, hu, rfl⟩
      have hc : (iv_r ρ x).category = 1 := by rw [iv_r_cat]; exact h.2.2.2.1 x (List.mem_of_getElem? hj)
      refine h'.2.2 (j, iv_r ρ x) (List.mem_cons_of_mem _ (List.mem_filter.mpr ⟨hm, ?_⟩))
      have hji : ¬ j = i := fun q => hij q.symm
      simp [hji, hc]
theorem iv_L.congr (h : iv_L ρ nL ls lsR) (hr : ∀ i, i < n + 3 → ρ' i = ρ i) (hc : ∀ v ∈ ls, iv_vc n v) : iv_L ρ' nL ls lsR :=
  ⟨h.1, h.2.1, h.2.2.1, h.2.2.2.1, fun i v hv hu => by rw [iv_r_congr hr (hc v (List.mem_of_getElem? hv))]; exact h.2.2.2.2 i v hv hu⟩
theorem iv_L.entry {as : List Value} (ha : ∀ v ∈ as, v.category = 1) (hl : as.length ≤ nL) :
    iv_L ρ nL (as ++ List.replicate (nL - as.length) (.retAddr 0)) (((as.map (iv_r ρ)).map Slot.val ++ List.replicate (nL - (as.map (iv_r ρ)).length) Slot.unset).toArray) := by
  have hcat : ∀ w ∈ as.map (iv_r ρ), w.category = 1 := fun w hw => by
    obtain ⟨v, hv, rfl⟩ := List.mem_map.mp hw
    rw [iv_r_cat]; exact ha v hv
  refine ⟨by simp; omega, by simp; omega, ⟨fun i v h hc => ?_, fun i h => ?_⟩, fun v hv => ?_, fun i v hv hu => ?_⟩
  · exfalso
    simp only [List.getElem?_toArray, List.getElem?_append] at h
    split at h
    · simp only [List.getElem?_map, Option.map_eq_some_iff] at h
      obtain ⟨w, hw, h2⟩ := h
      obtain rfl : w = v := by injection h2
      have := hcat w (List.mem_of_getElem? (by simpa using hw))
      omega
    · simp only [List.getElem?_replicate] at h
      split at h <;> simp at h
  · exfalso
    simp only [List.getElem?_toArray, List.getElem?_append] at h
    split at h
    · simp only [List.getElem?_map, Option.map_eq_some_iff] at h
      obtain ⟨w, hw, h2⟩ := h
      cases h2
    · simp only [List.getElem?_replicate] at h
      split at h <;> simp at h
  · rcases List.mem_append.mp hv with h1 | h1
    · exact ha v h1
    · rw [(List.mem_replicate.mp h1).2]; rfl
  · rw [List.getElem?_append] at hv
    split at hv
    · rename_i hlt
      have h2 : as[i] = v := (List.getElem?_eq_some_iff.mp hv).2
      simp [List.getElem?_append, hlt, h2]
    · simp only [List.getElem?_replicate] at hv
      split at hv
      · obtain rfl := Option.some.inj hv
        cases hu
      · cases hv
end IvF
end
section
/-! The machine of the picture, its steps told by what goes on behind them (k). -/
abbrev iv_R : Type := (Option Value ⊕ Nat) × iv_A
abbrev iv_K : Type := Nat → Nat → List Value → List Value → iv_A → Nat → Nat → Option iv_R
def iv_lk (pc : Nat) : List (Nat × Instr) → Option Instr
  | [] => none
  | q :: t => bif Nat.beq q.1 pc then some q.2 else iv_lk pc t
def iv_bin (f : Int32 → Int32 → Int32) (st : List Value) (k : List Value → Option iv_R) : Option iv_R := match st with
  | .int y :: .int x :: r => k (.int (f x y) :: r)
  | _ => none
def iv_dv (f : Int32 → Int32 → Int32) (st : List Value) (k : List Value → Option iv_R) : Option iv_R := match st with
  | .int y :: .int x :: r => bif y == 0 then none else k (.int (f x y) :: r)
  | _ => none
def iv_ldi (ls : List Value) (i : Nat) (k : Value → Option iv_R) : Option iv_R := match ls[i]? with
  | some (.int x) => k (.int x)
  | _ => none
def iv_lda (ls : List Value) (i : Nat) (k : Value → Option iv_R) : Option iv_R := match ls[i]? with
  | some (.ref x) => k (.ref x)
  | _ => none
def iv_sti (ls : List Value) (i : Nat) (st : List Value) (k : List Value → List Value → Option iv_R) : Option iv_R := match st with
  | .int x :: r => bif decide (i < ls.length) then k (ls.set i (.int x)) r else none
  | _ => none
def iv_sta (ls : List Value) (i : Nat) (st : List Value) (k : List Value → List Value → Option iv_R) : Option iv_R := match st with
  | .ref x :: r => bif decide (i < ls.length) then k (ls.set i (.ref x)) r else none
  | _ => none
def iv_inc (ls : List Value) (i : Nat) (n : Int) (k : List Value → Option iv_R) : Option iv_R := match ls[i]? with
  | some (.int x) => k (ls.set i (.int (x + Int32.ofInt n)))
  | _ => none
def iv_jp (pc : Nat) (off : Int) (k : Nat → Option iv_R) : Option iv_R := match (pc : Int) + off with
  | .ofNat t => k t
  | .negSucc _ => none
def iv_if1 (b : Int32 → Bool) (st : List Value) (kt kf : List Value → Option iv_R) : Option iv_R := match st with
  | .int x :: r => bif b x then kt r else kf r
  | _ => none
def iv_if2 (b : Int32 → Int32 → Bool) (st : List Value) (kt kf : List Value → Option iv_R) : Option iv_R := match st with
  | .int y :: .int x :: r => bif b x y then kt r else kf r
  | _ => none
def iv_dup (st : List Value) (k : List Value → Option iv_R) : Option iv_R := match st with
  | .int x :: r => k (.int x :: .int x :: r)
  | .ref x :: r => k (.ref x :: .ref x :: r)
  | _ => none
def iv_dup2 (st : List Value) (k : List Value → Option iv_R) : Option iv_R := match st with
  | .int x :: .ref y :: r => k (.int x :: .ref y :: .int x :: .ref y :: r)
  | _ => none
def iv_i2l (st : List Value) (k : List Value → Option iv_R) : Option iv_R := match st with
  | .int x :: r => k (.long x.toInt64 :: r)
  | _ => none
def iv_lcmp (st : List Value) (k : List Value → Option iv_R) : Option iv_R := match st with
  | .long y :: .long x :: r => k (.int (lg_cmp x y) :: r)
  | _ => none
def iv_tsw (lo hi dflt : Int) (offs : Array Int) (st : List Value) (k : Int → List Value → Option iv_R) : Option iv_R := match st with
  | .int x :: r => bif decide (x.toInt < lo) || decide (hi < x.toInt) then k dflt r else match offs[(x.toInt - lo).toNat]? with
    | some o => k o r
    | none => none
  | _ => none
def iv_in (j : Int32) (n : Nat) : Bool := !(decide (j < 0)) && decide (j.toNatClampNeg < n)
def iv_gf (A : iv_A) (ci f : Nat) (st : List Value) (k : List Value → Option iv_R) : Option iv_R := match st with
  | .ref (i + 3) :: r => match A[i]? with
    | some (.inr o) => bif Nat.beq o.1 ci then (match o.2[f]? with
      | some v => k (v :: r)
      | none => none) else none
    | _ => none
  | _ => none
def iv_fit (ty : FieldType) (v : Value) : Bool := match ty, v with
  | .int, .int _ => true
  | .boolean, .int x => x == 0 || x == 1
  | .object _, .ref _ => true
  | .array _, .ref _ => true
  | _, _ => false
def iv_pf (A : iv_A) (ci f : Nat) (ty : FieldType) (st : List Value) (k : iv_A → List Value → Option iv_R) : Option iv_R := match st with
  | v :: .ref (i + 3) :: r => match A[i]? with
    | some (.inr o) => bif Nat.beq o.1 ci && iv_fit ty v && decide (f < o.2.length) then k (A.set i (.inr (ci, o.2.set f v))) r else none
    | _ => none
  | _ => none
def iv_ia (X : Nat → Option (Nat × (Nat → Int32))) (A : iv_A) (kd i : Nat) : Option (Nat × (Nat → Int32)) := match i with
  | i + 3 => match A[i]? with
    | some (.inl (q, n, .inl f)) => bif Nat.beq q kd then some (n, f) else none
    | _ => none
  | i => bif Nat.beq kd 0 then X i else none
def iv_ald (X : Nat → Option (Nat × (Nat → Int32))) (A : iv_A) (kd : Nat) (st : List Value) (k : List Value → Option iv_R) : Option iv_R := match st with
  | .int j :: .ref i :: r => match iv_ia X A kd i with
    | some (n, f) => bif iv_in j n then k (.int (f j.toNatClampNeg) :: r) else none
    | none => none
  | _ => none
def iv_ast (A : iv_A) (kd : Nat) (g : Int32 → Int32) (st : List Value) (k : iv_A → List Value → Option iv_R) : Option iv_R := match st with
  | .int x :: .int j :: .ref (i + 3) :: r => match A[i]? with
    | some (.inl (q, n, .inl f)) => bif Nat.beq q kd && iv_in j n then k (A.set i (.inl (kd, n, .inl (upd f j.toNatClampNeg (g x))))) r else none
    | _ => none
  | _ => none
def iv_lld (A : iv_A) (st : List Value) (k : List Value → Option iv_R) : Option iv_R := match st with
  | .int j :: .ref (i + 3) :: r => match A[i]? with
    | some (.inl (q, n, .inr (.inl f))) => bif Nat.beq q 2 && iv_in j n then k (.long (f j.toNatClampNeg) :: r) else none
    | _ => none
  | _ => none
def iv_lst (A : iv_A) (st : List Value) (k : iv_A → List Value → Option iv_R) : Option iv_R := match st with
  | .long x :: .int j :: .ref (i + 3) :: r => match A[i]? with
    | some (.inl (q, n, .inr (.inl f))) => bif Nat.beq q 2 && iv_in j n then k (A.set i (.inl (2, n, .inr (.inl (vp_updL f j.toNatClampNeg x))))) r else none
    | _ => none
  | _ => none
/-- arrays of references: the kind 3 + ci holds objects of the class ci -/
def iv_rld (kt : Nat → Option String) (A : iv_A) (st : List Value) (k : List Value → Option iv_R) : Option iv_R := match st with
  | .int j :: .ref (i + 3) :: r => match A[i]? with
    | some (.inl (q, n, .inr (.inr (.inr (.inr f))))) => bif (kt q).isSome && iv_in j n then k (va_rf (f j.toNatClampNeg) :: r) else none
    | _ => none
  | _ => none
def iv_rst (kt : Nat → Option String) (A : iv_A) (st : List Value) (k : iv_A → List Value → Option iv_R) : Option iv_R := match st with
  | .ref (v + 3) :: .int j :: .ref (i + 3) :: r => match A[i]?, A[v]? with
    | some (.inl (q, n, .inr (.inr (.inr (.inr f))))), some (.inr o) => bif Nat.beq q (o.1 + 3) && (kt q).isSome && iv_in j n then k (A.set i (.inl (q, n, .inr (.inr (.inr (.inr (va_up f j.toNatClampNeg (some (v + 3))))))))) r else none
    | _, _ => none
  | _ => none
def iv_ln (X : Nat → Option (Nat × (Nat → Int32))) (kk : Nat → Bool) (A : iv_A) (i : Nat) : Option Nat := match i with
  | i + 3 => match A[i]? with
    | some (.inl a) => bif kk a.1 then some a.2.1 else none
    | _ => none
  | i => match X i with
    | some a => some a.1
    | none => none
def iv_len (X : Nat → Option (Nat × (Nat → Int32))) (kk : Nat → Bool) (A : iv_A) (st : List Value) (k : List Value → Option iv_R) : Option iv_R := match st with
  | .ref i :: r => match iv_ln X kk A i with
    | some n => k (.int (Int32.ofNat n) :: r)
    | none => none
  | _ => none
end
section
/-! One step of the machine of the picture is a walk of the machine itself. -/
def iv_Wd (p : Program) (l : Launch) (e : Env) (R : Room) (s : State) (m : MethodId) (args : Array Value) (below : List Frame) (meth : Method) (c : Code) (Q : State → Prop) (D : va_G) (cl : List vw_C) (κ : Nat → ClassId) (Fr : Nat → Prop) (nL : Nat) (ρ0 : Nat → Nat) (n0 : Nat) (pc : Nat) (ls st : List Value) (A : iv_A) (cells slots : Nat) : Prop :=
  ∀ (ρ : Nat → Nat) (H : Heap) (locs : List Loc) (lsR : Array Slot), (∀ i, i < n0 + 3 → ρ i = ρ0 i) → n0 ≤ A.length → iv_hc A → (∀ v ∈ ls, iv_vc A.length v) → (∀ v ∈ st, iv_vc A.length v) → iv_L ρ nL ls lsR →
    va_P D cl (iv_w ρ κ A) H → va_D Fr (iv_w ρ κ A) → va_S Fr s.heap H locs → W p l e R s m args below meth c H locs cells slots Q (F0 m pc lsR (st.map (iv_r ρ)))
section IvG
variable {p : Program} {l : Launch} {e : Env} {R : Room} {s : State} {m : MethodId} {args : Array Value} {below : List Frame} {meth : Method} {c : Code} {Q : State → Prop} {D : va_G} {cl : List vw_C} {κ : Nat → ClassId} {Fr : Nat → Prop} {nL : Nat} {ρ0 : Nat → Nat} {n0 : Nat}
variable {pc pc' : Nat} {ls st st' r : List Value} {A : iv_A} {cells slots : Nat} {cc : ByteArray} {res : iv_R}
/-- the stack alone turns -/
theorem iv_s (row : ∀ (ρ : Nat → Nat) (H : Heap) (L : List Loc) (lsR : Array Slot), iv_L ρ nL ls lsR → va_P D cl (iv_w ρ κ A) H → va_S Fr s.heap H L → (∀ i, i < n0 + 3 → ρ i = ρ0 i) → W p l e R s m args below meth c H L cells slots Q (F0 m pc' lsR (st'.map (iv_r ρ))) → W p l e R s m args below meth c H L cells slots Q (F0 m pc lsR (st.map (iv_r ρ))))
    (hc : iv_hc A → (∀ v ∈ ls, iv_vc A.length v) → (∀ v ∈ st, iv_vc A.length v) → ∀ v ∈ st', iv_vc A.length v) (hk : iv_Wd p l e R s m args below meth c Q D cl κ Fr nL ρ0 n0 pc' ls st' A cells slots) : iv_Wd p l e R s m args below meth c Q D cl κ Fr nL ρ0 n0 pc ls st A cells slots :=
  fun ρ H L lsR h1 h2 h3 h4 h5 h6 h7 h8 h9 => row ρ H L lsR h6 h7 h9 h1 (hk ρ H L lsR h1 h2 h3 h4 (hc h3 h4 h5) h6 h7 h8 h9)
theorem iv_c1 {n : Nat} {v : Value} (hv : iv_vc n v) (h : ∀ v ∈ r, iv_vc n v) : ∀ w ∈ v :: r, iv_vc n w := fun w hw => by
  rcases List.mem_cons.mp hw with rfl | h1
  · exact hv
  · exact h w h1
theorem iv_ct {n : Nat} {v : Value} (h : ∀ w ∈ v :: r, iv_vc n w) : ∀ w ∈ r, iv_vc n w := fun w hw => h w (List.mem_cons_of_mem _ hw)
theorem iv_ch {n : Nat} {v : Value} (h : ∀ w ∈ v :: r, iv_vc n w) : iv_vc n v := h v (List.mem_cons_self ..)
theorem iv_s_push (x : Int32) (row : ∀ (H : Heap) (L : List Loc) (lsR : Array Slot) (rest : List Value), W p l e R s m args below meth c H L cells slots Q (F0 m pc' lsR (.int x :: rest)) → W p l e R s m args below meth c H L cells slots Q (F0 m pc lsR rest))
    (hk : iv_Wd p l e R s m args below meth c Q D cl κ Fr nL ρ0 n0 pc' ls (.int x :: st) A cells slots) : iv_Wd p l e R s m args below meth c Q D cl κ Fr nL ρ0 n0 pc ls st A cells slots :=
  iv_s (fun ρ H L lsR _ _ _ _ w => row H L lsR _ w) (fun _ _ h => iv_c1 (iv_vc_int x) h) hk
theorem iv_s_bin {f : Int32 → Int32 → Int32} {k : List Value → Option iv_R} (hr : iv_bin f st k = some res)
    (row : ∀ (H : Heap) (L : List Loc) (lsR : Array Slot) (rest : List Value) (x y : Int32), W p l e R s m args below meth c H L cells slots Q (F0 m pc' lsR (.int (f x y) :: rest)) → W p l e R s m args below meth c H L cells slots Q (F0 m pc lsR (.int y :: .int x :: rest)))
    (hk : ∀ st', k st' = some res → iv_Wd p l e R s m args below meth c Q D cl κ Fr nL ρ0 n0 pc' ls st' A cells slots) : iv_Wd p l e R s m args below meth c Q D cl κ Fr nL ρ0 n0 pc ls st A cells slots := by
  unfold iv_bin at hr
  split at hr
  · exact iv_s (fun ρ H L lsR _ _ _ _ w => row H L lsR _ _ _ w) (fun _ _ h => iv_c1 (iv_vc_int _) (iv_ct (iv_ct h))) (hk _ hr)
  · cases hr
theorem iv_s_dv {f : Int32 → Int32 → Int32} {k : List Value → Option iv_R} (hr : iv_dv f st k = some res)
    (row : ∀ (H : Heap) (L : List Loc) (lsR : Array Slot) (rest : List Value) (x y : Int32), ¬ y = 0 → W p l e R s m args below meth c H L cells slots Q (F0 m pc' lsR (.int (f x y) :: rest)) → W p l e R s m args below meth c H L cells slots Q (F0 m pc lsR (.int y :: .int x :: rest)))
    (hk : ∀ st', k st' = some res → iv_Wd p l e R s m args below meth c Q D cl κ Fr nL ρ0 n0 pc' ls st' A cells slots) : iv_Wd p l e R s m args below meth c Q D cl κ Fr nL ρ0 n0 pc ls st A cells slots := by
  unfold iv_dv at hr
  split at hr
  · rename_i y x rest
    cases hy : y == 0 with
    | true => rw [hy] at hr; cases hr
    | false =>
      rw [hy] at hr
      exact iv_s (fun ρ H L lsR _ _ _ _ w => row H L lsR _ _ _ (by simpa using hy) w) (fun _ _ h => iv_c1 (iv_vc_int _) (iv_ct (iv_ct h))) (hk _ hr)
  · cases hr
theorem iv_s_ldi {i : Nat} {k : Value → Option iv_R} (hr : iv_ldi ls i k = some res)
    (row : ∀ (H : Heap) (L : List Loc) (lsR : Array Slot) (rest : List Value) (x : Int32), lsR[i]? = some (.val (.int x)) → W p l e R s m args below meth c H L cells slots Q (F0 m pc' lsR (.int x :: rest)) → W p l e R s m args below meth c H L cells slots Q (F0 m pc lsR rest))
    (hk : ∀ v, k v = some res → iv_Wd p l e R s m args below meth c Q D cl κ Fr nL ρ0 n0 pc' ls (v :: st) A cells slots) : iv_Wd p l e R s m args below meth c Q D cl κ Fr nL ρ0 n0 pc ls st A cells slots := by
  unfold iv_ldi at hr
  split at hr
  · rename_i x hx
    exact iv_s (fun ρ H L lsR hL _ _ _ w => row H L lsR _ x (hL.get hx rfl) w) (fun _ _ h => iv_c1 (iv_vc_int _) h) (hk _ hr)
  · cases hr
theorem iv_s_lda {i : Nat} {k : Value → Option iv_R} (hr : iv_lda ls i k = some res)
    (row : ∀ (H : Heap) (L : List Loc) (lsR : Array Slot) (rest : List Value) (x : Nat), lsR[i]? = some (.val (.ref x)) → W p l e R s m args below meth c H L cells slots Q (F0 m pc' lsR (.ref x :: rest)) → W p l e R s m args below meth c H L cells slots Q (F0 m pc lsR rest))
    (hk : ∀ v, k v = some res → iv_Wd p l e R s m args below meth c Q D cl κ Fr nL ρ0 n0 pc' ls (v :: st) A cells slots) : iv_Wd p l e R s m args below meth c Q D cl κ Fr nL ρ0 n0 pc ls st A cells slots := by
  unfold iv_lda at hr
  split at hr
  · rename_i x hx
    exact iv_s (fun ρ H L lsR hL _ _ _ w => row H L lsR _ (ρ x) (hL.get hx rfl) w) (fun _ hl h => iv_c1 (hl _ (List.mem_of_getElem? hx)) h) (hk _ hr)
  · cases hr
/-- the locals and the stack turn -/
theorem iv_s_loc {i : Nat} {v : Value} (hi : i < ls.length) (hv : v.category = 1) (hvc : (∀ v ∈ ls, iv_vc A.length v) → (∀ w ∈ st, iv_vc A.length w) → iv_vc A.length v) (hst : ∀ w ∈ st', w ∈ st)
    (row : ∀ (ρ : Nat → Nat) (H : Heap) (L : List Loc) (lsR : Array Slot), iv_L ρ nL ls lsR → i < nL → lv_has lsR nL (iv_ll ρ ls) →
      (∀ ls' : Array Slot, lv_has ls' nL ((i, iv_r ρ v) :: (iv_ll ρ ls).filter (fun q => !(q.1 == i) && !(q.1 + 1 == i && q.2.category == 2))) → W p l e R s m args below meth c H L cells slots Q (F0 m pc' ls' (st'.map (iv_r ρ)))) → W p l e R s m args below meth c H L cells slots Q (F0 m pc lsR (st.map (iv_r ρ))))
    (hk : iv_Wd p l e R s m args below meth c Q D cl κ Fr nL ρ0 n0 pc' (ls.set i v) st' A cells slots) : iv_Wd p l e R s m args below meth c Q D cl κ Fr nL ρ0 n0 pc ls st A cells slots := by
  intro ρ H L lsR h1 h2 h3 h4 h5 h6 h7 h8 h9
  refine row ρ H L lsR h6 (by rw [← h6.1]; exact hi) h6.has (fun ls' h' => ?_)
  refine hk ρ H L ls' h1 h2 h3 (fun w hw => ?_) (fun w hw => h5 w (hst w hw)) (h6.put hi hv h') h7 h8 h9
  rcases List.mem_or_eq_of_mem_set hw with q | q
  · exact h4 w q
  · rw [q]; exact hvc h4 h5
theorem iv_s_sti {i : Nat} {k : List Value → List Value → Option iv_R} (hr : iv_sti ls i st k = some res)
    (row : ∀ (H : Heap) (L : List Loc) (lsR : Array Slot) (lv : List (Nat × Value)) (rest : List Value) (x : Int32), lv_has lsR nL lv → i < nL →
      (∀ ls' : Array Slot, lv_has ls' nL ((i, Value.int x) :: lv.filter (fun q => !(q.1 == i) && !(q.1 + 1 == i && q.2.category == 2))) → W p l e R s m args below meth c H L cells slots Q (F0 m pc' ls' rest)) → W p l e R s m args below meth c H L cells slots Q (F0 m pc lsR (.int x :: rest)))
    (hk : ∀ ls' st', k ls' st' = some res → iv_Wd p l e R s m args below meth c Q D cl κ Fr nL ρ0 n0 pc' ls' st' A cells slots) : iv_Wd p l e R s m args below meth c Q D cl κ Fr nL ρ0 n0 pc ls st A cells slots := by
  unfold iv_sti at hr
  split at hr
  · rename_i x rest
    cases hd : decide (i < ls.length) with
    | false => rw [hd] at hr; cases hr
    | true =>
      rw [hd] at hr
      exact iv_s_loc (v := .int x) (of_decide_eq_true hd) rfl (fun _ _ => iv_vc_int x) (fun w hw => List.mem_cons_of_mem _ hw) (fun ρ H L lsR _ h1 h2 w => row H L lsR _ _ x h2 h1 w) (hk _ _ hr)
  · cases hr
theorem iv_s_sta {i : Nat} {k : List Value → List Value → Option iv_R} (hr : iv_sta ls i st k = some res)
    (row : ∀ (H : Heap) (L : List Loc) (lsR : Array Slot) (lv : List (Nat × Value)) (rest : List Value) (x : Nat), lv_has lsR nL lv → i < nL →
      (∀ ls' : Array Slot, lv_has ls' nL ((i, Value.ref x) :: lv.filter (fun q => !(q.1 == i) && !(q.1 + 1 == i && q.2.category == 2))) → W p l e R s m args below meth c H L cells slots Q (F0 m pc' ls' rest)) → W p l e R s m args below meth c H L cells slots Q (F0 m pc lsR (.ref x :: rest)))
    (hk : ∀ ls' st', k ls' st' = some res → iv_Wd p l e R s m args below meth c Q D cl κ Fr nL ρ0 n0 pc' ls' st' A cells slots) : iv_Wd p l e R s m args below meth c Q D cl κ Fr nL ρ0 n0 pc ls st A cells slots := by
  unfold iv_sta at hr
  split at hr
  · rename_i x rest
    cases hd : decide (i < ls.length) with
    | false => rw [hd] at hr; cases hr
    | true =>
      rw [hd] at hr
      exact iv_s_loc (v := .ref x) (of_decide_eq_true hd) rfl (fun _ h => iv_ch h) (fun w hw => List.mem_cons_of_mem _ hw) (fun ρ H L lsR _ h1 h2 w => row H L lsR _ _ (ρ x) h2 h1 w) (hk _ _ hr)
  · cases hr
theorem iv_s_inc {i : Nat} {z : Int} {k : List Value → Option iv_R} (hr : iv_inc ls i z k = some res) (hx : p.tables.exec = Jvm.exec) (hb : c.code = cc) (hd : decode cc pc = .ok (.iinc i z, 3))
    (hk : ∀ ls', k ls' = some res → iv_Wd p l e R s m args below meth c Q D cl κ Fr nL ρ0 n0 (pc + 3) ls' st A cells slots) : iv_Wd p l e R s m args below meth c Q D cl κ Fr nL ρ0 n0 pc ls st A cells slots := by
  unfold iv_inc at hr
  split at hr
  · rename_i x hxi
    have hi : i < ls.length := (List.getElem?_eq_some_iff.mp hxi).1
    refine iv_s_loc (v := .int (x + Int32.ofInt z)) hi rfl (fun _ _ => iv_vc_int _) (fun w hw => hw) (fun ρ H L lsR _ h1 h2 w => ?_) (hk _ hr)
    obtain ⟨q, hq⟩ := List.getElem?_of_mem (iv_ll_mem (ρ := ρ) (q := (i, .int x)).mpr ⟨.int x, hxi, rfl, rfl⟩)
    exact lv_iinc hx hb hd h2 hq rfl h1 rfl w
  · cases hr
theorem iv_s_jp {off : Int} {k : Nat → Option iv_R} (hr : iv_jp pc off k = some res) (hx : p.tables.exec = Jvm.exec) (hb : c.code = cc) (hd : decode cc pc = .ok (.goto off, 3))
    (hk : ∀ t, k t = some res → iv_Wd p l e R s m args below meth c Q D cl κ Fr nL ρ0 n0 t ls st A cells slots) : iv_Wd p l e R s m args below meth c Q D cl κ Fr nL ρ0 n0 pc ls st A cells slots := by
  unfold iv_jp at hr
  split at hr
  · rename_i t ht
    exact iv_s (fun ρ H L lsR _ _ _ _ w => lv_goto hx hb hd ht w) (fun _ _ h => h) (hk _ hr)
  · cases hr
theorem iv_icmp {H : Heap} {L : List Loc} {lsR : Array Slot} {rest : List Value} (hx : p.tables.exec = Jvm.exec) (hb : c.code = cc) {q : ClassFile.Cond} {off : Int} {tgt : Nat} {x y : Int32} (hd : decode cc pc = .ok (.if_icmp q off, 3)) (ht : (pc : Int) + off = (tgt : Int))
    (kt : Op.if_icmp.holds q x y = true → W p l e R s m args below meth c H L cells slots Q (F0 m tgt lsR rest)) (kf : Op.if_icmp.holds q x y = false → W p l e R s m args below meth c H L cells slots Q (F0 m (pc + 3) lsR rest)) : W p l e R s m args below meth c H L cells slots Q (F0 m pc lsR (.int y :: .int x :: rest)) := by
  intro T hT X
  cases hP : Op.if_icmp.holds q x y with
  | true =>
    obtain ⟨t, a, b⟩ := kt hP T hT X
    refine ⟨t, ?_, b⟩
    jvm_step X.here [X.here.top, hx, hb, hd, hP, ht]
    exact a
  | false =>
    obtain ⟨t, a, b⟩ := kf hP T hT X
    refine ⟨t, ?_, b⟩
    jvm_step X.here [X.here.top, hx, hb, hd, hP, ht]
    exact a
theorem iv_ifc {H : Heap} {L : List Loc} {lsR : Array Slot} {rest : List Value} (hx : p.tables.exec = Jvm.exec) (hb : c.code = cc) {q : ClassFile.Cond} {off : Int} {tgt : Nat} {x : Int32} (hd : decode cc pc = .ok (.ifCond q off, 3)) (ht : (pc : Int) + off = (tgt : Int))
    (kt : Op.ifCond.holds q x = true → W p l e R s m args below meth c H L cells slots Q (F0 m tgt lsR rest)) (kf : Op.ifCond.holds q x = false → W p l e R s m args below meth c H L cells slots Q (F0 m (pc + 3) lsR rest)) : W p l e R s m args below meth c H L cells slots Q (F0 m pc lsR (.int x :: rest)) := by
  intro T hT X
  cases hP : Op.ifCond.holds q x with
  | true =>
    obtain ⟨t, a, b⟩ := kt hP T hT X
    refine ⟨t, ?_, b⟩
    jvm_step X.here [X.here.top, hx, hb, hd, hP, ht]
    exact a
  | false =>
    obtain ⟨t, a, b⟩ := kf hP T hT X
    refine ⟨t, ?_, b⟩
    jvm_step X.here [X.here.top, hx, hb, hd, hP, ht]
    exact a
/-- both roads of a branch -/
theorem iv_s_if2 {q : ClassFile.Cond} {off : Int} {kt kf : List Value → Option iv_R} (hr : iv_if2 (Op.if_icmp.holds q) st kt kf = some res) (hx : p.tables.exec = Jvm.exec) (hb : c.code = cc) {tgt : Nat} (hd : decode cc pc = .ok (.if_icmp q off, 3)) (ht : (pc : Int) + off = (tgt : Int))
    (hkt : ∀ st', kt st' = some res → iv_Wd p l e R s m args below meth c Q D cl κ Fr nL ρ0 n0 tgt ls st' A cells slots) (hkf : ∀ st', kf st' = some res → iv_Wd p l e R s m args below meth c Q D cl κ Fr nL ρ0 n0 (pc + 3) ls st' A cells slots) : iv_Wd p l e R s m args below meth c Q D cl κ Fr nL ρ0 n0 pc ls st A cells slots := by
  unfold iv_if2 at hr
  split at hr
  · rename_i y x rest
    intro ρ H L lsR h1 h2 h3 h4 h5 h6 h7 h8 h9
    refine iv_icmp hx hb hd ht (fun hP => ?_) (fun hP => ?_)
    · rw [hP] at hr
      exact hkt _ hr ρ H L lsR h1 h2 h3 h4 (iv_ct (iv_ct h5)) h6 h7 h8 h9
    · rw [hP] at hr
      exact hkf _ hr ρ H L lsR h1 h2 h3 h4 (iv_ct (iv_ct h5)) h6 h7 h8 h9
  · cases hr
theorem iv_s_if1 {q : ClassFile.Cond} {off : Int} {kt kf : List Value → Option iv_R} (hr : iv_if1 (Op.ifCond.holds q) st kt kf = some res) (hx : p.tables.exec = Jvm.exec) (hb : c.code = cc) {tgt : Nat} (hd : decode cc pc = .ok (.ifCond q off, 3)) (ht : (pc : Int) + off = (tgt : Int))
    (hkt : ∀ st', kt st' = some res → iv_Wd p l e R s m args below meth c Q D cl κ Fr nL ρ0 n0 tgt ls st' A cells slots) (hkf : ∀ st', kf st' = some res → iv_Wd p l e R s m args below meth c Q D cl κ Fr nL ρ0 n0 (pc + 3) ls st' A cells slots) : iv_Wd p l e R s m args below meth c Q D cl κ Fr nL ρ0 n0 pc ls st A cells slots := by
  unfold iv_if1 at hr
  split at hr
  · rename_i x rest
    intro ρ H L lsR h1 h2 h3 h4 h5 h6 h7 h8 h9
    refine iv_ifc hx hb hd ht (fun hP => ?_) (fun hP => ?_)
    · rw [hP] at hr
      exact hkt _ hr ρ H L lsR h1 h2 h3 h4 (iv_ct h5) h6 h7 h8 h9
    · rw [hP] at hr
      exact hkf _ hr ρ H L lsR h1 h2 h3 h4 (iv_ct h5) h6 h7 h8 h9
  · cases hr
theorem iv_s_dup {k : List Value → Option iv_R} (hr : iv_dup st k = some res) (hx : p.tables.exec = Jvm.exec) (hb : c.code = cc) (hd : decode cc pc = .ok (.dup, 1))
    (hk : ∀ st', k st' = some res → iv_Wd p l e R s m args below meth c Q D cl κ Fr nL ρ0 n0 (pc + 1) ls st' A cells slots) : iv_Wd p l e R s m args below meth c Q D cl κ Fr nL ρ0 n0 pc ls st A cells slots := by
  unfold iv_dup at hr
  split at hr
  · exact iv_s (fun ρ H L lsR _ _ _ _ w => lv_dup hx hb hd rfl w) (fun _ _ h => iv_c1 (iv_ch h) h) (hk _ hr)
  · exact iv_s (fun ρ H L lsR _ _ _ _ w => lv_dup hx hb hd rfl w) (fun _ _ h => iv_c1 (iv_ch h) h) (hk _ hr)
  · cases hr
theorem iv_s_dup2 {k : List Value → Option iv_R} (hr : iv_dup2 st k = some res) (hx : p.tables.exec = Jvm.exec) (hb : c.code = cc) (hd : decode cc pc = .ok (.dup2, 1))
    (hk : ∀ st', k st' = some res → iv_Wd p l e R s m args below meth c Q D cl κ Fr nL ρ0 n0 (pc + 1) ls st' A cells slots) : iv_Wd p l e R s m args below meth c Q D cl κ Fr nL ρ0 n0 pc ls st A cells slots := by
  unfold iv_dup2 at hr
  split at hr
  · exact iv_s (fun ρ H L lsR _ _ _ _ w => lv_dup2_11 hx hb hd rfl rfl w) (fun _ _ h => iv_c1 (iv_ch h) (iv_c1 (iv_ch (iv_ct h)) h)) (hk _ hr)
  · cases hr
theorem iv_s_i2l {k : List Value → Option iv_R} (hr : iv_i2l st k = some res) (hx : p.tables.exec = Jvm.exec) (hb : c.code = cc) (hd : decode cc pc = .ok (.i2l, 1))
    (hk : ∀ st', k st' = some res → iv_Wd p l e R s m args below meth c Q D cl κ Fr nL ρ0 n0 (pc + 1) ls st' A cells slots) : iv_Wd p l e R s m args below meth c Q D cl κ Fr nL ρ0 n0 pc ls st A cells slots := by
  unfold iv_i2l at hr
  split at hr
  · exact iv_s (fun ρ H L lsR _ _ _ _ w => lv_i2l hx hb hd rfl w) (fun _ _ h => iv_c1 (iv_vc_long _) (iv_ct h)) (hk _ hr)
  · cases hr
theorem iv_s_lcmp {k : List Value → Option iv_R} (hr : iv_lcmp st k = some res) (hx : p.tables.exec = Jvm.exec) (hb : c.code = cc) (hd : decode cc pc = .ok (.lcmp, 1))
    (hk : ∀ st', k st' = some res → iv_Wd p l e R s m args below meth c Q D cl κ Fr nL ρ0 n0 (pc + 1) ls st' A cells slots) : iv_Wd p l e R s m args below meth c Q D cl κ Fr nL ρ0 n0 pc ls st A cells slots := by
  unfold iv_lcmp at hr
  split at hr
  · exact iv_s (fun ρ H L lsR _ _ _ _ w => W.lcmp hx hb hd w) (fun _ _ h => iv_c1 (iv_vc_int _) (iv_ct (iv_ct h))) (hk _ hr)
  · cases hr
theorem iv_s_tsw {lo hi dflt : Int} {offs : Array Int} {len : Nat} {k : Int → List Value → Option iv_R} (hr : iv_tsw lo hi dflt offs st k = some res) (hx : p.tables.exec = Jvm.exec) (hb : c.code = cc) (hd : decode cc pc = .ok (.tableswitch dflt lo hi offs, len))
    (hk : ∀ o st', k o st' = some res → ∃ tgt : Nat, (pc : Int) + o = (tgt : Int) ∧ iv_Wd p l e R s m args below meth c Q D cl κ Fr nL ρ0 n0 tgt ls st' A cells slots) : iv_Wd p l e R s m args below meth c Q D cl κ Fr nL ρ0 n0 pc ls st A cells slots := by
  unfold iv_tsw at hr
  split at hr
  · rename_i x rest
    cases hb1 : decide (x.toInt < lo) || decide (hi < x.toInt) with
    | true =>
      rw [hb1] at hr
      obtain ⟨tgt, ht, hw⟩ := hk _ _ hr
      exact iv_s (fun ρ H L lsR _ _ _ _ w => lv_tableOut hx hb hd (by simpa using hb1) ht w) (fun _ _ h => iv_ct h) hw
    | false =>
      rw [hb1] at hr
      have h2 : ¬ x.toInt < lo ∧ ¬ hi < x.toInt := by simpa using hb1
      simp only [cond_false] at hr
      split at hr
      · rename_i o ho
        obtain ⟨tgt, ht, hw⟩ := hk _ _ hr
        exact iv_s (fun ρ H L lsR _ _ _ _ w => lv_tableIn hx hb hd h2.1 h2.2 ho ht w) (fun _ _ h => iv_ct h) hw
      · cases hr
  · cases hr
end IvG
end
section
/-! Steps that read, write or make cells. -/
theorem iv_fit_ok {ρ : Nat → Nat} {ty : FieldType} {v : Value} (h : iv_fit ty v = true) : narrow ty (iv_r ρ v) = iv_r ρ v ∧ fits ty (iv_r ρ v) = true := by
  unfold iv_fit at h
  split at h
  · exact ⟨rfl, rfl⟩
  · rename_i x
    simp only [Bool.or_eq_true, beq_iff_eq] at h
    rcases h with rfl | rfl
    · exact ⟨show narrow .boolean (.int 0) = .int 0 from by decide, show fits .boolean (.int 0) = true from by decide⟩
    · exact ⟨show narrow .boolean (.int 1) = .int 1 from by decide, show fits .boolean (.int 1) = true from by decide⟩
  · exact ⟨rfl, rfl⟩
  · exact ⟨rfl, rfl⟩
  · cases h
theorem iv_in_ok {j : Int32} {n : Nat} (h : iv_in j n = true) : vp_in j n := by
  simp only [iv_in, Bool.and_eq_true, Bool.not_eq_true', decide_eq_false_iff_not, decide_eq_true_eq] at h
  intro q
  rcases q with q | q
  · exact h.1 q
  · exact Nat.not_le.mpr h.2 q
section IvH
variable {p : Program} {l : Launch} {e : Env} {R : Room} {s : State} {m : MethodId} {args : Array Value} {below : List Frame} {meth : Method} {c : Code} {Q : State → Prop} {D : va_G} {cl : List vw_C} {κ : Nat → ClassId} {Fr : Nat → Prop} {nL : Nat} {ρ0 : Nat → Nat} {n0 : Nat}
variable {pc pc' : Nat} {ls st st' r : List Value} {A : iv_A} {cells slots : Nat} {cc : ByteArray} {res : iv_R} {tys : List (ClassId × FieldType)} {Ts : List Cond} {own C host : String} {T : u_T} {N ci f idx : Nat}
theorem iv_s_gf {k : List Value → Option iv_R} (hr : iv_gf A ci f st k = some res) (hx : p.tables.exec = Jvm.exec) (hb : c.code = cc) (hts : ∀ w ∈ Ts, w.before args s = true) (hin : ∀ w ∈ u_ws C T N, w ∈ Ts) (hown : s.vm.findClass own = some m.cls) (hK : va_K D cl tys s) (hc : cl[ci]? = some (C, T, N)) (hf : f < N)
    (hlink : (Cond.fieldLink own idx (T f).1 (T f).2.1 (T f).2.2.1).before args s = true ∨ (Cond.fieldLinkNest own idx (T f).1 (T f).2.1 (T f).2.2.1 host).before args s = true) (hd : decode cc pc = .ok (.getfield idx, 3))
    (hk : ∀ st', k st' = some res → iv_Wd p l e R s m args below meth c Q D cl κ Fr nL ρ0 n0 (pc + 3) ls st' A cells slots) : iv_Wd p l e R s m args below meth c Q D cl κ Fr nL ρ0 n0 pc ls st A cells slots := by
  unfold iv_gf at hr
  split at hr
  · rename_i i rest
    split at hr
    · rename_i o ho
      cases hq : Nat.beq o.1 ci with
      | false => rw [hq] at hr; cases hr
      | true =>
        rw [hq] at hr
        obtain ⟨o1, o2⟩ := o
        obtain rfl : o1 = ci := Nat.eq_of_beq_eq_true hq
        simp only [cond_true] at hr
        split at hr
        · rename_i v hv
          refine iv_s (fun ρ H L lsR _ hP _ _ w => ?_) (fun hA _ h => iv_c1 (hA _ _ ho v (List.mem_of_getElem? hv)) (iv_ct h)) (hk _ hr)
          have he := iv_w_at (ρ := ρ) (κ := κ) ho
          have hv' : (o2.map (iv_r ρ))[f]? = some (iv_r ρ v) := by simp [hv]
          rcases hlink with hl | hl
          · exact va_get hx hb hts hin hown hK hP i he hc f hf hl (fun _ h => h) hv' hd w
          · exact va_getN hx hb hts hin hown hK hP i he hc f hf hl (fun _ h => h) hv' hd w
        · cases hr
    · cases hr
  · cases hr
/-- one cell turns -/
theorem iv_s_wr {i : Nat} {e' : va_E} (he : iv_hc A → (∀ v ∈ st, iv_vc A.length v) → iv_ec A.length e') (hst : ∀ w ∈ st', w ∈ st)
    (row : ∀ (ρ : Nat → Nat) (H : Heap) (L : List Loc) (lsR : Array Slot), va_P D cl (iv_w ρ κ A) H → va_D Fr (iv_w ρ κ A) → va_S Fr s.heap H L →
      (∀ (H1 : Heap) (L1 : List Loc), va_P D cl ((iv_w ρ κ A).set i (ρ (i + 3), iv_e ρ κ e')) H1 → va_D Fr ((iv_w ρ κ A).set i (ρ (i + 3), iv_e ρ κ e')) → va_S Fr s.heap H1 L1 → W p l e R s m args below meth c H1 L1 cells slots Q (F0 m pc' lsR (st'.map (iv_r ρ)))) → W p l e R s m args below meth c H L cells slots Q (F0 m pc lsR (st.map (iv_r ρ))))
    (hk : iv_Wd p l e R s m args below meth c Q D cl κ Fr nL ρ0 n0 pc' ls st' (A.set i e') cells slots) : iv_Wd p l e R s m args below meth c Q D cl κ Fr nL ρ0 n0 pc ls st A cells slots := by
  intro ρ H L lsR h1 h2 h3 h4 h5 h6 h7 h8 h9
  refine row ρ H L lsR h7 h8 h9 (fun H1 L1 q1 q2 q3 => ?_)
  rw [iv_w_set] at q1 q2
  refine hk ρ H1 L1 lsR h1 (by rw [List.length_set]; exact h2) (iv_hc_set h3 (he h3 h5)) ?_ ?_ h6 q1 q2 q3
  · rw [List.length_set]; exact h4
  · rw [List.length_set]; exact fun w hw => h5 w (hst w hw)
theorem iv_s_pf {ty : FieldType} {k : iv_A → List Value → Option iv_R} (hr : iv_pf A ci f ty st k = some res) (hx : p.tables.exec = Jvm.exec) (hb : c.code = cc) (hts : ∀ w ∈ Ts, w.before args s = true) (hin : ∀ w ∈ u_ws C T N, w ∈ Ts) (ty0 : Nat → FieldType) (hty : ∀ k, k < N → parseFieldDescriptor (T k).2.2.1 = some (ty0 k)) (hnm : ∀ a, a < N → ∀ b, b < N → a ≠ b → (T a).2.1 ≠ (T b).2.1)
    (hown : s.vm.findClass own = some m.cls) (hK : va_K D cl tys s) (hc : cl[ci]? = some (C, T, N)) (hf : f < N) (hte : ty0 f = ty)
    (hlink : ((T f).2.2.2 = false ∧ ((Cond.fieldLink own idx (T f).1 (T f).2.1 (T f).2.2.1).before args s = true ∨ (Cond.fieldLinkNest own idx (T f).1 (T f).2.1 (T f).2.2.1 host).before args s = true)) ∨
      ((T f).2.2.2 = true ∧ meth.name = "<init>" ∧ (T f).1 = own ∧ (Cond.fieldLink own idx (T f).1 (T f).2.1 (T f).2.2.1).before args s = true)) (hd : decode cc pc = .ok (.putfield idx, 3))
    (hk : ∀ A' st', k A' st' = some res → iv_Wd p l e R s m args below meth c Q D cl κ Fr nL ρ0 n0 (pc + 3) ls st' A' cells slots) : iv_Wd p l e R s m args below meth c Q D cl κ Fr nL ρ0 n0 pc ls st A cells slots := by
  unfold iv_pf at hr
  split at hr
  · rename_i v i rest
    split at hr
    · rename_i o ho
      cases hq : Nat.beq o.1 ci && iv_fit ty v && decide (f < o.2.length) with
      | false => rw [hq] at hr; cases hr
      | true =>
        rw [hq] at hr
        simp only [Bool.and_eq_true, decide_eq_true_eq] at hq
        obtain ⟨o1, o2⟩ := o
        obtain rfl : o1 = ci := Nat.eq_of_beq_eq_true hq.1.1
        refine iv_s_wr (i := i) (e' := .inr (o1, o2.set f v)) (fun hA h w hw => ?_) (fun w hw => List.mem_cons_of_mem _ (List.mem_cons_of_mem _ hw)) (fun ρ H L lsR hP hD hS w => ?_) (hk _ _ hr)
        · rcases List.mem_or_eq_of_mem_set hw with q | q
          · exact hA _ _ ho w q
          · rw [q]; exact iv_ch h
        · have he := iv_w_at (ρ := ρ) (κ := κ) ho
          obtain ⟨hn, hfit⟩ := iv_fit_ok (ρ := ρ) hq.1.2
          have hpd : parseFieldDescriptor (T f).2.2.1 = some ty := by rw [hty f hf, hte]
          have hlen : f < (o2.map (iv_r ρ)).length := by rw [List.length_map]; exact hq.2
          have hset : ∀ (H1 : Heap) (L1 : List Loc), va_P D cl ((iv_w ρ κ A).set i (ρ (i + 3), .inr (o1, (o2.map (iv_r ρ)).set f (iv_r ρ v)))) H1 → va_D Fr ((iv_w ρ κ A).set i (ρ (i + 3), .inr (o1, (o2.map (iv_r ρ)).set f (iv_r ρ v)))) → va_S Fr s.heap H1 L1 → W p l e R s m args below meth c H1 L1 cells slots Q (F0 m (pc + 3) lsR (rest.map (iv_r ρ))) := by
            intro H1 L1 q1 q2 q3
            have e1 : (.inr (o1, (o2.map (iv_r ρ)).set f (iv_r ρ v)) : va_E) = iv_e ρ κ (.inr (o1, o2.set f v)) := by simp only [iv_e, List.map_set]
            rw [e1] at q1 q2
            exact w H1 L1 q1 q2 q3
          rcases hlink with ⟨h0, hl | hl⟩ | ⟨h0, h1, h2, hl⟩
          · exact va_put hx hb hts hin ty0 hty hnm hown hK hP hD hS i he hc f hf hl (fun _ h => h) h0 hpd hn hfit hlen hd hset
          · exact va_putN hx hb hts hin ty0 hty hnm hown hK hP hD hS i he hc f hf hl (fun _ h => h) h0 hpd hn hfit hlen hd hset
          · exact va_putF hx hb hts hin ty0 hty hnm hown hK hP hD hS i he hc f hf hl (fun _ h => h) h0 h1 h2 hpd hn hfit hlen hd hset
    · cases hr
  · cases hr
/-- what is known of the arrays that are only read -/
def iv_Ro (X : Nat → Option (Nat × (Nat → Int32))) (ρ0 : Nat → Nat) (Fr : Nat → Prop) (s : State) : Prop := ∀ i n f, X i = some (n, f) → i < 3 ∧ va_T .int (ρ0 i) n (fun j => .int (f j)) Fr s s.heap
theorem iv_s_ald {X : Nat → Option (Nat × (Nat → Int32))} {t0 : Nat} {k : List Value → Option iv_R} (hr : iv_ald X A 0 st k = some res) (hX : iv_Ro X ρ0 Fr s) (hx : p.tables.exec = Jvm.exec) (hb : c.code = cc) (hK : va_K D cl tys s) (ht : tys[t0]? = some (κ 0, .int)) (hd : decode cc pc = .ok (.iaload, 1))
    (hk : ∀ st', k st' = some res → iv_Wd p l e R s m args below meth c Q D cl κ Fr nL ρ0 n0 (pc + 1) ls st' A cells slots) : iv_Wd p l e R s m args below meth c Q D cl κ Fr nL ρ0 n0 pc ls st A cells slots := by
  unfold iv_ald at hr
  split at hr
  · rename_i j i rest
    split at hr
    · rename_i n f hf
      cases hq : iv_in j n with
      | false => rw [hq] at hr; cases hr
      | true =>
        rw [hq] at hr
        refine iv_s (fun ρ H L lsR _ hP hS h1 w => ?_) (fun hA _ h => iv_c1 (iv_vc_int _) (iv_ct (iv_ct h))) (hk _ hr)
        unfold iv_ia at hf
        split at hf
        · rename_i i'
          split at hf
          · rename_i q n' f' hA
            cases hb2 : Nat.beq q 0 with
            | false => rw [hb2] at hf; cases hf
            | true =>
              rw [hb2] at hf
              obtain rfl : q = 0 := Nat.eq_of_beq_eq_true hb2
              simp only [cond_true, Option.some.injEq, Prod.mk.injEq] at hf
              obtain ⟨rfl, rfl⟩ := hf
              exact va_iald hx hb hK hP i' t0 (iv_w_at (ρ := ρ) (κ := κ) hA) ht (iv_in_ok hq) hd w
          · cases hf
        · rename_i hne
          have hXi : X i = some (n, f) := hf
          obtain ⟨hi3, hT⟩ := hX i n f hXi
          show W p l e R s m args below meth c H L cells slots Q (F0 m pc lsR (.int j :: .ref (ρ i) :: rest.map (iv_r ρ)))
          rw [h1 i (by omega)]
          exact va_ti hx hb hT hS (iv_in_ok hq) rfl hd w
    · cases hr
  · cases hr
theorem iv_s_zld {X : Nat → Option (Nat × (Nat → Int32))} {t0 : Nat} {k : List Value → Option iv_R} (hr : iv_ald X A 1 st k = some res) (hx : p.tables.exec = Jvm.exec) (hb : c.code = cc) (hK : va_K D cl tys s) (ht : tys[t0]? = some (κ 1, .boolean)) (hd : decode cc pc = .ok (.baload, 1))
    (hk : ∀ st', k st' = some res → iv_Wd p l e R s m args below meth c Q D cl κ Fr nL ρ0 n0 (pc + 1) ls st' A cells slots) : iv_Wd p l e R s m args below meth c Q D cl κ Fr nL ρ0 n0 pc ls st A cells slots := by
  unfold iv_ald at hr
  split at hr
  · rename_i j i rest
    split at hr
    · rename_i n f hf
      cases hq : iv_in j n with
      | false => rw [hq] at hr; cases hr
      | true =>
        rw [hq] at hr
        refine iv_s (fun ρ H L lsR _ hP hS h1 w => ?_) (fun hA _ h => iv_c1 (iv_vc_int _) (iv_ct (iv_ct h))) (hk _ hr)
        unfold iv_ia at hf
        split at hf
        · rename_i i'
          split at hf
          · rename_i q n' f' hA
            cases hb2 : Nat.beq q 1 with
            | false => rw [hb2] at hf; cases hf
            | true =>
              rw [hb2] at hf
              obtain rfl : q = 1 := Nat.eq_of_beq_eq_true hb2
              simp only [cond_true, Option.some.injEq, Prod.mk.injEq] at hf
              obtain ⟨rfl, rfl⟩ := hf
              exact va_zald hx hb hK hP i' t0 (iv_w_at (ρ := ρ) (κ := κ) hA) ht (iv_in_ok hq) hd w
          · cases hf
        · cases hf
    · cases hr
  · cases hr
theorem iv_s_ast {kd t0 : Nat} {g : Int32 → Int32} {ty : FieldType} {k : iv_A → List Value → Option iv_R} (hr : iv_ast A kd g st k = some res)
    (row : ∀ (ws : va_W) (H : Heap) (L : List Loc) (lsR : Array Slot) (rest : List Value) (a q0 n : Nat) (f : Nat → Int32) (j x : Int32), va_P D cl ws H → va_D Fr ws → va_S Fr s.heap H L → ws[q0]? = some (a, .inl (κ kd, n, .inl f)) → vp_in j n →
      (∀ (H1 : Heap) (L1 : List Loc), va_P D cl (ws.set q0 (a, .inl (κ kd, n, .inl (upd f j.toNatClampNeg (g x))))) H1 → va_D Fr (ws.set q0 (a, .inl (κ kd, n, .inl (upd f j.toNatClampNeg (g x))))) → va_S Fr s.heap H1 L1 → W p l e R s m args below meth c H1 L1 cells slots Q (F0 m pc' lsR rest)) → W p l e R s m args below meth c H L cells slots Q (F0 m pc lsR (.int x :: .int j :: .ref a :: rest)))
    (hk : ∀ A' st', k A' st' = some res → iv_Wd p l e R s m args below meth c Q D cl κ Fr nL ρ0 n0 pc' ls st' A' cells slots) : iv_Wd p l e R s m args below meth c Q D cl κ Fr nL ρ0 n0 pc ls st A cells slots := by
  unfold iv_ast at hr
  split at hr
  · rename_i x j i rest
    split at hr
    · rename_i q n f hA
      cases hq : Nat.beq q kd && iv_in j n with
      | false => rw [hq] at hr; cases hr
      | true =>
        rw [hq] at hr
        simp only [Bool.and_eq_true] at hq
        obtain rfl : q = kd := Nat.eq_of_beq_eq_true hq.1
        refine iv_s_wr (i := i) (e' := .inl (q, n, .inl (upd f j.toNatClampNeg (g x)))) (fun _ _ f' hf' => by cases hf') (fun w hw => List.mem_cons_of_mem _ (List.mem_cons_of_mem _ (List.mem_cons_of_mem _ hw))) (fun ρ H L lsR hP hD hS w => ?_) (hk _ _ hr)
        exact row (iv_w ρ κ A) H L lsR _ (ρ (i + 3)) i n f j x hP hD hS (iv_w_at (ρ := ρ) (κ := κ) hA) (iv_in_ok hq.2) w
    · cases hr
  · cases hr
theorem iv_s_lld {t0 : Nat} {k : List Value → Option iv_R} (hr : iv_lld A st k = some res) (hx : p.tables.exec = Jvm.exec) (hb : c.code = cc) (hK : va_K D cl tys s) (ht : tys[t0]? = some (κ 2, .long)) (hd : decode cc pc = .ok (.laload, 1))
    (hk : ∀ st', k st' = some res → iv_Wd p l e R s m args below meth c Q D cl κ Fr nL ρ0 n0 (pc + 1) ls st' A cells slots) : iv_Wd p l e R s m args below meth c Q D cl κ Fr nL ρ0 n0 pc ls st A cells slots := by
  unfold iv_lld at hr
  split at hr
  · rename_i j i rest
    split at hr
    · rename_i q n f hA
      cases hq : Nat.beq q 2 && iv_in j n with
      | false => rw [hq] at hr; cases hr
      | true =>
        rw [hq] at hr
        simp only [Bool.and_eq_true] at hq
        obtain rfl : q = 2 := Nat.eq_of_beq_eq_true hq.1
        exact iv_s (fun ρ H L lsR _ hP hS h1 w => va_lald hx hb hK hP i t0 (iv_w_at (ρ := ρ) (κ := κ) hA) ht (iv_in_ok hq.2) hd w) (fun _ _ h => iv_c1 (iv_vc_long _) (iv_ct (iv_ct h))) (hk _ hr)
    · cases hr
  · cases hr
theorem iv_s_lst {t0 : Nat} {k : iv_A → List Value → Option iv_R} (hr : iv_lst A st k = some res) (hx : p.tables.exec = Jvm.exec) (hb : c.code = cc) (hK : va_K D cl tys s) (ht : tys[t0]? = some (κ 2, .long)) (hd : decode cc pc = .ok (.lastore, 1))
    (hk : ∀ A' st', k A' st' = some res → iv_Wd p l e R s m args below meth c Q D cl κ Fr nL ρ0 n0 (pc + 1) ls st' A' cells slots) : iv_Wd p l e R s m args below meth c Q D cl κ Fr nL ρ0 n0 pc ls st A cells slots := by
  unfold iv_lst at hr
  split at hr
  · rename_i x j i rest
    split at hr
    · rename_i q n f hA
      cases hq : Nat.beq q 2 && iv_in j n with
      | false => rw [hq] at hr; cases hr
      | true =>
        rw [hq] at hr
        simp only [Bool.and_eq_true] at hq
        obtain rfl : q = 2 := Nat.eq_of_beq_eq_true hq.1
        refine iv_s_wr (i := i) (e' := .inl (2, n, .inr (.inl (vp_updL f j.toNatClampNeg x)))) (fun _ _ f' hf' => by cases hf') (fun w hw => List.mem_cons_of_mem _ (List.mem_cons_of_mem _ (List.mem_cons_of_mem _ hw))) (fun ρ H L lsR hP hD hS w => ?_) (hk _ _ hr)
        exact va_last hx hb hK hP hD hS i t0 (iv_w_at (ρ := ρ) (κ := κ) hA) ht (iv_in_ok hq.2) hd w
    · cases hr
  · cases hr
end IvH
end
section
/-! Arrays of references, lengths, new cells, answers. -/
section IvI
variable {p : Program} {l : Launch} {e : Env} {R : Room} {s : State} {m : MethodId} {args : Array Value} {below : List Frame} {meth : Method} {c : Code} {Q : State → Prop} {D : va_G} {cl : List vw_C} {κ : Nat → ClassId} {Fr : Nat → Prop} {nL : Nat} {ρ0 : Nat → Nat} {n0 : Nat}
variable {pc pc' : Nat} {ls st st' r : List Value} {A : iv_A} {cells slots : Nat} {cc : ByteArray} {res : iv_R} {tys : List (ClassId × FieldType)} {Ts : List Cond} {own C host : String} {T : u_T} {N ci f idx : Nat} {kt : Nat → Option String}
/-- what is known of the kinds of arrays of references -/
def iv_Kt (kt : Nat → Option String) (κ : Nat → ClassId) (cl : List vw_C) (tys : List (ClassId × FieldType)) : Prop := ∀ q C, kt q = some C → (∃ t0 : Nat, tys[t0]? = some (κ q, .object C)) ∧ ∃ ci T N, q = ci + 3 ∧ cl[ci]? = some (C, T, N)
theorem iv_s_rld {k : List Value → Option iv_R} (hr : iv_rld kt A st k = some res) (hkt : iv_Kt kt κ cl tys) (hx : p.tables.exec = Jvm.exec) (hb : c.code = cc) (hK : va_K D cl tys s) (hd : decode cc pc = .ok (.aaload, 1))
    (hk : ∀ st', k st' = some res → iv_Wd p l e R s m args below meth c Q D cl κ Fr nL ρ0 n0 (pc + 1) ls st' A cells slots) : iv_Wd p l e R s m args below meth c Q D cl κ Fr nL ρ0 n0 pc ls st A cells slots := by
  unfold iv_rld at hr
  split at hr
  · rename_i j i rest
    split at hr
    · rename_i q n f hA
      cases hq : (kt q).isSome && iv_in j n with
      | false => rw [hq] at hr; cases hr
      | true =>
        rw [hq] at hr
        simp only [Bool.and_eq_true] at hq
        obtain ⟨C, hC⟩ := Option.isSome_iff_exists.mp hq.1
        obtain ⟨⟨t0, ht⟩, -⟩ := hkt q C hC
        refine iv_s (fun ρ H L lsR _ hP hS h1 w => ?_) (fun h0 _ h => iv_c1 (fun z hz => ?_) (iv_ct (iv_ct h))) (hk _ hr)
        · refine va_aldq hx hb hK hP i t0 (iv_w_at (ρ := ρ) (κ := κ) hA) ht (iv_in_ok hq.2) hd ?_
          have e1 : va_rf ((f j.toNatClampNeg).map ρ) = iv_r ρ (va_rf (f j.toNatClampNeg)) := (iv_rf_map _).symm
          rw [e1]
          exact w
        · cases hf : f j.toNatClampNeg with
          | none => rw [hf] at hz; cases hz
          | some y =>
            rw [hf] at hz
            have hz' : (Value.ref y) = .ref z := hz
            obtain rfl : y = z := by injection hz'
            exact h0 _ _ hA f rfl _ _ hf
    · cases hr
  · cases hr
theorem iv_s_rst {k : iv_A → List Value → Option iv_R} (hr : iv_rst kt A st k = some res) (hkt : iv_Kt kt κ cl tys) (hx : p.tables.exec = Jvm.exec) (hb : c.code = cc) (hK : va_K D cl tys s) (hd : decode cc pc = .ok (.aastore, 1))
    (hk : ∀ A' st', k A' st' = some res → iv_Wd p l e R s m args below meth c Q D cl κ Fr nL ρ0 n0 (pc + 1) ls st' A' cells slots) : iv_Wd p l e R s m args below meth c Q D cl κ Fr nL ρ0 n0 pc ls st A cells slots := by
  unfold iv_rst at hr
  split at hr
  · rename_i v j i rest
    split at hr
    · rename_i q n f o hA hV
      cases hq : Nat.beq q (o.1 + 3) && (kt q).isSome && iv_in j n with
      | false => rw [hq] at hr; cases hr
      | true =>
        rw [hq] at hr
        simp only [Bool.and_eq_true] at hq
        obtain ⟨⟨hq1, hq2⟩, hq3⟩ := hq
        obtain rfl : q = o.1 + 3 := Nat.eq_of_beq_eq_true hq1
        obtain ⟨C, hC⟩ := Option.isSome_iff_exists.mp hq2
        obtain ⟨⟨t0, ht⟩, ci, T, N, hci, hcl⟩ := hkt _ C hC
        obtain rfl : o.1 = ci := by omega
        refine iv_s_wr (i := i) (e' := .inl (o.1 + 3, n, .inr (.inr (.inr (.inr (va_up f j.toNatClampNeg (some (v + 3)))))))) (fun h0 h f' hf' j' i' hj' => ?_) (fun w hw => List.mem_cons_of_mem _ (List.mem_cons_of_mem _ (List.mem_cons_of_mem _ hw))) (fun ρ H L lsR hP hD hS w => ?_) (hk _ _ hr)
        · injection hf' with hf'
          injection hf' with hf'
          injection hf' with hf'
          injection hf' with hf'
          subst hf'
          unfold va_up at hj'
          split at hj'
          · obtain rfl := Option.some.inj hj'
            exact iv_ch h _ rfl
          · exact h0 _ _ hA f rfl _ _ hj'
        · refine va_astq hx hb hK hP hD hS i t0 v o.1 (r := (C, T, N)) (iv_w_at (ρ := ρ) (κ := κ) hA) ht (iv_w_at (ρ := ρ) (κ := κ) hV) hcl (iv_in_ok hq3) hd (fun H1 L1 q1 q2 q3 => ?_)
          have e1 : (.inl (κ (o.1 + 3), n, .inr (.inr (.inr (.inr (va_up (fun j => (f j).map ρ) j.toNatClampNeg (some (ρ (v + 3)))))))) : va_E) = iv_e ρ κ (.inl (o.1 + 3, n, .inr (.inr (.inr (.inr (va_up f j.toNatClampNeg (some (v + 3)))))))) := by
            simp only [iv_e, iv_x]
            congr 7
            funext z
            unfold va_up
            split <;> rfl
          rw [e1] at q1 q2
          exact w H1 L1 q1 q2 q3
    · cases hr
  · cases hr
theorem iv_s_len {X : Nat → Option (Nat × (Nat → Int32))} {kk : Nat → Bool} {k : List Value → Option iv_R} (hr : iv_len X kk A st k = some res) (hX : iv_Ro X ρ0 Fr s) (hkk : ∀ q : Nat, kk q = true → ∃ (t0 : Nat) (ty : FieldType), tys[t0]? = some (κ q, ty)) (hx : p.tables.exec = Jvm.exec) (hb : c.code = cc) (hK : va_K D cl tys s) (hd : decode cc pc = .ok (.arraylength, 1))
    (hk : ∀ st', k st' = some res → iv_Wd p l e R s m args below meth c Q D cl κ Fr nL ρ0 n0 (pc + 1) ls st' A cells slots) : iv_Wd p l e R s m args below meth c Q D cl κ Fr nL ρ0 n0 pc ls st A cells slots := by
  unfold iv_len at hr
  split at hr
  · rename_i i rest
    split at hr
    · rename_i n hn
      unfold iv_ln at hn
      split at hn
      · rename_i i'
        split at hn
        · rename_i a hA
          cases hq : kk a.1 with
          | false => rw [hq] at hn; cases hn
          | true =>
            rw [hq] at hn
            obtain rfl := Option.some.inj hn
            obtain ⟨t0, ty, ht⟩ := hkk a.1 hq
            exact iv_s (fun ρ H L lsR _ hP hS h1 w => va_alen hx hb hK hP i' t0 (iv_w_at (ρ := ρ) (κ := κ) hA) ht rfl hd w) (fun _ _ h => iv_c1 (iv_vc_int _) (iv_ct h)) (hk _ hr)
        · cases hn
      · split at hn
        · rename_i a hXi
          obtain ⟨n', f⟩ := a
          obtain rfl := Option.some.inj hn
          obtain ⟨hi3, hT⟩ := hX i n' f hXi
          refine iv_s (fun ρ H L lsR _ hP hS h1 w => ?_) (fun _ _ h => iv_c1 (iv_vc_int _) (iv_ct h)) (hk _ hr)
          show W p l e R s m args below meth c H L cells slots Q (F0 m pc lsR (.ref (ρ i) :: rest.map (iv_r ρ)))
          rw [h1 i (by omega)]
          exact va_tlen hx hb hT hS rfl hd w
        · cases hn
    · cases hr
  · cases hr
/-- one cell comes -/
theorem iv_s_new {N' : Nat} {e0 e1 : va_E} (he : ∀ ρ : Nat → Nat, iv_e ρ κ e0 = e1) (hec : ∀ n, iv_ec n e0) (hst : ∀ w ∈ st', w ∈ st)
    (row : ∀ (ρ : Nat → Nat) (H : Heap) (L : List Loc) (lsR : Array Slot), va_P D cl (iv_w ρ κ A) H → va_D Fr (iv_w ρ κ A) → va_S Fr s.heap H L →
      (∀ (q : Nat) (H1 : Heap), va_P D cl (iv_w ρ κ A ++ [(q, e1)]) H1 → va_D Fr (iv_w ρ κ A ++ [(q, e1)]) → va_S Fr s.heap H1 L → W p l e R s m args below meth c H1 L (cells + 1) (slots + N') Q (F0 m pc' lsR (.ref q :: st'.map (iv_r ρ)))) → W p l e R s m args below meth c H L cells slots Q (F0 m pc lsR (st.map (iv_r ρ))))
    (hk : iv_Wd p l e R s m args below meth c Q D cl κ Fr nL ρ0 n0 pc' ls (.ref (A.length + 3) :: st') (A ++ [e0]) (cells + 1) (slots + N')) : iv_Wd p l e R s m args below meth c Q D cl κ Fr nL ρ0 n0 pc ls st A cells slots := by
  intro ρ H L lsR h1 h2 h3 h4 h5 h6 h7 h8 h9
  refine row ρ H L lsR h7 h8 h9 (fun q H1 q1 q2 q3 => ?_)
  have hρ : ∀ i, i < A.length + 3 → (fun j => if j = A.length + 3 then q else ρ j) i = ρ i := fun i hi => by
    show (if i = A.length + 3 then q else ρ i) = ρ i
    rw [if_neg (by omega)]
  have hw : iv_w (fun j => if j = A.length + 3 then q else ρ j) κ (A ++ [e0]) = iv_w ρ κ A ++ [(q, e1)] := by
    rw [iv_w_push, iv_w_congr hρ h3, he]
    simp
  have hst' : st'.map (iv_r (fun j => if j = A.length + 3 then q else ρ j)) = st'.map (iv_r ρ) := iv_rl_congr hρ (fun w hw => h5 w (hst w hw))
  have h10 := hk (fun j => if j = A.length + 3 then q else ρ j) H1 L lsR (fun i hi => (hρ i (by omega)).trans (h1 i hi)) (by rw [List.length_append]; omega) (iv_hc_push h3 (hec _))
    (fun w hw => iv_vc_mono (h4 w hw) (by rw [List.length_append]; omega))
    (iv_c1 (fun i hi => by cases hi; rw [List.length_append, List.length_singleton]; exact Nat.add_lt_add_right (Nat.lt_succ_self _) 3) (fun w hw => iv_vc_mono (h5 w (hst w hw)) (by rw [List.length_append]; omega)))
    (h6.congr hρ h4) (by rw [hw]; exact q1) (by rw [hw]; exact q2) q3
  have e2 : (Value.ref (A.length + 3) :: st').map (iv_r (fun j => if j = A.length + 3 then q else ρ j)) = .ref q :: st'.map (iv_r ρ) := by
    rw [List.map_cons, hst']
    simp [iv_r]
  rw [e2] at h10
  exact h10
theorem iv_s_obj {ty : Nat → FieldType} {fs : List Value} (hx : p.tables.exec = Jvm.exec) (hb : c.code = cc) (hts : ∀ w ∈ Ts, w.before args s = true) (hin : ∀ w ∈ u_ws C T N, w ∈ Ts) (hty : ∀ k, k < N → parseFieldDescriptor (T k).2.2.1 = some (ty k)) (hown : s.vm.findClass own = some m.cls) (hcl : (Cond.classLink own idx C).before args s = true) (hinst : (Cond.instantiable C N).before args s = true) (hini : (Cond.initialized C).before args s = true)
    (hK : va_K D cl tys s) (hFr : ∀ q, s.heap.size ≤ q → Fr q) (hc : cl[ci]? = some (C, T, N)) (hfs : ∀ j, j < N → defaultValue (ty j) = vp_V fs j) (hnr : ∀ ρ : Nat → Nat, fs.map (iv_r ρ) = fs) (hcells : cells + 1 ≤ R.cells) (hslots : slots + N ≤ R.slots) (hd : decode cc pc = .ok (.new idx, 3))
    (hk : iv_Wd p l e R s m args below meth c Q D cl κ Fr nL ρ0 n0 (pc + 3) ls (.ref (A.length + 3) :: st) (A ++ [.inr (ci, fs)]) (cells + 1) (slots + N)) : iv_Wd p l e R s m args below meth c Q D cl κ Fr nL ρ0 n0 pc ls st A cells slots := by
  refine iv_s_new (e0 := .inr (ci, fs)) (e1 := .inr (ci, fs)) (fun ρ => by simp only [iv_e, hnr]) (fun n v hv i hi => ?_) (fun w hw => hw) (fun ρ H L lsR hP hD hS w => ?_) hk
  · exfalso
    have h1 := hnr (fun _ => i + 1)
    have h2 : v ∈ fs.map (iv_r fun _ => i + 1) := by rw [h1]; exact hv
    obtain ⟨u, hu, hu2⟩ := List.mem_map.mp h2
    rw [hi] at hu2
    cases u with
    | ref z => injection hu2 with q; exact absurd q (Nat.succ_ne_self _)
    | _ => cases hu2
  · exact va_new hx hb hts hin ty hty hown hcl hinst hini hK hP hD hS hFr hc hfs hcells hslots hd w
theorem iv_s_arr {t0 : Nat} {atype : ArrayType} {ty : FieldType} {kd : Nat} {x0 : iv_X} {n : Int32} (hx : p.tables.exec = Jvm.exec) (hb : c.code = cc) (harr : (Cond.arrayClass (newarray.typeOf atype)).before args s = true) (hty : newarray.typeOf atype = ty) (hRA : ∀ cA, va_RA s cA ty → va_RA s (κ kd) ty → cA = κ kd) (hK : va_K D cl tys s) (ht : tys[t0]? = some (κ kd, ty)) (hFr : ∀ q, s.heap.size ≤ q → Fr q)
    (hx0 : ∀ ρ : Nat → Nat, iv_x ρ x0 = x0) (hec : ∀ z, iv_ec z (.inl (kd, n.toNatClampNeg, x0))) (ha : ∀ cA : ClassId, vp_cell cA (n.toNatClampNeg, x0) = arrV cA n.toNatClampNeg (fun _ => defaultValue ty)) (hn : ¬ n < 0) (hbytes : n.toNatClampNeg * componentBytes ty ≤ 536870912) (hcells : cells + 1 ≤ R.cells) (hslots : slots + n.toNatClampNeg ≤ R.slots) (hd : decode cc pc = .ok (.newarray atype, 2))
    (hk : iv_Wd p l e R s m args below meth c Q D cl κ Fr nL ρ0 n0 (pc + 2) ls (.ref (A.length + 3) :: r) (A ++ [.inl (kd, n.toNatClampNeg, x0)]) (cells + 1) (slots + n.toNatClampNeg)) : iv_Wd p l e R s m args below meth c Q D cl κ Fr nL ρ0 n0 pc ls (.int n :: r) A cells slots := by
  refine iv_s_new (e0 := .inl (kd, n.toNatClampNeg, x0)) (e1 := .inl (κ kd, n.toNatClampNeg, x0)) (fun ρ => by simp only [iv_e, hx0]) hec (fun w hw => List.mem_cons_of_mem _ hw) (fun ρ H L lsR hP hD hS w => ?_) hk
  refine va_newa hx hb harr hty hK hP hD hS hFr ha hn rfl hbytes hcells hslots hd (fun q cA H1 q0 q1 q2 q3 => ?_)
  have hA : cA = κ kd := hRA cA (q0.2 tys.length (cA, ty) (by simp)).2 (hK.2 t0 _ ht).2
  subst hA
  exact w q H1 q1 q2 q3
theorem iv_s_arq {t0 : Nat} {n : Int32} (hx : p.tables.exec = Jvm.exec) (hb : c.code = cc) (hown : s.vm.findClass own = some m.cls) (hcl : (Cond.classLink own idx C).before args s = true) (hover : va_AO C s) (hK : va_K D cl tys s) (ht : tys[t0]? = some (κ (ci + 3), .object C)) (hFr : ∀ q, s.heap.size ≤ q → Fr q)
    (hn : ¬ n < 0) (hbytes : n.toNatClampNeg * 4 ≤ 536870912) (hcells : cells + 1 ≤ R.cells) (hslots : slots + n.toNatClampNeg ≤ R.slots) (hd : decode cc pc = .ok (.anewarray idx, 3))
    (hk : iv_Wd p l e R s m args below meth c Q D cl κ Fr nL ρ0 n0 (pc + 3) ls (.ref (A.length + 3) :: r) (A ++ [.inl (ci + 3, n.toNatClampNeg, .inr (.inr (.inr (.inr (fun _ => none)))))]) (cells + 1) (slots + n.toNatClampNeg)) : iv_Wd p l e R s m args below meth c Q D cl κ Fr nL ρ0 n0 pc ls (.int n :: r) A cells slots := by
  refine iv_s_new (e0 := .inl (ci + 3, n.toNatClampNeg, .inr (.inr (.inr (.inr (fun _ => none)))))) (e1 := .inl (κ (ci + 3), n.toNatClampNeg, .inr (.inr (.inr (.inr (fun _ => none)))))) (fun ρ => rfl) (fun z f hf j i hj => ?_) (fun w hw => List.mem_cons_of_mem _ hw) (fun ρ H L lsR hP hD hS w => ?_) hk
  · injection hf with hf
    injection hf with hf
    injection hf with hf
    injection hf with hf
    subst hf
    cases hj
  · refine va_newq hx hb hown hcl hover hK hP hD hS hFr hn rfl hbytes hcells hslots hd (fun q cA H1 q0 q1 q2 q3 => ?_)
    obtain ⟨_, _, _, _, _, h1⟩ := (q0.2 tys.length (cA, .object C) (by simp)).2
    obtain ⟨_, _, _, _, _, h2⟩ := (hK.2 t0 _ ht).2
    have hA : cA = κ (ci + 3) := Option.some.inj (h1.symm.trans h2)
    subst hA
    exact w q H1 q1 q2 q3
end IvI
end
section
/-! A static field that holds a reference, and stays as it is. -/
def iv_LS (C n d : String) (Fr : Nat → Prop) (U : State) : Prop := ∃ (c : ClassId) (k : Class) (i : Nat) (f : Field) (a : Nat) (cell : Cell) (v : Value), U.vm.findClass C = some c ∧ U.fieldFound? C n d = some (c, k, i, f) ∧ f.isStatic = true ∧ k.statics = some a ∧ U.heap[a]? = some cell ∧ cell.vm.isStatics = true ∧ cell.cls = c ∧
  f.slot < cell.slots.size ∧ k.staticTypes[f.slot]? = some f.type ∧ cell.slots[f.slot]? = some v ∧ (v = .null ∨ ∃ z, v = .ref z) ∧ ¬ Fr a
theorem iv_LS.of {C n d : String} {Fr : Nat → Prop} {args : Array Value} {s : State} (h1 : (Cond.laysStatic C n d).before args s = true) (h2 : (Cond.isRef (.static C n d)).before args s = true) (hFr : ∀ a : Nat, a < s.heap.size → ¬ Fr a) : iv_LS C n d Fr s := by
  obtain ⟨c, k, i, f, a, cell, hc, hf, hst, hsta, hcell, hiss, hcls, hlt, hty⟩ := Cond.laysStatic_spec h1
  have hv : cell.slots[f.slot]? = some cell.slots[f.slot] := Array.getElem?_eq_getElem hlt
  have he : (Term.static C n d).eval args s none [] s = cell.slots[f.slot]? := by
    simp [Term.eval, State.fieldNamed?, hf, hst, hsta, hcell, hiss]
  refine ⟨c, k, i, f, a, cell, cell.slots[f.slot], hc, hf, hst, hsta, hcell, hiss, hcls, hlt, hty, hv, ?_, hFr a (Array.getElem?_eq_some_iff.mp hcell).1⟩
  simp only [Cond.before, Cond.holds, Cond.value, he, hv] at h2
  cases hw : cell.slots[f.slot] with
  | null => exact Or.inl rfl
  | ref z => exact Or.inr ⟨z, rfl⟩
  | _ => rw [hw] at h2; simp at h2
theorem iv_LS.lays {C n d : String} {Fr : Nat → Prop} {args : Array Value} {s : State} (h : iv_LS C n d Fr s) : (Cond.laysStatic C n d).before args s = true := by
  obtain ⟨c, k, i, f, a, cell, v, hc, hf, hst, hsta, hcell, hiss, hcls, hlt, hty, -⟩ := h
  simp [Cond.before, Cond.holds, Cond.value, hc, hf, hst, hsta, hcell, hiss, hcls, hlt, hty]
theorem iv_LS.isRef {C n d : String} {Fr : Nat → Prop} {args : Array Value} {s : State} (h : iv_LS C n d Fr s) : (Cond.isRef (.static C n d)).before args s = true := by
  obtain ⟨c, k, i, f, a, cell, v, hc, hf, hst, hsta, hcell, hiss, hcls, hlt, hty, hv, hn, -⟩ := h
  have he : (Term.static C n d).eval args s none [] s = some v := by
    simp [Term.eval, State.fieldNamed?, hf, hst, hsta, hcell, hiss, hv]
  simp only [Cond.before, Cond.holds, Cond.value, he]
  rcases hn with rfl | ⟨z, rfl⟩ <;> rfl
theorem iv_LS.moved {C n d : String} {Fr Fr' : Nat → Prop} {s U : State} (h : iv_LS C n d Fr s) (hvm : s.vm.Alike U.vm) (hH : ∀ a : Nat, a < s.heap.size → ¬ Fr a → U.heap[a]? = s.heap[a]?) (hF : ∀ q, Fr' q → Fr q) : iv_LS C n d Fr' U := by
  obtain ⟨c, k, i, f, a, cell, v, hc, hf, hst, hsta, hcell, hiss, hcls, hlt, hty, hv, hn, hFr⟩ := h
  obtain ⟨k', hi', he⟩ := State.fieldFound?_setVm hvm hf
  exact ⟨c, k', i, f, a, cell, v, by rw [hvm.findClass]; exact hc, hi', hst, by rw [he]; exact hsta, by rw [hH a (Array.getElem?_eq_some_iff.mp hcell).1 hFr]; exact hcell, hiss, hcls, hlt, by rw [he]; exact hty, hv, hn, fun q => hFr (hF a q)⟩
end
