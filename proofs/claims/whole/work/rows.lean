section
-- ===== PART A: goes FIRST, ahead of the names: the tables' words, and 'selects' of the private methods out of them =====
/-- a private method of a class that the tables say can be made, by its rows of tables_1 -/
def lw_okq (q : MethodName × Nat) : Prop := (q.1.cls ≠ "java/lang/invoke/MethodHandle" ∧ q.1.cls ≠ "java/lang/invoke/VarHandle") ∧ Cond.instantiable q.1.cls q.2 ∈ tables_1 ∧ Cond.privateMethod q.1 ∈ tables_1 ∧ Cond.instanceMethod q.1 ∈ tables_1
theorem lw_p0 : lw_okq (⟨"TripGuard$Channel", "judge", "(ILTripGuard$Journal;)V"⟩, 8) := ⟨⟨by decide +kernel, by decide +kernel⟩, List.mem_of_getElem? (i := 97) (by decide +kernel), List.mem_of_getElem? (i := 185) (by decide +kernel), List.mem_of_getElem? (i := 186) (by decide +kernel)⟩
theorem lw_p1 : lw_okq (⟨"TripGuard$Channel", "isWrong", "(IZ)Z"⟩, 8) := ⟨⟨by decide +kernel, by decide +kernel⟩, List.mem_of_getElem? (i := 97) (by decide +kernel), List.mem_of_getElem? (i := 189) (by decide +kernel), List.mem_of_getElem? (i := 190) (by decide +kernel)⟩
theorem lw_p2 : lw_okq (⟨"TripGuard$Channel", "moveBistable", "(IILTripGuard$Journal;)V"⟩, 8) := ⟨⟨by decide +kernel, by decide +kernel⟩, List.mem_of_getElem? (i := 97) (by decide +kernel), List.mem_of_getElem? (i := 206) (by decide +kernel), List.mem_of_getElem? (i := 207) (by decide +kernel)⟩
theorem lw_p3 : lw_okq (⟨"TripGuard$Channel", "isBeyond", "(I)Z"⟩, 8) := ⟨⟨by decide +kernel, by decide +kernel⟩, List.mem_of_getElem? (i := 97) (by decide +kernel), List.mem_of_getElem? (i := 210) (by decide +kernel), List.mem_of_getElem? (i := 211) (by decide +kernel)⟩
theorem lw_p4 : lw_okq (⟨"TripGuard$Channel", "isInside", "(I)Z"⟩, 8) := ⟨⟨by decide +kernel, by decide +kernel⟩, List.mem_of_getElem? (i := 97) (by decide +kernel), List.mem_of_getElem? (i := 227) (by decide +kernel), List.mem_of_getElem? (i := 228) (by decide +kernel)⟩
theorem lw_p5 : lw_okq (⟨"TripGuard", "receiveFrames", "(LTripGuard$Train;)V"⟩, 8) := ⟨⟨by decide +kernel, by decide +kernel⟩, List.mem_of_getElem? (i := 17) (by decide +kernel), List.mem_of_getElem? (i := 231) (by decide +kernel), List.mem_of_getElem? (i := 232) (by decide +kernel)⟩
theorem lw_p6 : lw_okq (⟨"TripGuard$Train", "countVotes", "(II)I"⟩, 4) := ⟨⟨by decide +kernel, by decide +kernel⟩, List.mem_of_getElem? (i := 129) (by decide +kernel), List.mem_of_getElem? (i := 260) (by decide +kernel), List.mem_of_getElem? (i := 261) (by decide +kernel)⟩
theorem lw_p7 : lw_okq (⟨"TripGuard$Train", "latch", "(LTripGuard$Journal;)V"⟩, 4) := ⟨⟨by decide +kernel, by decide +kernel⟩, List.mem_of_getElem? (i := 129) (by decide +kernel), List.mem_of_getElem? (i := 265) (by decide +kernel), List.mem_of_getElem? (i := 266) (by decide +kernel)⟩
theorem lw_p8 : lw_okq (⟨"TripGuard", "endTrial", "()V"⟩, 8) := ⟨⟨by decide +kernel, by decide +kernel⟩, List.mem_of_getElem? (i := 17) (by decide +kernel), List.mem_of_getElem? (i := 271) (by decide +kernel), List.mem_of_getElem? (i := 272) (by decide +kernel)⟩
theorem lw_p9 : lw_okq (⟨"TripGuard", "sendFrames", "()V"⟩, 8) := ⟨⟨by decide +kernel, by decide +kernel⟩, List.mem_of_getElem? (i := 17) (by decide +kernel), List.mem_of_getElem? (i := 283) (by decide +kernel), List.mem_of_getElem? (i := 284) (by decide +kernel)⟩
theorem lw_p10 : lw_okq (⟨"java/lang/Throwable", "fillInStackTrace", "(I)Ljava/lang/Throwable;"⟩, 6) := ⟨⟨by decide +kernel, by decide +kernel⟩, List.mem_of_getElem? (i := 351) (by decide +kernel), List.mem_of_getElem? (i := 349) (by decide +kernel), List.mem_of_getElem? (i := 350) (by decide +kernel)⟩
theorem lw_p11 : lw_okq (⟨"TripGuardModel", "limitOf", "(II)I"⟩, 30) := ⟨⟨by decide +kernel, by decide +kernel⟩, List.mem_of_getElem? (i := 523) (by decide +kernel), List.mem_of_getElem? (i := 636) (by decide +kernel), List.mem_of_getElem? (i := 637) (by decide +kernel)⟩
theorem lw_p12 : lw_okq (⟨"TripGuardModel", "look", "(II)V"⟩, 30) := ⟨⟨by decide +kernel, by decide +kernel⟩, List.mem_of_getElem? (i := 523) (by decide +kernel), List.mem_of_getElem? (i := 648) (by decide +kernel), List.mem_of_getElem? (i := 649) (by decide +kernel)⟩
theorem lw_p13 : lw_okq (⟨"TripGuardModel", "isWrong", "(I)Z"⟩, 30) := ⟨⟨by decide +kernel, by decide +kernel⟩, List.mem_of_getElem? (i := 523) (by decide +kernel), List.mem_of_getElem? (i := 652) (by decide +kernel), List.mem_of_getElem? (i := 653) (by decide +kernel)⟩
theorem lw_p14 : lw_okq (⟨"TripGuardModel", "note", "(III)V"⟩, 30) := ⟨⟨by decide +kernel, by decide +kernel⟩, List.mem_of_getElem? (i := 523) (by decide +kernel), List.mem_of_getElem? (i := 659) (by decide +kernel), List.mem_of_getElem? (i := 660) (by decide +kernel)⟩
theorem lw_p15 : lw_okq (⟨"TripGuardModel", "isSet", "(II)Z"⟩, 30) := ⟨⟨by decide +kernel, by decide +kernel⟩, List.mem_of_getElem? (i := 523) (by decide +kernel), List.mem_of_getElem? (i := 663) (by decide +kernel), List.mem_of_getElem? (i := 664) (by decide +kernel)⟩
def lw_privs_1 : List (MethodName × Nat) := [(⟨"TripGuard$Channel", "judge", "(ILTripGuard$Journal;)V"⟩, 8), (⟨"TripGuard$Channel", "isWrong", "(IZ)Z"⟩, 8), (⟨"TripGuard$Channel", "moveBistable", "(IILTripGuard$Journal;)V"⟩, 8), (⟨"TripGuard$Channel", "isBeyond", "(I)Z"⟩, 8), (⟨"TripGuard$Channel", "isInside", "(I)Z"⟩, 8), (⟨"TripGuard", "receiveFrames", "(LTripGuard$Train;)V"⟩, 8), (⟨"TripGuard$Train", "countVotes", "(II)I"⟩, 4), (⟨"TripGuard$Train", "latch", "(LTripGuard$Journal;)V"⟩, 4), (⟨"TripGuard", "endTrial", "()V"⟩, 8), (⟨"TripGuard", "sendFrames", "()V"⟩, 8), (⟨"java/lang/Throwable", "fillInStackTrace", "(I)Ljava/lang/Throwable;"⟩, 6), (⟨"TripGuardModel", "limitOf", "(II)I"⟩, 30), (⟨"TripGuardModel", "look", "(II)V"⟩, 30), (⟨"TripGuardModel", "isWrong", "(I)Z"⟩, 30), (⟨"TripGuardModel", "note", "(III)V"⟩, 30), (⟨"TripGuardModel", "isSet", "(II)Z"⟩, 30)]
theorem lw_r1 : ∀ q ∈ lw_privs_1, lw_okq q := List.forall_mem_cons.mpr ⟨lw_p0, List.forall_mem_cons.mpr ⟨lw_p1, List.forall_mem_cons.mpr ⟨lw_p2, List.forall_mem_cons.mpr ⟨lw_p3, List.forall_mem_cons.mpr ⟨lw_p4, List.forall_mem_cons.mpr ⟨lw_p5, List.forall_mem_cons.mpr ⟨lw_p6, List.forall_mem_cons.mpr ⟨lw_p7, List.forall_mem_cons.mpr ⟨lw_p8, List.forall_mem_cons.mpr ⟨lw_p9, List.forall_mem_cons.mpr ⟨lw_p10, List.forall_mem_cons.mpr ⟨lw_p11, List.forall_mem_cons.mpr ⟨lw_p12, List.forall_mem_cons.mpr ⟨lw_p13, List.forall_mem_cons.mpr ⟨lw_p14, List.forall_mem_cons.mpr ⟨lw_p15, fun _ h => absurd h List.not_mem_nil⟩⟩⟩⟩⟩⟩⟩⟩⟩⟩⟩⟩⟩⟩⟩⟩
theorem lw_p16 : lw_okq (⟨"TripGuardModel", "hear", "(II)V"⟩, 30) := ⟨⟨by decide +kernel, by decide +kernel⟩, List.mem_of_getElem? (i := 523) (by decide +kernel), List.mem_of_getElem? (i := 667) (by decide +kernel), List.mem_of_getElem? (i := 668) (by decide +kernel)⟩
theorem lw_p17 : lw_okq (⟨"TripGuardModel", "vote", "(I)V"⟩, 30) := ⟨⟨by decide +kernel, by decide +kernel⟩, List.mem_of_getElem? (i := 523) (by decide +kernel), List.mem_of_getElem? (i := 674) (by decide +kernel), List.mem_of_getElem? (i := 675) (by decide +kernel)⟩
theorem lw_p18 : lw_okq (⟨"TripGuardModel", "endTest", "()V"⟩, 30) := ⟨⟨by decide +kernel, by decide +kernel⟩, List.mem_of_getElem? (i := 523) (by decide +kernel), List.mem_of_getElem? (i := 678) (by decide +kernel), List.mem_of_getElem? (i := 679) (by decide +kernel)⟩
theorem lw_p19 : lw_okq (⟨"TripGuardModel", "setBits", "(I)I"⟩, 30) := ⟨⟨by decide +kernel, by decide +kernel⟩, List.mem_of_getElem? (i := 523) (by decide +kernel), List.mem_of_getElem? (i := 682) (by decide +kernel), List.mem_of_getElem? (i := 683) (by decide +kernel)⟩
theorem lw_p20 : lw_okq (⟨"TripGuardModel", "wrongBits", "(I)I"⟩, 30) := ⟨⟨by decide +kernel, by decide +kernel⟩, List.mem_of_getElem? (i := 523) (by decide +kernel), List.mem_of_getElem? (i := 686) (by decide +kernel), List.mem_of_getElem? (i := 687) (by decide +kernel)⟩
theorem lw_p21 : lw_okq (⟨"TripGuardModel", "emit", "(III)V"⟩, 30) := ⟨⟨by decide +kernel, by decide +kernel⟩, List.mem_of_getElem? (i := 523) (by decide +kernel), List.mem_of_getElem? (i := 690) (by decide +kernel), List.mem_of_getElem? (i := 691) (by decide +kernel)⟩
def lw_privs_2 : List (MethodName × Nat) := [(⟨"TripGuardModel", "hear", "(II)V"⟩, 30), (⟨"TripGuardModel", "vote", "(I)V"⟩, 30), (⟨"TripGuardModel", "endTest", "()V"⟩, 30), (⟨"TripGuardModel", "setBits", "(I)I"⟩, 30), (⟨"TripGuardModel", "wrongBits", "(I)I"⟩, 30), (⟨"TripGuardModel", "emit", "(III)V"⟩, 30)]
theorem lw_r2 : ∀ q ∈ lw_privs_2, lw_okq q := List.forall_mem_cons.mpr ⟨lw_p16, List.forall_mem_cons.mpr ⟨lw_p17, List.forall_mem_cons.mpr ⟨lw_p18, List.forall_mem_cons.mpr ⟨lw_p19, List.forall_mem_cons.mpr ⟨lw_p20, List.forall_mem_cons.mpr ⟨lw_p21, fun _ h => absurd h List.not_mem_nil⟩⟩⟩⟩⟩⟩
def lw_privs : List (MethodName × Nat) := lw_privs_1 ++ (lw_privs_2)
def lw_tbl : List Cond := k2_sels lw_privs ++ tables_1
theorem lw_privs_ok : ∀ q ∈ lw_privs, lw_okq q := by
  show ∀ q ∈ lw_privs_1 ++ (lw_privs_2), lw_okq q
  exact List.forall_mem_append.mpr ⟨lw_r1, lw_r2⟩
end
section
/-! Contracts whose end may be a throw: the form, the payer, the three calls, the throw, the catch. -/
section IvA
variable {p : Program} {l : Launch} {e : Env} {R : Room} {s : State} {m : MethodId} {args : Array Value} {below : List Frame} {meth : Method} {c : Code} {H : Heap} {locs : List Loc} {cells slots : Nat} {Q : State → Prop}
def iv_FE (first : State) (t : State) (L : List Loc) (k n : Nat) : Prop := first.WarmedH t.vm ∧ first.sameButNew ({ t with vm := first.vm } : State) L k n
def iv_Met (l : Launch) (y : MethodName) (ws : List Cond) (rm : Room) (Pc : Array Value → State → Prop) (Qc : Array Value → State → Outcome → State → Prop) (mc ms : Nat) (free : Addr → Prop) : Prop :=
  MetFree l y (headSpec ws rm) Pc (fun _ _ _ _ _ => True) (fun a st o t => Qc a st o t ∧ ∃ L, iv_FE st t L mc ms ∧ ∀ q ∈ L, free q.base)
def iv_MQ (below : List Frame) (Qc : Array Value → State → Outcome → State → Prop) (a : Array Value) (s : State) (mc ms : Nat) (free : Addr → Prop) : State → Prop := fun t =>
  ∃ o, t.status = .running ∧ Ended t below o ∧ Qc a s o t ∧ ∃ L, iv_FE s t L mc ms ∧ ∀ q ∈ L, free q.base
theorem iv_MQ.of {Qc : Array Value → State → Outcome → State → Prop} {a : Array Value} {mc ms : Nat} {free : Addr → Prop} (t : State) (h : MQ below Qc a s mc ms free t) : iv_MQ below Qc a s mc ms free t := by
  obtain ⟨o, h1, h2, h3, L, ⟨-, h4⟩, h5⟩ := h
  exact ⟨o, h1, h2, h3, L, h4, h5⟩
theorem iv_mono {Q' : State → Prop} {g : JFrame} (h : ∀ t, Q t → Q' t) (k : W p l e R s m args below meth c H locs cells slots Q g) : W p l e R s m args below meth c H locs cells slots Q' g := fun T hT X => by
  obtain ⟨t, a, b⟩ := k T hT X
  exact ⟨t, a, h t b⟩
/-- a contract out of a walk -/
theorem iv_Met.ofW {y : MethodName} {ws : List Cond} {rm : Room} {Pc : Array Value → State → Prop} {Qc : Array Value → State → Outcome → State → Prop} {mc ms : Nat} {free : Addr → Prop} {cc : ByteArray} {maxL : Nat} {ret : Option FieldType} {hh : List (Nat × Nat × Nat × Nat)}
    (hy : plainFor y = true) (hcw : ∀ (a : Array Value) (U : State), (headSpec ws rm).pre.before a U = true → (Cond.codeWith y cc maxL ret hh).before a U = true)
    (body : ∀ p e s m args below meth c s₁, BodyLoose p l y (headSpec ws rm) cc maxL ret e s m args below meth c s₁ → c.maxLocals = maxL → Pc args s →
      W p l e (headSpec ws rm).room s m args below meth c s.heap [] 0 0 (iv_MQ below Qc args s mc ms free) (entryFrame m args maxL)) : iv_Met l y ws rm Pc Qc mc ms free := by
  refine MetFree.of_bodySF (code := cc) (maxLocals := maxL) (ret := ret) hy ?_ ?_
  · intro a U mk h hn
    obtain ⟨m9, me, cd, hn9, h1, h2, h3, h4, -, h5, h6, -⟩ := Cond.codeWith_spec (hcw a U h)
    cases hn.symm.trans hn9
    exact ⟨me, cd, h1, h2, h3, h4, h5, h6⟩
  · intro p e s m args below meth c s₁ B hml hP _
    have hh0 : s₁.heap = s.heap := by rw [B.state]; rfl
    obtain ⟨t, a1, o, b1, b2, b3⟩ := body p e s m args below meth c s₁ B hml hP s₁ hh0 (Stand.of_body B)
    exact ⟨t, o, a1, b1, b2, b3⟩
/-- what the code's word says -/
theorem iv_cwS {y : MethodName} {cc : ByteArray} {maxL : Nat} {ret : Option FieldType} {hh : List (Nat × Nat × Nat × Nat)} {a : Array Value} {U : State} {mk : MethodId} (h : (Cond.codeWith y cc maxL ret hh).before a U = true) (hn : U.methodNamed? y = some mk) :
    ∃ (me : Method) (cd : Code), U.vm.method? mk = some me ∧ me.code = some cd ∧ cd.code = cc ∧ cd.maxLocals = maxL ∧ me.sig.returnType = ret ∧ me.locks = false ∧ cd.exceptionTable.toList = tableOf hh ∧ parseMethodDescriptor y.desc = some me.sig := by
  obtain ⟨m', me, cd, h1, h2, h3, h4, h5, h6, h7, h8, h9⟩ := Cond.codeWith_spec h
  cases hn.symm.trans h1
  exact ⟨me, cd, h2, h3, h4, h5, h7, h8, by rw [← h6, table_eq], h9⟩
/-- the payer: the callee has returned, or it has thrown -/
theorem iv_back {y : MethodName} {ws : List Cond} {rm : Room} {Pc : Array Value → State → Prop} {Qc : Array Value → State → Outcome → State → Prop} {mc ms len Wd maxL : Nat} {free : Addr → Prop} {cc : ByteArray} {ret : Option FieldType} {hh : List (Nat × Nat × Nat × Nat)}
    (hM : iv_Met l y ws rm Pc Qc mc ms free) (hblind : FrameBlind Pc) (hrc : rm.cells = mc) (hrs : rm.slots = ms) (hframes : rm.frames + 1 ≤ R.frames) (hlocals : Wd + (maxL + 11) + rm.locals ≤ R.locals)
    (hws : ∀ w ∈ ws, ∀ (a' : Array Value) (U : State), s.WarmedH U.vm → w.before a' U = true) (hcw : ∀ (a' : Array Value) (U : State), s.WarmedH U.vm → (Cond.codeWith y cc maxL ret hh).before a' U = true)
    (hinit : ∀ (a' : Array Value) (U : State), s.WarmedH U.vm → (Cond.initialized y.cls).before a' U = true)
    {U : State} {Ls : List Loc} {c0 s0 : Nat} {g : JFrame} {ig : Instr} {mk : MethodId} {a : Array Value}
    (X : Stand p l e R s m args below meth c U Ls c0 s0) (hg : g.method = m) (hsize : g.locals.size = c.maxLocals) (hdg : decode c.code g.pc = .ok (ig, len)) (hW : 2 * g.monitorRoom + (g.stack.map fun v => v.category).sum ≤ Wd) (hn : U.methodNamed? y = some mk)
    (h4 : c0 + mc ≤ R.cells) (h5 : s0 + ms ≤ R.slots) (hp : Pc a U) :
    ∃ (o : Outcome) (t T' : State) (L : List Loc), Qc a (U.calling g mk a) o t ∧ (∀ q ∈ L, free q.base) ∧ T'.heap = t.heap ∧ T'.vm = t.vm ∧ Stand p l e R s m args below meth c T' (Ls ++ L) (c0 + mc) (s0 + ms) ∧
      ((∃ v, o = .returned v ∧ Steps p.tables e below (doInvoke e (U.setTop g) [] mk a).1 (T'.setTop { g with pc := g.pc + len, stack := v.toList ++ g.stack })) ∨
       ∃ x, o = .threw x ∧ Steps p.tables e below (doInvoke e (U.setTop g) [] mk a).1 ((T'.setTop g).pushFrame (.throwing x))) := by
  obtain ⟨methY, cY, hmY, hcY, -, hlY, -⟩ := iv_cwS (hcw a U X.warmed) hn
  obtain ⟨kY, hkY, -⟩ := className_of_methodNamed hn
  have hinitY : kY.init = .initialized := Cond.initialized_spec (findClass_of_methodNamed hn) hkY (hinit a U X.warmed)
  have h : At U g.method c below := by rw [hg]; exact X.here
  have happ : (headSpec ws rm).appliesLoose y e.platform (U.calling g mk a) = true :=
    Spec.appliesLoose_calling (g := g) h hdg hn hkY hinitY
      (X.room_calling (g := g) (R' := (headSpec ws rm).room) hsize hmY hcY hframes (by rw [hlY]; show _ + _ + (maxL + 11) + rm.locals ≤ _; omega) (by show c0 + rm.cells ≤ _; omega) (by show s0 + rm.slots ≤ _; omega))
      (atoms_intro fun w hw => hws w hw _ _ X.warmed)
  obtain ⟨mid, hmid⟩ := h.above
  have hfr : (U.setTop g).frames = (.java g :: mid) ++ below := by rw [State.frames_setTop' g h.top, hmid]; rfl
  obtain ⟨o, s₂, hsteps, -, hend, hq, L, ⟨hW₂, e2, q2, q3, q4, q5, q6⟩, hL⟩ := Steps.callFree hM p X.admits X.cas X.clock (acts := []) hfr happ (hblind _ _ _ _ hp) trivial
  rw [State.frames_setTop' g h.top] at hend
  have e3 : s₂ = ({ (U.calling g mk a).setFrames s₂.frames with heap := s₂.heap, slotsUsed := s₂.slotsUsed } : State).setVm s₂.vm := by
    have : s₂ = ({ s₂ with vm := (U.calling g mk a).vm } : State).setVm s₂.vm := rfl
    rw [show ({ s₂ with vm := (U.calling g mk a).vm } : State) = _ from e2] at this
    exact this
  have hW' : U.WarmedH s₂.vm := hW₂
  obtain ⟨g₀, hg0⟩ := Option.isSome_iff_exists.mp h.top
  obtain ⟨r, hr⟩ := State.topJava?_eq_some.mp hg0
  have hr' : (({ U with heap := s₂.heap, slotsUsed := s₂.slotsUsed } : State).setVm s₂.vm).frames = .java g₀ :: r := hr
  have hsame : U.sameButNew ({ U with heap := s₂.heap, slotsUsed := s₂.slotsUsed } : State) L mc ms := by
    refine ⟨?_, q2, q3, q4, q5, q6⟩
    obtain ⟨t, ht, -⟩ := State.frames_cons hr
    show ({ U with heap := s₂.heap, slotsUsed := s₂.slotsUsed } : State) = { U.setFrames U.frames with heap := s₂.heap, slotsUsed := s₂.slotsUsed }
    rw [State.setFrames_self ht]
  refine ⟨o, s₂, (({ U with heap := s₂.heap, slotsUsed := s₂.slotsUsed } : State).setVm s₂.vm), L, hq, hL, rfl, rfl,
    ⟨X.admits, X.cas, X.clock, X.frames, X.room, X.hears, X.method, X.code, (X.here.setHeapUsed s₂.heap s₂.slotsUsed).setVm hW'.alike, X.tail, State.WarmedH.trans X.warmed hW', X.limits, X.bytes, X.same.trans (hsame.setVm s.vm)⟩, ?_⟩
  cases o with
  | returned v =>
    refine Or.inl ⟨v, rfl, ?_⟩
    obtain ⟨c₂, i₂, len₂, hc₂, hd₂, hf₂⟩ := hend
    have hcc : c₂ = c := by
      have h1 : s₂.code? g.method = U.code? g.method := by
        rw [State.code?_eq, State.code?_eq, hW'.alike.method?]
      exact Option.some.inj (hc₂.symm.trans (h1.trans h.code))
    subst hcc
    have hlen : len₂ = len := by rw [hdg] at hd₂; cases hd₂; rfl
    subst hlen
    have hs₂ : s₂ = (({ U with heap := s₂.heap, slotsUsed := s₂.slotsUsed } : State).setVm s₂.vm).setTop { g with pc := g.pc + len₂, stack := v.toList ++ g.stack } := by
      refine e3.trans ?_
      rw [hf₂, State.calling_eq h.top, State.setFrames_setFrames, State.setTop_of_frames _ hr', hr]
      rfl
    rw [← hs₂]
    exact hsteps
  | threw x =>
    refine Or.inr ⟨x, rfl, ?_⟩
    have hf₂ : s₂.frames = .throwing x :: .java g :: U.frames.tail := hend
    have hs₂ : s₂ = ((({ U with heap := s₂.heap, slotsUsed := s₂.slotsUsed } : State).setVm s₂.vm).setTop g).pushFrame (.throwing x) := by
      refine e3.trans ?_
      rw [hf₂, State.calling_eq h.top, State.setFrames_setFrames, State.pushFrame, State.frames_setTop _ hr', State.setTop_of_frames _ hr', State.setFrames_setFrames, hr]
      rfl
    rw [← hs₂]
    exact hsteps
/-- what is known behind a call -/
def iv_Res (p : Program) (l : Launch) (e : Env) (R : Room) (s : State) (m : MethodId) (args : Array Value) (below : List Frame) (meth : Method) (c : Code) (T : State) (locs : List Loc) (cells slots mc ms : Nat) (g : JFrame) (rest : List Value) (Qa : State → Outcome → State → Prop) (free : Addr → Prop) : Prop :=
  ∃ (o : Outcome) (st₀ t T' : State) (L : List Loc), st₀.heap = T.heap ∧ Qa st₀ o t ∧ (∀ q ∈ L, free q.base) ∧ T'.heap = t.heap ∧ T'.vm = t.vm ∧ Stand p l e R s m args below meth c T' (locs ++ L) (cells + mc) (slots + ms) ∧
    ((∃ v, o = .returned v ∧ ∀ target, Steps p.tables e below (T'.setTop { g with pc := g.pc + 3, stack := v.toList ++ rest }) target → Steps p.tables e below (T.setTop g) target) ∨
     ∃ x, o = .threw x ∧ ∀ target, Steps p.tables e below ((T'.setTop { g with stack := rest }).pushFrame (.throwing x)) target → Steps p.tables e below (T.setTop g) target)
theorem iv_tail {y : MethodName} {ws : List Cond} {rm : Room} {Pc : Array Value → State → Prop} {Qc : Array Value → State → Outcome → State → Prop} {mc ms maxL : Nat} {free : Addr → Prop} {cc : ByteArray} {ret : Option FieldType} {hh : List (Nat × Nat × Nat × Nat)}
    (hM : iv_Met l y ws rm Pc Qc mc ms free) (hblind : FrameBlind Pc) (hrc : rm.cells = mc) (hrs : rm.slots = ms) (hframes : rm.frames + 1 ≤ R.frames) (hlocals : 8 + (maxL + 11) + rm.locals ≤ R.locals)
    (hws : ∀ w ∈ ws, ∀ (a' : Array Value) (U : State), s.WarmedH U.vm → w.before a' U = true) (hcw : ∀ (a' : Array Value) (U : State), s.WarmedH U.vm → (Cond.codeWith y cc maxL ret hh).before a' U = true)
    (hinit : ∀ (a' : Array Value) (U : State), s.WarmedH U.vm → (Cond.initialized y.cls).before a' U = true)
    {T : State} {g : JFrame} {ig : Instr} {mk : MethodId} {a : Array Value} {vm₁ : Vm} {rest : List Value}
    (X : Stand p l e R s m args below meth c (T.setVm vm₁) locs cells slots) (hg : g.method = m) (hsize : g.locals.size = c.maxLocals) (hdg : decode c.code g.pc = .ok (ig, 3)) (hW : 2 * g.monitorRoom + (rest.map fun v => v.category).sum ≤ 8) (hn : s.methodNamed? y = some mk)
    (h4 : cells + mc ≤ R.cells) (h5 : slots + ms ≤ R.slots) (hp : ∀ U : State, U.heap = T.heap → s.WarmedH U.vm → Pc a U)
    (hst : ∀ target, (∀ acts, Steps p.tables e below (doInvoke e ((T.setVm vm₁).setTop { g with stack := rest }) acts mk a).1 target) → Steps p.tables e below (T.setTop g) target) :
    iv_Res p l e R s m args below meth c T locs cells slots mc ms g rest (Qc a) free := by
  obtain ⟨o, t, T', L, h1, h2, h3, h3', h4', h5'⟩ := iv_back (g := { g with stack := rest }) (ig := ig) (len := 3) (Wd := 8) hM hblind hrc hrs hframes hlocals hws hcw hinit X hg hsize hdg hW (X.named hn) h4 h5 (hp _ rfl X.warmed)
  refine ⟨o, _, t, T', L, ?_, h1, h2, h3, h3', h4', ?_⟩
  · rfl
  · rcases h5' with ⟨v, rfl, hs⟩ | ⟨x, rfl, hs⟩
    · exact Or.inl ⟨v, rfl, fun target k => hst _ fun acts => by rw [doInvoke_state]; exact hs.trans k⟩
    · exact Or.inr ⟨x, rfl, fun target k => hst _ fun acts => by rw [doInvoke_state]; exact hs.trans k⟩
end IvA
section IvB
variable {p : Program} {l : Launch} {e : Env} {R : Room} {s : State} {m : MethodId} {args : Array Value} {below : List Frame} {meth : Method} {c : Code} {H : Heap} {locs : List Loc} {cells slots : Nat} {Q : State → Prop}
variable {y : MethodName} {ws : List Cond} {rm : Room} {Pc : Array Value → State → Prop} {Qc : Array Value → State → Outcome → State → Prop} {mc ms maxL index : Nat} {free : Addr → Prop} {cc : ByteArray} {ret : Option FieldType} {hh : List (Nat × Nat × Nat × Nat)} {own host : String} {T : State} {g : JFrame} {As rest : List Value}
/-- what every call asks -/
abbrev iv_CB (l : Launch) (R : Room) (s : State) (args : Array Value) (y : MethodName) (ws : List Cond) (rm : Room) (Pc : Array Value → State → Prop) (Qc : Array Value → State → Outcome → State → Prop) (mc ms maxL : Nat) (free : Addr → Prop) (cc : ByteArray) (ret : Option FieldType) (hh : List (Nat × Nat × Nat × Nat)) : Prop :=
  iv_Met l y ws rm Pc Qc mc ms free ∧ FrameBlind Pc ∧ rm.cells = mc ∧ rm.slots = ms ∧ rm.frames + 1 ≤ R.frames ∧ 8 + (maxL + 11) + rm.locals ≤ R.locals ∧
  (∀ w ∈ ws, ∀ (a' : Array Value) (U : State), s.WarmedH U.vm → w.before a' U = true) ∧ (∀ (a' : Array Value) (U : State), s.WarmedH U.vm → (Cond.codeWith y cc maxL ret hh).before a' U = true) ∧
  (∀ (a' : Array Value) (U : State), s.WarmedH U.vm → (Cond.initialized y.cls).before a' U = true) ∧ (y.cls ≠ "java/lang/invoke/MethodHandle" ∧ y.cls ≠ "java/lang/invoke/VarHandle")
theorem iv_selfW (s : State) : s.WarmedH s.vm := State.WarmedH.refl s
theorem iv_callV (hx : p.tables.exec = Jvm.exec) (hb : iv_CB l R s args y ws rm Pc Qc mc ms maxL free cc ret hh) (hown : s.vm.findClass own = some m.cls)
    (hlink : (Cond.methodLink own index y).before args s = true ∨ (Cond.methodLinkNest own index y host).before args s = true) (hinst : (Cond.instanceMethod y).before args s = true) (hsel : (Cond.selects y.cls y y).before args s = true)
    (X : Stand p l e R s m args below meth c T locs cells slots) {b : Addr} {cellB : Cell} (hcell : T.heap[b]? = some cellB) (hobj : cellB.vm.isStatics = false) (hcls : s.vm.findClass y.cls = some cellB.cls)
    (hg : g.method = m) (hsize : g.locals.size = c.maxLocals) (hlen : (parseMethodDescriptor y.desc).map (fun d => d.parameters.length) = some As.length) (hstack : g.stack = As.reverse ++ .ref b :: rest) (hW : 2 * g.monitorRoom + (rest.map fun v => v.category).sum ≤ 8)
    (hdg : decode c.code g.pc = .ok (.invokevirtual index, 3)) (h4 : cells + mc ≤ R.cells) (h5 : slots + ms ≤ R.slots) (hp : ∀ U : State, U.heap = T.heap → s.WarmedH U.vm → Pc (Value.ref b :: As).toArray U) :
    iv_Res p l e R s m args below meth c T locs cells slots mc ms g rest (Qc (Value.ref b :: As).toArray) free := by
  obtain ⟨hM, hbl, hrc, hrs, hfr, hlo, hws, hcw, hini, hy⟩ := hb
  obtain ⟨mk, methM, hnamed, hmethM, hstM, habM⟩ := Cond.instanceMethod_spec hinst
  obtain ⟨methM', cM, hmethM', -, -, -, -, -, -, hsigM⟩ := iv_cwS (hcw args s (iv_selfW s)) hnamed
  cases hmethM.symm.trans hmethM'
  have hlen' : As.length = methM.sig.parameters.length := by rw [hsigM] at hlen; exact (Option.some.inj hlen).symm
  obtain ⟨c2, r2, m2, q1, q2, q3, q4, kP, hkP, hkPi⟩ := Cond.selects_spec hsel
  cases hcls.symm.trans q1
  cases (State.methodFound?_of_named hnamed hy).symm.trans q2
  cases hnamed.symm.trans q3
  have hselP : selectMethod e.platform s.vm cellB.cls mk = .method mk := by rw [Launch.admits_selectMethod X.admits]; exact q4
  have hob : ∀ z, cellB.vm ≠ .statics z := fun z h => by rw [h] at hobj; cases hobj
  rcases hlink with hl | hl
  · obtain ⟨vm₁, X₁, hst⟩ := X.invokevirtual hx hown hl hnamed hmethM hstM hkP hkPi hy (a := b) (cell := cellB) hcell hob hselP hmethM habM hkP hkPi (g := g) hg (argsL := As) (rest := rest) hlen' hstack hdg
    exact iv_tail hM hbl hrc hrs hfr hlo hws hcw hini X₁ hg hsize hdg hW hnamed h4 h5 hp hst
  · obtain ⟨vm₁, X₁, hst⟩ := X.invokevirtualNest hx hown hl hnamed hmethM hstM hkP hkPi hy (a := b) (cell := cellB) hcell hob hselP hmethM habM hkP hkPi (g := g) hg (argsL := As) (rest := rest) hlen' hstack hdg
    exact iv_tail hM hbl hrc hrs hfr hlo hws hcw hini X₁ hg hsize hdg hW hnamed h4 h5 hp hst
theorem iv_callS (hx : p.tables.exec = Jvm.exec) (hb : iv_CB l R s args y ws rm Pc Qc mc ms maxL free cc ret hh) (hown : s.vm.findClass own = some m.cls)
    (hlink : (Cond.methodLink own index y).before args s = true ∨ (Cond.methodLinkNest own index y host).before args s = true) (hstat : (Cond.static y).before args s = true)
    (X : Stand p l e R s m args below meth c T locs cells slots)
    (hg : g.method = m) (hsize : g.locals.size = c.maxLocals) (hlen : (parseMethodDescriptor y.desc).map (fun d => d.parameters.length) = some As.length) (hstack : g.stack = As.reverse ++ rest) (hW : 2 * g.monitorRoom + (rest.map fun v => v.category).sum ≤ 8)
    (hdg : decode c.code g.pc = .ok (.invokestatic index, 3)) (h4 : cells + mc ≤ R.cells) (h5 : slots + ms ≤ R.slots) (hp : ∀ U : State, U.heap = T.heap → s.WarmedH U.vm → Pc As.toArray U) :
    iv_Res p l e R s m args below meth c T locs cells slots mc ms g rest (Qc As.toArray) free := by
  obtain ⟨hM, hbl, hrc, hrs, hfr, hlo, hws, hcw, hini, hy⟩ := hb
  obtain ⟨mk, methM0, cM0, hnamed, -⟩ := Cond.codeWith_spec (hcw args s (iv_selfW s))
  obtain ⟨methM, cM, hmethM, -, -, -, -, -, -, hsigM⟩ := iv_cwS (hcw args s (iv_selfW s)) hnamed
  have hlen' : As.length = methM.sig.parameters.length := by rw [hsigM] at hlen; exact (Option.some.inj hlen).symm
  have hstatic : methM.isStatic = true := Cond.static_spec hnamed hmethM hstat
  obtain ⟨kP, hkP, -⟩ := className_of_methodNamed hnamed
  have hinitP : kP.init = .initialized := Cond.initialized_spec (findClass_of_methodNamed hnamed) hkP (hini args s (iv_selfW s))
  rcases hlink with hl | hl
  · obtain ⟨vm₁, X₁, hst⟩ := X.invokestatic hx hown hl hnamed hmethM hstatic hkP hinitP hy (g := g) hg (argsL := As) (rest := rest) hlen' hstack hdg
    exact iv_tail hM hbl hrc hrs hfr hlo hws hcw hini X₁ hg hsize hdg hW hnamed h4 h5 hp hst
  · obtain ⟨vm₁, X₁, hst⟩ := X.invokestaticNest hx hown hl hnamed hmethM hstatic hkP hinitP hy (g := g) hg (argsL := As) (rest := rest) hlen' hstack hdg
    exact iv_tail hM hbl hrc hrs hfr hlo hws hcw hini X₁ hg hsize hdg hW hnamed h4 h5 hp hst
theorem iv_callI (hx : p.tables.exec = Jvm.exec) (hb : iv_CB l R s args y ws rm Pc Qc mc ms maxL free cc none []) (hown : s.vm.findClass own = some m.cls) (hy1 : y.name = "<init>")
    (hlink : (Cond.methodLink own index y).before args s = true ∨ (Cond.methodLinkNest own index y host).before args s = true) (hinst : (Cond.instanceMethod y).before args s = true) (hcode : (Cond.code y cc maxL none).before args s = true)
    (X : Stand p l e R s m args below meth c T locs cells slots) {b : Addr}
    (hg : g.method = m) (hsize : g.locals.size = c.maxLocals) (hlen : (parseMethodDescriptor y.desc).map (fun d => d.parameters.length) = some As.length) (hstack : g.stack = As.reverse ++ .ref b :: rest) (hW : 2 * g.monitorRoom + (rest.map fun v => v.category).sum ≤ 8)
    (hdg : decode c.code g.pc = .ok (.invokespecial index, 3)) (h4 : cells + mc ≤ R.cells) (h5 : slots + ms ≤ R.slots) (hp : ∀ U : State, U.heap = T.heap → s.WarmedH U.vm → Pc (Value.ref b :: As).toArray U) :
    iv_Res p l e R s m args below meth c T locs cells slots mc ms g rest (Qc (Value.ref b :: As).toArray) free := by
  obtain ⟨hM, hbl, hrc, hrs, hfr, hlo, hws, hcw, hini, hy⟩ := hb
  subst hg
  have hpl : e.platform.magicAccessors = ({} : Platform).magicAccessors := by rw [X.admits.platform]
  have hlen' : ∀ sig, parseMethodDescriptor y.desc = some sig → As.length = sig.parameters.length := fun sig h => by rw [h] at hlen; exact (Option.some.inj hlen).symm
  rcases hlink with hl | hl
  · obtain ⟨mk, methM, cM, kP, vm₁, hnamed, hmethM, hcodeM, -, hlocalsM, -, hkP, -, hW₁, hst⟩ := Steps.initColdArgs (e := e) X.here hx X.warmed hpl hown hy1 hy hl hinst hcode (f := g) rfl hlen' hstack hdg
    exact iv_tail hM hbl hrc hrs hfr hlo hws hcw hini (X.noted hW₁) rfl hsize hdg hW hnamed h4 h5 hp hst
  · obtain ⟨mk, methM, cM, kP, vm₁, hnamed, hmethM, hcodeM, -, hlocalsM, -, hkP, -, hW₁, hst⟩ := Steps.initColdArgsNest (e := e) X.here hx X.warmed hpl hown hy1 hy hl hinst hcode (f := g) rfl hlen' hstack hdg
    exact iv_tail hM hbl hrc hrs hfr hlo hws hcw hini (X.noted hW₁) rfl hsize hdg hW hnamed h4 h5 hp hst
/-- the walk goes on behind a call, or where it throws -/
theorem iv_callW {pc : Nat} {ls : Array Slot} {st0 : List Value} {Qa : State → Outcome → State → Prop}
    (hr : ∀ T : State, T.heap = H → Stand p l e R s m args below meth c T locs cells slots → iv_Res p l e R s m args below meth c T locs cells slots mc ms (F0 m pc ls st0) rest Qa free)
    (kret : ∀ (v : Option Value) (st₀ t : State) (L : List Loc), st₀.heap = H → s.WarmedH t.vm → Qa st₀ (.returned v) t → (∀ q ∈ L, free q.base) → W p l e R s m args below meth c t.heap (locs ++ L) (cells + mc) (slots + ms) Q (F0 m (pc + 3) ls (v.toList ++ rest)))
    (kthr : ∀ (x : Addr) (st₀ t T' : State) (L : List Loc), st₀.heap = H → s.WarmedH t.vm → Qa st₀ (.threw x) t → (∀ q ∈ L, free q.base) → T'.heap = t.heap → Stand p l e R s m args below meth c T' (locs ++ L) (cells + mc) (slots + ms) →
      ∃ u, Steps p.tables e below ((T'.setTop (F0 m pc ls rest)).pushFrame (.throwing x)) u ∧ Q u) :
    W p l e R s m args below meth c H locs cells slots Q (F0 m pc ls st0) := by
  intro T hT X
  obtain ⟨o, st₀, t, T', L, h1, h2, h3, h4, h5, X', h6⟩ := hr T hT X
  have hw : s.WarmedH t.vm := by rw [← h5]; exact X'.warmed
  rcases h6 with ⟨v, rfl, hs⟩ | ⟨x, rfl, hs⟩
  · obtain ⟨u, a1, b1⟩ := kret v st₀ t L (h1.trans hT) hw h2 h3 T' h4 X'
    exact ⟨u, hs u a1, b1⟩
  · obtain ⟨u, a1, b1⟩ := kthr x st₀ t T' L (h1.trans hT) hw h2 h3 h4 X'
    exact ⟨u, hs u a1, b1⟩
end IvB
end
section
/-! A throw that a row of the method's own table catches (its class not yet resolved), a throw that leaves, 'throw new E()'. -/
def iv_pick (pc : Nat) (ok : Nat → Bool) : List (Nat × Nat × Nat × Nat) → Option Nat
  | [] => none
  | r :: t => bif decide (r.1 ≤ pc) && decide (pc < r.2.1) then (bif ok r.2.2.2 then some r.2.2.1 else iv_pick pc ok t) else iv_pick pc ok t
section IvC
variable {e : Env} {s₀ : State} {f : JFrame} {a : Addr} {cell : Cell} {ok : Nat → Bool} {h : Nat}
theorem iv_go (hobj : ∀ k, cell.vm ≠ .statics k) (hk0 : ∃ k, s₀.vm.classes[cell.cls]? = some k) :
    ∀ hh : List (Nat × Nat × Nat × Nat), (∀ r ∈ hh, r.2.2.2 ≠ 0 ∧ ∃ c, s₀.vm.ClassLinks e.platform f.method.cls r.2.2.2 c ∧ s₀.vm.assignable cell.cls c = ok r.2.2.2) → iv_pick f.pc ok hh = some h →
    ∀ S : State, s₀.WarmedH S.vm → S.heap[a]? = some cell →
      ∃ vm', s₀.WarmedH vm' ∧ ∀ (Q : Handler → Pre) (E : CtlPost) (d : Bool) (acts : List Action), wp (findHandler.go f a (tableOf hh)) Q E e d acts S ↔ Q (.found h) d acts (S.setVm vm') := by
  intro hh
  induction hh with
  | nil => intro _ hp; cases hp
  | cons r t ih =>
    intro hall hp S hW hcell
    obtain ⟨sp, ep, hd, ct⟩ := r
    obtain ⟨h0, c, hl, hok⟩ := hall _ (List.mem_cons_self ..)
    have ih' := ih (fun r hr => hall r (List.mem_cons_of_mem _ hr))
    have htab : tableOf ((sp, ep, hd, ct) :: t) = (⟨sp, ep, hd, ct⟩ : ExceptionTableEntry) :: tableOf t := rfl
    simp only [iv_pick] at hp
    cases hc : decide (sp ≤ f.pc) && decide (f.pc < ep) with
    | false =>
      rw [hc] at hp
      obtain ⟨vm', hW', hq⟩ := ih' hp S hW hcell
      refine ⟨vm', hW', fun Q E d acts => ?_⟩
      rw [htab, W.findHandler_go_skip (x := ⟨sp, ep, hd, ct⟩) hc]
      exact hq Q E d acts
    | true =>
      rw [hc] at hp
      obtain ⟨dk, _, _, kt, hdk, _, _, _, _, hkt, _, hopen⟩ := hl.here
      obtain ⟨kt', hkt', -⟩ := hW.alike.2.2 _ _ hkt
      obtain ⟨k0, hk0⟩ := hk0
      obtain ⟨k0', hk0', -⟩ := hW.alike.2.2 _ _ hk0
      have hl' := hW.classLinks hl
      obtain ⟨ha, ht⟩ := (resolveClass_links e.toSetting hl').op (op := VmOp.resolveClass f.method.cls ct) rfl
      have hal : S.vm.Alike (S.vm.noted f.method.cls ct (.cls c)) := (Vm.Alike.refl S.vm).noted _ _ _
      obtain ⟨k1', hk1', -⟩ := hal.2.2 _ _ hk0'
      obtain ⟨k2', hk2', -⟩ := hal.2.2 _ _ hkt'
      have hW2 : s₀.WarmedH (S.vm.noted f.method.cls ct (.cls c)) := hW.noted hdk hopen (State.rightAt_cls hl)
      have has : (S.vm.noted f.method.cls ct (.cls c)).assignable cell.cls c = ok ct := by rw [hW2.alike.assignable]; exact hok
      cases hb : ok ct with
      | true =>
        rw [hb] at hp has
        obtain rfl := Option.some.inj hp
        refine ⟨_, hW2, fun Q E d acts => ?_⟩
        rw [htab]
        simp [findHandler.go, hc, h0, ha, ht, hcell, hobj, hk1', hk2', has, VmOp.dirties, VmOp.acts]
      | false =>
        rw [hb] at hp has
        obtain ⟨vm', hW', hq⟩ := ih' hp (S.setVm (S.vm.noted f.method.cls ct (.cls c))) hW2 hcell
        refine ⟨vm', hW', fun Q E d acts => ?_⟩
        have h1 : wp (findHandler.go f a (tableOf ((sp, ep, hd, ct) :: t))) Q E e d acts S ↔ wp (findHandler.go f a (tableOf t)) Q E e d acts (S.setVm (S.vm.noted f.method.cls ct (.cls c))) := by
          rw [htab]
          simp [findHandler.go, hc, h0, ha, ht, hcell, hobj, hk1', hk2', has, VmOp.dirties, VmOp.acts]
        rw [h1]
        exact hq Q E d acts
theorem iv_stepT {s : State} {r : List Frame} {pc : Nat} {vm' : Vm} (hfind : ∀ (Q : Handler → Pre) (E : CtlPost) (d : Bool) (acts : List Action), wp (findHandler f a) Q E e d acts s ↔ Q (.found pc) d acts (s.setVm vm')) :
    (stepThrowing e s a (.java f :: r)).Is ((s.setVm vm').setFrames (.java { f with pc := pc, stack := [.ref a] } :: r)) [] := by
  simp only [stepThrowing, searchFrame, vmDo]
  generalize hr : Sem.go _ e false [] s = res
  obtain ⟨as, rfl, ha⟩ := Sem.eq_ok_of hr (a := Handler.found pc) (s' := s.setVm vm') (acts' := []) (by simp [hfind _ _ _ _])
  exact ⟨rfl, ha⟩
end IvC
section IvD
variable {p : Program} {l : Launch} {e : Env} {R : Room} {s : State} {m : MethodId} {args : Array Value} {below : List Frame} {meth : Method} {c : Code} {H : Heap} {locs : List Loc} {cells slots : Nat} {Q : State → Prop} {T : State} {pc : Nat} {ls : Array Slot} {rest : List Value}
theorem iv_catch (X : Stand p l e R s m args below meth c T locs cells slots) {x : Addr} {cell : Cell} {h : Nat} {ok : Nat → Bool} {hh : List (Nat × Nat × Nat × Nat)} (htab : c.exceptionTable.toList = tableOf hh) (hcell : T.heap[x]? = some cell) (hobj : cell.vm.isStatics = false) (hk0 : ∃ k, s.vm.classes[cell.cls]? = some k)
    (hall : ∀ r ∈ hh, r.2.2.2 ≠ 0 ∧ ∃ c, s.vm.ClassLinks e.platform m.cls r.2.2.2 c ∧ s.vm.assignable cell.cls c = ok r.2.2.2) (hp : iv_pick pc ok hh = some h)
    (k : W p l e R s m args below meth c T.heap locs cells slots Q (F0 m h ls [.ref x])) : ∃ u, Steps p.tables e below ((T.setTop (F0 m pc ls rest)).pushFrame (.throwing x)) u ∧ Q u := by
  obtain ⟨vm', hW', hf⟩ := iv_go (e := e) (f := F0 m pc ls rest) (a := x) (VmData.ne_statics_of hobj) hk0 hh hall hp ((T.setTop (F0 m pc ls rest)).pushFrame (.throwing x)) X.warmed hcell
  have hf2 : ∀ (Q : Handler → Pre) (E : CtlPost) (d : Bool) (acts : List Action), wp (findHandler (F0 m pc ls rest) x) Q E e d acts ((T.setTop (F0 m pc ls rest)).pushFrame (.throwing x)) ↔ Q (.found h) d acts (((T.setTop (F0 m pc ls rest)).pushFrame (.throwing x)).setVm vm') := by
    intro Q E d acts
    rw [W.findHandler_eq (meth := meth) (code := c) X.method' X.code, htab]
    exact hf Q E d acts
  obtain ⟨u, a1, b1⟩ := k (T.setVm vm') rfl (X.noted hW')
  refine ⟨u, ?_, b1⟩
  have hat : At T (F0 m pc ls rest).method c below := X.here
  obtain ⟨hgo, hw⟩ := hat.throwing x
  refine Steps.head hgo hw ?_
  rw [stepThread_throwing (frames_entered hat.top _), (iv_stepT (s := (T.setTop (F0 m pc ls rest)).pushFrame (.throwing x)) hf2).1]
  obtain ⟨g₀, hg⟩ := Option.isSome_iff_exists.mp hat.top
  obtain ⟨r, hr⟩ := State.topJava?_eq_some.mp hg
  have hr' : (T.setVm vm').frames = .java g₀ :: r := hr
  rw [State.setTop_of_frames _ hr'] at a1
  have hsv : ∀ (u : State) (F G : List Frame), ((u.setFrames F).setVm vm').setFrames G = (u.setVm vm').setFrames G := fun u F G => by
    have h1 : (u.setFrames F).setVm vm' = (u.setVm vm').setFrames F := rfl
    rw [h1, State.setFrames_setFrames]
  rw [hr, List.tail_cons, State.pushFrame, hsv, State.setTop_of_frames _ hr, hsv]
  exact a1
theorem iv_leave (X : Stand p l e R s m args below meth c T locs cells slots) {x : Addr} (hout : ∀ r ∈ c.exceptionTable.toList, covers r pc = false) (hlk : meth.locks = false)
    (k : ∀ u : State, u.heap = T.heap → u.status = .running → Ended u below (.threw x) → s.WarmedH u.vm → s.sameButNew ({ u with vm := s.vm } : State) locs cells slots → Q u) : ∃ u, Steps p.tables e below ((T.setTop (F0 m pc ls rest)).pushFrame (.throwing x)) u ∧ Q u := by
  obtain ⟨h1, h2, h3, h4, h5⟩ := X.leaveThrown x (g := F0 m pc ls rest) rfl rfl rfl hout hlk
  exact ⟨_, h1, k _ rfl h2 h3 h4 h5⟩
/-- the same point, told from a start that has the heap of now -/
theorem iv_reroot (X : Stand p l e R s m args below meth c T locs cells slots) (hc : cells ≤ R.cells) (hs : slots ≤ R.slots) :
    Stand p l e { R with cells := R.cells - cells, slots := R.slots - slots } ({ s with heap := T.heap, slotsUsed := T.slotsUsed } : State) m args below meth c T [] 0 0 := by
  have hsz := X.heapSize
  have hus := X.used
  refine ⟨X.admits, X.cas, X.clock, X.frames, ?_, X.hears, X.method, X.code, X.here, X.tail, X.warmed, X.limits, X.bytes, ?_⟩
  · have hr := X.room
    have hb := X.book
    simp only [State.hasRoom, Bool.and_eq_true, decide_eq_true_eq] at hr ⊢
    obtain ⟨⟨⟨⟨r1, r2⟩, r3⟩, r4⟩, r5⟩ := hr
    refine ⟨⟨⟨⟨r1, r2⟩, ?_⟩, ?_⟩, hb⟩
    · show T.heap.size + (R.cells - cells) ≤ _
      omega
    · show T.slotsUsed + (R.slots - slots) ≤ _
      omega
  · obtain ⟨e1, -⟩ := X.same
    have hdr : T.heap.toList.drop T.heap.size = [] := List.drop_eq_nil_of_le (by rw [Array.length_toList]; exact Nat.le_refl _)
    refine ⟨e1, Nat.le_refl _, Nat.le_refl _, ?_, ?_, fun a cl h => ⟨cl, h, rfl, rfl, fun _ _ => rfl⟩⟩
    · show T.slotsUsed = T.slotsUsed + ((T.heap.toList.drop T.heap.size).map (fun x : Cell => x.slots.size)).sum
      rw [hdr]
      rfl
    · show ((T.heap.toList.drop T.heap.size).map (fun x : Cell => x.slots.size)).sum ≤ 0
      rw [hdr]
      exact Nat.le_refl _
theorem iv_inst_mem (own : String) (ic : Nat) (cls : String) (names : List String) : Cond.instantiable cls 6 ∈ Bundle.ownAtoms0 own ic cls names := by
  unfold Bundle.ownAtoms0
  exact List.mem_append_right _ (List.mem_cons_of_mem _ (List.mem_cons_self ..))
set_option maxHeartbeats 4000000 in
theorem iv_throw {cc : ByteArray} {own cls : String} {names : List String} {ic idx : Nat} (hx : p.tables.exec = Jvm.exec) (hb : c.code = cc) (hsize : ls.size = c.maxLocals) (htr : l.admits e → e.platform.stackTraces = false) (hlk : meth.locks = false)
    (hown : s.vm.findClass own = some m.cls) (hcls : Bundle.fit cls = true) (hnames : ∀ n ∈ names, Bundle.fit n = true)
    (hat : ∀ U : State, U.vm = s.vm → U.heap = H → ∀ w ∈ Bundle.ownAtoms0 own ic cls names, w.before args U = true)
    (hcl : ∀ U : State, U.vm = s.vm → (Cond.classLink own idx cls).before args U = true ∧ (Cond.initialized cls).before args U = true)
    (hd0 : decode cc pc = .ok (.new idx, 3)) (hd3 : decode cc (pc + 3) = .ok (.dup, 1)) (hd4 : decode cc (pc + 4) = .ok (.invokespecial ic, 3)) (hd7 : decode cc (pc + 7) = .ok (.athrow, 1)) (hout : ∀ r ∈ c.exceptionTable.toList, covers r (pc + 7) = false)
    (hf : names.length + 3 < R.frames) (hlo : ((rest.map fun v => v.category).sum + 1) + (13 * (names.length + 1) + 41) ≤ R.locals) (hc1 : cells + 1 ≤ R.cells) (hs6 : slots + 6 ≤ R.slots)
    (kk : ∀ (U : State) (a : Addr) (ce : Cell), U.status = .running → Ended U below (.threw a) → s.WarmedH U.vm → s.sameButNew ({ U with vm := s.vm } : State) locs (cells + 1) (slots + 6) → H.size ≤ a → U.heap[a]? = some ce → s.vm.findClass cls = some ce.cls → ce.vm = .none → (∀ (q : Nat) (cq : Cell), H[q]? = some cq → U.heap[q]? = some cq) → Q U) :
    W p l e R s m args below meth c H locs cells slots Q (F0 m pc ls rest) := by
  intro T hT X
  subst hT
  have X' := iv_reroot X (by omega) (by omega)
  have hat' := hat ({ s with heap := T.heap, slotsUsed := T.slotsUsed } : State) rfl rfl
  have hcl' := hcl ({ s with heap := T.heap, slotsUsed := T.slotsUsed } : State) rfl
  have key : W p l e { R with cells := R.cells - cells, slots := R.slots - slots } ({ s with heap := T.heap, slotsUsed := T.slotsUsed } : State) m args below meth c T.heap [] 0 0
      (fun U => ∃ (ce : Cell), U.status = .running ∧ Ended U below (.threw T.heap.size) ∧ s.WarmedH U.vm ∧ State.sameButNew ({ s with heap := T.heap, slotsUsed := T.slotsUsed } : State) ({ U with vm := s.vm } : State) [] (0 + 1) (0 + 6) ∧ U.heap[T.heap.size]? = some ce ∧ s.vm.findClass cls = some ce.cls ∧ ce.vm = .none) (F0 m pc ls rest) := by
    refine W.newc (s := ({ s with heap := T.heap, slotsUsed := T.slotsUsed } : State)) (g := F0 m pc ls rest) hx hb hown hcl'.1 (hat' (.instantiable cls 6) (iv_inst_mem own ic cls names)) hcl'.2 rfl hd0 ?_ ?_ ?_
    · show 0 + 1 ≤ R.cells - cells
      omega
    · show 0 + 6 ≤ R.slots - slots
      omega
    intro cC kC h1 h2 h3 h4
    refine lv_dup hx hb hd3 rfl ?_
    intro T2 hT2 X2
    have hcell : T2.heap[T.heap.size]? = some (freshCell cC kC) := by rw [hT2]; simp
    obtain ⟨U, st, r1, r2, r3, r4, ce, r5, r6⟩ := X2.ctorThrow0 hx (htr X2.admits) hown hcls hnames hat' (fun x hx => by cases hx) h1 h2 hcell (Nat.le_refl _) (g := F0 m (pc + 4) ls (.ref T.heap.size :: .ref T.heap.size :: rest)) rfl hsize rfl rfl rfl (by rw [hb]; exact hd4) (by rw [hb]; exact hd7) hout hf (by show 2 * 0 + (1 + (rest.map fun v => v.category).sum) + (13 * (names.length + 1) + 41) ≤ R.locals; omega) hlk
    exact ⟨U, st, ce, r1, r2, r3, r4, r5, r6.cls, r6.vm⟩
  obtain ⟨U, st, ce, r1, r2, r3, r4, r5, r6, r7⟩ := key T rfl X'
  refine ⟨U, st, kk U T.heap.size ce r1 r2 r3 ?_ (Nat.le_refl _) r5 r6 r7 ?_⟩
  · have h2 : (T.setVm s.vm).sameButNew ({ U with vm := s.vm } : State) [] 1 6 := by
      obtain ⟨e1, e2⟩ := r4
      refine ⟨?_, e2⟩
      have e3 : T.setVm s.vm = { s.setFrames T.frames with heap := T.heap, slotsUsed := T.slotsUsed } := X.same.1
      rw [e3]
      refine e1.trans ?_
      show ({ s.setFrames U.frames with heap := U.heap, slotsUsed := U.slotsUsed } : State) = { (s.setFrames T.frames).setFrames U.frames with heap := U.heap, slotsUsed := U.slotsUsed }
      rw [State.setFrames_setFrames]
    have h3 := X.same.trans h2
    rw [List.append_nil] at h3
    exact h3
  · intro q cq hq
    obtain ⟨c', x1, x2, x3, x4⟩ := r4.2.2.2.2.2 q cq hq
    have hs : c'.slots = cq.slots := Array.ext_getElem? fun i => x4 i (by simp)
    have : c' = cq := by rw [x2, hs]
    rw [← this]
    exact x1
end IvD
end
section
/-! The picture of the heap: cells by number (a reference i + 3 names the cell i; 0, 1, 2 name arrays that are only read); numbers are turned to addresses by ρ, the kinds of arrays to classes by κ. -/
abbrev iv_A : Type := List va_E
def iv_r (ρ : Nat → Nat) (v : Value) : Value := match v with
  | .ref i => .ref (ρ i)
  | .int x => .int x
  | .long x => .long x
  | .float x => .float x
  | .double x => .double x
  | .null => .null
  | .retAddr x => .retAddr x
abbrev iv_X : Type := (Nat → Int32) ⊕ (Nat → Int64) ⊕ (Nat → UInt32) ⊕ (Nat → UInt64) ⊕ (Nat → Option Nat)
def iv_x (ρ : Nat → Nat) (x : iv_X) : iv_X := match x with
  | .inl f => .inl f
  | .inr (.inl f) => .inr (.inl f)
  | .inr (.inr (.inl f)) => .inr (.inr (.inl f))
  | .inr (.inr (.inr (.inl f))) => .inr (.inr (.inr (.inl f)))
  | .inr (.inr (.inr (.inr f))) => .inr (.inr (.inr (.inr (fun j => (f j).map ρ))))
def iv_e (ρ : Nat → Nat) (κ : Nat → ClassId) (e : va_E) : va_E := match e with
  | .inl a => .inl (κ a.1, a.2.1, iv_x ρ a.2.2)
  | .inr o => .inr (o.1, o.2.map (iv_r ρ))
def iv_w (ρ : Nat → Nat) (κ : Nat → ClassId) (A : iv_A) : va_W := A.mapIdx fun i e => (ρ (i + 3), iv_e ρ κ e)
def iv_vc (n : Nat) (v : Value) : Prop := ∀ i, v = .ref i → i < n + 3
def iv_ec (n : Nat) (e : va_E) : Prop := match e with
  | .inl a => ∀ f : Nat → Option Nat, a.2.2 = .inr (.inr (.inr (.inr f))) → ∀ j i, f j = some i → i < n + 3
  | .inr o => ∀ v ∈ o.2, iv_vc n v
def iv_hc (A : iv_A) : Prop := ∀ (i : Nat) (e : va_E), A[i]? = some e → iv_ec A.length e
section IvE
variable {ρ ρ' : Nat → Nat} {κ : Nat → ClassId} {A : iv_A} {i n n' : Nat} {e : va_E} {v : Value}
theorem iv_w_at (h : A[i]? = some e) : (iv_w ρ κ A)[i]? = some (ρ (i + 3), iv_e ρ κ e) := by
  simp [iv_w, List.getElem?_mapIdx, h]
theorem iv_w_set : (iv_w ρ κ A).set i (ρ (i + 3), iv_e ρ κ e) = iv_w ρ κ (A.set i e) := by
  apply List.ext_getElem?
  intro j
  simp only [iv_w, List.getElem?_set, List.getElem?_mapIdx, List.length_mapIdx]
  by_cases h : i = j
  · subst h
    by_cases hl : i < A.length <;> simp [hl]
  · simp [h]
theorem iv_w_push : iv_w ρ κ (A ++ [e]) = iv_w ρ κ A ++ [(ρ (A.length + 3), iv_e ρ κ e)] := by
  simp [iv_w, List.mapIdx_append]
theorem iv_w_len : (iv_w ρ κ A).length = A.length := by simp [iv_w]
theorem iv_vc_int (x : Int32) : iv_vc n (.int x) := fun _ h => by cases h
theorem iv_vc_long (x : Int64) : iv_vc n (.long x) := fun _ h => by cases h
theorem iv_vc_un (x : Nat) : iv_vc n (.retAddr x) := fun _ h => by cases h
theorem iv_vc_null : iv_vc n .null := fun _ h => by cases h
theorem iv_vc_mono (h : iv_vc n v) (hn : n ≤ n') : iv_vc n' v := fun i hi => Nat.lt_of_lt_of_le (h i hi) (by omega)
theorem iv_ec_mono (h : iv_ec n e) (hn : n ≤ n') : iv_ec n' e := by
  cases e with
  | inl a => exact fun f hf j i hj => Nat.lt_of_lt_of_le (h f hf j i hj) (by omega)
  | inr o => exact fun v hv => iv_vc_mono (h v hv) hn
theorem iv_r_congr (h : ∀ i, i < n + 3 → ρ' i = ρ i) (hv : iv_vc n v) : iv_r ρ' v = iv_r ρ v := by
  cases v with
  | ref i => simp only [iv_r, h i (hv i rfl)]
  | _ => rfl
theorem iv_rl_congr {vs : List Value} (h : ∀ i, i < n + 3 → ρ' i = ρ i) (hv : ∀ v ∈ vs, iv_vc n v) : vs.map (iv_r ρ') = vs.map (iv_r ρ) :=
  List.map_congr_left fun v hm => iv_r_congr h (hv v hm)
theorem iv_x_congr {x : iv_X} (h : ∀ i, i < n + 3 → ρ' i = ρ i) (hc : ∀ f : Nat → Option Nat, x = .inr (.inr (.inr (.inr f))) → ∀ j i, f j = some i → i < n + 3) : iv_x ρ' x = iv_x ρ x := by
  match x, hc with
  | .inl f, _ => rfl
  | .inr (.inl f), _ => rfl
  | .inr (.inr (.inl f)), _ => rfl
  | .inr (.inr (.inr (.inl f))), _ => rfl
  | .inr (.inr (.inr (.inr f))), hc =>
    simp only [iv_x]
    congr 4
    funext j
    cases hj : f j with
    | none => rfl
    | some i => simp only [Option.map_some, h i (hc f rfl j i hj)]
theorem iv_e_congr (h : ∀ i, i < n + 3 → ρ' i = ρ i) (hc : iv_ec n e) : iv_e ρ' κ e = iv_e ρ κ e := by
  cases e with
  | inl a => simp only [iv_e, iv_x_congr h hc]
  | inr o => simp only [iv_e, iv_rl_congr h hc]
theorem iv_w_congr (h : ∀ i, i < A.length + 3 → ρ' i = ρ i) (hc : iv_hc A) : iv_w ρ' κ A = iv_w ρ κ A := by
  apply List.ext_getElem?
  intro j
  simp only [iv_w, List.getElem?_mapIdx]
  cases hj : A[j]? with
  | none => rfl
  | some e =>
    have hlt : j < A.length := (List.getElem?_eq_some_iff.mp hj).1
    simp only [Option.map_some, h (j + 3) (by omega), iv_e_congr h (hc j e hj)]
theorem iv_hc_set (h : iv_hc A) (he : iv_ec A.length e) : iv_hc (A.set i e) := by
  intro j e' hj
  rw [List.length_set]
  rw [List.getElem?_set] at hj
  split at hj
  · split at hj
    · obtain rfl := Option.some.inj hj
      exact he
    · cases hj
  · exact h j e' hj
theorem iv_hc_push (h : iv_hc A) (he : iv_ec (A.length + 1) e) : iv_hc (A ++ [e]) := by
  intro j e' hj
  rw [List.length_append, List.length_singleton]
  rw [List.getElem?_append] at hj
  split at hj
  · exact iv_ec_mono (h j e' hj) (by omega)
  · have : j - A.length = 0 := by
      cases hz : j - A.length with
      | zero => rfl
      | succ z => rw [hz] at hj; simp at hj
    rw [this] at hj
    obtain rfl := Option.some.inj hj
    exact he
theorem iv_rf_map (x : Option Nat) : iv_r ρ (va_rf x) = va_rf (x.map ρ) := by cases x <;> rfl
theorem iv_r_cat (v : Value) : (iv_r ρ v).category = v.category := by cases v <;> rfl
end IvE
/-! the locals: a value '.retAddr _' stands for a slot of which nothing is known -/
def iv_un (v : Value) : Bool := match v with
  | .retAddr _ => true
  | _ => false
def iv_L (ρ : Nat → Nat) (nL : Nat) (ls : List Value) (lsR : Array Slot) : Prop :=
  ls.length = nL ∧ lsR.size = nL ∧ lv_wf lsR ∧ (∀ v ∈ ls, v.category = 1) ∧ ∀ (i : Nat) (v : Value), ls[i]? = some v → iv_un v = false → lsR[i]? = some (Slot.val (iv_r ρ v))
def iv_ll (ρ : Nat → Nat) (ls : List Value) : List (Nat × Value) := (List.range ls.length).filterMap fun i => match ls[i]? with
  | some v => bif iv_un v then none else some (i, iv_r ρ v)
  | none => none
section IvF
variable {ρ ρ' : Nat → Nat} {nL n i : Nat} {ls : List Value} {lsR ls' : Array Slot} {v : Value}
theorem iv_ll_mem {q : Nat × Value} : q ∈ iv_ll ρ ls ↔ ∃ v, ls[q.1]? = some v ∧ iv_un v = false ∧ q.2 = iv_r ρ v := by
  simp only [iv_ll, List.mem_filterMap, List.mem_range]
  constructor
  · rintro ⟨i, hi, h⟩
    cases hv : ls[i]? with
    | none => rw [hv] at h; cases h
    | some v =>
      rw [hv] at h
      cases hu : iv_un v with
      | true => simp [hu] at h
      | false =>
        simp [hu] at h
        subst h
        exact ⟨v, hv, hu, rfl⟩
  · rintro ⟨v, hv, hu, h2⟩
    refine ⟨q.1, (List.getElem?_eq_some_iff.mp hv).1, ?_⟩
    obtain ⟨q1, q2⟩ := q
    simp only at hv h2 ⊢
    rw [hv, h2]
    simp [hu]
theorem iv_L.has (h : iv_L ρ nL ls lsR) : lv_has lsR nL (iv_ll ρ ls) := by
  refine ⟨h.2.1, h.2.2.1, fun q hq => ?_⟩
  obtain ⟨v, hv, hu, h2⟩ := iv_ll_mem.mp hq
  rw [h2]
  exact h.2.2.2.2 q.1 v hv hu
theorem iv_L.get (h : iv_L ρ nL ls lsR) (hv : ls[i]? = some v) (hu : iv_un v = false) : lsR[i]? = some (Slot.val (iv_r ρ v)) := h.2.2.2.2 i v hv hu
theorem iv_L.put (h : iv_L ρ nL ls lsR) (hi : i < ls.length) (hv : v.category = 1) (h' : lv_has ls' nL ((i, iv_r ρ v) :: (iv_ll ρ ls).filter (fun q => !(q.1 == i) && !(q.1 + 1 == i && q.2.category == 2)))) : iv_L ρ nL (ls.set i v) ls' := by
  refine ⟨by rw [List.length_set]; exact h.1, h'.1, h'.2.1, fun x hx => ?_, fun j x hj hu => ?_⟩
  · rcases List.mem_or_eq_of_mem_set hx with h1 | h1
    · exact h.2.2.2.1 x h1
    · rw [h1]; exact hv
  · rw [List.getElem?_set] at hj
    split at hj
    · rename_i hij
      subst hij
      (try rw [if_pos hi] at hj)
      obtain rfl := Option.some.inj hj
      exact h'.2.2 (i, iv_r ρ v) (List.mem_cons_self ..)
    · rename_i hij
      have hm : (j, iv_r ρ x) ∈ iv_ll ρ ls := iv_ll_mem.mpr ⟨x, hj, hu, rfl⟩
      have hc : (iv_r ρ x).category = 1 := by rw [iv_r_cat]; exact h.2.2.2.1 x (List.mem_of_getElem? hj)
      refine h'.2.2 (j, iv_r ρ x) (List.mem_cons_of_mem _ (List.mem_filter.mpr ⟨hm, ?_⟩))
      have hji : ¬ j = i := fun q => hij q.symm
      simp [hji, hc]
theorem iv_L.congr (h : iv_L ρ nL ls lsR) (hr : ∀ i, i < n + 3 → ρ' i = ρ i) (hc : ∀ v ∈ ls, iv_vc n v) : iv_L ρ' nL ls lsR :=
  ⟨h.1, h.2.1, h.2.2.1, h.2.2.2.1, fun i v hv hu => by rw [iv_r_congr hr (hc v (List.mem_of_getElem? hv))]; exact h.2.2.2.2 i v hv hu⟩
theorem iv_L.entry {as : List Value} (ha : ∀ v ∈ as, v.category = 1) (hl : as.length ≤ nL) :
    iv_L ρ nL (as ++ List.replicate (nL - as.length) (.retAddr 0)) (((as.map (iv_r ρ)).map Slot.val ++ List.replicate (nL - (as.map (iv_r ρ)).length) Slot.unset).toArray) := by
  have hcat : ∀ w ∈ as.map (iv_r ρ), w.category = 1 := fun w hw => by
    obtain ⟨v, hv, rfl⟩ := List.mem_map.mp hw
    rw [iv_r_cat]; exact ha v hv
  refine ⟨by simp; omega, by simp; omega, ⟨fun i v h hc => ?_, fun i h => ?_⟩, fun v hv => ?_, fun i v hv hu => ?_⟩
  · exfalso
    simp only [List.getElem?_toArray, List.getElem?_append] at h
    split at h
    · simp only [List.getElem?_map, Option.map_eq_some_iff] at h
      obtain ⟨w, hw, h2⟩ := h
      obtain rfl : w = v := by injection h2
      have := hcat w (List.mem_of_getElem? (by simpa using hw))
      omega
    · simp only [List.getElem?_replicate] at h
      split at h <;> simp at h
  · exfalso
    simp only [List.getElem?_toArray, List.getElem?_append] at h
    split at h
    · simp only [List.getElem?_map, Option.map_eq_some_iff] at h
      obtain ⟨w, hw, h2⟩ := h
      cases h2
    · simp only [List.getElem?_replicate] at h
      split at h <;> simp at h
  · rcases List.mem_append.mp hv with h1 | h1
    · exact ha v h1
    · rw [(List.mem_replicate.mp h1).2]; rfl
  · rw [List.getElem?_append] at hv
    split at hv
    · rename_i hlt
      have h2 : as[i] = v := (List.getElem?_eq_some_iff.mp hv).2
      simp [List.getElem?_append, hlt, h2]
    · simp only [List.getElem?_replicate] at hv
      split at hv
      · obtain rfl := Option.some.inj hv
        cases hu
      · cases hv
end IvF
end
section
/-! The machine of the picture, its steps told by what goes on behind them (k). -/
abbrev iv_R : Type := (Option Value ⊕ Nat) × iv_A
abbrev iv_K : Type := Nat → Nat → List Value → List Value → iv_A → Nat → Nat → Option iv_R
def iv_lk (pc : Nat) : List (Nat × Instr) → Option Instr
  | [] => none
  | q :: t => bif Nat.beq q.1 pc then some q.2 else iv_lk pc t
def iv_bin (f : Int32 → Int32 → Int32) (st : List Value) (k : List Value → Option iv_R) : Option iv_R := match st with
  | .int y :: .int x :: r => k (.int (f x y) :: r)
  | _ => none
def iv_dv (f : Int32 → Int32 → Int32) (st : List Value) (k : List Value → Option iv_R) : Option iv_R := match st with
  | .int y :: .int x :: r => bif y == 0 then none else k (.int (f x y) :: r)
  | _ => none
def iv_ldi (ls : List Value) (i : Nat) (k : Value → Option iv_R) : Option iv_R := match ls[i]? with
  | some (.int x) => k (.int x)
  | _ => none
def iv_lda (ls : List Value) (i : Nat) (k : Value → Option iv_R) : Option iv_R := match ls[i]? with
  | some (.ref x) => k (.ref x)
  | _ => none
def iv_sti (ls : List Value) (i : Nat) (st : List Value) (k : List Value → List Value → Option iv_R) : Option iv_R := match st with
  | .int x :: r => bif decide (i < ls.length) then k (ls.set i (.int x)) r else none
  | _ => none
def iv_sta (ls : List Value) (i : Nat) (st : List Value) (k : List Value → List Value → Option iv_R) : Option iv_R := match st with
  | .ref x :: r => bif decide (i < ls.length) then k (ls.set i (.ref x)) r else none
  | _ => none
def iv_inc (ls : List Value) (i : Nat) (n : Int) (k : List Value → Option iv_R) : Option iv_R := match ls[i]? with
  | some (.int x) => k (ls.set i (.int (x + Int32.ofInt n)))
  | _ => none
def iv_jp (pc : Nat) (off : Int) (k : Nat → Option iv_R) : Option iv_R := match (pc : Int) + off with
  | .ofNat t => k t
  | .negSucc _ => none
def iv_if1 (b : Int32 → Bool) (st : List Value) (kt kf : List Value → Option iv_R) : Option iv_R := match st with
  | .int x :: r => bif b x then kt r else kf r
  | _ => none
def iv_if2 (b : Int32 → Int32 → Bool) (st : List Value) (kt kf : List Value → Option iv_R) : Option iv_R := match st with
  | .int y :: .int x :: r => bif b x y then kt r else kf r
  | _ => none
def iv_dup (st : List Value) (k : List Value → Option iv_R) : Option iv_R := match st with
  | .int x :: r => k (.int x :: .int x :: r)
  | .ref x :: r => k (.ref x :: .ref x :: r)
  | _ => none
def iv_dup2 (st : List Value) (k : List Value → Option iv_R) : Option iv_R := match st with
  | .int x :: .ref y :: r => k (.int x :: .ref y :: .int x :: .ref y :: r)
  | _ => none
def iv_i2l (st : List Value) (k : List Value → Option iv_R) : Option iv_R := match st with
  | .int x :: r => k (.long x.toInt64 :: r)
  | _ => none
def iv_lcmp (st : List Value) (k : List Value → Option iv_R) : Option iv_R := match st with
  | .long y :: .long x :: r => k (.int (lg_cmp x y) :: r)
  | _ => none
def iv_tsw (lo hi dflt : Int) (offs : Array Int) (st : List Value) (k : Int → List Value → Option iv_R) : Option iv_R := match st with
  | .int x :: r => bif decide (x.toInt < lo) || decide (hi < x.toInt) then k dflt r else match offs[(x.toInt - lo).toNat]? with
    | some o => k o r
    | none => none
  | _ => none
def iv_in (j : Int32) (n : Nat) : Bool := !(decide (j < 0)) && decide (j.toNatClampNeg < n)
def iv_gf (A : iv_A) (ci f : Nat) (st : List Value) (k : List Value → Option iv_R) : Option iv_R := match st with
  | .ref (i + 3) :: r => match A[i]? with
    | some (.inr o) => bif Nat.beq o.1 ci then (match o.2[f]? with
      | some v => k (v :: r)
      | none => none) else none
    | _ => none
  | _ => none
def iv_fit (ty : FieldType) (v : Value) : Bool := match ty, v with
  | .int, .int _ => true
  | .boolean, .int x => x == 0 || x == 1
  | .object _, .ref _ => true
  | .array _, .ref _ => true
  | _, _ => false
def iv_pf (A : iv_A) (ci f : Nat) (ty : FieldType) (st : List Value) (k : iv_A → List Value → Option iv_R) : Option iv_R := match st with
  | v :: .ref (i + 3) :: r => match A[i]? with
    | some (.inr o) => bif Nat.beq o.1 ci && iv_fit ty v && decide (f < o.2.length) then k (A.set i (.inr (ci, o.2.set f v))) r else none
    | _ => none
  | _ => none
def iv_ia (X : Nat → Option (Nat × (Nat → Int32))) (A : iv_A) (kd i : Nat) : Option (Nat × (Nat → Int32)) := match i with
  | i + 3 => match A[i]? with
    | some (.inl (q, n, .inl f)) => bif Nat.beq q kd then some (n, f) else none
    | _ => none
  | i => bif Nat.beq kd 0 then X i else none
def iv_ald (X : Nat → Option (Nat × (Nat → Int32))) (A : iv_A) (kd : Nat) (st : List Value) (k : List Value → Option iv_R) : Option iv_R := match st with
  | .int j :: .ref i :: r => match iv_ia X A kd i with
    | some (n, f) => bif iv_in j n then k (.int (f j.toNatClampNeg) :: r) else none
    | none => none
  | _ => none
def iv_ast (A : iv_A) (kd : Nat) (g : Int32 → Int32) (st : List Value) (k : iv_A → List Value → Option iv_R) : Option iv_R := match st with
  | .int x :: .int j :: .ref (i + 3) :: r => match A[i]? with
    | some (.inl (q, n, .inl f)) => bif Nat.beq q kd && iv_in j n then k (A.set i (.inl (kd, n, .inl (upd f j.toNatClampNeg (g x))))) r else none
    | _ => none
  | _ => none
def iv_lld (A : iv_A) (st : List Value) (k : List Value → Option iv_R) : Option iv_R := match st with
  | .int j :: .ref (i + 3) :: r => match A[i]? with
    | some (.inl (q, n, .inr (.inl f))) => bif Nat.beq q 2 && iv_in j n then k (.long (f j.toNatClampNeg) :: r) else none
    | _ => none
  | _ => none
def iv_lst (A : iv_A) (st : List Value) (k : iv_A → List Value → Option iv_R) : Option iv_R := match st with
  | .long x :: .int j :: .ref (i + 3) :: r => match A[i]? with
    | some (.inl (q, n, .inr (.inl f))) => bif Nat.beq q 2 && iv_in j n then k (A.set i (.inl (2, n, .inr (.inl (vp_updL f j.toNatClampNeg x))))) r else none
    | _ => none
  | _ => none
/-- arrays of references: the kind 3 + ci holds objects of the class ci -/
def iv_rld (kt : Nat → Option String) (A : iv_A) (st : List Value) (k : List Value → Option iv_R) : Option iv_R := match st with
  | .int j :: .ref (i + 3) :: r => match A[i]? with
    | some (.inl (q, n, .inr (.inr (.inr (.inr f))))) => bif (kt q).isSome && iv_in j n then k (va_rf (f j.toNatClampNeg) :: r) else none
    | _ => none
  | _ => none
def iv_rst (kt : Nat → Option String) (A : iv_A) (st : List Value) (k : iv_A → List Value → Option iv_R) : Option iv_R := match st with
  | .ref (v + 3) :: .int j :: .ref (i + 3) :: r => match A[i]?, A[v]? with
    | some (.inl (q, n, .inr (.inr (.inr (.inr f))))), some (.inr o) => bif Nat.beq q (o.1 + 3) && (kt q).isSome && iv_in j n then k (A.set i (.inl (q, n, .inr (.inr (.inr (.inr (va_up f j.toNatClampNeg (some (v + 3))))))))) r else none
    | _, _ => none
  | _ => none
def iv_ln (X : Nat → Option (Nat × (Nat → Int32))) (kk : Nat → Bool) (A : iv_A) (i : Nat) : Option Nat := match i with
  | i + 3 => match A[i]? with
    | some (.inl a) => bif kk a.1 then some a.2.1 else none
    | _ => none
  | i => match X i with
    | some a => some a.1
    | none => none
def iv_len (X : Nat → Option (Nat × (Nat → Int32))) (kk : Nat → Bool) (A : iv_A) (st : List Value) (k : List Value → Option iv_R) : Option iv_R := match st with
  | .ref i :: r => match iv_ln X kk A i with
    | some n => k (.int (Int32.ofNat n) :: r)
    | none => none
  | _ => none
end
section
/-! One step of the machine of the picture is a walk of the machine itself. -/
def iv_Wd (p : Program) (l : Launch) (e : Env) (R : Room) (s : State) (m : MethodId) (args : Array Value) (below : List Frame) (meth : Method) (c : Code) (Q : State → Prop) (D : va_G) (cl : List vw_C) (κ : Nat → ClassId) (Fr : Nat → Prop) (nL : Nat) (ρ0 : Nat → Nat) (n0 : Nat) (pc : Nat) (ls st : List Value) (A : iv_A) (cells slots : Nat) : Prop :=
  ∀ (ρ : Nat → Nat) (H : Heap) (locs : List Loc) (lsR : Array Slot), (∀ i, i < n0 + 3 → ρ i = ρ0 i) → n0 ≤ A.length → iv_hc A → (∀ v ∈ ls, iv_vc A.length v) → (∀ v ∈ st, iv_vc A.length v) → iv_L ρ nL ls lsR →
    va_P D cl (iv_w ρ κ A) H → va_D Fr (iv_w ρ κ A) → va_S Fr s.heap H locs → W p l e R s m args below meth c H locs cells slots Q (F0 m pc lsR (st.map (iv_r ρ)))
section IvG
variable {p : Program} {l : Launch} {e : Env} {R : Room} {s : State} {m : MethodId} {args : Array Value} {below : List Frame} {meth : Method} {c : Code} {Q : State → Prop} {D : va_G} {cl : List vw_C} {κ : Nat → ClassId} {Fr : Nat → Prop} {nL : Nat} {ρ0 : Nat → Nat} {n0 : Nat}
variable {pc pc' : Nat} {ls st st' r : List Value} {A : iv_A} {cells slots : Nat} {cc : ByteArray} {res : iv_R}
/-- the stack alone turns -/
theorem iv_s (row : ∀ (ρ : Nat → Nat) (H : Heap) (L : List Loc) (lsR : Array Slot), iv_L ρ nL ls lsR → va_P D cl (iv_w ρ κ A) H → va_S Fr s.heap H L → (∀ i, i < n0 + 3 → ρ i = ρ0 i) → W p l e R s m args below meth c H L cells slots Q (F0 m pc' lsR (st'.map (iv_r ρ))) → W p l e R s m args below meth c H L cells slots Q (F0 m pc lsR (st.map (iv_r ρ))))
    (hc : iv_hc A → (∀ v ∈ ls, iv_vc A.length v) → (∀ v ∈ st, iv_vc A.length v) → ∀ v ∈ st', iv_vc A.length v) (hk : iv_Wd p l e R s m args below meth c Q D cl κ Fr nL ρ0 n0 pc' ls st' A cells slots) : iv_Wd p l e R s m args below meth c Q D cl κ Fr nL ρ0 n0 pc ls st A cells slots :=
  fun ρ H L lsR h1 h2 h3 h4 h5 h6 h7 h8 h9 => row ρ H L lsR h6 h7 h9 h1 (hk ρ H L lsR h1 h2 h3 h4 (hc h3 h4 h5) h6 h7 h8 h9)
theorem iv_c1 {n : Nat} {v : Value} (hv : iv_vc n v) (h : ∀ v ∈ r, iv_vc n v) : ∀ w ∈ v :: r, iv_vc n w := fun w hw => by
  rcases List.mem_cons.mp hw with rfl | h1
  · exact hv
  · exact h w h1
theorem iv_ct {n : Nat} {v : Value} (h : ∀ w ∈ v :: r, iv_vc n w) : ∀ w ∈ r, iv_vc n w := fun w hw => h w (List.mem_cons_of_mem _ hw)
theorem iv_ch {n : Nat} {v : Value} (h : ∀ w ∈ v :: r, iv_vc n w) : iv_vc n v := h v (List.mem_cons_self ..)
theorem iv_s_push (x : Int32) (row : ∀ (H : Heap) (L : List Loc) (lsR : Array Slot) (rest : List Value), W p l e R s m args below meth c H L cells slots Q (F0 m pc' lsR (.int x :: rest)) → W p l e R s m args below meth c H L cells slots Q (F0 m pc lsR rest))
    (hk : iv_Wd p l e R s m args below meth c Q D cl κ Fr nL ρ0 n0 pc' ls (.int x :: st) A cells slots) : iv_Wd p l e R s m args below meth c Q D cl κ Fr nL ρ0 n0 pc ls st A cells slots :=
  iv_s (fun ρ H L lsR _ _ _ _ w => row H L lsR _ w) (fun _ _ h => iv_c1 (iv_vc_int x) h) hk
theorem iv_s_bin {f : Int32 → Int32 → Int32} {k : List Value → Option iv_R} (hr : iv_bin f st k = some res)
    (row : ∀ (H : Heap) (L : List Loc) (lsR : Array Slot) (rest : List Value) (x y : Int32), W p l e R s m args below meth c H L cells slots Q (F0 m pc' lsR (.int (f x y) :: rest)) → W p l e R s m args below meth c H L cells slots Q (F0 m pc lsR (.int y :: .int x :: rest)))
    (hk : ∀ st', k st' = some res → iv_Wd p l e R s m args below meth c Q D cl κ Fr nL ρ0 n0 pc' ls st' A cells slots) : iv_Wd p l e R s m args below meth c Q D cl κ Fr nL ρ0 n0 pc ls st A cells slots := by
  unfold iv_bin at hr
  split at hr
  · exact iv_s (fun ρ H L lsR _ _ _ _ w => row H L lsR _ _ _ w) (fun _ _ h => iv_c1 (iv_vc_int _) (iv_ct (iv_ct h))) (hk _ hr)
  · cases hr
theorem iv_s_dv {f : Int32 → Int32 → Int32} {k : List Value → Option iv_R} (hr : iv_dv f st k = some res)
    (row : ∀ (H : Heap) (L : List Loc) (lsR : Array Slot) (rest : List Value) (x y : Int32), ¬ y = 0 → W p l e R s m args below meth c H L cells slots Q (F0 m pc' lsR (.int (f x y) :: rest)) → W p l e R s m args below meth c H L cells slots Q (F0 m pc lsR (.int y :: .int x :: rest)))
    (hk : ∀ st', k st' = some res → iv_Wd p l e R s m args below meth c Q D cl κ Fr nL ρ0 n0 pc' ls st' A cells slots) : iv_Wd p l e R s m args below meth c Q D cl κ Fr nL ρ0 n0 pc ls st A cells slots := by
  unfold iv_dv at hr
  split at hr
  · rename_i y x rest
    cases hy : y == 0 with
    | true => rw [hy] at hr; cases hr
    | false =>
      rw [hy] at hr
      exact iv_s (fun ρ H L lsR _ _ _ _ w => row H L lsR _ _ _ (by simpa using hy) w) (fun _ _ h => iv_c1 (iv_vc_int _) (iv_ct (iv_ct h))) (hk _ hr)
  · cases hr
theorem iv_s_ldi {i : Nat} {k : Value → Option iv_R} (hr : iv_ldi ls i k = some res)
    (row : ∀ (H : Heap) (L : List Loc) (lsR : Array Slot) (rest : List Value) (x : Int32), lsR[i]? = some (.val (.int x)) → W p l e R s m args below meth c H L cells slots Q (F0 m pc' lsR (.int x :: rest)) → W p l e R s m args below meth c H L cells slots Q (F0 m pc lsR rest))
    (hk : ∀ v, k v = some res → iv_Wd p l e R s m args below meth c Q D cl κ Fr nL ρ0 n0 pc' ls (v :: st) A cells slots) : iv_Wd p l e R s m args below meth c Q D cl κ Fr nL ρ0 n0 pc ls st A cells slots := by
  unfold iv_ldi at hr
  split at hr
  · rename_i x hx
    exact iv_s (fun ρ H L lsR hL _ _ _ w => row H L lsR _ x (hL.get hx rfl) w) (fun _ _ h => iv_c1 (iv_vc_int _) h) (hk _ hr)
  · cases hr
theorem iv_s_lda {i : Nat} {k : Value → Option iv_R} (hr : iv_lda ls i k = some res)
    (row : ∀ (H : Heap) (L : List Loc) (lsR : Array Slot) (rest : List Value) (x : Nat), lsR[i]? = some (.val (.ref x)) → W p l e R s m args below meth c H L cells slots Q (F0 m pc' lsR (.ref x :: rest)) → W p l e R s m args below meth c H L cells slots Q (F0 m pc lsR rest))
    (hk : ∀ v, k v = some res → iv_Wd p l e R s m args below meth c Q D cl κ Fr nL ρ0 n0 pc' ls (v :: st) A cells slots) : iv_Wd p l e R s m args below meth c Q D cl κ Fr nL ρ0 n0 pc ls st A cells slots := by
  unfold iv_lda at hr
  split at hr
  · rename_i x hx
    exact iv_s (fun ρ H L lsR hL _ _ _ w => row H L lsR _ (ρ x) (hL.get hx rfl) w) (fun _ hl h => iv_c1 (hl _ (List.mem_of_getElem? hx)) h) (hk _ hr)
  · cases hr
/-- the locals and the stack turn -/
theorem iv_s_loc {i : Nat} {v : Value} (hi : i < ls.length) (hv : v.category = 1) (hvc : (∀ v ∈ ls, iv_vc A.length v) → (∀ w ∈ st, iv_vc A.length w) → iv_vc A.length v) (hst : ∀ w ∈ st', w ∈ st)
    (row : ∀ (ρ : Nat → Nat) (H : Heap) (L : List Loc) (lsR : Array Slot), iv_L ρ nL ls lsR → i < nL → lv_has lsR nL (iv_ll ρ ls) →
      (∀ ls' : Array Slot, lv_has ls' nL ((i, iv_r ρ v) :: (iv_ll ρ ls).filter (fun q => !(q.1 == i) && !(q.1 + 1 == i && q.2.category == 2))) → W p l e R s m args below meth c H L cells slots Q (F0 m pc' ls' (st'.map (iv_r ρ)))) → W p l e R s m args below meth c H L cells slots Q (F0 m pc lsR (st.map (iv_r ρ))))
    (hk : iv_Wd p l e R s m args below meth c Q D cl κ Fr nL ρ0 n0 pc' (ls.set i v) st' A cells slots) : iv_Wd p l e R s m args below meth c Q D cl κ Fr nL ρ0 n0 pc ls st A cells slots := by
  intro ρ H L lsR h1 h2 h3 h4 h5 h6 h7 h8 h9
  refine row ρ H L lsR h6 (by rw [← h6.1]; exact hi) h6.has (fun ls' h' => ?_)
  refine hk ρ H L ls' h1 h2 h3 (fun w hw => ?_) (fun w hw => h5 w (hst w hw)) (h6.put hi hv h') h7 h8 h9
  rcases List.mem_or_eq_of_mem_set hw with q | q
  · exact h4 w q
  · rw [q]; exact hvc h4 h5
theorem iv_s_sti {i : Nat} {k : List Value → List Value → Option iv_R} (hr : iv_sti ls i st k = some res)
    (row : ∀ (H : Heap) (L : List Loc) (lsR : Array Slot) (lv : List (Nat × Value)) (rest : List Value) (x : Int32), lv_has lsR nL lv → i < nL →
      (∀ ls' : Array Slot, lv_has ls' nL ((i, Value.int x) :: lv.filter (fun q => !(q.1 == i) && !(q.1 + 1 == i && q.2.category == 2))) → W p l e R s m args below meth c H L cells slots Q (F0 m pc' ls' rest)) → W p l e R s m args below meth c H L cells slots Q (F0 m pc lsR (.int x :: rest)))
    (hk : ∀ ls' st', k ls' st' = some res → iv_Wd p l e R s m args below meth c Q D cl κ Fr nL ρ0 n0 pc' ls' st' A cells slots) : iv_Wd p l e R s m args below meth c Q D cl κ Fr nL ρ0 n0 pc ls st A cells slots := by
  unfold iv_sti at hr
  split at hr
  · rename_i x rest
    cases hd : decide (i < ls.length) with
    | false => rw [hd] at hr; cases hr
    | true =>
      rw [hd] at hr
      exact iv_s_loc (v := .int x) (of_decide_eq_true hd) rfl (fun _ _ => iv_vc_int x) (fun w hw => List.mem_cons_of_mem _ hw) (fun ρ H L lsR _ h1 h2 w => row H L lsR _ _ x h2 h1 w) (hk _ _ hr)
  · cases hr
theorem iv_s_sta {i : Nat} {k : List Value → List Value → Option iv_R} (hr : iv_sta ls i st k = some res)
    (row : ∀ (H : Heap) (L : List Loc) (lsR : Array Slot) (lv : List (Nat × Value)) (rest : List Value) (x : Nat), lv_has lsR nL lv → i < nL →
      (∀ ls' : Array Slot, lv_has ls' nL ((i, Value.ref x) :: lv.filter (fun q => !(q.1 == i) && !(q.1 + 1 == i && q.2.category == 2))) → W p l e R s m args below meth c H L cells slots Q (F0 m pc' ls' rest)) → W p l e R s m args below meth c H L cells slots Q (F0 m pc lsR (.ref x :: rest)))
    (hk : ∀ ls' st', k ls' st' = some res → iv_Wd p l e R s m args below meth c Q D cl κ Fr nL ρ0 n0 pc' ls' st' A cells slots) : iv_Wd p l e R s m args below meth c Q D cl κ Fr nL ρ0 n0 pc ls st A cells slots := by
  unfold iv_sta at hr
  split at hr
  · rename_i x rest
    cases hd : decide (i < ls.length) with
    | false => rw [hd] at hr; cases hr
    | true =>
      rw [hd] at hr
      exact iv_s_loc (v := .ref x) (of_decide_eq_true hd) rfl (fun _ h => iv_ch h) (fun w hw => List.mem_cons_of_mem _ hw) (fun ρ H L lsR _ h1 h2 w => row H L lsR _ _ (ρ x) h2 h1 w) (hk _ _ hr)
  · cases hr
theorem iv_s_inc {i : Nat} {z : Int} {k : List Value → Option iv_R} (hr : iv_inc ls i z k = some res) (hx : p.tables.exec = Jvm.exec) (hb : c.code = cc) (hd : decode cc pc = .ok (.iinc i z, 3))
    (hk : ∀ ls', k ls' = some res → iv_Wd p l e R s m args below meth c Q D cl κ Fr nL ρ0 n0 (pc + 3) ls' st A cells slots) : iv_Wd p l e R s m args below meth c Q D cl κ Fr nL ρ0 n0 pc ls st A cells slots := by
  unfold iv_inc at hr
  split at hr
  · rename_i x hxi
    have hi : i < ls.length := (List.getElem?_eq_some_iff.mp hxi).1
    refine iv_s_loc (v := .int (x + Int32.ofInt z)) hi rfl (fun _ _ => iv_vc_int _) (fun w hw => hw) (fun ρ H L lsR _ h1 h2 w => ?_) (hk _ hr)
    obtain ⟨q, hq⟩ := List.getElem?_of_mem (iv_ll_mem (ρ := ρ) (q := (i, .int x)).mpr ⟨.int x, hxi, rfl, rfl⟩)
    exact lv_iinc hx hb hd h2 hq rfl h1 rfl w
  · cases hr
theorem iv_s_jp {off : Int} {k : Nat → Option iv_R} (hr : iv_jp pc off k = some res) (hx : p.tables.exec = Jvm.exec) (hb : c.code = cc) (hd : decode cc pc = .ok (.goto off, 3))
    (hk : ∀ t, k t = some res → iv_Wd p l e R s m args below meth c Q D cl κ Fr nL ρ0 n0 t ls st A cells slots) : iv_Wd p l e R s m args below meth c Q D cl κ Fr nL ρ0 n0 pc ls st A cells slots := by
  unfold iv_jp at hr
  split at hr
  · rename_i t ht
    exact iv_s (fun ρ H L lsR _ _ _ _ w => lv_goto hx hb hd ht w) (fun _ _ h => h) (hk _ hr)
  · cases hr
theorem iv_icmp {H : Heap} {L : List Loc} {lsR : Array Slot} {rest : List Value} (hx : p.tables.exec = Jvm.exec) (hb : c.code = cc) {q : ClassFile.Cond} {off : Int} {tgt : Nat} {x y : Int32} (hd : decode cc pc = .ok (.if_icmp q off, 3)) (ht : (pc : Int) + off = (tgt : Int))
    (kt : Op.if_icmp.holds q x y = true → W p l e R s m args below meth c H L cells slots Q (F0 m tgt lsR rest)) (kf : Op.if_icmp.holds q x y = false → W p l e R s m args below meth c H L cells slots Q (F0 m (pc + 3) lsR rest)) : W p l e R s m args below meth c H L cells slots Q (F0 m pc lsR (.int y :: .int x :: rest)) := by
  intro T hT X
  cases hP : Op.if_icmp.holds q x y with
  | true =>
    obtain ⟨t, a, b⟩ := kt hP T hT X
    refine ⟨t, ?_, b⟩
    jvm_step X.here [X.here.top, hx, hb, hd, hP, ht]
    exact a
  | false =>
    obtain ⟨t, a, b⟩ := kf hP T hT X
    refine ⟨t, ?_, b⟩
    jvm_step X.here [X.here.top, hx, hb, hd, hP, ht]
    exact a
theorem iv_ifc {H : Heap} {L : List Loc} {lsR : Array Slot} {rest : List Value} (hx : p.tables.exec = Jvm.exec) (hb : c.code = cc) {q : ClassFile.Cond} {off : Int} {tgt : Nat} {x : Int32} (hd : decode cc pc = .ok (.ifCond q off, 3)) (ht : (pc : Int) + off = (tgt : Int))
    (kt : Op.ifCond.holds q x = true → W p l e R s m args below meth c H L cells slots Q (F0 m tgt lsR rest)) (kf : Op.ifCond.holds q x = false → W p l e R s m args below meth c H L cells slots Q (F0 m (pc + 3) lsR rest)) : W p l e R s m args below meth c H L cells slots Q (F0 m pc lsR (.int x :: rest)) := by
  intro T hT X
  cases hP : Op.ifCond.holds q x with
  | true =>
    obtain ⟨t, a, b⟩ := kt hP T hT X
    refine ⟨t, ?_, b⟩
    jvm_step X.here [X.here.top, hx, hb, hd, hP, ht]
    exact a
  | false =>
    obtain ⟨t, a, b⟩ := kf hP T hT X
    refine ⟨t, ?_, b⟩
    jvm_step X.here [X.here.top, hx, hb, hd, hP, ht]
    exact a
/-- both roads of a branch -/
theorem iv_s_if2 {q : ClassFile.Cond} {off : Int} {kt kf : List Value → Option iv_R} (hr : iv_if2 (Op.if_icmp.holds q) st kt kf = some res) (hx : p.tables.exec = Jvm.exec) (hb : c.code = cc) {tgt : Nat} (hd : decode cc pc = .ok (.if_icmp q off, 3)) (ht : (pc : Int) + off = (tgt : Int))
    (hkt : ∀ st', kt st' = some res → iv_Wd p l e R s m args below meth c Q D cl κ Fr nL ρ0 n0 tgt ls st' A cells slots) (hkf : ∀ st', kf st' = some res → iv_Wd p l e R s m args below meth c Q D cl κ Fr nL ρ0 n0 (pc + 3) ls st' A cells slots) : iv_Wd p l e R s m args below meth c Q D cl κ Fr nL ρ0 n0 pc ls st A cells slots := by
  unfold iv_if2 at hr
  split at hr
  · rename_i y x rest
    intro ρ H L lsR h1 h2 h3 h4 h5 h6 h7 h8 h9
    refine iv_icmp hx hb hd ht (fun hP => ?_) (fun hP => ?_)
    · rw [hP] at hr
      exact hkt _ hr ρ H L lsR h1 h2 h3 h4 (iv_ct (iv_ct h5)) h6 h7 h8 h9
    · rw [hP] at hr
      exact hkf _ hr ρ H L lsR h1 h2 h3 h4 (iv_ct (iv_ct h5)) h6 h7 h8 h9
  · cases hr
theorem iv_s_if1 {q : ClassFile.Cond} {off : Int} {kt kf : List Value → Option iv_R} (hr : iv_if1 (Op.ifCond.holds q) st kt kf = some res) (hx : p.tables.exec = Jvm.exec) (hb : c.code = cc) {tgt : Nat} (hd : decode cc pc = .ok (.ifCond q off, 3)) (ht : (pc : Int) + off = (tgt : Int))
    (hkt : ∀ st', kt st' = some res → iv_Wd p l e R s m args below meth c Q D cl κ Fr nL ρ0 n0 tgt ls st' A cells slots) (hkf : ∀ st', kf st' = some res → iv_Wd p l e R s m args below meth c Q D cl κ Fr nL ρ0 n0 (pc + 3) ls st' A cells slots) : iv_Wd p l e R s m args below meth c Q D cl κ Fr nL ρ0 n0 pc ls st A cells slots := by
  unfold iv_if1 at hr
  split at hr
  · rename_i x rest
    intro ρ H L lsR h1 h2 h3 h4 h5 h6 h7 h8 h9
    refine iv_ifc hx hb hd ht (fun hP => ?_) (fun hP => ?_)
    · rw [hP] at hr
      exact hkt _ hr ρ H L lsR h1 h2 h3 h4 (iv_ct h5) h6 h7 h8 h9
    · rw [hP] at hr
      exact hkf _ hr ρ H L lsR h1 h2 h3 h4 (iv_ct h5) h6 h7 h8 h9
  · cases hr
theorem iv_s_dup {k : List Value → Option iv_R} (hr : iv_dup st k = some res) (hx : p.tables.exec = Jvm.exec) (hb : c.code = cc) (hd : decode cc pc = .ok (.dup, 1))
    (hk : ∀ st', k st' = some res → iv_Wd p l e R s m args below meth c Q D cl κ Fr nL ρ0 n0 (pc + 1) ls st' A cells slots) : iv_Wd p l e R s m args below meth c Q D cl κ Fr nL ρ0 n0 pc ls st A cells slots := by
  unfold iv_dup at hr
  split at hr
  · exact iv_s (fun ρ H L lsR _ _ _ _ w => lv_dup hx hb hd rfl w) (fun _ _ h => iv_c1 (iv_ch h) h) (hk _ hr)
  · exact iv_s (fun ρ H L lsR _ _ _ _ w => lv_dup hx hb hd rfl w) (fun _ _ h => iv_c1 (iv_ch h) h) (hk _ hr)
  · cases hr
theorem iv_s_dup2 {k : List Value → Option iv_R} (hr : iv_dup2 st k = some res) (hx : p.tables.exec = Jvm.exec) (hb : c.code = cc) (hd : decode cc pc = .ok (.dup2, 1))
    (hk : ∀ st', k st' = some res → iv_Wd p l e R s m args below meth c Q D cl κ Fr nL ρ0 n0 (pc + 1) ls st' A cells slots) : iv_Wd p l e R s m args below meth c Q D cl κ Fr nL ρ0 n0 pc ls st A cells slots := by
  unfold iv_dup2 at hr
  split at hr
  · exact iv_s (fun ρ H L lsR _ _ _ _ w => lv_dup2_11 hx hb hd rfl rfl w) (fun _ _ h => iv_c1 (iv_ch h) (iv_c1 (iv_ch (iv_ct h)) h)) (hk _ hr)
  · cases hr
theorem iv_s_i2l {k : List Value → Option iv_R} (hr : iv_i2l st k = some res) (hx : p.tables.exec = Jvm.exec) (hb : c.code = cc) (hd : decode cc pc = .ok (.i2l, 1))
    (hk : ∀ st', k st' = some res → iv_Wd p l e R s m args below meth c Q D cl κ Fr nL ρ0 n0 (pc + 1) ls st' A cells slots) : iv_Wd p l e R s m args below meth c Q D cl κ Fr nL ρ0 n0 pc ls st A cells slots := by
  unfold iv_i2l at hr
  split at hr
  · exact iv_s (fun ρ H L lsR _ _ _ _ w => lv_i2l hx hb hd rfl w) (fun _ _ h => iv_c1 (iv_vc_long _) (iv_ct h)) (hk _ hr)
  · cases hr
theorem iv_s_lcmp {k : List Value → Option iv_R} (hr : iv_lcmp st k = some res) (hx : p.tables.exec = Jvm.exec) (hb : c.code = cc) (hd : decode cc pc = .ok (.lcmp, 1))
    (hk : ∀ st', k st' = some res → iv_Wd p l e R s m args below meth c Q D cl κ Fr nL ρ0 n0 (pc + 1) ls st' A cells slots) : iv_Wd p l e R s m args below meth c Q D cl κ Fr nL ρ0 n0 pc ls st A cells slots := by
  unfold iv_lcmp at hr
  split at hr
  · exact iv_s (fun ρ H L lsR _ _ _ _ w => W.lcmp hx hb hd w) (fun _ _ h => iv_c1 (iv_vc_int _) (iv_ct (iv_ct h))) (hk _ hr)
  · cases hr
theorem iv_s_tsw {lo hi dflt : Int} {offs : Array Int} {len : Nat} {k : Int → List Value → Option iv_R} (hr : iv_tsw lo hi dflt offs st k = some res) (hx : p.tables.exec = Jvm.exec) (hb : c.code = cc) (hd : decode cc pc = .ok (.tableswitch dflt lo hi offs, len))
    (hk : ∀ o st', k o st' = some res → ∃ tgt : Nat, (pc : Int) + o = (tgt : Int) ∧ iv_Wd p l e R s m args below meth c Q D cl κ Fr nL ρ0 n0 tgt ls st' A cells slots) : iv_Wd p l e R s m args below meth c Q D cl κ Fr nL ρ0 n0 pc ls st A cells slots := by
  unfold iv_tsw at hr
  split at hr
  · rename_i x rest
    cases hb1 : decide (x.toInt < lo) || decide (hi < x.toInt) with
    | true =>
      rw [hb1] at hr
      obtain ⟨tgt, ht, hw⟩ := hk _ _ hr
      exact iv_s (fun ρ H L lsR _ _ _ _ w => lv_tableOut hx hb hd (by simpa using hb1) ht w) (fun _ _ h => iv_ct h) hw
    | false =>
      rw [hb1] at hr
      have h2 : ¬ x.toInt < lo ∧ ¬ hi < x.toInt := by simpa using hb1
      simp only [cond_false] at hr
      split at hr
      · rename_i o ho
        obtain ⟨tgt, ht, hw⟩ := hk _ _ hr
        exact iv_s (fun ρ H L lsR _ _ _ _ w => lv_tableIn hx hb hd h2.1 h2.2 ho ht w) (fun _ _ h => iv_ct h) hw
      · cases hr
  · cases hr
end IvG
end
section
/-! Steps that read, write or make cells. -/
theorem iv_fit_ok {ρ : Nat → Nat} {ty : FieldType} {v : Value} (h : iv_fit ty v = true) : narrow ty (iv_r ρ v) = iv_r ρ v ∧ fits ty (iv_r ρ v) = true := by
  unfold iv_fit at h
  split at h
  · exact ⟨rfl, rfl⟩
  · rename_i x
    simp only [Bool.or_eq_true, beq_iff_eq] at h
    rcases h with rfl | rfl
    · exact ⟨show narrow .boolean (.int 0) = .int 0 from by decide, show fits .boolean (.int 0) = true from by decide⟩
    · exact ⟨show narrow .boolean (.int 1) = .int 1 from by decide, show fits .boolean (.int 1) = true from by decide⟩
  · exact ⟨rfl, rfl⟩
  · exact ⟨rfl, rfl⟩
  · cases h
theorem iv_in_ok {j : Int32} {n : Nat} (h : iv_in j n = true) : vp_in j n := by
  simp only [iv_in, Bool.and_eq_true, Bool.not_eq_true', decide_eq_false_iff_not, decide_eq_true_eq] at h
  intro q
  rcases q with q | q
  · exact h.1 q
  · exact Nat.not_le.mpr h.2 q
section IvH
variable {p : Program} {l : Launch} {e : Env} {R : Room} {s : State} {m : MethodId} {args : Array Value} {below : List Frame} {meth : Method} {c : Code} {Q : State → Prop} {D : va_G} {cl : List vw_C} {κ : Nat → ClassId} {Fr : Nat → Prop} {nL : Nat} {ρ0 : Nat → Nat} {n0 : Nat}
variable {pc pc' : Nat} {ls st st' r : List Value} {A : iv_A} {cells slots : Nat} {cc : ByteArray} {res : iv_R} {tys : List (ClassId × FieldType)} {Ts : List Cond} {own C host : String} {T : u_T} {N ci f idx : Nat}
theorem iv_s_gf {k : List Value → Option iv_R} (hr : iv_gf A ci f st k = some res) (hx : p.tables.exec = Jvm.exec) (hb : c.code = cc) (hts : ∀ w ∈ Ts, w.before args s = true) (hin : ∀ w ∈ u_ws C T N, w ∈ Ts) (hown : s.vm.findClass own = some m.cls) (hK : va_K D cl tys s) (hc : cl[ci]? = some (C, T, N)) (hf : f < N)
    (hlink : (Cond.fieldLink own idx (T f).1 (T f).2.1 (T f).2.2.1).before args s = true ∨ (Cond.fieldLinkNest own idx (T f).1 (T f).2.1 (T f).2.2.1 host).before args s = true) (hd : decode cc pc = .ok (.getfield idx, 3))
    (hk : ∀ st', k st' = some res → iv_Wd p l e R s m args below meth c Q D cl κ Fr nL ρ0 n0 (pc + 3) ls st' A cells slots) : iv_Wd p l e R s m args below meth c Q D cl κ Fr nL ρ0 n0 pc ls st A cells slots := by
  unfold iv_gf at hr
  split at hr
  · rename_i i rest
    split at hr
    · rename_i o ho
      cases hq : Nat.beq o.1 ci with
      | false => rw [hq] at hr; cases hr
      | true =>
        rw [hq] at hr
        obtain ⟨o1, o2⟩ := o
        obtain rfl : o1 = ci := Nat.eq_of_beq_eq_true hq
        simp only [cond_true] at hr
        split at hr
        · rename_i v hv
          refine iv_s (fun ρ H L lsR _ hP _ _ w => ?_) (fun hA _ h => iv_c1 (hA _ _ ho v (List.mem_of_getElem? hv)) (iv_ct h)) (hk _ hr)
          have he := iv_w_at (ρ := ρ) (κ := κ) ho
          have hv' : (o2.map (iv_r ρ))[f]? = some (iv_r ρ v) := by simp [hv]
          rcases hlink with hl | hl
          · exact va_get hx hb hts hin hown hK hP i he hc f hf hl (fun _ h => h) hv' hd w
          · exact va_getN hx hb hts hin hown hK hP i he hc f hf hl (fun _ h => h) hv' hd w
        · cases hr
    · cases hr
  · cases hr
/-- one cell turns -/
theorem iv_s_wr {i : Nat} {e' : va_E} (he : iv_hc A → (∀ v ∈ st, iv_vc A.length v) → iv_ec A.length e') (hst : ∀ w ∈ st', w ∈ st)
    (row : ∀ (ρ : Nat → Nat) (H : Heap) (L : List Loc) (lsR : Array Slot), va_P D cl (iv_w ρ κ A) H → va_D Fr (iv_w ρ κ A) → va_S Fr s.heap H L →
      (∀ (H1 : Heap) (L1 : List Loc), va_P D cl ((iv_w ρ κ A).set i (ρ (i + 3), iv_e ρ κ e')) H1 → va_D Fr ((iv_w ρ κ A).set i (ρ (i + 3), iv_e ρ κ e')) → va_S Fr s.heap H1 L1 → W p l e R s m args below meth c H1 L1 cells slots Q (F0 m pc' lsR (st'.map (iv_r ρ)))) → W p l e R s m args below meth c H L cells slots Q (F0 m pc lsR (st.map (iv_r ρ))))
    (hk : iv_Wd p l e R s m args below meth c Q D cl κ Fr nL ρ0 n0 pc' ls st' (A.set i e') cells slots) : iv_Wd p l e R s m args below meth c Q D cl κ Fr nL ρ0 n0 pc ls st A cells slots := by
  intro ρ H L lsR h1 h2 h3 h4 h5 h6 h7 h8 h9
  refine row ρ H L lsR h7 h8 h9 (fun H1 L1 q1 q2 q3 => ?_)
  rw [iv_w_set] at q1 q2
  refine hk ρ H1 L1 lsR h1 (by rw [List.length_set]; exact h2) (iv_hc_set h3 (he h3 h5)) ?_ ?_ h6 q1 q2 q3
  · rw [List.length_set]; exact h4
  · rw [List.length_set]; exact fun w hw => h5 w (hst w hw)
theorem iv_s_pf {ty : FieldType} {k : iv_A → List Value → Option iv_R} (hr : iv_pf A ci f ty st k = some res) (hx : p.tables.exec = Jvm.exec) (hb : c.code = cc) (hts : ∀ w ∈ Ts, w.before args s = true) (hin : ∀ w ∈ u_ws C T N, w ∈ Ts) (ty0 : Nat → FieldType) (hty : ∀ k, k < N → parseFieldDescriptor (T k).2.2.1 = some (ty0 k)) (hnm : ∀ a, a < N → ∀ b, b < N → a ≠ b → (T a).2.1 ≠ (T b).2.1)
    (hown : s.vm.findClass own = some m.cls) (hK : va_K D cl tys s) (hc : cl[ci]? = some (C, T, N)) (hf : f < N) (hte : ty0 f = ty)
    (hlink : ((T f).2.2.2 = false ∧ ((Cond.fieldLink own idx (T f).1 (T f).2.1 (T f).2.2.1).before args s = true ∨ (Cond.fieldLinkNest own idx (T f).1 (T f).2.1 (T f).2.2.1 host).before args s = true)) ∨
      ((T f).2.2.2 = true ∧ meth.name = "<init>" ∧ (T f).1 = own ∧ (Cond.fieldLink own idx (T f).1 (T f).2.1 (T f).2.2.1).before args s = true)) (hd : decode cc pc = .ok (.putfield idx, 3))
    (hk : ∀ A' st', k A' st' = some res → iv_Wd p l e R s m args below meth c Q D cl κ Fr nL ρ0 n0 (pc + 3) ls st' A' cells slots) : iv_Wd p l e R s m args below meth c Q D cl κ Fr nL ρ0 n0 pc ls st A cells slots := by
  unfold iv_pf at hr
  split at hr
  · rename_i v i rest
    split at hr
    · rename_i o ho
      cases hq : Nat.beq o.1 ci && iv_fit ty v && decide (f < o.2.length) with
      | false => rw [hq] at hr; cases hr
      | true =>
        rw [hq] at hr
        simp only [Bool.and_eq_true, decide_eq_true_eq] at hq
        obtain ⟨o1, o2⟩ := o
        obtain rfl : o1 = ci := Nat.eq_of_beq_eq_true hq.1.1
        refine iv_s_wr (i := i) (e' := .inr (o1, o2.set f v)) (fun hA h w hw => ?_) (fun w hw => List.mem_cons_of_mem _ (List.mem_cons_of_mem _ hw)) (fun ρ H L lsR hP hD hS w => ?_) (hk _ _ hr)
        · rcases List.mem_or_eq_of_mem_set hw with q | q
          · exact hA _ _ ho w q
          · rw [q]; exact iv_ch h
        · have he := iv_w_at (ρ := ρ) (κ := κ) ho
          obtain ⟨hn, hfit⟩ := iv_fit_ok (ρ := ρ) hq.1.2
          have hpd : parseFieldDescriptor (T f).2.2.1 = some ty := by rw [hty f hf, hte]
          have hlen : f < (o2.map (iv_r ρ)).length := by rw [List.length_map]; exact hq.2
          have hset : ∀ (H1 : Heap) (L1 : List Loc), va_P D cl ((iv_w ρ κ A).set i (ρ (i + 3), .inr (o1, (o2.map (iv_r ρ)).set f (iv_r ρ v)))) H1 → va_D Fr ((iv_w ρ κ A).set i (ρ (i + 3), .inr (o1, (o2.map (iv_r ρ)).set f (iv_r ρ v)))) → va_S Fr s.heap H1 L1 → W p l e R s m args below meth c H1 L1 cells slots Q (F0 m (pc + 3) lsR (rest.map (iv_r ρ))) := by
            intro H1 L1 q1 q2 q3
            have e1 : (.inr (o1, (o2.map (iv_r ρ)).set f (iv_r ρ v)) : va_E) = iv_e ρ κ (.inr (o1, o2.set f v)) := by simp only [iv_e, List.map_set]
            rw [e1] at q1 q2
            exact w H1 L1 q1 q2 q3
          rcases hlink with ⟨h0, hl | hl⟩ | ⟨h0, h1, h2, hl⟩
          · exact va_put hx hb hts hin ty0 hty hnm hown hK hP hD hS i he hc f hf hl (fun _ h => h) h0 hpd hn hfit hlen hd hset
          · exact va_putN hx hb hts hin ty0 hty hnm hown hK hP hD hS i he hc f hf hl (fun _ h => h) h0 hpd hn hfit hlen hd hset
          · exact va_putF hx hb hts hin ty0 hty hnm hown hK hP hD hS i he hc f hf hl (fun _ h => h) h0 h1 h2 hpd hn hfit hlen hd hset
    · cases hr
  · cases hr
/-- what is known of the arrays that are only read -/
def iv_Ro (X : Nat → Option (Nat × (Nat → Int32))) (ρ0 : Nat → Nat) (Fr : Nat → Prop) (s : State) : Prop := ∀ i n f, X i = some (n, f) → i < 3 ∧ va_T .int (ρ0 i) n (fun j => .int (f j)) Fr s s.heap
theorem iv_s_ald {X : Nat → Option (Nat × (Nat → Int32))} {t0 : Nat} {k : List Value → Option iv_R} (hr : iv_ald X A 0 st k = some res) (hX : iv_Ro X ρ0 Fr s) (hx : p.tables.exec = Jvm.exec) (hb : c.code = cc) (hK : va_K D cl tys s) (ht : tys[t0]? = some (κ 0, .int)) (hd : decode cc pc = .ok (.iaload, 1))
    (hk : ∀ st', k st' = some res → iv_Wd p l e R s m args below meth c Q D cl κ Fr nL ρ0 n0 (pc + 1) ls st' A cells slots) : iv_Wd p l e R s m args below meth c Q D cl κ Fr nL ρ0 n0 pc ls st A cells slots := by
  unfold iv_ald at hr
  split at hr
  · rename_i j i rest
    split at hr
    · rename_i n f hf
      cases hq : iv_in j n with
      | false => rw [hq] at hr; cases hr
      | true =>
        rw [hq] at hr
        refine iv_s (fun ρ H L lsR _ hP hS h1 w => ?_) (fun hA _ h => iv_c1 (iv_vc_int _) (iv_ct (iv_ct h))) (hk _ hr)
        unfold iv_ia at hf
        split at hf
        · rename_i i'
          split at hf
          · rename_i q n' f' hA
            cases hb2 : Nat.beq q 0 with
            | false => rw [hb2] at hf; cases hf
            | true =>
              rw [hb2] at hf
              obtain rfl : q = 0 := Nat.eq_of_beq_eq_true hb2
              simp only [cond_true, Option.some.injEq, Prod.mk.injEq] at hf
              obtain ⟨rfl, rfl⟩ := hf
              exact va_iald hx hb hK hP i' t0 (iv_w_at (ρ := ρ) (κ := κ) hA) ht (iv_in_ok hq) hd w
          · cases hf
        · rename_i hne
          have hXi : X i = some (n, f) := hf
          obtain ⟨hi3, hT⟩ := hX i n f hXi
          show W p l e R s m args below meth c H L cells slots Q (F0 m pc lsR (.int j :: .ref (ρ i) :: rest.map (iv_r ρ)))
          rw [h1 i (by omega)]
          exact va_ti hx hb hT hS (iv_in_ok hq) rfl hd w
    · cases hr
  · cases hr
theorem iv_s_zld {X : Nat → Option (Nat × (Nat → Int32))} {t0 : Nat} {k : List Value → Option iv_R} (hr : iv_ald X A 1 st k = some res) (hx : p.tables.exec = Jvm.exec) (hb : c.code = cc) (hK : va_K D cl tys s) (ht : tys[t0]? = some (κ 1, .boolean)) (hd : decode cc pc = .ok (.baload, 1))
    (hk : ∀ st', k st' = some res → iv_Wd p l e R s m args below meth c Q D cl κ Fr nL ρ0 n0 (pc + 1) ls st' A cells slots) : iv_Wd p l e R s m args below meth c Q D cl κ Fr nL ρ0 n0 pc ls st A cells slots := by
  unfold iv_ald at hr
  split at hr
  · rename_i j i rest
    split at hr
    · rename_i n f hf
      cases hq : iv_in j n with
      | false => rw [hq] at hr; cases hr
      | true =>
        rw [hq] at hr
        refine iv_s (fun ρ H L lsR _ hP hS h1 w => ?_) (fun hA _ h => iv_c1 (iv_vc_int _) (iv_ct (iv_ct h))) (hk _ hr)
        unfold iv_ia at hf
        split at hf
        · rename_i i'
          split at hf
          · rename_i q n' f' hA
            cases hb2 : Nat.beq q 1 with
            | false => rw [hb2] at hf; cases hf
            | true =>
              rw [hb2] at hf
              obtain rfl : q = 1 := Nat.eq_of_beq_eq_true hb2
              simp only [cond_true, Option.some.injEq, Prod.mk.injEq] at hf
              obtain ⟨rfl, rfl⟩ := hf
              exact va_zald hx hb hK hP i' t0 (iv_w_at (ρ := ρ) (κ := κ) hA) ht (iv_in_ok hq) hd w
          · cases hf
        · cases hf
    · cases hr
  · cases hr
theorem iv_s_ast {kd t0 : Nat} {g : Int32 → Int32} {ty : FieldType} {k : iv_A → List Value → Option iv_R} (hr : iv_ast A kd g st k = some res)
    (row : ∀ (ws : va_W) (H : Heap) (L : List Loc) (lsR : Array Slot) (rest : List Value) (a q0 n : Nat) (f : Nat → Int32) (j x : Int32), va_P D cl ws H → va_D Fr ws → va_S Fr s.heap H L → ws[q0]? = some (a, .inl (κ kd, n, .inl f)) → vp_in j n →
      (∀ (H1 : Heap) (L1 : List Loc), va_P D cl (ws.set q0 (a, .inl (κ kd, n, .inl (upd f j.toNatClampNeg (g x))))) H1 → va_D Fr (ws.set q0 (a, .inl (κ kd, n, .inl (upd f j.toNatClampNeg (g x))))) → va_S Fr s.heap H1 L1 → W p l e R s m args below meth c H1 L1 cells slots Q (F0 m pc' lsR rest)) → W p l e R s m args below meth c H L cells slots Q (F0 m pc lsR (.int x :: .int j :: .ref a :: rest)))
    (hk : ∀ A' st', k A' st' = some res → iv_Wd p l e R s m args below meth c Q D cl κ Fr nL ρ0 n0 pc' ls st' A' cells slots) : iv_Wd p l e R s m args below meth c Q D cl κ Fr nL ρ0 n0 pc ls st A cells slots := by
  unfold iv_ast at hr
  split at hr
  · rename_i x j i rest
    split at hr
    · rename_i q n f hA
      cases hq : Nat.beq q kd && iv_in j n with
      | false => rw [hq] at hr; cases hr
      | true =>
        rw [hq] at hr
        simp only [Bool.and_eq_true] at hq
        obtain rfl : q = kd := Nat.eq_of_beq_eq_true hq.1
        refine iv_s_wr (i := i) (e' := .inl (q, n, .inl (upd f j.toNatClampNeg (g x)))) (fun _ _ f' hf' => by cases hf') (fun w hw => List.mem_cons_of_mem _ (List.mem_cons_of_mem _ (List.mem_cons_of_mem _ hw))) (fun ρ H L lsR hP hD hS w => ?_) (hk _ _ hr)
        exact row (iv_w ρ κ A) H L lsR _ (ρ (i + 3)) i n f j x hP hD hS (iv_w_at (ρ := ρ) (κ := κ) hA) (iv_in_ok hq.2) w
    · cases hr
  · cases hr
theorem iv_s_lld {t0 : Nat} {k : List Value → Option iv_R} (hr : iv_lld A st k = some res) (hx : p.tables.exec = Jvm.exec) (hb : c.code = cc) (hK : va_K D cl tys s) (ht : tys[t0]? = some (κ 2, .long)) (hd : decode cc pc = .ok (.laload, 1))
    (hk : ∀ st', k st' = some res → iv_Wd p l e R s m args below meth c Q D cl κ Fr nL ρ0 n0 (pc + 1) ls st' A cells slots) : iv_Wd p l e R s m args below meth c Q D cl κ Fr nL ρ0 n0 pc ls st A cells slots := by
  unfold iv_lld at hr
  split at hr
  · rename_i j i rest
    split at hr
    · rename_i q n f hA
      cases hq : Nat.beq q 2 && iv_in j n with
      | false => rw [hq] at hr; cases hr
      | true =>
        rw [hq] at hr
        simp only [Bool.and_eq_true] at hq
        obtain rfl : q = 2 := Nat.eq_of_beq_eq_true hq.1
        exact iv_s (fun ρ H L lsR _ hP hS h1 w => va_lald hx hb hK hP i t0 (iv_w_at (ρ := ρ) (κ := κ) hA) ht (iv_in_ok hq.2) hd w) (fun _ _ h => iv_c1 (iv_vc_long _) (iv_ct (iv_ct h))) (hk _ hr)
    · cases hr
  · cases hr
theorem iv_s_lst {t0 : Nat} {k : iv_A → List Value → Option iv_R} (hr : iv_lst A st k = some res) (hx : p.tables.exec = Jvm.exec) (hb : c.code = cc) (hK : va_K D cl tys s) (ht : tys[t0]? = some (κ 2, .long)) (hd : decode cc pc = .ok (.lastore, 1))
    (hk : ∀ A' st', k A' st' = some res → iv_Wd p l e R s m args below meth c Q D cl κ Fr nL ρ0 n0 (pc + 1) ls st' A' cells slots) : iv_Wd p l e R s m args below meth c Q D cl κ Fr nL ρ0 n0 pc ls st A cells slots := by
  unfold iv_lst at hr
  split at hr
  · rename_i x j i rest
    split at hr
    · rename_i q n f hA
      cases hq : Nat.beq q 2 && iv_in j n with
      | false => rw [hq] at hr; cases hr
      | true =>
        rw [hq] at hr
        simp only [Bool.and_eq_true] at hq
        obtain rfl : q = 2 := Nat.eq_of_beq_eq_true hq.1
        refine iv_s_wr (i := i) (e' := .inl (2, n, .inr (.inl (vp_updL f j.toNatClampNeg x)))) (fun _ _ f' hf' => by cases hf') (fun w hw => List.mem_cons_of_mem _ (List.mem_cons_of_mem _ (List.mem_cons_of_mem _ hw))) (fun ρ H L lsR hP hD hS w => ?_) (hk _ _ hr)
        exact va_last hx hb hK hP hD hS i t0 (iv_w_at (ρ := ρ) (κ := κ) hA) ht (iv_in_ok hq.2) hd w
    · cases hr
  · cases hr
end IvH
end
section
/-! Arrays of references, lengths, new cells, answers. -/
section IvI
variable {p : Program} {l : Launch} {e : Env} {R : Room} {s : State} {m : MethodId} {args : Array Value} {below : List Frame} {meth : Method} {c : Code} {Q : State → Prop} {D : va_G} {cl : List vw_C} {κ : Nat → ClassId} {Fr : Nat → Prop} {nL : Nat} {ρ0 : Nat → Nat} {n0 : Nat}
variable {pc pc' : Nat} {ls st st' r : List Value} {A : iv_A} {cells slots : Nat} {cc : ByteArray} {res : iv_R} {tys : List (ClassId × FieldType)} {Ts : List Cond} {own C host : String} {T : u_T} {N ci f idx : Nat} {kt : Nat → Option String}
/-- what is known of the kinds of arrays of references -/
def iv_Kt (kt : Nat → Option String) (κ : Nat → ClassId) (cl : List vw_C) (tys : List (ClassId × FieldType)) : Prop := ∀ q C, kt q = some C → (∃ t0 : Nat, tys[t0]? = some (κ q, .object C)) ∧ ∃ ci T N, q = ci + 3 ∧ cl[ci]? = some (C, T, N)
theorem iv_s_rld {k : List Value → Option iv_R} (hr : iv_rld kt A st k = some res) (hkt : iv_Kt kt κ cl tys) (hx : p.tables.exec = Jvm.exec) (hb : c.code = cc) (hK : va_K D cl tys s) (hd : decode cc pc = .ok (.aaload, 1))
    (hk : ∀ st', k st' = some res → iv_Wd p l e R s m args below meth c Q D cl κ Fr nL ρ0 n0 (pc + 1) ls st' A cells slots) : iv_Wd p l e R s m args below meth c Q D cl κ Fr nL ρ0 n0 pc ls st A cells slots := by
  unfold iv_rld at hr
  split at hr
  · rename_i j i rest
    split at hr
    · rename_i q n f hA
      cases hq : (kt q).isSome && iv_in j n with
      | false => rw [hq] at hr; cases hr
      | true =>
        rw [hq] at hr
        simp only [Bool.and_eq_true] at hq
        obtain ⟨C, hC⟩ := Option.isSome_iff_exists.mp hq.1
        obtain ⟨⟨t0, ht⟩, -⟩ := hkt q C hC
        refine iv_s (fun ρ H L lsR _ hP hS h1 w => ?_) (fun h0 _ h => iv_c1 (fun z hz => ?_) (iv_ct (iv_ct h))) (hk _ hr)
        · refine va_aldq hx hb hK hP i t0 (iv_w_at (ρ := ρ) (κ := κ) hA) ht (iv_in_ok hq.2) hd ?_
          have e1 : va_rf ((f j.toNatClampNeg).map ρ) = iv_r ρ (va_rf (f j.toNatClampNeg)) := (iv_rf_map _).symm
          rw [e1]
          exact w
        · cases hf : f j.toNatClampNeg with
          | none => rw [hf] at hz; cases hz
          | some y =>
            rw [hf] at hz
            have hz' : (Value.ref y) = .ref z := hz
            obtain rfl : y = z := by injection hz'
            exact h0 _ _ hA f rfl _ _ hf
    · cases hr
  · cases hr
theorem iv_s_rst {k : iv_A → List Value → Option iv_R} (hr : iv_rst kt A st k = some res) (hkt : iv_Kt kt κ cl tys) (hx : p.tables.exec = Jvm.exec) (hb : c.code = cc) (hK : va_K D cl tys s) (hd : decode cc pc = .ok (.aastore, 1))
    (hk : ∀ A' st', k A' st' = some res → iv_Wd p l e R s m args below meth c Q D cl κ Fr nL ρ0 n0 (pc + 1) ls st' A' cells slots) : iv_Wd p l e R s m args below meth c Q D cl κ Fr nL ρ0 n0 pc ls st A cells slots := by
  unfold iv_rst at hr
  split at hr
  · rename_i v j i rest
    split at hr
    · rename_i q n f o hA hV
      cases hq : Nat.beq q (o.1 + 3) && (kt q).isSome && iv_in j n with
      | false => rw [hq] at hr; cases hr
      | true =>
        rw [hq] at hr
        simp only [Bool.and_eq_true] at hq
        obtain ⟨⟨hq1, hq2⟩, hq3⟩ := hq
        obtain rfl : q = o.1 + 3 := Nat.eq_of_beq_eq_true hq1
        obtain ⟨C, hC⟩ := Option.isSome_iff_exists.mp hq2
        obtain ⟨⟨t0, ht⟩, ci, T, N, hci, hcl⟩ := hkt _ C hC
        obtain rfl : o.1 = ci := by omega
        refine iv_s_wr (i := i) (e' := .inl (o.1 + 3, n, .inr (.inr (.inr (.inr (va_up f j.toNatClampNeg (some (v + 3)))))))) (fun h0 h f' hf' j' i' hj' => ?_) (fun w hw => List.mem_cons_of_mem _ (List.mem_cons_of_mem _ (List.mem_cons_of_mem _ hw))) (fun ρ H L lsR hP hD hS w => ?_) (hk _ _ hr)
        · injection hf' with hf'
          injection hf' with hf'
          injection hf' with hf'
          injection hf' with hf'
          subst hf'
          unfold va_up at hj'
          split at hj'
          · obtain rfl := Option.some.inj hj'
            exact iv_ch h _ rfl
          · exact h0 _ _ hA f rfl _ _ hj'
        · refine va_astq hx hb hK hP hD hS i t0 v o.1 (r := (C, T, N)) (iv_w_at (ρ := ρ) (κ := κ) hA) ht (iv_w_at (ρ := ρ) (κ := κ) hV) hcl (iv_in_ok hq3) hd (fun H1 L1 q1 q2 q3 => ?_)
          have e1 : (.inl (κ (o.1 + 3), n, .inr (.inr (.inr (.inr (va_up (fun j => (f j).map ρ) j.toNatClampNeg (some (ρ (v + 3)))))))) : va_E) = iv_e ρ κ (.inl (o.1 + 3, n, .inr (.inr (.inr (.inr (va_up f j.toNatClampNeg (some (v + 3)))))))) := by
            simp only [iv_e, iv_x]
            congr 7
            funext z
            unfold va_up
            split <;> rfl
          rw [e1] at q1 q2
          exact w H1 L1 q1 q2 q3
    · cases hr
  · cases hr
theorem iv_s_len {X : Nat → Option (Nat × (Nat → Int32))} {kk : Nat → Bool} {k : List Value → Option iv_R} (hr : iv_len X kk A st k = some res) (hX : iv_Ro X ρ0 Fr s) (hkk : ∀ q : Nat, kk q = true → ∃ (t0 : Nat) (ty : FieldType), tys[t0]? = some (κ q, ty)) (hx : p.tables.exec = Jvm.exec) (hb : c.code = cc) (hK : va_K D cl tys s) (hd : decode cc pc = .ok (.arraylength, 1))
    (hk : ∀ st', k st' = some res → iv_Wd p l e R s m args below meth c Q D cl κ Fr nL ρ0 n0 (pc + 1) ls st' A cells slots) : iv_Wd p l e R s m args below meth c Q D cl κ Fr nL ρ0 n0 pc ls st A cells slots := by
  unfold iv_len at hr
  split at hr
  · rename_i i rest
    split at hr
    · rename_i n hn
      unfold iv_ln at hn
      split at hn
      · rename_i i'
        split at hn
        · rename_i a hA
          cases hq : kk a.1 with
          | false => rw [hq] at hn; cases hn
          | true =>
            rw [hq] at hn
            obtain rfl := Option.some.inj hn
            obtain ⟨t0, ty, ht⟩ := hkk a.1 hq
            exact iv_s (fun ρ H L lsR _ hP hS h1 w => va_alen hx hb hK hP i' t0 (iv_w_at (ρ := ρ) (κ := κ) hA) ht rfl hd w) (fun _ _ h => iv_c1 (iv_vc_int _) (iv_ct h)) (hk _ hr)
        · cases hn
      · split at hn
        · rename_i a hXi
          obtain ⟨n', f⟩ := a
          obtain rfl := Option.some.inj hn
          obtain ⟨hi3, hT⟩ := hX i n' f hXi
          refine iv_s (fun ρ H L lsR _ hP hS h1 w => ?_) (fun _ _ h => iv_c1 (iv_vc_int _) (iv_ct h)) (hk _ hr)
          show W p l e R s m args below meth c H L cells slots Q (F0 m pc lsR (.ref (ρ i) :: rest.map (iv_r ρ)))
          rw [h1 i (by omega)]
          exact va_tlen hx hb hT hS rfl hd w
        · cases hn
    · cases hr
  · cases hr
/-- one cell comes -/
theorem iv_s_new {N' : Nat} {e0 e1 : va_E} (he : ∀ ρ : Nat → Nat, iv_e ρ κ e0 = e1) (hec : ∀ n, iv_ec n e0) (hst : ∀ w ∈ st', w ∈ st)
    (row : ∀ (ρ : Nat → Nat) (H : Heap) (L : List Loc) (lsR : Array Slot), va_P D cl (iv_w ρ κ A) H → va_D Fr (iv_w ρ κ A) → va_S Fr s.heap H L →
      (∀ (q : Nat) (H1 : Heap), va_P D cl (iv_w ρ κ A ++ [(q, e1)]) H1 → va_D Fr (iv_w ρ κ A ++ [(q, e1)]) → va_S Fr s.heap H1 L → W p l e R s m args below meth c H1 L (cells + 1) (slots + N') Q (F0 m pc' lsR (.ref q :: st'.map (iv_r ρ)))) → W p l e R s m args below meth c H L cells slots Q (F0 m pc lsR (st.map (iv_r ρ))))
    (hk : iv_Wd p l e R s m args below meth c Q D cl κ Fr nL ρ0 n0 pc' ls (.ref (A.length + 3) :: st') (A ++ [e0]) (cells + 1) (slots + N')) : iv_Wd p l e R s m args below meth c Q D cl κ Fr nL ρ0 n0 pc ls st A cells slots := by
  intro ρ H L lsR h1 h2 h3 h4 h5 h6 h7 h8 h9
  refine row ρ H L lsR h7 h8 h9 (fun q H1 q1 q2 q3 => ?_)
  have hρ : ∀ i, i < A.length + 3 → (fun j => if j = A.length + 3 then q else ρ j) i = ρ i := fun i hi => by
    show (if i = A.length + 3 then q else ρ i) = ρ i
    rw [if_neg (by omega)]
  have hw : iv_w (fun j => if j = A.length + 3 then q else ρ j) κ (A ++ [e0]) = iv_w ρ κ A ++ [(q, e1)] := by
    rw [iv_w_push, iv_w_congr hρ h3, he]
    simp
  have hst' : st'.map (iv_r (fun j => if j = A.length + 3 then q else ρ j)) = st'.map (iv_r ρ) := iv_rl_congr hρ (fun w hw => h5 w (hst w hw))
  have h10 := hk (fun j => if j = A.length + 3 then q else ρ j) H1 L lsR (fun i hi => (hρ i (by omega)).trans (h1 i hi)) (by rw [List.length_append]; omega) (iv_hc_push h3 (hec _))
    (fun w hw => iv_vc_mono (h4 w hw) (by rw [List.length_append]; omega))
    (iv_c1 (fun i hi => by cases hi; rw [List.length_append, List.length_singleton]; exact Nat.add_lt_add_right (Nat.lt_succ_self _) 3) (fun w hw => iv_vc_mono (h5 w (hst w hw)) (by rw [List.length_append]; omega)))
    (h6.congr hρ h4) (by rw [hw]; exact q1) (by rw [hw]; exact q2) q3
  have e2 : (Value.ref (A.length + 3) :: st').map (iv_r (fun j => if j = A.length + 3 then q else ρ j)) = .ref q :: st'.map (iv_r ρ) := by
    rw [List.map_cons, hst']
    simp [iv_r]
  rw [e2] at h10
  exact h10
theorem iv_s_obj {ty : Nat → FieldType} {fs : List Value} (hx : p.tables.exec = Jvm.exec) (hb : c.code = cc) (hts : ∀ w ∈ Ts, w.before args s = true) (hin : ∀ w ∈ u_ws C T N, w ∈ Ts) (hty : ∀ k, k < N → parseFieldDescriptor (T k).2.2.1 = some (ty k)) (hown : s.vm.findClass own = some m.cls) (hcl : (Cond.classLink own idx C).before args s = true) (hinst : (Cond.instantiable C N).before args s = true) (hini : (Cond.initialized C).before args s = true)
    (hK : va_K D cl tys s) (hFr : ∀ q, s.heap.size ≤ q → Fr q) (hc : cl[ci]? = some (C, T, N)) (hfs : ∀ j, j < N → defaultValue (ty j) = vp_V fs j) (hnr : ∀ ρ : Nat → Nat, fs.map (iv_r ρ) = fs) (hcells : cells + 1 ≤ R.cells) (hslots : slots + N ≤ R.slots) (hd : decode cc pc = .ok (.new idx, 3))
    (hk : iv_Wd p l e R s m args below meth c Q D cl κ Fr nL ρ0 n0 (pc + 3) ls (.ref (A.length + 3) :: st) (A ++ [.inr (ci, fs)]) (cells + 1) (slots + N)) : iv_Wd p l e R s m args below meth c Q D cl κ Fr nL ρ0 n0 pc ls st A cells slots := by
  refine iv_s_new (e0 := .inr (ci, fs)) (e1 := .inr (ci, fs)) (fun ρ => by simp only [iv_e, hnr]) (fun n v hv i hi => ?_) (fun w hw => hw) (fun ρ H L lsR hP hD hS w => ?_) hk
  · exfalso
    have h1 := hnr (fun _ => i + 1)
    have h2 : v ∈ fs.map (iv_r fun _ => i + 1) := by rw [h1]; exact hv
    obtain ⟨u, hu, hu2⟩ := List.mem_map.mp h2
    rw [hi] at hu2
    cases u with
    | ref z => injection hu2 with q; exact absurd q (Nat.succ_ne_self _)
    | _ => cases hu2
  · exact va_new hx hb hts hin ty hty hown hcl hinst hini hK hP hD hS hFr hc hfs hcells hslots hd w
theorem iv_s_arr {t0 : Nat} {atype : ArrayType} {ty : FieldType} {kd : Nat} {x0 : iv_X} {n : Int32} (hx : p.tables.exec = Jvm.exec) (hb : c.code = cc) (harr : (Cond.arrayClass (newarray.typeOf atype)).before args s = true) (hty : newarray.typeOf atype = ty) (hRA : ∀ cA, va_RA s cA ty → va_RA s (κ kd) ty → cA = κ kd) (hK : va_K D cl tys s) (ht : tys[t0]? = some (κ kd, ty)) (hFr : ∀ q, s.heap.size ≤ q → Fr q)
    (hx0 : ∀ ρ : Nat → Nat, iv_x ρ x0 = x0) (hec : ∀ z, iv_ec z (.inl (kd, n.toNatClampNeg, x0))) (ha : ∀ cA : ClassId, vp_cell cA (n.toNatClampNeg, x0) = arrV cA n.toNatClampNeg (fun _ => defaultValue ty)) (hn : ¬ n < 0) (hbytes : n.toNatClampNeg * componentBytes ty ≤ 536870912) (hcells : cells + 1 ≤ R.cells) (hslots : slots + n.toNatClampNeg ≤ R.slots) (hd : decode cc pc = .ok (.newarray atype, 2))
    (hk : iv_Wd p l e R s m args below meth c Q D cl κ Fr nL ρ0 n0 (pc + 2) ls (.ref (A.length + 3) :: r) (A ++ [.inl (kd, n.toNatClampNeg, x0)]) (cells + 1) (slots + n.toNatClampNeg)) : iv_Wd p l e R s m args below meth c Q D cl κ Fr nL ρ0 n0 pc ls (.int n :: r) A cells slots := by
  refine iv_s_new (e0 := .inl (kd, n.toNatClampNeg, x0)) (e1 := .inl (κ kd, n.toNatClampNeg, x0)) (fun ρ => by simp only [iv_e, hx0]) hec (fun w hw => List.mem_cons_of_mem _ hw) (fun ρ H L lsR hP hD hS w => ?_) hk
  refine va_newa hx hb harr hty hK hP hD hS hFr ha hn rfl hbytes hcells hslots hd (fun q cA H1 q0 q1 q2 q3 => ?_)
  have hA : cA = κ kd := hRA cA (q0.2 tys.length (cA, ty) (by simp)).2 (hK.2 t0 _ ht).2
  subst hA
  exact w q H1 q1 q2 q3
theorem iv_s_arq {t0 : Nat} {n : Int32} (hx : p.tables.exec = Jvm.exec) (hb : c.code = cc) (hown : s.vm.findClass own = some m.cls) (hcl : (Cond.classLink own idx C).before args s = true) (hover : va_AO C s) (hK : va_K D cl tys s) (ht : tys[t0]? = some (κ (ci + 3), .object C)) (hFr : ∀ q, s.heap.size ≤ q → Fr q)
    (hn : ¬ n < 0) (hbytes : n.toNatClampNeg * 4 ≤ 536870912) (hcells : cells + 1 ≤ R.cells) (hslots : slots + n.toNatClampNeg ≤ R.slots) (hd : decode cc pc = .ok (.anewarray idx, 3))
    (hk : iv_Wd p l e R s m args below meth c Q D cl κ Fr nL ρ0 n0 (pc + 3) ls (.ref (A.length + 3) :: r) (A ++ [.inl (ci + 3, n.toNatClampNeg, .inr (.inr (.inr (.inr (fun _ => none)))))]) (cells + 1) (slots + n.toNatClampNeg)) : iv_Wd p l e R s m args below meth c Q D cl κ Fr nL ρ0 n0 pc ls (.int n :: r) A cells slots := by
  refine iv_s_new (e0 := .inl (ci + 3, n.toNatClampNeg, .inr (.inr (.inr (.inr (fun _ => none)))))) (e1 := .inl (κ (ci + 3), n.toNatClampNeg, .inr (.inr (.inr (.inr (fun _ => none)))))) (fun ρ => rfl) (fun z f hf j i hj => ?_) (fun w hw => List.mem_cons_of_mem _ hw) (fun ρ H L lsR hP hD hS w => ?_) hk
  · injection hf with hf
    injection hf with hf
    injection hf with hf
    injection hf with hf
    subst hf
    cases hj
  · refine va_newq hx hb hown hcl hover hK hP hD hS hFr hn rfl hbytes hcells hslots hd (fun q cA H1 q0 q1 q2 q3 => ?_)
    obtain ⟨_, _, _, _, _, h1⟩ := (q0.2 tys.length (cA, .object C) (by simp)).2
    obtain ⟨_, _, _, _, _, h2⟩ := (hK.2 t0 _ ht).2
    have hA : cA = κ (ci + 3) := Option.some.inj (h1.symm.trans h2)
    subst hA
    exact w q H1 q1 q2 q3
end IvI
end
section
/-! A static field that holds a reference, and stays as it is. -/
def iv_LS (C n d : String) (Fr : Nat → Prop) (U : State) : Prop := ∃ (c : ClassId) (k : Class) (i : Nat) (f : Field) (a : Nat) (cell : Cell) (v : Value), U.vm.findClass C = some c ∧ U.fieldFound? C n d = some (c, k, i, f) ∧ f.isStatic = true ∧ k.statics = some a ∧ U.heap[a]? = some cell ∧ cell.vm.isStatics = true ∧ cell.cls = c ∧
  f.slot < cell.slots.size ∧ k.staticTypes[f.slot]? = some f.type ∧ cell.slots[f.slot]? = some v ∧ (v = .null ∨ ∃ z, v = .ref z) ∧ ¬ Fr a
theorem iv_LS.of {C n d : String} {Fr : Nat → Prop} {args : Array Value} {s : State} (h1 : (Cond.laysStatic C n d).before args s = true) (h2 : (Cond.isRef (.static C n d)).before args s = true) (hFr : ∀ a : Nat, a < s.heap.size → ¬ Fr a) : iv_LS C n d Fr s := by
  obtain ⟨c, k, i, f, a, cell, hc, hf, hst, hsta, hcell, hiss, hcls, hlt, hty⟩ := Cond.laysStatic_spec h1
  have hv : cell.slots[f.slot]? = some cell.slots[f.slot] := Array.getElem?_eq_getElem hlt
  have he : (Term.static C n d).eval args s none [] s = cell.slots[f.slot]? := by
    simp [Term.eval, State.fieldNamed?, hf, hst, hsta, hcell, hiss]
  refine ⟨c, k, i, f, a, cell, cell.slots[f.slot], hc, hf, hst, hsta, hcell, hiss, hcls, hlt, hty, hv, ?_, hFr a (Array.getElem?_eq_some_iff.mp hcell).1⟩
  simp only [Cond.before, Cond.holds, Cond.value, he, hv] at h2
  cases hw : cell.slots[f.slot] with
  | null => exact Or.inl rfl
  | ref z => exact Or.inr ⟨z, rfl⟩
  | _ => rw [hw] at h2; simp at h2
theorem iv_LS.lays {C n d : String} {Fr : Nat → Prop} {args : Array Value} {s : State} (h : iv_LS C n d Fr s) : (Cond.laysStatic C n d).before args s = true := by
  obtain ⟨c, k, i, f, a, cell, v, hc, hf, hst, hsta, hcell, hiss, hcls, hlt, hty, -⟩ := h
  simp [Cond.before, Cond.holds, Cond.value, hc, hf, hst, hsta, hcell, hiss, hcls, hlt, hty]
theorem iv_LS.isRef {C n d : String} {Fr : Nat → Prop} {args : Array Value} {s : State} (h : iv_LS C n d Fr s) : (Cond.isRef (.static C n d)).before args s = true := by
  obtain ⟨c, k, i, f, a, cell, v, hc, hf, hst, hsta, hcell, hiss, hcls, hlt, hty, hv, hn, -⟩ := h
  have he : (Term.static C n d).eval args s none [] s = some v := by
    simp [Term.eval, State.fieldNamed?, hf, hst, hsta, hcell, hiss, hv]
  simp only [Cond.before, Cond.holds, Cond.value, he]
  rcases hn with rfl | ⟨z, rfl⟩ <;> rfl
theorem iv_LS.moved {C n d : String} {Fr Fr' : Nat → Prop} {s U : State} (h : iv_LS C n d Fr s) (hvm : s.vm.Alike U.vm) (hH : ∀ a : Nat, a < s.heap.size → ¬ Fr a → U.heap[a]? = s.heap[a]?) (hF : ∀ q, Fr' q → Fr q) : iv_LS C n d Fr' U := by
  obtain ⟨c, k, i, f, a, cell, v, hc, hf, hst, hsta, hcell, hiss, hcls, hlt, hty, hv, hn, hFr⟩ := h
  obtain ⟨k', hi', he⟩ := State.fieldFound?_setVm hvm hf
  exact ⟨c, k', i, f, a, cell, v, by rw [hvm.findClass]; exact hc, hi', hst, by rw [he]; exact hsta, by rw [hH a (Array.getElem?_eq_some_iff.mp hcell).1 hFr]; exact hcell, hiss, hcls, hlt, by rw [he]; exact hty, hv, hn, fun q => hFr (hF a q)⟩
end
section
/-! The tables of the program, printed by a program of mine (wip/gen/emit.py) out of the Statement. -/
def iv_on (i : Nat) : String := (["TripGuard$Channel", "TripGuard$Journal", "TripGuard$Links", "TripGuard$Train", "TripGuard$Trial", "TripGuard", "TripGuardModel", "java/lang/IllegalArgumentException", "java/lang/IllegalStateException", "java/util/NoSuchElementException", "TripGuardLaw", "java/lang/Math", "java/util/Arrays", "java/lang/Object", "java/lang/Throwable", "java/lang/RuntimeException", "java/lang/Exception"] : List String).getD i ""
def iv_f0 : List (String × String × String × Bool) := [("TripGuard$Channel", "number", "I", true), ("TripGuard$Channel", "readings", "[I", true), ("TripGuard$Channel", "readingsBefore", "[I", true), ("TripGuard$Channel", "ticksNotNew", "[I", true), ("TripGuard$Channel", "ticksBeyond", "[I", true), ("TripGuard$Channel", "fresh", "I", false), ("TripGuard$Channel", "wrong", "I", false), ("TripGuard$Channel", "set", "I", false)]
def iv_T0 : u_T := fun k => iv_f0.getD k ("", "", "", false)
def iv_t0 : Nat → FieldType := fun k => ([.int, .array .int, .array .int, .array .int, .array .int, .int, .int, .int] : List FieldType).getD k .int
def iv_d0 : List Value := [.int 0, .null, .null, .null, .null, .int 0, .int 0, .int 0]
def iv_f1 : List (String × String × String × Bool) := [("TripGuard$Journal", "rows", "[I", true), ("TripGuard$Journal", "time", "I", false), ("TripGuard$Journal", "total", "I", false)]
def iv_T1 : u_T := fun k => iv_f1.getD k ("", "", "", false)
def iv_t1 : Nat → FieldType := fun k => ([.array .int, .int, .int] : List FieldType).getD k .int
def iv_d1 : List Value := [.null, .int 0, .int 0]
def iv_f2 : List (String × String × String × Bool) := [("TripGuard$Links", "frames", "[I", true), ("TripGuard$Links", "faults", "[I", true)]
def iv_T2 : u_T := fun k => iv_f2.getD k ("", "", "", false)
def iv_t2 : Nat → FieldType := fun k => ([.array .int, .array .int] : List FieldType).getD k .int
def iv_d2 : List Value := [.null, .null]
def iv_f3 : List (String × String × String × Bool) := [("TripGuard$Train", "number", "I", true), ("TripGuard$Train", "told", "[I", true), ("TripGuard$Train", "demanded", "I", false), ("TripGuard$Train", "latches", "I", false)]
def iv_T3 : u_T := fun k => iv_f3.getD k ("", "", "", false)
def iv_t3 : Nat → FieldType := fun k => ([.int, .array .int, .int, .int] : List FieldType).getD k .int
def iv_d3 : List Value := [.int 0, .null, .int 0, .int 0]
def iv_f4 : List (String × String × String × Bool) := [("TripGuard$Trial", "channel", "I", false), ("TripGuard$Trial", "parameter", "I", false), ("TripGuard$Trial", "sent", "Z", false), ("TripGuard$Trial", "passed", "I", false), ("TripGuard$Trial", "failed", "I", false)]
def iv_T4 : u_T := fun k => iv_f4.getD k ("", "", "", false)
def iv_t4 : Nat → FieldType := fun k => ([.int, .int, .boolean, .int, .int] : List FieldType).getD k .int
def iv_d4 : List Value := [.int 0, .int 0, .int 0, .int 0, .int 0]
def iv_f5 : List (String × String × String × Bool) := [("TripGuard", "debounce", "I", true), ("TripGuard", "journal", "LTripGuard$Journal;", true), ("TripGuard", "channels", "[LTripGuard$Channel;", true), ("TripGuard", "trains", "[LTripGuard$Train;", true), ("TripGuard", "links", "LTripGuard$Links;", true), ("TripGuard", "trial", "LTripGuard$Trial;", true), ("TripGuard", "bypassed", "I", false), ("TripGuard", "badFrames", "I", false)]
def iv_T5 : u_T := fun k => iv_f5.getD k ("", "", "", false)
def iv_t5 : Nat → FieldType := fun k => ([.int, .object "TripGuard$Journal", .array (.object "TripGuard$Channel"), .array (.object "TripGuard$Train"), .object "TripGuard$Links", .object "TripGuard$Trial", .int, .int] : List FieldType).getD k .int
def iv_d5 : List Value := [.int 0, .null, .null, .null, .null, .null, .int 0, .int 0]
def iv_f6 : List (String × String × String × Bool) := [("TripGuardModel", "debounce", "I", true), ("TripGuardModel", "fault", "I", false), ("TripGuardModel", "time", "I", false), ("TripGuardModel", "reading", "[I", true), ("TripGuardModel", "before", "[I", true), ("TripGuardModel", "fresh", "[Z", true), ("TripGuardModel", "renewed", "[I", true), ("TripGuardModel", "wrong", "[I", true), ("TripGuardModel", "beyond", "[I", true), ("TripGuardModel", "within", "[I", true), ("TripGuardModel", "head", "[I", true), ("TripGuardModel", "body", "[I", true), ("TripGuardModel", "tail", "[I", true), ("TripGuardModel", "faulty", "[Z", true), ("TripGuardModel", "instead", "[I", true), ("TripGuardModel", "had", "[I", true), ("TripGuardModel", "good", "[Z", true), ("TripGuardModel", "demanded", "[I", true), ("TripGuardModel", "latch", "[I", true), ("TripGuardModel", "bypassed", "I", false), ("TripGuardModel", "testing", "I", false), ("TripGuardModel", "sent", "Z", false), ("TripGuardModel", "events", "I", false), ("TripGuardModel", "when", "[I", true), ("TripGuardModel", "kind", "[I", true), ("TripGuardModel", "first", "[I", true), ("TripGuardModel", "second", "[I", true), ("TripGuardModel", "bad", "I", false), ("TripGuardModel", "passed", "I", false), ("TripGuardModel", "failed", "I", false)]
def iv_T6 : u_T := fun k => iv_f6.getD k ("", "", "", false)
def iv_t6 : Nat → FieldType := fun k => ([.int, .int, .int, .array .int, .array .int, .array .boolean, .array .int, .array .int, .array .int, .array .int, .array .int, .array .int, .array .int, .array .boolean, .array .int, .array .int, .array .boolean, .array .int, .array .int, .int, .int, .boolean, .int, .array .int, .array .int, .array .int, .array .int, .int, .int, .int] : List FieldType).getD k .int
def iv_d6 : List Value := [.int 0, .int 0, .int 0, .null, .null, .null, .null, .null, .null, .null, .null, .null, .null, .null, .null, .null, .null, .null, .null, .int 0, .int 0, .int 0, .int 0, .null, .null, .null, .null, .int 0, .int 0, .int 0]
def iv_Te : u_T := fun _ => ("", "", "", false)
def iv_cl : List vw_C := [("TripGuard$Channel", iv_T0, 8), ("TripGuard$Journal", iv_T1, 3), ("TripGuard$Links", iv_T2, 2), ("TripGuard$Train", iv_T3, 4), ("TripGuard$Trial", iv_T4, 5), ("TripGuard", iv_T5, 8), ("TripGuardModel", iv_T6, 30), ("java/lang/IllegalArgumentException", iv_Te, 0), ("java/lang/IllegalStateException", iv_Te, 0), ("java/util/NoSuchElementException", iv_Te, 0)]
def iv_fn (ci : Nat) : Nat := ([8, 3, 2, 4, 5, 8, 30] : List Nat).getD ci 0
def iv_df (ci : Nat) : List Value := ([iv_d0, iv_d1, iv_d2, iv_d3, iv_d4, iv_d5, iv_d6] : List (List Value)).getD ci []
def iv_ft (ci f : Nat) : FieldType := ([iv_t0, iv_t1, iv_t2, iv_t3, iv_t4, iv_t5, iv_t6] : List (Nat → FieldType)).getD ci (fun _ => .int) f
def iv_fin (ci f : Nat) : Bool := (([iv_T0, iv_T1, iv_T2, iv_T3, iv_T4, iv_T5, iv_T6] : List u_T).getD ci iv_Te f).2.2.2
def iv_xc (ci : Nat) : Bool := Nat.ble 7 ci
def iv_kt (q : Nat) : Option String := bif Nat.beq q 3 then some "TripGuard$Channel" else bif Nat.beq q 6 then some "TripGuard$Train" else none
def iv_kk (q : Nat) : Bool := Nat.ble q 2 || (iv_kt q).isSome
def iv_ys : List MethodName := [⟨"TripGuard", "<init>", "(I)V"⟩, ⟨"java/lang/Object", "<init>", "()V"⟩, ⟨"TripGuard$Journal", "<init>", "()V"⟩, ⟨"TripGuard$Links", "<init>", "()V"⟩, ⟨"java/util/Arrays", "fill", "([II)V"⟩, ⟨"TripGuard$Trial", "<init>", "()V"⟩, ⟨"java/lang/Math", "min", "(II)I"⟩, ⟨"java/lang/Math", "max", "(II)I"⟩, ⟨"TripGuard$Channel", "<init>", "(I)V"⟩, ⟨"TripGuard$Train", "<init>", "(I)V"⟩, ⟨"TripGuard", "tick", "()I"⟩, ⟨"TripGuard$Channel", "look", "(ILTripGuard$Journal;)V"⟩, ⟨"TripGuard$Channel", "judge", "(ILTripGuard$Journal;)V"⟩, ⟨"TripGuard$Channel", "isWrong", "(IZ)Z"⟩, ⟨"java/lang/Math", "abs", "(I)I"⟩, ⟨"TripGuard$Journal", "record", "(III)V"⟩, ⟨"TripGuard$Journal", "rowOf", "(I)I"⟩, ⟨"java/lang/Math", "floorMod", "(II)I"⟩, ⟨"TripGuard$Channel", "moveBistable", "(IILTripGuard$Journal;)V"⟩, ⟨"TripGuard$Channel", "isBeyond", "(I)Z"⟩, ⟨"TripGuard$Channel", "limitOf", "(I)I"⟩, ⟨"TripGuard$Channel", "onCurve", "(I)I"⟩, ⟨"java/lang/Math", "floorDiv", "(II)I"⟩, ⟨"TripGuard$Channel", "isInside", "(I)Z"⟩, ⟨"TripGuard", "receiveFrames", "(LTripGuard$Train;)V"⟩, ⟨"TripGuard$Links", "frameOf", "(II)I"⟩, ⟨"TripGuard$Links", "isGood", "(II)Z"⟩, ⟨"TripGuard$Links", "messageOf", "(I)I"⟩, ⟨"TripGuard$Links", "frameWith", "(II)I"⟩, ⟨"TripGuard$Links", "checkOf", "(II)I"⟩, ⟨"TripGuard$Links", "checkStep", "(II)I"⟩, ⟨"TripGuard$Train", "decide", "(ILTripGuard$Journal;)V"⟩, ⟨"TripGuard$Train", "countVotes", "(II)I"⟩, ⟨"TripGuard$Train", "latch", "(LTripGuard$Journal;)V"⟩, ⟨"TripGuard", "endTrial", "()V"⟩, ⟨"TripGuard$Trial", "bitOn", "(I)I"⟩, ⟨"TripGuard$Trial", "end", "(Z)V"⟩, ⟨"TripGuard", "sendFrames", "()V"⟩, ⟨"TripGuard$Links", "send", "(II)V"⟩, ⟨"TripGuard", "tripped", "()Z"⟩, ⟨"TripGuardLaw", "cell", "([II)I"⟩, ⟨"TripGuardLaw", "sense", "(LTripGuard;III)I"⟩, ⟨"TripGuard", "sense", "(III)V"⟩, ⟨"TripGuard", "needChannel", "(I)V"⟩, ⟨"TripGuard", "need", "(Z)V"⟩, ⟨"java/lang/Throwable", "<init>", "()V"⟩, ⟨"java/lang/IllegalArgumentException", "<init>", "()V"⟩, ⟨"java/lang/RuntimeException", "<init>", "()V"⟩, ⟨"java/lang/Exception", "<init>", "()V"⟩, ⟨"TripGuard", "needParameter", "(I)V"⟩, ⟨"TripGuard$Channel", "take", "(II)V"⟩, ⟨"TripGuardLaw", "limit", "(LTripGuard;II[J)I"⟩, ⟨"TripGuard", "limit", "(II)I"⟩, ⟨"TripGuardLaw", "bypass", "(LTripGuard;I)I"⟩, ⟨"TripGuard", "bypass", "(I)V"⟩, ⟨"TripGuard", "needState", "(Z)V"⟩, ⟨"java/lang/IllegalStateException", "<init>", "()V"⟩, ⟨"TripGuardLaw", "restore", "(LTripGuard;)I"⟩, ⟨"TripGuard", "restore", "()V"⟩, ⟨"TripGuardLaw", "test", "(LTripGuard;II)I"⟩, ⟨"TripGuard", "test", "(II)V"⟩, ⟨"TripGuard$Trial", "begin", "(II)V"⟩, ⟨"TripGuardLaw", "reset", "(LTripGuard;I)I"⟩, ⟨"TripGuard", "reset", "(I)V"⟩, ⟨"TripGuard", "needTrain", "(I)V"⟩, ⟨"TripGuardLaw", "fault", "(LTripGuard;III)I"⟩, ⟨"TripGuard", "fault", "(III)V"⟩, ⟨"TripGuard$Links", "disturb", "(III)V"⟩, ⟨"TripGuardLaw", "channel", "(LTripGuard;II[J)I"⟩, ⟨"TripGuard", "channel", "(II)I"⟩, ⟨"TripGuardLaw", "votes", "(LTripGuard;II[J)I"⟩, ⟨"TripGuard", "votes", "(II)I"⟩, ⟨"TripGuardLaw", "demands", "(LTripGuard;I[J)I"⟩, ⟨"TripGuard", "demands", "(I)I"⟩, ⟨"TripGuardLaw", "latched", "(LTripGuard;I[J)I"⟩, ⟨"TripGuard", "latched", "(I)I"⟩, ⟨"TripGuardLaw", "event", "(LTripGuard;II[J)I"⟩, ⟨"TripGuard", "event", "(II)I"⟩, ⟨"TripGuard$Journal", "keeps", "(I)Z"⟩, ⟨"java/util/NoSuchElementException", "<init>", "()V"⟩, ⟨"TripGuard$Journal", "read", "(II)I"⟩, ⟨"TripGuardLaw", "figure", "(LTripGuard;I[J)I"⟩, ⟨"TripGuard", "figure", "(I)I"⟩, ⟨"TripGuardModel", "<init>", "(I)V"⟩, ⟨"TripGuardModel", "thrown", "()I"⟩, ⟨"TripGuardModel", "sense", "(III)V"⟩, ⟨"TripGuardModel", "among", "(II)Z"⟩, ⟨"TripGuardModel", "limit", "(II)I"⟩, ⟨"TripGuardModel", "limitOf", "(II)I"⟩, ⟨"TripGuardModel", "line", "(I)I"⟩, ⟨"TripGuardModel", "tick", "()I"⟩, ⟨"TripGuardModel", "look", "(II)V"⟩, ⟨"TripGuardModel", "isWrong", "(I)Z"⟩, ⟨"TripGuardModel", "has", "(II)Z"⟩, ⟨"TripGuardModel", "note", "(III)V"⟩, ⟨"TripGuardModel", "isSet", "(II)Z"⟩, ⟨"TripGuardModel", "hear", "(II)V"⟩, ⟨"TripGuardModel", "check", "(II)I"⟩, ⟨"TripGuardModel", "vote", "(I)V"⟩, ⟨"TripGuardModel", "endTest", "()V"⟩, ⟨"TripGuardModel", "setBits", "(I)I"⟩, ⟨"TripGuardModel", "wrongBits", "(I)I"⟩, ⟨"TripGuardModel", "emit", "(III)V"⟩, ⟨"TripGuardModel", "bypass", "(I)V"⟩, ⟨"TripGuardModel", "restore", "()V"⟩, ⟨"TripGuardModel", "test", "(II)V"⟩, ⟨"TripGuardModel", "reset", "(I)V"⟩, ⟨"TripGuardModel", "fault", "(III)V"⟩, ⟨"TripGuardModel", "channel", "(II)I"⟩, ⟨"TripGuardModel", "votes", "(II)I"⟩, ⟨"TripGuardModel", "demands", "(I)I"⟩, ⟨"TripGuardModel", "latched", "(I)I"⟩, ⟨"TripGuardModel", "tripped", "()Z"⟩, ⟨"TripGuardModel", "event", "(II)I"⟩, ⟨"TripGuardModel", "figure", "(I)I"⟩, ⟨"TripGuardLaw", "law", "([I)Z"⟩]
def iv_y (i : Nat) : MethodName := iv_ys.getD i ⟨"", "", ""⟩
def iv_bs : List ByteArray := [prog_1_method_1_code, object_method_1_code, prog_3_method_1_code, prog_4_method_1_code, prog_15_method_103_code, prog_6_method_1_code, prog_12_method_69_code, prog_12_method_65_code, prog_2_method_1_code, prog_5_method_1_code, prog_1_method_4_code, prog_2_method_3_code, prog_2_method_4_code, prog_2_method_5_code, prog_12_method_59_code, prog_3_method_2_code, prog_3_method_5_code, prog_12_method_50_code, prog_2_method_6_code, prog_2_method_7_code, prog_2_method_9_code, prog_2_method_10_code, prog_12_method_47_code, prog_2_method_8_code, prog_1_method_22_code, prog_4_method_4_code, prog_4_method_7_code, prog_4_method_6_code, prog_4_method_5_code, prog_4_method_8_code, prog_4_method_9_code, prog_5_method_2_code, prog_5_method_3_code, prog_5_method_4_code, prog_1_method_23_code, prog_6_method_3_code, prog_6_method_4_code, prog_1_method_24_code, prog_4_method_3_code, prog_1_method_14_code, method_2_code, method_3_code, prog_1_method_2_code, prog_1_method_17_code, prog_1_method_20_code, prog_14_method_1_code, prog_10_method_1_code, prog_13_method_1_code, prog_9_method_1_code, prog_1_method_19_code, prog_2_method_2_code, method_4_code, prog_1_method_3_code, method_5_code, prog_1_method_5_code, prog_1_method_21_code, prog_11_method_1_code, method_6_code, prog_1_method_6_code, method_7_code, prog_1_method_7_code, prog_6_method_2_code, method_8_code, prog_1_method_8_code, prog_1_method_18_code, method_9_code, prog_1_method_9_code, prog_4_method_2_code, method_10_code, prog_1_method_10_code, method_11_code, prog_1_method_11_code, method_12_code, prog_1_method_12_code, method_13_code, prog_1_method_13_code, method_14_code, prog_1_method_15_code, prog_3_method_3_code, prog_16_method_1_code, prog_3_method_4_code, method_15_code, prog_1_method_16_code, prog_8_method_1_code, prog_8_method_2_code, prog_8_method_5_code, prog_8_method_3_code, prog_8_method_8_code, prog_8_method_7_code, prog_8_method_6_code, prog_8_method_20_code, prog_8_method_12_code, prog_8_method_11_code, prog_8_method_9_code, prog_8_method_4_code, prog_8_method_10_code, prog_8_method_16_code, prog_8_method_15_code, prog_8_method_17_code, prog_8_method_18_code, prog_8_method_13_code, prog_8_method_14_code, prog_8_method_19_code, prog_8_method_21_code, prog_8_method_22_code, prog_8_method_23_code, prog_8_method_24_code, prog_8_method_25_code, prog_8_method_26_code, prog_8_method_27_code, prog_8_method_28_code, prog_8_method_29_code, prog_8_method_30_code, prog_8_method_31_code, prog_8_method_32_code, code]
def iv_b (i : Nat) : ByteArray := iv_bs.getD i ⟨#[]⟩
def iv_nL (i : Nat) : Nat := ([3, 1, 1, 1, 4, 1, 2, 2, 2, 2, 3, 4, 6, 4, 1, 5, 1, 3, 5, 2, 3, 3, 3, 2, 5, 3, 2, 1, 3, 2, 4, 5, 5, 4, 3, 2, 2, 3, 5, 3, 2, 5, 4, 1, 1, 1, 1, 1, 1, 1, 3, 5, 3, 3, 2, 1, 1, 2, 1, 4, 3, 3, 3, 3, 1, 5, 4, 4, 5, 4, 5, 3, 4, 2, 4, 2, 5, 3, 2, 1, 3, 4, 2, 3, 1, 4, 2, 3, 6, 5, 5, 11, 4, 2, 5, 6, 5, 4, 6, 6, 4, 2, 6, 2, 1, 3, 2, 4, 5, 3, 2, 2, 3, 4, 2, 7] : List Nat).getD i 0
def iv_rt (i : Nat) : Option FieldType := ([none, none, none, none, none, none, some .int, some .int, none, none, some .int, none, none, some .boolean, some .int, none, some .int, some .int, none, some .boolean, some .int, some .int, some .int, some .boolean, none, some .int, some .boolean, some .int, some .int, some .int, some .int, none, some .int, none, none, some .int, none, none, none, some .boolean, some .int, some .int, none, none, none, none, none, none, none, none, none, some .int, some .int, some .int, none, none, none, some .int, none, some .int, none, none, some .int, none, none, some .int, none, none, some .int, some .int, some .int, some .int, some .int, some .int, some .int, some .int, some .int, some .int, some .boolean, none, some .int, some .int, some .int, none, some .int, none, some .boolean, some .int, some .int, some .int, some .int, none, some .boolean, some .boolean, none, some .boolean, none, some .int, none, none, some .int, some .int, none, none, none, none, none, none, some .int, some .int, some .int, some .int, some .boolean, some .int, some .int, some .boolean] : List (Option FieldType)).getD i none
def iv_hh (i : Nat) : List (Nat × Nat × Nat × Nat) := ([[], [], [], [], [], [], [], [], [], [], [], [], [], [], [], [], [], [], [], [], [], [], [], [], [], [], [], [], [], [], [], [], [], [], [], [], [], [], [], [], [], [(0, 7, 10, 13)], [], [], [], [], [], [], [], [], [], [(0, 10, 13, 13)], [], [(0, 5, 8, 13), (0, 5, 11, 23)], [], [], [], [(0, 4, 7, 23)], [], [(0, 6, 9, 13), (0, 6, 12, 23)], [], [], [(0, 5, 8, 13), (0, 5, 11, 23)], [], [], [(0, 7, 10, 13)], [], [], [(0, 10, 13, 13)], [], [(0, 10, 13, 13)], [], [(0, 9, 12, 13)], [], [(0, 9, 12, 13)], [], [(0, 10, 13, 54), (0, 10, 17, 13)], [], [], [], [], [(0, 9, 12, 13)], [], [], [], [], [], [], [], [], [], [], [], [], [], [], [], [], [], [], [], [], [], [], [], [], [], [], [], [], [], [], [], [], [], []] : List (List (Nat × Nat × Nat × Nat))).getD i []
def iv_rm (i : Nat) : Room := ([{ frames := 2, cells := 36, slots := 322, locals := 43 }, { frames := 0, cells := 0, slots := 0, locals := 0 }, { frames := 1, cells := 1, slots := 160, locals := 20 }, { frames := 1, cells := 2, slots := 32, locals := 23 }, { frames := 0, cells := 0, slots := 0, locals := 0 }, { frames := 1, cells := 0, slots := 0, locals := 20 }, { frames := 0, cells := 0, slots := 0, locals := 0 }, { frames := 0, cells := 0, slots := 0, locals := 0 }, { frames := 1, cells := 4, slots := 12, locals := 20 }, { frames := 1, cells := 1, slots := 4, locals := 20 }, { frames := 6, cells := 0, slots := 0, locals := 134 }, { frames := 5, cells := 0, slots := 0, locals := 111 }, { frames := 3, cells := 0, slots := 0, locals := 66 }, { frames := 1, cells := 0, slots := 0, locals := 21 }, { frames := 0, cells := 0, slots := 0, locals := 0 }, { frames := 2, cells := 0, slots := 0, locals := 42 }, { frames := 1, cells := 0, slots := 0, locals := 22 }, { frames := 0, cells := 0, slots := 0, locals := 0 }, { frames := 4, cells := 0, slots := 0, locals := 87 }, { frames := 3, cells := 0, slots := 0, locals := 66 }, { frames := 2, cells := 0, slots := 0, locals := 44 }, { frames := 1, cells := 0, slots := 0, locals := 22 }, { frames := 0, cells := 0, slots := 0, locals := 0 }, { frames := 3, cells := 0, slots := 0, locals := 66 }, { frames := 4, cells := 0, slots := 0, locals := 87 }, { frames := 0, cells := 0, slots := 0, locals := 0 }, { frames := 3, cells := 0, slots := 0, locals := 66 }, { frames := 0, cells := 0, slots := 0, locals := 0 }, { frames := 2, cells := 0, slots := 0, locals := 44 }, { frames := 1, cells := 0, slots := 0, locals := 23 }, { frames := 0, cells := 0, slots := 0, locals := 0 }, { frames := 4, cells := 0, slots := 0, locals := 89 }, { frames := 0, cells := 0, slots := 0, locals := 0 }, { frames := 3, cells := 0, slots := 0, locals := 66 }, { frames := 3, cells := 0, slots := 0, locals := 66 }, { frames := 0, cells := 0, slots := 0, locals := 0 }, { frames := 0, cells := 0, slots := 0, locals := 0 }, { frames := 3, cells := 0, slots := 0, locals := 66 }, { frames := 0, cells := 0, slots := 0, locals := 0 }, { frames := 0, cells := 0, slots := 0, locals := 0 }, { frames := 0, cells := 0, slots := 0, locals := 0 }, { frames := 9, cells := 3, slots := 18, locals := 152 }, { frames := 8, cells := 3, slots := 18, locals := 129 }, { frames := 7, cells := 1, slots := 6, locals := 109 }, { frames := 6, cells := 1, slots := 6, locals := 89 }, { frames := 0, cells := 0, slots := 0, locals := 0 }, { frames := 0, cells := 0, slots := 0, locals := 0 }, { frames := 0, cells := 0, slots := 0, locals := 0 }, { frames := 0, cells := 0, slots := 0, locals := 0 }, { frames := 7, cells := 1, slots := 6, locals := 109 }, { frames := 0, cells := 0, slots := 0, locals := 0 }, { frames := 9, cells := 2, slots := 12, locals := 151 }, { frames := 8, cells := 2, slots := 12, locals := 129 }, { frames := 9, cells := 2, slots := 12, locals := 150 }, { frames := 8, cells := 2, slots := 12, locals := 129 }, { frames := 6, cells := 1, slots := 6, locals := 89 }, { frames := 0, cells := 0, slots := 0, locals := 0 }, { frames := 8, cells := 1, slots := 6, locals := 129 }, { frames := 7, cells := 1, slots := 6, locals := 109 }, { frames := 9, cells := 3, slots := 18, locals := 151 }, { frames := 8, cells := 3, slots := 18, locals := 129 }, { frames := 0, cells := 0, slots := 0, locals := 0 }, { frames := 9, cells := 2, slots := 12, locals := 151 }, { frames := 8, cells := 2, slots := 12, locals := 129 }, { frames := 7, cells := 1, slots := 6, locals := 109 }, { frames := 9, cells := 2, slots := 12, locals := 152 }, { frames := 8, cells := 2, slots := 12, locals := 129 }, { frames := 0, cells := 0, slots := 0, locals := 0 }, { frames := 9, cells := 2, slots := 12, locals := 152 }, { frames := 8, cells := 2, slots := 12, locals := 129 }, { frames := 9, cells := 2, slots := 12, locals := 151 }, { frames := 8, cells := 2, slots := 12, locals := 129 }, { frames := 9, cells := 1, slots := 6, locals := 150 }, { frames := 8, cells := 1, slots := 6, locals := 129 }, { frames := 9, cells := 1, slots := 6, locals := 150 }, { frames := 8, cells := 1, slots := 6, locals := 129 }, { frames := 8, cells := 2, slots := 12, locals := 131 }, { frames := 7, cells := 2, slots := 12, locals := 109 }, { frames := 0, cells := 0, slots := 0, locals := 0 }, { frames := 0, cells := 0, slots := 0, locals := 0 }, { frames := 2, cells := 0, slots := 0, locals := 42 }, { frames := 7, cells := 1, slots := 6, locals := 110 }, { frames := 6, cells := 1, slots := 6, locals := 89 }, { frames := 1, cells := 20, slots := 1888, locals := 20 }, { frames := 0, cells := 0, slots := 0, locals := 0 }, { frames := 1, cells := 0, slots := 0, locals := 21 }, { frames := 0, cells := 0, slots := 0, locals := 0 }, { frames := 2, cells := 0, slots := 0, locals := 49 }, { frames := 1, cells := 0, slots := 0, locals := 24 }, { frames := 0, cells := 0, slots := 0, locals := 0 }, { frames := 3, cells := 0, slots := 0, locals := 79 }, { frames := 2, cells := 0, slots := 0, locals := 49 }, { frames := 0, cells := 0, slots := 0, locals := 0 }, { frames := 0, cells := 0, slots := 0, locals := 0 }, { frames := 0, cells := 0, slots := 0, locals := 0 }, { frames := 1, cells := 0, slots := 0, locals := 21 }, { frames := 2, cells := 0, slots := 0, locals := 44 }, { frames := 1, cells := 0, slots := 0, locals := 21 }, { frames := 1, cells := 0, slots := 0, locals := 24 }, { frames := 1, cells := 0, slots := 0, locals := 24 }, { frames := 2, cells := 0, slots := 0, locals := 46 }, { frames := 0, cells := 0, slots := 0, locals := 0 }, { frames := 2, cells := 0, slots := 0, locals := 44 }, { frames := 1, cells := 0, slots := 0, locals := 24 }, { frames := 1, cells := 0, slots := 0, locals := 24 }, { frames := 1, cells := 0, slots := 0, locals := 21 }, { frames := 1, cells := 0, slots := 0, locals := 24 }, { frames := 1, cells := 0, slots := 0, locals := 21 }, { frames := 3, cells := 0, slots := 0, locals := 69 }, { frames := 1, cells := 0, slots := 0, locals := 21 }, { frames := 1, cells := 0, slots := 0, locals := 21 }, { frames := 1, cells := 0, slots := 0, locals := 21 }, { frames := 0, cells := 0, slots := 0, locals := 0 }, { frames := 1, cells := 0, slots := 0, locals := 21 }, { frames := 1, cells := 0, slots := 0, locals := 21 }, { frames := 12, cells := 601024, slots := 7293000, locals := 416 }] : List Room).getD i {}
def iv_kd (i : Nat) : Nat := ([2, 6, 2, 2, 1, 2, 4, 3, 2, 2, 0, 0, 0, 0, 5, 0, 1, 1, 0, 0, 0, 1, 1, 0, 0, 0, 1, 1, 1, 1, 1, 0, 0, 0, 0, 0, 0, 0, 0, 0, 1, 1, 0, 1, 1, 7, 7, 7, 7, 1, 0, 1, 0, 1, 0, 1, 7, 1, 0, 1, 0, 0, 1, 0, 1, 1, 0, 0, 1, 0, 1, 0, 1, 0, 1, 0, 1, 0, 0, 7, 0, 1, 0, 2, 0, 0, 1, 0, 0, 1, 0, 0, 0, 1, 0, 0, 0, 1, 0, 0, 0, 0, 0, 0, 0, 0, 0, 0, 0, 0, 0, 0, 0, 0, 0, 1] : List Nat).getD i 9
def iv_np (i : Nat) : Nat := ([2, 1, 1, 1, 2, 1, 2, 2, 2, 2, 1, 3, 3, 3, 1, 4, 1, 2, 4, 2, 2, 1, 2, 2, 2, 3, 2, 1, 2, 2, 2, 3, 3, 2, 1, 2, 2, 1, 3, 1, 2, 4, 4, 1, 1, 1, 1, 1, 1, 1, 3, 4, 3, 2, 2, 1, 1, 1, 1, 3, 3, 3, 2, 2, 1, 4, 4, 4, 4, 3, 4, 3, 3, 2, 3, 2, 4, 3, 2, 1, 3, 3, 2, 2, 1, 4, 2, 3, 3, 1, 1, 3, 2, 2, 4, 3, 3, 2, 2, 1, 2, 2, 4, 2, 1, 3, 2, 4, 3, 3, 2, 2, 1, 3, 2, 1] : List Nat).getD i 0
def iv_ow (i : Nat) : Nat := ([5, 13, 1, 2, 12, 4, 11, 11, 0, 3, 5, 0, 0, 0, 11, 1, 1, 11, 0, 0, 0, 0, 11, 0, 5, 2, 2, 2, 2, 2, 2, 3, 3, 3, 5, 4, 4, 5, 2, 5, 10, 10, 5, 5, 5, 14, 7, 15, 16, 5, 0, 10, 5, 10, 5, 5, 8, 10, 5, 10, 5, 4, 10, 5, 5, 10, 5, 2, 10, 5, 10, 5, 10, 5, 10, 5, 10, 5, 1, 9, 1, 10, 5, 6, 6, 6, 6, 6, 6, 6, 6, 6, 6, 6, 6, 6, 6, 6, 6, 6, 6, 6, 6, 6, 6, 6, 6, 6, 6, 6, 6, 6, 6, 6, 6, 10] : List Nat).getD i 99
def iv_ini (i : Nat) : Bool := iv_kd i == 2
def iv_k0 : List (Nat × Instr) := [(0, .aload_n 0), (1, .invokespecial 1), (4, .aload_n 0), (5, .new 7), (8, .dup), (9, .invokespecial 9), (12, .putfield 10), (15, .aload_n 0), (16, .iconst 4), (17, .anewarray 16), (20, .putfield 18), (23, .aload_n 0), (24, .iconst 4), (25, .anewarray 22), (28, .putfield 24), (31, .aload_n 0), (32, .new 28), (35, .dup), (36, .invokespecial 30), (39, .putfield 31), (42, .aload_n 0), (43, .new 35), (46, .dup), (47, .invokespecial 37), (50, .putfield 38), (53, .aload_n 0), (54, .iconst (-1)), (55, .putfield 42), (58, .aload_n 0), (59, .iconst 0), (60, .putfield 46), (63, .aload_n 0), (64, .iconst 1), (65, .bipush 8), (67, .iload_n 1), (68, .invokestatic 49), (71, .invokestatic 55), (74, .putfield 58), (77, .iconst 0), (78, .istore_n 2), (79, .iload_n 2), (80, .iconst 4), (81, .if_icmp .ge 23), (84, .aload_n 0), (85, .getfield 18), (88, .iload_n 2), (89, .new 16), (92, .dup), (93, .iload_n 2), (94, .invokespecial 61), (97, .aastore), (98, .iinc 2 1), (101, .goto (-22)), (104, .iconst 0), (105, .istore_n 2), (106, .iload_n 2), (107, .iconst 4), (108, .if_icmp .ge 23), (111, .aload_n 0), (112, .getfield 24), (115, .iload_n 2), (116, .new 22), (119, .dup), (120, .iload_n 2), (121, .invokespecial 64), (124, .aastore), (125, .iinc 2 1), (128, .goto (-22)), (131, .return_)]
def iv_k1 : List (Nat × Instr) := []
def iv_k2 : List (Nat × Instr) := [(0, .aload_n 0), (1, .invokespecial 1), (4, .aload_n 0), (5, .sipush 160), (8, .newarray .int), (10, .putfield 9), (13, .aload_n 0), (14, .iconst 0), (15, .putfield 13), (18, .aload_n 0), (19, .iconst 0), (20, .putfield 17), (23, .return_)]
def iv_k3 : List (Nat × Instr) := [(0, .aload_n 0), (1, .invokespecial 3), (4, .aload_n 0), (5, .bipush 16), (7, .newarray .int), (9, .putfield 9), (12, .aload_n 0), (13, .bipush 16), (15, .newarray .int), (17, .putfield 15), (20, .aload_n 0), (21, .getfield 15), (24, .iconst (-1)), (25, .invokestatic 18), (28, .return_)]
def iv_k4 : List (Nat × Instr) := [(0, .iconst 0), (1, .istore_n 2), (2, .aload_n 0), (3, .arraylength), (4, .istore_n 3), (5, .iload_n 2), (6, .iload_n 3), (7, .if_icmp .ge 13), (10, .aload_n 0), (11, .iload_n 2), (12, .iload_n 1), (13, .iastore), (14, .iinc 2 1), (17, .goto (-12)), (20, .return_)]
def iv_k5 : List (Nat × Instr) := [(0, .aload_n 0), (1, .invokespecial 3), (4, .aload_n 0), (5, .iconst (-1)), (6, .putfield 9), (9, .aload_n 0), (10, .iconst 0), (11, .putfield 15), (14, .aload_n 0), (15, .iconst 0), (16, .putfield 18), (19, .aload_n 0), (20, .iconst 0), (21, .putfield 22), (24, .aload_n 0), (25, .iconst 0), (26, .putfield 25), (29, .return_)]
def iv_k6 : List (Nat × Instr) := []
def iv_k7 : List (Nat × Instr) := []
def iv_k8 : List (Nat × Instr) := [(0, .aload_n 0), (1, .invokespecial 3), (4, .aload_n 0), (5, .iconst 3), (6, .newarray .int), (8, .dup), (9, .iconst 0), (10, .sipush 2000), (13, .iastore), (14, .dup), (15, .iconst 1), (16, .sipush 2200), (19, .iastore), (20, .dup), (21, .iconst 2), (22, .sipush 1500), (25, .iastore), (26, .putfield 9), (29, .aload_n 0), (30, .iconst 3), (31, .newarray .int), (33, .putfield 15), (36, .aload_n 0), (37, .iconst 3), (38, .newarray .int), (40, .putfield 18), (43, .aload_n 0), (44, .iconst 3), (45, .newarray .int), (47, .putfield 21), (50, .aload_n 0), (51, .bipush 7), (53, .putfield 24), (56, .aload_n 0), (57, .iconst 0), (58, .putfield 28), (61, .aload_n 0), (62, .iconst 0), (63, .putfield 31), (66, .aload_n 0), (67, .iload_n 1), (68, .putfield 34), (71, .return_)]
def iv_k9 : List (Nat × Instr) := [(0, .aload_n 0), (1, .invokespecial 3), (4, .aload_n 0), (5, .iconst 4), (6, .newarray .int), (8, .putfield 9), (11, .aload_n 0), (12, .iconst 0), (13, .putfield 15), (16, .aload_n 0), (17, .iconst 0), (18, .putfield 19), (21, .aload_n 0), (22, .iload_n 1), (23, .putfield 22), (26, .return_)]
def iv_k10 : List (Nat × Instr) := [(0, .aload_n 0), (1, .getfield 10), (4, .getfield 83), (7, .istore_n 1), (8, .aload_n 0), (9, .getfield 10), (12, .dup), (13, .getfield 86), (16, .iconst 1), (17, .iadd), (18, .putfield 86), (21, .iconst 0), (22, .istore_n 2), (23, .iload_n 2), (24, .iconst 4), (25, .if_icmp .ge 26), (28, .aload_n 0), (29, .getfield 18), (32, .iload_n 2), (33, .aaload), (34, .aload_n 0), (35, .getfield 58), (38, .aload_n 0), (39, .getfield 10), (42, .invokevirtual 89), (45, .iinc 2 1), (48, .goto (-25)), (51, .iconst 0), (52, .istore_n 2), (53, .iload_n 2), (54, .iconst 4), (55, .if_icmp .ge 36), (58, .aload_n 0), (59, .aload_n 0), (60, .getfield 24), (63, .iload_n 2), (64, .aaload), (65, .invokevirtual 93), (68, .aload_n 0), (69, .getfield 24), (72, .iload_n 2), (73, .aaload), (74, .aload_n 0), (75, .getfield 42), (78, .aload_n 0), (79, .getfield 10), (82, .invokevirtual 97), (85, .iinc 2 1), (88, .goto (-35)), (91, .aload_n 0), (92, .getfield 38), (95, .getfield 100), (98, .iconst (-1)), (99, .if_icmp .eq 17), (102, .aload_n 0), (103, .getfield 38), (106, .getfield 103), (109, .ifCond .eq 7), (112, .aload_n 0), (113, .invokevirtual 107), (116, .aload_n 0), (117, .invokevirtual 110), (120, .aload_n 0), (121, .getfield 10), (124, .getfield 83), (127, .iload_n 1), (128, .isub), (129, .ireturn)]
def iv_k11 : List (Nat × Instr) := [(0, .iconst 0), (1, .istore_n 3), (2, .iload_n 3), (3, .iconst 3), (4, .if_icmp .ge 63), (7, .aload_n 0), (8, .getfield 18), (11, .iload_n 3), (12, .aload_n 0), (13, .getfield 24), (16, .iconst 1), (17, .iload_n 3), (18, .ishl), (19, .iand), (20, .ifCond .eq 7), (23, .iconst 0), (24, .goto 11), (27, .aload_n 0), (28, .getfield 18), (31, .iload_n 3), (32, .iaload), (33, .iconst 1), (34, .iadd), (35, .iastore), (36, .aload_n 0), (37, .iload_n 3), (38, .aload_n 2), (39, .invokevirtual 37), (42, .aload_n 0), (43, .iload_n 3), (44, .iload_n 1), (45, .aload_n 2), (46, .invokevirtual 41), (49, .aload_n 0), (50, .getfield 15), (53, .iload_n 3), (54, .aload_n 0), (55, .getfield 9), (58, .iload_n 3), (59, .iaload), (60, .iastore), (61, .iinc 3 1), (64, .goto (-62)), (67, .aload_n 0), (68, .iconst 0), (69, .putfield 24), (72, .return_)]
def iv_k12 : List (Nat × Instr) := [(0, .iconst 1), (1, .iload_n 1), (2, .ishl), (3, .istore_n 3), (4, .aload_n 0), (5, .getfield 28), (8, .iload_n 3), (9, .iand), (10, .ifCond .eq 7), (13, .iconst 1), (14, .goto 4), (17, .iconst 0), (18, .istore 4), (20, .aload_n 0), (21, .iload_n 1), (22, .aload_n 2), (23, .getfield 45), (26, .iconst 1), (27, .if_icmp .le 7), (30, .iconst 1), (31, .goto 4), (34, .iconst 0), (35, .invokevirtual 50), (38, .istore 5), (40, .iload 5), (42, .ifCond .eq 31), (45, .iload 4), (47, .ifCond .ne 26), (50, .aload_n 0), (51, .dup), (52, .getfield 28), (55, .iload_n 3), (56, .ior), (57, .putfield 28), (60, .aload_n 2), (61, .iconst 1), (62, .aload_n 0), (63, .getfield 34), (66, .iload_n 1), (67, .invokevirtual 54), (70, .goto 35), (73, .iload 5), (75, .ifCond .ne 30), (78, .iload 4), (80, .ifCond .eq 25), (83, .aload_n 0), (84, .dup), (85, .getfield 28), (88, .iload_n 3), (89, .iconst (-1)), (90, .ixor), (91, .iand), (92, .putfield 28), (95, .aload_n 2), (96, .iconst 2), (97, .aload_n 0), (98, .getfield 34), (101, .iload_n 1), (102, .invokevirtual 54), (105, .return_)]
def iv_k13 : List (Nat × Instr) := [(0, .aload_n 0), (1, .getfield 9), (4, .iload_n 1), (5, .iaload), (6, .istore_n 3), (7, .iload_n 3), (8, .bipush 50), (10, .if_icmp .lt 42), (13, .iload_n 3), (14, .sipush 4000), (17, .if_icmp .gt 35), (20, .iload_n 2), (21, .ifCond .eq 20), (24, .iload_n 3), (25, .aload_n 0), (26, .getfield 15), (29, .iload_n 1), (30, .iaload), (31, .isub), (32, .invokestatic 58), (35, .sipush 400), (38, .if_icmp .gt 14), (41, .aload_n 0), (42, .getfield 18), (45, .iload_n 1), (46, .iaload), (47, .bipush 13), (49, .if_icmp .lt 7), (52, .iconst 1), (53, .goto 4), (56, .iconst 0), (57, .ireturn)]
def iv_k14 : List (Nat × Instr) := []
def iv_k15 : List (Nat × Instr) := [(0, .aload_n 0), (1, .getfield 17), (4, .invokestatic 20), (7, .istore 4), (9, .aload_n 0), (10, .getfield 9), (13, .iload 4), (15, .aload_n 0), (16, .getfield 13), (19, .iastore), (20, .aload_n 0), (21, .getfield 9), (24, .iload 4), (26, .iconst 1), (27, .iadd), (28, .iload_n 1), (29, .iastore), (30, .aload_n 0), (31, .getfield 9), (34, .iload 4), (36, .iconst 2), (37, .iadd), (38, .iload_n 2), (39, .iastore), (40, .aload_n 0), (41, .getfield 9), (44, .iload 4), (46, .iconst 3), (47, .iadd), (48, .iload_n 3), (49, .iastore), (50, .aload_n 0), (51, .dup), (52, .getfield 17), (55, .iconst 1), (56, .iadd), (57, .putfield 17), (60, .return_)]
def iv_k16 : List (Nat × Instr) := [(0, .iload_n 0), (1, .bipush 40), (3, .invokestatic 24), (6, .iconst 4), (7, .imul), (8, .ireturn)]
def iv_k17 : List (Nat × Instr) := [(0, .iload_n 0), (1, .iload_n 1), (2, .irem), (3, .istore_n 2), (4, .iload_n 0), (5, .iload_n 1), (6, .ixor), (7, .ifCond .ge 11), (10, .iload_n 2), (11, .ifCond .eq 7), (14, .iload_n 2), (15, .iload_n 1), (16, .iadd), (17, .ireturn), (18, .iload_n 2), (19, .ireturn)]
def iv_k18 : List (Nat × Instr) := [(0, .iconst 1), (1, .iload_n 1), (2, .ishl), (3, .istore 4), (5, .aload_n 0), (6, .getfield 28), (9, .iload 4), (11, .iand), (12, .ifCond .eq 11), (15, .aload_n 0), (16, .getfield 21), (19, .iload_n 1), (20, .iconst 0), (21, .iastore), (22, .return_), (23, .aload_n 0), (24, .getfield 21), (27, .iload_n 1), (28, .aload_n 0), (29, .iload_n 1), (30, .invokevirtual 64), (33, .ifCond .eq 14), (36, .aload_n 0), (37, .getfield 21), (40, .iload_n 1), (41, .iaload), (42, .iconst 1), (43, .iadd), (44, .goto 4), (47, .iconst 0), (48, .iastore), (49, .aload_n 0), (50, .getfield 31), (53, .iload 4), (55, .iand), (56, .ifCond .ne 37), (59, .aload_n 0), (60, .getfield 21), (63, .iload_n 1), (64, .iaload), (65, .iload_n 2), (66, .if_icmp .lt 58), (69, .aload_n 0), (70, .dup), (71, .getfield 31), (74, .iload 4), (76, .ior), (77, .putfield 31), (80, .aload_n 3), (81, .iconst 3), (82, .aload_n 0), (83, .getfield 34), (86, .iload_n 1), (87, .invokevirtual 54), (90, .goto 34), (93, .aload_n 0), (94, .iload_n 1), (95, .invokevirtual 68), (98, .ifCond .eq 26), (101, .aload_n 0), (102, .dup), (103, .getfield 31), (106, .iload 4), (108, .iconst (-1)), (109, .ixor), (110, .iand), (111, .putfield 31), (114, .aload_n 3), (115, .iconst 4), (116, .aload_n 0), (117, .getfield 34), (120, .iload_n 1), (121, .invokevirtual 54), (124, .return_)]
def iv_k19 : List (Nat × Instr) := [(0, .iload_n 1), (1, .iconst 1), (2, .if_icmp .ne 25), (5, .aload_n 0), (6, .getfield 9), (9, .iload_n 1), (10, .iaload), (11, .aload_n 0), (12, .iload_n 1), (13, .invokevirtual 71), (16, .if_icmp .ge 7), (19, .iconst 1), (20, .goto 26), (23, .iconst 0), (24, .goto 22), (27, .aload_n 0), (28, .getfield 9), (31, .iload_n 1), (32, .iaload), (33, .aload_n 0), (34, .iload_n 1), (35, .invokevirtual 71), (38, .if_icmp .le 7), (41, .iconst 1), (42, .goto 4), (45, .iconst 0), (46, .ireturn)]
def iv_k20 : List (Nat × Instr) := [(0, .iload_n 1), (1, .ifCond .ne 7), (4, .sipush 3000), (7, .ireturn), (8, .iload_n 1), (9, .iconst 1), (10, .if_icmp .ne 7), (13, .sipush 1200), (16, .ireturn), (17, .iconst 0), (18, .sipush 2000), (21, .aload_n 0), (22, .getfield 9), (25, .iconst 1), (26, .iaload), (27, .isub), (28, .invokestatic 74), (31, .istore_n 2), (32, .aload_n 0), (33, .getfield 9), (36, .iconst 0), (37, .iaload), (38, .invokestatic 78), (41, .iload_n 2), (42, .iconst 3), (43, .iadd), (44, .iconst 4), (45, .idiv), (46, .isub), (47, .ireturn)]
def iv_k21 : List (Nat × Instr) := [(0, .iload_n 0), (1, .sipush 1000), (4, .idiv), (5, .istore_n 1), (6, .iload_n 1), (7, .getstatic 81), (10, .arraylength), (11, .iconst 1), (12, .isub), (13, .if_icmp .lt 14), (16, .getstatic 81), (19, .getstatic 81), (22, .arraylength), (23, .iconst 1), (24, .isub), (25, .iaload), (26, .ireturn), (27, .getstatic 81), (30, .iload_n 1), (31, .iconst 1), (32, .iadd), (33, .iaload), (34, .getstatic 81), (37, .iload_n 1), (38, .iaload), (39, .isub), (40, .istore_n 2), (41, .getstatic 81), (44, .iload_n 1), (45, .iaload), (46, .iload_n 2), (47, .iload_n 0), (48, .sipush 1000), (51, .irem), (52, .imul), (53, .sipush 1000), (56, .invokestatic 84), (59, .iadd), (60, .ireturn)]
def iv_k22 : List (Nat × Instr) := [(0, .iload_n 0), (1, .iload_n 1), (2, .idiv), (3, .istore_n 2), (4, .iload_n 0), (5, .iload_n 1), (6, .ixor), (7, .ifCond .ge 14), (10, .iload_n 2), (11, .iload_n 1), (12, .imul), (13, .iload_n 0), (14, .if_icmp .eq 7), (17, .iload_n 2), (18, .iconst 1), (19, .isub), (20, .ireturn), (21, .iload_n 2), (22, .ireturn)]
def iv_k23 : List (Nat × Instr) := [(0, .iload_n 1), (1, .iconst 1), (2, .if_icmp .ne 28), (5, .aload_n 0), (6, .getfield 9), (9, .iload_n 1), (10, .iaload), (11, .aload_n 0), (12, .iload_n 1), (13, .invokevirtual 71), (16, .bipush 40), (18, .iadd), (19, .if_icmp .le 7), (22, .iconst 1), (23, .goto 29), (26, .iconst 0), (27, .goto 25), (30, .aload_n 0), (31, .getfield 9), (34, .iload_n 1), (35, .iaload), (36, .aload_n 0), (37, .iload_n 1), (38, .invokevirtual 71), (41, .bipush 40), (43, .isub), (44, .if_icmp .ge 7), (47, .iconst 1), (48, .goto 4), (51, .iconst 0), (52, .ireturn)]
def iv_k24 : List (Nat × Instr) := [(0, .aload_n 0), (1, .getfield 10), (4, .getfield 86), (7, .iconst 1), (8, .isub), (9, .istore_n 2), (10, .iconst 0), (11, .istore_n 3), (12, .iload_n 3), (13, .iconst 4), (14, .if_icmp .ge 77), (17, .aload_n 0), (18, .getfield 31), (21, .iload_n 3), (22, .aload_n 1), (23, .getfield 167), (26, .invokevirtual 170), (29, .istore 4), (31, .iload 4), (33, .iload_n 2), (34, .invokestatic 173), (37, .ifCond .eq 17), (40, .aload_n 1), (41, .getfield 141), (44, .iload_n 3), (45, .iload 4), (47, .invokestatic 177), (50, .iastore), (51, .goto 34), (54, .aload_n 1), (55, .getfield 141), (58, .iload_n 3), (59, .bipush 7), (61, .iastore), (62, .aload_n 0), (63, .dup), (64, .getfield 46), (67, .iconst 1), (68, .iadd), (69, .putfield 46), (72, .aload_n 0), (73, .getfield 10), (76, .iconst 5), (77, .aload_n 1), (78, .getfield 167), (81, .iload_n 3), (82, .invokevirtual 116), (85, .iinc 3 1), (88, .goto (-76)), (91, .return_)]
def iv_k25 : List (Nat × Instr) := [(0, .aload_n 0), (1, .getfield 9), (4, .iload_n 1), (5, .iconst 4), (6, .imul), (7, .iload_n 2), (8, .iadd), (9, .iaload), (10, .ireturn)]
def iv_k26 : List (Nat × Instr) := [(0, .iload_n 0), (1, .iload_n 1), (2, .iload_n 0), (3, .invokestatic 29), (6, .invokestatic 33), (9, .if_icmp .ne 7), (12, .iconst 1), (13, .goto 4), (16, .iconst 0), (17, .ireturn)]
def iv_k27 : List (Nat × Instr) := [(0, .iload_n 0), (1, .bipush 8), (3, .ishr), (4, .sipush 255), (7, .iand), (8, .ireturn)]
def iv_k28 : List (Nat × Instr) := [(0, .iload_n 0), (1, .sipush 255), (4, .iand), (5, .istore_n 2), (6, .iload_n 2), (7, .iload_n 1), (8, .bipush 8), (10, .ishl), (11, .ior), (12, .iload_n 2), (13, .iload_n 1), (14, .invokestatic 25), (17, .bipush 16), (19, .ishl), (20, .ior), (21, .ireturn)]
def iv_k29 : List (Nat × Instr) := [(0, .iconst 0), (1, .iload_n 0), (2, .invokestatic 36), (5, .iload_n 1), (6, .invokestatic 36), (9, .ireturn)]
def iv_k30 : List (Nat × Instr) := [(0, .iload_n 0), (1, .iload_n 1), (2, .ixor), (3, .istore_n 2), (4, .iconst 0), (5, .istore_n 3), (6, .iload_n 3), (7, .bipush 8), (9, .if_icmp .ge 26), (12, .iload_n 2), (13, .iconst 1), (14, .ishl), (15, .istore_n 2), (16, .iload_n 2), (17, .sipush 255), (20, .if_icmp .le 9), (23, .iload_n 2), (24, .sipush 263), (27, .ixor), (28, .istore_n 2), (29, .iinc 3 1), (32, .goto (-26)), (35, .iload_n 2), (36, .ireturn)]
def iv_k31 : List (Nat × Instr) := [(0, .aload_n 0), (1, .getfield 15), (4, .istore_n 3), (5, .aload_n 0), (6, .iconst 0), (7, .putfield 15), (10, .iconst 0), (11, .istore 4), (13, .iload 4), (15, .iconst 3), (16, .if_icmp .ge 54), (19, .aload_n 0), (20, .iload 4), (22, .iload_n 1), (23, .invokevirtual 25), (26, .iconst 2), (27, .if_icmp .lt 37), (30, .aload_n 0), (31, .dup), (32, .getfield 15), (35, .iconst 1), (36, .iload 4), (38, .ishl), (39, .ior), (40, .putfield 15), (43, .iload_n 3), (44, .iconst 1), (45, .iload 4), (47, .ishl), (48, .iand), (49, .ifCond .ne 15), (52, .aload_n 2), (53, .bipush 6), (55, .aload_n 0), (56, .getfield 22), (59, .iload 4), (61, .invokevirtual 29), (64, .iinc 4 1), (67, .goto (-54)), (70, .aload_n 0), (71, .getfield 15), (74, .ifCond .eq 8), (77, .aload_n 0), (78, .aload_n 2), (79, .invokevirtual 35), (82, .return_)]
def iv_k32 : List (Nat × Instr) := [(0, .iconst 0), (1, .istore_n 3), (2, .iconst 0), (3, .istore 4), (5, .iload 4), (7, .iconst 4), (8, .if_icmp .ge 29), (11, .iload 4), (13, .iload_n 2), (14, .if_icmp .eq 17), (17, .iload_n 3), (18, .aload_n 0), (19, .getfield 9), (22, .iload 4), (24, .iaload), (25, .iload_n 1), (26, .ishr), (27, .iconst 1), (28, .iand), (29, .iadd), (30, .istore_n 3), (31, .iinc 4 1), (34, .goto (-29)), (37, .iload_n 3), (38, .ireturn)]
def iv_k33 : List (Nat × Instr) := [(0, .aload_n 0), (1, .getfield 19), (4, .iconst 1), (5, .iand), (6, .ifCond .ne 24), (9, .aload_n 0), (10, .dup), (11, .getfield 19), (14, .iconst 1), (15, .ior), (16, .putfield 19), (19, .aload_n 1), (20, .bipush 7), (22, .aload_n 0), (23, .getfield 22), (26, .iconst 0), (27, .invokevirtual 29), (30, .iconst 0), (31, .istore_n 2), (32, .iload_n 2), (33, .iconst 3), (34, .if_icmp .ge 61), (37, .iconst 2), (38, .iload_n 2), (39, .ishl), (40, .istore_n 3), (41, .aload_n 0), (42, .getfield 15), (45, .getstatic 39), (48, .iload_n 2), (49, .iaload), (50, .iand), (51, .getstatic 39), (54, .iload_n 2), (55, .iaload), (56, .if_icmp .ne 33), (59, .aload_n 0), (60, .getfield 19), (63, .iload_n 3), (64, .iand), (65, .ifCond .ne 24), (68, .aload_n 0), (69, .dup), (70, .getfield 19), (73, .iload_n 3), (74, .ior), (75, .putfield 19), (78, .aload_n 1), (79, .bipush 8), (81, .aload_n 0), (82, .getfield 22), (85, .iload_n 2), (86, .invokevirtual 29), (89, .iinc 2 1), (92, .goto (-60)), (95, .return_)]
def iv_k34 : List (Nat × Instr) := [(0, .iconst 1), (1, .istore_n 1), (2, .iconst 0), (3, .istore_n 2), (4, .iload_n 2), (5, .iconst 4), (6, .if_icmp .ge 54), (9, .iload_n 1), (10, .ifCond .eq 42), (13, .aload_n 0), (14, .getfield 24), (17, .iload_n 2), (18, .aaload), (19, .getfield 141), (22, .aload_n 0), (23, .getfield 38), (26, .getfield 100), (29, .iaload), (30, .aload_n 0), (31, .getfield 38), (34, .aload_n 0), (35, .getfield 38), (38, .getfield 100), (41, .invokevirtual 180), (44, .iand), (45, .ifCond .eq 7), (48, .iconst 1), (49, .goto 4), (52, .iconst 0), (53, .istore_n 1), (54, .iinc 2 1), (57, .goto (-53)), (60, .aload_n 0), (61, .getfield 10), (64, .iload_n 1), (65, .ifCond .eq 8), (68, .bipush 9), (70, .goto 5), (73, .bipush 10), (75, .aload_n 0), (76, .getfield 38), (79, .getfield 100), (82, .aload_n 0), (83, .getfield 38), (86, .getfield 183), (89, .invokevirtual 116), (92, .aload_n 0), (93, .getfield 38), (96, .iload_n 1), (97, .invokevirtual 186), (100, .return_)]
def iv_k35 : List (Nat × Instr) := [(0, .aload_n 0), (1, .getfield 9), (4, .iload_n 1), (5, .if_icmp .ne 14), (8, .iconst 1), (9, .iconst 3), (10, .aload_n 0), (11, .getfield 15), (14, .iadd), (15, .ishl), (16, .goto 4), (19, .iconst 0), (20, .ireturn)]
def iv_k36 : List (Nat × Instr) := [(0, .iload_n 1), (1, .ifCond .eq 16), (4, .aload_n 0), (5, .dup), (6, .getfield 22), (9, .iconst 1), (10, .iadd), (11, .putfield 22), (14, .goto 13), (17, .aload_n 0), (18, .dup), (19, .getfield 25), (22, .iconst 1), (23, .iadd), (24, .putfield 25), (27, .aload_n 0), (28, .iconst (-1)), (29, .putfield 9), (32, .return_)]
def iv_k37 : List (Nat × Instr) := [(0, .iconst 0), (1, .istore_n 1), (2, .iload_n 1), (3, .iconst 4), (4, .if_icmp .ge 57), (7, .aload_n 0), (8, .getfield 18), (11, .iload_n 1), (12, .aaload), (13, .getfield 135), (16, .aload_n 0), (17, .getfield 18), (20, .iload_n 1), (21, .aaload), (22, .getfield 138), (25, .ior), (26, .aload_n 0), (27, .getfield 38), (30, .iload_n 1), (31, .invokevirtual 180), (34, .ior), (35, .istore_n 2), (36, .aload_n 0), (37, .getfield 31), (40, .iload_n 1), (41, .aload_n 0), (42, .getfield 10), (45, .getfield 86), (48, .iload_n 2), (49, .invokestatic 189), (52, .invokevirtual 192), (55, .iinc 1 1), (58, .goto (-56)), (61, .aload_n 0), (62, .getfield 38), (65, .aload_n 0), (66, .getfield 38), (69, .getfield 100), (72, .iconst (-1)), (73, .if_icmp .eq 7), (76, .iconst 1), (77, .goto 4), (80, .iconst 0), (81, .putfield 103), (84, .return_)]
def iv_k38 : List (Nat × Instr) := [(0, .iconst 0), (1, .istore_n 3), (2, .iload_n 3), (3, .iconst 4), (4, .if_icmp .ge 53), (7, .iload_n 1), (8, .iconst 4), (9, .imul), (10, .iload_n 3), (11, .iadd), (12, .istore 4), (14, .aload_n 0), (15, .getfield 9), (18, .iload 4), (20, .aload_n 0), (21, .getfield 15), (24, .iload 4), (26, .iaload), (27, .iconst (-1)), (28, .if_icmp .ne 7), (31, .iload_n 2), (32, .goto 10), (35, .aload_n 0), (36, .getfield 15), (39, .iload 4), (41, .iaload), (42, .iastore), (43, .aload_n 0), (44, .getfield 15), (47, .iload 4), (49, .iconst (-1)), (50, .iastore), (51, .iinc 3 1), (54, .goto (-52)), (57, .return_)]
def iv_k39 : List (Nat × Instr) := [(0, .iconst 0), (1, .istore_n 1), (2, .iconst 0), (3, .istore_n 2), (4, .iload_n 2), (5, .iconst 4), (6, .if_icmp .ge 23), (9, .iload_n 1), (10, .aload_n 0), (11, .getfield 24), (14, .iload_n 2), (15, .aaload), (16, .getfield 126), (19, .iconst 1), (20, .iand), (21, .iadd), (22, .istore_n 1), (23, .iinc 2 1), (26, .goto (-22)), (29, .iload_n 1), (30, .iconst 2), (31, .if_icmp .lt 7), (34, .iconst 1), (35, .goto 4), (38, .iconst 0), (39, .ireturn)]
def iv_k40 : List (Nat × Instr) := [(0, .iload_n 1), (1, .aload_n 0), (2, .arraylength), (3, .if_icmp .ge 9), (6, .aload_n 0), (7, .iload_n 1), (8, .iaload), (9, .goto 4), (12, .iconst 0), (13, .ireturn)]
def iv_k41 : List (Nat × Instr) := [(0, .aload_n 0), (1, .iload_n 1), (2, .iload_n 2), (3, .iload_n 3), (4, .invokevirtual 7), (7, .goto 7), (10, .astore 4), (12, .iconst 1), (13, .ireturn), (14, .iconst 0), (15, .ireturn)]
def iv_k42 : List (Nat × Instr) := [(0, .iload_n 1), (1, .invokestatic 65), (4, .iload_n 2), (5, .invokestatic 68), (8, .iload_n 3), (9, .ifCond .lt 14), (12, .iload_n 3), (13, .sipush 4095), (16, .if_icmp .gt 7), (19, .iconst 1), (20, .goto 4), (23, .iconst 0), (24, .invokestatic 71), (27, .aload_n 0), (28, .getfield 18), (31, .iload_n 1), (32, .aaload), (33, .iload_n 2), (34, .iload_n 3), (35, .invokevirtual 75), (38, .return_)]
def iv_k43 : List (Nat × Instr) := [(0, .iload_n 0), (1, .ifCond .lt 12), (4, .iload_n 0), (5, .iconst 4), (6, .if_icmp .ge 7), (9, .iconst 1), (10, .goto 4), (13, .iconst 0), (14, .invokestatic 71), (17, .return_)]
def iv_k44 : List (Nat × Instr) := [(0, .iload_n 0), (1, .ifCond .ne 11), (4, .new 161), (7, .dup), (8, .invokespecial 163), (11, .athrow), (12, .return_)]
def iv_k45 : List (Nat × Instr) := []
def iv_k46 : List (Nat × Instr) := []
def iv_k47 : List (Nat × Instr) := []
def iv_k48 : List (Nat × Instr) := []
def iv_k49 : List (Nat × Instr) := [(0, .iload_n 0), (1, .ifCond .lt 12), (4, .iload_n 0), (5, .iconst 3), (6, .if_icmp .ge 7), (9, .iconst 1), (10, .goto 4), (13, .iconst 0), (14, .invokestatic 71), (17, .return_)]
def iv_k50 : List (Nat × Instr) := [(0, .aload_n 0), (1, .getfield 9), (4, .iload_n 1), (5, .iload_n 2), (6, .iastore), (7, .aload_n 0), (8, .dup), (9, .getfield 24), (12, .iconst 1), (13, .iload_n 1), (14, .ishl), (15, .ior), (16, .putfield 24), (19, .return_)]
def iv_k51 : List (Nat × Instr) := [(0, .aload_n 3), (1, .iconst 0), (2, .aload_n 0), (3, .iload_n 1), (4, .iload_n 2), (5, .invokevirtual 15), (8, .i2l), (9, .lastore), (10, .goto 7), (13, .astore 4), (15, .iconst 1), (16, .ireturn), (17, .iconst 0), (18, .ireturn)]
def iv_k52 : List (Nat × Instr) := [(0, .iload_n 1), (1, .invokestatic 65), (4, .iload_n 2), (5, .invokestatic 68), (8, .aload_n 0), (9, .getfield 18), (12, .iload_n 1), (13, .aaload), (14, .iload_n 2), (15, .invokevirtual 79), (18, .ireturn)]
def iv_k53 : List (Nat × Instr) := [(0, .aload_n 0), (1, .iload_n 1), (2, .invokevirtual 19), (5, .goto 9), (8, .astore_n 2), (9, .iconst 1), (10, .ireturn), (11, .astore_n 2), (12, .iconst 2), (13, .ireturn), (14, .iconst 0), (15, .ireturn)]
def iv_k54 : List (Nat × Instr) := [(0, .iload_n 1), (1, .invokestatic 65), (4, .aload_n 0), (5, .getfield 42), (8, .iconst (-1)), (9, .if_icmp .ne 18), (12, .aload_n 0), (13, .getfield 38), (16, .getfield 100), (19, .iload_n 1), (20, .if_icmp .eq 7), (23, .iconst 1), (24, .goto 4), (27, .iconst 0), (28, .invokestatic 113), (31, .aload_n 0), (32, .iload_n 1), (33, .putfield 42), (36, .aload_n 0), (37, .getfield 10), (40, .bipush 11), (42, .iload_n 1), (43, .iconst 0), (44, .invokevirtual 116), (47, .return_)]
def iv_k55 : List (Nat × Instr) := [(0, .iload_n 0), (1, .ifCond .ne 11), (4, .new 164), (7, .dup), (8, .invokespecial 166), (11, .athrow), (12, .return_)]
def iv_k56 : List (Nat × Instr) := []
def iv_k57 : List (Nat × Instr) := [(0, .aload_n 0), (1, .invokevirtual 25), (4, .goto 6), (7, .astore_n 1), (8, .iconst 1), (9, .ireturn), (10, .iconst 0), (11, .ireturn)]
def iv_k58 : List (Nat × Instr) := [(0, .aload_n 0), (1, .getfield 42), (4, .iconst (-1)), (5, .if_icmp .eq 7), (8, .iconst 1), (9, .goto 4), (12, .iconst 0), (13, .invokestatic 113), (16, .aload_n 0), (17, .getfield 10), (20, .bipush 12), (22, .aload_n 0), (23, .getfield 42), (26, .iconst 0), (27, .invokevirtual 116), (30, .aload_n 0), (31, .iconst (-1)), (32, .putfield 42), (35, .return_)]
def iv_k59 : List (Nat × Instr) := [(0, .aload_n 0), (1, .iload_n 1), (2, .iload_n 2), (3, .invokevirtual 28), (6, .goto 9), (9, .astore_n 3), (10, .iconst 1), (11, .ireturn), (12, .astore_n 3), (13, .iconst 2), (14, .ireturn), (15, .iconst 0), (16, .ireturn)]
def iv_k60 : List (Nat × Instr) := [(0, .iload_n 1), (1, .invokestatic 65), (4, .iload_n 2), (5, .invokestatic 68), (8, .aload_n 0), (9, .getfield 38), (12, .getfield 100), (15, .iconst (-1)), (16, .if_icmp .ne 15), (19, .aload_n 0), (20, .getfield 42), (23, .iload_n 1), (24, .if_icmp .eq 7), (27, .iconst 1), (28, .goto 4), (31, .iconst 0), (32, .invokestatic 113), (35, .aload_n 0), (36, .getfield 38), (39, .iload_n 1), (40, .iload_n 2), (41, .invokevirtual 120), (44, .return_)]
def iv_k61 : List (Nat × Instr) := [(0, .aload_n 0), (1, .iload_n 1), (2, .putfield 9), (5, .aload_n 0), (6, .iload_n 2), (7, .putfield 15), (10, .aload_n 0), (11, .iconst 0), (12, .putfield 18), (15, .return_)]
def iv_k62 : List (Nat × Instr) := [(0, .aload_n 0), (1, .iload_n 1), (2, .invokevirtual 32), (5, .goto 9), (8, .astore_n 2), (9, .iconst 1), (10, .ireturn), (11, .astore_n 2), (12, .iconst 2), (13, .ireturn), (14, .iconst 0), (15, .ireturn)]
def iv_k63 : List (Nat × Instr) := [(0, .iload_n 1), (1, .invokestatic 123), (4, .aload_n 0), (5, .getfield 24), (8, .iload_n 1), (9, .aaload), (10, .astore_n 2), (11, .aload_n 2), (12, .getfield 126), (15, .ifCond .eq 14), (18, .aload_n 2), (19, .getfield 129), (22, .ifCond .ne 7), (25, .iconst 1), (26, .goto 4), (29, .iconst 0), (30, .invokestatic 113), (33, .aload_n 0), (34, .getfield 10), (37, .bipush 13), (39, .iload_n 1), (40, .aload_n 2), (41, .getfield 126), (44, .invokevirtual 116), (47, .aload_n 2), (48, .iconst 0), (49, .putfield 126), (52, .return_)]
def iv_k64 : List (Nat × Instr) := [(0, .iload_n 0), (1, .ifCond .lt 12), (4, .iload_n 0), (5, .iconst 4), (6, .if_icmp .ge 7), (9, .iconst 1), (10, .goto 4), (13, .iconst 0), (14, .invokestatic 71), (17, .return_)]
def iv_k65 : List (Nat × Instr) := [(0, .aload_n 0), (1, .iload_n 1), (2, .iload_n 2), (3, .iload_n 3), (4, .invokevirtual 35), (7, .goto 7), (10, .astore 4), (12, .iconst 1), (13, .ireturn), (14, .iconst 0), (15, .ireturn)]
def iv_k66 : List (Nat × Instr) := [(0, .iload_n 1), (1, .invokestatic 65), (4, .iload_n 2), (5, .invokestatic 123), (8, .aload_n 0), (9, .getfield 31), (12, .iload_n 1), (13, .iload_n 2), (14, .iload_n 3), (15, .invokevirtual 132), (18, .return_)]
def iv_k67 : List (Nat × Instr) := [(0, .aload_n 0), (1, .getfield 15), (4, .iload_n 1), (5, .iconst 4), (6, .imul), (7, .iload_n 2), (8, .iadd), (9, .iload_n 3), (10, .ldc 24), (12, .iand), (13, .iastore), (14, .return_)]
def iv_k68 : List (Nat × Instr) := [(0, .aload_n 3), (1, .iconst 0), (2, .aload_n 0), (3, .iload_n 1), (4, .iload_n 2), (5, .invokevirtual 38), (8, .i2l), (9, .lastore), (10, .goto 7), (13, .astore 4), (15, .iconst 1), (16, .ireturn), (17, .iconst 0), (18, .ireturn)]
def iv_k69 : List (Nat × Instr) := [(0, .iload_n 1), (1, .invokestatic 65), (4, .iload_n 2), (5, .ifCond .lt 12), (8, .iload_n 2), (9, .iconst 2), (10, .if_icmp .gt 7), (13, .iconst 1), (14, .goto 4), (17, .iconst 0), (18, .invokestatic 71), (21, .aload_n 0), (22, .getfield 18), (25, .iload_n 1), (26, .aaload), (27, .astore_n 3), (28, .iload_n 2), (29, .lookupswitch 42 #[(0, 27), (1, 37)]), (56, .aload_n 3), (57, .getfield 135), (60, .aload_n 3), (61, .getfield 138), (64, .ior), (65, .ireturn), (66, .aload_n 3), (67, .getfield 135), (70, .ireturn), (71, .aload_n 3), (72, .getfield 138), (75, .ireturn)]
def iv_k70 : List (Nat × Instr) := [(0, .aload_n 3), (1, .iconst 0), (2, .aload_n 0), (3, .iload_n 1), (4, .iload_n 2), (5, .invokevirtual 41), (8, .i2l), (9, .lastore), (10, .goto 7), (13, .astore 4), (15, .iconst 1), (16, .ireturn), (17, .iconst 0), (18, .ireturn)]
def iv_k71 : List (Nat × Instr) := [(0, .iload_n 1), (1, .invokestatic 123), (4, .iload_n 2), (5, .invokestatic 65), (8, .aload_n 0), (9, .getfield 24), (12, .iload_n 1), (13, .aaload), (14, .getfield 141), (17, .iload_n 2), (18, .iaload), (19, .bipush 7), (21, .iand), (22, .ireturn)]
def iv_k72 : List (Nat × Instr) := [(0, .aload_n 2), (1, .iconst 0), (2, .aload_n 0), (3, .iload_n 1), (4, .invokevirtual 44), (7, .i2l), (8, .lastore), (9, .goto 6), (12, .astore_n 3), (13, .iconst 1), (14, .ireturn), (15, .iconst 0), (16, .ireturn)]
def iv_k73 : List (Nat × Instr) := [(0, .iload_n 1), (1, .invokestatic 123), (4, .aload_n 0), (5, .getfield 24), (8, .iload_n 1), (9, .aaload), (10, .getfield 129), (13, .ireturn)]
def iv_k74 : List (Nat × Instr) := [(0, .aload_n 2), (1, .iconst 0), (2, .aload_n 0), (3, .iload_n 1), (4, .invokevirtual 48), (7, .i2l), (8, .lastore), (9, .goto 6), (12, .astore_n 3), (13, .iconst 1), (14, .ireturn), (15, .iconst 0), (16, .ireturn)]
def iv_k75 : List (Nat × Instr) := [(0, .iload_n 1), (1, .invokestatic 123), (4, .aload_n 0), (5, .getfield 24), (8, .iload_n 1), (9, .aaload), (10, .getfield 126), (13, .ireturn)]
def iv_k76 : List (Nat × Instr) := [(0, .aload_n 3), (1, .iconst 0), (2, .aload_n 0), (3, .iload_n 1), (4, .iload_n 2), (5, .invokevirtual 51), (8, .i2l), (9, .lastore), (10, .goto 11), (13, .astore 4), (15, .iconst 1), (16, .ireturn), (17, .astore 4), (19, .iconst 2), (20, .ireturn), (21, .iconst 0), (22, .ireturn)]
def iv_k77 : List (Nat × Instr) := [(0, .aload_n 0), (1, .getfield 10), (4, .iload_n 1), (5, .invokevirtual 145), (8, .ifCond .ne 11), (11, .new 149), (14, .dup), (15, .invokespecial 151), (18, .athrow), (19, .iload_n 2), (20, .ifCond .lt 12), (23, .iload_n 2), (24, .iconst 4), (25, .if_icmp .ge 7), (28, .iconst 1), (29, .goto 4), (32, .iconst 0), (33, .invokestatic 71), (36, .aload_n 0), (37, .getfield 10), (40, .iload_n 1), (41, .iload_n 2), (42, .invokevirtual 152), (45, .ireturn)]
def iv_k78 : List (Nat × Instr) := [(0, .iload_n 1), (1, .ifCond .lt 26), (4, .iload_n 1), (5, .aload_n 0), (6, .getfield 17), (9, .if_icmp .ge 18), (12, .iload_n 1), (13, .aload_n 0), (14, .getfield 17), (17, .bipush 40), (19, .isub), (20, .if_icmp .lt 7), (23, .iconst 1), (24, .goto 4), (27, .iconst 0), (28, .ireturn)]
def iv_k79 : List (Nat × Instr) := []
def iv_k80 : List (Nat × Instr) := [(0, .aload_n 0), (1, .getfield 9), (4, .iload_n 1), (5, .invokestatic 20), (8, .iload_n 2), (9, .iadd), (10, .iaload), (11, .ireturn)]
def iv_k81 : List (Nat × Instr) := [(0, .aload_n 2), (1, .iconst 0), (2, .aload_n 0), (3, .iload_n 1), (4, .invokevirtual 56), (7, .i2l), (8, .lastore), (9, .goto 6), (12, .astore_n 3), (13, .iconst 1), (14, .ireturn), (15, .iconst 0), (16, .ireturn)]
def iv_k82 : List (Nat × Instr) := [(0, .iload_n 1), (1, .tableswitch 93 0 6 #[43, 51, 59, 64, 72, 80, 85]), (44, .aload_n 0), (45, .getfield 10), (48, .getfield 86), (51, .ireturn), (52, .aload_n 0), (53, .getfield 10), (56, .getfield 83), (59, .ireturn), (60, .aload_n 0), (61, .getfield 46), (64, .ireturn), (65, .aload_n 0), (66, .getfield 38), (69, .getfield 155), (72, .ireturn), (73, .aload_n 0), (74, .getfield 38), (77, .getfield 158), (80, .ireturn), (81, .aload_n 0), (82, .getfield 42), (85, .ireturn), (86, .aload_n 0), (87, .getfield 38), (90, .getfield 100), (93, .ireturn), (94, .new 161), (97, .dup), (98, .invokespecial 163), (101, .athrow)]
def iv_k83 : List (Nat × Instr) := [(0, .aload_n 0), (1, .invokespecial 1), (4, .aload_n 0), (5, .bipush 12), (7, .newarray .int), (9, .putfield 7), (12, .aload_n 0), (13, .bipush 12), (15, .newarray .int), (17, .putfield 13), (20, .aload_n 0), (21, .bipush 12), (23, .newarray .boolean), (25, .putfield 16), (28, .aload_n 0), (29, .bipush 12), (31, .newarray .int), (33, .putfield 20), (36, .aload_n 0), (37, .sipush 520), (40, .newarray .int), (42, .putfield 23), (45, .aload_n 0), (46, .sipush 520), (49, .newarray .int), (51, .putfield 26), (54, .aload_n 0), (55, .sipush 520), (58, .newarray .int), (60, .putfield 29), (63, .aload_n 0), (64, .bipush 16), (66, .newarray .int), (68, .putfield 32), (71, .aload_n 0), (72, .bipush 16), (74, .newarray .int), (76, .putfield 35), (79, .aload_n 0), (80, .bipush 16), (82, .newarray .int), (84, .putfield 38), (87, .aload_n 0), (88, .bipush 16), (90, .newarray .boolean), (92, .putfield 41), (95, .aload_n 0), (96, .bipush 16), (98, .newarray .int), (100, .putfield 44), (103, .aload_n 0), (104, .bipush 16), (106, .newarray .int), (108, .putfield 47), (111, .aload_n 0), (112, .bipush 16), (114, .newarray .boolean), (116, .putfield 50), (119, .aload_n 0), (120, .iconst 4), (121, .newarray .int), (123, .putfield 53), (126, .aload_n 0), (127, .iconst 4), (128, .newarray .int), (130, .putfield 56), (133, .aload_n 0), (134, .iconst (-1)), (135, .putfield 59), (138, .aload_n 0), (139, .iconst (-1)), (140, .putfield 63), (143, .aload_n 0), (144, .bipush 40), (146, .newarray .int), (148, .putfield 66), (151, .aload_n 0), (152, .bipush 40), (154, .newarray .int), (156, .putfield 69), (159, .aload_n 0), (160, .bipush 40), (162, .newarray .int), (164, .putfield 72), (167, .aload_n 0), (168, .bipush 40), (170, .newarray .int), (172, .putfield 75), (175, .aload_n 0), (176, .iload_n 1), (177, .iconst 1), (178, .if_icmp .ge 7), (181, .iconst 1), (182, .goto 15), (185, .iload_n 1), (186, .bipush 8), (188, .if_icmp .le 8), (191, .bipush 8), (193, .goto 4), (196, .iload_n 1), (197, .putfield 78), (200, .iconst 0), (201, .istore_n 2), (202, .iload_n 2), (203, .iconst 4), (204, .if_icmp .ge 46), (207, .aload_n 0), (208, .getfield 7), (211, .iconst 3), (212, .iload_n 2), (213, .imul), (214, .sipush 2000), (217, .iastore), (218, .aload_n 0), (219, .getfield 7), (222, .iconst 3), (223, .iload_n 2), (224, .imul), (225, .iconst 1), (226, .iadd), (227, .sipush 2200), (230, .iastore), (231, .aload_n 0), (232, .getfield 7), (235, .iconst 3), (236, .iload_n 2), (237, .imul), (238, .iconst 2), (239, .iadd), (240, .sipush 1500), (243, .iastore), (244, .iinc 2 1), (247, .goto (-45)), (250, .return_)]
def iv_k84 : List (Nat × Instr) := [(0, .aload_n 0), (1, .getfield 81), (4, .ireturn)]
def iv_k85 : List (Nat × Instr) := [(0, .aload_n 0), (1, .iload_n 1), (2, .iconst 3), (3, .invokestatic 90), (6, .ifCond .eq 25), (9, .iload_n 2), (10, .iconst 2), (11, .invokestatic 90), (14, .ifCond .eq 17), (17, .iload_n 3), (18, .sipush 4095), (21, .invokestatic 90), (24, .ifCond .eq 7), (27, .iconst 0), (28, .goto 4), (31, .iconst 1), (32, .putfield 81), (35, .aload_n 0), (36, .getfield 81), (39, .ifCond .ne 25), (42, .aload_n 0), (43, .getfield 7), (46, .iconst 3), (47, .iload_n 1), (48, .imul), (49, .iload_n 2), (50, .iadd), (51, .iload_n 3), (52, .iastore), (53, .aload_n 0), (54, .getfield 16), (57, .iconst 3), (58, .iload_n 1), (59, .imul), (60, .iload_n 2), (61, .iadd), (62, .iconst 1), (63, .bastore), (64, .return_)]
def iv_k86 : List (Nat × Instr) := [(0, .iload_n 0), (1, .ifCond .lt 12), (4, .iload_n 0), (5, .iload_n 1), (6, .if_icmp .gt 7), (9, .iconst 1), (10, .goto 4), (13, .iconst 0), (14, .ireturn)]
def iv_k87 : List (Nat × Instr) := [(0, .aload_n 0), (1, .iload_n 1), (2, .iconst 3), (3, .invokestatic 90), (6, .ifCond .eq 15), (9, .iload_n 2), (10, .iconst 2), (11, .invokestatic 90), (14, .ifCond .eq 7), (17, .iconst 0), (18, .goto 4), (21, .iconst 1), (22, .putfield 81), (25, .aload_n 0), (26, .getfield 81), (29, .ifCond .ne 12), (32, .aload_n 0), (33, .iload_n 1), (34, .iload_n 2), (35, .invokevirtual 99), (38, .goto 4), (41, .iconst 0), (42, .ireturn)]
def iv_k88 : List (Nat × Instr) := [(0, .iload_n 2), (1, .iconst 2), (2, .if_icmp .ge 17), (5, .iload_n 2), (6, .ifCond .ne 9), (9, .sipush 3000), (12, .goto 6), (15, .sipush 1200), (18, .ireturn), (19, .aload_n 0), (20, .getfield 7), (23, .iconst 3), (24, .iload_n 1), (25, .imul), (26, .iaload), (27, .invokestatic 95), (30, .sipush 1000), (33, .idiv), (34, .istore_n 3), (35, .aload_n 0), (36, .getfield 7), (39, .iconst 3), (40, .iload_n 1), (41, .imul), (42, .iconst 1), (43, .iadd), (44, .iaload), (45, .istore 4), (47, .iconst 0), (48, .istore 5), (50, .iload 4), (52, .iconst 4), (53, .iload 5), (55, .imul), (56, .iadd), (57, .sipush 2000), (60, .if_icmp .ge 9), (63, .iinc 5 1), (66, .goto (-16)), (69, .iload_n 3), (70, .iload 5), (72, .isub), (73, .ireturn)]
def iv_k89 : List (Nat × Instr) := [(0, .iload_n 0), (1, .sipush 4000), (4, .if_icmp .le 6), (7, .ldc 94), (9, .ireturn), (10, .iload_n 0), (11, .sipush 1000), (14, .idiv), (15, .istore_n 1), (16, .iload_n 1), (17, .ifCond .ne 9), (20, .sipush 3600), (23, .goto 39), (26, .iload_n 1), (27, .iconst 1), (28, .if_icmp .ne 9), (31, .sipush 3300), (34, .goto 28), (37, .iload_n 1), (38, .iconst 2), (39, .if_icmp .ne 9), (42, .sipush 2900), (45, .goto 17), (48, .iload_n 1), (49, .iconst 3), (50, .if_icmp .ne 9), (53, .sipush 2200), (56, .goto 6), (59, .sipush 1500), (62, .istore_n 2), (63, .iload_n 1), (64, .ifCond .ne 9), (67, .sipush 3300), (70, .goto 28), (73, .iload_n 1), (74, .iconst 1), (75, .if_icmp .ne 9), (78, .sipush 2900), (81, .goto 17), (84, .iload_n 1), (85, .iconst 2), (86, .if_icmp .ne 9), (89, .sipush 2200), (92, .goto 6), (95, .sipush 1500), (98, .istore_n 3), (99, .iload_n 0), (100, .sipush 1000), (103, .irem), (104, .istore 4), (106, .iload_n 2), (107, .sipush 1000), (110, .iload 4), (112, .isub), (113, .imul), (114, .iload_n 3), (115, .iload 4), (117, .imul), (118, .iadd), (119, .ireturn)]
def iv_k90 : List (Nat × Instr) := [(0, .aload_n 0), (1, .iconst 0), (2, .putfield 81), (5, .aload_n 0), (6, .getfield 84), (9, .istore_n 1), (10, .aload_n 0), (11, .dup), (12, .getfield 87), (15, .iconst 1), (16, .iadd), (17, .putfield 87), (20, .iconst 0), (21, .istore_n 2), (22, .iload_n 2), (23, .bipush 12), (25, .if_icmp .ge 19), (28, .aload_n 0), (29, .iload_n 2), (30, .iconst 3), (31, .idiv), (32, .iload_n 2), (33, .iconst 3), (34, .irem), (35, .invokevirtual 133), (38, .iinc 2 1), (41, .goto (-19)), (44, .iconst 0), (45, .istore_n 2), (46, .iload_n 2), (47, .iconst 4), (48, .if_icmp .ge 33), (51, .iconst 0), (52, .istore_n 3), (53, .iload_n 3), (54, .iconst 4), (55, .if_icmp .ge 15), (58, .aload_n 0), (59, .iload_n 2), (60, .iload_n 3), (61, .invokevirtual 137), (64, .iinc 3 1), (67, .goto (-14)), (70, .aload_n 0), (71, .iload_n 2), (72, .invokevirtual 140), (75, .iinc 2 1), (78, .goto (-32)), (81, .aload_n 0), (82, .getfield 63), (85, .ifCond .lt 14), (88, .aload_n 0), (89, .getfield 129), (92, .ifCond .eq 7), (95, .aload_n 0), (96, .invokevirtual 144), (99, .iconst 0), (100, .istore_n 2), (101, .iload_n 2), (102, .iconst 4), (103, .if_icmp .ge 77), (106, .aload_n 0), (107, .iload_n 2), (108, .invokevirtual 147), (111, .aload_n 0), (112, .iload_n 2), (113, .invokevirtual 150), (116, .ior), (117, .istore_n 3), (118, .iload_n 3), (119, .aload_n 0), (120, .getfield 63), (123, .ifCond .lt 25), (126, .aload_n 0), (127, .getfield 63), (130, .iconst 3), (131, .idiv), (132, .iload_n 2), (133, .if_icmp .ne 15), (136, .bipush 8), (138, .aload_n 0), (139, .getfield 63), (142, .iconst 3), (143, .irem), (144, .ishl), (145, .goto 4), (148, .iconst 0), (149, .ior), (150, .istore_n 3), (151, .iconst 0), (152, .istore 4), (154, .iload 4), (156, .iconst 4), (157, .if_icmp .ge 17), (160, .aload_n 0), (161, .iload_n 2), (162, .iload 4), (164, .iload_n 3), (165, .invokevirtual 153), (168, .iinc 4 1), (171, .goto (-17)), (174, .iinc 2 1), (177, .goto (-76)), (180, .aload_n 0), (181, .aload_n 0), (182, .getfield 63), (185, .ifCond .lt 7), (188, .iconst 1), (189, .goto 4), (192, .iconst 0), (193, .putfield 129), (196, .aload_n 0), (197, .getfield 84), (200, .iload_n 1), (201, .isub), (202, .ireturn)]
def iv_k91 : List (Nat × Instr) := [(0, .iconst 3), (1, .iload_n 1), (2, .imul), (3, .iload_n 2), (4, .iadd), (5, .istore_n 3), (6, .aload_n 0), (7, .getfield 20), (10, .iload_n 3), (11, .aload_n 0), (12, .getfield 16), (15, .iload_n 3), (16, .baload), (17, .ifCond .ne 11), (20, .aload_n 0), (21, .getfield 87), (24, .iconst 1), (25, .if_icmp .ne 10), (28, .aload_n 0), (29, .getfield 87), (32, .goto 9), (35, .aload_n 0), (36, .getfield 20), (39, .iload_n 3), (40, .iaload), (41, .iastore), (42, .aload_n 0), (43, .getfield 16), (46, .iload_n 3), (47, .iconst 0), (48, .bastore), (49, .aload_n 0), (50, .getfield 7), (53, .iload_n 3), (54, .iaload), (55, .istore 4), (57, .aload_n 0), (58, .iload_n 1), (59, .iload_n 2), (60, .invokevirtual 99), (63, .istore 5), (65, .iload_n 2), (66, .iconst 1), (67, .if_icmp .ne 18), (70, .iload 4), (72, .iload 5), (74, .if_icmp .ge 7), (77, .iconst 1), (78, .goto 19), (81, .iconst 0), (82, .goto 15), (85, .iload 4), (87, .iload 5), (89, .if_icmp .le 7), (92, .iconst 1), (93, .goto 4), (96, .iconst 0), (97, .istore 6), (99, .iload_n 2), (100, .iconst 1), (101, .if_icmp .ne 21), (104, .iload 4), (106, .iload 5), (108, .bipush 40), (110, .iadd), (111, .if_icmp .le 7), (114, .iconst 1), (115, .goto 22), (118, .iconst 0), (119, .goto 18), (122, .iload 4), (124, .iload 5), (126, .bipush 40), (128, .isub), (129, .if_icmp .ge 7), (132, .iconst 1), (133, .goto 4), (136, .iconst 0), (137, .istore 7), (139, .aload_n 0), (140, .iload_n 3), (141, .invokevirtual 106), (144, .istore 8), (146, .aload_n 0), (147, .getfield 23), (150, .aload_n 0), (151, .getfield 87), (154, .dup2), (155, .iaload), (156, .iload 8), (158, .ifCond .eq 9), (161, .iconst 1), (162, .iload_n 3), (163, .ishl), (164, .goto 4), (167, .iconst 0), (168, .ior), (169, .iastore), (170, .aload_n 0), (171, .getfield 26), (174, .aload_n 0), (175, .getfield 87), (178, .dup2), (179, .iaload), (180, .iload 6), (182, .ifCond .eq 9), (185, .iconst 1), (186, .iload_n 3), (187, .ishl), (188, .goto 4), (191, .iconst 0), (192, .ior), (193, .iastore), (194, .aload_n 0), (195, .getfield 29), (198, .aload_n 0), (199, .getfield 87), (202, .dup2), (203, .iaload), (204, .iload 7), (206, .ifCond .eq 9), (209, .iconst 1), (210, .iload_n 3), (211, .ishl), (212, .goto 4), (215, .iconst 0), (216, .ior), (217, .iastore), (218, .aload_n 0), (219, .getfield 13), (222, .iload_n 3), (223, .iload 4), (225, .iastore), (226, .aload_n 0), (227, .getfield 23), (230, .aload_n 0), (231, .getfield 87), (234, .iconst 1), (235, .isub), (236, .iaload), (237, .iload_n 3), (238, .invokestatic 103), (241, .istore 9), (243, .iload 8), (245, .iload 9), (247, .if_icmp .eq 19), (250, .aload_n 0), (251, .iload 8), (253, .ifCond .eq 7), (256, .iconst 1), (257, .goto 4), (260, .iconst 2), (261, .iload_n 1), (262, .iload_n 2), (263, .invokevirtual 110), (266, .aload_n 0), (267, .iload_n 3), (268, .aload_n 0), (269, .getfield 87), (272, .invokevirtual 114), (275, .istore 10), (277, .iload 10), (279, .aload_n 0), (280, .iload_n 3), (281, .aload_n 0), (282, .getfield 87), (285, .iconst 1), (286, .isub), (287, .invokevirtual 114), (290, .if_icmp .eq 19), (293, .aload_n 0), (294, .iload 10), (296, .ifCond .eq 7), (299, .iconst 3), (300, .goto 4), (303, .iconst 4), (304, .iload_n 1), (305, .iload_n 2), (306, .invokevirtual 110), (309, .return_)]
def iv_k92 : List (Nat × Instr) := [(0, .aload_n 0), (1, .getfield 7), (4, .iload_n 1), (5, .iaload), (6, .istore_n 2), (7, .iload_n 2), (8, .aload_n 0), (9, .getfield 13), (12, .iload_n 1), (13, .iaload), (14, .if_icmp .ge 14), (17, .aload_n 0), (18, .getfield 13), (21, .iload_n 1), (22, .iaload), (23, .iload_n 2), (24, .isub), (25, .goto 11), (28, .iload_n 2), (29, .aload_n 0), (30, .getfield 13), (33, .iload_n 1), (34, .iaload), (35, .isub), (36, .istore_n 3), (37, .iload_n 2), (38, .bipush 50), (40, .if_icmp .lt 41), (43, .iload_n 2), (44, .sipush 4000), (47, .if_icmp .gt 34), (50, .aload_n 0), (51, .getfield 87), (54, .iconst 1), (55, .if_icmp .le 10), (58, .iload_n 3), (59, .sipush 400), (62, .if_icmp .gt 19), (65, .aload_n 0), (66, .getfield 87), (69, .aload_n 0), (70, .getfield 20), (73, .iload_n 1), (74, .iaload), (75, .isub), (76, .bipush 12), (78, .if_icmp .le 7), (81, .iconst 1), (82, .goto 4), (85, .iconst 0), (86, .ireturn)]
def iv_k93 : List (Nat × Instr) := [(0, .iload_n 0), (1, .iload_n 1), (2, .ishr), (3, .iconst 1), (4, .iand), (5, .iconst 1), (6, .if_icmp .ne 7), (9, .iconst 1), (10, .goto 4), (13, .iconst 0), (14, .ireturn)]
def iv_k94 : List (Nat × Instr) := [(0, .aload_n 0), (1, .getfield 84), (4, .bipush 40), (6, .irem), (7, .istore 4), (9, .aload_n 0), (10, .getfield 66), (13, .iload 4), (15, .aload_n 0), (16, .getfield 87), (19, .iastore), (20, .aload_n 0), (21, .getfield 69), (24, .iload 4), (26, .iload_n 1), (27, .iastore), (28, .aload_n 0), (29, .getfield 72), (32, .iload 4), (34, .iload_n 2), (35, .iastore), (36, .aload_n 0), (37, .getfield 75), (40, .iload 4), (42, .iload_n 3), (43, .iastore), (44, .aload_n 0), (45, .dup), (46, .getfield 84), (49, .iconst 1), (50, .iadd), (51, .putfield 84), (54, .return_)]
def iv_k95 : List (Nat × Instr) := [(0, .iconst 0), (1, .istore_n 3), (2, .iload_n 2), (3, .istore 4), (5, .iload 4), (7, .ifCond .le 88), (10, .aload_n 0), (11, .getfield 23), (14, .iload 4), (16, .iaload), (17, .iload_n 1), (18, .invokestatic 103), (21, .ifCond .ne 7), (24, .iconst 1), (25, .goto 4), (28, .iconst 0), (29, .istore 5), (31, .iload 5), (33, .ifCond .eq 19), (36, .aload_n 0), (37, .getfield 29), (40, .iload 4), (42, .iaload), (43, .iload_n 1), (44, .invokestatic 103), (47, .ifCond .eq 5), (50, .iconst 0), (51, .ireturn), (52, .iload 5), (54, .ifCond .eq 23), (57, .aload_n 0), (58, .getfield 26), (61, .iload 4), (63, .iaload), (64, .iload_n 1), (65, .invokestatic 103), (68, .ifCond .eq 9), (71, .iload_n 3), (72, .iconst 1), (73, .iadd), (74, .goto 4), (77, .iconst 0), (78, .istore_n 3), (79, .iload_n 3), (80, .aload_n 0), (81, .getfield 78), (84, .if_icmp .ne 5), (87, .iconst 1), (88, .ireturn), (89, .iinc 4 (-1)), (92, .goto (-87)), (95, .iconst 0), (96, .ireturn)]
def iv_k96 : List (Nat × Instr) := [(0, .iconst 4), (1, .iload_n 1), (2, .imul), (3, .iload_n 2), (4, .iadd), (5, .istore_n 3), (6, .aload_n 0), (7, .getfield 32), (10, .iload_n 3), (11, .iaload), (12, .aload_n 0), (13, .getfield 35), (16, .iload_n 3), (17, .iaload), (18, .invokestatic 117), (21, .istore 4), (23, .aload_n 0), (24, .getfield 50), (27, .iload_n 3), (28, .aload_n 0), (29, .getfield 87), (32, .iconst 1), (33, .if_icmp .eq 33), (36, .aload_n 0), (37, .getfield 32), (40, .iload_n 3), (41, .iaload), (42, .aload_n 0), (43, .getfield 87), (46, .iconst 1), (47, .isub), (48, .sipush 255), (51, .iand), (52, .if_icmp .ne 18), (55, .aload_n 0), (56, .getfield 38), (59, .iload_n 3), (60, .iaload), (61, .iload 4), (63, .if_icmp .ne 7), (66, .iconst 1), (67, .goto 4), (70, .iconst 0), (71, .bastore), (72, .aload_n 0), (73, .getfield 47), (76, .iload_n 3), (77, .aload_n 0), (78, .getfield 87), (81, .iconst 1), (82, .if_icmp .ne 7), (85, .iconst 0), (86, .goto 26), (89, .aload_n 0), (90, .getfield 50), (93, .iload_n 3), (94, .baload), (95, .ifCond .eq 15), (98, .aload_n 0), (99, .getfield 35), (102, .iload_n 3), (103, .iaload), (104, .bipush 7), (106, .iand), (107, .goto 5), (110, .bipush 7), (112, .iastore), (113, .aload_n 0), (114, .getfield 50), (117, .iload_n 3), (118, .baload), (119, .ifCond .ne 20), (122, .aload_n 0), (123, .dup), (124, .getfield 120), (127, .iconst 1), (128, .iadd), (129, .putfield 120), (132, .aload_n 0), (133, .iconst 5), (134, .iload_n 1), (135, .iload_n 2), (136, .invokevirtual 110), (139, .return_)]
def iv_k97 : List (Nat × Instr) := [(0, .sipush 256), (3, .iload_n 0), (4, .imul), (5, .iload_n 1), (6, .iadd), (7, .sipush 256), (10, .imul), (11, .istore_n 2), (12, .bipush 23), (14, .istore_n 3), (15, .iload_n 3), (16, .bipush 8), (18, .if_icmp .lt 32), (21, .iload_n 2), (22, .iload_n 3), (23, .invokestatic 103), (26, .ifCond .eq 16), (29, .iload_n 2), (30, .sipush 263), (33, .iload_n 3), (34, .bipush 8), (36, .isub), (37, .ishl), (38, .ixor), (39, .goto 4), (42, .iload_n 2), (43, .istore_n 2), (44, .iinc 3 (-1)), (47, .goto (-32)), (50, .iload_n 2), (51, .ireturn)]
def iv_k98 : List (Nat × Instr) := [(0, .iconst 0), (1, .istore_n 2), (2, .iconst 0), (3, .istore_n 3), (4, .iload_n 3), (5, .iconst 3), (6, .if_icmp .ge 107), (9, .iconst 0), (10, .istore 4), (12, .iconst 0), (13, .istore 5), (15, .iload 5), (17, .iconst 4), (18, .if_icmp .ge 46), (21, .iload 4), (23, .iload 5), (25, .aload_n 0), (26, .getfield 59), (29, .if_icmp .eq 25), (32, .aload_n 0), (33, .getfield 47), (36, .iconst 4), (37, .iload_n 1), (38, .imul), (39, .iload 5), (41, .iadd), (42, .iaload), (43, .iload_n 3), (44, .invokestatic 103), (47, .ifCond .eq 7), (50, .iconst 1), (51, .goto 4), (54, .iconst 0), (55, .iadd), (56, .istore 4), (58, .iinc 5 1), (61, .goto (-46)), (64, .iload_n 2), (65, .iload 4), (67, .iconst 1), (68, .if_icmp .le 9), (71, .iconst 1), (72, .iload_n 3), (73, .ishl), (74, .goto 4), (77, .iconst 0), (78, .ior), (79, .istore_n 2), (80, .iload 4), (82, .iconst 1), (83, .if_icmp .le 24), (86, .aload_n 0), (87, .getfield 53), (90, .iload_n 1), (91, .iaload), (92, .iload_n 3), (93, .invokestatic 103), (96, .ifCond .ne 11), (99, .aload_n 0), (100, .bipush 6), (102, .iload_n 1), (103, .iload_n 3), (104, .invokevirtual 110), (107, .iinc 3 1), (110, .goto (-106)), (113, .aload_n 0), (114, .getfield 53), (117, .iload_n 1), (118, .iload_n 2), (119, .iastore), (120, .iload_n 2), (121, .ifCond .eq 24), (124, .aload_n 0), (125, .getfield 56), (128, .iload_n 1), (129, .iaload), (130, .iconst 0), (131, .invokestatic 103), (134, .ifCond .ne 11), (137, .aload_n 0), (138, .bipush 7), (140, .iload_n 1), (141, .iconst 0), (142, .invokevirtual 110), (145, .iload_n 2), (146, .iconst 1), (147, .invokestatic 103), (150, .ifCond .eq 7), (153, .iconst 2), (154, .goto 4), (157, .iconst 0), (158, .iload_n 2), (159, .iconst 2), (160, .invokestatic 103), (163, .ifCond .eq 7), (166, .iconst 4), (167, .goto 4), (170, .iconst 0), (171, .ior), (172, .iload_n 2), (173, .iconst 3), (174, .iand), (175, .iconst 3), (176, .if_icmp .ne 8), (179, .bipush 8), (181, .goto 4), (184, .iconst 0), (185, .ior), (186, .istore_n 3), (187, .iconst 0), (188, .istore 4), (190, .iload 4), (192, .iconst 3), (193, .if_icmp .ge 45), (196, .iload_n 3), (197, .iload 4), (199, .iconst 1), (200, .iadd), (201, .invokestatic 103), (204, .ifCond .eq 28), (207, .aload_n 0), (208, .getfield 56), (211, .iload_n 1), (212, .iaload), (213, .iload 4), (215, .iconst 1), (216, .iadd), (217, .invokestatic 103), (220, .ifCond .ne 12), (223, .aload_n 0), (224, .bipush 8), (226, .iload_n 1), (227, .iload 4), (229, .invokevirtual 110), (232, .iinc 4 1), (235, .goto (-45)), (238, .aload_n 0), (239, .getfield 56), (242, .iload_n 1), (243, .dup2), (244, .iaload), (245, .iload_n 3), (246, .iload_n 2), (247, .ifCond .eq 7), (250, .iconst 1), (251, .goto 4), (254, .iconst 0), (255, .ior), (256, .ior), (257, .iastore), (258, .return_)]
def iv_k99 : List (Nat × Instr) := [(0, .aload_n 0), (1, .getfield 63), (4, .iconst 3), (5, .idiv), (6, .istore_n 1), (7, .aload_n 0), (8, .getfield 63), (11, .iconst 3), (12, .irem), (13, .istore_n 2), (14, .iconst 1), (15, .istore_n 3), (16, .iconst 0), (17, .istore 4), (19, .iload 4), (21, .iconst 4), (22, .if_icmp .ge 53), (25, .iconst 4), (26, .iload 4), (28, .imul), (29, .iload_n 1), (30, .iadd), (31, .istore 5), (33, .iload_n 3), (34, .ifCond .eq 33), (37, .aload_n 0), (38, .getfield 50), (41, .iload 5), (43, .baload), (44, .ifCond .eq 23), (47, .aload_n 0), (48, .getfield 35), (51, .iload 5), (53, .iaload), (54, .iconst 3), (55, .iload_n 2), (56, .iadd), (57, .invokestatic 103), (60, .ifCond .eq 7), (63, .iconst 1), (64, .goto 4), (67, .iconst 0), (68, .istore_n 3), (69, .iinc 4 1), (72, .goto (-53)), (75, .aload_n 0), (76, .iload_n 3), (77, .ifCond .eq 8), (80, .bipush 9), (82, .goto 5), (85, .bipush 10), (87, .iload_n 1), (88, .iload_n 2), (89, .invokevirtual 110), (92, .aload_n 0), (93, .dup), (94, .getfield 123), (97, .iload_n 3), (98, .ifCond .eq 7), (101, .iconst 1), (102, .goto 4), (105, .iconst 0), (106, .iadd), (107, .putfield 123), (110, .aload_n 0), (111, .dup), (112, .getfield 126), (115, .iload_n 3), (116, .ifCond .eq 7), (119, .iconst 0), (120, .goto 4), (123, .iconst 1), (124, .iadd), (125, .putfield 126), (128, .aload_n 0), (129, .iconst (-1)), (130, .putfield 63), (133, .aload_n 0), (134, .iconst 0), (135, .putfield 129), (138, .return_)]
def iv_k100 : List (Nat × Instr) := [(0, .iconst 0), (1, .istore_n 2), (2, .iconst 0), (3, .istore_n 3), (4, .iload_n 3), (5, .iconst 3), (6, .if_icmp .ge 35), (9, .iload_n 2), (10, .aload_n 0), (11, .iconst 3), (12, .iload_n 1), (13, .imul), (14, .iload_n 3), (15, .iadd), (16, .aload_n 0), (17, .getfield 87), (20, .invokevirtual 114), (23, .ifCond .eq 9), (26, .iconst 1), (27, .iload_n 3), (28, .ishl), (29, .goto 4), (32, .iconst 0), (33, .ior), (34, .istore_n 2), (35, .iinc 3 1), (38, .goto (-34)), (41, .iload_n 2), (42, .ireturn)]
def iv_k101 : List (Nat × Instr) := [(0, .aload_n 0), (1, .getfield 23), (4, .aload_n 0), (5, .getfield 87), (8, .iaload), (9, .iconst 3), (10, .iload_n 1), (11, .imul), (12, .ishr), (13, .bipush 7), (15, .iand), (16, .ireturn)]
def iv_k102 : List (Nat × Instr) := [(0, .iconst 4), (1, .iload_n 2), (2, .imul), (3, .iload_n 1), (4, .iadd), (5, .istore 4), (7, .aload_n 0), (8, .getfield 87), (11, .sipush 255), (14, .iand), (15, .istore 5), (17, .aload_n 0), (18, .getfield 32), (21, .iload 4), (23, .aload_n 0), (24, .getfield 41), (27, .iload 4), (29, .baload), (30, .ifCond .eq 17), (33, .aload_n 0), (34, .getfield 44), (37, .iload 4), (39, .iaload), (40, .sipush 255), (43, .iand), (44, .goto 5), (47, .iload 5), (49, .iastore), (50, .aload_n 0), (51, .getfield 35), (54, .iload 4), (56, .aload_n 0), (57, .getfield 41), (60, .iload 4), (62, .baload), (63, .ifCond .eq 20), (66, .aload_n 0), (67, .getfield 44), (70, .iload 4), (72, .iaload), (73, .bipush 8), (75, .ishr), (76, .sipush 255), (79, .iand), (80, .goto 4), (83, .iload_n 3), (84, .iastore), (85, .aload_n 0), (86, .getfield 38), (89, .iload 4), (91, .aload_n 0), (92, .getfield 41), (95, .iload 4), (97, .baload), (98, .ifCond .eq 20), (101, .aload_n 0), (102, .getfield 44), (105, .iload 4), (107, .iaload), (108, .bipush 16), (110, .ishr), (111, .sipush 255), (114, .iand), (115, .goto 9), (118, .iload 5), (120, .iload_n 3), (121, .invokestatic 117), (124, .iastore), (125, .aload_n 0), (126, .getfield 41), (129, .iload 4), (131, .iconst 0), (132, .bastore), (133, .return_)]
def iv_k103 : List (Nat × Instr) := [(0, .aload_n 0), (1, .iload_n 1), (2, .iconst 3), (3, .invokestatic 90), (6, .ifCond .ne 7), (9, .iconst 1), (10, .goto 32), (13, .aload_n 0), (14, .getfield 59), (17, .ifCond .ge 20), (20, .aload_n 0), (21, .getfield 63), (24, .ifCond .lt 17), (27, .aload_n 0), (28, .getfield 63), (31, .iconst 3), (32, .idiv), (33, .iload_n 1), (34, .if_icmp .ne 7), (37, .iconst 2), (38, .goto 4), (41, .iconst 0), (42, .putfield 81), (45, .aload_n 0), (46, .getfield 81), (49, .ifCond .ne 16), (52, .aload_n 0), (53, .iload_n 1), (54, .putfield 59), (57, .aload_n 0), (58, .bipush 11), (60, .iload_n 1), (61, .iconst 0), (62, .invokevirtual 110), (65, .return_)]
def iv_k104 : List (Nat × Instr) := [(0, .aload_n 0), (1, .aload_n 0), (2, .getfield 59), (5, .ifCond .ge 7), (8, .iconst 1), (9, .goto 4), (12, .iconst 0), (13, .putfield 81), (16, .aload_n 0), (17, .getfield 81), (20, .ifCond .ne 19), (23, .aload_n 0), (24, .bipush 12), (26, .aload_n 0), (27, .getfield 59), (30, .iconst 0), (31, .invokevirtual 110), (34, .aload_n 0), (35, .iconst (-1)), (36, .putfield 59), (39, .return_)]
def iv_k105 : List (Nat × Instr) := [(0, .aload_n 0), (1, .iload_n 1), (2, .iconst 3), (3, .invokestatic 90), (6, .ifCond .eq 11), (9, .iload_n 2), (10, .iconst 2), (11, .invokestatic 90), (14, .ifCond .ne 7), (17, .iconst 1), (18, .goto 23), (21, .aload_n 0), (22, .getfield 63), (25, .ifCond .ge 11), (28, .aload_n 0), (29, .getfield 59), (32, .iload_n 1), (33, .if_icmp .ne 7), (36, .iconst 2), (37, .goto 4), (40, .iconst 0), (41, .putfield 81), (44, .aload_n 0), (45, .getfield 81), (48, .ifCond .ne 17), (51, .aload_n 0), (52, .iconst 3), (53, .iload_n 1), (54, .imul), (55, .iload_n 2), (56, .iadd), (57, .putfield 63), (60, .aload_n 0), (61, .iconst 0), (62, .putfield 129), (65, .return_)]
def iv_k106 : List (Nat × Instr) := [(0, .aload_n 0), (1, .iload_n 1), (2, .iconst 3), (3, .invokestatic 90), (6, .ifCond .ne 7), (9, .iconst 1), (10, .goto 26), (13, .aload_n 0), (14, .getfield 56), (17, .iload_n 1), (18, .iaload), (19, .ifCond .eq 12), (22, .aload_n 0), (23, .getfield 53), (26, .iload_n 1), (27, .iaload), (28, .ifCond .eq 7), (31, .iconst 2), (32, .goto 4), (35, .iconst 0), (36, .putfield 81), (39, .aload_n 0), (40, .getfield 81), (43, .ifCond .ne 23), (46, .aload_n 0), (47, .bipush 13), (49, .iload_n 1), (50, .aload_n 0), (51, .getfield 56), (54, .iload_n 1), (55, .iaload), (56, .invokevirtual 110), (59, .aload_n 0), (60, .getfield 56), (63, .iload_n 1), (64, .iconst 0), (65, .iastore), (66, .return_)]
def iv_k107 : List (Nat × Instr) := [(0, .aload_n 0), (1, .iload_n 1), (2, .iconst 3), (3, .invokestatic 90), (6, .ifCond .eq 15), (9, .iload_n 2), (10, .iconst 3), (11, .invokestatic 90), (14, .ifCond .eq 7), (17, .iconst 0), (18, .goto 4), (21, .iconst 1), (22, .putfield 81), (25, .aload_n 0), (26, .getfield 81), (29, .ifCond .ne 25), (32, .aload_n 0), (33, .getfield 41), (36, .iconst 4), (37, .iload_n 2), (38, .imul), (39, .iload_n 1), (40, .iadd), (41, .iconst 1), (42, .bastore), (43, .aload_n 0), (44, .getfield 44), (47, .iconst 4), (48, .iload_n 2), (49, .imul), (50, .iload_n 1), (51, .iadd), (52, .iload_n 3), (53, .iastore), (54, .return_)]
def iv_k108 : List (Nat × Instr) := [(0, .aload_n 0), (1, .iload_n 1), (2, .iconst 3), (3, .invokestatic 90), (6, .ifCond .eq 15), (9, .iload_n 2), (10, .iconst 2), (11, .invokestatic 90), (14, .ifCond .eq 7), (17, .iconst 0), (18, .goto 4), (21, .iconst 1), (22, .putfield 81), (25, .aload_n 0), (26, .getfield 81), (29, .ifCond .le 5), (32, .iconst 0), (33, .ireturn), (34, .aload_n 0), (35, .iload_n 1), (36, .invokevirtual 147), (39, .istore_n 3), (40, .aload_n 0), (41, .iload_n 1), (42, .invokevirtual 150), (45, .istore 4), (47, .iload_n 2), (48, .ifCond .ne 10), (51, .iload_n 3), (52, .iload 4), (54, .ior), (55, .goto 14), (58, .iload_n 2), (59, .iconst 1), (60, .if_icmp .ne 8), (63, .iload 4), (65, .goto 4), (68, .iload_n 3), (69, .ireturn)]
def iv_k109 : List (Nat × Instr) := [(0, .aload_n 0), (1, .iload_n 1), (2, .iconst 3), (3, .invokestatic 90), (6, .ifCond .eq 15), (9, .iload_n 2), (10, .iconst 3), (11, .invokestatic 90), (14, .ifCond .eq 7), (17, .iconst 0), (18, .goto 4), (21, .iconst 1), (22, .putfield 81), (25, .aload_n 0), (26, .getfield 81), (29, .ifCond .ne 16), (32, .aload_n 0), (33, .getfield 47), (36, .iconst 4), (37, .iload_n 1), (38, .imul), (39, .iload_n 2), (40, .iadd), (41, .iaload), (42, .goto 4), (45, .iconst 0), (46, .ireturn)]
def iv_k110 : List (Nat × Instr) := [(0, .aload_n 0), (1, .iload_n 1), (2, .iconst 3), (3, .invokestatic 90), (6, .ifCond .eq 7), (9, .iconst 0), (10, .goto 4), (13, .iconst 1), (14, .putfield 81), (17, .aload_n 0), (18, .getfield 81), (21, .ifCond .ne 12), (24, .aload_n 0), (25, .getfield 53), (28, .iload_n 1), (29, .iaload), (30, .goto 4), (33, .iconst 0), (34, .ireturn)]
def iv_k111 : List (Nat × Instr) := [(0, .aload_n 0), (1, .iload_n 1), (2, .iconst 3), (3, .invokestatic 90), (6, .ifCond .eq 7), (9, .iconst 0), (10, .goto 4), (13, .iconst 1), (14, .putfield 81), (17, .aload_n 0), (18, .getfield 81), (21, .ifCond .ne 12), (24, .aload_n 0), (25, .getfield 56), (28, .iload_n 1), (29, .iaload), (30, .goto 4), (33, .iconst 0), (34, .ireturn)]
def iv_k112 : List (Nat × Instr) := [(0, .aload_n 0), (1, .iconst 0), (2, .putfield 81), (5, .iconst 0), (6, .istore_n 1), (7, .iconst 0), (8, .istore_n 2), (9, .iload_n 2), (10, .iconst 4), (11, .if_icmp .ge 20), (14, .iload_n 1), (15, .aload_n 0), (16, .getfield 56), (19, .iload_n 2), (20, .iaload), (21, .iconst 1), (22, .iand), (23, .iadd), (24, .istore_n 1), (25, .iinc 2 1), (28, .goto (-19)), (31, .iload_n 1), (32, .iconst 1), (33, .if_icmp .le 7), (36, .iconst 1), (37, .goto 4), (40, .iconst 0), (41, .ireturn)]
def iv_k113 : List (Nat × Instr) := [(0, .aload_n 0), (1, .iload_n 1), (2, .ifCond .lt 22), (5, .iload_n 1), (6, .aload_n 0), (7, .getfield 84), (10, .if_icmp .ge 14), (13, .iload_n 1), (14, .aload_n 0), (15, .getfield 84), (18, .bipush 40), (20, .isub), (21, .if_icmp .ge 7), (24, .iconst 1), (25, .goto 16), (28, .iload_n 2), (29, .iconst 3), (30, .invokestatic 90), (33, .ifCond .eq 7), (36, .iconst 0), (37, .goto 4), (40, .iconst 2), (41, .putfield 81), (44, .aload_n 0), (45, .getfield 81), (48, .ifCond .le 5), (51, .iconst 0), (52, .ireturn), (53, .iload_n 1), (54, .bipush 40), (56, .irem), (57, .istore_n 3), (58, .iload_n 2), (59, .ifCond .ne 12), (62, .aload_n 0), (63, .getfield 66), (66, .iload_n 3), (67, .iaload), (68, .goto 37), (71, .iload_n 2), (72, .iconst 1), (73, .if_icmp .ne 12), (76, .aload_n 0), (77, .getfield 69), (80, .iload_n 3), (81, .iaload), (82, .goto 23), (85, .iload_n 2), (86, .iconst 2), (87, .if_icmp .ne 12), (90, .aload_n 0), (91, .getfield 72), (94, .iload_n 3), (95, .iaload), (96, .goto 9), (99, .aload_n 0), (100, .getfield 75), (103, .iload_n 3), (104, .iaload), (105, .ireturn)]
def iv_k114 : List (Nat × Instr) := [(0, .aload_n 0), (1, .iload_n 1), (2, .bipush 6), (4, .invokestatic 90), (7, .ifCond .eq 7), (10, .iconst 0), (11, .goto 4), (14, .iconst 1), (15, .putfield 81), (18, .iload_n 1), (19, .tableswitch 89 0 6 #[41, 46, 51, 56, 61, 66, 71]), (60, .aload_n 0), (61, .getfield 87), (64, .ireturn), (65, .aload_n 0), (66, .getfield 84), (69, .ireturn), (70, .aload_n 0), (71, .getfield 120), (74, .ireturn), (75, .aload_n 0), (76, .getfield 123), (79, .ireturn), (80, .aload_n 0), (81, .getfield 126), (84, .ireturn), (85, .aload_n 0), (86, .getfield 59), (89, .ireturn), (90, .aload_n 0), (91, .getfield 63), (94, .ifCond .ge 7), (97, .iconst (-1)), (98, .goto 9), (101, .aload_n 0), (102, .getfield 63), (105, .iconst 3), (106, .idiv), (107, .ireturn), (108, .iconst 0), (109, .ireturn)]
def iv_q0 : List (Nat × Instr) := [(0, .new 8), (3, .dup), (4, .aload_n 0), (5, .iconst 0), (6, .invokestatic 59), (9, .invokespecial 65), (12, .astore_n 1), (13, .new 67), (16, .dup), (17, .aload_n 0), (18, .iconst 0), (19, .invokestatic 59), (22, .invokespecial 69), (25, .astore_n 2), (26, .iconst 1), (27, .newarray .long), (29, .astore_n 3), (30, .iconst 1), (31, .istore 4), (33, .iload 4), (35, .aload_n 0), (36, .arraylength), (37, .iconst 4), (38, .isub), (39, .if_icmp .gt 821), (42, .aload_n 0), (43, .iload 4), (45, .iaload), (46, .bipush 15), (48, .iand), (49, .tableswitch 805 0 14 #[75, 135, 203, 216, 252, 276, 324, 360, 420, 488, 556, 612, 668, 681, 749]), (124, .aload_n 1), (125, .aload_n 0), (126, .iload 4), (128, .iconst 1), (129, .iadd), (130, .iaload), (131, .aload_n 0), (132, .iload 4), (134, .iconst 2), (135, .iadd), (136, .iaload), (137, .aload_n 0)]
def iv_q1 : List (Nat × Instr) := [(138, .iload 4), (140, .iconst 3), (141, .iadd), (142, .iaload), (143, .invokestatic 70), (146, .istore 5), (148, .aload_n 2), (149, .aload_n 0), (150, .iload 4), (152, .iconst 1), (153, .iadd), (154, .iaload), (155, .aload_n 0), (156, .iload 4), (158, .iconst 2), (159, .iadd), (160, .iaload), (161, .aload_n 0), (162, .iload 4), (164, .iconst 3), (165, .iadd), (166, .iaload), (167, .invokevirtual 73), (170, .aload_n 2), (171, .invokevirtual 74), (174, .iload 5), (176, .if_icmp .eq 5), (179, .iconst 0), (180, .ireturn), (181, .goto 673), (184, .aload_n 1), (185, .aload_n 0), (186, .iload 4), (188, .iconst 1), (189, .iadd), (190, .iaload), (191, .aload_n 0), (192, .iload 4), (194, .iconst 2), (195, .iadd), (196, .iaload), (197, .aload_n 3), (198, .invokestatic 78)]
def iv_q2 : List (Nat × Instr) := [(201, .istore 5), (203, .aload_n 2), (204, .aload_n 0), (205, .iload 4), (207, .iconst 1), (208, .iadd), (209, .iaload), (210, .aload_n 0), (211, .iload 4), (213, .iconst 2), (214, .iadd), (215, .iaload), (216, .invokevirtual 81), (219, .istore 6), (221, .aload_n 2), (222, .invokevirtual 74), (225, .iload 5), (227, .if_icmp .eq 5), (230, .iconst 0), (231, .ireturn), (232, .iload 5), (234, .ifCond .ne 15), (237, .aload_n 3), (238, .iconst 0), (239, .laload), (240, .iload 6), (242, .i2l), (243, .lcmp), (244, .ifCond .eq 5), (247, .iconst 0), (248, .ireturn), (249, .goto 605), (252, .aload_n 1), (253, .invokevirtual 82), (256, .aload_n 2), (257, .invokevirtual 85), (260, .if_icmp .eq 594), (263, .iconst 0), (264, .ireturn), (265, .aload_n 1), (266, .aload_n 0), (267, .iload 4), (269, .iconst 1)]
def iv_q3 : List (Nat × Instr) := [(270, .iadd), (271, .iaload), (272, .invokestatic 86), (275, .istore 5), (277, .aload_n 2), (278, .aload_n 0), (279, .iload 4), (281, .iconst 1), (282, .iadd), (283, .iaload), (284, .invokevirtual 89), (287, .aload_n 2), (288, .invokevirtual 74), (291, .iload 5), (293, .if_icmp .eq 5), (296, .iconst 0), (297, .ireturn), (298, .goto 556), (301, .aload_n 1), (302, .invokestatic 90), (305, .istore 5), (307, .aload_n 2), (308, .invokevirtual 93), (311, .aload_n 2), (312, .invokevirtual 74), (315, .iload 5), (317, .if_icmp .eq 5), (320, .iconst 0), (321, .ireturn), (322, .goto 532), (325, .aload_n 1), (326, .aload_n 0), (327, .iload 4), (329, .iconst 1), (330, .iadd), (331, .iaload), (332, .aload_n 0), (333, .iload 4), (335, .iconst 2), (336, .iadd), (337, .iaload), (338, .invokestatic 94), (341, .istore 5)]
def iv_q4 : List (Nat × Instr) := [(343, .aload_n 2), (344, .aload_n 0), (345, .iload 4), (347, .iconst 1), (348, .iadd), (349, .iaload), (350, .aload_n 0), (351, .iload 4), (353, .iconst 2), (354, .iadd), (355, .iaload), (356, .invokevirtual 97), (359, .aload_n 2), (360, .invokevirtual 74), (363, .iload 5), (365, .if_icmp .eq 5), (368, .iconst 0), (369, .ireturn), (370, .goto 484), (373, .aload_n 1), (374, .aload_n 0), (375, .iload 4), (377, .iconst 1), (378, .iadd), (379, .iaload), (380, .invokestatic 98), (383, .istore 5), (385, .aload_n 2), (386, .aload_n 0), (387, .iload 4), (389, .iconst 1), (390, .iadd), (391, .iaload), (392, .invokevirtual 100), (395, .aload_n 2), (396, .invokevirtual 74), (399, .iload 5), (401, .if_icmp .eq 5), (404, .iconst 0), (405, .ireturn), (406, .goto 448), (409, .aload_n 1), (410, .aload_n 0)]
def iv_q5 : List (Nat × Instr) := [(411, .iload 4), (413, .iconst 1), (414, .iadd), (415, .iaload), (416, .aload_n 0), (417, .iload 4), (419, .iconst 2), (420, .iadd), (421, .iaload), (422, .aload_n 0), (423, .iload 4), (425, .iconst 3), (426, .iadd), (427, .iaload), (428, .invokestatic 101), (431, .istore 5), (433, .aload_n 2), (434, .aload_n 0), (435, .iload 4), (437, .iconst 1), (438, .iadd), (439, .iaload), (440, .aload_n 0), (441, .iload 4), (443, .iconst 2), (444, .iadd), (445, .iaload), (446, .aload_n 0), (447, .iload 4), (449, .iconst 3), (450, .iadd), (451, .iaload), (452, .invokevirtual 103), (455, .aload_n 2), (456, .invokevirtual 74), (459, .iload 5), (461, .if_icmp .eq 5), (464, .iconst 0), (465, .ireturn), (466, .goto 388), (469, .aload_n 1), (470, .aload_n 0), (471, .iload 4)]
def iv_q6 : List (Nat × Instr) := [(473, .iconst 1), (474, .iadd), (475, .iaload), (476, .aload_n 0), (477, .iload 4), (479, .iconst 2), (480, .iadd), (481, .iaload), (482, .aload_n 3), (483, .invokestatic 104), (486, .istore 5), (488, .aload_n 2), (489, .aload_n 0), (490, .iload 4), (492, .iconst 1), (493, .iadd), (494, .iaload), (495, .aload_n 0), (496, .iload 4), (498, .iconst 2), (499, .iadd), (500, .iaload), (501, .invokevirtual 106), (504, .istore 6), (506, .aload_n 2), (507, .invokevirtual 74), (510, .iload 5), (512, .if_icmp .eq 5), (515, .iconst 0), (516, .ireturn), (517, .iload 5), (519, .ifCond .ne 15), (522, .aload_n 3), (523, .iconst 0), (524, .laload), (525, .iload 6), (527, .i2l), (528, .lcmp), (529, .ifCond .eq 5), (532, .iconst 0), (533, .ireturn), (534, .goto 320), (537, .aload_n 1)]
def iv_q7 : List (Nat × Instr) := [(538, .aload_n 0), (539, .iload 4), (541, .iconst 1), (542, .iadd), (543, .iaload), (544, .aload_n 0), (545, .iload 4), (547, .iconst 2), (548, .iadd), (549, .iaload), (550, .aload_n 3), (551, .invokestatic 107), (554, .istore 5), (556, .aload_n 2), (557, .aload_n 0), (558, .iload 4), (560, .iconst 1), (561, .iadd), (562, .iaload), (563, .aload_n 0), (564, .iload 4), (566, .iconst 2), (567, .iadd), (568, .iaload), (569, .invokevirtual 109), (572, .istore 6), (574, .aload_n 2), (575, .invokevirtual 74), (578, .iload 5), (580, .if_icmp .eq 5), (583, .iconst 0), (584, .ireturn), (585, .iload 5), (587, .ifCond .ne 15), (590, .aload_n 3), (591, .iconst 0), (592, .laload), (593, .iload 6), (595, .i2l), (596, .lcmp), (597, .ifCond .eq 5), (600, .iconst 0), (601, .ireturn)]
def iv_q8 : List (Nat × Instr) := [(602, .goto 252), (605, .aload_n 1), (606, .aload_n 0), (607, .iload 4), (609, .iconst 1), (610, .iadd), (611, .iaload), (612, .aload_n 3), (613, .invokestatic 110), (616, .istore 5), (618, .aload_n 2), (619, .aload_n 0), (620, .iload 4), (622, .iconst 1), (623, .iadd), (624, .iaload), (625, .invokevirtual 113), (628, .istore 6), (630, .aload_n 2), (631, .invokevirtual 74), (634, .iload 5), (636, .if_icmp .eq 5), (639, .iconst 0), (640, .ireturn), (641, .iload 5), (643, .ifCond .ne 15), (646, .aload_n 3), (647, .iconst 0), (648, .laload), (649, .iload 6), (651, .i2l), (652, .lcmp), (653, .ifCond .eq 5), (656, .iconst 0), (657, .ireturn), (658, .goto 196), (661, .aload_n 1), (662, .aload_n 0), (663, .iload 4), (665, .iconst 1), (666, .iadd), (667, .iaload), (668, .aload_n 3)]
def iv_q9 : List (Nat × Instr) := [(669, .invokestatic 114), (672, .istore 5), (674, .aload_n 2), (675, .aload_n 0), (676, .iload 4), (678, .iconst 1), (679, .iadd), (680, .iaload), (681, .invokevirtual 116), (684, .istore 6), (686, .aload_n 2), (687, .invokevirtual 74), (690, .iload 5), (692, .if_icmp .eq 5), (695, .iconst 0), (696, .ireturn), (697, .iload 5), (699, .ifCond .ne 15), (702, .aload_n 3), (703, .iconst 0), (704, .laload), (705, .iload 6), (707, .i2l), (708, .lcmp), (709, .ifCond .eq 5), (712, .iconst 0), (713, .ireturn), (714, .goto 140), (717, .aload_n 1), (718, .invokevirtual 117), (721, .aload_n 2), (722, .invokevirtual 121), (725, .if_icmp .eq 129), (728, .iconst 0), (729, .ireturn), (730, .aload_n 1), (731, .aload_n 0), (732, .iload 4), (734, .iconst 1), (735, .iadd), (736, .iaload), (737, .aload_n 0), (738, .iload 4)]
def iv_q10 : List (Nat × Instr) := [(740, .iconst 2), (741, .iadd), (742, .iaload), (743, .aload_n 3), (744, .invokestatic 122), (747, .istore 5), (749, .aload_n 2), (750, .aload_n 0), (751, .iload 4), (753, .iconst 1), (754, .iadd), (755, .iaload), (756, .aload_n 0), (757, .iload 4), (759, .iconst 2), (760, .iadd), (761, .iaload), (762, .invokevirtual 124), (765, .istore 6), (767, .aload_n 2), (768, .invokevirtual 74), (771, .iload 5), (773, .if_icmp .eq 5), (776, .iconst 0), (777, .ireturn), (778, .iload 5), (780, .ifCond .ne 15), (783, .aload_n 3), (784, .iconst 0), (785, .laload), (786, .iload 6), (788, .i2l), (789, .lcmp), (790, .ifCond .eq 5), (793, .iconst 0), (794, .ireturn), (795, .goto 59), (798, .aload_n 1), (799, .aload_n 0), (800, .iload 4), (802, .iconst 1), (803, .iadd), (804, .iaload)]
def iv_q11 : List (Nat × Instr) := [(805, .aload_n 3), (806, .invokestatic 125), (809, .istore 5), (811, .aload_n 2), (812, .aload_n 0), (813, .iload 4), (815, .iconst 1), (816, .iadd), (817, .iaload), (818, .invokevirtual 127), (821, .istore 6), (823, .aload_n 2), (824, .invokevirtual 74), (827, .iload 5), (829, .if_icmp .eq 5), (832, .iconst 0), (833, .ireturn), (834, .iload 5), (836, .ifCond .ne 15), (839, .aload_n 3), (840, .iconst 0), (841, .laload), (842, .iload 6), (844, .i2l), (845, .lcmp), (846, .ifCond .eq 5), (849, .iconst 0), (850, .ireturn), (851, .goto 3), (854, .iinc 4 4), (857, .goto (-824)), (860, .iconst 1), (861, .ireturn)]
def iv_k115 : List (Nat × Instr) := (((((((((((iv_q0 ++ iv_q1) ++ iv_q2) ++ iv_q3) ++ iv_q4) ++ iv_q5) ++ iv_q6) ++ iv_q7) ++ iv_q8) ++ iv_q9) ++ iv_q10) ++ iv_q11)
def iv_codes : List (List (Nat × Instr)) := [iv_k0, iv_k1, iv_k2, iv_k3, iv_k4, iv_k5, iv_k6, iv_k7, iv_k8, iv_k9, iv_k10, iv_k11, iv_k12, iv_k13, iv_k14, iv_k15, iv_k16, iv_k17, iv_k18, iv_k19, iv_k20, iv_k21, iv_k22, iv_k23, iv_k24, iv_k25, iv_k26, iv_k27, iv_k28, iv_k29, iv_k30, iv_k31, iv_k32, iv_k33, iv_k34, iv_k35, iv_k36, iv_k37, iv_k38, iv_k39, iv_k40, iv_k41, iv_k42, iv_k43, iv_k44, iv_k45, iv_k46, iv_k47, iv_k48, iv_k49, iv_k50, iv_k51, iv_k52, iv_k53, iv_k54, iv_k55, iv_k56, iv_k57, iv_k58, iv_k59, iv_k60, iv_k61, iv_k62, iv_k63, iv_k64, iv_k65, iv_k66, iv_k67, iv_k68, iv_k69, iv_k70, iv_k71, iv_k72, iv_k73, iv_k74, iv_k75, iv_k76, iv_k77, iv_k78, iv_k79, iv_k80, iv_k81, iv_k82, iv_k83, iv_k84, iv_k85, iv_k86, iv_k87, iv_k88, iv_k89, iv_k90, iv_k91, iv_k92, iv_k93, iv_k94, iv_k95, iv_k96, iv_k97, iv_k98, iv_k99, iv_k100, iv_k101, iv_k102, iv_k103, iv_k104, iv_k105, iv_k106, iv_k107, iv_k108, iv_k109, iv_k110, iv_k111, iv_k112, iv_k113, iv_k114, iv_k115]
def iv_code (i : Nat) : List (Nat × Instr) := iv_codes.getD i []
def iv_l2 {α : Type} (a b : Nat) : List (Nat × Nat × α) → Option α
  | [] => none
  | q :: t => bif Nat.beq q.1 a && Nat.beq q.2.1 b then some q.2.2 else iv_l2 a b t
def iv_fls : List (Nat × Nat × (Nat × Nat) × Nat × Bool) := [(1, 9, (1, 0), 52, false), (1, 13, (1, 1), 53, false), (5, 86, (1, 1), 54, true), (0, 45, (1, 1), 55, true), (1, 17, (1, 2), 56, false), (5, 83, (1, 2), 57, true), (2, 9, (2, 0), 79, false), (2, 15, (2, 1), 80, false), (4, 9, (4, 0), 92, false), (5, 100, (4, 0), 93, true), (4, 15, (4, 1), 94, false), (5, 183, (4, 1), 95, true), (4, 18, (4, 2), 96, false), (5, 103, (4, 2), 97, true), (4, 22, (4, 3), 98, false), (5, 155, (4, 3), 99, true), (4, 25, (4, 4), 100, false), (5, 158, (4, 4), 101, true), (0, 34, (0, 0), 124, false), (0, 9, (0, 1), 125, false), (0, 15, (0, 2), 126, false), (0, 18, (0, 3), 127, false), (0, 21, (0, 4), 128, false), (0, 24, (0, 5), 129, false), (0, 28, (0, 6), 130, false), (5, 135, (0, 6), 131, true), (0, 31, (0, 7), 132, false), (5, 138, (0, 7), 133, true), (3, 22, (3, 0), 156, false), (5, 167, (3, 0), 157, true), (3, 9, (3, 1), 158, false), (5, 141, (3, 1), 159, true), (3, 15, (3, 2), 160, false), (5, 129, (3, 2), 161, true), (3, 19, (3, 3), 162, false), (5, 126, (3, 3), 163, true), (5, 58, (5, 0), 173, false), (5, 10, (5, 1), 174, false), (5, 18, (5, 2), 175, false), (5, 24, (5, 3), 176, false), (5, 31, (5, 4), 177, false), (5, 38, (5, 5), 178, false), (5, 42, (5, 6), 179, false), (5, 46, (5, 7), 180, false), (6, 78, (6, 0), 550, false), (6, 81, (6, 1), 551, false), (6, 87, (6, 2), 552, false), (6, 7, (6, 3), 553, false), (6, 13, (6, 4), 554, false), (6, 16, (6, 5), 555, false), (6, 20, (6, 6), 556, false), (6, 23, (6, 7), 557, false), (6, 26, (6, 8), 558, false), (6, 29, (6, 9), 559, false), (6, 32, (6, 10), 560, false), (6, 35, (6, 11), 561, false), (6, 38, (6, 12), 562, false), (6, 41, (6, 13), 563, false), (6, 44, (6, 14), 564, false), (6, 47, (6, 15), 565, false), (6, 50, (6, 16), 566, false), (6, 53, (6, 17), 567, false), (6, 56, (6, 18), 568, false), (6, 59, (6, 19), 569, false), (6, 63, (6, 20), 570, false), (6, 129, (6, 21), 571, false), (6, 84, (6, 22), 572, false), (6, 66, (6, 23), 573, false), (6, 69, (6, 24), 574, false), (6, 72, (6, 25), 575, false), (6, 75, (6, 26), 576, false), (6, 120, (6, 27), 577, false), (6, 123, (6, 28), 578, false), (6, 126, (6, 29), 579, false)]
def iv_fl (a b : Nat) : Option (Nat × Nat) := (iv_l2 a b iv_fls).map (·.1)
def iv_sfs : List (Nat × Nat × Nat × Nat) := [(0, 81, 0, 243), (3, 39, 1, 290)]
def iv_sf (a b : Nat) : Option Nat := (iv_l2 a b iv_sfs).map (·.1)
def iv_mts : List (Nat × Nat × Nat × Nat × Bool) := [(10, 65, 0, 40, false), (5, 1, 1, 43, false), (5, 9, 2, 48, true), (1, 1, 1, 51, false), (5, 30, 3, 72, false), (2, 3, 1, 75, false), (2, 18, 4, 76, false), (5, 37, 5, 88, true), (4, 3, 1, 91, false), (5, 49, 6, 113, false), (5, 55, 7, 116, false), (5, 61, 8, 120, false), (0, 3, 1, 123, false), (5, 64, 9, 152, false), (3, 3, 1, 155, false), (10, 82, 10, 198, false), (5, 89, 11, 202, false), (0, 37, 12, 206, false), (0, 50, 13, 210, false), (0, 58, 14, 214, false), (0, 54, 15, 217, false), (1, 20, 16, 221, false), (1, 24, 17, 224, false), (0, 41, 18, 227, false), (0, 64, 19, 231, false), (0, 71, 20, 235, false), (0, 74, 7, 239, false), (0, 78, 21, 240, false), (0, 84, 22, 245, false), (0, 68, 23, 248, false), (5, 93, 24, 252, false), (5, 170, 25, 256, false), (5, 173, 26, 260, false), (2, 29, 27, 263, false), (2, 33, 28, 266, false), (2, 25, 29, 269, false), (2, 36, 30, 272, false), (5, 177, 27, 275, false), (5, 116, 15, 276, false), (5, 97, 31, 277, false), (3, 25, 32, 281, false), (3, 29, 15, 285, false), (3, 35, 33, 286, false), (5, 107, 34, 292, false), (5, 180, 35, 296, false), (5, 186, 36, 300, false), (5, 110, 37, 304, false), (5, 189, 28, 308, false), (5, 192, 38, 309, false), (10, 117, 39, 313, false), (10, 59, 40, 317, false), (10, 70, 41, 320, false), (10, 7, 42, 324, false), (5, 65, 43, 328, false), (5, 71, 44, 331, false), (5, 163, 46, 375, false), (5, 68, 49, 397, false), (5, 75, 50, 400, false), (10, 78, 51, 404, false), (10, 15, 52, 407, false), (5, 79, 20, 411, false), (10, 86, 53, 412, false), (10, 19, 54, 416, false), (5, 113, 55, 420, false), (5, 166, 56, 432, false), (10, 90, 57, 438, false), (10, 25, 58, 441, false), (10, 94, 59, 445, false), (10, 28, 60, 448, false), (5, 120, 61, 452, false), (10, 98, 62, 456, false), (10, 32, 63, 459, false), (5, 123, 64, 463, false), (10, 101, 65, 466, false), (10, 35, 66, 469, false), (5, 132, 67, 473, false), (10, 104, 68, 478, false), (10, 38, 69, 481, false), (10, 107, 70, 485, false), (10, 41, 71, 488, false), (10, 110, 72, 492, false), (10, 44, 73, 495, false), (10, 114, 74, 499, false), (10, 48, 75, 502, false), (10, 122, 76, 506, false), (10, 51, 77, 510, false), (5, 145, 78, 514, false), (5, 151, 79, 527, false), (5, 152, 80, 533, false), (10, 125, 81, 537, false), (10, 56, 82, 540, false), (10, 69, 83, 546, false), (6, 1, 1, 549, false), (10, 74, 84, 642, false), (10, 73, 85, 646, false), (6, 90, 86, 650, false), (10, 81, 87, 653, false), (6, 99, 88, 657, false), (6, 95, 89, 661, false), (10, 85, 90, 665, false), (6, 133, 91, 669, false), (6, 106, 92, 673, false), (6, 103, 93, 677, false), (6, 110, 94, 680, false), (6, 114, 95, 684, false), (6, 137, 96, 688, false), (6, 117, 97, 692, false), (6, 140, 98, 695, false), (6, 144, 99, 699, false), (6, 147, 100, 703, false), (6, 150, 101, 707, false), (6, 153, 102, 711, false), (10, 89, 103, 715, false), (10, 93, 104, 719, false), (10, 97, 105, 723, false), (10, 100, 106, 727, false), (10, 103, 107, 731, false), (10, 106, 108, 735, false), (10, 109, 109, 739, false), (10, 113, 110, 743, false), (10, 116, 111, 747, false), (10, 121, 112, 751, false), (10, 124, 113, 755, false), (10, 127, 114, 759, false)]
def iv_mt (a b : Nat) : Option Nat := (iv_l2 a b iv_mts).map (·.1)
def iv_cns : List (Nat × Nat × Int32 × Nat) := [(2, 24, 16777215, 477), (6, 94, 1500000, 664)]
def iv_cn (a b : Nat) : Option Int32 := (iv_l2 a b iv_cns).map (·.1)
def iv_nws : List (Nat × Nat × Nat × Nat) := [(10, 8, 5, 38), (5, 7, 1, 46), (5, 16, 0, 66), (5, 22, 3, 68), (5, 28, 2, 70), (5, 35, 4, 86), (10, 13, 7, 323), (5, 161, 7, 334), (10, 23, 8, 415), (5, 164, 8, 423), (10, 54, 9, 509), (5, 149, 9, 518), (10, 67, 6, 544)]
def iv_nw (a b : Nat) : Option Nat := (iv_l2 a b iv_nws).map (·.1)
def iv_an (a b : Nat) : Option Nat := iv_nw a b
def iv_ok (a ci t : Nat) : Bool := match iv_nw a t with
  | some c => Nat.beq c ci
  | none => false
def iv_nx (a b : Nat) : Option Nat := (iv_l2 a b ([(5, 163, 7), (5, 166, 8), (5, 151, 9)] : List (Nat × Nat × Nat)))
end
section
/-! The machine of the picture: a step, a run. The tables of the program stand ahead of this. -/
def iv_pad (mj : Nat) (as : List Value) : List Value := as ++ List.replicate (iv_nL mj - as.length) (.retAddr 0)
def iv_end (mi : Nat) (c s : Nat) (r : iv_R) : Option iv_R := bif Nat.ble c (iv_rm mi).cells && Nat.ble s (iv_rm mi).slots then some r else none
def iv_thr (K : iv_K) (mi pc : Nat) (ls : List Value) (A : iv_A) (c s x : Nat) : Option iv_R := match x with
  | x + 3 => match A[x]? with
    | some (.inr o) => bif iv_xc o.1 && Nat.blt o.1 10 then (bif (iv_hh mi).isEmpty then iv_end mi c s (.inr (x + 3), A) else (match iv_pick pc (iv_ok (iv_ow mi) o.1) (iv_hh mi) with
        | some h => K mi h ls [.ref (x + 3)] A c s
        | none => none)) else none
    | _ => none
  | _ => none
def iv_c1s (as : List Value) : Bool := as.all fun v => Nat.beq v.category 1
def iv_inv (K : iv_K) (mi pc : Nat) (ls rest : List Value) (A : iv_A) (c s mj : Nat) (as : List Value) : Option iv_R :=
  bif Nat.ble rest.length 4 && Nat.ble (c + (iv_rm mj).cells) (iv_rm mi).cells && Nat.ble (s + (iv_rm mj).slots) (iv_rm mi).slots && Nat.ble as.length (iv_nL mj) && iv_c1s as then
    (match K mj 0 (iv_pad mj as) [] A 0 0 with
    | some (.inl v, A') => K mi (pc + 3) ls (v.toList ++ rest) A' (c + (iv_rm mj).cells) (s + (iv_rm mj).slots)
    | some (.inr x, A') => iv_thr K mi pc ls A' (c + (iv_rm mj).cells) (s + (iv_rm mj).slots) x
    | none => none)
  else none
def iv_spl (np : Nat) (st : List Value) (k : List Value → List Value → Option iv_R) : Option iv_R := bif Nat.ble np st.length then k (st.take np).reverse (st.drop np) else none
def iv_this (A : iv_A) (ci : Nat) (as : List Value) (k : Option iv_R) : Option iv_R := match as with
  | .ref (i + 3) :: _ => match A[i]? with
    | some (.inr o) => bif Nat.beq o.1 ci then k else none
    | _ => none
  | _ => none
def iv_lsw (ps : Array (Int × Int)) (dflt : Int) (st : List Value) (k : Int → List Value → Option iv_R) : Option iv_R := match st with
  | .int x :: r => bif (ps.toList.zip (ps.toList.drop 1)).all (fun (a, next) => a.1 < next.1) then k (Op.lookupswitch.offset ps.toList dflt x.toInt) r else none
  | _ => none
def iv_m2 (f : Int32 → Int32 → Int32) (mi c s : Nat) (st : List Value) (k : List Value → Option iv_R) : Option iv_R := match st with
  | .int y :: .int x :: r => bif Nat.ble r.length 4 && Nat.ble c (iv_rm mi).cells && Nat.ble s (iv_rm mi).slots then k (.int (f x y) :: r) else none
  | _ => none
def iv_m1 (f : Int32 → Int32) (mi c s : Nat) (st : List Value) (k : List Value → Option iv_R) : Option iv_R := match st with
  | .int x :: r => bif Nat.ble r.length 4 && Nat.ble c (iv_rm mi).cells && Nat.ble s (iv_rm mi).slots then k (.int (f x) :: r) else none
  | _ => none
def iv_oi (st : List Value) (k : List Value → Option iv_R) : Option iv_R := match st with
  | .ref _ :: r => bif Nat.ble r.length 4 then k r else none
  | _ => none
/-- a new array of ints, booleans, longs -/
def iv_na (mi : Nat) (t : ArrayType) (A : iv_A) (c s : Nat) (st : List Value) (k : List Value → iv_A → Nat → Nat → Option iv_R) : Option iv_R := match st with
  | .int n :: r => bif !(decide (n < 0)) && Nat.ble (c + 1) (iv_rm mi).cells && Nat.ble (s + n.toNatClampNeg) (iv_rm mi).slots && Nat.ble n.toNatClampNeg 1000 then (match t with
    | .int => k (.ref (A.length + 3) :: r) (A ++ [.inl (0, n.toNatClampNeg, .inl (fun _ => 0))]) (c + 1) (s + n.toNatClampNeg)
    | .boolean => k (.ref (A.length + 3) :: r) (A ++ [.inl (1, n.toNatClampNeg, .inl (fun _ => 0))]) (c + 1) (s + n.toNatClampNeg)
    | .long => k (.ref (A.length + 3) :: r) (A ++ [.inl (2, n.toNatClampNeg, .inr (.inl (fun _ => 0)))]) (c + 1) (s + n.toNatClampNeg)
    | _ => none) else none
  | _ => none
def iv_nq (mi ci : Nat) (A : iv_A) (c s : Nat) (st : List Value) (k : List Value → iv_A → Nat → Nat → Option iv_R) : Option iv_R := match st with
  | .int n :: r => bif !(decide (n < 0)) && Nat.ble (c + 1) (iv_rm mi).cells && Nat.ble (s + n.toNatClampNeg) (iv_rm mi).slots && Nat.ble n.toNatClampNeg 1000 then
      k (.ref (A.length + 3) :: r) (A ++ [.inl (ci + 3, n.toNatClampNeg, .inr (.inr (.inr (.inr (fun _ => none)))))]) (c + 1) (s + n.toNatClampNeg) else none
  | _ => none
/-- 'throw new E()' -/
def iv_thn (mi pc ci : Nat) (A : iv_A) (c s : Nat) (st : List Value) : Option iv_R := match iv_lk (pc + 3) (iv_code mi), iv_lk (pc + 4) (iv_code mi), iv_lk (pc + 7) (iv_code mi) with
  | some .dup, some (.invokespecial j), some .athrow => match iv_nx (iv_ow mi) j with
    | some cj => bif Nat.beq ci cj && Nat.ble st.length 4 && (iv_hh mi).isEmpty then iv_end mi (c + 1) (s + 6) (.inr (A.length + 3), A ++ [.inr (ci, [])]) else none
    | none => none
  | _, _, _ => none
def iv_next (X : Nat → Option (Nat × (Nat → Int32))) (K : iv_K) (mi pc : Nat) (ls st : List Value) (A : iv_A) (c s : Nat) : Option iv_R :=
  match iv_lk pc (iv_code mi) with
  | none => none
  | some ins => match ins with
    | .iconst n => K mi (pc + 1) ls (.int (Int32.ofInt n) :: st) A c s
    | .bipush n => K mi (pc + 2) ls (.int (Int8.ofInt n).toInt32 :: st) A c s
    | .sipush n => K mi (pc + 3) ls (.int (Int16.ofInt n).toInt32 :: st) A c s
    | .ldc i => match iv_cn (iv_ow mi) i with
      | some x => K mi (pc + 2) ls (.int x :: st) A c s
      | none => none
    | .iload_n k => iv_ldi ls k.val fun v => K mi (pc + 1) ls (v :: st) A c s
    | .iload k => iv_ldi ls k fun v => K mi (pc + 2) ls (v :: st) A c s
    | .aload_n k => iv_lda ls k.val fun v => K mi (pc + 1) ls (v :: st) A c s
    | .aload k => iv_lda ls k fun v => K mi (pc + 2) ls (v :: st) A c s
    | .istore_n k => iv_sti ls k.val st fun ls r => K mi (pc + 1) ls r A c s
    | .istore k => iv_sti ls k st fun ls r => K mi (pc + 2) ls r A c s
    | .astore_n k => iv_sta ls k.val st fun ls r => K mi (pc + 1) ls r A c s
    | .astore k => iv_sta ls k st fun ls r => K mi (pc + 2) ls r A c s
    | .iinc i n => iv_inc ls i n fun ls => K mi (pc + 3) ls st A c s
    | .iadd => iv_bin (fun x y => x + y) st fun r => K mi (pc + 1) ls r A c s
    | .isub => iv_bin (fun x y => x - y) st fun r => K mi (pc + 1) ls r A c s
    | .imul => iv_bin (fun x y => x * y) st fun r => K mi (pc + 1) ls r A c s
    | .iand => iv_bin (fun x y => x &&& y) st fun r => K mi (pc + 1) ls r A c s
    | .ior => iv_bin (fun x y => x ||| y) st fun r => K mi (pc + 1) ls r A c s
    | .ixor => iv_bin (fun x y => x ^^^ y) st fun r => K mi (pc + 1) ls r A c s
    | .ishl => iv_bin (fun x y => x <<< (y &&& 31)) st fun r => K mi (pc + 1) ls r A c s
    | .ishr => iv_bin (fun x y => x >>> (y &&& 31)) st fun r => K mi (pc + 1) ls r A c s
    | .idiv => iv_dv (fun x y => x / y) st fun r => K mi (pc + 1) ls r A c s
    | .irem => iv_dv (fun x y => x - x / y * y) st fun r => K mi (pc + 1) ls r A c s
    | .goto off => iv_jp pc off fun t => K mi t ls st A c s
    | .ifCond q off => iv_jp pc off fun t => iv_if1 (Op.ifCond.holds q) st (fun r => K mi t ls r A c s) (fun r => K mi (pc + 3) ls r A c s)
    | .if_icmp q off => iv_jp pc off fun t => iv_if2 (Op.if_icmp.holds q) st (fun r => K mi t ls r A c s) (fun r => K mi (pc + 3) ls r A c s)
    | .dup => iv_dup st fun r => K mi (pc + 1) ls r A c s
    | .dup2 => iv_dup2 st fun r => K mi (pc + 1) ls r A c s
    | .i2l => iv_i2l st fun r => K mi (pc + 1) ls r A c s
    | .lcmp => iv_lcmp st fun r => K mi (pc + 1) ls r A c s
    | .tableswitch d lo hi offs => iv_tsw lo hi d offs st fun o r => iv_jp pc o fun t => K mi t ls r A c s
    | .lookupswitch d ps => iv_lsw ps d st fun o r => iv_jp pc o fun t => K mi t ls r A c s
    | .getfield i => match iv_fl (iv_ow mi) i with
      | some (ci, f) => iv_gf A ci f st fun r => K mi (pc + 3) ls r A c s
      | none => none
    | .putfield i => match iv_fl (iv_ow mi) i with
      | some (ci, f) => bif !(iv_fin ci f) || (iv_ini mi && Nat.beq (iv_ow mi) ci) then iv_pf A ci f (iv_ft ci f) st fun A r => K mi (pc + 3) ls r A c s else none
      | none => none
    | .getstatic i => match iv_sf (iv_ow mi) i with
      | some z => K mi (pc + 3) ls (.ref z :: st) A c s
      | none => none
    | .iaload => iv_ald X A 0 st fun r => K mi (pc + 1) ls r A c s
    | .baload => iv_ald X A 1 st fun r => K mi (pc + 1) ls r A c s
    | .iastore => iv_ast A 0 (fun x => x) st fun A r => K mi (pc + 1) ls r A c s
    | .bastore => iv_ast A 1 (vp_nar .boolean) st fun A r => K mi (pc + 1) ls r A c s
    | .laload => iv_lld A st fun r => K mi (pc + 1) ls r A c s
    | .lastore => iv_lst A st fun A r => K mi (pc + 1) ls r A c s
    | .aaload => iv_rld iv_kt A st fun r => K mi (pc + 1) ls r A c s
    | .aastore => iv_rst iv_kt A st fun A r => K mi (pc + 1) ls r A c s
    | .arraylength => iv_len X iv_kk A st fun r => K mi (pc + 1) ls r A c s
    | .newarray t => iv_na mi t A c s st fun r A c s => K mi (pc + 2) ls r A c s
    | .anewarray i => match iv_an (iv_ow mi) i with
      | some ci => bif (iv_kt (ci + 3)).isSome then iv_nq mi ci A c s st fun r A c s => K mi (pc + 3) ls r A c s else none
      | none => none
    | .new i => match iv_nw (iv_ow mi) i with
      | some ci => bif iv_xc ci then iv_thn mi pc ci A c s st
        else bif Nat.ble (c + 1) (iv_rm mi).cells && Nat.ble (s + iv_fn ci) (iv_rm mi).slots then K mi (pc + 3) ls (.ref (A.length + 3) :: st) (A ++ [.inr (ci, iv_df ci)]) (c + 1) (s + iv_fn ci) else none
      | none => none
    | .invokevirtual i => match iv_mt (iv_ow mi) i with
      | some mj => bif iv_kd mj == 0 then iv_spl (iv_np mj) st fun as rest => iv_this A (iv_ow mj) as (iv_inv K mi pc ls rest A c s mj as) else none
      | none => none
    | .invokestatic i => match iv_mt (iv_ow mi) i with
      | some mj => match iv_kd mj with
        | 1 => iv_spl (iv_np mj) st fun as rest => iv_inv K mi pc ls rest A c s mj as
        | 3 => iv_m2 (fun x y => if x < y then y else x) mi c s st fun r => K mi (pc + 3) ls r A c s
        | 4 => iv_m2 (fun x y => if y < x then y else x) mi c s st fun r => K mi (pc + 3) ls r A c s
        | 5 => iv_m1 (fun x => if 0 ≤ x then x else 0 - x) mi c s st fun r => K mi (pc + 3) ls r A c s
        | _ => none
      | none => none
    | .invokespecial i => match iv_mt (iv_ow mi) i with
      | some mj => match iv_kd mj with
        | 2 => iv_spl (iv_np mj) st fun as rest => iv_this A (iv_ow mj) as (iv_inv K mi pc ls rest A c s mj as)
        | 6 => iv_oi st fun r => K mi (pc + 3) ls r A c s
        | _ => none
      | none => none
    | .ireturn => match st with
      | [.int x] => (match iv_rt mi with
        | some ty => bif iv_fit ty (.int x) then iv_end mi c s (.inl (some (.int x)), A) else none
        | none => none)
      | _ => none
    | .return_ => match st with
      | [] => (match iv_rt mi with
        | none => iv_end mi c s (.inl none, A)
        | some _ => none)
      | _ => none
    | _ => none
def iv_run (X : Nat → Option (Nat × (Nat → Int32))) : Nat → iv_K
  | 0 => fun _ _ _ _ _ _ _ => none
  | n + 1 => iv_next X (iv_run X n)
end
section
/-! The tables hold: what the Statement's words say of the program, checked by evaluation. -/
def iv_isN (w : Cond) : Bool := match w with
  | .fieldLinkNest .. => true
  | .methodLinkNest .. => true
  | .declares _ => true
  | .castable .. => true
  | _ => false
def iv_Ws : List Cond := lw_tbl.filter goodWord
def iv_Ns : List Cond := lw_tbl.filter iv_isN
theorem iv_Ws_at {w : Cond} {i : Nat} (h : lw_tbl[i]? = some w) (hg : goodWord w = true) : w ∈ iv_Ws := List.mem_filter.mpr ⟨List.mem_of_getElem? h, hg⟩
theorem iv_Ns_at {w : Cond} {i : Nat} (h : lw_tbl[i]? = some w) (hg : iv_isN w = true) : w ∈ iv_Ns := List.mem_filter.mpr ⟨List.mem_of_getElem? h, hg⟩
theorem iv_Ws_good : GoodIn iv_Ws iv_Ws := fun w hw => ⟨hw, good_of_word (List.mem_filter.mp hw).2⟩
theorem iv_l2_mem {α : Type} {a b : Nat} {x : α} : ∀ {l : List (Nat × Nat × α)}, iv_l2 a b l = some x → (a, b, x) ∈ l
  | [], h => by cases h
  | q :: t, h => by
    obtain ⟨q1, q2, q3⟩ := q
    unfold iv_l2 at h
    cases hq : Nat.beq q1 a && Nat.beq q2 b with
    | true =>
      simp only [hq, cond_true, Option.some.injEq] at h
      simp only [Bool.and_eq_true] at hq
      obtain rfl := Nat.eq_of_beq_eq_true hq.1
      obtain rfl := Nat.eq_of_beq_eq_true hq.2
      subst h
      exact List.mem_cons_self ..
    | false =>
      simp only [hq, cond_false] at h
      exact List.mem_cons_of_mem _ (iv_l2_mem h)
theorem iv_lk_mem {pc : Nat} {ins : Instr} : ∀ {l : List (Nat × Instr)}, iv_lk pc l = some ins → (pc, ins) ∈ l
  | [], h => by cases h
  | q :: t, h => by
    obtain ⟨q1, q2⟩ := q
    unfold iv_lk at h
    cases hq : Nat.beq q1 pc with
    | true =>
      simp only [hq, cond_true, Option.some.injEq] at h
      obtain rfl := Nat.eq_of_beq_eq_true hq
      subst h
      exact List.mem_cons_self ..
    | false =>
      simp only [hq, cond_false] at h
      exact List.mem_cons_of_mem _ (iv_lk_mem h)
-- the code
def iv_sw (ins : Instr) : Bool := match ins with
  | .tableswitch .. => true
  | .lookupswitch .. => true
  | _ => false
def iv_sz (ins : Instr) : Nat := match ins with
  | .bipush _ => 2
  | .ldc _ => 2
  | .iload _ => 2
  | .aload _ => 2
  | .istore _ => 2
  | .astore _ => 2
  | .newarray _ => 2
  | .sipush _ => 3
  | .iinc _ _ => 3
  | .goto _ => 3
  | .ifCond _ _ => 3
  | .if_icmp _ _ => 3
  | .getfield _ => 3
  | .putfield _ => 3
  | .getstatic _ => 3
  | .invokevirtual _ => 3
  | .invokestatic _ => 3
  | .invokespecial _ => 3
  | .new _ => 3
  | .anewarray _ => 3
  | _ => 1
def iv_dc (b : ByteArray) (q : Nat × Instr) : Bool := match decode b q.1 with
  | .ok (ins, l) => decide (ins = q.2) && (iv_sw ins || Nat.beq l (iv_sz ins))
  | .error _ => false
end
section
/-! The decoding of the law, in pieces. -/
theorem iv_L0 : iv_q0.all (iv_dc code) = true := by decide +kernel
theorem iv_L1 : iv_q1.all (iv_dc code) = true := by decide +kernel
theorem iv_L2 : iv_q2.all (iv_dc code) = true := by decide +kernel
end
section
/-! The decoding of the law, in pieces. -/
theorem iv_L3 : iv_q3.all (iv_dc code) = true := by decide +kernel
theorem iv_L4 : iv_q4.all (iv_dc code) = true := by decide +kernel
theorem iv_L5 : iv_q5.all (iv_dc code) = true := by decide +kernel
end
section
/-! The decoding of the law, in pieces. -/
theorem iv_L6 : iv_q6.all (iv_dc code) = true := by decide +kernel
theorem iv_L7 : iv_q7.all (iv_dc code) = true := by decide +kernel
theorem iv_L8 : iv_q8.all (iv_dc code) = true := by decide +kernel
end
section
/-! The decoding of the law, in pieces. -/
theorem iv_L9 : iv_q9.all (iv_dc code) = true := by decide +kernel
theorem iv_L10 : iv_q10.all (iv_dc code) = true := by decide +kernel
theorem iv_L11 : iv_q11.all (iv_dc code) = true := by decide +kernel
end
section
def iv_F2 : List (List (Nat × Instr)) → List ByteArray → Prop
  | [], _ => True
  | _ :: _, [] => False
  | k :: ks, b :: bs => k.all (iv_dc b) = true ∧ iv_F2 ks bs
theorem iv_F2_at {d : ByteArray} : ∀ {ks : List (List (Nat × Instr))} {bs : List ByteArray}, iv_F2 ks bs → ∀ i : Nat, (ks.getD i []).all (iv_dc (bs.getD i d)) = true
  | [], _, _, i => by simp
  | _ :: _, [], h, _ => h.elim
  | k :: ks, b :: bs, h, 0 => h.1
  | k :: ks, b :: bs, h, i + 1 => iv_F2_at h.2 i
theorem iv_Dlaw : iv_k115.all (iv_dc code) = true := by
  unfold iv_k115
  simp only [List.all_append, Bool.and_eq_true]
  exact ⟨⟨⟨⟨⟨⟨⟨⟨⟨⟨⟨iv_L0, iv_L1⟩, iv_L2⟩, iv_L3⟩, iv_L4⟩, iv_L5⟩, iv_L6⟩, iv_L7⟩, iv_L8⟩, iv_L9⟩, iv_L10⟩, iv_L11⟩
theorem iv_D0 : iv_k0.all (iv_dc prog_1_method_1_code) = true := by decide +kernel
theorem iv_D1 : iv_k1.all (iv_dc object_method_1_code) = true := rfl
theorem iv_D2 : iv_k2.all (iv_dc prog_3_method_1_code) = true := by decide +kernel
theorem iv_D3 : iv_k3.all (iv_dc prog_4_method_1_code) = true := by decide +kernel
theorem iv_D4 : iv_k4.all (iv_dc prog_15_method_103_code) = true := by decide +kernel
theorem iv_D5 : iv_k5.all (iv_dc prog_6_method_1_code) = true := by decide +kernel
theorem iv_D6 : iv_k6.all (iv_dc prog_12_method_69_code) = true := rfl
theorem iv_D7 : iv_k7.all (iv_dc prog_12_method_65_code) = true := rfl
theorem iv_D8 : iv_k8.all (iv_dc prog_2_method_1_code) = true := by decide +kernel
theorem iv_D9 : iv_k9.all (iv_dc prog_5_method_1_code) = true := by decide +kernel
theorem iv_D10 : iv_k10.all (iv_dc prog_1_method_4_code) = true := by decide +kernel
theorem iv_D11 : iv_k11.all (iv_dc prog_2_method_3_code) = true := by decide +kernel
theorem iv_D12 : iv_k12.all (iv_dc prog_2_method_4_code) = true := by decide +kernel
theorem iv_D13 : iv_k13.all (iv_dc prog_2_method_5_code) = true := by decide +kernel
theorem iv_D14 : iv_k14.all (iv_dc prog_12_method_59_code) = true := rfl
theorem iv_D15 : iv_k15.all (iv_dc prog_3_method_2_code) = true := by decide +kernel
theorem iv_D16 : iv_k16.all (iv_dc prog_3_method_5_code) = true := by decide +kernel
theorem iv_D17 : iv_k17.all (iv_dc prog_12_method_50_code) = true := by decide +kernel
theorem iv_D18 : iv_k18.all (iv_dc prog_2_method_6_code) = true := by decide +kernel
theorem iv_D19 : iv_k19.all (iv_dc prog_2_method_7_code) = true := by decide +kernel
theorem iv_D20 : iv_k20.all (iv_dc prog_2_method_9_code) = true := by decide +kernel
theorem iv_D21 : iv_k21.all (iv_dc prog_2_method_10_code) = true := by decide +kernel
theorem iv_D22 : iv_k22.all (iv_dc prog_12_method_47_code) = true := by decide +kernel
theorem iv_D23 : iv_k23.all (iv_dc prog_2_method_8_code) = true := by decide +kernel
theorem iv_D24 : iv_k24.all (iv_dc prog_1_method_22_code) = true := by decide +kernel
theorem iv_D25 : iv_k25.all (iv_dc prog_4_method_4_code) = true := by decide +kernel
theorem iv_D26 : iv_k26.all (iv_dc prog_4_method_7_code) = true := by decide +kernel
theorem iv_D27 : iv_k27.all (iv_dc prog_4_method_6_code) = true := by decide +kernel
theorem iv_D28 : iv_k28.all (iv_dc prog_4_method_5_code) = true := by decide +kernel
theorem iv_D29 : iv_k29.all (iv_dc prog_4_method_8_code) = true := by decide +kernel
theorem iv_D30 : iv_k30.all (iv_dc prog_4_method_9_code) = true := by decide +kernel
theorem iv_D31 : iv_k31.all (iv_dc prog_5_method_2_code) = true := by decide +kernel
theorem iv_D32 : iv_k32.all (iv_dc prog_5_method_3_code) = true := by decide +kernel
theorem iv_D33 : iv_k33.all (iv_dc prog_5_method_4_code) = true := by decide +kernel
theorem iv_D34 : iv_k34.all (iv_dc prog_1_method_23_code) = true := by decide +kernel
theorem iv_D35 : iv_k35.all (iv_dc prog_6_method_3_code) = true := by decide +kernel
theorem iv_D36 : iv_k36.all (iv_dc prog_6_method_4_code) = true := by decide +kernel
theorem iv_D37 : iv_k37.all (iv_dc prog_1_method_24_code) = true := by decide +kernel
theorem iv_D38 : iv_k38.all (iv_dc prog_4_method_3_code) = true := by decide +kernel
theorem iv_D39 : iv_k39.all (iv_dc prog_1_method_14_code) = true := by decide +kernel
theorem iv_D40 : iv_k40.all (iv_dc method_2_code) = true := by decide +kernel
theorem iv_D41 : iv_k41.all (iv_dc method_3_code) = true := by decide +kernel
theorem iv_D42 : iv_k42.all (iv_dc prog_1_method_2_code) = true := by decide +kernel
theorem iv_D43 : iv_k43.all (iv_dc prog_1_method_17_code) = true := by decide +kernel
theorem iv_D44 : iv_k44.all (iv_dc prog_1_method_20_code) = true := by decide +kernel
theorem iv_D45 : iv_k45.all (iv_dc prog_14_method_1_code) = true := rfl
theorem iv_D46 : iv_k46.all (iv_dc prog_10_method_1_code) = true := rfl
theorem iv_D47 : iv_k47.all (iv_dc prog_13_method_1_code) = true := rfl
theorem iv_D48 : iv_k48.all (iv_dc prog_9_method_1_code) = true := rfl
theorem iv_D49 : iv_k49.all (iv_dc prog_1_method_19_code) = true := by decide +kernel
theorem iv_D50 : iv_k50.all (iv_dc prog_2_method_2_code) = true := by decide +kernel
theorem iv_D51 : iv_k51.all (iv_dc method_4_code) = true := by decide +kernel
theorem iv_D52 : iv_k52.all (iv_dc prog_1_method_3_code) = true := by decide +kernel
theorem iv_D53 : iv_k53.all (iv_dc method_5_code) = true := by decide +kernel
theorem iv_D54 : iv_k54.all (iv_dc prog_1_method_5_code) = true := by decide +kernel
theorem iv_D55 : iv_k55.all (iv_dc prog_1_method_21_code) = true := by decide +kernel
theorem iv_D56 : iv_k56.all (iv_dc prog_11_method_1_code) = true := rfl
theorem iv_D57 : iv_k57.all (iv_dc method_6_code) = true := by decide +kernel
theorem iv_D58 : iv_k58.all (iv_dc prog_1_method_6_code) = true := by decide +kernel
theorem iv_D59 : iv_k59.all (iv_dc method_7_code) = true := by decide +kernel
theorem iv_D60 : iv_k60.all (iv_dc prog_1_method_7_code) = true := by decide +kernel
theorem iv_D61 : iv_k61.all (iv_dc prog_6_method_2_code) = true := by decide +kernel
theorem iv_D62 : iv_k62.all (iv_dc method_8_code) = true := by decide +kernel
theorem iv_D63 : iv_k63.all (iv_dc prog_1_method_8_code) = true := by decide +kernel
theorem iv_D64 : iv_k64.all (iv_dc prog_1_method_18_code) = true := by decide +kernel
theorem iv_D65 : iv_k65.all (iv_dc method_9_code) = true := by decide +kernel
theorem iv_D66 : iv_k66.all (iv_dc prog_1_method_9_code) = true := by decide +kernel
theorem iv_D67 : iv_k67.all (iv_dc prog_4_method_2_code) = true := by decide +kernel
theorem iv_D68 : iv_k68.all (iv_dc method_10_code) = true := by decide +kernel
theorem iv_D69 : iv_k69.all (iv_dc prog_1_method_10_code) = true := by decide +kernel
theorem iv_D70 : iv_k70.all (iv_dc method_11_code) = true := by decide +kernel
theorem iv_D71 : iv_k71.all (iv_dc prog_1_method_11_code) = true := by decide +kernel
theorem iv_D72 : iv_k72.all (iv_dc method_12_code) = true := by decide +kernel
theorem iv_D73 : iv_k73.all (iv_dc prog_1_method_12_code) = true := by decide +kernel
theorem iv_D74 : iv_k74.all (iv_dc method_13_code) = true := by decide +kernel
theorem iv_D75 : iv_k75.all (iv_dc prog_1_method_13_code) = true := by decide +kernel
theorem iv_D76 : iv_k76.all (iv_dc method_14_code) = true := by decide +kernel
theorem iv_D77 : iv_k77.all (iv_dc prog_1_method_15_code) = true := by decide +kernel
theorem iv_D78 : iv_k78.all (iv_dc prog_3_method_3_code) = true := by decide +kernel
theorem iv_D79 : iv_k79.all (iv_dc prog_16_method_1_code) = true := rfl
theorem iv_D80 : iv_k80.all (iv_dc prog_3_method_4_code) = true := by decide +kernel
theorem iv_D81 : iv_k81.all (iv_dc method_15_code) = true := by decide +kernel
theorem iv_D82 : iv_k82.all (iv_dc prog_1_method_16_code) = true := by decide +kernel
theorem iv_D83 : iv_k83.all (iv_dc prog_8_method_1_code) = true := by decide +kernel
theorem iv_D84 : iv_k84.all (iv_dc prog_8_method_2_code) = true := by decide +kernel
theorem iv_D85 : iv_k85.all (iv_dc prog_8_method_5_code) = true := by decide +kernel
theorem iv_D86 : iv_k86.all (iv_dc prog_8_method_3_code) = true := by decide +kernel
theorem iv_D87 : iv_k87.all (iv_dc prog_8_method_8_code) = true := by decide +kernel
theorem iv_D88 : iv_k88.all (iv_dc prog_8_method_7_code) = true := by decide +kernel
theorem iv_D89 : iv_k89.all (iv_dc prog_8_method_6_code) = true := by decide +kernel
theorem iv_D90 : iv_k90.all (iv_dc prog_8_method_20_code) = true := by decide +kernel
theorem iv_D91 : iv_k91.all (iv_dc prog_8_method_12_code) = true := by decide +kernel
theorem iv_D92 : iv_k92.all (iv_dc prog_8_method_11_code) = true := by decide +kernel
theorem iv_D93 : iv_k93.all (iv_dc prog_8_method_9_code) = true := by decide +kernel
theorem iv_D94 : iv_k94.all (iv_dc prog_8_method_4_code) = true := by decide +kernel
theorem iv_D95 : iv_k95.all (iv_dc prog_8_method_10_code) = true := by decide +kernel
theorem iv_D96 : iv_k96.all (iv_dc prog_8_method_16_code) = true := by decide +kernel
theorem iv_D97 : iv_k97.all (iv_dc prog_8_method_15_code) = true := by decide +kernel
theorem iv_D98 : iv_k98.all (iv_dc prog_8_method_17_code) = true := by decide +kernel
theorem iv_D99 : iv_k99.all (iv_dc prog_8_method_18_code) = true := by decide +kernel
theorem iv_D100 : iv_k100.all (iv_dc prog_8_method_13_code) = true := by decide +kernel
theorem iv_D101 : iv_k101.all (iv_dc prog_8_method_14_code) = true := by decide +kernel
theorem iv_D102 : iv_k102.all (iv_dc prog_8_method_19_code) = true := by decide +kernel
theorem iv_D103 : iv_k103.all (iv_dc prog_8_method_21_code) = true := by decide +kernel
theorem iv_D104 : iv_k104.all (iv_dc prog_8_method_22_code) = true := by decide +kernel
theorem iv_D105 : iv_k105.all (iv_dc prog_8_method_23_code) = true := by decide +kernel
theorem iv_D106 : iv_k106.all (iv_dc prog_8_method_24_code) = true := by decide +kernel
theorem iv_D107 : iv_k107.all (iv_dc prog_8_method_25_code) = true := by decide +kernel
theorem iv_D108 : iv_k108.all (iv_dc prog_8_method_26_code) = true := by decide +kernel
theorem iv_D109 : iv_k109.all (iv_dc prog_8_method_27_code) = true := by decide +kernel
theorem iv_D110 : iv_k110.all (iv_dc prog_8_method_28_code) = true := by decide +kernel
theorem iv_D111 : iv_k111.all (iv_dc prog_8_method_29_code) = true := by decide +kernel
theorem iv_D112 : iv_k112.all (iv_dc prog_8_method_30_code) = true := by decide +kernel
theorem iv_D113 : iv_k113.all (iv_dc prog_8_method_31_code) = true := by decide +kernel
theorem iv_D114 : iv_k114.all (iv_dc prog_8_method_32_code) = true := by decide +kernel
theorem iv_D115 : iv_k115.all (iv_dc code) = true := iv_Dlaw
set_option maxRecDepth 20000 in
theorem iv_DD : iv_F2 iv_codes iv_bs := ⟨iv_D0, ⟨iv_D1, ⟨iv_D2, ⟨iv_D3, ⟨iv_D4, ⟨iv_D5, ⟨iv_D6, ⟨iv_D7, ⟨iv_D8, ⟨iv_D9, ⟨iv_D10, ⟨iv_D11, ⟨iv_D12, ⟨iv_D13, ⟨iv_D14, ⟨iv_D15, ⟨iv_D16, ⟨iv_D17, ⟨iv_D18, ⟨iv_D19, ⟨iv_D20, ⟨iv_D21, ⟨iv_D22, ⟨iv_D23, ⟨iv_D24, ⟨iv_D25, ⟨iv_D26, ⟨iv_D27, ⟨iv_D28, ⟨iv_D29, ⟨iv_D30, ⟨iv_D31, ⟨iv_D32, ⟨iv_D33, ⟨iv_D34, ⟨iv_D35, ⟨iv_D36, ⟨iv_D37, ⟨iv_D38, ⟨iv_D39, ⟨iv_D40, ⟨iv_D41, ⟨iv_D42, ⟨iv_D43, ⟨iv_D44, ⟨iv_D45, ⟨iv_D46, ⟨iv_D47, ⟨iv_D48, ⟨iv_D49, ⟨iv_D50, ⟨iv_D51, ⟨iv_D52, ⟨iv_D53, ⟨iv_D54, ⟨iv_D55, ⟨iv_D56, ⟨iv_D57, ⟨iv_D58, ⟨iv_D59, ⟨iv_D60, ⟨iv_D61, ⟨iv_D62, ⟨iv_D63, ⟨iv_D64, ⟨iv_D65, ⟨iv_D66, ⟨iv_D67, ⟨iv_D68, ⟨iv_D69, ⟨iv_D70, ⟨iv_D71, ⟨iv_D72, ⟨iv_D73, ⟨iv_D74, ⟨iv_D75, ⟨iv_D76, ⟨iv_D77, ⟨iv_D78, ⟨iv_D79, ⟨iv_D80, ⟨iv_D81, ⟨iv_D82, ⟨iv_D83, ⟨iv_D84, ⟨iv_D85, ⟨iv_D86, ⟨iv_D87, ⟨iv_D88, ⟨iv_D89, ⟨iv_D90, ⟨iv_D91, ⟨iv_D92, ⟨iv_D93, ⟨iv_D94, ⟨iv_D95, ⟨iv_D96, ⟨iv_D97, ⟨iv_D98, ⟨iv_D99, ⟨iv_D100, ⟨iv_D101, ⟨iv_D102, ⟨iv_D103, ⟨iv_D104, ⟨iv_D105, ⟨iv_D106, ⟨iv_D107, ⟨iv_D108, ⟨iv_D109, ⟨iv_D110, ⟨iv_D111, ⟨iv_D112, ⟨iv_D113, ⟨iv_D114, ⟨iv_D115, trivial⟩⟩⟩⟩⟩⟩⟩⟩⟩⟩⟩⟩⟩⟩⟩⟩⟩⟩⟩⟩⟩⟩⟩⟩⟩⟩⟩⟩⟩⟩⟩⟩⟩⟩⟩⟩⟩⟩⟩⟩⟩⟩⟩⟩⟩⟩⟩⟩⟩⟩⟩⟩⟩⟩⟩⟩⟩⟩⟩⟩⟩⟩⟩⟩⟩⟩⟩⟩⟩⟩⟩⟩⟩⟩⟩⟩⟩⟩⟩⟩⟩⟩⟩⟩⟩⟩⟩⟩⟩⟩⟩⟩⟩⟩⟩⟩⟩⟩⟩⟩⟩⟩⟩⟩⟩⟩⟩⟩⟩⟩⟩⟩⟩⟩⟩⟩
theorem iv_dec {mi pc : Nat} {ins : Instr} (h : iv_lk pc (iv_code mi) = some ins) : ∃ l, decode (iv_b mi) pc = .ok (ins, l) ∧ (iv_sw ins = false → l = iv_sz ins) := by
  have h1 : (iv_code mi).all (iv_dc (iv_b mi)) = true := iv_F2_at iv_DD mi
  have h2 := List.all_eq_true.mp h1 _ (iv_lk_mem h)
  unfold iv_dc at h2
  split at h2
  · rename_i i l hd
    simp only [Bool.and_eq_true, decide_eq_true_eq, Bool.or_eq_true] at h2
    obtain ⟨h3, h4⟩ := h2
    simp only at h3 hd
    subst h3
    refine ⟨l, hd, fun h5 => ?_⟩
    rcases h4 with h6 | h6
    · rw [h5] at h6; cases h6
    · exact Nat.eq_of_beq_eq_true h6
  · cases h2
-- the fields
def iv_flc (q : Nat × Nat × (Nat × Nat) × Nat × Bool) : Bool := match iv_cl[q.2.2.1.1]? with
  | some z => Nat.blt q.2.2.1.2 z.2.2 && decide ((z.2.1 q.2.2.1.2).1 = z.1) && (bif q.2.2.2.2 then decide (lw_tbl[q.2.2.2.1]? = some (.fieldLinkNest (iv_on q.1) q.2.1 (z.2.1 q.2.2.1.2).1 (z.2.1 q.2.2.1.2).2.1 (z.2.1 q.2.2.1.2).2.2.1 "TripGuard")) && !(Nat.beq q.1 q.2.2.1.1)
      else decide (lw_tbl[q.2.2.2.1]? = some (.fieldLink (iv_on q.1) q.2.1 (z.2.1 q.2.2.1.2).1 (z.2.1 q.2.2.1.2).2.1 (z.2.1 q.2.2.1.2).2.2.1)))
  | none => false
set_option maxRecDepth 20000 in
theorem iv_fls_ok : iv_fls.all iv_flc = true := by decide +kernel
theorem iv_u0 : u_ws "TripGuard$Channel" iv_T0 8 = ([134, 136, 138, 140, 142, 144, 146, 148] : List Nat).filterMap (fun i => lw_tbl[i]?) := by decide +kernel
theorem iv_g0 : (u_ws "TripGuard$Channel" iv_T0 8).all goodWord = true := by decide +kernel
theorem iv_n0 : ∀ a, a < 8 → ∀ b, b < 8 → a ≠ b → (iv_T0 a).2.1 ≠ (iv_T0 b).2.1 := by decide +kernel
theorem iv_p0 : ∀ k, k < 8 → parseFieldDescriptor (iv_T0 k).2.2.1 = some (iv_t0 k) := by decide +kernel
theorem iv_z0 : ∀ j, j < 8 → defaultValue (iv_t0 j) = vp_V iv_d0 j := by decide +kernel
theorem iv_u1 : u_ws "TripGuard$Journal" iv_T1 3 = ([58, 60, 62] : List Nat).filterMap (fun i => lw_tbl[i]?) := by decide +kernel
theorem iv_g1 : (u_ws "TripGuard$Journal" iv_T1 3).all goodWord = true := by decide +kernel
theorem iv_n1 : ∀ a, a < 3 → ∀ b, b < 3 → a ≠ b → (iv_T1 a).2.1 ≠ (iv_T1 b).2.1 := by decide +kernel
theorem iv_p1 : ∀ k, k < 3 → parseFieldDescriptor (iv_T1 k).2.2.1 = some (iv_t1 k) := by decide +kernel
theorem iv_z1 : ∀ j, j < 3 → defaultValue (iv_t1 j) = vp_V iv_d1 j := by decide +kernel
theorem iv_u2 : u_ws "TripGuard$Links" iv_T2 2 = ([81, 83] : List Nat).filterMap (fun i => lw_tbl[i]?) := by decide +kernel
theorem iv_g2 : (u_ws "TripGuard$Links" iv_T2 2).all goodWord = true := by decide +kernel
theorem iv_n2 : ∀ a, a < 2 → ∀ b, b < 2 → a ≠ b → (iv_T2 a).2.1 ≠ (iv_T2 b).2.1 := by decide +kernel
theorem iv_p2 : ∀ k, k < 2 → parseFieldDescriptor (iv_T2 k).2.2.1 = some (iv_t2 k) := by decide +kernel
theorem iv_z2 : ∀ j, j < 2 → defaultValue (iv_t2 j) = vp_V iv_d2 j := by decide +kernel
theorem iv_u3 : u_ws "TripGuard$Train" iv_T3 4 = ([164, 166, 168, 170] : List Nat).filterMap (fun i => lw_tbl[i]?) := by decide +kernel
theorem iv_g3 : (u_ws "TripGuard$Train" iv_T3 4).all goodWord = true := by decide +kernel
theorem iv_n3 : ∀ a, a < 4 → ∀ b, b < 4 → a ≠ b → (iv_T3 a).2.1 ≠ (iv_T3 b).2.1 := by decide +kernel
theorem iv_p3 : ∀ k, k < 4 → parseFieldDescriptor (iv_T3 k).2.2.1 = some (iv_t3 k) := by decide +kernel
theorem iv_z3 : ∀ j, j < 4 → defaultValue (iv_t3 j) = vp_V iv_d3 j := by decide +kernel
theorem iv_u4 : u_ws "TripGuard$Trial" iv_T4 5 = ([102, 104, 106, 108, 110] : List Nat).filterMap (fun i => lw_tbl[i]?) := by decide +kernel
theorem iv_g4 : (u_ws "TripGuard$Trial" iv_T4 5).all goodWord = true := by decide +kernel
theorem iv_n4 : ∀ a, a < 5 → ∀ b, b < 5 → a ≠ b → (iv_T4 a).2.1 ≠ (iv_T4 b).2.1 := by decide +kernel
theorem iv_p4 : ∀ k, k < 5 → parseFieldDescriptor (iv_T4 k).2.2.1 = some (iv_t4 k) := by decide +kernel
theorem iv_z4 : ∀ j, j < 5 → defaultValue (iv_t4 j) = vp_V iv_d4 j := by decide +kernel
theorem iv_u5 : u_ws "TripGuard" iv_T5 8 = ([181, 183, 185, 187, 189, 191, 193, 195] : List Nat).filterMap (fun i => lw_tbl[i]?) := by decide +kernel
theorem iv_g5 : (u_ws "TripGuard" iv_T5 8).all goodWord = true := by decide +kernel
theorem iv_n5 : ∀ a, a < 8 → ∀ b, b < 8 → a ≠ b → (iv_T5 a).2.1 ≠ (iv_T5 b).2.1 := by decide +kernel
theorem iv_p5 : ∀ k, k < 8 → parseFieldDescriptor (iv_T5 k).2.2.1 = some (iv_t5 k) := by decide +kernel
theorem iv_z5 : ∀ j, j < 8 → defaultValue (iv_t5 j) = vp_V iv_d5 j := by decide +kernel
theorem iv_u6 : u_ws "TripGuardModel" iv_T6 30 = ([580, 582, 584, 586, 588, 590, 592, 594, 596, 598, 600, 602, 604, 606, 608, 610, 612, 614, 616, 618, 620, 622, 624, 626, 628, 630, 632, 634, 636, 638] : List Nat).filterMap (fun i => lw_tbl[i]?) := by decide +kernel
theorem iv_g6 : (u_ws "TripGuardModel" iv_T6 30).all goodWord = true := by decide +kernel
theorem iv_n6 : ∀ a, a < 30 → ∀ b, b < 30 → a ≠ b → (iv_T6 a).2.1 ≠ (iv_T6 b).2.1 := by decide +kernel
theorem iv_p6 : ∀ k, k < 30 → parseFieldDescriptor (iv_T6 k).2.2.1 = some (iv_t6 k) := by decide +kernel
theorem iv_z6 : ∀ j, j < 30 → defaultValue (iv_t6 j) = vp_V iv_d6 j := by decide +kernel
theorem iv_uw {ws : List Cond} {ps : List Nat} (hp : ws = ps.filterMap (fun i => lw_tbl[i]?)) (hg : ws.all goodWord = true) : ∀ w ∈ ws, w ∈ iv_Ws := by
  intro w hw
  have h1 := List.all_eq_true.mp hg w hw
  rw [hp] at hw
  obtain ⟨i, -, hi⟩ := List.mem_filterMap.mp hw
  exact iv_Ws_at hi h1
/-- what is known of a class of objects -/
def iv_clP (ci : Nat) (C : String) (T : u_T) (N : Nat) : Prop := (∀ w ∈ u_ws C T N, w ∈ iv_Ws) ∧ (∀ a, a < N → ∀ b, b < N → a ≠ b → (T a).2.1 ≠ (T b).2.1) ∧ (∀ k, k < N → parseFieldDescriptor (T k).2.2.1 = some (iv_ft ci k)) ∧ (∀ k, k < N → (T k).2.2.2 = iv_fin ci k) ∧ (ci < 7 → (∀ j, j < N → defaultValue (iv_ft ci j) = vp_V (iv_df ci) j) ∧ N = iv_fn ci) ∧ C = iv_on ci
theorem iv_cl0 : iv_clP 0 "TripGuard$Channel" iv_T0 8 := ⟨iv_uw iv_u0 iv_g0, iv_n0, iv_p0, fun _ _ => rfl, fun _ => ⟨iv_z0, rfl⟩, rfl⟩
theorem iv_cl1 : iv_clP 1 "TripGuard$Journal" iv_T1 3 := ⟨iv_uw iv_u1 iv_g1, iv_n1, iv_p1, fun _ _ => rfl, fun _ => ⟨iv_z1, rfl⟩, rfl⟩
theorem iv_cl2 : iv_clP 2 "TripGuard$Links" iv_T2 2 := ⟨iv_uw iv_u2 iv_g2, iv_n2, iv_p2, fun _ _ => rfl, fun _ => ⟨iv_z2, rfl⟩, rfl⟩
theorem iv_cl3 : iv_clP 3 "TripGuard$Train" iv_T3 4 := ⟨iv_uw iv_u3 iv_g3, iv_n3, iv_p3, fun _ _ => rfl, fun _ => ⟨iv_z3, rfl⟩, rfl⟩
theorem iv_cl4 : iv_clP 4 "TripGuard$Trial" iv_T4 5 := ⟨iv_uw iv_u4 iv_g4, iv_n4, iv_p4, fun _ _ => rfl, fun _ => ⟨iv_z4, rfl⟩, rfl⟩
theorem iv_cl5 : iv_clP 5 "TripGuard" iv_T5 8 := ⟨iv_uw iv_u5 iv_g5, iv_n5, iv_p5, fun _ _ => rfl, fun _ => ⟨iv_z5, rfl⟩, rfl⟩
theorem iv_cl6 : iv_clP 6 "TripGuardModel" iv_T6 30 := ⟨iv_uw iv_u6 iv_g6, iv_n6, iv_p6, fun _ _ => rfl, fun _ => ⟨iv_z6, rfl⟩, rfl⟩
theorem iv_cl7 : iv_clP 7 "java/lang/IllegalArgumentException" iv_Te 0 := ⟨fun w hw => (by simp [u_ws] at hw), fun a ha => absurd ha (Nat.not_lt_zero _), fun a ha => absurd ha (Nat.not_lt_zero _), fun a ha => absurd ha (Nat.not_lt_zero _), fun h => absurd h (by decide : ¬ (7 < 7)), rfl⟩
theorem iv_cl8 : iv_clP 8 "java/lang/IllegalStateException" iv_Te 0 := ⟨fun w hw => (by simp [u_ws] at hw), fun a ha => absurd ha (Nat.not_lt_zero _), fun a ha => absurd ha (Nat.not_lt_zero _), fun a ha => absurd ha (Nat.not_lt_zero _), fun h => absurd h (by decide : ¬ (8 < 7)), rfl⟩
theorem iv_cl9 : iv_clP 9 "java/util/NoSuchElementException" iv_Te 0 := ⟨fun w hw => (by simp [u_ws] at hw), fun a ha => absurd ha (Nat.not_lt_zero _), fun a ha => absurd ha (Nat.not_lt_zero _), fun a ha => absurd ha (Nat.not_lt_zero _), fun h => absurd h (by decide : ¬ (9 < 7)), rfl⟩
theorem iv_cl_ok {ci : Nat} {C : String} {T : u_T} {N : Nat} (h : iv_cl[ci]? = some (C, T, N)) : iv_clP ci C T N := by
  have hlt : ci < 10 := (List.getElem?_eq_some_iff.mp h).1
  match ci, hlt, h with
  | 0, _, h => cases h; exact iv_cl0
  | 1, _, h => cases h; exact iv_cl1
  | 2, _, h => cases h; exact iv_cl2
  | 3, _, h => cases h; exact iv_cl3
  | 4, _, h => cases h; exact iv_cl4
  | 5, _, h => cases h; exact iv_cl5
  | 6, _, h => cases h; exact iv_cl6
  | 7, _, h => cases h; exact iv_cl7
  | 8, _, h => cases h; exact iv_cl8
  | 9, _, h => cases h; exact iv_cl9
  | n + 10, hlt, _ => omega
end
section
/-! The tables hold: links, methods, rooms, new objects. -/
def iv_mp0 : List (Nat × Nat × Nat × Nat × Nat) := [(0, 42, 23, 41, 0), (2, 50, 24, 49, 0), (3, 74, 25, 73, 0), (4, 78, 26, 77, 0), (5, 90, 27, 89, 0), (8, 122, 29, 121, 0), (9, 154, 30, 153, 0), (10, 201, 23, 199, 200), (11, 205, 29, 203, 204), (12, 209, 29, 208, 0), (13, 213, 29, 212, 1), (15, 220, 24, 218, 219), (16, 223, 24, 222, 0), (17, 226, 28, 225, 0), (18, 230, 29, 229, 2), (19, 234, 29, 233, 3), (20, 238, 29, 236, 237), (21, 242, 29, 241, 0), (22, 247, 28, 246, 0), (23, 251, 29, 250, 4), (24, 255, 23, 254, 5), (25, 259, 25, 257, 258), (26, 262, 25, 261, 0), (27, 265, 25, 264, 0), (28, 268, 25, 267, 0), (29, 271, 25, 270, 0)]
def iv_mp1 : List (Nat × Nat × Nat × Nat × Nat) := [(30, 274, 25, 273, 0), (31, 280, 30, 278, 279), (32, 284, 30, 283, 6), (33, 289, 30, 288, 7), (34, 295, 23, 294, 8), (35, 299, 27, 297, 298), (36, 303, 27, 301, 302), (37, 307, 23, 306, 9), (38, 312, 25, 310, 311), (39, 316, 23, 314, 315), (40, 319, 22, 318, 0), (41, 322, 22, 321, 0), (42, 327, 23, 325, 326), (43, 330, 23, 329, 0), (44, 333, 23, 332, 0), (49, 399, 23, 398, 0), (50, 403, 29, 401, 402), (51, 406, 22, 405, 0), (52, 410, 23, 408, 409), (53, 414, 22, 413, 0), (54, 419, 23, 417, 418), (55, 422, 23, 421, 0), (57, 440, 22, 439, 0), (58, 444, 23, 442, 443), (59, 447, 22, 446, 0), (60, 451, 23, 449, 450)]
def iv_mp2 : List (Nat × Nat × Nat × Nat × Nat) := [(61, 455, 27, 453, 454), (62, 458, 22, 457, 0), (63, 462, 23, 460, 461), (64, 465, 23, 464, 0), (65, 468, 22, 467, 0), (66, 472, 23, 470, 471), (67, 476, 25, 474, 475), (68, 480, 22, 479, 0), (69, 484, 23, 482, 483), (70, 487, 22, 486, 0), (71, 491, 23, 489, 490), (72, 494, 22, 493, 0), (73, 498, 23, 496, 497), (74, 501, 22, 500, 0), (75, 505, 23, 503, 504), (76, 508, 22, 507, 0), (77, 513, 23, 511, 512), (78, 517, 24, 515, 516), (80, 536, 24, 534, 535), (81, 539, 22, 538, 0), (82, 543, 23, 541, 542), (83, 548, 31, 547, 0), (84, 645, 31, 643, 644), (85, 649, 31, 647, 648), (86, 652, 31, 651, 0), (87, 656, 31, 654, 655)]
def iv_mp3 : List (Nat × Nat × Nat × Nat × Nat) := [(88, 660, 31, 659, 11), (89, 663, 31, 662, 0), (90, 668, 31, 666, 667), (91, 672, 31, 671, 12), (92, 676, 31, 675, 13), (93, 679, 31, 678, 0), (94, 683, 31, 682, 14), (95, 687, 31, 686, 15), (96, 691, 31, 690, 16), (97, 694, 31, 693, 0), (98, 698, 31, 697, 17), (99, 702, 31, 701, 18), (100, 706, 31, 705, 19), (101, 710, 31, 709, 20), (102, 714, 31, 713, 21), (103, 718, 31, 716, 717), (104, 722, 31, 720, 721), (105, 726, 31, 724, 725), (106, 730, 31, 728, 729), (107, 734, 31, 732, 733), (108, 738, 31, 736, 737), (109, 742, 31, 740, 741), (110, 746, 31, 744, 745), (111, 750, 31, 748, 749), (112, 754, 31, 752, 753), (113, 758, 31, 756, 757)]
def iv_mp4 : List (Nat × Nat × Nat × Nat × Nat) := [(114, 762, 31, 760, 761)]
def iv_mps : List (Nat × Nat × Nat × Nat × Nat) := ((((iv_mp0 ++ iv_mp1) ++ iv_mp2) ++ iv_mp3) ++ iv_mp4)
def iv_cwP (j : Nat) : Prop := (iv_hh j = [] ∧ Cond.code (iv_y j) (iv_b j) (iv_nL j) (iv_rt j) ∈ iv_Ws) ∨ Cond.codeWith (iv_y j) (iv_b j) (iv_nL j) (iv_rt j) (iv_hh j) ∈ iv_Ws
set_option maxRecDepth 100000 in
theorem iv_w0 : iv_cwP 0 := Or.inl ⟨rfl, iv_Ws_at (i := 42) rfl rfl⟩
set_option maxRecDepth 100000 in
theorem iv_w2 : iv_cwP 2 := Or.inl ⟨rfl, iv_Ws_at (i := 50) rfl rfl⟩
set_option maxRecDepth 100000 in
theorem iv_w3 : iv_cwP 3 := Or.inl ⟨rfl, iv_Ws_at (i := 74) rfl rfl⟩
set_option maxRecDepth 100000 in
theorem iv_w4 : iv_cwP 4 := Or.inl ⟨rfl, iv_Ws_at (i := 78) rfl rfl⟩
set_option maxRecDepth 100000 in
theorem iv_w5 : iv_cwP 5 := Or.inl ⟨rfl, iv_Ws_at (i := 90) rfl rfl⟩
set_option maxRecDepth 100000 in
theorem iv_w8 : iv_cwP 8 := Or.inl ⟨rfl, iv_Ws_at (i := 122) rfl rfl⟩
set_option maxRecDepth 100000 in
theorem iv_w9 : iv_cwP 9 := Or.inl ⟨rfl, iv_Ws_at (i := 154) rfl rfl⟩
set_option maxRecDepth 100000 in
theorem iv_w10 : iv_cwP 10 := Or.inl ⟨rfl, iv_Ws_at (i := 201) rfl rfl⟩
set_option maxRecDepth 100000 in
theorem iv_w11 : iv_cwP 11 := Or.inl ⟨rfl, iv_Ws_at (i := 205) rfl rfl⟩
set_option maxRecDepth 100000 in
theorem iv_w12 : iv_cwP 12 := Or.inl ⟨rfl, iv_Ws_at (i := 209) rfl rfl⟩
set_option maxRecDepth 100000 in
theorem iv_w13 : iv_cwP 13 := Or.inl ⟨rfl, iv_Ws_at (i := 213) rfl rfl⟩
set_option maxRecDepth 100000 in
theorem iv_w15 : iv_cwP 15 := Or.inl ⟨rfl, iv_Ws_at (i := 220) rfl rfl⟩
set_option maxRecDepth 100000 in
theorem iv_w16 : iv_cwP 16 := Or.inl ⟨rfl, iv_Ws_at (i := 223) rfl rfl⟩
set_option maxRecDepth 100000 in
theorem iv_w17 : iv_cwP 17 := Or.inl ⟨rfl, iv_Ws_at (i := 226) rfl rfl⟩
set_option maxRecDepth 100000 in
theorem iv_w18 : iv_cwP 18 := Or.inl ⟨rfl, iv_Ws_at (i := 230) rfl rfl⟩
set_option maxRecDepth 100000 in
theorem iv_w19 : iv_cwP 19 := Or.inl ⟨rfl, iv_Ws_at (i := 234) rfl rfl⟩
set_option maxRecDepth 100000 in
theorem iv_w20 : iv_cwP 20 := Or.inl ⟨rfl, iv_Ws_at (i := 238) rfl rfl⟩
set_option maxRecDepth 100000 in
theorem iv_w21 : iv_cwP 21 := Or.inl ⟨rfl, iv_Ws_at (i := 242) rfl rfl⟩
set_option maxRecDepth 100000 in
theorem iv_w22 : iv_cwP 22 := Or.inl ⟨rfl, iv_Ws_at (i := 247) rfl rfl⟩
set_option maxRecDepth 100000 in
theorem iv_w23 : iv_cwP 23 := Or.inl ⟨rfl, iv_Ws_at (i := 251) rfl rfl⟩
set_option maxRecDepth 100000 in
theorem iv_w24 : iv_cwP 24 := Or.inl ⟨rfl, iv_Ws_at (i := 255) rfl rfl⟩
set_option maxRecDepth 100000 in
theorem iv_w25 : iv_cwP 25 := Or.inl ⟨rfl, iv_Ws_at (i := 259) rfl rfl⟩
set_option maxRecDepth 100000 in
theorem iv_w26 : iv_cwP 26 := Or.inl ⟨rfl, iv_Ws_at (i := 262) rfl rfl⟩
set_option maxRecDepth 100000 in
theorem iv_w27 : iv_cwP 27 := Or.inl ⟨rfl, iv_Ws_at (i := 265) rfl rfl⟩
set_option maxRecDepth 100000 in
theorem iv_w28 : iv_cwP 28 := Or.inl ⟨rfl, iv_Ws_at (i := 268) rfl rfl⟩
set_option maxRecDepth 100000 in
theorem iv_w29 : iv_cwP 29 := Or.inl ⟨rfl, iv_Ws_at (i := 271) rfl rfl⟩
set_option maxRecDepth 100000 in
theorem iv_w30 : iv_cwP 30 := Or.inl ⟨rfl, iv_Ws_at (i := 274) rfl rfl⟩
set_option maxRecDepth 100000 in
theorem iv_w31 : iv_cwP 31 := Or.inl ⟨rfl, iv_Ws_at (i := 280) rfl rfl⟩
set_option maxRecDepth 100000 in
theorem iv_w32 : iv_cwP 32 := Or.inl ⟨rfl, iv_Ws_at (i := 284) rfl rfl⟩
set_option maxRecDepth 100000 in
theorem iv_w33 : iv_cwP 33 := Or.inl ⟨rfl, iv_Ws_at (i := 289) rfl rfl⟩
set_option maxRecDepth 100000 in
theorem iv_w34 : iv_cwP 34 := Or.inl ⟨rfl, iv_Ws_at (i := 295) rfl rfl⟩
set_option maxRecDepth 100000 in
theorem iv_w35 : iv_cwP 35 := Or.inl ⟨rfl, iv_Ws_at (i := 299) rfl rfl⟩
set_option maxRecDepth 100000 in
theorem iv_w36 : iv_cwP 36 := Or.inl ⟨rfl, iv_Ws_at (i := 303) rfl rfl⟩
set_option maxRecDepth 100000 in
theorem iv_w37 : iv_cwP 37 := Or.inl ⟨rfl, iv_Ws_at (i := 307) rfl rfl⟩
set_option maxRecDepth 100000 in
theorem iv_w38 : iv_cwP 38 := Or.inl ⟨rfl, iv_Ws_at (i := 312) rfl rfl⟩
set_option maxRecDepth 100000 in
theorem iv_w39 : iv_cwP 39 := Or.inl ⟨rfl, iv_Ws_at (i := 316) rfl rfl⟩
set_option maxRecDepth 100000 in
theorem iv_w40 : iv_cwP 40 := Or.inl ⟨rfl, iv_Ws_at (i := 319) rfl rfl⟩
set_option maxRecDepth 100000 in
theorem iv_w41 : iv_cwP 41 := Or.inr (iv_Ws_at (i := 322) rfl rfl)
set_option maxRecDepth 100000 in
theorem iv_w42 : iv_cwP 42 := Or.inl ⟨rfl, iv_Ws_at (i := 327) rfl rfl⟩
set_option maxRecDepth 100000 in
theorem iv_w43 : iv_cwP 43 := Or.inl ⟨rfl, iv_Ws_at (i := 330) rfl rfl⟩
set_option maxRecDepth 100000 in
theorem iv_w44 : iv_cwP 44 := Or.inl ⟨rfl, iv_Ws_at (i := 333) rfl rfl⟩
set_option maxRecDepth 100000 in
theorem iv_w49 : iv_cwP 49 := Or.inl ⟨rfl, iv_Ws_at (i := 399) rfl rfl⟩
set_option maxRecDepth 100000 in
theorem iv_w50 : iv_cwP 50 := Or.inl ⟨rfl, iv_Ws_at (i := 403) rfl rfl⟩
set_option maxRecDepth 100000 in
theorem iv_w51 : iv_cwP 51 := Or.inr (iv_Ws_at (i := 406) rfl rfl)
set_option maxRecDepth 100000 in
theorem iv_w52 : iv_cwP 52 := Or.inl ⟨rfl, iv_Ws_at (i := 410) rfl rfl⟩
set_option maxRecDepth 100000 in
theorem iv_w53 : iv_cwP 53 := Or.inr (iv_Ws_at (i := 414) rfl rfl)
set_option maxRecDepth 100000 in
theorem iv_w54 : iv_cwP 54 := Or.inl ⟨rfl, iv_Ws_at (i := 419) rfl rfl⟩
set_option maxRecDepth 100000 in
theorem iv_w55 : iv_cwP 55 := Or.inl ⟨rfl, iv_Ws_at (i := 422) rfl rfl⟩
set_option maxRecDepth 100000 in
theorem iv_w57 : iv_cwP 57 := Or.inr (iv_Ws_at (i := 440) rfl rfl)
set_option maxRecDepth 100000 in
theorem iv_w58 : iv_cwP 58 := Or.inl ⟨rfl, iv_Ws_at (i := 444) rfl rfl⟩
set_option maxRecDepth 100000 in
theorem iv_w59 : iv_cwP 59 := Or.inr (iv_Ws_at (i := 447) rfl rfl)
set_option maxRecDepth 100000 in
theorem iv_w60 : iv_cwP 60 := Or.inl ⟨rfl, iv_Ws_at (i := 451) rfl rfl⟩
set_option maxRecDepth 100000 in
theorem iv_w61 : iv_cwP 61 := Or.inl ⟨rfl, iv_Ws_at (i := 455) rfl rfl⟩
set_option maxRecDepth 100000 in
theorem iv_w62 : iv_cwP 62 := Or.inr (iv_Ws_at (i := 458) rfl rfl)
set_option maxRecDepth 100000 in
theorem iv_w63 : iv_cwP 63 := Or.inl ⟨rfl, iv_Ws_at (i := 462) rfl rfl⟩
set_option maxRecDepth 100000 in
theorem iv_w64 : iv_cwP 64 := Or.inl ⟨rfl, iv_Ws_at (i := 465) rfl rfl⟩
set_option maxRecDepth 100000 in
theorem iv_w65 : iv_cwP 65 := Or.inr (iv_Ws_at (i := 468) rfl rfl)
set_option maxRecDepth 100000 in
theorem iv_w66 : iv_cwP 66 := Or.inl ⟨rfl, iv_Ws_at (i := 472) rfl rfl⟩
set_option maxRecDepth 100000 in
theorem iv_w67 : iv_cwP 67 := Or.inl ⟨rfl, iv_Ws_at (i := 476) rfl rfl⟩
set_option maxRecDepth 100000 in
theorem iv_w68 : iv_cwP 68 := Or.inr (iv_Ws_at (i := 480) rfl rfl)
set_option maxRecDepth 100000 in
theorem iv_w69 : iv_cwP 69 := Or.inl ⟨rfl, iv_Ws_at (i := 484) rfl rfl⟩
set_option maxRecDepth 100000 in
theorem iv_w70 : iv_cwP 70 := Or.inr (iv_Ws_at (i := 487) rfl rfl)
set_option maxRecDepth 100000 in
theorem iv_w71 : iv_cwP 71 := Or.inl ⟨rfl, iv_Ws_at (i := 491) rfl rfl⟩
set_option maxRecDepth 100000 in
theorem iv_w72 : iv_cwP 72 := Or.inr (iv_Ws_at (i := 494) rfl rfl)
set_option maxRecDepth 100000 in
theorem iv_w73 : iv_cwP 73 := Or.inl ⟨rfl, iv_Ws_at (i := 498) rfl rfl⟩
set_option maxRecDepth 100000 in
theorem iv_w74 : iv_cwP 74 := Or.inr (iv_Ws_at (i := 501) rfl rfl)
set_option maxRecDepth 100000 in
theorem iv_w75 : iv_cwP 75 := Or.inl ⟨rfl, iv_Ws_at (i := 505) rfl rfl⟩
set_option maxRecDepth 100000 in
theorem iv_w76 : iv_cwP 76 := Or.inr (iv_Ws_at (i := 508) rfl rfl)
set_option maxRecDepth 100000 in
theorem iv_w77 : iv_cwP 77 := Or.inl ⟨rfl, iv_Ws_at (i := 513) rfl rfl⟩
set_option maxRecDepth 100000 in
theorem iv_w78 : iv_cwP 78 := Or.inl ⟨rfl, iv_Ws_at (i := 517) rfl rfl⟩
set_option maxRecDepth 100000 in
theorem iv_w80 : iv_cwP 80 := Or.inl ⟨rfl, iv_Ws_at (i := 536) rfl rfl⟩
set_option maxRecDepth 100000 in
theorem iv_w81 : iv_cwP 81 := Or.inr (iv_Ws_at (i := 539) rfl rfl)
set_option maxRecDepth 100000 in
theorem iv_w82 : iv_cwP 82 := Or.inl ⟨rfl, iv_Ws_at (i := 543) rfl rfl⟩
set_option maxRecDepth 100000 in
theorem iv_w83 : iv_cwP 83 := Or.inl ⟨rfl, iv_Ws_at (i := 548) rfl rfl⟩
set_option maxRecDepth 100000 in
theorem iv_w84 : iv_cwP 84 := Or.inl ⟨rfl, iv_Ws_at (i := 645) rfl rfl⟩
set_option maxRecDepth 100000 in
theorem iv_w85 : iv_cwP 85 := Or.inl ⟨rfl, iv_Ws_at (i := 649) rfl rfl⟩
set_option maxRecDepth 100000 in
theorem iv_w86 : iv_cwP 86 := Or.inl ⟨rfl, iv_Ws_at (i := 652) rfl rfl⟩
set_option maxRecDepth 100000 in
theorem iv_w87 : iv_cwP 87 := Or.inl ⟨rfl, iv_Ws_at (i := 656) rfl rfl⟩
set_option maxRecDepth 100000 in
theorem iv_w88 : iv_cwP 88 := Or.inl ⟨rfl, iv_Ws_at (i := 660) rfl rfl⟩
set_option maxRecDepth 100000 in
theorem iv_w89 : iv_cwP 89 := Or.inl ⟨rfl, iv_Ws_at (i := 663) rfl rfl⟩
set_option maxRecDepth 100000 in
theorem iv_w90 : iv_cwP 90 := Or.inl ⟨rfl, iv_Ws_at (i := 668) rfl rfl⟩
set_option maxRecDepth 100000 in
theorem iv_w91 : iv_cwP 91 := Or.inl ⟨rfl, iv_Ws_at (i := 672) rfl rfl⟩
set_option maxRecDepth 100000 in
theorem iv_w92 : iv_cwP 92 := Or.inl ⟨rfl, iv_Ws_at (i := 676) rfl rfl⟩
set_option maxRecDepth 100000 in
theorem iv_w93 : iv_cwP 93 := Or.inl ⟨rfl, iv_Ws_at (i := 679) rfl rfl⟩
set_option maxRecDepth 100000 in
theorem iv_w94 : iv_cwP 94 := Or.inl ⟨rfl, iv_Ws_at (i := 683) rfl rfl⟩
set_option maxRecDepth 100000 in
theorem iv_w95 : iv_cwP 95 := Or.inl ⟨rfl, iv_Ws_at (i := 687) rfl rfl⟩
set_option maxRecDepth 100000 in
theorem iv_w96 : iv_cwP 96 := Or.inl ⟨rfl, iv_Ws_at (i := 691) rfl rfl⟩
set_option maxRecDepth 100000 in
theorem iv_w97 : iv_cwP 97 := Or.inl ⟨rfl, iv_Ws_at (i := 694) rfl rfl⟩
set_option maxRecDepth 100000 in
theorem iv_w98 : iv_cwP 98 := Or.inl ⟨rfl, iv_Ws_at (i := 698) rfl rfl⟩
set_option maxRecDepth 100000 in
theorem iv_w99 : iv_cwP 99 := Or.inl ⟨rfl, iv_Ws_at (i := 702) rfl rfl⟩
set_option maxRecDepth 100000 in
theorem iv_w100 : iv_cwP 100 := Or.inl ⟨rfl, iv_Ws_at (i := 706) rfl rfl⟩
set_option maxRecDepth 100000 in
theorem iv_w101 : iv_cwP 101 := Or.inl ⟨rfl, iv_Ws_at (i := 710) rfl rfl⟩
set_option maxRecDepth 100000 in
theorem iv_w102 : iv_cwP 102 := Or.inl ⟨rfl, iv_Ws_at (i := 714) rfl rfl⟩
set_option maxRecDepth 100000 in
theorem iv_w103 : iv_cwP 103 := Or.inl ⟨rfl, iv_Ws_at (i := 718) rfl rfl⟩
set_option maxRecDepth 100000 in
theorem iv_w104 : iv_cwP 104 := Or.inl ⟨rfl, iv_Ws_at (i := 722) rfl rfl⟩
set_option maxRecDepth 100000 in
theorem iv_w105 : iv_cwP 105 := Or.inl ⟨rfl, iv_Ws_at (i := 726) rfl rfl⟩
set_option maxRecDepth 100000 in
theorem iv_w106 : iv_cwP 106 := Or.inl ⟨rfl, iv_Ws_at (i := 730) rfl rfl⟩
set_option maxRecDepth 100000 in
theorem iv_w107 : iv_cwP 107 := Or.inl ⟨rfl, iv_Ws_at (i := 734) rfl rfl⟩
set_option maxRecDepth 100000 in
theorem iv_w108 : iv_cwP 108 := Or.inl ⟨rfl, iv_Ws_at (i := 738) rfl rfl⟩
set_option maxRecDepth 100000 in
theorem iv_w109 : iv_cwP 109 := Or.inl ⟨rfl, iv_Ws_at (i := 742) rfl rfl⟩
set_option maxRecDepth 100000 in
theorem iv_w110 : iv_cwP 110 := Or.inl ⟨rfl, iv_Ws_at (i := 746) rfl rfl⟩
set_option maxRecDepth 100000 in
theorem iv_w111 : iv_cwP 111 := Or.inl ⟨rfl, iv_Ws_at (i := 750) rfl rfl⟩
set_option maxRecDepth 100000 in
theorem iv_w112 : iv_cwP 112 := Or.inl ⟨rfl, iv_Ws_at (i := 754) rfl rfl⟩
set_option maxRecDepth 100000 in
theorem iv_w113 : iv_cwP 113 := Or.inl ⟨rfl, iv_Ws_at (i := 758) rfl rfl⟩
set_option maxRecDepth 100000 in
theorem iv_w114 : iv_cwP 114 := Or.inl ⟨rfl, iv_Ws_at (i := 762) rfl rfl⟩
theorem iv_v0 : ∀ q ∈ iv_mp0, iv_cwP q.1 := List.forall_mem_cons.mpr ⟨iv_w0, List.forall_mem_cons.mpr ⟨iv_w2, List.forall_mem_cons.mpr ⟨iv_w3, List.forall_mem_cons.mpr ⟨iv_w4, List.forall_mem_cons.mpr ⟨iv_w5, List.forall_mem_cons.mpr ⟨iv_w8, List.forall_mem_cons.mpr ⟨iv_w9, List.forall_mem_cons.mpr ⟨iv_w10, List.forall_mem_cons.mpr ⟨iv_w11, List.forall_mem_cons.mpr ⟨iv_w12, List.forall_mem_cons.mpr ⟨iv_w13, List.forall_mem_cons.mpr ⟨iv_w15, List.forall_mem_cons.mpr ⟨iv_w16, List.forall_mem_cons.mpr ⟨iv_w17, List.forall_mem_cons.mpr ⟨iv_w18, List.forall_mem_cons.mpr ⟨iv_w19, List.forall_mem_cons.mpr ⟨iv_w20, List.forall_mem_cons.mpr ⟨iv_w21, List.forall_mem_cons.mpr ⟨iv_w22, List.forall_mem_cons.mpr ⟨iv_w23, List.forall_mem_cons.mpr ⟨iv_w24, List.forall_mem_cons.mpr ⟨iv_w25, List.forall_mem_cons.mpr ⟨iv_w26, List.forall_mem_cons.mpr ⟨iv_w27, List.forall_mem_cons.mpr ⟨iv_w28, List.forall_mem_cons.mpr ⟨iv_w29, fun _ h => absurd h List.not_mem_nil⟩⟩⟩⟩⟩⟩⟩⟩⟩⟩⟩⟩⟩⟩⟩⟩⟩⟩⟩⟩⟩⟩⟩⟩⟩⟩
theorem iv_v1 : ∀ q ∈ iv_mp1, iv_cwP q.1 := List.forall_mem_cons.mpr ⟨iv_w30, List.forall_mem_cons.mpr ⟨iv_w31, List.forall_mem_cons.mpr ⟨iv_w32, List.forall_mem_cons.mpr ⟨iv_w33, List.forall_mem_cons.mpr ⟨iv_w34, List.forall_mem_cons.mpr ⟨iv_w35, List.forall_mem_cons.mpr ⟨iv_w36, List.forall_mem_cons.mpr ⟨iv_w37, List.forall_mem_cons.mpr ⟨iv_w38, List.forall_mem_cons.mpr ⟨iv_w39, List.forall_mem_cons.mpr ⟨iv_w40, List.forall_mem_cons.mpr ⟨iv_w41, List.forall_mem_cons.mpr ⟨iv_w42, List.forall_mem_cons.mpr ⟨iv_w43, List.forall_mem_cons.mpr ⟨iv_w44, List.forall_mem_cons.mpr ⟨iv_w49, List.forall_mem_cons.mpr ⟨iv_w50, List.forall_mem_cons.mpr ⟨iv_w51, List.forall_mem_cons.mpr ⟨iv_w52, List.forall_mem_cons.mpr ⟨iv_w53, List.forall_mem_cons.mpr ⟨iv_w54, List.forall_mem_cons.mpr ⟨iv_w55, List.forall_mem_cons.mpr ⟨iv_w57, List.forall_mem_cons.mpr ⟨iv_w58, List.forall_mem_cons.mpr ⟨iv_w59, List.forall_mem_cons.mpr ⟨iv_w60, fun _ h => absurd h List.not_mem_nil⟩⟩⟩⟩⟩⟩⟩⟩⟩⟩⟩⟩⟩⟩⟩⟩⟩⟩⟩⟩⟩⟩⟩⟩⟩⟩
theorem iv_v2 : ∀ q ∈ iv_mp2, iv_cwP q.1 := List.forall_mem_cons.mpr ⟨iv_w61, List.forall_mem_cons.mpr ⟨iv_w62, List.forall_mem_cons.mpr ⟨iv_w63, List.forall_mem_cons.mpr ⟨iv_w64, List.forall_mem_cons.mpr ⟨iv_w65, List.forall_mem_cons.mpr ⟨iv_w66, List.forall_mem_cons.mpr ⟨iv_w67, List.forall_mem_cons.mpr ⟨iv_w68, List.forall_mem_cons.mpr ⟨iv_w69, List.forall_mem_cons.mpr ⟨iv_w70, List.forall_mem_cons.mpr ⟨iv_w71, List.forall_mem_cons.mpr ⟨iv_w72, List.forall_mem_cons.mpr ⟨iv_w73, List.forall_mem_cons.mpr ⟨iv_w74, List.forall_mem_cons.mpr ⟨iv_w75, List.forall_mem_cons.mpr ⟨iv_w76, List.forall_mem_cons.mpr ⟨iv_w77, List.forall_mem_cons.mpr ⟨iv_w78, List.forall_mem_cons.mpr ⟨iv_w80, List.forall_mem_cons.mpr ⟨iv_w81, List.forall_mem_cons.mpr ⟨iv_w82, List.forall_mem_cons.mpr ⟨iv_w83, List.forall_mem_cons.mpr ⟨iv_w84, List.forall_mem_cons.mpr ⟨iv_w85, List.forall_mem_cons.mpr ⟨iv_w86, List.forall_mem_cons.mpr ⟨iv_w87, fun _ h => absurd h List.not_mem_nil⟩⟩⟩⟩⟩⟩⟩⟩⟩⟩⟩⟩⟩⟩⟩⟩⟩⟩⟩⟩⟩⟩⟩⟩⟩⟩
theorem iv_v3 : ∀ q ∈ iv_mp3, iv_cwP q.1 := List.forall_mem_cons.mpr ⟨iv_w88, List.forall_mem_cons.mpr ⟨iv_w89, List.forall_mem_cons.mpr ⟨iv_w90, List.forall_mem_cons.mpr ⟨iv_w91, List.forall_mem_cons.mpr ⟨iv_w92, List.forall_mem_cons.mpr ⟨iv_w93, List.forall_mem_cons.mpr ⟨iv_w94, List.forall_mem_cons.mpr ⟨iv_w95, List.forall_mem_cons.mpr ⟨iv_w96, List.forall_mem_cons.mpr ⟨iv_w97, List.forall_mem_cons.mpr ⟨iv_w98, List.forall_mem_cons.mpr ⟨iv_w99, List.forall_mem_cons.mpr ⟨iv_w100, List.forall_mem_cons.mpr ⟨iv_w101, List.forall_mem_cons.mpr ⟨iv_w102, List.forall_mem_cons.mpr ⟨iv_w103, List.forall_mem_cons.mpr ⟨iv_w104, List.forall_mem_cons.mpr ⟨iv_w105, List.forall_mem_cons.mpr ⟨iv_w106, List.forall_mem_cons.mpr ⟨iv_w107, List.forall_mem_cons.mpr ⟨iv_w108, List.forall_mem_cons.mpr ⟨iv_w109, List.forall_mem_cons.mpr ⟨iv_w110, List.forall_mem_cons.mpr ⟨iv_w111, List.forall_mem_cons.mpr ⟨iv_w112, List.forall_mem_cons.mpr ⟨iv_w113, fun _ h => absurd h List.not_mem_nil⟩⟩⟩⟩⟩⟩⟩⟩⟩⟩⟩⟩⟩⟩⟩⟩⟩⟩⟩⟩⟩⟩⟩⟩⟩⟩
theorem iv_v4 : ∀ q ∈ iv_mp4, iv_cwP q.1 := List.forall_mem_cons.mpr ⟨iv_w114, fun _ h => absurd h List.not_mem_nil⟩
theorem iv_cw_ok : ∀ q ∈ iv_mps, iv_cwP q.1 := by
  unfold iv_mps
  exact List.forall_mem_append.mpr ⟨List.forall_mem_append.mpr ⟨List.forall_mem_append.mpr ⟨List.forall_mem_append.mpr ⟨iv_v0, iv_v1⟩, iv_v2⟩, iv_v3⟩, iv_v4⟩
end
section
/-! The tables hold: links, methods, rooms, new objects (second part). -/
def iv_mck (q : Nat × Nat × Nat × Nat × Nat) : Bool :=
  (decide (lw_tbl[q.2.2.1]? = some (.initialized (iv_y q.1).cls)) && (plainFor (iv_y q.1) && (decide ((iv_y q.1).cls = iv_on (iv_ow q.1)) && (decide ((iv_y q.1).cls ≠ "java/lang/invoke/MethodHandle" ∧ (iv_y q.1).cls ≠ "java/lang/invoke/VarHandle") &&
  (decide ((parseMethodDescriptor (iv_y q.1).desc).map (fun d => d.parameters.length) = some (iv_np q.1 - (bif Nat.beq (iv_kd q.1) 1 then 0 else 1))) &&
  (match iv_kd q.1 with
    | 0 => decide (lw_tbl[q.2.2.2.1]? = some (.instanceMethod (iv_y q.1))) && (decide (lw_tbl[q.2.2.2.2]? = some (.selects (iv_y q.1).cls (iv_y q.1) (iv_y q.1))) && (Nat.blt (iv_ow q.1) 7 && Nat.blt 0 (iv_np q.1)))
    | 1 => decide (lw_tbl[q.2.2.2.1]? = some (.static (iv_y q.1)))
    | 2 => decide (lw_tbl[q.2.2.2.1]? = some (.instanceMethod (iv_y q.1))) && (decide ((iv_y q.1).name = "<init>") && (decide (iv_rt q.1 = none) && ((iv_hh q.1).isEmpty && (Nat.blt 0 (iv_np q.1) && Nat.blt (iv_ow q.1) 7))))
    | _ => false))))))
set_option maxRecDepth 20000 in
theorem iv_mq0 : iv_mp0.all iv_mck = true := by decide +kernel
set_option maxRecDepth 20000 in
theorem iv_mq1 : iv_mp1.all iv_mck = true := by decide +kernel
set_option maxRecDepth 20000 in
theorem iv_mq2 : iv_mp2.all iv_mck = true := by decide +kernel
set_option maxRecDepth 20000 in
theorem iv_mq3 : iv_mp3.all iv_mck = true := by decide +kernel
set_option maxRecDepth 20000 in
theorem iv_mq4 : iv_mp4.all iv_mck = true := by decide +kernel
theorem iv_mps_ok : iv_mps.all iv_mck = true := by
  unfold iv_mps
  simp only [List.all_append, Bool.and_eq_true]
  exact ⟨⟨⟨⟨iv_mq0, iv_mq1⟩, iv_mq2⟩, iv_mq3⟩, iv_mq4⟩
def iv_mtc (q : Nat × Nat × Nat × Nat × Bool) : Bool :=
  (bif q.2.2.2.2 then decide (lw_tbl[q.2.2.2.1]? = some (.methodLinkNest (iv_on q.1) q.2.1 (iv_y q.2.2.1) "TripGuard")) else decide (lw_tbl[q.2.2.2.1]? = some (.methodLink (iv_on q.1) q.2.1 (iv_y q.2.2.1)))) &&
  (Nat.blt 2 (iv_kd q.2.2.1) || iv_mps.any (fun z => Nat.beq z.1 q.2.2.1))
set_option maxRecDepth 20000 in
theorem iv_mts_ok : iv_mts.all iv_mtc = true := by decide +kernel
theorem iv_lw_in {w : Cond} {i : Nat} (h : lw_tbl[i]? = some w) : w ∈ lw_tbl := List.mem_of_getElem? h
theorem iv_mt_ok {a b mj : Nat} (h : iv_mt a b = some mj) : (Cond.methodLink (iv_on a) b (iv_y mj) ∈ iv_Ws ∨ Cond.methodLinkNest (iv_on a) b (iv_y mj) "TripGuard" ∈ iv_Ns) ∧ (iv_kd mj ≤ 2 → ∃ q ∈ iv_mps, q.1 = mj) := by
  unfold iv_mt at h
  obtain ⟨x, hx, hx2⟩ := Option.map_eq_some_iff.mp h
  obtain ⟨x1, x2, x3⟩ := x
  simp only at hx2
  subst hx2
  have h1 := List.all_eq_true.mp iv_mts_ok _ (iv_l2_mem hx)
  simp only [iv_mtc, Bool.and_eq_true, Bool.or_eq_true, List.any_eq_true] at h1
  obtain ⟨h2, h3⟩ := h1
  refine ⟨?_, fun hk => ?_⟩
  · cases x3 with
    | true => exact Or.inr (iv_Ns_at (of_decide_eq_true h2) rfl)
    | false => exact Or.inl (iv_Ws_at (of_decide_eq_true h2) rfl)
  · rcases h3 with h4 | ⟨q, hq, h5⟩
    · exact absurd (Nat.le_of_ble_eq_true h4) (by omega)
    · exact ⟨q, hq, Nat.eq_of_beq_eq_true h5⟩
/-- what is known of a method that is walked -/
def iv_mP (j : Nat) : Prop := iv_cwP j ∧ Cond.initialized (iv_y j).cls ∈ iv_Ws ∧ plainFor (iv_y j) = true ∧ (iv_y j).cls = iv_on (iv_ow j) ∧
  ((iv_y j).cls ≠ "java/lang/invoke/MethodHandle" ∧ (iv_y j).cls ≠ "java/lang/invoke/VarHandle") ∧ (parseMethodDescriptor (iv_y j).desc).map (fun d => d.parameters.length) = some (iv_np j - (bif Nat.beq (iv_kd j) 1 then 0 else 1)) ∧
  (iv_kd j = 0 → Cond.instanceMethod (iv_y j) ∈ iv_Ws ∧ Cond.selects (iv_y j).cls (iv_y j) (iv_y j) ∈ iv_Ws ∧ iv_ow j < 7 ∧ 0 < iv_np j) ∧ (iv_kd j = 1 → Cond.static (iv_y j) ∈ iv_Ws) ∧
  (iv_kd j = 2 → Cond.instanceMethod (iv_y j) ∈ iv_Ws ∧ (iv_y j).name = "<init>" ∧ iv_rt j = none ∧ iv_hh j = [] ∧ 0 < iv_np j ∧ iv_ow j < 7)
theorem iv_m_ok {j : Nat} (h : ∃ q ∈ iv_mps, q.1 = j) : iv_mP j := by
  obtain ⟨⟨j', a, b, c, d⟩, hq, hj⟩ := h
  simp only at hj
  subst hj
  have h1 := List.all_eq_true.mp iv_mps_ok _ hq
  simp only [iv_mck, Bool.and_eq_true] at h1
  obtain ⟨h2, h3, h4, h5, h6, h7⟩ := h1
  refine ⟨iv_cw_ok _ hq, iv_Ws_at (of_decide_eq_true h2) rfl, h3, of_decide_eq_true h4, of_decide_eq_true h5, of_decide_eq_true h6, fun hk => ?_, fun hk => ?_, fun hk => ?_⟩
  · rw [hk] at h7
    simp only [Bool.and_eq_true] at h7
    exact ⟨iv_Ws_at (of_decide_eq_true h7.1) rfl, iv_Ws_at (of_decide_eq_true h7.2.1) rfl, Nat.le_of_ble_eq_true h7.2.2.1, Nat.le_of_ble_eq_true h7.2.2.2⟩
  · rw [hk] at h7
    exact iv_Ws_at (of_decide_eq_true h7) rfl
  · rw [hk] at h7
    simp only [Bool.and_eq_true] at h7
    obtain ⟨q1, q2, q3, q4, q5, q6⟩ := h7
    exact ⟨iv_Ws_at (of_decide_eq_true q1) rfl, of_decide_eq_true q2, of_decide_eq_true q3, List.isEmpty_iff.mp q4, Nat.le_of_ble_eq_true q5, Nat.le_of_ble_eq_true q6⟩
theorem iv_fl_ok {a b ci f : Nat} (h : iv_fl a b = some (ci, f)) : ∃ (C : String) (T : u_T) (N : Nat), iv_cl[ci]? = some (C, T, N) ∧ f < N ∧ (T f).1 = C ∧
    (Cond.fieldLink (iv_on a) b (T f).1 (T f).2.1 (T f).2.2.1 ∈ iv_Ws ∨ (a ≠ ci ∧ Cond.fieldLinkNest (iv_on a) b (T f).1 (T f).2.1 (T f).2.2.1 "TripGuard" ∈ iv_Ns)) := by
  unfold iv_fl at h
  obtain ⟨x, hx, hx2⟩ := Option.map_eq_some_iff.mp h
  obtain ⟨x1, x2, x3⟩ := x
  simp only at hx2
  subst hx2
  have h1 := List.all_eq_true.mp iv_fls_ok _ (iv_l2_mem hx)
  unfold iv_flc at h1
  split at h1
  · rename_i z hz
    obtain ⟨C, T, N⟩ := z
    simp only [Bool.and_eq_true] at h1
    obtain ⟨⟨h2, h3⟩, h4⟩ := h1
    refine ⟨C, T, N, hz, Nat.le_of_ble_eq_true h2, of_decide_eq_true h3, ?_⟩
    cases x3 with
    | true =>
      simp only [cond_true, Bool.and_eq_true, Bool.not_eq_true'] at h4
      exact Or.inr ⟨fun q => by subst q; simp at h4, iv_Ns_at (of_decide_eq_true h4.1) rfl⟩
    | false =>
      simp only [cond_false] at h4
      exact Or.inl (iv_Ws_at (of_decide_eq_true h4) rfl)
  · cases h1
def iv_sfc (q : Nat × Nat × Nat × Nat) : Bool := match q.2.2.1 with
  | 0 => decide (lw_tbl[q.2.2.2]? = some (.fieldLink (iv_on q.1) q.2.1 "TripGuard$Channel" "CURVE" "[I"))
  | 1 => decide (lw_tbl[q.2.2.2]? = some (.fieldLink (iv_on q.1) q.2.1 "TripGuard$Train" "NEEDED" "[I"))
  | _ => false
theorem iv_sfs_ok : iv_sfs.all iv_sfc = true := by decide +kernel
theorem iv_sf_ok {a b z : Nat} (h : iv_sf a b = some z) : (z = 0 ∧ Cond.fieldLink (iv_on a) b "TripGuard$Channel" "CURVE" "[I" ∈ iv_Ws) ∨ (z = 1 ∧ Cond.fieldLink (iv_on a) b "TripGuard$Train" "NEEDED" "[I" ∈ iv_Ws) := by
  unfold iv_sf at h
  obtain ⟨x, hx, hx2⟩ := Option.map_eq_some_iff.mp h
  obtain ⟨x1, x2⟩ := x
  simp only at hx2
  subst hx2
  have h1 := List.all_eq_true.mp iv_sfs_ok _ (iv_l2_mem hx)
  unfold iv_sfc at h1
  split at h1
  · rename_i hz
    exact Or.inl ⟨hz, iv_Ws_at (of_decide_eq_true h1) rfl⟩
  · rename_i hz
    exact Or.inr ⟨hz, iv_Ws_at (of_decide_eq_true h1) rfl⟩
  · cases h1
theorem iv_cns_ok : (iv_cns.all fun q => decide (lw_tbl[q.2.2.2]? = some (.constant (iv_on q.1) q.2.1 q.2.2.1))) = true := by decide +kernel
theorem iv_cn_ok {a b : Nat} {v : Int32} (h : iv_cn a b = some v) : Cond.constant (iv_on a) b v ∈ iv_Ws := by
  unfold iv_cn at h
  obtain ⟨x, hx, hx2⟩ := Option.map_eq_some_iff.mp h
  obtain ⟨x1, x2⟩ := x
  simp only at hx2
  subst hx2
  have h1 := List.all_eq_true.mp iv_cns_ok _ (iv_l2_mem hx)
  exact iv_Ws_at (of_decide_eq_true h1) rfl
def iv_cps : List (Nat × Nat) := [(119, 29), (47, 24), (71, 25), (151, 30), (87, 27), (39, 23), (545, 31), (335, 35), (424, 36), (519, 37)]
def iv_nwc (q : Nat × Nat × Nat × Nat) : Bool := decide (lw_tbl[q.2.2.2]? = some (.classLink (iv_on q.1) q.2.1 (iv_on q.2.2.1))) && (Nat.blt q.2.2.1 10 &&
  (decide (lw_tbl[(iv_cps.getD q.2.2.1 (0, 0)).1]? = some (.instantiable (iv_on q.2.2.1) (bif Nat.blt q.2.2.1 7 then iv_fn q.2.2.1 else 6))) && decide (lw_tbl[(iv_cps.getD q.2.2.1 (0, 0)).2]? = some (.initialized (iv_on q.2.2.1)))))
theorem iv_nws_ok : iv_nws.all iv_nwc = true := by decide +kernel
theorem iv_nw_ok {a b ci : Nat} (h : iv_nw a b = some ci) : Cond.classLink (iv_on a) b (iv_on ci) ∈ iv_Ws ∧ ci < 10 ∧ Cond.instantiable (iv_on ci) (bif Nat.blt ci 7 then iv_fn ci else 6) ∈ iv_Ws ∧ Cond.initialized (iv_on ci) ∈ iv_Ws := by
  unfold iv_nw at h
  obtain ⟨x, hx, hx2⟩ := Option.map_eq_some_iff.mp h
  obtain ⟨x1, x2⟩ := x
  simp only at hx2
  subst hx2
  have h1 := List.all_eq_true.mp iv_nws_ok _ (iv_l2_mem hx)
  simp only [iv_nwc, Bool.and_eq_true] at h1
  obtain ⟨q1, q2, q3, q4⟩ := h1
  exact ⟨iv_Ws_at (of_decide_eq_true q1) rfl, Nat.le_of_ble_eq_true q2, iv_Ws_at (of_decide_eq_true q3) rfl, iv_Ws_at (of_decide_eq_true q4) rfl⟩
theorem iv_aI : Cond.arrayClass .int ∈ iv_Ws := iv_Ws_at (i := 65) (by decide +kernel) rfl
theorem iv_aZ : Cond.arrayClass .boolean ∈ iv_Ws := iv_Ws_at (i := 641) (by decide +kernel) rfl
theorem iv_aJ : Cond.arrayClass .long ∈ iv_Ws := iv_Ws_at (i := 763) (by decide +kernel) rfl
def iv_rc1 (mi i : Nat) : Bool := match iv_mt (iv_ow mi) i with
  | some mj => bif Nat.ble (iv_kd mj) 2 then Nat.ble ((iv_rm mj).frames + 1) (iv_rm mi).frames && Nat.ble (8 + (iv_nL mj + 11) + (iv_rm mj).locals) (iv_rm mi).locals else bif Nat.ble (iv_kd mj) 6 then Nat.ble 1 (iv_rm mi).frames && Nat.ble 20 (iv_rm mi).locals && (Nat.beq (iv_kd mj) 6 || Nat.ble 21 (iv_rm mi).locals) else true
  | none => true
def iv_rck (mi : Nat) (q : Nat × Instr) : Bool := match q.2 with
  | .invokevirtual i => iv_rc1 mi i
  | .invokestatic i => iv_rc1 mi i
  | .invokespecial i => iv_rc1 mi i
  | .new i => (match iv_nw (iv_ow mi) i with
    | some ci => bif iv_xc ci then Nat.ble 6 (iv_rm mi).frames && Nat.ble 89 (iv_rm mi).locals else true
    | none => true)
  | _ => true
set_option maxRecDepth 20000 in
theorem iv_rr0 : ((List.range' 0 29).all fun mi => (iv_code mi).all (iv_rck mi)) = true := by decide +kernel
set_option maxRecDepth 20000 in
theorem iv_rr1 : ((List.range' 29 29).all fun mi => (iv_code mi).all (iv_rck mi)) = true := by decide +kernel
set_option maxRecDepth 20000 in
theorem iv_rr2 : ((List.range' 58 29).all fun mi => (iv_code mi).all (iv_rck mi)) = true := by decide +kernel
set_option maxRecDepth 20000 in
theorem iv_rr3 : ((List.range' 87 29).all fun mi => (iv_code mi).all (iv_rck mi)) = true := by decide +kernel
theorem iv_room {mi pc : Nat} {ins : Instr} (h : iv_lk pc (iv_code mi) = some ins) : iv_rck mi (pc, ins) = true := by
  have hm := iv_lk_mem h
  have hlt : mi < 116 := by
    refine Nat.lt_of_not_le fun hge => ?_
    have : iv_code mi = [] := by
      unfold iv_code
      rw [List.getD_eq_getElem?_getD, List.getElem?_eq_none (by exact hge)]
      rfl
    rw [this] at hm
    cases hm
  have key : ∀ s : Nat, ((List.range' s 29).all fun mi => (iv_code mi).all (iv_rck mi)) = true → s ≤ mi → mi < s + 29 → iv_rck mi (pc, ins) = true := by
    intro s hs h1 h2
    have h3 := List.all_eq_true.mp hs mi (List.mem_range'_1.mpr ⟨h1, h2⟩)
    exact List.all_eq_true.mp h3 _ hm
  by_cases h1 : mi < 29
  · exact key 0 iv_rr0 (by omega) (by omega)
  by_cases h2 : mi < 58
  · exact key 29 iv_rr1 (by omega) (by omega)
  by_cases h3 : mi < 87
  · exact key 58 iv_rr2 (by omega) (by omega)
  exact key 87 iv_rr3 (by omega) (by omega)
def iv_nms : List String := ["java/lang/RuntimeException", "java/lang/Exception"]
def iv_hw (w : Cond) : Bool := match w with
  | .laysStatic C n d => decide (C = "java/lang/Throwable") && ((decide (n = "UNASSIGNED_STACK") && decide (d = "[Ljava/lang/StackTraceElement;")) || (decide (n = "SUPPRESSED_SENTINEL") && decide (d = "Ljava/util/List;")))
  | .isRef (.static C n d) => decide (C = "java/lang/Throwable") && ((decide (n = "UNASSIGNED_STACK") && decide (d = "[Ljava/lang/StackTraceElement;")) || (decide (n = "SUPPRESSED_SENTINEL") && decide (d = "Ljava/util/List;")))
  | _ => false
def iv_xz : List Cond → List Nat → Bool
  | [], _ => true
  | _ :: _, [] => false
  | w :: ws, p :: ps => (iv_hw w || (decide (lw_tbl[p]? = some w) && (goodWord w || iv_isN w))) && iv_xz ws ps
theorem iv_xz_ok : ∀ {ws : List Cond} {ps : List Nat}, iv_xz ws ps = true → ∀ w ∈ ws, w ∈ iv_Ws ∨ w ∈ iv_Ns ∨ iv_hw w = true
  | [], _, _, w, hw => by cases hw
  | _ :: _, [], h, _, _ => by cases h
  | x :: xs, p :: ps, h, w, hw => by
    unfold iv_xz at h
    simp only [Bool.and_eq_true, Bool.or_eq_true] at h
    rcases List.mem_cons.mp hw with rfl | h2
    · rcases h.1 with h3 | h3
      · exact Or.inr (Or.inr h3)
      · rcases h3.2 with h4 | h4
        · exact Or.inl (iv_Ws_at (of_decide_eq_true h3.1) h4)
        · exact Or.inr (Or.inl (iv_Ns_at (of_decide_eq_true h3.1) h4))
    · exact iv_xz_ok h.2 w h2
set_option maxRecDepth 20000 in
theorem iv_xx7 : iv_xz (Bundle.ownAtoms0 (iv_on 5) 163 (iv_on 7) iv_nms) [32, 356, 365, 369, 372, 374, 357, 358, 44, 45, 359, 364, 370, 386, 346, 387, 348, 388, 350, 360, 361, 362, 363, 352, 376, 377, 378, 379, 337, 379, 380, 381, 382, 339, 382, 383, 384, 357, 341, 375, 335, 336, 343, 344, 345, 347, 349, 351, 0, 0, 355, 354, 353] = true := by decide +kernel
set_option maxRecDepth 20000 in
theorem iv_xx8 : iv_xz (Bundle.ownAtoms0 (iv_on 5) 166 (iv_on 8) iv_nms) [32, 356, 365, 369, 372, 374, 357, 358, 44, 45, 359, 364, 370, 386, 346, 387, 348, 388, 350, 360, 361, 362, 363, 352, 433, 434, 435, 379, 337, 379, 380, 381, 382, 339, 382, 383, 384, 357, 341, 432, 424, 425, 426, 367, 427, 428, 429, 430, 0, 0, 355, 354, 431] = true := by decide +kernel
set_option maxRecDepth 20000 in
theorem iv_xx9 : iv_xz (Bundle.ownAtoms0 (iv_on 5) 151 (iv_on 9) iv_nms) [32, 356, 365, 369, 372, 374, 357, 358, 44, 45, 359, 364, 370, 386, 346, 387, 348, 388, 350, 360, 361, 362, 363, 352, 528, 529, 530, 379, 337, 379, 380, 381, 382, 339, 382, 383, 384, 357, 341, 527, 519, 520, 521, 368, 522, 523, 524, 525, 0, 0, 355, 354, 526] = true := by decide +kernel
theorem iv_nx_ok {a b ci : Nat} (h : iv_nx a b = some ci) : 7 ≤ ci ∧ ci < 10 ∧ Bundle.fit (iv_on ci) = true ∧ ∀ w ∈ Bundle.ownAtoms0 (iv_on a) b (iv_on ci) iv_nms, w ∈ iv_Ws ∨ w ∈ iv_Ns ∨ iv_hw w = true := by
  have hm := iv_l2_mem h
  rcases List.mem_cons.mp hm with h1 | hm
  · cases h1; exact ⟨by decide, by decide, by decide +kernel, iv_xz_ok iv_xx7⟩
  rcases List.mem_cons.mp hm with h1 | hm
  · cases h1; exact ⟨by decide, by decide, by decide +kernel, iv_xz_ok iv_xx8⟩
  rcases List.mem_cons.mp hm with h1 | hm
  · cases h1; exact ⟨by decide, by decide, by decide +kernel, iv_xz_ok iv_xx9⟩
  cases hm
theorem iv_nms_fit : ∀ n ∈ iv_nms, Bundle.fit n = true := by decide +kernel
def iv_hck (mi : Nat) : Bool := (iv_hh mi).all fun r => !(Nat.beq r.2.2.2 0) && (match iv_nw (iv_ow mi) r.2.2.2 with
  | some ci => Nat.ble 7 ci
  | none => false)
set_option maxRecDepth 20000 in
theorem iv_hcks : ((List.range 116).all iv_hck) = true := by decide +kernel
theorem iv_h_ok {mi : Nat} : ∀ r ∈ iv_hh mi, r.2.2.2 ≠ 0 ∧ ∃ ci, iv_nw (iv_ow mi) r.2.2.2 = some ci ∧ 7 ≤ ci := by
  intro r hr
  have hlt : mi < 116 := by
    refine Nat.lt_of_not_le fun hge => ?_
    have : iv_hh mi = [] := by
      unfold iv_hh
      rw [List.getD_eq_getElem?_getD, List.getElem?_eq_none (by exact hge)]
      rfl
    rw [this] at hr
    cases hr
  have h1 := List.all_eq_true.mp iv_hcks mi (List.mem_range.mpr hlt)
  unfold iv_hck at h1
  have h2 := List.all_eq_true.mp h1 r hr
  simp only [Bool.and_eq_true, Bool.not_eq_true'] at h2
  refine ⟨fun q => by rw [q] at h2; simp at h2, ?_⟩
  cases hn : iv_nw (iv_ow mi) r.2.2.2 with
  | none => rw [hn] at h2; simp at h2
  | some ci => rw [hn] at h2; exact ⟨ci, rfl, Nat.le_of_ble_eq_true h2.2⟩
theorem iv_castE : ∀ ci, 7 ≤ ci → ci < 10 → Cond.castable (iv_on ci) (iv_on ci) ∈ iv_Ns := by
  intro ci h1 h2
  match ci, h1, h2 with
  | 7, _, _ => exact iv_Ns_at (i := 336) (by decide +kernel) rfl
  | 8, _, _ => exact iv_Ns_at (i := 425) (by decide +kernel) rfl
  | 9, _, _ => exact iv_Ns_at (i := 520) (by decide +kernel) rfl
  | n + 10, _, h => omega
end
section
/-! What every method stands on, and how it is carried from a caller to a callee. -/
def iv_tys (κ : Nat → ClassId) : List (ClassId × FieldType) := [(κ 0, .int), (κ 1, .boolean), (κ 2, .long), (κ 3, .object "TripGuard$Channel"), (κ 6, .object "TripGuard$Train")]
theorem iv_tys_kt (κ : Nat → ClassId) : iv_Kt iv_kt κ iv_cl (iv_tys κ) := by
  intro q C h
  unfold iv_kt at h
  cases h1 : Nat.beq q 3 with
  | true =>
    rw [h1] at h
    obtain rfl := Nat.eq_of_beq_eq_true h1
    obtain rfl := Option.some.inj h
    exact ⟨⟨3, rfl⟩, 0, _, _, rfl, rfl⟩
  | false =>
    rw [h1] at h
    cases h2 : Nat.beq q 6 with
    | true =>
      rw [h2] at h
      obtain rfl := Nat.eq_of_beq_eq_true h2
      obtain rfl := Option.some.inj h
      exact ⟨⟨4, rfl⟩, 3, _, _, rfl, rfl⟩
    | false => rw [h2] at h; cases h
theorem iv_tys_kk (κ : Nat → ClassId) : ∀ q : Nat, iv_kk q = true → ∃ (t0 : Nat) (ty : FieldType), (iv_tys κ)[t0]? = some (κ q, ty) := by
  intro q h
  unfold iv_kk at h
  simp only [Bool.or_eq_true] at h
  rcases h with h | h
  · have h1 := Nat.le_of_ble_eq_true h
    match q, h1 with
    | 0, _ => exact ⟨0, _, rfl⟩
    | 1, _ => exact ⟨1, _, rfl⟩
    | 2, _ => exact ⟨2, _, rfl⟩
    | n + 3, h1 => omega
  · obtain ⟨C, hC⟩ := Option.isSome_iff_exists.mp h
    obtain ⟨⟨t0, ht⟩, -⟩ := iv_tys_kt κ q C hC
    exact ⟨t0, _, ht⟩
theorem iv_Ns_warm {w : Cond} (hw : w ∈ iv_Ns) {s U : State} (hW : s.WarmedH U.vm) (h : va_Nw w s) : va_Nw w U := by
  have h1 := (List.mem_filter.mp hw).2
  unfold iv_isN at h1
  split at h1
  · exact h.warmF hW
  · exact h.warmM hW
  · exact h.warmD hW
  · exact va_tabs rfl (rfl : (s.setVm U.vm).vm = U.vm) (by rw [Cond.castable_setVm hW.alike]; exact h)
  · cases h1
theorem iv_Ns_use {w : Cond} (hw : w ∈ iv_Ns) {U : State} {a : Array Value} (h : va_Nw w U) : w.before a U = true := by
  have h1 := (List.mem_filter.mp hw).2
  unfold iv_isN at h1
  split at h1
  · exact h.use rfl
  · exact h.use rfl
  · exact h.use rfl
  · exact h.use rfl
  · cases h1
def iv_Ev (D : va_G) (κ : Nat → ClassId) (Fr : Nat → Prop) (ρ0 : Nat → Nat) (X : Nat → Option (Nat × (Nat → Int32))) (U : State) : Prop :=
  va_K D iv_cl (iv_tys κ) U ∧ (∀ w ∈ iv_Ns, va_Nw w U) ∧ va_AO "TripGuard$Channel" U ∧ va_AO "TripGuard$Train" U ∧ (∀ ci ce, 7 ≤ ci → ci < 10 → 7 ≤ ce → ce < 10 → ci ≠ ce → va_Nc (iv_on ci) (iv_on ce) U) ∧
  va_Z "TripGuard$Channel" "CURVE" "[I" (.ref (ρ0 0)) Fr U U.heap ∧ va_Z "TripGuard$Train" "NEEDED" "[I" (.ref (ρ0 1)) Fr U U.heap ∧ iv_Ro X ρ0 Fr U ∧
  iv_LS "java/lang/Throwable" "UNASSIGNED_STACK" "[Ljava/lang/StackTraceElement;" Fr U ∧ iv_LS "java/lang/Throwable" "SUPPRESSED_SENTINEL" "Ljava/util/List;" Fr U
theorem iv_Ev.moved {D : va_G} {κ : Nat → ClassId} {Fr Fr' : Nat → Prop} {ρ0 ρ : Nat → Nat} {X : Nat → Option (Nat × (Nat → Int32))} {s U : State} (h : iv_Ev D κ Fr ρ0 X s) (hW : s.WarmedH U.vm) (hH : ∀ a : Nat, a < s.heap.size → ¬ Fr a → U.heap[a]? = s.heap[a]?) (hF : ∀ q, Fr' q → Fr q) (hρ : ∀ i, i < 3 → ρ i = ρ0 i) : iv_Ev D κ Fr' ρ X U := by
  obtain ⟨h1, h2, h3, h4, h5, h6, h7, h8, h9, h10⟩ := h
  have hal := hW.alike
  refine ⟨va_K.moved hal h1, fun w hw => iv_Ns_warm hw hW (h2 w hw), h3.moved hal, h4.moved hal, fun ci ce a b c d e => (h5 ci ce a b c d e).moved hal, ?_, ?_, ?_, h9.moved hal hH hF, h10.moved hal hH hF⟩
  · rw [hρ 0 (by decide)]
    exact ((va_Z.moved hal h6).kept hH).narrow hF
  · rw [hρ 1 (by decide)]
    exact ((va_Z.moved hal h7).kept hH).narrow hF
  · intro i n f hi
    obtain ⟨a, b⟩ := h8 i n f hi
    refine ⟨a, ?_⟩
    rw [hρ i a]
    exact ((va_T.moved hal b).kept hH).narrow hF
/-- the callee's end, told of the picture -/
def iv_out (ρ : Nat → Nat) (x : Option Value ⊕ Nat) (o : Outcome) : Prop := match x with
  | .inl v => o = .returned (v.map (iv_r ρ))
  | .inr i => o = .threw (ρ i)
def iv_oc (n : Nat) (x : Option Value ⊕ Nat) : Prop := match x with
  | .inl v => ∀ w, v = some w → iv_vc n w
  | .inr i => i < n + 3
def iv_Q (D : va_G) (κ : Nat → ClassId) (ρ0 : Nat → Nat) (n0 : Nat) (r : iv_R) (Fr : Nat → Prop) : Array Value → State → Outcome → State → Prop := fun _ st o t =>
  (∃ ρ : Nat → Nat, (∀ i, i < n0 + 3 → ρ i = ρ0 i) ∧ iv_out ρ r.1 o ∧ va_P D iv_cl (iv_w ρ κ r.2) t.heap ∧ va_D Fr (iv_w ρ κ r.2) ∧ iv_hc r.2 ∧ n0 ≤ r.2.length ∧ iv_oc r.2.length r.1) ∧ va_F Fr st t
def iv_Cx (p : Program) (l : Launch) (s : State) (m : MethodId) (args : Array Value) (meth : Method) (c : Code) (mi : Nat) (D : va_G) (κ : Nat → ClassId) (Fr : Nat → Prop) (ρ0 : Nat → Nat) (X : Nat → Option (Nat × (Nat → Int32))) : Prop :=
  p.tables.exec = Jvm.exec ∧ c.code = iv_b mi ∧ c.maxLocals = iv_nL mi ∧ meth.sig.returnType = iv_rt mi ∧ s.vm.findClass (iv_on (iv_ow mi)) = some m.cls ∧ meth.locks = false ∧ (iv_ini mi = true → meth.name = "<init>") ∧ c.exceptionTable.toList = tableOf (iv_hh mi) ∧
  (∀ w ∈ iv_Ws, w.before args s = true) ∧ iv_Ev D κ Fr ρ0 X s ∧ (∀ q, s.heap.size ≤ q → Fr q) ∧ (∀ e : Env, l.admits e → e.platform.stackTraces = false)
def iv_G (l : Launch) (D : va_G) (κ : Nat → ClassId) (X : Nat → Option (Nat × (Nat → Int32))) (mi pc : Nat) (ls st : List Value) (A : iv_A) (cells slots : Nat) (r : iv_R) : Prop :=
  ∀ (p : Program) (e : Env) (s : State) (m : MethodId) (args : Array Value) (below : List Frame) (meth : Method) (c : Code) (Fr : Nat → Prop) (ρ0 : Nat → Nat) (n0 : Nat), iv_Cx p l s m args meth c mi D κ Fr ρ0 X →
    iv_Wd p l e (iv_rm mi) s m args below meth c (iv_MQ below (iv_Q D κ ρ0 n0 r Fr) args s (iv_rm mi).cells (iv_rm mi).slots Fr) D iv_cl κ Fr (iv_nL mi) ρ0 n0 pc ls st A cells slots
theorem iv_cwB {j : Nat} (hm : iv_cwP j) {a : Array Value} {U : State} (h : ∀ w ∈ iv_Ws, w.before a U = true) : (Cond.codeWith (iv_y j) (iv_b j) (iv_nL j) (iv_rt j) (iv_hh j)).before a U = true := by
  rcases hm with ⟨h1, h2⟩ | h2
  · have h3 := h _ h2
    rw [h1]
    simp only [Cond.before, Cond.holds] at h3 ⊢
    rw [← Cond.code_iff_codeWith_nil]
    exact h3
  · exact h _ h2
theorem iv_c1s_ok {as : List Value} (h : iv_c1s as = true) : ∀ v ∈ as, v.category = 1 := fun v hv => Nat.eq_of_beq_eq_true (List.all_eq_true.mp h v hv)
/-- the start of a callee -/
def iv_Pr (D : va_G) (κ : Nat → ClassId) (ρ : Nat → Nat) (X : Nat → Option (Nat × (Nat → Int32))) (A : iv_A) (sz : Nat) : State → Prop := fun U =>
  U.heap.size = sz ∧ va_P D iv_cl (iv_w ρ κ A) U.heap ∧ va_D (fun _ => True) (iv_w ρ κ A) ∧ iv_Ev D κ (va_A (iv_w ρ κ A) sz) ρ X U
theorem iv_met {l : Launch} {D : va_G} {κ : Nat → ClassId} {X : Nat → Option (Nat × (Nat → Int32))} {mj sz : Nat} {as : List Value} {A : iv_A} {r : iv_R} {ρ : Nat → Nat} (hG : iv_G l D κ X mj 0 (iv_pad mj as) [] A 0 0 r) (hm : iv_mP mj) (hini : iv_ini mj = true → (iv_y mj).name = "<init>") (htr : ∀ e : Env, l.admits e → e.platform.stackTraces = false)
    (has : iv_c1s as = true) (hlen : as.length ≤ iv_nL mj) (hcl : ∀ v ∈ as, iv_vc A.length v) (hA : iv_hc A) :
    iv_Met l (iv_y mj) iv_Ws (iv_rm mj) (va_Pc (as.map (iv_r ρ)) (iv_Pr D κ ρ X A sz)) (iv_Q D κ ρ A.length r (va_A (iv_w ρ κ A) sz)) (iv_rm mj).cells (iv_rm mj).slots (va_A (iv_w ρ κ A) sz) := by
  have hcat := iv_c1s_ok has
  refine iv_Met.ofW (cc := iv_b mj) (maxL := iv_nL mj) (ret := iv_rt mj) (hh := iv_hh mj) hm.2.2.1 ?_ ?_
  · intro a U h
    exact iv_cwB hm.1 (atoms_spec (ws := iv_Ws) h)
  · intro p e s m args below meth c s₁ B hml hPc
    obtain ⟨rfl, hsz, hP, hD0, hEv⟩ := hPc
    subst hsz
    have hts := atoms_spec (ws := iv_Ws) B.pre
    have X0 := Stand.of_body B
    obtain ⟨me, cd, k1, k2, k3, k4, k5, k6, k7, k8⟩ := iv_cwS (iv_cwB hm.1 hts) B.named
    cases B.method.symm.trans k1
    cases X0.code.symm.trans k2
    have hown : s.vm.findClass (iv_on (iv_ow mj)) = some m.cls := by
      rw [← hm.2.2.2.1]
      exact findClass_of_methodNamed B.named
    have hcat' : ∀ v ∈ as.map (iv_r ρ), v.category = 1 := fun w hw => by
      obtain ⟨v, hv, rfl⟩ := List.mem_map.mp hw
      rw [iv_r_cat]; exact hcat v hv
    rw [entry_eq m (as.map (iv_r ρ)) hcat']
    refine hG p e s m _ below _ _ (va_A (iv_w ρ κ A) s.heap.size) ρ A.length ⟨B.exec, k3, k4, k5, hown, k6, fun h => ?_, k7, hts, hEv, fun q h => Or.inr h, htr⟩ ρ s.heap [] _ (fun _ _ => rfl) (Nat.le_refl _) hA (fun v hv => ?_) (fun v hv => by cases hv) (iv_L.entry hcat hlen) hP hD0.self va_S.rf
    · rw [(name_of_methodNamed B.named B.method).1]
      exact hini h
    · rcases List.mem_append.mp hv with h1 | h1
      · exact hcl v h1
      · rw [(List.mem_replicate.mp h1).2]
        exact iv_vc_un 0
theorem iv_blind {D : va_G} {κ : Nat → ClassId} {ρ : Nat → Nat} {X : Nat → Option (Nat × (Nat → Int32))} {A : iv_A} {sz : Nat} {av : List Value} : FrameBlind (va_Pc av (iv_Pr D κ ρ X A sz)) := by
  intro a U g mk h
  obtain ⟨h0, h1, h2, h3, h4⟩ := h
  refine ⟨h0, h1, h2, h3, h4.moved (s := U) (U := U.calling g mk a) (State.WarmedH.refl U) (fun _ _ _ => rfl) (fun _ h => h) (fun _ _ => rfl)⟩
end
section
/-! Answers, calls, throws. -/
theorem iv_sum {vs : List Value} (h : vs.length ≤ 4) : (vs.map fun v => v.category).sum ≤ 8 := by
  have key : ∀ l : List Value, (l.map fun v => v.category).sum ≤ 2 * l.length := by
    intro l
    induction l with
    | nil => simp
    | cons v t ih =>
      rw [List.map_cons, List.sum_cons, List.length_cons]
      have : v.category ≤ 2 := by rcases lv_cat v with h | h <;> omega
      omega
  have := key vs
  omega
theorem iv_sumr {ρ : Nat → Nat} {vs : List Value} (h : vs.length ≤ 4) : ((vs.map (iv_r ρ)).map fun v => v.category).sum ≤ 8 := iv_sum (by rw [List.length_map]; exact h)
theorem iv_end_ok {mi c s : Nat} {r0 r : iv_R} (h : iv_end mi c s r0 = some r) : c ≤ (iv_rm mi).cells ∧ s ≤ (iv_rm mi).slots ∧ r = r0 := by
  unfold iv_end at h
  cases hb : Nat.ble c (iv_rm mi).cells && Nat.ble s (iv_rm mi).slots with
  | false => rw [hb] at h; cases h
  | true =>
    rw [hb] at h
    simp only [Bool.and_eq_true] at hb
    exact ⟨Nat.le_of_ble_eq_true hb.1, Nat.le_of_ble_eq_true hb.2, (Option.some.inj h).symm⟩
section IvJ
variable {p : Program} {l : Launch} {e : Env} {s : State} {m : MethodId} {args : Array Value} {below : List Frame} {meth : Method} {c : Code} {D : va_G} {κ : Nat → ClassId} {Fr : Nat → Prop} {ρ0 : Nat → Nat} {n0 : Nat} {X : Nat → Option (Nat × (Nat → Int32))} {K : iv_K}
variable {mi mj pc : Nat} {ls st as rest : List Value} {A : iv_A} {cells slots : Nat} {res : iv_R}
theorem iv_Fsub {ρ : Nat → Nat} {H0 H : Heap} {locs : List Loc} (hD : va_D Fr (iv_w ρ κ A)) (hS : va_S Fr H0 H locs) (hFr : ∀ q, H0.size ≤ q → Fr q) : ∀ q, va_A (iv_w ρ κ A) H.size q → Fr q := by
  intro q h
  rcases h with ⟨k, x, h⟩ | h
  · exact hD.2 k (q, x) h
  · exact hFr q (Nat.le_trans hS.1 h)
theorem iv_S_comp {Fr' : Nat → Prop} {H0 H : Heap} {L L' : List Loc} {st t : State} (h9 : va_S Fr H0 H L) (hst : st.heap = H) (h : va_F Fr' st t) (hF : ∀ q, Fr' q → Fr q) (hL : ∀ q ∈ L', Fr' q.base) : va_S Fr H0 t.heap (L ++ L') := by
  obtain ⟨f1, f2⟩ := h
  rw [hst] at f1 f2
  refine ⟨Nat.le_trans h9.1 f1, fun q hq hn => ?_, fun q hq => ?_⟩
  · rw [f2 q (Nat.lt_of_lt_of_le hq h9.1) (fun h => hn (hF q h))]
    exact h9.2.1 q hq hn
  · rcases List.mem_append.mp hq with h1 | h1
    · exact h9.2.2 q h1
    · exact hF _ (hL q h1)
theorem iv_s_ret {x : Int32} {ty : FieldType} (hC : iv_Cx p l s m args meth c mi D κ Fr ρ0 X) (hrt : iv_rt mi = some ty) (hfit : iv_fit ty (.int x) = true) (hend : iv_end mi cells slots (.inl (some (.int x)), A) = some res) (hd : decode (iv_b mi) pc = .ok (.ireturn, 1)) : iv_Wd p l e (iv_rm mi) s m args below meth c (iv_MQ below (iv_Q D κ ρ0 n0 res Fr) args s (iv_rm mi).cells (iv_rm mi).slots Fr) D iv_cl κ Fr (iv_nL mi) ρ0 n0 pc ls [.int x] A cells slots := by
  obtain ⟨hx, hb, hml, hr, hown, hlk, hnm, htab, hts, hEv, hFr, htr⟩ := hC
  obtain ⟨e1, e2, rfl⟩ := iv_end_ok hend
  intro ρ H L lsR h1 h2 h3 h4 h5 h6 h7 h8 h9
  refine iv_mono iv_MQ.of (W.widen e1 e2 (W.zret (ty := ty) hx hb (by rw [hr, hrt]) (iv_fit_ok (ρ := ρ) hfit).1 (fun t ht _ => ⟨⟨ρ, h1, rfl, by rw [ht]; exact h7, h8, h3, h2, fun w hw => ?_⟩, h9.F ht⟩) h9.2.2 hd hlk))
  obtain rfl := Option.some.inj hw
  exact iv_vc_int x
theorem iv_s_vret (hC : iv_Cx p l s m args meth c mi D κ Fr ρ0 X) (hrt : iv_rt mi = none) (hend : iv_end mi cells slots (.inl none, A) = some res) (hd : decode (iv_b mi) pc = .ok (.return_, 1)) : iv_Wd p l e (iv_rm mi) s m args below meth c (iv_MQ below (iv_Q D κ ρ0 n0 res Fr) args s (iv_rm mi).cells (iv_rm mi).slots Fr) D iv_cl κ Fr (iv_nL mi) ρ0 n0 pc ls [] A cells slots := by
  obtain ⟨hx, hb, hml, hr, hown, hlk, hnm, htab, hts, hEv, hFr, htr⟩ := hC
  obtain ⟨e1, e2, rfl⟩ := iv_end_ok hend
  intro ρ H L lsR h1 h2 h3 h4 h5 h6 h7 h8 h9
  refine iv_mono iv_MQ.of (W.widen e1 e2 (W.vret hx hb (by rw [hr, hrt]) (fun t ht _ => ⟨⟨ρ, h1, rfl, by rw [ht]; exact h7, h8, h3, h2, fun w hw => ?_⟩, h9.F ht⟩) h9.2.2 hd hlk))
  cases hw
/-- a thrown object of the picture: caught here, or the method ends -/
theorem iv_s_thr (hK : ∀ mi pc ls st A c s r, K mi pc ls st A c s = some r → iv_G l D κ X mi pc ls st A c s r) (hC : iv_Cx p l s m args meth c mi D κ Fr ρ0 X) {x0 : Nat} (hr : iv_thr K mi pc ls A cells slots x0 = some res) {ρ : Nat → Nat} {H : Heap} {L : List Loc} {lsR : Array Slot}
    (h1 : ∀ i, i < n0 + 3 → ρ i = ρ0 i) (h2 : n0 ≤ A.length) (h3 : iv_hc A) (h4 : ∀ v ∈ ls, iv_vc A.length v) (h6 : iv_L ρ (iv_nL mi) ls lsR) (h7 : va_P D iv_cl (iv_w ρ κ A) H) (h8 : va_D Fr (iv_w ρ κ A)) (h9 : va_S Fr s.heap H L)
    {T : State} (hT : T.heap = H) (XT : Stand p l e (iv_rm mi) s m args below meth c T L cells slots) {rs : List Value} :
    ∃ u, Steps p.tables e below ((T.setTop (F0 m pc lsR rs)).pushFrame (.throwing (ρ x0))) u ∧ iv_MQ below (iv_Q D κ ρ0 n0 res Fr) args s (iv_rm mi).cells (iv_rm mi).slots Fr u := by
  have hC' := hC
  obtain ⟨hx, hb, hml, hrt, hown, hlk, hnm, htab, hts, hEv, hFr, htr⟩ := hC
  unfold iv_thr at hr
  split at hr
  · rename_i y
    split at hr
    · rename_i o hA
      have hy : y < A.length := (List.getElem?_eq_some_iff.mp hA).1
      cases hxc : iv_xc o.1 && Nat.blt o.1 10 with
      | false => rw [hxc] at hr; cases hr
      | true =>
        rw [hxc] at hr
        simp only [cond_true] at hr
        simp only [Bool.and_eq_true] at hxc
        have o7 : 7 ≤ o.1 := Nat.le_of_ble_eq_true hxc.1
        have o10 : o.1 < 10 := Nat.le_of_ble_eq_true hxc.2
        cases hem : (iv_hh mi).isEmpty with
        | true =>
          rw [hem] at hr
          obtain ⟨e1, e2, rfl⟩ := iv_end_ok hr
          have hnil : iv_hh mi = [] := List.isEmpty_iff.mp hem
          refine iv_leave XT (fun r hr => ?_) hlk (fun u q1 q2 q3 q4 q5 => ?_)
          · rw [htab, hnil] at hr
            cases hr
          · exact ⟨.threw (ρ (y + 3)), q2, q3, ⟨⟨ρ, h1, rfl, by rw [q1, hT]; exact h7, h8, h3, h2, Nat.add_lt_add_right hy 3⟩, h9.F (q1.trans hT)⟩, L, ⟨q4, q5.mono e1 e2⟩, h9.2.2⟩
        | false =>
          rw [hem] at hr
          simp only [cond_false] at hr
          split at hr
          · rename_i h hp
            have hw := hK _ _ _ _ _ _ _ _ hr p e s m args below meth c Fr ρ0 n0 hC' ρ H L lsR h1 h2 h3 h4 (fun v hv i hi => by
              rcases List.mem_singleton.mp hv with rfl
              cases hi
              exact Nat.add_lt_add_right hy 3) h6 h7 h8 h9
            obtain ⟨q, q1, cell, q2, q3, q4, -⟩ := h7 y _ (iv_w_at (ρ := ρ) (κ := κ) hA)
            obtain ⟨C, TT, N⟩ := q
            have hKn := hEv.1.1 o.1 (C, TT, N) q1
            have hCn : C = iv_on o.1 := (iv_cl_ok q1).2.2.2.2.2
            obtain ⟨-, hfc, kC, hkC, -⟩ := hKn
            have hfc : s.vm.findClass (iv_on o.1) = some (D.1 o.1) := by rw [← hCn]; exact hfc
            refine iv_catch XT htab (by rw [hT]; exact q2) (by rw [q4]; rfl) ⟨kC, by rw [q3]; exact hkC⟩ (ok := iv_ok (iv_ow mi) o.1) (fun r hrr => ?_) hp (by rw [hT]; exact hw)
            obtain ⟨t0, ce, hce, c7⟩ := iv_h_ok r hrr
            obtain ⟨w1, w2, -, -⟩ := iv_nw_ok hce
            have hpl : e.platform.magicAccessors = ({} : Platform).magicAccessors := by rw [XT.admits.platform]
            obtain ⟨cT, hcT, hlT⟩ := Cond.classLink_spec hown (hts _ w1) e.platform hpl
            refine ⟨t0, cT, hlT, ?_⟩
            rw [q3]
            unfold iv_ok
            rw [hce]
            by_cases hcc : ce = o.1
            · subst hcc
              obtain ⟨c1, t1, f1, f2, f3⟩ := Cond.castable_spec (iv_Ns_use (a := args) (iv_castE _ o7 o10) (hEv.2.1 _ (iv_castE _ o7 o10)))
              cases hfc.symm.trans f1
              cases hcT.symm.trans f2
              rw [f3]
              exact (Nat.beq_refl _).symm
            · obtain ⟨c1, t1, f1, f2, f3⟩ := hEv.2.2.2.2.1 o.1 ce o7 o10 c7 w2 (fun q => hcc q.symm)
              cases hfc.symm.trans f1
              cases hcT.symm.trans f2
              rw [f3]
              show false = Nat.beq ce o.1
              cases hbq : Nat.beq ce o.1 with
              | false => rfl
              | true => exact absurd (Nat.eq_of_beq_eq_true hbq) hcc
          · cases hr
    · cases hr
  · cases hr
/-- a call -/
theorem iv_s_inv (hK : ∀ mi pc ls st A c s r, K mi pc ls st A c s = some r → iv_G l D κ X mi pc ls st A c s r) (hC : iv_Cx p l s m args meth c mi D κ Fr ρ0 X) (hr : iv_inv K mi pc ls rest A cells slots mj as = some res) (hst : st = as.reverse ++ rest) (hm : iv_mP mj) (hini : iv_ini mj = true → (iv_y mj).name = "<init>")
    (hcall : ∀ (ρ : Nat → Nat) (H : Heap) (L : List Loc) (lsR : Array Slot) (r' : iv_R) (T : State), va_P D iv_cl (iv_w ρ κ A) H → T.heap = H → lsR.size = c.maxLocals → Stand p l e (iv_rm mi) s m args below meth c T L cells slots →
      iv_Met l (iv_y mj) iv_Ws (iv_rm mj) (va_Pc (as.map (iv_r ρ)) (iv_Pr D κ ρ X A H.size)) (iv_Q D κ ρ A.length r' (va_A (iv_w ρ κ A) H.size)) (iv_rm mj).cells (iv_rm mj).slots (va_A (iv_w ρ κ A) H.size) →
      (∀ U : State, U.heap = T.heap → s.WarmedH U.vm → va_Pc (as.map (iv_r ρ)) (iv_Pr D κ ρ X A H.size) (as.map (iv_r ρ)).toArray U) → cells + (iv_rm mj).cells ≤ (iv_rm mi).cells → slots + (iv_rm mj).slots ≤ (iv_rm mi).slots → ((rest.map (iv_r ρ)).map fun v => v.category).sum ≤ 8 →
      iv_Res p l e (iv_rm mi) s m args below meth c T L cells slots (iv_rm mj).cells (iv_rm mj).slots (F0 m pc lsR (st.map (iv_r ρ))) (rest.map (iv_r ρ)) (iv_Q D κ ρ A.length r' (va_A (iv_w ρ κ A) H.size) (as.map (iv_r ρ)).toArray) (va_A (iv_w ρ κ A) H.size)) :
    iv_Wd p l e (iv_rm mi) s m args below meth c (iv_MQ below (iv_Q D κ ρ0 n0 res Fr) args s (iv_rm mi).cells (iv_rm mi).slots Fr) D iv_cl κ Fr (iv_nL mi) ρ0 n0 pc ls st A cells slots := by
  unfold iv_inv at hr
  cases hb : Nat.ble rest.length 4 && Nat.ble (cells + (iv_rm mj).cells) (iv_rm mi).cells && Nat.ble (slots + (iv_rm mj).slots) (iv_rm mi).slots && Nat.ble as.length (iv_nL mj) && iv_c1s as with
  | false => rw [hb] at hr; cases hr
  | true =>
    rw [hb] at hr
    simp only [Bool.and_eq_true] at hb
    obtain ⟨⟨⟨⟨b1, b2⟩, b3⟩, b4⟩, b5⟩ := hb
    have n1 := Nat.le_of_ble_eq_true b1
    have n2 := Nat.le_of_ble_eq_true b2
    have n3 := Nat.le_of_ble_eq_true b3
    have n4 := Nat.le_of_ble_eq_true b4
    simp only [cond_true] at hr
    cases hc : K mj 0 (iv_pad mj as) [] A 0 0 with
    | none => rw [hc] at hr; cases hr
    | some r' =>
      rw [hc] at hr
      obtain ⟨out, A'⟩ := r'
      intro ρ H L lsR h1 h2 h3 h4 h5 h6 h7 h8 h9
      have hC' := hC
      obtain ⟨hx, hb, hml, hrt, hown, hlk, hnm, htab, hts, hEv, hFr, htr⟩ := hC
      have hF := iv_Fsub h8 h9 hFr
      have hcl : ∀ v ∈ as, iv_vc A.length v := fun v hv => h5 v (by rw [hst]; exact List.mem_append_left _ (List.mem_reverse.mpr hv))
      have hrl : ∀ v ∈ rest, iv_vc A.length v := fun v hv => h5 v (by rw [hst]; exact List.mem_append_right _ hv)
      have hM := iv_met (sz := H.size) (ρ := ρ) (hK _ _ _ _ _ _ _ _ hc) hm hini htr b5 n4 hcl h3
      have hpre : ∀ (T : State), T.heap = H → ∀ U : State, U.heap = T.heap → s.WarmedH U.vm → va_Pc (as.map (iv_r ρ)) (iv_Pr D κ ρ X A H.size) (as.map (iv_r ρ)).toArray U := fun T hT U hU hW =>
        ⟨rfl, by rw [hU, hT], by rw [hU, hT]; exact h7, h8.weaken (fun _ _ _ _ => trivial), hEv.moved hW (fun a ha hna => by rw [hU, hT]; exact h9.2.1 a ha hna) hF (fun i hi => h1 i (by omega))⟩
      refine iv_callW (mc := (iv_rm mj).cells) (ms := (iv_rm mj).slots) (free := va_A (iv_w ρ κ A) H.size) (rest := rest.map (iv_r ρ)) (Qa := iv_Q D κ ρ A.length (out, A') (va_A (iv_w ρ κ A) H.size) (as.map (iv_r ρ)).toArray)
        (fun T hT X' => hcall ρ H L lsR (out, A') T h7 hT (by rw [h6.2.1, hml]) X' hM (hpre T hT) n2 n3 (iv_sumr n1)) ?_ ?_
      · intro v st₀ t L' hst0 hw hQ hL'
        obtain ⟨⟨ρ', a1, a2, a3, a4, a5, a6, a7⟩, a8⟩ := hQ
        have a6 : A.length ≤ A'.length := a6
        cases out with
        | inl v0 =>
          have a2 : (Outcome.returned v) = .returned (v0.map (iv_r ρ')) := a2
          injection a2 with a2
          subst a2
          have e1 : (v0.map (iv_r ρ')).toList ++ rest.map (iv_r ρ) = (v0.toList ++ rest).map (iv_r ρ') := by
            rw [List.map_append, iv_rl_congr a1 hrl]
            cases v0 <;> rfl
          rw [e1]
          refine hK _ _ _ _ _ _ _ _ hr p e s m args below meth c Fr ρ0 n0 hC' ρ' t.heap (L ++ L') lsR (fun i hi => (a1 i (by omega)).trans (h1 i hi)) (by omega) a5 (fun v hv => iv_vc_mono (h4 v hv) a6) (fun w hw => ?_) (h6.congr a1 h4) a3 (a4.weaken (fun _ _ _ h => hF _ h)) (iv_S_comp h9 hst0 a8 hF hL')
          rcases List.mem_append.mp hw with q | q
          · exact a7 w (Option.mem_toList.mp q)
          · exact iv_vc_mono (hrl w q) a6
        | inr x0 =>
          have a2 : (Outcome.returned v) = .threw (ρ' x0) := a2
          cases a2
      · intro x st₀ t T' L' hst0 hw hQ hL' hT' XT
        obtain ⟨⟨ρ', a1, a2, a3, a4, a5, a6, a7⟩, a8⟩ := hQ
        have a6 : A.length ≤ A'.length := a6
        cases out with
        | inl v0 =>
          have a2 : (Outcome.threw x) = .returned (v0.map (iv_r ρ')) := a2
          cases a2
        | inr x0 =>
          have a2 : (Outcome.threw x) = .threw (ρ' x0) := a2
          injection a2 with a2
          subst a2
          exact iv_s_thr hK hC' hr (fun i hi => (a1 i (by omega)).trans (h1 i hi)) (by omega) a5 (fun v hv => iv_vc_mono (h4 v hv) a6) (h6.congr a1 h4) a3 (a4.weaken (fun _ _ _ h => hF _ h)) (iv_S_comp h9 hst0 a8 hF hL') hT' XT
end IvJ
end
section
/-! 'throw new E()'; one step; a run. -/
section IvM
variable {p : Program} {l : Launch} {e : Env} {s : State} {m : MethodId} {args : Array Value} {below : List Frame} {meth : Method} {c : Code} {D : va_G} {κ : Nat → ClassId} {Fr : Nat → Prop} {ρ0 : Nat → Nat} {n0 : Nat} {X : Nat → Option (Nat × (Nat → Int32))} {K : iv_K}
variable {mi mj pc : Nat} {ls st as rest : List Value} {A : iv_A} {cells slots : Nat} {res : iv_R}
theorem iv_hw_ok {U : State} (h1 : iv_LS "java/lang/Throwable" "UNASSIGNED_STACK" "[Ljava/lang/StackTraceElement;" Fr U) (h2 : iv_LS "java/lang/Throwable" "SUPPRESSED_SENTINEL" "Ljava/util/List;" Fr U) {w : Cond} (hw : iv_hw w = true) : w.before args U = true := by
  unfold iv_hw at hw
  split at hw
  · simp only [Bool.and_eq_true, Bool.or_eq_true, decide_eq_true_eq] at hw
    obtain ⟨rfl, ⟨rfl, rfl⟩ | ⟨rfl, rfl⟩⟩ := hw
    · exact h1.lays
    · exact h2.lays
  · simp only [Bool.and_eq_true, Bool.or_eq_true, decide_eq_true_eq] at hw
    obtain ⟨rfl, ⟨rfl, rfl⟩ | ⟨rfl, rfl⟩⟩ := hw
    · exact h1.isRef
    · exact h2.isRef
  · cases hw
theorem iv_Ws_same {U : State} (hts : ∀ w ∈ iv_Ws, w.before args s = true) (h : U.vm = s.vm) {w : Cond} (hw : w ∈ iv_Ws) {a : Array Value} : w.before a U = true :=
  word_at (by rw [h]; exact State.WarmedH.refl s) (iv_Ws_good w hw).2 (hts w hw)
theorem iv_Ns_same {U : State} (hns : ∀ w ∈ iv_Ns, va_Nw w s) (h : U.vm = s.vm) {w : Cond} (hw : w ∈ iv_Ns) {a : Array Value} : w.before a U = true :=
  iv_Ns_use hw (iv_Ns_warm hw (by rw [h]; exact State.WarmedH.refl s) (hns w hw))
theorem iv_D_push {ws : va_W} {H : Heap} {a : Nat} {x : va_E} (hD : va_D Fr ws) (hP : va_P D iv_cl ws H) (ha : H.size ≤ a) (hA : Fr a) : va_D Fr (ws ++ [(a, x)]) := by
  refine hD.app (w2 := [(a, x)]) ⟨fun i j p q hi hj _ => ?_, fun k q hk => ?_⟩ (fun i j p q hi hj he => ?_)
  · have hi' := (List.getElem?_eq_some_iff.mp hi).1
    have hj' := (List.getElem?_eq_some_iff.mp hj).1
    simp only [List.length_singleton] at hi' hj'
    omega
  · have hk' := (List.getElem?_eq_some_iff.mp hk).1
    simp only [List.length_singleton] at hk'
    obtain rfl : k = 0 := by omega
    obtain rfl := Option.some.inj hk
    exact hA
  · have hj' := (List.getElem?_eq_some_iff.mp hj).1
    simp only [List.length_singleton] at hj'
    obtain rfl : j = 0 := by omega
    obtain rfl := Option.some.inj hj
    have := (hP i p hi).lt
    have he : p.1 = a := he
    omega
set_option maxHeartbeats 4000000 in
theorem iv_s_thn {i ci : Nat} (hC : iv_Cx p l s m args meth c mi D κ Fr ρ0 X) (hr : iv_thn mi pc ci A cells slots st = some res) (hnw : iv_nw (iv_ow mi) i = some ci) (hd : decode (iv_b mi) pc = .ok (.new i, 3)) (hf6 : 6 ≤ (iv_rm mi).frames) (hl89 : 89 ≤ (iv_rm mi).locals) : iv_Wd p l e (iv_rm mi) s m args below meth c (iv_MQ below (iv_Q D κ ρ0 n0 res Fr) args s (iv_rm mi).cells (iv_rm mi).slots Fr) D iv_cl κ Fr (iv_nL mi) ρ0 n0 pc ls st A cells slots := by
  obtain ⟨hx, hb, hml, hrt, hown, hlk, hnm, htab, hts, hEv, hFr, htr⟩ := hC
  unfold iv_thn at hr
  split at hr
  · rename_i j k3 k4 k7
    split at hr
    · rename_i cj hnx
      cases hq : Nat.beq ci cj && Nat.ble st.length 4 && (iv_hh mi).isEmpty with
      | false => rw [hq] at hr; cases hr
      | true =>
        rw [hq] at hr
        simp only [Bool.and_eq_true] at hq
        obtain ⟨⟨q1, q2⟩, q3⟩ := hq
        obtain rfl := Nat.eq_of_beq_eq_true q1
        have hnil : iv_hh mi = [] := List.isEmpty_iff.mp q3
        obtain ⟨e1, e2, rfl⟩ := iv_end_ok hr
        obtain ⟨l3, d3, z3⟩ := iv_dec k3
        obtain ⟨l4, d4, z4⟩ := iv_dec k4
        obtain ⟨l7, d7, z7⟩ := iv_dec k7
        obtain rfl := z3 rfl
        obtain rfl := z4 rfl
        obtain rfl := z7 rfl
        obtain ⟨c7, c10, hfit, hat⟩ := iv_nx_ok hnx
        obtain ⟨w1, -, -, w4⟩ := iv_nw_ok hnw
        intro ρ H L lsR h1 h2 h3 h4 h5 h6 h7 h8 h9
        have hsum : ((st.map (iv_r ρ)).map fun v => v.category).sum ≤ 8 := iv_sumr (Nat.le_of_ble_eq_true q2)
        refine iv_throw (own := iv_on (iv_ow mi)) (cls := iv_on ci) (names := iv_nms) (ic := j) (idx := i) hx hb (by rw [h6.2.1, hml]) (htr e) hlk hown hfit iv_nms_fit (fun U hU hUh w hw => ?_) (fun U hU => ⟨iv_Ws_same hts hU w1, iv_Ws_same hts hU w4⟩) hd d3 d4 d7 (fun r hr => ?_) (by show 2 + 3 < _; omega) (by show _ + (13 * (2 + 1) + 41) ≤ _; omega) e1 e2 (fun U a ce u1 u2 u3 u4 u5 u6 u7 u8 u9 => ?_)
        · rcases hat w hw with g | g | g
          · exact iv_Ws_same hts hU g
          · exact iv_Ns_same hEv.2.1 hU g
          · have hal : s.vm.Alike U.vm := by rw [hU]; exact Vm.Alike.refl _
            have hH : ∀ a : Nat, a < s.heap.size → ¬ Fr a → U.heap[a]? = s.heap[a]? := fun a ha hn => by rw [hUh]; exact h9.2.1 a ha hn
            exact iv_hw_ok (Fr := Fr) (hEv.2.2.2.2.2.2.2.2.1.moved hal hH (fun _ h => h)) (hEv.2.2.2.2.2.2.2.2.2.moved hal hH (fun _ h => h)) g
        · rw [htab, hnil] at hr
          cases hr
        · have hρ : ∀ i, i < A.length + 3 → (fun j => if j = A.length + 3 then a else ρ j) i = ρ i := fun i hi => by
            show (if i = A.length + 3 then a else ρ i) = ρ i
            rw [if_neg (by omega)]
          have hw : iv_w (fun j => if j = A.length + 3 then a else ρ j) κ (A ++ [.inr (ci, [])]) = iv_w ρ κ A ++ [(a, .inr (ci, []))] := by
            rw [iv_w_push, iv_w_congr hρ h3]
            simp [iv_e]
          have hcl : iv_cl[ci]? = some (iv_on ci, iv_Te, 0) := by
            match ci, c7, c10 with
            | 7, _, _ => rfl
            | 8, _, _ => rfl
            | 9, _, _ => rfl
            | n + 10, _, h => omega
          obtain ⟨-, hfc, -⟩ := hEv.1.1 ci _ hcl
          have hce : ce.cls = D.1 ci := Option.some.inj (u7.symm.trans hfc)
          have hP0 : va_P D iv_cl (iv_w ρ κ A) U.heap := h7.kept (fun k q hk => by
            have hlt := (h7 k q hk).lt
            have hg : H[q.1]? = some H[q.1] := Array.getElem?_eq_getElem hlt
            rw [hg, u9 _ _ hg])
          have hP1 : va_P D iv_cl (iv_w ρ κ A ++ [(a, .inr (ci, []))]) U.heap := hP0.app (w2 := [(a, .inr (ci, []))]) (fun k q hk => by
            have hk' := (List.getElem?_eq_some_iff.mp hk).1
            simp only [List.length_singleton] at hk'
            obtain rfl : k = 0 := by omega
            obtain rfl := Option.some.inj hk
            exact ⟨_, hcl, ce, u6, hce, u8, fun k hk => absurd hk (Nat.not_lt_zero _)⟩)
          have hD1 : va_D Fr (iv_w ρ κ A ++ [(a, .inr (ci, []))]) := iv_D_push h8 h7 u5 (hFr a (Nat.le_trans h9.1 u5))
          refine ⟨.threw a, u1, u2, ⟨⟨fun j => if j = A.length + 3 then a else ρ j, fun i hi => (hρ i (by omega)).trans (h1 i hi), ?_, by rw [hw]; exact hP1, by rw [hw]; exact hD1, iv_hc_push h3 (fun v hv => by cases hv), ?_, ?_⟩, ?_⟩, L, ⟨u3, u4.mono e1 e2⟩, h9.2.2⟩
          · show Outcome.threw a = .threw (if A.length + 3 = A.length + 3 then a else ρ (A.length + 3))
            rw [if_pos rfl]
          · show n0 ≤ (A ++ [_]).length
            rw [List.length_append]
            omega
          · show A.length + 3 < (A ++ [_]).length + 3
            rw [List.length_append, List.length_singleton]
            omega
          · refine ⟨u4.2.1, fun q hq hn => ?_⟩
            have hg : s.heap[q]? = some s.heap[q] := Array.getElem?_eq_getElem hq
            have hg2 : H[q]? = some s.heap[q] := (h9.2.1 q hq hn).trans hg
            rw [u9 _ _ hg2, hg]
    · cases hr
  · cases hr
end IvM
end
section
/-! One step of the machine of the picture; a run. -/
section IvN
variable {p : Program} {l : Launch} {e : Env} {s : State} {m : MethodId} {args : Array Value} {below : List Frame} {meth : Method} {c : Code} {D : va_G} {κ : Nat → ClassId} {Fr : Nat → Prop} {ρ0 : Nat → Nat} {n0 : Nat} {X : Nat → Option (Nat × (Nat → Int32))} {K : iv_K}
variable {mi mj pc : Nat} {ls st as rest : List Value} {A : iv_A} {cells slots : Nat} {res : iv_R}
theorem iv_cb {Pc : Array Value → State → Prop} {Qc : Array Value → State → Outcome → State → Prop} {free : Addr → Prop} (hts : ∀ w ∈ iv_Ws, w.before args s = true) (hm : iv_mP mj) (hM : iv_Met l (iv_y mj) iv_Ws (iv_rm mj) Pc Qc (iv_rm mj).cells (iv_rm mj).slots free) (hbl : FrameBlind Pc) (hfr : (iv_rm mj).frames + 1 ≤ (iv_rm mi).frames) (hlo : 8 + (iv_nL mj + 11) + (iv_rm mj).locals ≤ (iv_rm mi).locals) :
    iv_CB l (iv_rm mi) s args (iv_y mj) iv_Ws (iv_rm mj) Pc Qc (iv_rm mj).cells (iv_rm mj).slots (iv_nL mj) free (iv_b mj) (iv_rt mj) (iv_hh mj) :=
  ⟨hM, hbl, rfl, rfl, hfr, hlo, fun w hw a' U hW => word_at hW (iv_Ws_good w hw).2 (hts w hw), fun a' U hW => iv_cwB hm.1 (fun w hw => word_at hW (iv_Ws_good w hw).2 (hts w hw)), fun a' U hW => word_at hW (iv_Ws_good _ hm.2.1).2 (hts _ hm.2.1), hm.2.2.2.2.1⟩
theorem iv_spl_ok {np : Nat} {k : List Value → List Value → Option iv_R} (h : iv_spl np st k = some res) : np ≤ st.length ∧ k (st.take np).reverse (st.drop np) = some res := by
  unfold iv_spl at h
  cases hb : Nat.ble np st.length with
  | false => rw [hb] at h; cases h
  | true => rw [hb] at h; exact ⟨Nat.le_of_ble_eq_true hb, h⟩
theorem iv_this_ok {ci : Nat} {k : Option iv_R} (h : iv_this A ci as k = some res) : ∃ (i : Nat) (as' fs : List Value), as = .ref (i + 3) :: as' ∧ A[i]? = some (.inr (ci, fs)) ∧ k = some res := by
  unfold iv_this at h
  split at h
  · rename_i i t
    split at h
    · rename_i o ho
      obtain ⟨o1, o2⟩ := o
      cases hb : Nat.beq o1 ci with
      | false => simp only [hb, cond_false] at h; cases h
      | true =>
        simp only [hb, cond_true] at h
        obtain rfl := Nat.eq_of_beq_eq_true hb
        exact ⟨i, t, o2, rfl, ho, h⟩
    · cases h
  · cases h
theorem iv_cl_lt {ci : Nat} (h : ci < 7) : ∃ (T : u_T) (N : Nat), iv_cl[ci]? = some (iv_on ci, T, N) := by
  match ci, h with
  | 0, _ => exact ⟨_, _, rfl⟩
  | 1, _ => exact ⟨_, _, rfl⟩
  | 2, _ => exact ⟨_, _, rfl⟩
  | 3, _ => exact ⟨_, _, rfl⟩
  | 4, _ => exact ⟨_, _, rfl⟩
  | 5, _ => exact ⟨_, _, rfl⟩
  | 6, _ => exact ⟨_, _, rfl⟩
  | n + 7, h => omega
theorem iv_stk {ρ : Nat → Nat} {b : Nat} {as' : List Value} : ((Value.ref b :: as').reverse ++ rest).map (iv_r ρ) = (as'.map (iv_r ρ)).reverse ++ .ref (ρ b) :: rest.map (iv_r ρ) := by
  simp [iv_r]
theorem iv_s_V {i : Nat} (hK : ∀ mi pc ls st A c s r, K mi pc ls st A c s = some r → iv_G l D κ X mi pc ls st A c s r) (hC : iv_Cx p l s m args meth c mi D κ Fr ρ0 X) (hmt : iv_mt (iv_ow mi) i = some mj) (hkd : iv_kd mj = 0) (hrc : iv_rc1 mi i = true) (hd : decode (iv_b mi) pc = .ok (.invokevirtual i, 3))
    (hr : iv_spl (iv_np mj) st (fun as rest => iv_this A (iv_ow mj) as (iv_inv K mi pc ls rest A cells slots mj as)) = some res) : iv_Wd p l e (iv_rm mi) s m args below meth c (iv_MQ below (iv_Q D κ ρ0 n0 res Fr) args s (iv_rm mi).cells (iv_rm mi).slots Fr) D iv_cl κ Fr (iv_nL mi) ρ0 n0 pc ls st A cells slots := by
  obtain ⟨hlink, hex⟩ := iv_mt_ok hmt
  have hm := iv_m_ok (hex (by omega))
  unfold iv_rc1 at hrc
  rw [hmt] at hrc
  simp only [hkd] at hrc
  have hrc : (Nat.ble ((iv_rm mj).frames + 1) (iv_rm mi).frames && Nat.ble (8 + (iv_nL mj + 11) + (iv_rm mj).locals) (iv_rm mi).locals) = true := hrc
  simp only [Bool.and_eq_true] at hrc
  obtain ⟨hnp, hr⟩ := iv_spl_ok hr
  obtain ⟨b, as', fs, has, hA, hr⟩ := iv_this_ok hr
  obtain ⟨m1, m2, m3, m4⟩ := hm.2.2.2.2.2.2.1 hkd
  have hlen0 := congrArg List.length has
  rw [List.length_reverse, List.length_take, Nat.min_eq_left hnp, List.length_cons] at hlen0
  have hst : st = (Value.ref (b + 3) :: as').reverse ++ st.drop (iv_np mj) := by rw [← has, List.reverse_reverse, List.take_append_drop]
  rw [has] at hr
  refine iv_s_inv hK hC hr hst hm (fun h => by unfold iv_ini at h; rw [hkd] at h; cases h) (fun ρ H L lsR r' T hP hT hsz XT hM hpre n2 n3 hsum => ?_)
  obtain ⟨hx, hb, hml, hrt, hown, hlk, hnm, htab, hts, hEv, hFr, htr⟩ := hC
  obtain ⟨TT, N, hcl⟩ := iv_cl_lt m3
  obtain ⟨cell, c1, c2, c3⟩ := va_recv hEv.1 hP hcl (iv_w_at (ρ := ρ) (κ := κ) hA)
  have hy : (iv_y mj).cls = iv_on (iv_ow mj) := hm.2.2.2.1
  have hlen : (parseMethodDescriptor (iv_y mj).desc).map (fun d => d.parameters.length) = some (as'.map (iv_r ρ)).length := by
    rw [hm.2.2.2.2.2.1, hkd, List.length_map]
    show some (iv_np mj - 1) = _
    rw [hlen0]
    rfl
  refine iv_callV hx (iv_cb hts hm hM iv_blind (Nat.le_of_ble_eq_true hrc.1) (Nat.le_of_ble_eq_true hrc.2)) hown (host := "TripGuard") (hlink.imp (hts _) (fun q => iv_Ns_use q (hEv.2.1 _ q))) (hts _ m1) (hts _ m2) XT (b := ρ (b + 3)) (cellB := cell) (by rw [hT]; exact c1) c2 (by rw [hy]; exact c3) (As := as'.map (iv_r ρ)) rfl hsz hlen ?_ (by show 2 * 0 + _ ≤ 8; omega) (by rw [hb]; exact hd) n2 n3 hpre
  show st.map (iv_r ρ) = _
  rw [← iv_stk, ← hst]
theorem iv_s_S {i : Nat} (hK : ∀ mi pc ls st A c s r, K mi pc ls st A c s = some r → iv_G l D κ X mi pc ls st A c s r) (hC : iv_Cx p l s m args meth c mi D κ Fr ρ0 X) (hmt : iv_mt (iv_ow mi) i = some mj) (hkd : iv_kd mj = 1) (hrc : iv_rc1 mi i = true) (hd : decode (iv_b mi) pc = .ok (.invokestatic i, 3))
    (hr : iv_spl (iv_np mj) st (fun as rest => iv_inv K mi pc ls rest A cells slots mj as) = some res) : iv_Wd p l e (iv_rm mi) s m args below meth c (iv_MQ below (iv_Q D κ ρ0 n0 res Fr) args s (iv_rm mi).cells (iv_rm mi).slots Fr) D iv_cl κ Fr (iv_nL mi) ρ0 n0 pc ls st A cells slots := by
  obtain ⟨hlink, hex⟩ := iv_mt_ok hmt
  have hm := iv_m_ok (hex (by omega))
  unfold iv_rc1 at hrc
  rw [hmt] at hrc
  simp only [hkd] at hrc
  have hrc : (Nat.ble ((iv_rm mj).frames + 1) (iv_rm mi).frames && Nat.ble (8 + (iv_nL mj + 11) + (iv_rm mj).locals) (iv_rm mi).locals) = true := hrc
  simp only [Bool.and_eq_true] at hrc
  obtain ⟨hnp, hr⟩ := iv_spl_ok hr
  have m1 := hm.2.2.2.2.2.2.2.1 hkd
  have hst : st = (st.take (iv_np mj)).reverse.reverse ++ st.drop (iv_np mj) := by rw [List.reverse_reverse, List.take_append_drop]
  refine iv_s_inv hK hC hr hst hm (fun h => by unfold iv_ini at h; rw [hkd] at h; cases h) (fun ρ H L lsR r' T hP hT hsz XT hM hpre n2 n3 hsum => ?_)
  obtain ⟨hx, hb, hml, hrt, hown, hlk, hnm, htab, hts, hEv, hFr, htr⟩ := hC
  have hlen : (parseMethodDescriptor (iv_y mj).desc).map (fun d => d.parameters.length) = some ((st.take (iv_np mj)).reverse.map (iv_r ρ)).length := by
    rw [hm.2.2.2.2.2.1, hkd, List.length_map, List.length_reverse, List.length_take, Nat.min_eq_left hnp]
    rfl
  refine iv_callS hx (iv_cb hts hm hM iv_blind (Nat.le_of_ble_eq_true hrc.1) (Nat.le_of_ble_eq_true hrc.2)) hown (host := "TripGuard") (hlink.imp (hts _) (fun q => iv_Ns_use q (hEv.2.1 _ q))) (hts _ m1) XT (As := (st.take (iv_np mj)).reverse.map (iv_r ρ)) rfl hsz hlen ?_ (by show 2 * 0 + _ ≤ 8; omega) (by rw [hb]; exact hd) n2 n3 hpre
  show st.map (iv_r ρ) = _
  rw [← List.map_reverse, ← List.map_append, ← hst]
theorem iv_s_I {i : Nat} (hK : ∀ mi pc ls st A c s r, K mi pc ls st A c s = some r → iv_G l D κ X mi pc ls st A c s r) (hC : iv_Cx p l s m args meth c mi D κ Fr ρ0 X) (hmt : iv_mt (iv_ow mi) i = some mj) (hkd : iv_kd mj = 2) (hrc : iv_rc1 mi i = true) (hd : decode (iv_b mi) pc = .ok (.invokespecial i, 3))
    (hr : iv_spl (iv_np mj) st (fun as rest => iv_this A (iv_ow mj) as (iv_inv K mi pc ls rest A cells slots mj as)) = some res) : iv_Wd p l e (iv_rm mi) s m args below meth c (iv_MQ below (iv_Q D κ ρ0 n0 res Fr) args s (iv_rm mi).cells (iv_rm mi).slots Fr) D iv_cl κ Fr (iv_nL mi) ρ0 n0 pc ls st A cells slots := by
  obtain ⟨hlink, hex⟩ := iv_mt_ok hmt
  have hm := iv_m_ok (hex (by omega))
  unfold iv_rc1 at hrc
  rw [hmt] at hrc
  simp only [hkd] at hrc
  have hrc : (Nat.ble ((iv_rm mj).frames + 1) (iv_rm mi).frames && Nat.ble (8 + (iv_nL mj + 11) + (iv_rm mj).locals) (iv_rm mi).locals) = true := hrc
  simp only [Bool.and_eq_true] at hrc
  obtain ⟨hnp, hr⟩ := iv_spl_ok hr
  obtain ⟨b, as', fs, has, hA, hr⟩ := iv_this_ok hr
  obtain ⟨m1, m2, m3, m4, m5, m6⟩ := hm.2.2.2.2.2.2.2.2 hkd
  have hlen0 := congrArg List.length has
  rw [List.length_reverse, List.length_take, Nat.min_eq_left hnp, List.length_cons] at hlen0
  have hst : st = (Value.ref (b + 3) :: as').reverse ++ st.drop (iv_np mj) := by rw [← has, List.reverse_reverse, List.take_append_drop]
  rw [has] at hr
  refine iv_s_inv hK hC hr hst hm (fun _ => m2) (fun ρ H L lsR r' T hP hT hsz XT hM hpre n2 n3 hsum => ?_)
  obtain ⟨hx, hb, hml, hrt, hown, hlk, hnm, htab, hts, hEv, hFr, htr⟩ := hC
  have hlen : (parseMethodDescriptor (iv_y mj).desc).map (fun d => d.parameters.length) = some (as'.map (iv_r ρ)).length := by
    rw [hm.2.2.2.2.2.1, hkd, List.length_map]
    show some (iv_np mj - 1) = _
    rw [hlen0]
    rfl
  have hcb := iv_cb (mi := mi) hts hm hM iv_blind (Nat.le_of_ble_eq_true hrc.1) (Nat.le_of_ble_eq_true hrc.2)
  have hcode : (Cond.code (iv_y mj) (iv_b mj) (iv_nL mj) none).before args s = true := by
    rcases hm.1 with ⟨_, q⟩ | q
    · rw [m3] at q
      exact hts _ q
    · have q2 := hts _ q
      rw [m3, m4] at q2
      simp only [Cond.before, Cond.holds] at q2 ⊢
      rw [Cond.code_iff_codeWith_nil]
      exact q2
  rw [m3, m4] at hcb
  refine iv_callI hx hcb hown m2 (host := "TripGuard") (hlink.imp (hts _) (fun q => iv_Ns_use q (hEv.2.1 _ q))) (hts _ m1) hcode XT (b := ρ (b + 3)) (As := as'.map (iv_r ρ)) rfl hsz hlen ?_ (by show 2 * 0 + _ ≤ 8; omega) (by rw [hb]; exact hd) n2 n3 hpre
  show st.map (iv_r ρ) = _
  rw [← iv_stk, ← hst]
end IvN
end
section
/-! Every step, every run. -/
section IvO
variable {p : Program} {l : Launch} {e : Env} {s : State} {m : MethodId} {args : Array Value} {below : List Frame} {meth : Method} {c : Code} {D : va_G} {κ : Nat → ClassId} {Fr : Nat → Prop} {ρ0 : Nat → Nat} {n0 : Nat} {X : Nat → Option (Nat × (Nat → Int32))} {K : iv_K}
variable {mi mj pc : Nat} {ls st as rest : List Value} {A : iv_A} {cells slots : Nat} {res : iv_R}
theorem iv_s_lsw {d : Int} {ps : Array (Int × Int)} {len : Nat} {k : Int → List Value → Option iv_R} (hr : iv_lsw ps d st k = some res) (hx : p.tables.exec = Jvm.exec) (hb : c.code = iv_b mi) (hd : decode (iv_b mi) pc = .ok (.lookupswitch d ps, len))
    (hk : ∀ o st', k o st' = some res → ∃ tgt : Nat, (pc : Int) + o = (tgt : Int) ∧ iv_Wd p l e (iv_rm mi) s m args below meth c (iv_MQ below (iv_Q D κ ρ0 n0 res Fr) args s (iv_rm mi).cells (iv_rm mi).slots Fr) D iv_cl κ Fr (iv_nL mi) ρ0 n0 tgt ls st' A cells slots) : iv_Wd p l e (iv_rm mi) s m args below meth c (iv_MQ below (iv_Q D κ ρ0 n0 res Fr) args s (iv_rm mi).cells (iv_rm mi).slots Fr) D iv_cl κ Fr (iv_nL mi) ρ0 n0 pc ls st A cells slots := by
  unfold iv_lsw at hr
  split at hr
  · rename_i x r
    cases hq : (ps.toList.zip (ps.toList.drop 1)).all (fun (a, next) => a.1 < next.1) with
    | false => rw [hq] at hr; cases hr
    | true =>
      rw [hq] at hr
      obtain ⟨tgt, ht, hw⟩ := hk _ _ hr
      exact iv_s (fun ρ H L lsR _ _ _ _ w => lv_lookup hx hb hd hq rfl ht w) (fun _ _ h => iv_ct h) hw
  · cases hr
theorem iv_s_m2 {f : Int32 → Int32 → Int32} {k : List Value → Option iv_R} (hr : iv_m2 f mi cells slots st k = some res)
    (row : ∀ (H : Heap) (L : List Loc) (lsR : Array Slot) (rest : List Value) (x y : Int32), lsR.size = iv_nL mi → (rest.map fun v => v.category).sum ≤ 8 → cells ≤ (iv_rm mi).cells → slots ≤ (iv_rm mi).slots → W p l e (iv_rm mi) s m args below meth c H L cells slots (iv_MQ below (iv_Q D κ ρ0 n0 res Fr) args s (iv_rm mi).cells (iv_rm mi).slots Fr) (F0 m (pc + 3) lsR (.int (f x y) :: rest)) → W p l e (iv_rm mi) s m args below meth c H L cells slots (iv_MQ below (iv_Q D κ ρ0 n0 res Fr) args s (iv_rm mi).cells (iv_rm mi).slots Fr) (F0 m pc lsR (.int y :: .int x :: rest)))
    (hk : ∀ st', k st' = some res → iv_Wd p l e (iv_rm mi) s m args below meth c (iv_MQ below (iv_Q D κ ρ0 n0 res Fr) args s (iv_rm mi).cells (iv_rm mi).slots Fr) D iv_cl κ Fr (iv_nL mi) ρ0 n0 (pc + 3) ls st' A cells slots) : iv_Wd p l e (iv_rm mi) s m args below meth c (iv_MQ below (iv_Q D κ ρ0 n0 res Fr) args s (iv_rm mi).cells (iv_rm mi).slots Fr) D iv_cl κ Fr (iv_nL mi) ρ0 n0 pc ls st A cells slots := by
  unfold iv_m2 at hr
  split at hr
  · rename_i y x r
    cases hq : Nat.ble r.length 4 && Nat.ble cells (iv_rm mi).cells && Nat.ble slots (iv_rm mi).slots with
    | false => rw [hq] at hr; cases hr
    | true =>
      rw [hq] at hr
      simp only [Bool.and_eq_true] at hq
      exact iv_s (fun ρ H L lsR hL _ _ _ w => row H L lsR _ _ _ hL.2.1 (iv_sumr (Nat.le_of_ble_eq_true hq.1.1)) (Nat.le_of_ble_eq_true hq.1.2) (Nat.le_of_ble_eq_true hq.2) w) (fun _ _ h => iv_c1 (iv_vc_int _) (iv_ct (iv_ct h))) (hk _ hr)
  · cases hr
theorem iv_s_m1 {f : Int32 → Int32} {k : List Value → Option iv_R} (hr : iv_m1 f mi cells slots st k = some res)
    (row : ∀ (H : Heap) (L : List Loc) (lsR : Array Slot) (rest : List Value) (x : Int32), lsR.size = iv_nL mi → (rest.map fun v => v.category).sum ≤ 8 → cells ≤ (iv_rm mi).cells → slots ≤ (iv_rm mi).slots → W p l e (iv_rm mi) s m args below meth c H L cells slots (iv_MQ below (iv_Q D κ ρ0 n0 res Fr) args s (iv_rm mi).cells (iv_rm mi).slots Fr) (F0 m (pc + 3) lsR (.int (f x) :: rest)) → W p l e (iv_rm mi) s m args below meth c H L cells slots (iv_MQ below (iv_Q D κ ρ0 n0 res Fr) args s (iv_rm mi).cells (iv_rm mi).slots Fr) (F0 m pc lsR (.int x :: rest)))
    (hk : ∀ st', k st' = some res → iv_Wd p l e (iv_rm mi) s m args below meth c (iv_MQ below (iv_Q D κ ρ0 n0 res Fr) args s (iv_rm mi).cells (iv_rm mi).slots Fr) D iv_cl κ Fr (iv_nL mi) ρ0 n0 (pc + 3) ls st' A cells slots) : iv_Wd p l e (iv_rm mi) s m args below meth c (iv_MQ below (iv_Q D κ ρ0 n0 res Fr) args s (iv_rm mi).cells (iv_rm mi).slots Fr) D iv_cl κ Fr (iv_nL mi) ρ0 n0 pc ls st A cells slots := by
  unfold iv_m1 at hr
  split at hr
  · rename_i x r
    cases hq : Nat.ble r.length 4 && Nat.ble cells (iv_rm mi).cells && Nat.ble slots (iv_rm mi).slots with
    | false => rw [hq] at hr; cases hr
    | true =>
      rw [hq] at hr
      simp only [Bool.and_eq_true] at hq
      exact iv_s (fun ρ H L lsR hL _ _ _ w => row H L lsR _ _ hL.2.1 (iv_sumr (Nat.le_of_ble_eq_true hq.1.1)) (Nat.le_of_ble_eq_true hq.1.2) (Nat.le_of_ble_eq_true hq.2) w) (fun _ _ h => iv_c1 (iv_vc_int _) (iv_ct h)) (hk _ hr)
  · cases hr
theorem iv_s_oi {k : List Value → Option iv_R} (hr : iv_oi st k = some res)
    (row : ∀ (H : Heap) (L : List Loc) (lsR : Array Slot) (rest : List Value) (x : Nat), lsR.size = iv_nL mi → (rest.map fun v => v.category).sum ≤ 8 → W p l e (iv_rm mi) s m args below meth c H L cells slots (iv_MQ below (iv_Q D κ ρ0 n0 res Fr) args s (iv_rm mi).cells (iv_rm mi).slots Fr) (F0 m (pc + 3) lsR rest) → W p l e (iv_rm mi) s m args below meth c H L cells slots (iv_MQ below (iv_Q D κ ρ0 n0 res Fr) args s (iv_rm mi).cells (iv_rm mi).slots Fr) (F0 m pc lsR (.ref x :: rest)))
    (hk : ∀ st', k st' = some res → iv_Wd p l e (iv_rm mi) s m args below meth c (iv_MQ below (iv_Q D κ ρ0 n0 res Fr) args s (iv_rm mi).cells (iv_rm mi).slots Fr) D iv_cl κ Fr (iv_nL mi) ρ0 n0 (pc + 3) ls st' A cells slots) : iv_Wd p l e (iv_rm mi) s m args below meth c (iv_MQ below (iv_Q D κ ρ0 n0 res Fr) args s (iv_rm mi).cells (iv_rm mi).slots Fr) D iv_cl κ Fr (iv_nL mi) ρ0 n0 pc ls st A cells slots := by
  unfold iv_oi at hr
  split at hr
  · rename_i x r
    cases hq : Nat.ble r.length 4 with
    | false => rw [hq] at hr; cases hr
    | true =>
      rw [hq] at hr
      exact iv_s (fun ρ H L lsR hL _ _ _ w => row H L lsR _ (ρ x) hL.2.1 (iv_sumr (Nat.le_of_ble_eq_true hq)) w) (fun _ _ h => iv_ct h) (hk _ hr)
  · cases hr
theorem iv_s_na {t : ArrayType} {k : List Value → iv_A → Nat → Nat → Option iv_R} (hr : iv_na mi t A cells slots st k = some res) (hx : p.tables.exec = Jvm.exec) (hb : c.code = iv_b mi) (hts : ∀ w ∈ iv_Ws, w.before args s = true) (hKs : va_K D iv_cl (iv_tys κ) s) (hFr : ∀ q, s.heap.size ≤ q → Fr q) (hd : decode (iv_b mi) pc = .ok (.newarray t, 2))
    (hk : ∀ st' A' c' s', k st' A' c' s' = some res → iv_Wd p l e (iv_rm mi) s m args below meth c (iv_MQ below (iv_Q D κ ρ0 n0 res Fr) args s (iv_rm mi).cells (iv_rm mi).slots Fr) D iv_cl κ Fr (iv_nL mi) ρ0 n0 (pc + 2) ls st' A' c' s') : iv_Wd p l e (iv_rm mi) s m args below meth c (iv_MQ below (iv_Q D κ ρ0 n0 res Fr) args s (iv_rm mi).cells (iv_rm mi).slots Fr) D iv_cl κ Fr (iv_nL mi) ρ0 n0 pc ls st A cells slots := by
  unfold iv_na at hr
  split at hr
  · rename_i n r
    cases hq : !(decide (n < 0)) && Nat.ble (cells + 1) (iv_rm mi).cells && Nat.ble (slots + n.toNatClampNeg) (iv_rm mi).slots && Nat.ble n.toNatClampNeg 1000 with
    | false => rw [hq] at hr; cases hr
    | true =>
      rw [hq] at hr
      simp only [Bool.and_eq_true, Bool.not_eq_true', decide_eq_false_iff_not] at hq
      obtain ⟨⟨⟨q1, q2⟩, q3⟩, q4⟩ := hq
      have q2 := Nat.le_of_ble_eq_true q2
      have q3 := Nat.le_of_ble_eq_true q3
      have q4 := Nat.le_of_ble_eq_true q4
      simp only [cond_true] at hr
      split at hr
      · exact iv_s_arr (atype := .int) (t0 := 0) (kd := 0) (ty := .int) (x0 := .inl (fun _ => 0)) hx hb (hts _ iv_aI) rfl (fun cA a b => Option.some.inj (a.symm.trans b)) hKs rfl hFr (fun _ => rfl) (fun z f hf => by cases hf) (fun _ => rfl) q1 (by show n.toNatClampNeg * 4 ≤ _; omega) q2 q3 hd (hk _ _ _ _ hr)
      · exact iv_s_arr (atype := .boolean) (t0 := 1) (kd := 1) (ty := .boolean) (x0 := .inl (fun _ => 0)) hx hb (hts _ iv_aZ) rfl (fun cA a b => Option.some.inj (a.symm.trans b)) hKs rfl hFr (fun _ => rfl) (fun z f hf => by cases hf) (fun _ => rfl) q1 (by show n.toNatClampNeg * 1 ≤ _; omega) q2 q3 hd (hk _ _ _ _ hr)
      · exact iv_s_arr (atype := .long) (t0 := 2) (kd := 2) (ty := .long) (x0 := .inr (.inl (fun _ => 0))) hx hb (hts _ iv_aJ) rfl (fun cA a b => Option.some.inj (a.symm.trans b)) hKs rfl hFr (fun _ => rfl) (fun z f hf => by cases hf) (fun _ => rfl) q1 (by show n.toNatClampNeg * 8 ≤ _; omega) q2 q3 hd (hk _ _ _ _ hr)
      · cases hr
  · cases hr
theorem iv_s_nq {i ci : Nat} {k : List Value → iv_A → Nat → Nat → Option iv_R} (hr : iv_nq mi ci A cells slots st k = some res) (hC : iv_Cx p l s m args meth c mi D κ Fr ρ0 X) (hnw : iv_nw (iv_ow mi) i = some ci) (hkt : (iv_kt (ci + 3)).isSome = true) (hd : decode (iv_b mi) pc = .ok (.anewarray i, 3))
    (hk : ∀ st' A' c' s', k st' A' c' s' = some res → iv_Wd p l e (iv_rm mi) s m args below meth c (iv_MQ below (iv_Q D κ ρ0 n0 res Fr) args s (iv_rm mi).cells (iv_rm mi).slots Fr) D iv_cl κ Fr (iv_nL mi) ρ0 n0 (pc + 3) ls st' A' c' s') : iv_Wd p l e (iv_rm mi) s m args below meth c (iv_MQ below (iv_Q D κ ρ0 n0 res Fr) args s (iv_rm mi).cells (iv_rm mi).slots Fr) D iv_cl κ Fr (iv_nL mi) ρ0 n0 pc ls st A cells slots := by
  obtain ⟨hx, hb, hml, hrt, hown, hlk, hnm, htab, hts, hEv, hFr, htr⟩ := hC
  obtain ⟨w1, -, -, -⟩ := iv_nw_ok hnw
  unfold iv_nq at hr
  split at hr
  · rename_i n r
    cases hq : !(decide (n < 0)) && Nat.ble (cells + 1) (iv_rm mi).cells && Nat.ble (slots + n.toNatClampNeg) (iv_rm mi).slots && Nat.ble n.toNatClampNeg 1000 with
    | false => rw [hq] at hr; cases hr
    | true =>
      rw [hq] at hr
      simp only [Bool.and_eq_true, Bool.not_eq_true', decide_eq_false_iff_not] at hq
      obtain ⟨⟨⟨q1, q2⟩, q3⟩, q4⟩ := hq
      have q2 := Nat.le_of_ble_eq_true q2
      have q3 := Nat.le_of_ble_eq_true q3
      have q4 := Nat.le_of_ble_eq_true q4
      obtain ⟨C, hkC⟩ := Option.isSome_iff_exists.mp hkt
      obtain ⟨⟨t0, ht⟩, ci', T, N, hci, hcl⟩ := iv_tys_kt κ _ C hkC
      obtain rfl : ci = ci' := by omega
      have hCn : C = iv_on ci := (iv_cl_ok hcl).2.2.2.2.2
      have hAO : va_AO C s := by
        unfold iv_kt at hkC
        cases b1 : Nat.beq (ci + 3) 3 with
        | true => rw [b1] at hkC; obtain rfl := Option.some.inj hkC; exact hEv.2.2.1
        | false =>
          rw [b1] at hkC
          cases b2 : Nat.beq (ci + 3) 6 with
          | true => rw [b2] at hkC; obtain rfl := Option.some.inj hkC; exact hEv.2.2.2.1
          | false => rw [b2] at hkC; cases hkC
      exact iv_s_arq (C := C) (own := iv_on (iv_ow mi)) hx hb hown (by rw [hCn]; exact hts _ w1) hAO hEv.1 ht hFr q1 (by omega) q2 q3 hd (hk _ _ _ _ hr)
  · cases hr
end IvO
end
section
/-! Small facts on the methods of the JDK that have rows of their own, and on new objects. -/
theorem iv_df_nr {ci : Nat} (h : ci < 7) : ∀ ρ : Nat → Nat, (iv_df ci).map (iv_r ρ) = iv_df ci := by
  intro ρ
  match ci, h with
  | 0, _ => rfl
  | 1, _ => rfl
  | 2, _ => rfl
  | 3, _ => rfl
  | 4, _ => rfl
  | 5, _ => rfl
  | 6, _ => rfl
  | n + 7, h => omega
theorem iv_mts_pl : (iv_mts.all fun q => !q.2.2.2.2 || Nat.ble (iv_kd q.2.2.1) 2) = true := by decide +kernel
theorem iv_mt_plain {a b mj : Nat} (h : iv_mt a b = some mj) (hk : 2 < iv_kd mj) : Cond.methodLink (iv_on a) b (iv_y mj) ∈ iv_Ws := by
  unfold iv_mt at h
  obtain ⟨x, hx, hx2⟩ := Option.map_eq_some_iff.mp h
  obtain ⟨x1, x2, x3⟩ := x
  simp only at hx2
  subst hx2
  have h1 := List.all_eq_true.mp iv_mts_ok _ (iv_l2_mem hx)
  have h0 := List.all_eq_true.mp iv_mts_pl _ (iv_l2_mem hx)
  simp only [Bool.or_eq_true, Bool.not_eq_true'] at h0
  rcases h0 with h0 | h0
  · subst h0
    simp only [iv_mtc, Bool.and_eq_true, cond_false] at h1
    exact iv_Ws_at (of_decide_eq_true h1.1) rfl
  · exact absurd (Nat.le_of_ble_eq_true h0) (by omega)
theorem iv_kd_lt {j : Nat} (h : iv_kd j ≤ 8) : j < 116 := by
  refine Nat.lt_of_not_le fun hge => ?_
  have : iv_kd j = 9 := by
    unfold iv_kd
    rw [List.getD_eq_getElem?_getD, List.getElem?_eq_none (by exact hge)]
    rfl
  omega
def iv_kdn (j : Nat) : Bool := (!(Nat.beq (iv_kd j) 3) || decide (iv_y j = Lib.Math.max.name)) && ((!(Nat.beq (iv_kd j) 4) || decide (iv_y j = Lib.Math.min.name)) && ((!(Nat.beq (iv_kd j) 5) || decide (iv_y j = Lib.Math.abs.name)) && (!(Nat.beq (iv_kd j) 6) || decide (iv_y j = Lib.objectInit))))
set_option maxRecDepth 20000 in
theorem iv_kdns : ((List.range 116).all iv_kdn) = true := by decide +kernel
theorem iv_mx {j : Nat} (h : iv_kd j = 3) : iv_y j = Lib.Math.max.name := by
  have h1 := List.all_eq_true.mp iv_kdns j (List.mem_range.mpr (iv_kd_lt (by omega)))
  unfold iv_kdn at h1
  rw [h] at h1
  simp at h1
  exact h1.1
theorem iv_mn {j : Nat} (h : iv_kd j = 4) : iv_y j = Lib.Math.min.name := by
  have h1 := List.all_eq_true.mp iv_kdns j (List.mem_range.mpr (iv_kd_lt (by omega)))
  unfold iv_kdn at h1
  rw [h] at h1
  simp at h1
  exact h1.2.1
theorem iv_ma {j : Nat} (h : iv_kd j = 5) : iv_y j = Lib.Math.abs.name := by
  have h1 := List.all_eq_true.mp iv_kdns j (List.mem_range.mpr (iv_kd_lt (by omega)))
  unfold iv_kdn at h1
  rw [h] at h1
  simp at h1
  exact h1.2.2.1
theorem iv_mo {j : Nat} (h : iv_kd j = 6) : iv_y j = Lib.objectInit := by
  have h1 := List.all_eq_true.mp iv_kdns j (List.mem_range.mpr (iv_kd_lt (by omega)))
  unfold iv_kdn at h1
  rw [h] at h1
  simp at h1
  exact h1.2.2.2
theorem iv_mI : Cond.initialized "java/lang/Math" ∈ iv_Ws := iv_Ws_at (i := 28) (by decide +kernel) rfl
theorem iv_mxS : Cond.static Lib.Math.max.name ∈ iv_Ws := iv_Ws_at (i := 117) (by decide +kernel) rfl
theorem iv_mxC : Cond.code Lib.Math.max.name Lib.Math.max.code 2 (some .int) ∈ iv_Ws := iv_Ws_at (i := 118) (by decide +kernel) rfl
theorem iv_mnS : Cond.static Lib.Math.min.name ∈ iv_Ws := iv_Ws_at (i := 114) (by decide +kernel) rfl
theorem iv_mnC : Cond.code Lib.Math.min.name Lib.Math.min.code 2 (some .int) ∈ iv_Ws := iv_Ws_at (i := 115) (by decide +kernel) rfl
theorem iv_maS : Cond.static Lib.Math.abs.name ∈ iv_Ws := iv_Ws_at (i := 215) (by decide +kernel) rfl
theorem iv_maC : Cond.code Lib.Math.abs.name Lib.Math.abs.code 1 (some .int) ∈ iv_Ws := iv_Ws_at (i := 216) (by decide +kernel) rfl
theorem iv_moI : Cond.instanceMethod Lib.objectInit ∈ iv_Ws := iv_Ws_at (i := 44) (by decide +kernel) rfl
theorem iv_moC : Cond.code Lib.objectInit ⟨#[0xb1]⟩ 1 none ∈ iv_Ws := iv_Ws_at (i := 45) (by decide +kernel) rfl
theorem iv_rc6 {mi mj : Nat} {b : Bool} (h2 : 2 < iv_kd mj) (h6 : iv_kd mj ≤ 6) (hr : (bif Nat.ble (iv_kd mj) 2 then b else bif Nat.ble (iv_kd mj) 6 then Nat.ble 1 (iv_rm mi).frames && Nat.ble 20 (iv_rm mi).locals && (Nat.beq (iv_kd mj) 6 || Nat.ble 21 (iv_rm mi).locals) else true) = true) :
    1 ≤ (iv_rm mi).frames ∧ 20 ≤ (iv_rm mi).locals ∧ (iv_kd mj ≠ 6 → 21 ≤ (iv_rm mi).locals) := by
  have e1 : Nat.ble (iv_kd mj) 2 = false := by
    cases hb : Nat.ble (iv_kd mj) 2 with
    | false => rfl
    | true => exact absurd (Nat.le_of_ble_eq_true hb) (by omega)
  have e2 : Nat.ble (iv_kd mj) 6 = true := Nat.ble_eq_true_of_le h6
  rw [e1, e2] at hr
  simp only [cond_false, cond_true, Bool.and_eq_true, Bool.or_eq_true] at hr
  refine ⟨Nat.le_of_ble_eq_true hr.1.1, Nat.le_of_ble_eq_true hr.1.2, fun hne => ?_⟩
  rcases hr.2 with h | h
  · exact absurd (Nat.eq_of_beq_eq_true h) hne
  · exact Nat.le_of_ble_eq_true h
end
section
/-! One step of the machine of the picture is sound; so is a run. -/
set_option maxHeartbeats 4000000 in
theorem iv_step {l : Launch} {D : va_G} {κ : Nat → ClassId} {X : Nat → Option (Nat × (Nat → Int32))} {K : iv_K} (hK : ∀ mi pc ls st A c s r, K mi pc ls st A c s = some r → iv_G l D κ X mi pc ls st A c s r)
    {mi pc : Nat} {ls st : List Value} {A : iv_A} {cells slots : Nat} {res : iv_R} (h : iv_next X K mi pc ls st A cells slots = some res) : iv_G l D κ X mi pc ls st A cells slots res := by
  intro p e s m args below meth c Fr ρ0 n0 hC
  have hC' := hC
  obtain ⟨hx, hb, hml, hrt, hown, hlk, hnm, htab, hts, hEv, hFr, htr⟩ := hC
  have hk : ∀ pc' ls' st' A' c' s', K mi pc' ls' st' A' c' s' = some res → iv_Wd p l e (iv_rm mi) s m args below meth c (iv_MQ below (iv_Q D κ ρ0 n0 res Fr) args s (iv_rm mi).cells (iv_rm mi).slots Fr) D iv_cl κ Fr (iv_nL mi) ρ0 n0 pc' ls' st' A' c' s' := fun pc' ls' st' A' c' s' q => hK _ _ _ _ _ _ _ _ q p e s m args below meth c Fr ρ0 n0 hC'
  have hRo := hEv.2.2.2.2.2.2.2.1
  unfold iv_next at h
  split at h
  · cases h
  rename_i ins hat
  obtain ⟨len, hd, hz⟩ := iv_dec hat
  have hroom := iv_room hat
  cases ins with
  | iconst n =>
    dsimp only at h
    obtain rfl := hz rfl
    exact iv_s_push _ (fun H L lsR rest w => lv_iconst hx hb hd rfl w) (hk _ _ _ _ _ _ h)
  | bipush n =>
    dsimp only at h
    obtain rfl := hz rfl
    exact iv_s_push _ (fun H L lsR rest w => lv_bipush hx hb hd rfl w) (hk _ _ _ _ _ _ h)
  | sipush n =>
    dsimp only at h
    obtain rfl := hz rfl
    exact iv_s_push _ (fun H L lsR rest w => lv_sipush hx hb hd rfl w) (hk _ _ _ _ _ _ h)
  | ldc i =>
    dsimp only at h
    obtain rfl := hz rfl
    cases hq : iv_cn (iv_ow mi) i with
    | none => simp only [hq] at h; cases h
    | some x =>
      simp only [hq] at h
      exact iv_s_push x (fun H L lsR rest w => lv_ldc hx hb hown (hts _ (iv_cn_ok hq)) hd w) (hk _ _ _ _ _ _ h)
  | iload_n k =>
    dsimp only at h
    obtain rfl := hz rfl
    exact iv_s_ldi h (fun H L lsR rest x hl w => lv_iload_n hx hb hd rfl hl w) (fun v hv => hk _ _ _ _ _ _ hv)
  | iload k =>
    dsimp only at h
    obtain rfl := hz rfl
    exact iv_s_ldi h (fun H L lsR rest x hl w => lv_iload hx hb hd hl w) (fun v hv => hk _ _ _ _ _ _ hv)
  | aload_n k =>
    dsimp only at h
    obtain rfl := hz rfl
    exact iv_s_lda h (fun H L lsR rest x hl w => lv_aload_n hx hb hd rfl hl w) (fun v hv => hk _ _ _ _ _ _ hv)
  | aload k =>
    dsimp only at h
    obtain rfl := hz rfl
    exact iv_s_lda h (fun H L lsR rest x hl w => lv_aload hx hb hd hl w) (fun v hv => hk _ _ _ _ _ _ hv)
  | istore_n k =>
    dsimp only at h
    obtain rfl := hz rfl
    exact iv_s_sti h (fun H L lsR lv rest x q1 q2 w => lv_istore_n hx hb hd rfl q1 q2 rfl w) (fun ls' st' hv => hk _ _ _ _ _ _ hv)
  | istore k =>
    dsimp only at h
    obtain rfl := hz rfl
    exact iv_s_sti h (fun H L lsR lv rest x q1 q2 w => lv_istore hx hb hd q1 q2 rfl w) (fun ls' st' hv => hk _ _ _ _ _ _ hv)
  | astore_n k =>
    dsimp only at h
    obtain rfl := hz rfl
    exact iv_s_sta h (fun H L lsR lv rest x q1 q2 w => lv_astore_n hx hb hd rfl q1 q2 rfl w) (fun ls' st' hv => hk _ _ _ _ _ _ hv)
  | astore k =>
    dsimp only at h
    obtain rfl := hz rfl
    exact iv_s_sta h (fun H L lsR lv rest x q1 q2 w => lv_astore hx hb hd q1 q2 rfl w) (fun ls' st' hv => hk _ _ _ _ _ _ hv)
  | iinc i n =>
    dsimp only at h
    obtain rfl := hz rfl
    exact iv_s_inc h hx hb hd (fun ls' hv => hk _ _ _ _ _ _ hv)
  | iadd =>
    dsimp only at h
    obtain rfl := hz rfl
    exact iv_s_bin h (fun H L lsR rest x y w => lv_iadd hx hb hd w) (fun st' hv => hk _ _ _ _ _ _ hv)
  | isub =>
    dsimp only at h
    obtain rfl := hz rfl
    exact iv_s_bin h (fun H L lsR rest x y w => lv_isub hx hb hd w) (fun st' hv => hk _ _ _ _ _ _ hv)
  | imul =>
    dsimp only at h
    obtain rfl := hz rfl
    exact iv_s_bin h (fun H L lsR rest x y w => lv_imul hx hb hd w) (fun st' hv => hk _ _ _ _ _ _ hv)
  | iand =>
    dsimp only at h
    obtain rfl := hz rfl
    exact iv_s_bin h (fun H L lsR rest x y w => lv_iand hx hb hd w) (fun st' hv => hk _ _ _ _ _ _ hv)
  | ior =>
    dsimp only at h
    obtain rfl := hz rfl
    exact iv_s_bin h (fun H L lsR rest x y w => lv_ior hx hb hd w) (fun st' hv => hk _ _ _ _ _ _ hv)
  | ixor =>
    dsimp only at h
    obtain rfl := hz rfl
    exact iv_s_bin h (fun H L lsR rest x y w => lv_ixor hx hb hd w) (fun st' hv => hk _ _ _ _ _ _ hv)
  | ishl =>
    dsimp only at h
    obtain rfl := hz rfl
    exact iv_s_bin h (fun H L lsR rest x y w => lv_ishl hx hb hd w) (fun st' hv => hk _ _ _ _ _ _ hv)
  | ishr =>
    dsimp only at h
    obtain rfl := hz rfl
    exact iv_s_bin h (fun H L lsR rest x y w => lv_ishr hx hb hd w) (fun st' hv => hk _ _ _ _ _ _ hv)
  | idiv =>
    dsimp only at h
    obtain rfl := hz rfl
    exact iv_s_dv h (fun H L lsR rest x y hy w => lv_idiv hx hb hd hy w) (fun st' hv => hk _ _ _ _ _ _ hv)
  | irem =>
    dsimp only at h
    obtain rfl := hz rfl
    exact iv_s_dv h (fun H L lsR rest x y hy w => lv_irem hx hb hd hy w) (fun st' hv => hk _ _ _ _ _ _ hv)
  | goto off =>
    dsimp only at h
    obtain rfl := hz rfl
    exact iv_s_jp h hx hb hd (fun t hv => hk _ _ _ _ _ _ hv)
  | ifCond q off =>
    dsimp only at h
    obtain rfl := hz rfl
    unfold iv_jp at h
    split at h
    · rename_i t ht
      exact iv_s_if1 h hx hb hd ht (fun st' hv => hk _ _ _ _ _ _ hv) (fun st' hv => hk _ _ _ _ _ _ hv)
    · cases h
  | if_icmp q off =>
    dsimp only at h
    obtain rfl := hz rfl
    unfold iv_jp at h
    split at h
    · rename_i t ht
      exact iv_s_if2 h hx hb hd ht (fun st' hv => hk _ _ _ _ _ _ hv) (fun st' hv => hk _ _ _ _ _ _ hv)
    · cases h
  | dup =>
    dsimp only at h
    obtain rfl := hz rfl
    exact iv_s_dup h hx hb hd (fun st' hv => hk _ _ _ _ _ _ hv)
  | dup2 =>
    dsimp only at h
    obtain rfl := hz rfl
    exact iv_s_dup2 h hx hb hd (fun st' hv => hk _ _ _ _ _ _ hv)
  | i2l =>
    dsimp only at h
    obtain rfl := hz rfl
    exact iv_s_i2l h hx hb hd (fun st' hv => hk _ _ _ _ _ _ hv)
  | lcmp =>
    dsimp only at h
    obtain rfl := hz rfl
    exact iv_s_lcmp h hx hb hd (fun st' hv => hk _ _ _ _ _ _ hv)
  | tableswitch d lo hi offs =>
    dsimp only at h
    refine iv_s_tsw h hx hb hd (fun o st' hv => ?_)
    unfold iv_jp at hv
    split at hv
    · rename_i t ht
      exact ⟨t, ht, hk _ _ _ _ _ _ hv⟩
    · cases hv
  | lookupswitch d ps =>
    dsimp only at h
    refine iv_s_lsw h hx hb hd (fun o st' hv => ?_)
    unfold iv_jp at hv
    split at hv
    · rename_i t ht
      exact ⟨t, ht, hk _ _ _ _ _ _ hv⟩
    · cases hv
  | getfield i =>
    dsimp only at h
    obtain rfl := hz rfl
    cases hq : iv_fl (iv_ow mi) i with
    | none => simp only [hq] at h; cases h
    | some q =>
      obtain ⟨ci, f⟩ := q
      simp only [hq] at h
      obtain ⟨C, T, N, hc, hf, ht1, hlink⟩ := iv_fl_ok hq
      exact iv_s_gf h hx hb hts (iv_cl_ok hc).1 hown hEv.1 hc hf (host := "TripGuard") (hlink.imp (hts _) (fun q => iv_Ns_use q.2 (hEv.2.1 _ q.2))) hd (fun st' hv => hk _ _ _ _ _ _ hv)
  | putfield i =>
    dsimp only at h
    obtain rfl := hz rfl
    cases hq : iv_fl (iv_ow mi) i with
    | none => simp only [hq] at h; cases h
    | some q =>
      obtain ⟨ci, f⟩ := q
      simp only [hq] at h
      obtain ⟨C, T, N, hc, hf, ht1, hlink⟩ := iv_fl_ok hq
      have hcP := iv_cl_ok hc
      have hfin : (T f).2.2.2 = iv_fin ci f := hcP.2.2.2.1 f hf
      have hCn : C = iv_on ci := hcP.2.2.2.2.2
      cases hg : !(iv_fin ci f) || (iv_ini mi && Nat.beq (iv_ow mi) ci) with
      | false => rw [hg] at h; cases h
      | true =>
        rw [hg] at h
        simp only [cond_true] at h
        refine iv_s_pf h hx hb hts hcP.1 (iv_ft ci) hcP.2.2.1 hcP.2.1 hown hEv.1 hc hf rfl (host := "TripGuard") ?_ hd (fun A' st' hv => hk _ _ _ _ _ _ hv)
        cases hfi : iv_fin ci f with
        | false => exact Or.inl ⟨hfin.trans hfi, hlink.imp (hts _) (fun q => iv_Ns_use q.2 (hEv.2.1 _ q.2))⟩
        | true =>
          rw [hfi] at hg
          simp only [Bool.not_true, Bool.false_or, Bool.and_eq_true] at hg
          have how : iv_ow mi = ci := Nat.eq_of_beq_eq_true hg.2
          rcases hlink with hl | hl
          · exact Or.inr ⟨hfin.trans hfi, hnm hg.1, by rw [ht1, hCn, how], hts _ hl⟩
          · exact absurd how hl.1
  | getstatic i =>
    dsimp only at h
    obtain rfl := hz rfl
    cases hq : iv_sf (iv_ow mi) i with
    | none => simp only [hq] at h; cases h
    | some z =>
      simp only [hq] at h
      rcases iv_sf_ok hq with ⟨rfl, hl⟩ | ⟨rfl, hl⟩
      · refine iv_s (fun ρ H L lsR _ _ hS h1 w => ?_) (fun _ _ h => iv_c1 (fun i hi => by cases hi; exact Nat.zero_lt_succ _) h) (hk _ _ _ _ _ _ h)
        refine va_gets hx hb hEv.2.2.2.2.2.1 hS hown (hts _ hl) (fun _ q => q) hd ?_
        rw [← h1 0 (by omega)]
        exact w
      · refine iv_s (fun ρ H L lsR _ _ hS h1 w => ?_) (fun _ _ h => iv_c1 (fun i hi => by cases hi; exact Nat.succ_lt_succ (Nat.zero_lt_succ _)) h) (hk _ _ _ _ _ _ h)
        refine va_gets hx hb hEv.2.2.2.2.2.2.1 hS hown (hts _ hl) (fun _ q => q) hd ?_
        rw [← h1 1 (by omega)]
        exact w
  | iaload =>
    dsimp only at h
    obtain rfl := hz rfl
    exact iv_s_ald (t0 := 0) h hRo hx hb hEv.1 rfl hd (fun st' hv => hk _ _ _ _ _ _ hv)
  | baload =>
    dsimp only at h
    obtain rfl := hz rfl
    exact iv_s_zld (t0 := 1) h hx hb hEv.1 rfl hd (fun st' hv => hk _ _ _ _ _ _ hv)
  | iastore =>
    dsimp only at h
    obtain rfl := hz rfl
    exact iv_s_ast (t0 := 0) (ty := .int) h (fun ws H L lsR rest a q0 n f j x hP hD hS ha hin w => va_iast hx hb hEv.1 hP hD hS q0 0 ha rfl hin hd w) (fun A' st' hv => hk _ _ _ _ _ _ hv)
  | bastore =>
    dsimp only at h
    obtain rfl := hz rfl
    exact iv_s_ast (t0 := 1) (ty := .boolean) h (fun ws H L lsR rest a q0 n f j x hP hD hS ha hin w => va_zast hx hb hEv.1 hP hD hS q0 1 ha rfl hin hd w) (fun A' st' hv => hk _ _ _ _ _ _ hv)
  | laload =>
    dsimp only at h
    obtain rfl := hz rfl
    exact iv_s_lld (t0 := 2) h hx hb hEv.1 rfl hd (fun st' hv => hk _ _ _ _ _ _ hv)
  | lastore =>
    dsimp only at h
    obtain rfl := hz rfl
    exact iv_s_lst (t0 := 2) h hx hb hEv.1 rfl hd (fun A' st' hv => hk _ _ _ _ _ _ hv)
  | aaload =>
    dsimp only at h
    obtain rfl := hz rfl
    exact iv_s_rld h (iv_tys_kt κ) hx hb hEv.1 hd (fun st' hv => hk _ _ _ _ _ _ hv)
  | aastore =>
    dsimp only at h
    obtain rfl := hz rfl
    exact iv_s_rst h (iv_tys_kt κ) hx hb hEv.1 hd (fun A' st' hv => hk _ _ _ _ _ _ hv)
  | arraylength =>
    dsimp only at h
    obtain rfl := hz rfl
    exact iv_s_len h hRo (iv_tys_kk κ) hx hb hEv.1 hd (fun st' hv => hk _ _ _ _ _ _ hv)
  | newarray t =>
    dsimp only at h
    obtain rfl := hz rfl
    exact iv_s_na h hx hb hts hEv.1 hFr hd (fun st' A' c' s' hv => hk _ _ _ _ _ _ hv)
  | anewarray i =>
    dsimp only at h
    obtain rfl := hz rfl
    cases hq : iv_an (iv_ow mi) i with
    | none => simp only [hq] at h; cases h
    | some ci =>
      simp only [hq] at h
      cases hkt : (iv_kt (ci + 3)).isSome with
      | false => rw [hkt] at h; cases h
      | true =>
        rw [hkt] at h
        exact iv_s_nq h hC' hq hkt hd (fun st' A' c' s' hv => hk _ _ _ _ _ _ hv)
  | new i =>
    dsimp only at h
    obtain rfl := hz rfl
    cases hq : iv_nw (iv_ow mi) i with
    | none => simp only [hq] at h; cases h
    | some ci =>
      simp only [hq] at h
      cases hxc : iv_xc ci with
      | true =>
        rw [hxc] at h
        have hr : (Nat.ble 6 (iv_rm mi).frames && Nat.ble 89 (iv_rm mi).locals) = true := by
          have hr := hroom
          simp only [iv_rck, hq, hxc, cond_true] at hr
          exact hr
        simp only [Bool.and_eq_true] at hr
        exact iv_s_thn hC' h hq hd (Nat.le_of_ble_eq_true hr.1) (Nat.le_of_ble_eq_true hr.2)
      | false =>
        rw [hxc] at h
        simp only [cond_false] at h
        cases hg : Nat.ble (cells + 1) (iv_rm mi).cells && Nat.ble (slots + iv_fn ci) (iv_rm mi).slots with
        | false => rw [hg] at h; cases h
        | true =>
          rw [hg] at h
          simp only [Bool.and_eq_true] at hg
          obtain ⟨w1, w2, w3, w4⟩ := iv_nw_ok hq
          have hlt : ci < 7 := by
            refine Nat.lt_of_not_le fun q => ?_
            have : iv_xc ci = true := Nat.ble_eq_true_of_le q
            rw [this] at hxc
            cases hxc
          obtain ⟨T, N, hcl⟩ := iv_cl_lt hlt
          have hcP := iv_cl_ok hcl
          obtain ⟨hdf, hN⟩ := hcP.2.2.2.2.1 hlt
          subst hN
          have hblt : Nat.blt ci 7 = true := Nat.ble_eq_true_of_le hlt
          rw [hblt] at w3
          exact iv_s_obj (ty := iv_ft ci) hx hb hts hcP.1 hcP.2.2.1 hown (hts _ w1) (hts _ w3) (hts _ w4) hEv.1 hFr hcl hdf (iv_df_nr hlt) (Nat.le_of_ble_eq_true hg.1) (Nat.le_of_ble_eq_true hg.2) hd (hk _ _ _ _ _ _ h)
  | invokevirtual i =>
    dsimp only at h
    obtain rfl := hz rfl
    cases hq : iv_mt (iv_ow mi) i with
    | none => simp only [hq] at h; cases h
    | some mj =>
      simp only [hq] at h
      cases hg : iv_kd mj == 0 with
      | false => rw [hg] at h; cases h
      | true =>
        rw [hg] at h
        exact iv_s_V hK hC' hq (by simpa using hg) hroom hd h
  | invokestatic i =>
    dsimp only at h
    obtain rfl := hz rfl
    cases hq : iv_mt (iv_ow mi) i with
    | none => simp only [hq] at h; cases h
    | some mj =>
      simp only [hq] at h
      have hr := hroom
      simp only [iv_rck, iv_rc1, hq] at hr
      split at h
      · rename_i hkd
        exact iv_s_S hK hC' hq hkd hroom hd h
      · rename_i hkd
        obtain ⟨hf1, -, hl1⟩ := iv_rc6 (mi := mi) (by rw [hkd]; decide) (by rw [hkd]; decide) hr
        have hl1 := hl1 (by rw [hkd]; decide)
        have hl := iv_mt_plain hq (by rw [hkd]; decide)
        rw [iv_mx hkd] at hl
        exact iv_s_m2 h (fun H L lsR rest x y q1 q2 q3 q4 w => va_mmax hx hb (by rw [hml, q1]) hown (hts _ hl) (hts _ iv_mxS) (hts _ iv_mI) (hts _ iv_mxC) hf1 (by omega) q3 q4 hd w) (fun st' hv => hk _ _ _ _ _ _ hv)
      · rename_i hkd
        obtain ⟨hf1, -, hl1⟩ := iv_rc6 (mi := mi) (by rw [hkd]; decide) (by rw [hkd]; decide) hr
        have hl1 := hl1 (by rw [hkd]; decide)
        have hl := iv_mt_plain hq (by rw [hkd]; decide)
        rw [iv_mn hkd] at hl
        exact iv_s_m2 h (fun H L lsR rest x y q1 q2 q3 q4 w => va_mmin hx hb (by rw [hml, q1]) hown (hts _ hl) (hts _ iv_mnS) (hts _ iv_mI) (hts _ iv_mnC) hf1 (by omega) q3 q4 hd w) (fun st' hv => hk _ _ _ _ _ _ hv)
      · rename_i hkd
        obtain ⟨hf1, -, hl1⟩ := iv_rc6 (mi := mi) (by rw [hkd]; decide) (by rw [hkd]; decide) hr
        have hl1 := hl1 (by rw [hkd]; decide)
        have hl := iv_mt_plain hq (by rw [hkd]; decide)
        rw [iv_ma hkd] at hl
        exact iv_s_m1 h (fun H L lsR rest x q1 q2 q3 q4 w => va_mabs hx hb (by rw [hml, q1]) hown (hts _ hl) (hts _ iv_maS) (hts _ iv_mI) (hts _ iv_maC) hf1 (by omega) q3 q4 hd w) (fun st' hv => hk _ _ _ _ _ _ hv)
      · cases h
  | invokespecial i =>
    dsimp only at h
    obtain rfl := hz rfl
    cases hq : iv_mt (iv_ow mi) i with
    | none => simp only [hq] at h; cases h
    | some mj =>
      simp only [hq] at h
      have hr := hroom
      simp only [iv_rck, iv_rc1, hq] at hr
      split at h
      · rename_i hkd
        exact iv_s_I hK hC' hq hkd hroom hd h
      · rename_i hkd
        obtain ⟨hr1, hr2, -⟩ := iv_rc6 (mi := mi) (by rw [hkd]; decide) (by rw [hkd]; decide) hr
        have hl := iv_mt_plain hq (by rw [hkd]; decide)
        rw [iv_mo hkd] at hl
        exact iv_s_oi h (fun H L lsR rest x q1 q2 w => W.objInit (g := F0 m pc lsR (.ref x :: rest)) hx hb hown (hts _ hl) (hts _ iv_moI) (hts _ iv_moC) rfl (by rw [hml]; exact q1) rfl hd hr1 (by show 2 * 0 + _ + 12 ≤ _; omega) w) (fun st' hv => hk _ _ _ _ _ _ hv)
      · cases h
  | ireturn =>
    dsimp only at h
    obtain rfl := hz rfl
    split at h
    · rename_i x
      split at h
      · rename_i ty hty
        cases hg : iv_fit ty (.int x) with
        | false => rw [hg] at h; cases h
        | true =>
          rw [hg] at h
          exact iv_s_ret hC' hty hg h hd
      · cases h
    · cases h
  | return_ =>
    dsimp only at h
    obtain rfl := hz rfl
    split at h
    · split at h
      · rename_i hty
        exact iv_s_vret hC' hty h hd
      · cases h
    · cases h
  | _ => first | (dsimp only at h; cases h) | (simp at h)
theorem iv_sound {l : Launch} {D : va_G} {κ : Nat → ClassId} {X : Nat → Option (Nat × (Nat → Int32))} : ∀ (n : Nat) (mi pc : Nat) (ls st : List Value) (A : iv_A) (c s : Nat) (r : iv_R), iv_run X n mi pc ls st A c s = some r → iv_G l D κ X mi pc ls st A c s r
  | 0, _, _, _, _, _, _, _, _, h => by cases h
  | n + 1, _, _, _, _, _, _, _, _, h => iv_step (iv_sound n) h
end
section
/-! words of the start -/
theorem iv_i0 : Cond.instantiable (iv_on 0) 8 ∈ iv_Ws := iv_Ws_at (i := 119) (by decide +kernel) rfl
theorem iv_i1 : Cond.instantiable (iv_on 1) 3 ∈ iv_Ws := iv_Ws_at (i := 47) (by decide +kernel) rfl
theorem iv_i2 : Cond.instantiable (iv_on 2) 2 ∈ iv_Ws := iv_Ws_at (i := 71) (by decide +kernel) rfl
theorem iv_i3 : Cond.instantiable (iv_on 3) 4 ∈ iv_Ws := iv_Ws_at (i := 151) (by decide +kernel) rfl
theorem iv_i4 : Cond.instantiable (iv_on 4) 5 ∈ iv_Ws := iv_Ws_at (i := 87) (by decide +kernel) rfl
theorem iv_i5 : Cond.instantiable (iv_on 5) 8 ∈ iv_Ws := iv_Ws_at (i := 39) (by decide +kernel) rfl
theorem iv_i6 : Cond.instantiable (iv_on 6) 30 ∈ iv_Ws := iv_Ws_at (i := 545) (by decide +kernel) rfl
theorem iv_i7 : Cond.instantiable (iv_on 7) 6 ∈ iv_Ws := iv_Ws_at (i := 335) (by decide +kernel) rfl
theorem iv_i8 : Cond.instantiable (iv_on 8) 6 ∈ iv_Ws := iv_Ws_at (i := 424) (by decide +kernel) rfl
theorem iv_i9 : Cond.instantiable (iv_on 9) 6 ∈ iv_Ws := iv_Ws_at (i := 519) (by decide +kernel) rfl
theorem iv_lw {w : Cond} (i : Nat) (h : lw_tbl[i]? = some w) : w ∈ lw_tbl := List.mem_of_getElem? h
theorem iv_oC : Cond.arrayOver (.object "TripGuard$Channel") ∈ lw_tbl := iv_lw 67 (by decide +kernel)
theorem iv_oT : Cond.arrayOver (.object "TripGuard$Train") ∈ lw_tbl := iv_lw 69 (by decide +kernel)
theorem iv_lsC : Cond.laysStatic "TripGuard$Channel" "CURVE" "[I" ∈ lw_tbl := iv_lw 244 (by decide +kernel)
theorem iv_lsN : Cond.laysStatic "TripGuard$Train" "NEEDED" "[I" ∈ lw_tbl := iv_lw 291 (by decide +kernel)
theorem iv_lsU : Cond.laysStatic "java/lang/Throwable" "UNASSIGNED_STACK" "[Ljava/lang/StackTraceElement;" ∈ lw_tbl := iv_lw 361 (by decide +kernel)
theorem iv_lsS : Cond.laysStatic "java/lang/Throwable" "SUPPRESSED_SENTINEL" "Ljava/util/List;" ∈ lw_tbl := iv_lw 363 (by decide +kernel)
theorem iv_inC : Cond.initialized "TripGuard$Channel" ∈ lw_tbl := iv_lw 29 (by decide +kernel)
theorem iv_inT : Cond.initialized "TripGuard$Train" ∈ lw_tbl := iv_lw 30 (by decide +kernel)
/-! From the law's entry to the machine of the picture. -/
def iv_Xs (L : Nat) (xs : Nat → Int32) (i : Nat) : Option (Nat × (Nat → Int32)) := match i with
  | 0 => some (5, fun j => ([3600, 3300, 2900, 2200, 1500] : List Int32).getD j 0)
  | 1 => some (3, fun j => ([2, 4, 3] : List Int32).getD j 0)
  | 2 => some (L, xs)
  | _ => none
theorem iv_hasD {s : State} {args : Array Value} (hts : ∀ w ∈ iv_Ws, w.before args s = true) : ∃ D : va_G, ∀ (c : Nat) (q : vw_C), iv_cl[c]? = some q → u_Kn s q.1 q.2.1 q.2.2 (D.1 c) (D.2 c) := by
  have h : ∀ ci : Nat, ∃ z : ClassId × (Nat → Nat), ∀ q : vw_C, iv_cl[ci]? = some q → u_Kn s q.1 q.2.1 q.2.2 z.1 z.2 := by
    intro ci
    cases hc : iv_cl[ci]? with
    | none => exact ⟨(0, fun _ => 0), fun q hq => by cases hq⟩
    | some q =>
      obtain ⟨C, T, N⟩ := q
      have hcP := iv_cl_ok hc
      have hlt : ci < 10 := (List.getElem?_eq_some_iff.mp hc).1
      have hin : ∃ n, Cond.instantiable C n ∈ iv_Ws := by
        rw [hcP.2.2.2.2.2]
        match ci, hlt with
        | 0, _ => exact ⟨_, iv_i0⟩
        | 1, _ => exact ⟨_, iv_i1⟩
        | 2, _ => exact ⟨_, iv_i2⟩
        | 3, _ => exact ⟨_, iv_i3⟩
        | 4, _ => exact ⟨_, iv_i4⟩
        | 5, _ => exact ⟨_, iv_i5⟩
        | 6, _ => exact ⟨_, iv_i6⟩
        | 7, _ => exact ⟨_, iv_i7⟩
        | 8, _ => exact ⟨_, iv_i8⟩
        | 9, _ => exact ⟨_, iv_i9⟩
        | n + 10, h => omega
      obtain ⟨n, hn⟩ := hin
      obtain ⟨cC, iS, hk⟩ := u_known hts hcP.1 (hts _ hn)
      exact ⟨(cC, iS), fun q hq => by cases hq; exact hk⟩
  obtain ⟨f, hf⟩ := Classical.axiomOfChoice h
  exact ⟨(fun c => (f c).1, fun c => (f c).2), fun c q hq => hf c q hq⟩
theorem iv_hasA {s : State} {args : Array Value} {ty : FieldType} (h : (Cond.arrayClass ty).before args s = true) : ∃ cA : ClassId, ArrOfT s cA ty ∧ s.vm.findClass ("[" ++ ty.toString) = some cA := by
  obtain ⟨cA, kA, comp, h1, h2, h3⟩ := Cond.arrayClass_spec h
  exact ⟨cA, fun n z => ⟨fun k h => (by cases h), kA, h2, comp, h3⟩, h1⟩
theorem iv_hasQ {s : State} {C : String} (h : va_AO C s) : ∃ cA : ClassId, ArrOfT s cA (.object C) ∧ va_RA s cA (.object C) := by
  obtain ⟨comp, cA, kA, h1, h2, h3, h4, h5⟩ := Cond.arrayOver_spec h
  exact ⟨cA, fun n z => ⟨fun k h => (by cases h), kA, h3, comp, h4⟩, kA, comp, h3, h4, h1, h5⟩
theorem iv_hasK {s : State} {args : Array Value} (hts : ∀ w ∈ iv_Ws, w.before args s = true) (hC : va_AO "TripGuard$Channel" s) (hT : va_AO "TripGuard$Train" s) : ∃ (D : va_G) (κ : Nat → ClassId), va_K D iv_cl (iv_tys κ) s := by
  obtain ⟨D, hD⟩ := iv_hasD hts
  obtain ⟨c0, a0, f0⟩ := iv_hasA (hts _ iv_aI)
  obtain ⟨c1, a1, f1⟩ := iv_hasA (hts _ iv_aZ)
  obtain ⟨c2, a2, f2⟩ := iv_hasA (hts _ iv_aJ)
  obtain ⟨c3, a3, f3⟩ := iv_hasQ hC
  obtain ⟨c4, a4, f4⟩ := iv_hasQ hT
  refine ⟨D, fun k => ([c0, c1, c2, c3, 0, 0, c4] : List ClassId).getD k 0, hD, fun k q hk => ?_⟩
  match k, hk with
  | 0, hk => cases hk; exact ⟨a0, f0⟩
  | 1, hk => cases hk; exact ⟨a1, f1⟩
  | 2, hk => cases hk; exact ⟨a2, f2⟩
  | 3, hk => cases hk; exact ⟨a3, f3⟩
  | 4, hk => cases hk; exact ⟨a4, f4⟩
  | n + 5, hk => cases hk
end
section
/-! The entry of the law. (The first rows are the skeleton's.) -/
def R_law : String := "TripGuardLaw"
def lw_P (b : Addr) (xs : List Int32) (args : Array Value) (s : State) : Prop := args = #[.ref b] ∧ s.IntsAt b xs ∧ xs.length ≤ 2049 ∧ (Jvm.Cond.and given_1 narrow_1).before args s = true
def lw_Q (_ : Array Value) (s : State) (o : Outcome) (t : State) : Prop := o = .returned (some (.int 1)) ∧ Framed s o t [] 601024 7293000
def lw_Z (below : List Frame) (a : Array Value) (s : State) : State → Prop := fun t => ∃ o, t.status = .running ∧ Ended t below o ∧ lw_Q a s o t
/-- what holds at the law's entry: the machine, the code, the tables' words (any of lw_tbl by 'hts w (by decide +kernel)'), the script of L ints xs at the cell b, what the Statement gives of the start (any of its parts by flat_of_before) -/
def lw_At (p : Program) (s : State) (m : MethodId) (meth : Method) (c : Code) (b L : Nat) (xs : Nat → Int32) : Prop :=
  p.tables.exec = Jvm.exec ∧ c.code = code ∧ meth.sig.returnType = ret ∧ c.maxLocals = 7 ∧ s.vm.findClass R_law = some m.cls ∧ (∀ w ∈ lw_tbl, w.before #[Value.ref b] s = true) ∧ va_X b L xs s s.heap ∧ b < s.heap.size ∧ meth.locks = false ∧ (Jvm.Cond.and given_1 narrow_1).before #[Value.ref b] s = true
/-- the ground at the law's entry -/
theorem iv_ground {p : Program} {s : State} {m : MethodId} {meth : Method} {c : Code} {b L : Nat} {xs : Nat → Int32} (hL : L ≤ 2049) (C0 : lw_At p s m meth c b L xs) :
    ∃ (D : va_G) (κ : Nat → ClassId) (ρ0 : Nat → Nat), ρ0 2 = b ∧ iv_Ev D κ (fun q => s.heap.size ≤ q) ρ0 (iv_Xs L xs) s := by
  obtain ⟨hx, hb, hr, hml, hown, hts0, hX, hbl, hlk, hgv⟩ := C0
  have hts : ∀ w ∈ iv_Ws, w.before #[Value.ref b] s = true := fun w hw => hts0 w (List.mem_filter.mp hw).1
  have hs := flat_of_before _ hgv
  have hoC : va_AO "TripGuard$Channel" s := va_AO.of (hts0 _ iv_oC)
  have hoT : va_AO "TripGuard$Train" s := va_AO.of (hts0 _ iv_oT)
  obtain ⟨D, κ, hK⟩ := iv_hasK hts hoC hoT
  have hFr : ∀ a : Nat, a < s.heap.size → ¬ (fun q => s.heap.size ≤ q) a := fun a ha h => absurd h (Nat.not_le.mpr ha)
  have hsm : ∀ (t : Term) (z : Int32), Cond.eq t (.int z) ∈ flatC (Jvm.Cond.and given_1 narrow_1) → t.eval #[Value.ref b] s none [] s = some (.int z) := fun t z hm => va_eqt (hs _ hm)
  obtain ⟨t0, v0, T0⟩ := va_Tof (args := #[Value.ref b]) (s := s) (tm := .static "TripGuard$Channel" "CURVE" "[I") (ty := .int) (N := 5) (f := fun j => .int (([3600, 3300, 2900, 2200, 1500] : List Int32).getD j 0)) (A := fun q => s.heap.size ≤ q) (by decide) (hs _ (by decide +kernel)) (hsm _ 5 (by decide +kernel))
    (fun j hj => by
      match j, hj with
      | 0, _ => exact hsm _ 3600 (by decide +kernel)
      | 1, _ => exact hsm _ 3300 (by decide +kernel)
      | 2, _ => exact hsm _ 2900 (by decide +kernel)
      | 3, _ => exact hsm _ 2200 (by decide +kernel)
      | 4, _ => exact hsm _ 1500 (by decide +kernel)
      | n + 5, h => omega) hFr
  obtain ⟨t1, v1, T1⟩ := va_Tof (args := #[Value.ref b]) (s := s) (tm := .static "TripGuard$Train" "NEEDED" "[I") (ty := .int) (N := 3) (f := fun j => .int (([2, 4, 3] : List Int32).getD j 0)) (A := fun q => s.heap.size ≤ q) (by decide) (hs _ (by decide +kernel)) (hsm _ 3 (by decide +kernel))
    (fun j hj => by
      match j, hj with
      | 0, _ => exact hsm _ 2 (by decide +kernel)
      | 1, _ => exact hsm _ 4 (by decide +kernel)
      | 2, _ => exact hsm _ 3 (by decide +kernel)
      | n + 3, h => omega) hFr
  refine ⟨D, κ, fun i => match i with | 0 => t0 | 1 => t1 | _ => b, rfl, hK, fun w hw => ?_, hoC, hoT, ?_, va_Zof (hts0 _ iv_lsC) (hts0 _ iv_inC) v0 hFr, va_Zof (hts0 _ iv_lsN) (hts0 _ iv_inT) v1 hFr, ?_, iv_LS.of (hts0 _ iv_lsU) (hs _ (by decide +kernel)) hFr, iv_LS.of (hts0 _ iv_lsS) (hs _ (by decide +kernel)) hFr⟩
  · have h1 := (List.mem_filter.mp hw).2
    have h2 := hts0 w (List.mem_filter.mp hw).1
    unfold iv_isN at h1
    split at h1
    · exact va_Nw.of rfl h2
    · exact va_Nw.of rfl h2
    · exact va_Nw.of rfl h2
    · exact va_Nw.of rfl h2
    · cases h1
  · intro ci ce c7 c10 e7 e10 hne
    match ci, ce, c7, c10, e7, e10, hne with
    | 7, 8, _, _, _, _, _ => exact va_Nc.of (hs _ (by decide +kernel))
    | 7, 9, _, _, _, _, _ => exact va_Nc.of (hs _ (by decide +kernel))
    | 8, 7, _, _, _, _, _ => exact va_Nc.of (hs _ (by decide +kernel))
    | 8, 9, _, _, _, _, _ => exact va_Nc.of (hs _ (by decide +kernel))
    | 9, 7, _, _, _, _, _ => exact va_Nc.of (hs _ (by decide +kernel))
    | 9, 8, _, _, _, _, _ => exact va_Nc.of (hs _ (by decide +kernel))
    | 7, 7, _, _, _, _, h => exact absurd rfl h
    | 8, 8, _, _, _, _, h => exact absurd rfl h
    | 9, 9, _, _, _, _, h => exact absurd rfl h
    | n + 10, _, _, h, _, _, _ => omega
    | _, n + 10, _, _, _, h, _ => omega
  · intro i n f hi
    match i, hi with
    | 0, hi => cases hi; exact ⟨by decide, T0⟩
    | 1, hi => cases hi; exact ⟨by decide, T1⟩
    | 2, hi =>
      cases hi
      obtain ⟨scr, h1, h2, h3, h4, h5⟩ := hX
      exact ⟨by decide, scr, h1, h2, h3, Nat.le_of_eq h4.symm, (by rw [h4]), h5, hFr b hbl⟩
    | n + 3, hi => cases hi
/-- the law's walk out of a run of the picture -/
theorem iv_entry {p : Program} {e : Env} {s : State} {m : MethodId} {below : List Frame} {meth : Method} {c : Code} (l : Launch) (hfl : l.flags = flags0) (htb : c.exceptionTable.toList = []) {b L : Nat} {xs : Nat → Int32} (hL : L ≤ 2049) (C0 : lw_At p s m meth c b L xs)
    (hrun : ∃ (n : Nat) (A : iv_A), iv_run (iv_Xs L xs) n 115 0 (iv_pad 115 [.ref 2]) [] [] 0 0 = some (.inl (some (.int 1)), A)) :
    W p l e room_1 s m #[Value.ref b] below meth c s.heap [] 0 0 (lw_Z below #[Value.ref b] s) (entryFrame m ([Value.ref b] : List Value).toArray 7) := by
  obtain ⟨n, A, hrun⟩ := hrun
  obtain ⟨D, κ, ρ0, hρ, hEv⟩ := iv_ground hL C0
  obtain ⟨hx, hb, hr, hml, hown, hts0, hX, hbl, hlk, hgv⟩ := C0
  have hG := iv_sound (l := l) (D := D) (κ := κ) n _ _ _ _ _ _ _ _ hrun p e s m #[Value.ref b] below meth c (fun q => s.heap.size ≤ q) ρ0 0
    ⟨hx, hb, hml, hr, hown, hlk, (fun h => by cases h), htb, fun w hw => hts0 w (List.mem_filter.mp hw).1, hEv, fun q h => h, fun e he => Launch.traces_off hfl he⟩
  have hent := hG ρ0 s.heap [] _ (fun _ _ => rfl) (Nat.le_refl _) (fun i e h => by cases h) (fun v hv => ?_) (fun v hv => by cases hv) (iv_L.entry (ρ := ρ0) (nL := 7) (as := [.ref 2]) (fun v hv => by rw [List.mem_singleton.mp hv]; rfl) (by decide)) (fun k q h => by cases h) ⟨fun i j p q h => (by cases h), fun k q h => (by cases h)⟩ va_S.rf
  · rw [entry_eq m [Value.ref b] (fun v hv => by rw [List.mem_singleton.mp hv]; rfl)]
    have hent : W p l e room_1 s m #[Value.ref b] below meth c s.heap [] 0 0 (iv_MQ below (iv_Q D κ ρ0 0 (.inl (some (.int 1)), A) (fun q => s.heap.size ≤ q)) #[Value.ref b] s 601024 7293000 (fun q => s.heap.size ≤ q)) (F0 m 0 ((([.ref 2] : List Value).map (iv_r ρ0)).map Slot.val ++ List.replicate (7 - (([.ref 2] : List Value).map (iv_r ρ0)).length) Slot.unset).toArray []) := hent
    have e1 : ([.ref 2] : List Value).map (iv_r ρ0) = [Value.ref b] := by simp [iv_r, hρ]
    rw [e1] at hent
    refine iv_mono (fun t ht => ?_) hent
    obtain ⟨o, h1, h2, ⟨⟨ρ, -, h3, -⟩, -⟩, LL, ⟨h4, h5⟩, h6⟩ := ht
    have h3 : o = .returned (some (.int 1)) := h3
    exact ⟨o, h1, h2, h3, ⟨_, h3⟩, h4, h5.weaken (fun y hy hlt => absurd hlt (Nat.not_lt.mpr (h6 y hy))) (Nat.le_refl _) (Nat.le_refl _)⟩
  · rcases List.mem_append.mp hv with h1 | h1
    · rw [List.mem_singleton.mp h1]
      intro i hi
      cases hi
      exact Nat.lt_of_lt_of_le (by decide : 2 < 3) (Nat.le_add_left _ _)
    · rw [(List.mem_replicate.mp h1).2]
      exact iv_vc_un 0
end
section
/-! Runs of the picture, whatever fuel is left: rules. -/
def iv_ev (X : Nat → Option (Nat × (Nat → Int32))) (mi pc : Nat) (ls st : List Value) (A : iv_A) (c s : Nat) (r : iv_R) : Prop := ∃ k : Nat, ∀ n : Nat, iv_run X (n + k) mi pc ls st A c s = some r
section IvR
variable {X : Nat → Option (Nat × (Nat → Int32))} {mi pc mi' pc' mi'' pc'' : Nat} {ls st ls' st' ls'' st'' : List Value} {A A' A'' : iv_A} {c s c' s' c'' s'' : Nat} {r : iv_R}
theorem iv_blk (k : Nat) (h : ∀ n : Nat, iv_run X (n + k) mi pc ls st A c s = iv_run X n mi' pc' ls' st' A' c' s') (h2 : iv_ev X mi' pc' ls' st' A' c' s' r) : iv_ev X mi pc ls st A c s r := by
  obtain ⟨k2, h2⟩ := h2
  exact ⟨k2 + k, fun n => by rw [← Nat.add_assoc, h]; exact h2 n⟩
theorem iv_brt (k i j : Nat) {b : Bool} (hb : b = true) (h : ∀ n : Nat, iv_run X (n + k) mi pc ls st A c s = bif b then iv_run X (n + i) mi' pc' ls' st' A' c' s' else iv_run X (n + j) mi'' pc'' ls'' st'' A'' c'' s'') (h2 : iv_ev X mi' pc' ls' st' A' c' s' r) : iv_ev X mi pc ls st A c s r := by
  obtain ⟨k2, h2⟩ := h2
  subst hb
  refine ⟨k2 + k, fun n => ?_⟩
  rw [← Nat.add_assoc, h]
  show iv_run X (n + k2 + i) mi' pc' ls' st' A' c' s' = _
  rw [Nat.add_right_comm]
  exact h2 (n + i)
theorem iv_brf (k i j : Nat) {b : Bool} (hb : b = false) (h : ∀ n : Nat, iv_run X (n + k) mi pc ls st A c s = bif b then iv_run X (n + i) mi' pc' ls' st' A' c' s' else iv_run X (n + j) mi'' pc'' ls'' st'' A'' c'' s'') (h2 : iv_ev X mi'' pc'' ls'' st'' A'' c'' s'' r) : iv_ev X mi pc ls st A c s r := by
  obtain ⟨k2, h2⟩ := h2
  subst hb
  refine ⟨k2 + k, fun n => ?_⟩
  rw [← Nat.add_assoc, h]
  show iv_run X (n + k2 + j) mi'' pc'' ls'' st'' A'' c'' s'' = _
  rw [Nat.add_right_comm]
  exact h2 (n + j)
theorem iv_chk (k : Nat) {b : Bool} (hb : b = true) (h : ∀ n : Nat, iv_run X (n + k) mi pc ls st A c s = bif b then iv_run X n mi' pc' ls' st' A' c' s' else none) (h2 : iv_ev X mi' pc' ls' st' A' c' s' r) : iv_ev X mi pc ls st A c s r := by
  subst hb
  exact iv_blk k h h2
theorem iv_ret (k : Nat) (h : ∀ n : Nat, iv_run X (n + k) mi pc ls st A c s = some r) : iv_ev X mi pc ls st A c s r := ⟨k, h⟩
theorem iv_cal (k mj : Nat) {as rest : List Value} {v : Option Value} (h : ∀ n : Nat, iv_run X (n + k) mi pc ls st A c s = iv_inv (iv_run X n) mi' pc' ls' rest A' c' s' mj as)
    (hb : (Nat.ble rest.length 4 && Nat.ble (c' + (iv_rm mj).cells) (iv_rm mi').cells && Nat.ble (s' + (iv_rm mj).slots) (iv_rm mi').slots && Nat.ble as.length (iv_nL mj) && iv_c1s as) = true)
    (hc : iv_ev X mj 0 (iv_pad mj as) [] A' 0 0 (.inl v, A'')) (h2 : iv_ev X mi' (pc' + 3) ls' (v.toList ++ rest) A'' (c' + (iv_rm mj).cells) (s' + (iv_rm mj).slots) r) : iv_ev X mi pc ls st A c s r := by
  obtain ⟨k1, hc⟩ := hc
  obtain ⟨k2, h2⟩ := h2
  refine ⟨k1 + k2 + k, fun n => ?_⟩
  rw [← Nat.add_assoc, h]
  unfold iv_inv
  rw [hb]
  have e1 : iv_run X (n + (k1 + k2)) mj 0 (iv_pad mj as) [] A' 0 0 = some (.inl v, A'') := by
    rw [Nat.add_comm k1 k2, ← Nat.add_assoc]
    exact hc (n + k2)
  have e2 : iv_run X (n + (k1 + k2)) mi' (pc' + 3) ls' (v.toList ++ rest) A'' (c' + (iv_rm mj).cells) (s' + (iv_rm mj).slots) = some r := by
    rw [← Nat.add_assoc]
    exact h2 (n + k1)
  simp only [cond_true, e1, e2]
end IvR
/-! the memory: a number for each place and index -/
abbrev im_M : Type := Nat → Nat → Int32
def im_w (g : im_M) (p k : Nat) (v : Int32) : im_M := fun q => if q = p then upd (g p) k v else g q
end
section
/-! The cells behind the constructors; a write is a write. -/
def im_H (g u : im_M) (o : Nat → Int64) (Y : iv_A) : iv_A := (.inr (5, [.int (g 0 0), .ref 4, .ref 6, .ref 7, .ref 8, .ref 11, .int (g 0 6), .int (g 0 7)])) :: (.inr (1, [.ref 5, .int (g 1 1), .int (g 1 2)])) :: (.inl (0, 160, .inl (g 2))) :: (.inl (3, 4, .inr (.inr (.inr (.inr (va_up (va_up (va_up (va_up (fun _ => none) 0 (some 12)) 1 (some 17)) 2 (some 22)) 3 (some 27))))))) :: (.inl (6, 4, .inr (.inr (.inr (.inr (va_up (va_up (va_up (va_up (fun _ => none) 0 (some 32)) 1 (some 34)) 2 (some 36)) 3 (some 38))))))) :: (.inr (2, [.ref 9, .ref 10])) :: (.inl (0, 16, .inl (g 6))) :: (.inl (0, 16, .inl (g 7))) :: (.inr (4, [.int (g 8 0), .int (g 8 1), .int (g 8 2), .int (g 8 3), .int (g 8 4)])) :: (.inr (0, [.int (g 9 0), .ref 13, .ref 14, .ref 15, .ref 16, .int (g 9 5), .int (g 9 6), .int (g 9 7)])) :: (.inl (0, 3, .inl (g 10))) :: (.inl (0, 3, .inl (g 11))) :: (.inl (0, 3, .inl (g 12))) :: (.inl (0, 3, .inl (g 13))) :: (.inr (0, [.int (g 14 0), .ref 18, .ref 19, .ref 20, .ref 21, .int (g 14 5), .int (g 14 6), .int (g 14 7)])) :: (.inl (0, 3, .inl (g 15))) :: (.inl (0, 3, .inl (g 16))) :: (.inl (0, 3, .inl (g 17))) :: (.inl (0, 3, .inl (g 18))) :: (.inr (0, [.int (g 19 0), .ref 23, .ref 24, .ref 25, .ref 26, .int (g 19 5), .int (g 19 6), .int (g 19 7)])) :: (.inl (0, 3, .inl (g 20))) :: (.inl (0, 3, .inl (g 21))) :: (.inl (0, 3, .inl (g 22))) :: (.inl (0, 3, .inl (g 23))) :: (.inr (0, [.int (g 24 0), .ref 28, .ref 29, .ref 30, .ref 31, .int (g 24 5), .int (g 24 6), .int (g 24 7)])) :: (.inl (0, 3, .inl (g 25))) :: (.inl (0, 3, .inl (g 26))) :: (.inl (0, 3, .inl (g 27))) :: (.inl (0, 3, .inl (g 28))) :: (.inr (3, [.int (g 29 0), .ref 33, .int (g 29 2), .int (g 29 3)])) :: (.inl (0, 4, .inl (g 30))) :: (.inr (3, [.int (g 31 0), .ref 35, .int (g 31 2), .int (g 31 3)])) :: (.inl (0, 4, .inl (g 32))) :: (.inr (3, [.int (g 33 0), .ref 37, .int (g 33 2), .int (g 33 3)])) :: (.inl (0, 4, .inl (g 34))) :: (.inr (3, [.int (g 35 0), .ref 39, .int (g 35 2), .int (g 35 3)])) :: (.inl (0, 4, .inl (g 36))) :: (.inr (6, [.int (u 37 0), .int (u 37 1), .int (u 37 2), .ref 41, .ref 42, .ref 43, .ref 44, .ref 45, .ref 46, .ref 47, .ref 48, .ref 49, .ref 50, .ref 51, .ref 52, .ref 53, .ref 54, .ref 55, .ref 56, .int (u 37 19), .int (u 37 20), .int (u 37 21), .int (u 37 22), .ref 57, .ref 58, .ref 59, .ref 60, .int (u 37 27), .int (u 37 28), .int (u 37 29)])) :: (.inl (0, 12, .inl (u 38))) :: (.inl (0, 12, .inl (u 39))) :: (.inl (1, 12, .inl (u 40))) :: (.inl (0, 12, .inl (u 41))) :: (.inl (0, 520, .inl (u 42))) :: (.inl (0, 520, .inl (u 43))) :: (.inl (0, 520, .inl (u 44))) :: (.inl (0, 16, .inl (u 45))) :: (.inl (0, 16, .inl (u 46))) :: (.inl (0, 16, .inl (u 47))) :: (.inl (1, 16, .inl (u 48))) :: (.inl (0, 16, .inl (u 49))) :: (.inl (0, 16, .inl (u 50))) :: (.inl (1, 16, .inl (u 51))) :: (.inl (0, 4, .inl (u 52))) :: (.inl (0, 4, .inl (u 53))) :: (.inl (0, 40, .inl (u 54))) :: (.inl (0, 40, .inl (u 55))) :: (.inl (0, 40, .inl (u 56))) :: (.inl (0, 40, .inl (u 57))) :: (.inl (2, 1, .inr (.inl o))) :: Y
theorem im_f0_0 (g u : im_M) (o : Nat → Int64) (Y : iv_A) (v : Int32) : List.set (im_H g u o Y) 0 (.inr (5, List.set [.int (g 0 0), .ref 4, .ref 6, .ref 7, .ref 8, .ref 11, .int (g 0 6), .int (g 0 7)] 0 (.int v))) = im_H (im_w g 0 0 v) u o Y := rfl
theorem im_f0_6 (g u : im_M) (o : Nat → Int64) (Y : iv_A) (v : Int32) : List.set (im_H g u o Y) 0 (.inr (5, List.set [.int (g 0 0), .ref 4, .ref 6, .ref 7, .ref 8, .ref 11, .int (g 0 6), .int (g 0 7)] 6 (.int v))) = im_H (im_w g 0 6 v) u o Y := rfl
theorem im_f0_7 (g u : im_M) (o : Nat → Int64) (Y : iv_A) (v : Int32) : List.set (im_H g u o Y) 0 (.inr (5, List.set [.int (g 0 0), .ref 4, .ref 6, .ref 7, .ref 8, .ref 11, .int (g 0 6), .int (g 0 7)] 7 (.int v))) = im_H (im_w g 0 7 v) u o Y := rfl
theorem im_f1_1 (g u : im_M) (o : Nat → Int64) (Y : iv_A) (v : Int32) : List.set (im_H g u o Y) 1 (.inr (1, List.set [.ref 5, .int (g 1 1), .int (g 1 2)] 1 (.int v))) = im_H (im_w g 1 1 v) u o Y := rfl
theorem im_f1_2 (g u : im_M) (o : Nat → Int64) (Y : iv_A) (v : Int32) : List.set (im_H g u o Y) 1 (.inr (1, List.set [.ref 5, .int (g 1 1), .int (g 1 2)] 2 (.int v))) = im_H (im_w g 1 2 v) u o Y := rfl
theorem im_a2 (g u : im_M) (o : Nat → Int64) (Y : iv_A) (k : Nat) (v : Int32) : List.set (im_H g u o Y) 2 (.inl (0, 160, .inl (upd (g 2) k v))) = im_H (im_w g 2 k v) u o Y := rfl
theorem im_a6 (g u : im_M) (o : Nat → Int64) (Y : iv_A) (k : Nat) (v : Int32) : List.set (im_H g u o Y) 6 (.inl (0, 16, .inl (upd (g 6) k v))) = im_H (im_w g 6 k v) u o Y := rfl
theorem im_a7 (g u : im_M) (o : Nat → Int64) (Y : iv_A) (k : Nat) (v : Int32) : List.set (im_H g u o Y) 7 (.inl (0, 16, .inl (upd (g 7) k v))) = im_H (im_w g 7 k v) u o Y := rfl
theorem im_f8_0 (g u : im_M) (o : Nat → Int64) (Y : iv_A) (v : Int32) : List.set (im_H g u o Y) 8 (.inr (4, List.set [.int (g 8 0), .int (g 8 1), .int (g 8 2), .int (g 8 3), .int (g 8 4)] 0 (.int v))) = im_H (im_w g 8 0 v) u o Y := rfl
theorem im_f8_1 (g u : im_M) (o : Nat → Int64) (Y : iv_A) (v : Int32) : List.set (im_H g u o Y) 8 (.inr (4, List.set [.int (g 8 0), .int (g 8 1), .int (g 8 2), .int (g 8 3), .int (g 8 4)] 1 (.int v))) = im_H (im_w g 8 1 v) u o Y := rfl
theorem im_f8_2 (g u : im_M) (o : Nat → Int64) (Y : iv_A) (v : Int32) : List.set (im_H g u o Y) 8 (.inr (4, List.set [.int (g 8 0), .int (g 8 1), .int (g 8 2), .int (g 8 3), .int (g 8 4)] 2 (.int v))) = im_H (im_w g 8 2 v) u o Y := rfl
theorem im_f8_3 (g u : im_M) (o : Nat → Int64) (Y : iv_A) (v : Int32) : List.set (im_H g u o Y) 8 (.inr (4, List.set [.int (g 8 0), .int (g 8 1), .int (g 8 2), .int (g 8 3), .int (g 8 4)] 3 (.int v))) = im_H (im_w g 8 3 v) u o Y := rfl
theorem im_f8_4 (g u : im_M) (o : Nat → Int64) (Y : iv_A) (v : Int32) : List.set (im_H g u o Y) 8 (.inr (4, List.set [.int (g 8 0), .int (g 8 1), .int (g 8 2), .int (g 8 3), .int (g 8 4)] 4 (.int v))) = im_H (im_w g 8 4 v) u o Y := rfl
theorem im_f9_0 (g u : im_M) (o : Nat → Int64) (Y : iv_A) (v : Int32) : List.set (im_H g u o Y) 9 (.inr (0, List.set [.int (g 9 0), .ref 13, .ref 14, .ref 15, .ref 16, .int (g 9 5), .int (g 9 6), .int (g 9 7)] 0 (.int v))) = im_H (im_w g 9 0 v) u o Y := rfl
theorem im_f9_5 (g u : im_M) (o : Nat → Int64) (Y : iv_A) (v : Int32) : List.set (im_H g u o Y) 9 (.inr (0, List.set [.int (g 9 0), .ref 13, .ref 14, .ref 15, .ref 16, .int (g 9 5), .int (g 9 6), .int (g 9 7)] 5 (.int v))) = im_H (im_w g 9 5 v) u o Y := rfl
theorem im_f9_6 (g u : im_M) (o : Nat → Int64) (Y : iv_A) (v : Int32) : List.set (im_H g u o Y) 9 (.inr (0, List.set [.int (g 9 0), .ref 13, .ref 14, .ref 15, .ref 16, .int (g 9 5), .int (g 9 6), .int (g 9 7)] 6 (.int v))) = im_H (im_w g 9 6 v) u o Y := rfl
theorem im_f9_7 (g u : im_M) (o : Nat → Int64) (Y : iv_A) (v : Int32) : List.set (im_H g u o Y) 9 (.inr (0, List.set [.int (g 9 0), .ref 13, .ref 14, .ref 15, .ref 16, .int (g 9 5), .int (g 9 6), .int (g 9 7)] 7 (.int v))) = im_H (im_w g 9 7 v) u o Y := rfl
theorem im_a10 (g u : im_M) (o : Nat → Int64) (Y : iv_A) (k : Nat) (v : Int32) : List.set (im_H g u o Y) 10 (.inl (0, 3, .inl (upd (g 10) k v))) = im_H (im_w g 10 k v) u o Y := rfl
theorem im_a11 (g u : im_M) (o : Nat → Int64) (Y : iv_A) (k : Nat) (v : Int32) : List.set (im_H g u o Y) 11 (.inl (0, 3, .inl (upd (g 11) k v))) = im_H (im_w g 11 k v) u o Y := rfl
theorem im_a12 (g u : im_M) (o : Nat → Int64) (Y : iv_A) (k : Nat) (v : Int32) : List.set (im_H g u o Y) 12 (.inl (0, 3, .inl (upd (g 12) k v))) = im_H (im_w g 12 k v) u o Y := rfl
theorem im_a13 (g u : im_M) (o : Nat → Int64) (Y : iv_A) (k : Nat) (v : Int32) : List.set (im_H g u o Y) 13 (.inl (0, 3, .inl (upd (g 13) k v))) = im_H (im_w g 13 k v) u o Y := rfl
theorem im_f14_0 (g u : im_M) (o : Nat → Int64) (Y : iv_A) (v : Int32) : List.set (im_H g u o Y) 14 (.inr (0, List.set [.int (g 14 0), .ref 18, .ref 19, .ref 20, .ref 21, .int (g 14 5), .int (g 14 6), .int (g 14 7)] 0 (.int v))) = im_H (im_w g 14 0 v) u o Y := rfl
theorem im_f14_5 (g u : im_M) (o : Nat → Int64) (Y : iv_A) (v : Int32) : List.set (im_H g u o Y) 14 (.inr (0, List.set [.int (g 14 0), .ref 18, .ref 19, .ref 20, .ref 21, .int (g 14 5), .int (g 14 6), .int (g 14 7)] 5 (.int v))) = im_H (im_w g 14 5 v) u o Y := rfl
theorem im_f14_6 (g u : im_M) (o : Nat → Int64) (Y : iv_A) (v : Int32) : List.set (im_H g u o Y) 14 (.inr (0, List.set [.int (g 14 0), .ref 18, .ref 19, .ref 20, .ref 21, .int (g 14 5), .int (g 14 6), .int (g 14 7)] 6 (.int v))) = im_H (im_w g 14 6 v) u o Y := rfl
theorem im_f14_7 (g u : im_M) (o : Nat → Int64) (Y : iv_A) (v : Int32) : List.set (im_H g u o Y) 14 (.inr (0, List.set [.int (g 14 0), .ref 18, .ref 19, .ref 20, .ref 21, .int (g 14 5), .int (g 14 6), .int (g 14 7)] 7 (.int v))) = im_H (im_w g 14 7 v) u o Y := rfl
theorem im_a15 (g u : im_M) (o : Nat → Int64) (Y : iv_A) (k : Nat) (v : Int32) : List.set (im_H g u o Y) 15 (.inl (0, 3, .inl (upd (g 15) k v))) = im_H (im_w g 15 k v) u o Y := rfl
theorem im_a16 (g u : im_M) (o : Nat → Int64) (Y : iv_A) (k : Nat) (v : Int32) : List.set (im_H g u o Y) 16 (.inl (0, 3, .inl (upd (g 16) k v))) = im_H (im_w g 16 k v) u o Y := rfl
theorem im_a17 (g u : im_M) (o : Nat → Int64) (Y : iv_A) (k : Nat) (v : Int32) : List.set (im_H g u o Y) 17 (.inl (0, 3, .inl (upd (g 17) k v))) = im_H (im_w g 17 k v) u o Y := rfl
theorem im_a18 (g u : im_M) (o : Nat → Int64) (Y : iv_A) (k : Nat) (v : Int32) : List.set (im_H g u o Y) 18 (.inl (0, 3, .inl (upd (g 18) k v))) = im_H (im_w g 18 k v) u o Y := rfl
theorem im_f19_0 (g u : im_M) (o : Nat → Int64) (Y : iv_A) (v : Int32) : List.set (im_H g u o Y) 19 (.inr (0, List.set [.int (g 19 0), .ref 23, .ref 24, .ref 25, .ref 26, .int (g 19 5), .int (g 19 6), .int (g 19 7)] 0 (.int v))) = im_H (im_w g 19 0 v) u o Y := rfl
theorem im_f19_5 (g u : im_M) (o : Nat → Int64) (Y : iv_A) (v : Int32) : List.set (im_H g u o Y) 19 (.inr (0, List.set [.int (g 19 0), .ref 23, .ref 24, .ref 25, .ref 26, .int (g 19 5), .int (g 19 6), .int (g 19 7)] 5 (.int v))) = im_H (im_w g 19 5 v) u o Y := rfl
theorem im_f19_6 (g u : im_M) (o : Nat → Int64) (Y : iv_A) (v : Int32) : List.set (im_H g u o Y) 19 (.inr (0, List.set [.int (g 19 0), .ref 23, .ref 24, .ref 25, .ref 26, .int (g 19 5), .int (g 19 6), .int (g 19 7)] 6 (.int v))) = im_H (im_w g 19 6 v) u o Y := rfl
theorem im_f19_7 (g u : im_M) (o : Nat → Int64) (Y : iv_A) (v : Int32) : List.set (im_H g u o Y) 19 (.inr (0, List.set [.int (g 19 0), .ref 23, .ref 24, .ref 25, .ref 26, .int (g 19 5), .int (g 19 6), .int (g 19 7)] 7 (.int v))) = im_H (im_w g 19 7 v) u o Y := rfl
theorem im_a20 (g u : im_M) (o : Nat → Int64) (Y : iv_A) (k : Nat) (v : Int32) : List.set (im_H g u o Y) 20 (.inl (0, 3, .inl (upd (g 20) k v))) = im_H (im_w g 20 k v) u o Y := rfl
theorem im_a21 (g u : im_M) (o : Nat → Int64) (Y : iv_A) (k : Nat) (v : Int32) : List.set (im_H g u o Y) 21 (.inl (0, 3, .inl (upd (g 21) k v))) = im_H (im_w g 21 k v) u o Y := rfl
theorem im_a22 (g u : im_M) (o : Nat → Int64) (Y : iv_A) (k : Nat) (v : Int32) : List.set (im_H g u o Y) 22 (.inl (0, 3, .inl (upd (g 22) k v))) = im_H (im_w g 22 k v) u o Y := rfl
theorem im_a23 (g u : im_M) (o : Nat → Int64) (Y : iv_A) (k : Nat) (v : Int32) : List.set (im_H g u o Y) 23 (.inl (0, 3, .inl (upd (g 23) k v))) = im_H (im_w g 23 k v) u o Y := rfl
theorem im_f24_0 (g u : im_M) (o : Nat → Int64) (Y : iv_A) (v : Int32) : List.set (im_H g u o Y) 24 (.inr (0, List.set [.int (g 24 0), .ref 28, .ref 29, .ref 30, .ref 31, .int (g 24 5), .int (g 24 6), .int (g 24 7)] 0 (.int v))) = im_H (im_w g 24 0 v) u o Y := rfl
theorem im_f24_5 (g u : im_M) (o : Nat → Int64) (Y : iv_A) (v : Int32) : List.set (im_H g u o Y) 24 (.inr (0, List.set [.int (g 24 0), .ref 28, .ref 29, .ref 30, .ref 31, .int (g 24 5), .int (g 24 6), .int (g 24 7)] 5 (.int v))) = im_H (im_w g 24 5 v) u o Y := rfl
theorem im_f24_6 (g u : im_M) (o : Nat → Int64) (Y : iv_A) (v : Int32) : List.set (im_H g u o Y) 24 (.inr (0, List.set [.int (g 24 0), .ref 28, .ref 29, .ref 30, .ref 31, .int (g 24 5), .int (g 24 6), .int (g 24 7)] 6 (.int v))) = im_H (im_w g 24 6 v) u o Y := rfl
theorem im_f24_7 (g u : im_M) (o : Nat → Int64) (Y : iv_A) (v : Int32) : List.set (im_H g u o Y) 24 (.inr (0, List.set [.int (g 24 0), .ref 28, .ref 29, .ref 30, .ref 31, .int (g 24 5), .int (g 24 6), .int (g 24 7)] 7 (.int v))) = im_H (im_w g 24 7 v) u o Y := rfl
theorem im_a25 (g u : im_M) (o : Nat → Int64) (Y : iv_A) (k : Nat) (v : Int32) : List.set (im_H g u o Y) 25 (.inl (0, 3, .inl (upd (g 25) k v))) = im_H (im_w g 25 k v) u o Y := rfl
theorem im_a26 (g u : im_M) (o : Nat → Int64) (Y : iv_A) (k : Nat) (v : Int32) : List.set (im_H g u o Y) 26 (.inl (0, 3, .inl (upd (g 26) k v))) = im_H (im_w g 26 k v) u o Y := rfl
theorem im_a27 (g u : im_M) (o : Nat → Int64) (Y : iv_A) (k : Nat) (v : Int32) : List.set (im_H g u o Y) 27 (.inl (0, 3, .inl (upd (g 27) k v))) = im_H (im_w g 27 k v) u o Y := rfl
theorem im_a28 (g u : im_M) (o : Nat → Int64) (Y : iv_A) (k : Nat) (v : Int32) : List.set (im_H g u o Y) 28 (.inl (0, 3, .inl (upd (g 28) k v))) = im_H (im_w g 28 k v) u o Y := rfl
theorem im_f29_0 (g u : im_M) (o : Nat → Int64) (Y : iv_A) (v : Int32) : List.set (im_H g u o Y) 29 (.inr (3, List.set [.int (g 29 0), .ref 33, .int (g 29 2), .int (g 29 3)] 0 (.int v))) = im_H (im_w g 29 0 v) u o Y := rfl
theorem im_f29_2 (g u : im_M) (o : Nat → Int64) (Y : iv_A) (v : Int32) : List.set (im_H g u o Y) 29 (.inr (3, List.set [.int (g 29 0), .ref 33, .int (g 29 2), .int (g 29 3)] 2 (.int v))) = im_H (im_w g 29 2 v) u o Y := rfl
theorem im_f29_3 (g u : im_M) (o : Nat → Int64) (Y : iv_A) (v : Int32) : List.set (im_H g u o Y) 29 (.inr (3, List.set [.int (g 29 0), .ref 33, .int (g 29 2), .int (g 29 3)] 3 (.int v))) = im_H (im_w g 29 3 v) u o Y := rfl
theorem im_a30 (g u : im_M) (o : Nat → Int64) (Y : iv_A) (k : Nat) (v : Int32) : List.set (im_H g u o Y) 30 (.inl (0, 4, .inl (upd (g 30) k v))) = im_H (im_w g 30 k v) u o Y := rfl
theorem im_f31_0 (g u : im_M) (o : Nat → Int64) (Y : iv_A) (v : Int32) : List.set (im_H g u o Y) 31 (.inr (3, List.set [.int (g 31 0), .ref 35, .int (g 31 2), .int (g 31 3)] 0 (.int v))) = im_H (im_w g 31 0 v) u o Y := rfl
theorem im_f31_2 (g u : im_M) (o : Nat → Int64) (Y : iv_A) (v : Int32) : List.set (im_H g u o Y) 31 (.inr (3, List.set [.int (g 31 0), .ref 35, .int (g 31 2), .int (g 31 3)] 2 (.int v))) = im_H (im_w g 31 2 v) u o Y := rfl
theorem im_f31_3 (g u : im_M) (o : Nat → Int64) (Y : iv_A) (v : Int32) : List.set (im_H g u o Y) 31 (.inr (3, List.set [.int (g 31 0), .ref 35, .int (g 31 2), .int (g 31 3)] 3 (.int v))) = im_H (im_w g 31 3 v) u o Y := rfl
theorem im_a32 (g u : im_M) (o : Nat → Int64) (Y : iv_A) (k : Nat) (v : Int32) : List.set (im_H g u o Y) 32 (.inl (0, 4, .inl (upd (g 32) k v))) = im_H (im_w g 32 k v) u o Y := rfl
theorem im_f33_0 (g u : im_M) (o : Nat → Int64) (Y : iv_A) (v : Int32) : List.set (im_H g u o Y) 33 (.inr (3, List.set [.int (g 33 0), .ref 37, .int (g 33 2), .int (g 33 3)] 0 (.int v))) = im_H (im_w g 33 0 v) u o Y := rfl
theorem im_f33_2 (g u : im_M) (o : Nat → Int64) (Y : iv_A) (v : Int32) : List.set (im_H g u o Y) 33 (.inr (3, List.set [.int (g 33 0), .ref 37, .int (g 33 2), .int (g 33 3)] 2 (.int v))) = im_H (im_w g 33 2 v) u o Y := rfl
theorem im_f33_3 (g u : im_M) (o : Nat → Int64) (Y : iv_A) (v : Int32) : List.set (im_H g u o Y) 33 (.inr (3, List.set [.int (g 33 0), .ref 37, .int (g 33 2), .int (g 33 3)] 3 (.int v))) = im_H (im_w g 33 3 v) u o Y := rfl
theorem im_a34 (g u : im_M) (o : Nat → Int64) (Y : iv_A) (k : Nat) (v : Int32) : List.set (im_H g u o Y) 34 (.inl (0, 4, .inl (upd (g 34) k v))) = im_H (im_w g 34 k v) u o Y := rfl
theorem im_f35_0 (g u : im_M) (o : Nat → Int64) (Y : iv_A) (v : Int32) : List.set (im_H g u o Y) 35 (.inr (3, List.set [.int (g 35 0), .ref 39, .int (g 35 2), .int (g 35 3)] 0 (.int v))) = im_H (im_w g 35 0 v) u o Y := rfl
theorem im_f35_2 (g u : im_M) (o : Nat → Int64) (Y : iv_A) (v : Int32) : List.set (im_H g u o Y) 35 (.inr (3, List.set [.int (g 35 0), .ref 39, .int (g 35 2), .int (g 35 3)] 2 (.int v))) = im_H (im_w g 35 2 v) u o Y := rfl
theorem im_f35_3 (g u : im_M) (o : Nat → Int64) (Y : iv_A) (v : Int32) : List.set (im_H g u o Y) 35 (.inr (3, List.set [.int (g 35 0), .ref 39, .int (g 35 2), .int (g 35 3)] 3 (.int v))) = im_H (im_w g 35 3 v) u o Y := rfl
theorem im_a36 (g u : im_M) (o : Nat → Int64) (Y : iv_A) (k : Nat) (v : Int32) : List.set (im_H g u o Y) 36 (.inl (0, 4, .inl (upd (g 36) k v))) = im_H (im_w g 36 k v) u o Y := rfl
theorem im_f37_0 (g u : im_M) (o : Nat → Int64) (Y : iv_A) (v : Int32) : List.set (im_H g u o Y) 37 (.inr (6, List.set [.int (u 37 0), .int (u 37 1), .int (u 37 2), .ref 41, .ref 42, .ref 43, .ref 44, .ref 45, .ref 46, .ref 47, .ref 48, .ref 49, .ref 50, .ref 51, .ref 52, .ref 53, .ref 54, .ref 55, .ref 56, .int (u 37 19), .int (u 37 20), .int (u 37 21), .int (u 37 22), .ref 57, .ref 58, .ref 59, .ref 60, .int (u 37 27), .int (u 37 28), .int (u 37 29)] 0 (.int v))) = im_H g (im_w u 37 0 v) o Y := rfl
theorem im_f37_1 (g u : im_M) (o : Nat → Int64) (Y : iv_A) (v : Int32) : List.set (im_H g u o Y) 37 (.inr (6, List.set [.int (u 37 0), .int (u 37 1), .int (u 37 2), .ref 41, .ref 42, .ref 43, .ref 44, .ref 45, .ref 46, .ref 47, .ref 48, .ref 49, .ref 50, .ref 51, .ref 52, .ref 53, .ref 54, .ref 55, .ref 56, .int (u 37 19), .int (u 37 20), .int (u 37 21), .int (u 37 22), .ref 57, .ref 58, .ref 59, .ref 60, .int (u 37 27), .int (u 37 28), .int (u 37 29)] 1 (.int v))) = im_H g (im_w u 37 1 v) o Y := rfl
theorem im_f37_2 (g u : im_M) (o : Nat → Int64) (Y : iv_A) (v : Int32) : List.set (im_H g u o Y) 37 (.inr (6, List.set [.int (u 37 0), .int (u 37 1), .int (u 37 2), .ref 41, .ref 42, .ref 43, .ref 44, .ref 45, .ref 46, .ref 47, .ref 48, .ref 49, .ref 50, .ref 51, .ref 52, .ref 53, .ref 54, .ref 55, .ref 56, .int (u 37 19), .int (u 37 20), .int (u 37 21), .int (u 37 22), .ref 57, .ref 58, .ref 59, .ref 60, .int (u 37 27), .int (u 37 28), .int (u 37 29)] 2 (.int v))) = im_H g (im_w u 37 2 v) o Y := rfl
theorem im_f37_19 (g u : im_M) (o : Nat → Int64) (Y : iv_A) (v : Int32) : List.set (im_H g u o Y) 37 (.inr (6, List.set [.int (u 37 0), .int (u 37 1), .int (u 37 2), .ref 41, .ref 42, .ref 43, .ref 44, .ref 45, .ref 46, .ref 47, .ref 48, .ref 49, .ref 50, .ref 51, .ref 52, .ref 53, .ref 54, .ref 55, .ref 56, .int (u 37 19), .int (u 37 20), .int (u 37 21), .int (u 37 22), .ref 57, .ref 58, .ref 59, .ref 60, .int (u 37 27), .int (u 37 28), .int (u 37 29)] 19 (.int v))) = im_H g (im_w u 37 19 v) o Y := rfl
theorem im_f37_20 (g u : im_M) (o : Nat → Int64) (Y : iv_A) (v : Int32) : List.set (im_H g u o Y) 37 (.inr (6, List.set [.int (u 37 0), .int (u 37 1), .int (u 37 2), .ref 41, .ref 42, .ref 43, .ref 44, .ref 45, .ref 46, .ref 47, .ref 48, .ref 49, .ref 50, .ref 51, .ref 52, .ref 53, .ref 54, .ref 55, .ref 56, .int (u 37 19), .int (u 37 20), .int (u 37 21), .int (u 37 22), .ref 57, .ref 58, .ref 59, .ref 60, .int (u 37 27), .int (u 37 28), .int (u 37 29)] 20 (.int v))) = im_H g (im_w u 37 20 v) o Y := rfl
theorem im_f37_21 (g u : im_M) (o : Nat → Int64) (Y : iv_A) (v : Int32) : List.set (im_H g u o Y) 37 (.inr (6, List.set [.int (u 37 0), .int (u 37 1), .int (u 37 2), .ref 41, .ref 42, .ref 43, .ref 44, .ref 45, .ref 46, .ref 47, .ref 48, .ref 49, .ref 50, .ref 51, .ref 52, .ref 53, .ref 54, .ref 55, .ref 56, .int (u 37 19), .int (u 37 20), .int (u 37 21), .int (u 37 22), .ref 57, .ref 58, .ref 59, .ref 60, .int (u 37 27), .int (u 37 28), .int (u 37 29)] 21 (.int v))) = im_H g (im_w u 37 21 v) o Y := rfl
theorem im_f37_22 (g u : im_M) (o : Nat → Int64) (Y : iv_A) (v : Int32) : List.set (im_H g u o Y) 37 (.inr (6, List.set [.int (u 37 0), .int (u 37 1), .int (u 37 2), .ref 41, .ref 42, .ref 43, .ref 44, .ref 45, .ref 46, .ref 47, .ref 48, .ref 49, .ref 50, .ref 51, .ref 52, .ref 53, .ref 54, .ref 55, .ref 56, .int (u 37 19), .int (u 37 20), .int (u 37 21), .int (u 37 22), .ref 57, .ref 58, .ref 59, .ref 60, .int (u 37 27), .int (u 37 28), .int (u 37 29)] 22 (.int v))) = im_H g (im_w u 37 22 v) o Y := rfl
theorem im_f37_27 (g u : im_M) (o : Nat → Int64) (Y : iv_A) (v : Int32) : List.set (im_H g u o Y) 37 (.inr (6, List.set [.int (u 37 0), .int (u 37 1), .int (u 37 2), .ref 41, .ref 42, .ref 43, .ref 44, .ref 45, .ref 46, .ref 47, .ref 48, .ref 49, .ref 50, .ref 51, .ref 52, .ref 53, .ref 54, .ref 55, .ref 56, .int (u 37 19), .int (u 37 20), .int (u 37 21), .int (u 37 22), .ref 57, .ref 58, .ref 59, .ref 60, .int (u 37 27), .int (u 37 28), .int (u 37 29)] 27 (.int v))) = im_H g (im_w u 37 27 v) o Y := rfl
theorem im_f37_28 (g u : im_M) (o : Nat → Int64) (Y : iv_A) (v : Int32) : List.set (im_H g u o Y) 37 (.inr (6, List.set [.int (u 37 0), .int (u 37 1), .int (u 37 2), .ref 41, .ref 42, .ref 43, .ref 44, .ref 45, .ref 46, .ref 47, .ref 48, .ref 49, .ref 50, .ref 51, .ref 52, .ref 53, .ref 54, .ref 55, .ref 56, .int (u 37 19), .int (u 37 20), .int (u 37 21), .int (u 37 22), .ref 57, .ref 58, .ref 59, .ref 60, .int (u 37 27), .int (u 37 28), .int (u 37 29)] 28 (.int v))) = im_H g (im_w u 37 28 v) o Y := rfl
theorem im_f37_29 (g u : im_M) (o : Nat → Int64) (Y : iv_A) (v : Int32) : List.set (im_H g u o Y) 37 (.inr (6, List.set [.int (u 37 0), .int (u 37 1), .int (u 37 2), .ref 41, .ref 42, .ref 43, .ref 44, .ref 45, .ref 46, .ref 47, .ref 48, .ref 49, .ref 50, .ref 51, .ref 52, .ref 53, .ref 54, .ref 55, .ref 56, .int (u 37 19), .int (u 37 20), .int (u 37 21), .int (u 37 22), .ref 57, .ref 58, .ref 59, .ref 60, .int (u 37 27), .int (u 37 28), .int (u 37 29)] 29 (.int v))) = im_H g (im_w u 37 29 v) o Y := rfl
theorem im_a38 (g u : im_M) (o : Nat → Int64) (Y : iv_A) (k : Nat) (v : Int32) : List.set (im_H g u o Y) 38 (.inl (0, 12, .inl (upd (u 38) k v))) = im_H g (im_w u 38 k v) o Y := rfl
theorem im_a39 (g u : im_M) (o : Nat → Int64) (Y : iv_A) (k : Nat) (v : Int32) : List.set (im_H g u o Y) 39 (.inl (0, 12, .inl (upd (u 39) k v))) = im_H g (im_w u 39 k v) o Y := rfl
theorem im_a40 (g u : im_M) (o : Nat → Int64) (Y : iv_A) (k : Nat) (v : Int32) : List.set (im_H g u o Y) 40 (.inl (1, 12, .inl (upd (u 40) k v))) = im_H g (im_w u 40 k v) o Y := rfl
theorem im_a41 (g u : im_M) (o : Nat → Int64) (Y : iv_A) (k : Nat) (v : Int32) : List.set (im_H g u o Y) 41 (.inl (0, 12, .inl (upd (u 41) k v))) = im_H g (im_w u 41 k v) o Y := rfl
theorem im_a42 (g u : im_M) (o : Nat → Int64) (Y : iv_A) (k : Nat) (v : Int32) : List.set (im_H g u o Y) 42 (.inl (0, 520, .inl (upd (u 42) k v))) = im_H g (im_w u 42 k v) o Y := rfl
theorem im_a43 (g u : im_M) (o : Nat → Int64) (Y : iv_A) (k : Nat) (v : Int32) : List.set (im_H g u o Y) 43 (.inl (0, 520, .inl (upd (u 43) k v))) = im_H g (im_w u 43 k v) o Y := rfl
theorem im_a44 (g u : im_M) (o : Nat → Int64) (Y : iv_A) (k : Nat) (v : Int32) : List.set (im_H g u o Y) 44 (.inl (0, 520, .inl (upd (u 44) k v))) = im_H g (im_w u 44 k v) o Y := rfl
theorem im_a45 (g u : im_M) (o : Nat → Int64) (Y : iv_A) (k : Nat) (v : Int32) : List.set (im_H g u o Y) 45 (.inl (0, 16, .inl (upd (u 45) k v))) = im_H g (im_w u 45 k v) o Y := rfl
theorem im_a46 (g u : im_M) (o : Nat → Int64) (Y : iv_A) (k : Nat) (v : Int32) : List.set (im_H g u o Y) 46 (.inl (0, 16, .inl (upd (u 46) k v))) = im_H g (im_w u 46 k v) o Y := rfl
theorem im_a47 (g u : im_M) (o : Nat → Int64) (Y : iv_A) (k : Nat) (v : Int32) : List.set (im_H g u o Y) 47 (.inl (0, 16, .inl (upd (u 47) k v))) = im_H g (im_w u 47 k v) o Y := rfl
theorem im_a48 (g u : im_M) (o : Nat → Int64) (Y : iv_A) (k : Nat) (v : Int32) : List.set (im_H g u o Y) 48 (.inl (1, 16, .inl (upd (u 48) k v))) = im_H g (im_w u 48 k v) o Y := rfl
theorem im_a49 (g u : im_M) (o : Nat → Int64) (Y : iv_A) (k : Nat) (v : Int32) : List.set (im_H g u o Y) 49 (.inl (0, 16, .inl (upd (u 49) k v))) = im_H g (im_w u 49 k v) o Y := rfl
theorem im_a50 (g u : im_M) (o : Nat → Int64) (Y : iv_A) (k : Nat) (v : Int32) : List.set (im_H g u o Y) 50 (.inl (0, 16, .inl (upd (u 50) k v))) = im_H g (im_w u 50 k v) o Y := rfl
theorem im_a51 (g u : im_M) (o : Nat → Int64) (Y : iv_A) (k : Nat) (v : Int32) : List.set (im_H g u o Y) 51 (.inl (1, 16, .inl (upd (u 51) k v))) = im_H g (im_w u 51 k v) o Y := rfl
theorem im_a52 (g u : im_M) (o : Nat → Int64) (Y : iv_A) (k : Nat) (v : Int32) : List.set (im_H g u o Y) 52 (.inl (0, 4, .inl (upd (u 52) k v))) = im_H g (im_w u 52 k v) o Y := rfl
theorem im_a53 (g u : im_M) (o : Nat → Int64) (Y : iv_A) (k : Nat) (v : Int32) : List.set (im_H g u o Y) 53 (.inl (0, 4, .inl (upd (u 53) k v))) = im_H g (im_w u 53 k v) o Y := rfl
theorem im_a54 (g u : im_M) (o : Nat → Int64) (Y : iv_A) (k : Nat) (v : Int32) : List.set (im_H g u o Y) 54 (.inl (0, 40, .inl (upd (u 54) k v))) = im_H g (im_w u 54 k v) o Y := rfl
theorem im_a55 (g u : im_M) (o : Nat → Int64) (Y : iv_A) (k : Nat) (v : Int32) : List.set (im_H g u o Y) 55 (.inl (0, 40, .inl (upd (u 55) k v))) = im_H g (im_w u 55 k v) o Y := rfl
theorem im_a56 (g u : im_M) (o : Nat → Int64) (Y : iv_A) (k : Nat) (v : Int32) : List.set (im_H g u o Y) 56 (.inl (0, 40, .inl (upd (u 56) k v))) = im_H g (im_w u 56 k v) o Y := rfl
theorem im_a57 (g u : im_M) (o : Nat → Int64) (Y : iv_A) (k : Nat) (v : Int32) : List.set (im_H g u o Y) 57 (.inl (0, 40, .inl (upd (u 57) k v))) = im_H g (im_w u 57 k v) o Y := rfl
end
section
/-! Printed by wip/gen/lay1.py: methods as functions of the memory. -/
def x17_40 (g : im_M) (a : Int32) : Option (Int32 × im_M) :=
  bif Op.ifCond.holds .ge (a ^^^ (40 : Int32)) then
    (some ((a - a / (40 : Int32) * (40 : Int32)), g))
  else
    (bif Op.ifCond.holds .eq (a - a / (40 : Int32) * (40 : Int32)) then
      (some ((a - a / (40 : Int32) * (40 : Int32)), g))
    else
      (some (((a - a / (40 : Int32) * (40 : Int32)) + (40 : Int32)), g)))
set_option maxRecDepth 100000 in
theorem x17_40_ok {X : Nat → Option (Nat × (Nat → Int32))} {g u mm : im_M} {o : Nat → Int64} {Y : iv_A} {a ret : Int32} (h : x17_40 g a = some (ret, mm)) : iv_ev X 17 0 [.int a, .int (40 : Int32), .retAddr 0] [] (im_H g u o Y) 0 0 (.inl (some (.int ret)), im_H mm u o Y) := by
  unfold x17_40 at h
  cases hb : Op.ifCond.holds .ge (a ^^^ (40 : Int32)) with
  | true =>
    rw [hb] at h
    simp only [cond_true] at h
    refine iv_brt (mi' := 17) (pc' := 18) (ls' := [.int a, .int (40 : Int32), .int (a - a / (40 : Int32) * (40 : Int32))]) (st' := []) (A' := im_H g u o Y) (c' := 0) (s' := 0) (mi'' := 17) (pc'' := 10) (ls'' := [.int a, .int (40 : Int32), .int (a - a / (40 : Int32) * (40 : Int32))]) (st'' := []) (A'' := im_H g u o Y) (c'' := 0) (s'' := 0) 8 0 0 hb (fun n => rfl) ?_
    cases h
    exact iv_ret 2 (fun n => rfl)
  | false =>
    rw [hb] at h
    simp only [cond_false] at h
    refine iv_brf (mi' := 17) (pc' := 18) (ls' := [.int a, .int (40 : Int32), .int (a - a / (40 : Int32) * (40 : Int32))]) (st' := []) (A' := im_H g u o Y) (c' := 0) (s' := 0) (mi'' := 17) (pc'' := 10) (ls'' := [.int a, .int (40 : Int32), .int (a - a / (40 : Int32) * (40 : Int32))]) (st'' := []) (A'' := im_H g u o Y) (c'' := 0) (s'' := 0) 8 0 0 hb (fun n => rfl) ?_
    cases hb : Op.ifCond.holds .eq (a - a / (40 : Int32) * (40 : Int32)) with
    | true =>
      rw [hb] at h
      simp only [cond_true] at h
      refine iv_brt (mi' := 17) (pc' := 18) (ls' := [.int a, .int (40 : Int32), .int (a - a / (40 : Int32) * (40 : Int32))]) (st' := []) (A' := im_H g u o Y) (c' := 0) (s' := 0) (mi'' := 17) (pc'' := 14) (ls'' := [.int a, .int (40 : Int32), .int (a - a / (40 : Int32) * (40 : Int32))]) (st'' := []) (A'' := im_H g u o Y) (c'' := 0) (s'' := 0) 2 0 0 hb (fun n => rfl) ?_
      cases h
      exact iv_ret 2 (fun n => rfl)
    | false =>
      rw [hb] at h
      simp only [cond_false] at h
      refine iv_brf (mi' := 17) (pc' := 18) (ls' := [.int a, .int (40 : Int32), .int (a - a / (40 : Int32) * (40 : Int32))]) (st' := []) (A' := im_H g u o Y) (c' := 0) (s' := 0) (mi'' := 17) (pc'' := 14) (ls'' := [.int a, .int (40 : Int32), .int (a - a / (40 : Int32) * (40 : Int32))]) (st'' := []) (A'' := im_H g u o Y) (c'' := 0) (s'' := 0) 2 0 0 hb (fun n => rfl) ?_
      cases h
      exact iv_ret 4 (fun n => rfl)
def x16 (g : im_M) (a : Int32) : Option (Int32 × im_M) :=
  Option.bind (x17_40 g a) (fun (v1, g1) =>
    some ((v1 * (4 : Int32)), g1))
set_option maxRecDepth 100000 in
theorem x16_ok {X : Nat → Option (Nat × (Nat → Int32))} {g u mm : im_M} {o : Nat → Int64} {Y : iv_A} {a ret : Int32} (h : x16 g a = some (ret, mm)) : iv_ev X 16 0 [.int a] [] (im_H g u o Y) 0 0 (.inl (some (.int ret)), im_H mm u o Y) := by
  unfold x16 at h
  cases hc : x17_40 g a with
  | none => rw [hc] at h; cases h
  | some q =>
    obtain ⟨v1, g1⟩ := q
    rw [hc] at h
    simp only [Option.bind_some] at h
    refine iv_cal (mi' := 16) (pc' := 3) (ls' := [.int a]) (rest := []) (A' := im_H g u o Y) (c' := 0) (s' := 0) (as := [.int a, .int (40 : Int32)]) (v := some (.int v1)) (A'' := im_H g1 u o Y) 3 17 (fun n => rfl) rfl (x17_40_ok hc) ?_
    show iv_ev X 16 6 [.int a] [.int v1] (im_H g1 u o Y) 0 0 _
    cases h
    exact iv_ret 3 (fun n => rfl)
def x15_r1 (g : im_M) (a : Int32) (b : Int32) (c : Int32) : Option (Int32 × im_M) :=
  Option.bind (x16 g (g 1 2)) (fun (v1, g1) =>
    bif iv_in v1 160 then
      bif iv_in (v1 + (1 : Int32)) 160 then
        bif iv_in (v1 + (2 : Int32)) 160 then
          bif iv_in (v1 + (3 : Int32)) 160 then
            some (0, (im_w (im_w (im_w (im_w (im_w g1 2 (v1).toNatClampNeg (g1 1 1)) 2 ((v1 + (1 : Int32))).toNatClampNeg a) 2 ((v1 + (2 : Int32))).toNatClampNeg b) 2 ((v1 + (3 : Int32))).toNatClampNeg c) 1 2 ((g1 1 2) + (1 : Int32))))
          else none
        else none
      else none
    else none)
set_option maxRecDepth 100000 in
theorem x15_r1_ok {X : Nat → Option (Nat × (Nat → Int32))} {g u mm : im_M} {o : Nat → Int64} {Y : iv_A} {a b c ret : Int32} (h : x15_r1 g a b c = some (ret, mm)) : iv_ev X 15 0 [.ref 4, .int a, .int b, .int c, .retAddr 0] [] (im_H g u o Y) 0 0 (.inl none, im_H mm u o Y) := by
  unfold x15_r1 at h
  cases hc : x16 g (g 1 2) with
  | none => rw [hc] at h; cases h
  | some q =>
    obtain ⟨v1, g1⟩ := q
    rw [hc] at h
    simp only [Option.bind_some] at h
    refine iv_cal (mi' := 15) (pc' := 4) (ls' := [.ref 4, .int a, .int b, .int c, .retAddr 0]) (rest := []) (A' := im_H g u o Y) (c' := 0) (s' := 0) (as := [.int (g 1 2)]) (v := some (.int v1)) (A'' := im_H g1 u o Y) 3 16 (fun n => rfl) rfl (x16_ok hc) ?_
    show iv_ev X 15 7 [.ref 4, .int a, .int b, .int c, .retAddr 0] [.int v1] (im_H g1 u o Y) 0 0 _
    cases hb : iv_in v1 160 with
    | false => rw [hb] at h; cases h
    | true =>
      rw [hb] at h
      refine iv_chk (mi' := 15) (pc' := 20) (ls' := [.ref 4, .int a, .int b, .int c, .int v1]) (st' := []) (A' := List.set (im_H g1 u o Y) 2 (.inl (0, 160, .inl (upd (g1 2) (v1).toNatClampNeg (g1 1 1))))) (c' := 0) (s' := 0) 7 hb (fun n => rfl) ?_
      simp only [cond_true] at h
      rw [im_a2]
      cases hb : iv_in (v1 + (1 : Int32)) 160 with
      | false => rw [hb] at h; cases h
      | true =>
        rw [hb] at h
        refine iv_chk (mi' := 15) (pc' := 30) (ls' := [.ref 4, .int a, .int b, .int c, .int v1]) (st' := []) (A' := List.set (im_H (im_w g1 2 (v1).toNatClampNeg (g1 1 1)) u o Y) 2 (.inl (0, 160, .inl (upd ((im_w g1 2 (v1).toNatClampNeg (g1 1 1)) 2) ((v1 + (1 : Int32))).toNatClampNeg a)))) (c' := 0) (s' := 0) 7 hb (fun n => rfl) ?_
        simp only [cond_true] at h
        rw [im_a2]
        cases hb : iv_in (v1 + (2 : Int32)) 160 with
        | false => rw [hb] at h; cases h
        | true =>
          rw [hb] at h
          refine iv_chk (mi' := 15) (pc' := 40) (ls' := [.ref 4, .int a, .int b, .int c, .int v1]) (st' := []) (A' := List.set (im_H (im_w (im_w g1 2 (v1).toNatClampNeg (g1 1 1)) 2 ((v1 + (1 : Int32))).toNatClampNeg a) u o Y) 2 (.inl (0, 160, .inl (upd ((im_w (im_w g1 2 (v1).toNatClampNeg (g1 1 1)) 2 ((v1 + (1 : Int32))).toNatClampNeg a) 2) ((v1 + (2 : Int32))).toNatClampNeg b)))) (c' := 0) (s' := 0) 7 hb (fun n => rfl) ?_
          simp only [cond_true] at h
          rw [im_a2]
          cases hb : iv_in (v1 + (3 : Int32)) 160 with
          | false => rw [hb] at h; cases h
          | true =>
            rw [hb] at h
            refine iv_chk (mi' := 15) (pc' := 50) (ls' := [.ref 4, .int a, .int b, .int c, .int v1]) (st' := []) (A' := List.set (im_H (im_w (im_w (im_w g1 2 (v1).toNatClampNeg (g1 1 1)) 2 ((v1 + (1 : Int32))).toNatClampNeg a) 2 ((v1 + (2 : Int32))).toNatClampNeg b) u o Y) 2 (.inl (0, 160, .inl (upd ((im_w (im_w (im_w g1 2 (v1).toNatClampNeg (g1 1 1)) 2 ((v1 + (1 : Int32))).toNatClampNeg a) 2 ((v1 + (2 : Int32))).toNatClampNeg b) 2) ((v1 + (3 : Int32))).toNatClampNeg c)))) (c' := 0) (s' := 0) 7 hb (fun n => rfl) ?_
            simp only [cond_true] at h
            rw [im_a2]
            refine iv_blk (mi' := 15) (pc' := 60) (ls' := [.ref 4, .int a, .int b, .int c, .int v1]) (st' := []) (A' := List.set (im_H (im_w (im_w (im_w (im_w g1 2 (v1).toNatClampNeg (g1 1 1)) 2 ((v1 + (1 : Int32))).toNatClampNeg a) 2 ((v1 + (2 : Int32))).toNatClampNeg b) 2 ((v1 + (3 : Int32))).toNatClampNeg c) u o Y) 1 (.inr (1, List.set [.ref 5, .int ((im_w (im_w (im_w (im_w g1 2 (v1).toNatClampNeg (g1 1 1)) 2 ((v1 + (1 : Int32))).toNatClampNeg a) 2 ((v1 + (2 : Int32))).toNatClampNeg b) 2 ((v1 + (3 : Int32))).toNatClampNeg c) 1 1), .int ((im_w (im_w (im_w (im_w g1 2 (v1).toNatClampNeg (g1 1 1)) 2 ((v1 + (1 : Int32))).toNatClampNeg a) 2 ((v1 + (2 : Int32))).toNatClampNeg b) 2 ((v1 + (3 : Int32))).toNatClampNeg c) 1 2)] 2 (.int ((g1 1 2) + (1 : Int32)))))) (c' := 0) (s' := 0) 6 (fun n => rfl) ?_
            rw [im_f1_2]
            cases h
            exact iv_ret 1 (fun n => rfl)
def x30_8 (g : im_M) (y0 : Int32) (y1 : Int32) (y2 : Int32) : Option (Int32 × im_M) :=
  some (y2, g)
set_option maxRecDepth 100000 in
theorem x30_8_ok {X : Nat → Option (Nat × (Nat → Int32))} {g u mm : im_M} {o : Nat → Int64} {Y : iv_A} {y0 y1 y2 ret : Int32} (h : x30_8 g y0 y1 y2 = some (ret, mm)) : iv_ev X 30 29 [.int y0, .int y1, .int y2, .int (7 : Int32)] [] (im_H g u o Y) 0 0 (.inl (some (.int ret)), im_H mm u o Y) := by
  unfold x30_8 at h
  cases h
  exact iv_ret 7 (fun n => rfl)
def x30_7 (g : im_M) (y0 : Int32) (y1 : Int32) (y2 : Int32) : Option (Int32 × im_M) :=
  bif Op.if_icmp.holds .le (y2 <<< ((1 : Int32) &&& 31)) (255 : Int32) then
    (x30_8 g y0 y1 (y2 <<< ((1 : Int32) &&& 31)))
  else
    (x30_8 g y0 y1 ((y2 <<< ((1 : Int32) &&& 31)) ^^^ (263 : Int32)))
set_option maxRecDepth 100000 in
theorem x30_7_ok {X : Nat → Option (Nat × (Nat → Int32))} {g u mm : im_M} {o : Nat → Int64} {Y : iv_A} {y0 y1 y2 ret : Int32} (h : x30_7 g y0 y1 y2 = some (ret, mm)) : iv_ev X 30 29 [.int y0, .int y1, .int y2, .int (6 : Int32)] [] (im_H g u o Y) 0 0 (.inl (some (.int ret)), im_H mm u o Y) := by
  unfold x30_7 at h
  cases hb : Op.if_icmp.holds .le (y2 <<< ((1 : Int32) &&& 31)) (255 : Int32) with
  | true =>
    rw [hb] at h
    simp only [cond_true] at h
    refine iv_brt (mi' := 30) (pc' := 29) (ls' := [.int y0, .int y1, .int (y2 <<< ((1 : Int32) &&& 31)), .int (7 : Int32)]) (st' := []) (A' := im_H g u o Y) (c' := 0) (s' := 0) (mi'' := 30) (pc'' := 23) (ls'' := [.int y0, .int y1, .int (y2 <<< ((1 : Int32) &&& 31)), .int (7 : Int32)]) (st'' := []) (A'' := im_H g u o Y) (c'' := 0) (s'' := 0) 12 0 0 hb (fun n => rfl) ?_
    exact x30_8_ok h
  | false =>
    rw [hb] at h
    simp only [cond_false] at h
    refine iv_brf (mi' := 30) (pc' := 29) (ls' := [.int y0, .int y1, .int (y2 <<< ((1 : Int32) &&& 31)), .int (7 : Int32)]) (st' := []) (A' := im_H g u o Y) (c' := 0) (s' := 0) (mi'' := 30) (pc'' := 23) (ls'' := [.int y0, .int y1, .int (y2 <<< ((1 : Int32) &&& 31)), .int (7 : Int32)]) (st'' := []) (A'' := im_H g u o Y) (c'' := 0) (s'' := 0) 12 0 0 hb (fun n => rfl) ?_
    exact iv_blk 4 (fun n => rfl) (x30_8_ok h)
def x30_6 (g : im_M) (y0 : Int32) (y1 : Int32) (y2 : Int32) : Option (Int32 × im_M) :=
  bif Op.if_icmp.holds .le (y2 <<< ((1 : Int32) &&& 31)) (255 : Int32) then
    (x30_7 g y0 y1 (y2 <<< ((1 : Int32) &&& 31)))
  else
    (x30_7 g y0 y1 ((y2 <<< ((1 : Int32) &&& 31)) ^^^ (263 : Int32)))
set_option maxRecDepth 100000 in
theorem x30_6_ok {X : Nat → Option (Nat × (Nat → Int32))} {g u mm : im_M} {o : Nat → Int64} {Y : iv_A} {y0 y1 y2 ret : Int32} (h : x30_6 g y0 y1 y2 = some (ret, mm)) : iv_ev X 30 29 [.int y0, .int y1, .int y2, .int (5 : Int32)] [] (im_H g u o Y) 0 0 (.inl (some (.int ret)), im_H mm u o Y) := by
  unfold x30_6 at h
  cases hb : Op.if_icmp.holds .le (y2 <<< ((1 : Int32) &&& 31)) (255 : Int32) with
  | true =>
    rw [hb] at h
    simp only [cond_true] at h
    refine iv_brt (mi' := 30) (pc' := 29) (ls' := [.int y0, .int y1, .int (y2 <<< ((1 : Int32) &&& 31)), .int (6 : Int32)]) (st' := []) (A' := im_H g u o Y) (c' := 0) (s' := 0) (mi'' := 30) (pc'' := 23) (ls'' := [.int y0, .int y1, .int (y2 <<< ((1 : Int32) &&& 31)), .int (6 : Int32)]) (st'' := []) (A'' := im_H g u o Y) (c'' := 0) (s'' := 0) 12 0 0 hb (fun n => rfl) ?_
    exact x30_7_ok h
  | false =>
    rw [hb] at h
    simp only [cond_false] at h
    refine iv_brf (mi' := 30) (pc' := 29) (ls' := [.int y0, .int y1, .int (y2 <<< ((1 : Int32) &&& 31)), .int (6 : Int32)]) (st' := []) (A' := im_H g u o Y) (c' := 0) (s' := 0) (mi'' := 30) (pc'' := 23) (ls'' := [.int y0, .int y1, .int (y2 <<< ((1 : Int32) &&& 31)), .int (6 : Int32)]) (st'' := []) (A'' := im_H g u o Y) (c'' := 0) (s'' := 0) 12 0 0 hb (fun n => rfl) ?_
    exact iv_blk 4 (fun n => rfl) (x30_7_ok h)
def x30_5 (g : im_M) (y0 : Int32) (y1 : Int32) (y2 : Int32) : Option (Int32 × im_M) :=
  bif Op.if_icmp.holds .le (y2 <<< ((1 : Int32) &&& 31)) (255 : Int32) then
    (x30_6 g y0 y1 (y2 <<< ((1 : Int32) &&& 31)))
  else
    (x30_6 g y0 y1 ((y2 <<< ((1 : Int32) &&& 31)) ^^^ (263 : Int32)))
set_option maxRecDepth 100000 in
theorem x30_5_ok {X : Nat → Option (Nat × (Nat → Int32))} {g u mm : im_M} {o : Nat → Int64} {Y : iv_A} {y0 y1 y2 ret : Int32} (h : x30_5 g y0 y1 y2 = some (ret, mm)) : iv_ev X 30 29 [.int y0, .int y1, .int y2, .int (4 : Int32)] [] (im_H g u o Y) 0 0 (.inl (some (.int ret)), im_H mm u o Y) := by
  unfold x30_5 at h
  cases hb : Op.if_icmp.holds .le (y2 <<< ((1 : Int32) &&& 31)) (255 : Int32) with
  | true =>
    rw [hb] at h
    simp only [cond_true] at h
    refine iv_brt (mi' := 30) (pc' := 29) (ls' := [.int y0, .int y1, .int (y2 <<< ((1 : Int32) &&& 31)), .int (5 : Int32)]) (st' := []) (A' := im_H g u o Y) (c' := 0) (s' := 0) (mi'' := 30) (pc'' := 23) (ls'' := [.int y0, .int y1, .int (y2 <<< ((1 : Int32) &&& 31)), .int (5 : Int32)]) (st'' := []) (A'' := im_H g u o Y) (c'' := 0) (s'' := 0) 12 0 0 hb (fun n => rfl) ?_
    exact x30_6_ok h
  | false =>
    rw [hb] at h
    simp only [cond_false] at h
    refine iv_brf (mi' := 30) (pc' := 29) (ls' := [.int y0, .int y1, .int (y2 <<< ((1 : Int32) &&& 31)), .int (5 : Int32)]) (st' := []) (A' := im_H g u o Y) (c' := 0) (s' := 0) (mi'' := 30) (pc'' := 23) (ls'' := [.int y0, .int y1, .int (y2 <<< ((1 : Int32) &&& 31)), .int (5 : Int32)]) (st'' := []) (A'' := im_H g u o Y) (c'' := 0) (s'' := 0) 12 0 0 hb (fun n => rfl) ?_
    exact iv_blk 4 (fun n => rfl) (x30_6_ok h)
def x30_4 (g : im_M) (y0 : Int32) (y1 : Int32) (y2 : Int32) : Option (Int32 × im_M) :=
  bif Op.if_icmp.holds .le (y2 <<< ((1 : Int32) &&& 31)) (255 : Int32) then
    (x30_5 g y0 y1 (y2 <<< ((1 : Int32) &&& 31)))
  else
    (x30_5 g y0 y1 ((y2 <<< ((1 : Int32) &&& 31)) ^^^ (263 : Int32)))
set_option maxRecDepth 100000 in
theorem x30_4_ok {X : Nat → Option (Nat × (Nat → Int32))} {g u mm : im_M} {o : Nat → Int64} {Y : iv_A} {y0 y1 y2 ret : Int32} (h : x30_4 g y0 y1 y2 = some (ret, mm)) : iv_ev X 30 29 [.int y0, .int y1, .int y2, .int (3 : Int32)] [] (im_H g u o Y) 0 0 (.inl (some (.int ret)), im_H mm u o Y) := by
  unfold x30_4 at h
  cases hb : Op.if_icmp.holds .le (y2 <<< ((1 : Int32) &&& 31)) (255 : Int32) with
  | true =>
    rw [hb] at h
    simp only [cond_true] at h
    refine iv_brt (mi' := 30) (pc' := 29) (ls' := [.int y0, .int y1, .int (y2 <<< ((1 : Int32) &&& 31)), .int (4 : Int32)]) (st' := []) (A' := im_H g u o Y) (c' := 0) (s' := 0) (mi'' := 30) (pc'' := 23) (ls'' := [.int y0, .int y1, .int (y2 <<< ((1 : Int32) &&& 31)), .int (4 : Int32)]) (st'' := []) (A'' := im_H g u o Y) (c'' := 0) (s'' := 0) 12 0 0 hb (fun n => rfl) ?_
    exact x30_5_ok h
  | false =>
    rw [hb] at h
    simp only [cond_false] at h
    refine iv_brf (mi' := 30) (pc' := 29) (ls' := [.int y0, .int y1, .int (y2 <<< ((1 : Int32) &&& 31)), .int (4 : Int32)]) (st' := []) (A' := im_H g u o Y) (c' := 0) (s' := 0) (mi'' := 30) (pc'' := 23) (ls'' := [.int y0, .int y1, .int (y2 <<< ((1 : Int32) &&& 31)), .int (4 : Int32)]) (st'' := []) (A'' := im_H g u o Y) (c'' := 0) (s'' := 0) 12 0 0 hb (fun n => rfl) ?_
    exact iv_blk 4 (fun n => rfl) (x30_5_ok h)
def x30_3 (g : im_M) (y0 : Int32) (y1 : Int32) (y2 : Int32) : Option (Int32 × im_M) :=
  bif Op.if_icmp.holds .le (y2 <<< ((1 : Int32) &&& 31)) (255 : Int32) then
    (x30_4 g y0 y1 (y2 <<< ((1 : Int32) &&& 31)))
  else
    (x30_4 g y0 y1 ((y2 <<< ((1 : Int32) &&& 31)) ^^^ (263 : Int32)))
set_option maxRecDepth 100000 in
theorem x30_3_ok {X : Nat → Option (Nat × (Nat → Int32))} {g u mm : im_M} {o : Nat → Int64} {Y : iv_A} {y0 y1 y2 ret : Int32} (h : x30_3 g y0 y1 y2 = some (ret, mm)) : iv_ev X 30 29 [.int y0, .int y1, .int y2, .int (2 : Int32)] [] (im_H g u o Y) 0 0 (.inl (some (.int ret)), im_H mm u o Y) := by
  unfold x30_3 at h
  cases hb : Op.if_icmp.holds .le (y2 <<< ((1 : Int32) &&& 31)) (255 : Int32) with
  | true =>
    rw [hb] at h
    simp only [cond_true] at h
    refine iv_brt (mi' := 30) (pc' := 29) (ls' := [.int y0, .int y1, .int (y2 <<< ((1 : Int32) &&& 31)), .int (3 : Int32)]) (st' := []) (A' := im_H g u o Y) (c' := 0) (s' := 0) (mi'' := 30) (pc'' := 23) (ls'' := [.int y0, .int y1, .int (y2 <<< ((1 : Int32) &&& 31)), .int (3 : Int32)]) (st'' := []) (A'' := im_H g u o Y) (c'' := 0) (s'' := 0) 12 0 0 hb (fun n => rfl) ?_
    exact x30_4_ok h
  | false =>
    rw [hb] at h
    simp only [cond_false] at h
    refine iv_brf (mi' := 30) (pc' := 29) (ls' := [.int y0, .int y1, .int (y2 <<< ((1 : Int32) &&& 31)), .int (3 : Int32)]) (st' := []) (A' := im_H g u o Y) (c' := 0) (s' := 0) (mi'' := 30) (pc'' := 23) (ls'' := [.int y0, .int y1, .int (y2 <<< ((1 : Int32) &&& 31)), .int (3 : Int32)]) (st'' := []) (A'' := im_H g u o Y) (c'' := 0) (s'' := 0) 12 0 0 hb (fun n => rfl) ?_
    exact iv_blk 4 (fun n => rfl) (x30_4_ok h)
def x30_2 (g : im_M) (y0 : Int32) (y1 : Int32) (y2 : Int32) : Option (Int32 × im_M) :=
  bif Op.if_icmp.holds .le (y2 <<< ((1 : Int32) &&& 31)) (255 : Int32) then
    (x30_3 g y0 y1 (y2 <<< ((1 : Int32) &&& 31)))
  else
    (x30_3 g y0 y1 ((y2 <<< ((1 : Int32) &&& 31)) ^^^ (263 : Int32)))
set_option maxRecDepth 100000 in
theorem x30_2_ok {X : Nat → Option (Nat × (Nat → Int32))} {g u mm : im_M} {o : Nat → Int64} {Y : iv_A} {y0 y1 y2 ret : Int32} (h : x30_2 g y0 y1 y2 = some (ret, mm)) : iv_ev X 30 29 [.int y0, .int y1, .int y2, .int (1 : Int32)] [] (im_H g u o Y) 0 0 (.inl (some (.int ret)), im_H mm u o Y) := by
  unfold x30_2 at h
  cases hb : Op.if_icmp.holds .le (y2 <<< ((1 : Int32) &&& 31)) (255 : Int32) with
  | true =>
    rw [hb] at h
    simp only [cond_true] at h
    refine iv_brt (mi' := 30) (pc' := 29) (ls' := [.int y0, .int y1, .int (y2 <<< ((1 : Int32) &&& 31)), .int (2 : Int32)]) (st' := []) (A' := im_H g u o Y) (c' := 0) (s' := 0) (mi'' := 30) (pc'' := 23) (ls'' := [.int y0, .int y1, .int (y2 <<< ((1 : Int32) &&& 31)), .int (2 : Int32)]) (st'' := []) (A'' := im_H g u o Y) (c'' := 0) (s'' := 0) 12 0 0 hb (fun n => rfl) ?_
    exact x30_3_ok h
  | false =>
    rw [hb] at h
    simp only [cond_false] at h
    refine iv_brf (mi' := 30) (pc' := 29) (ls' := [.int y0, .int y1, .int (y2 <<< ((1 : Int32) &&& 31)), .int (2 : Int32)]) (st' := []) (A' := im_H g u o Y) (c' := 0) (s' := 0) (mi'' := 30) (pc'' := 23) (ls'' := [.int y0, .int y1, .int (y2 <<< ((1 : Int32) &&& 31)), .int (2 : Int32)]) (st'' := []) (A'' := im_H g u o Y) (c'' := 0) (s'' := 0) 12 0 0 hb (fun n => rfl) ?_
    exact iv_blk 4 (fun n => rfl) (x30_3_ok h)
def x30_1 (g : im_M) (y0 : Int32) (y1 : Int32) (y2 : Int32) : Option (Int32 × im_M) :=
  bif Op.if_icmp.holds .le (y2 <<< ((1 : Int32) &&& 31)) (255 : Int32) then
    (x30_2 g y0 y1 (y2 <<< ((1 : Int32) &&& 31)))
  else
    (x30_2 g y0 y1 ((y2 <<< ((1 : Int32) &&& 31)) ^^^ (263 : Int32)))
set_option maxRecDepth 100000 in
theorem x30_1_ok {X : Nat → Option (Nat × (Nat → Int32))} {g u mm : im_M} {o : Nat → Int64} {Y : iv_A} {y0 y1 y2 ret : Int32} (h : x30_1 g y0 y1 y2 = some (ret, mm)) : iv_ev X 30 29 [.int y0, .int y1, .int y2, .int (0 : Int32)] [] (im_H g u o Y) 0 0 (.inl (some (.int ret)), im_H mm u o Y) := by
  unfold x30_1 at h
  cases hb : Op.if_icmp.holds .le (y2 <<< ((1 : Int32) &&& 31)) (255 : Int32) with
  | true =>
    rw [hb] at h
    simp only [cond_true] at h
    refine iv_brt (mi' := 30) (pc' := 29) (ls' := [.int y0, .int y1, .int (y2 <<< ((1 : Int32) &&& 31)), .int (1 : Int32)]) (st' := []) (A' := im_H g u o Y) (c' := 0) (s' := 0) (mi'' := 30) (pc'' := 23) (ls'' := [.int y0, .int y1, .int (y2 <<< ((1 : Int32) &&& 31)), .int (1 : Int32)]) (st'' := []) (A'' := im_H g u o Y) (c'' := 0) (s'' := 0) 12 0 0 hb (fun n => rfl) ?_
    exact x30_2_ok h
  | false =>
    rw [hb] at h
    simp only [cond_false] at h
    refine iv_brf (mi' := 30) (pc' := 29) (ls' := [.int y0, .int y1, .int (y2 <<< ((1 : Int32) &&& 31)), .int (1 : Int32)]) (st' := []) (A' := im_H g u o Y) (c' := 0) (s' := 0) (mi'' := 30) (pc'' := 23) (ls'' := [.int y0, .int y1, .int (y2 <<< ((1 : Int32) &&& 31)), .int (1 : Int32)]) (st'' := []) (A'' := im_H g u o Y) (c'' := 0) (s'' := 0) 12 0 0 hb (fun n => rfl) ?_
    exact iv_blk 4 (fun n => rfl) (x30_2_ok h)
def x30 (g : im_M) (a : Int32) (b : Int32) : Option (Int32 × im_M) :=
  bif Op.if_icmp.holds .le ((a ^^^ b) <<< ((1 : Int32) &&& 31)) (255 : Int32) then
    (x30_1 g a b ((a ^^^ b) <<< ((1 : Int32) &&& 31)))
  else
    (x30_1 g a b (((a ^^^ b) <<< ((1 : Int32) &&& 31)) ^^^ (263 : Int32)))
set_option maxRecDepth 100000 in
theorem x30_ok {X : Nat → Option (Nat × (Nat → Int32))} {g u mm : im_M} {o : Nat → Int64} {Y : iv_A} {a b ret : Int32} (h : x30 g a b = some (ret, mm)) : iv_ev X 30 0 [.int a, .int b, .retAddr 0, .retAddr 0] [] (im_H g u o Y) 0 0 (.inl (some (.int ret)), im_H mm u o Y) := by
  unfold x30 at h
  cases hb : Op.if_icmp.holds .le ((a ^^^ b) <<< ((1 : Int32) &&& 31)) (255 : Int32) with
  | true =>
    rw [hb] at h
    simp only [cond_true] at h
    refine iv_brt (mi' := 30) (pc' := 29) (ls' := [.int a, .int b, .int ((a ^^^ b) <<< ((1 : Int32) &&& 31)), .int (0 : Int32)]) (st' := []) (A' := im_H g u o Y) (c' := 0) (s' := 0) (mi'' := 30) (pc'' := 23) (ls'' := [.int a, .int b, .int ((a ^^^ b) <<< ((1 : Int32) &&& 31)), .int (0 : Int32)]) (st'' := []) (A'' := im_H g u o Y) (c'' := 0) (s'' := 0) 16 0 0 hb (fun n => rfl) ?_
    exact x30_1_ok h
  | false =>
    rw [hb] at h
    simp only [cond_false] at h
    refine iv_brf (mi' := 30) (pc' := 29) (ls' := [.int a, .int b, .int ((a ^^^ b) <<< ((1 : Int32) &&& 31)), .int (0 : Int32)]) (st' := []) (A' := im_H g u o Y) (c' := 0) (s' := 0) (mi'' := 30) (pc'' := 23) (ls'' := [.int a, .int b, .int ((a ^^^ b) <<< ((1 : Int32) &&& 31)), .int (0 : Int32)]) (st'' := []) (A'' := im_H g u o Y) (c'' := 0) (s'' := 0) 16 0 0 hb (fun n => rfl) ?_
    exact iv_blk 4 (fun n => rfl) (x30_1_ok h)
def x29 (g : im_M) (a : Int32) (b : Int32) : Option (Int32 × im_M) :=
  Option.bind (x30 g (0 : Int32) a) (fun (v1, g1) =>
    Option.bind (x30 g1 v1 b) (fun (v2, g2) =>
      some (v2, g2)))
set_option maxRecDepth 100000 in
theorem x29_ok {X : Nat → Option (Nat × (Nat → Int32))} {g u mm : im_M} {o : Nat → Int64} {Y : iv_A} {a b ret : Int32} (h : x29 g a b = some (ret, mm)) : iv_ev X 29 0 [.int a, .int b] [] (im_H g u o Y) 0 0 (.inl (some (.int ret)), im_H mm u o Y) := by
  unfold x29 at h
  cases hc : x30 g (0 : Int32) a with
  | none => rw [hc] at h; cases h
  | some q =>
    obtain ⟨v1, g1⟩ := q
    rw [hc] at h
    simp only [Option.bind_some] at h
    refine iv_cal (mi' := 29) (pc' := 2) (ls' := [.int a, .int b]) (rest := []) (A' := im_H g u o Y) (c' := 0) (s' := 0) (as := [.int (0 : Int32), .int a]) (v := some (.int v1)) (A'' := im_H g1 u o Y) 3 30 (fun n => rfl) rfl (x30_ok hc) ?_
    show iv_ev X 29 5 [.int a, .int b] [.int v1] (im_H g1 u o Y) 0 0 _
    cases hc : x30 g1 v1 b with
    | none => rw [hc] at h; cases h
    | some q =>
      obtain ⟨v2, g2⟩ := q
      rw [hc] at h
      simp only [Option.bind_some] at h
      refine iv_cal (mi' := 29) (pc' := 6) (ls' := [.int a, .int b]) (rest := []) (A' := im_H g1 u o Y) (c' := 0) (s' := 0) (as := [.int v1, .int b]) (v := some (.int v2)) (A'' := im_H g2 u o Y) 2 30 (fun n => rfl) rfl (x30_ok hc) ?_
      show iv_ev X 29 9 [.int a, .int b] [.int v2] (im_H g2 u o Y) 0 0 _
      cases h
      exact iv_ret 1 (fun n => rfl)
end
