/-! A throw that a row of the method's own table catches (its class not yet resolved), a throw that leaves, 'throw new E()'. -/
def iv_pick (pc : Nat) (ok : Nat → Bool) : List (Nat × Nat × Nat × Nat) → Option Nat
  | [] => none
  | r :: t => bif decide (r.1 ≤ pc) && decide (pc < r.2.1) then (bif ok r.2.2.2 then some r.2.2.1 else iv_pick pc ok t) else iv_pick pc ok t
section IvC
variable {e : Env} {s₀ : State} {f : JFrame} {a : Addr} {cell : Cell} {ok : Nat → Bool} {h : Nat}
theorem iv_go (hobj : ∀ k, cell.vm ≠ .statics k) (hk0 : ∃ k, s₀.vm.classes[cell.cls]? = some k) :
    ∀ hh : List (Nat × Nat × Nat × Nat), (∀ r ∈ hh, r.2.2.2 ≠ 0 ∧ ∃ c, s₀.vm.ClassLinks e.platform f.method.cls r.2.2.2 c ∧ s₀.vm.assignable cell.cls c = ok r.2.2.2) → iv_pick f.pc ok hh = some h →
    ∀ S : State, s₀.WarmedH S.vm → S.heap[a]? = some cell →
      ∃ vm', s₀.WarmedH vm' ∧ ∀ (Q : Handler → Pre) (E : CtlPost) (d : Bool) (acts : List Action), wp (findHandler.go f a (tableOf hh)) Q E e d acts S ↔ Q (.found h) d acts (S.setVm vm') := by
  intro hh
  induction hh with
  | nil => intro _ hp; cases hp
  | cons r t ih =>
    intro hall hp S hW hcell
    obtain ⟨sp, ep, hd, ct⟩ := r
    obtain ⟨h0, c, hl, hok⟩ := hall _ (List.mem_cons_self ..)
    have ih' := ih (fun r hr => hall r (List.mem_cons_of_mem _ hr))
    have htab : tableOf ((sp, ep, hd, ct) :: t) = (⟨sp, ep, hd, ct⟩ : ExceptionTableEntry) :: tableOf t := rfl
    simp only [iv_pick] at hp
    cases hc : decide (sp ≤ f.pc) && decide (f.pc < ep) with
    | false =>
      rw [hc] at hp
      obtain ⟨vm', hW', hq⟩ := ih' hp S hW hcell
      refine ⟨vm', hW', fun Q E d acts => ?_⟩
      rw [htab, W.findHandler_go_skip (x := ⟨sp, ep, hd, ct⟩) hc]
      exact hq Q E d acts
    | true =>
      rw [hc] at hp
      obtain ⟨dk, _, _, kt, hdk, _, _, _, _, hkt, _, hopen⟩ := hl.here
      obtain ⟨kt', hkt', -⟩ := hW.alike.2.2 _ _ hkt
      obtain ⟨k0, hk0⟩ := hk0
      obtain ⟨k0', hk0', -⟩ := hW.alike.2.2 _ _ hk0
      have hl' := hW.classLinks hl
      obtain ⟨ha, ht⟩ := (resolveClass_links e.toSetting hl').op (op := VmOp.resolveClass f.method.cls ct) rfl
      have hal : S.vm.Alike (S.vm.noted f.method.cls ct (.cls c)) := (Vm.Alike.refl S.vm).noted _ _ _
      obtain ⟨k1', hk1', -⟩ := hal.2.2 _ _ hk0'
      obtain ⟨k2', hk2', -⟩ := hal.2.2 _ _ hkt'
      have hW2 : s₀.WarmedH (S.vm.noted f.method.cls ct (.cls c)) := hW.noted hdk hopen (State.rightAt_cls hl)
      have has : (S.vm.noted f.method.cls ct (.cls c)).assignable cell.cls c = ok ct := by rw [hW2.alike.assignable]; exact hok
      cases hb : ok ct with
      | true =>
        rw [hb] at hp has
        obtain rfl := Option.some.inj hp
        refine ⟨_, hW2, fun Q E d acts => ?_⟩
        rw [htab]
        simp [findHandler.go, hc, h0, ha, ht, hcell, hobj, hk1', hk2', has, VmOp.dirties, VmOp.acts]
      | false =>
        rw [hb] at hp has
        obtain ⟨vm', hW', hq⟩ := ih' hp (S.setVm (S.vm.noted f.method.cls ct (.cls c))) hW2 hcell
        refine ⟨vm', hW', fun Q E d acts => ?_⟩
        have h1 : wp (findHandler.go f a (tableOf ((sp, ep, hd, ct) :: t))) Q E e d acts S ↔ wp (findHandler.go f a (tableOf t)) Q E e d acts (S.setVm (S.vm.noted f.method.cls ct (.cls c))) := by
          rw [htab]
          simp [findHandler.go, hc, h0, ha, ht, hcell, hobj, hk1', hk2', has, VmOp.dirties, VmOp.acts]
        rw [h1]
        exact hq Q E d acts
theorem iv_stepT {s : State} {r : List Frame} {pc : Nat} {vm' : Vm} (hfind : ∀ (Q : Handler → Pre) (E : CtlPost) (d : Bool) (acts : List Action), wp (findHandler f a) Q E e d acts s ↔ Q (.found pc) d acts (s.setVm vm')) :
    (stepThrowing e s a (.java f :: r)).Is ((s.setVm vm').setFrames (.java { f with pc := pc, stack := [.ref a] } :: r)) [] := by
  simp only [stepThrowing, searchFrame, vmDo]
  generalize hr : Sem.go _ e false [] s = res
  obtain ⟨as, rfl, ha⟩ := Sem.eq_ok_of hr (a := Handler.found pc) (s' := s.setVm vm') (acts' := []) (by simp [hfind _ _ _ _])
  exact ⟨rfl, ha⟩
end IvC
section IvD
variable {p : Program} {l : Launch} {e : Env} {R : Room} {s : State} {m : MethodId} {args : Array Value} {below : List Frame} {meth : Method} {c : Code} {H : Heap} {locs : List Loc} {cells slots : Nat} {Q : State → Prop} {T : State} {pc : Nat} {ls : Array Slot} {rest : List Value}
theorem iv_catch (X : Stand p l e R s m args below meth c T locs cells slots) {x : Addr} {cell : Cell} {h : Nat} {ok : Nat → Bool} {hh : List (Nat × Nat × Nat × Nat)} (htab : c.exceptionTable.toList = tableOf hh) (hcell : T.heap[x]? = some cell) (hobj : cell.vm.isStatics = false) (hk0 : ∃ k, s.vm.classes[cell.cls]? = some k)
    (hall : ∀ r ∈ hh, r.2.2.2 ≠ 0 ∧ ∃ c, s.vm.ClassLinks e.platform m.cls r.2.2.2 c ∧ s.vm.assignable cell.cls c = ok r.2.2.2) (hp : iv_pick pc ok hh = some h)
    (k : W p l e R s m args below meth c T.heap locs cells slots Q (F0 m h ls [.ref x])) : ∃ u, Steps p.tables e below ((T.setTop (F0 m pc ls rest)).pushFrame (.throwing x)) u ∧ Q u := by
  obtain ⟨vm', hW', hf⟩ := iv_go (e := e) (f := F0 m pc ls rest) (a := x) (VmData.ne_statics_of hobj) hk0 hh hall hp ((T.setTop (F0 m pc ls rest)).pushFrame (.throwing x)) X.warmed hcell
  have hf2 : ∀ (Q : Handler → Pre) (E : CtlPost) (d : Bool) (acts : List Action), wp (findHandler (F0 m pc ls rest) x) Q E e d acts ((T.setTop (F0 m pc ls rest)).pushFrame (.throwing x)) ↔ Q (.found h) d acts (((T.setTop (F0 m pc ls rest)).pushFrame (.throwing x)).setVm vm') := by
    intro Q E d acts
    rw [W.findHandler_eq (meth := meth) (code := c) X.method' X.code, htab]
    exact hf Q E d acts
  obtain ⟨u, a1, b1⟩ := k (T.setVm vm') rfl (X.noted hW')
  refine ⟨u, ?_, b1⟩
  have hat : At T (F0 m pc ls rest).method c below := X.here
  obtain ⟨hgo, hw⟩ := hat.throwing x
  refine Steps.head hgo hw ?_
  rw [stepThread_throwing (frames_entered hat.top _), (iv_stepT (s := (T.setTop (F0 m pc ls rest)).pushFrame (.throwing x)) hf2).1]
  obtain ⟨g₀, hg⟩ := Option.isSome_iff_exists.mp hat.top
  obtain ⟨r, hr⟩ := State.topJava?_eq_some.mp hg
  have hr' : (T.setVm vm').frames = .java g₀ :: r := hr
  rw [State.setTop_of_frames _ hr'] at a1
  have hsv : ∀ (u : State) (F G : List Frame), ((u.setFrames F).setVm vm').setFrames G = (u.setVm vm').setFrames G := fun u F G => by
    have h1 : (u.setFrames F).setVm vm' = (u.setVm vm').setFrames F := rfl
    rw [h1, State.setFrames_setFrames]
  rw [hr, List.tail_cons, State.pushFrame, hsv, State.setTop_of_frames _ hr, hsv]
  exact a1
theorem iv_leave (X : Stand p l e R s m args below meth c T locs cells slots) {x : Addr} (hout : ∀ r ∈ c.exceptionTable.toList, covers r pc = false) (hlk : meth.locks = false)
    (k : ∀ u : State, u.heap = T.heap → u.status = .running → Ended u below (.threw x) → s.WarmedH u.vm → s.sameButNew ({ u with vm := s.vm } : State) locs cells slots → Q u) : ∃ u, Steps p.tables e below ((T.setTop (F0 m pc ls rest)).pushFrame (.throwing x)) u ∧ Q u := by
  obtain ⟨h1, h2, h3, h4, h5⟩ := X.leaveThrown x (g := F0 m pc ls rest) rfl rfl rfl hout hlk
  exact ⟨_, h1, k _ rfl h2 h3 h4 h5⟩
/-- the same point, told from a start that has the heap of now -/
theorem iv_reroot (X : Stand p l e R s m args below meth c T locs cells slots) (hc : cells ≤ R.cells) (hs : slots ≤ R.slots) :
    Stand p l e { R with cells := R.cells - cells, slots := R.slots - slots } ({ s with heap := T.heap, slotsUsed := T.slotsUsed } : State) m args below meth c T [] 0 0 := by
  have hsz := X.heapSize
  have hus := X.used
  refine ⟨X.admits, X.cas, X.clock, X.frames, ?_, X.hears, X.method, X.code, X.here, X.tail, X.warmed, X.limits, X.bytes, ?_⟩
  · have hr := X.room
    have hb := X.book
    simp only [State.hasRoom, Bool.and_eq_true, decide_eq_true_eq] at hr ⊢
    obtain ⟨⟨⟨⟨r1, r2⟩, r3⟩, r4⟩, r5⟩ := hr
    refine ⟨⟨⟨⟨r1, r2⟩, ?_⟩, ?_⟩, hb⟩
    · show T.heap.size + (R.cells - cells) ≤ _
      omega
    · show T.slotsUsed + (R.slots - slots) ≤ _
      omega
  · obtain ⟨e1, -⟩ := X.same
    have hdr : T.heap.toList.drop T.heap.size = [] := List.drop_eq_nil_of_le (by rw [Array.length_toList]; exact Nat.le_refl _)
    refine ⟨e1, Nat.le_refl _, Nat.le_refl _, ?_, ?_, fun a cl h => ⟨cl, h, rfl, rfl, fun _ _ => rfl⟩⟩
    · show T.slotsUsed = T.slotsUsed + ((T.heap.toList.drop T.heap.size).map (fun x : Cell => x.slots.size)).sum
      rw [hdr]
      rfl
    · show ((T.heap.toList.drop T.heap.size).map (fun x : Cell => x.slots.size)).sum ≤ 0
      rw [hdr]
      exact Nat.le_refl _
theorem iv_inst_mem (own : String) (ic : Nat) (cls : String) (names : List String) : Cond.instantiable cls 6 ∈ Bundle.ownAtoms0 own ic cls names := by
  unfold Bundle.ownAtoms0
  exact List.mem_append_right _ (List.mem_cons_of_mem _ (List.mem_cons_self ..))
set_option maxHeartbeats 4000000 in
theorem iv_throw {cc : ByteArray} {own cls : String} {names : List String} {ic idx : Nat} (hx : p.tables.exec = Jvm.exec) (hb : c.code = cc) (hsize : ls.size = c.maxLocals) (htr : l.admits e → e.platform.stackTraces = false) (hlk : meth.locks = false)
    (hown : s.vm.findClass own = some m.cls) (hcls : Bundle.fit cls = true) (hnames : ∀ n ∈ names, Bundle.fit n = true)
    (hat : ∀ U : State, U.vm = s.vm → U.heap = H → ∀ w ∈ Bundle.ownAtoms0 own ic cls names, w.before args U = true)
    (hcl : ∀ U : State, U.vm = s.vm → (Cond.classLink own idx cls).before args U = true ∧ (Cond.initialized cls).before args U = true)
    (hd0 : decode cc pc = .ok (.new idx, 3)) (hd3 : decode cc (pc + 3) = .ok (.dup, 1)) (hd4 : decode cc (pc + 4) = .ok (.invokespecial ic, 3)) (hd7 : decode cc (pc + 7) = .ok (.athrow, 1)) (hout : ∀ r ∈ c.exceptionTable.toList, covers r (pc + 7) = false)
    (hf : names.length + 3 < R.frames) (hlo : ((rest.map fun v => v.category).sum + 1) + (13 * (names.length + 1) + 41) ≤ R.locals) (hc1 : cells + 1 ≤ R.cells) (hs6 : slots + 6 ≤ R.slots)
    (kk : ∀ (U : State) (a : Addr) (ce : Cell), U.status = .running → Ended U below (.threw a) → s.WarmedH U.vm → s.sameButNew ({ U with vm := s.vm } : State) locs (cells + 1) (slots + 6) → H.size ≤ a → U.heap[a]? = some ce → s.vm.findClass cls = some ce.cls → ce.vm = .none → (∀ (q : Nat) (cq : Cell), H[q]? = some cq → U.heap[q]? = some cq) → Q U) :
    W p l e R s m args below meth c H locs cells slots Q (F0 m pc ls rest) := by
  intro T hT X
  subst hT
  have X' := iv_reroot X (by omega) (by omega)
  have hat' := hat ({ s with heap := T.heap, slotsUsed := T.slotsUsed } : State) rfl rfl
  have hcl' := hcl ({ s with heap := T.heap, slotsUsed := T.slotsUsed } : State) rfl
  have key : W p l e { R with cells := R.cells - cells, slots := R.slots - slots } ({ s with heap := T.heap, slotsUsed := T.slotsUsed } : State) m args below meth c T.heap [] 0 0
      (fun U => ∃ (ce : Cell), U.status = .running ∧ Ended U below (.threw T.heap.size) ∧ s.WarmedH U.vm ∧ State.sameButNew ({ s with heap := T.heap, slotsUsed := T.slotsUsed } : State) ({ U with vm := s.vm } : State) [] (0 + 1) (0 + 6) ∧ U.heap[T.heap.size]? = some ce ∧ s.vm.findClass cls = some ce.cls ∧ ce.vm = .none) (F0 m pc ls rest) := by
    refine W.newc (s := ({ s with heap := T.heap, slotsUsed := T.slotsUsed } : State)) (g := F0 m pc ls rest) hx hb hown hcl'.1 (hat' (.instantiable cls 6) (iv_inst_mem own ic cls names)) hcl'.2 rfl hd0 ?_ ?_ ?_
    · show 0 + 1 ≤ R.cells - cells
      omega
    · show 0 + 6 ≤ R.slots - slots
      omega
    intro cC kC h1 h2 h3 h4
    refine lv_dup hx hb hd3 rfl ?_
    intro T2 hT2 X2
    have hcell : T2.heap[T.heap.size]? = some (freshCell cC kC) := by rw [hT2]; simp
    obtain ⟨U, st, r1, r2, r3, r4, ce, r5, r6⟩ := X2.ctorThrow0 hx (htr X2.admits) hown hcls hnames hat' (fun x hx => by cases hx) h1 h2 hcell (Nat.le_refl _) (g := F0 m (pc + 4) ls (.ref T.heap.size :: .ref T.heap.size :: rest)) rfl hsize rfl rfl rfl (by rw [hb]; exact hd4) (by rw [hb]; exact hd7) hout hf (by show 2 * 0 + (1 + (rest.map fun v => v.category).sum) + (13 * (names.length + 1) + 41) ≤ R.locals; omega) hlk
    exact ⟨U, st, ce, r1, r2, r3, r4, r5, r6.cls, r6.vm⟩
  obtain ⟨U, st, ce, r1, r2, r3, r4, r5, r6, r7⟩ := key T rfl X'
  refine ⟨U, st, kk U T.heap.size ce r1 r2 r3 ?_ (Nat.le_refl _) r5 r6 r7 ?_⟩
  · have h2 : (T.setVm s.vm).sameButNew ({ U with vm := s.vm } : State) [] 1 6 := by
      obtain ⟨e1, e2⟩ := r4
      refine ⟨?_, e2⟩
      have e3 : T.setVm s.vm = { s.setFrames T.frames with heap := T.heap, slotsUsed := T.slotsUsed } := X.same.1
      rw [e3]
      refine e1.trans ?_
      show ({ s.setFrames U.frames with heap := U.heap, slotsUsed := U.slotsUsed } : State) = { (s.setFrames T.frames).setFrames U.frames with heap := U.heap, slotsUsed := U.slotsUsed }
      rw [State.setFrames_setFrames]
    have h3 := X.same.trans h2
    rw [List.append_nil] at h3
    exact h3
  · intro q cq hq
    obtain ⟨c', x1, x2, x3, x4⟩ := r4.2.2.2.2.2 q cq hq
    have hs : c'.slots = cq.slots := Array.ext_getElem? fun i => x4 i (by simp)
    have : c' = cq := by rw [x2, hs]
    rw [← this]
    exact x1
end IvD
