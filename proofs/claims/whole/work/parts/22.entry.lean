/-! The entry of the law. (The first rows are the skeleton's.) -/
def R_law : String := "TripGuardLaw"
def lw_P (b : Addr) (xs : List Int32) (args : Array Value) (s : State) : Prop := args = #[.ref b] ∧ s.IntsAt b xs ∧ xs.length ≤ 2049 ∧ (Jvm.Cond.and given_1 narrow_1).before args s = true
def lw_Q (_ : Array Value) (s : State) (o : Outcome) (t : State) : Prop := o = .returned (some (.int 1)) ∧ Framed s o t [] 601024 7293000
def lw_Z (below : List Frame) (a : Array Value) (s : State) : State → Prop := fun t => ∃ o, t.status = .running ∧ Ended t below o ∧ lw_Q a s o t
/-- what holds at the law's entry: the machine, the code, the tables' words (any of lw_tbl by 'hts w (by decide +kernel)'), the script of L ints xs at the cell b, what the Statement gives of the start (any of its parts by flat_of_before) -/
def lw_At (p : Program) (s : State) (m : MethodId) (meth : Method) (c : Code) (b L : Nat) (xs : Nat → Int32) : Prop :=
  p.tables.exec = Jvm.exec ∧ c.code = code ∧ meth.sig.returnType = ret ∧ c.maxLocals = 7 ∧ s.vm.findClass R_law = some m.cls ∧ (∀ w ∈ lw_tbl, w.before #[Value.ref b] s = true) ∧ va_X b L xs s s.heap ∧ b < s.heap.size ∧ meth.locks = false ∧ (Jvm.Cond.and given_1 narrow_1).before #[Value.ref b] s = true
/-- the ground at the law's entry -/
theorem iv_ground {p : Program} {s : State} {m : MethodId} {meth : Method} {c : Code} {b L : Nat} {xs : Nat → Int32} (hL : L ≤ 2049) (C0 : lw_At p s m meth c b L xs) :
    ∃ (D : va_G) (κ : Nat → ClassId) (ρ0 : Nat → Nat), ρ0 2 = b ∧ iv_Ev D κ (fun q => s.heap.size ≤ q) ρ0 (iv_Xs L xs) s := by
  obtain ⟨hx, hb, hr, hml, hown, hts0, hX, hbl, hlk, hgv⟩ := C0
  have hts : ∀ w ∈ iv_Ws, w.before #[Value.ref b] s = true := fun w hw => hts0 w (List.mem_filter.mp hw).1
  have hs := flat_of_before _ hgv
  have hoC : va_AO "TripGuard$Channel" s := va_AO.of (hts0 _ iv_oC)
  have hoT : va_AO "TripGuard$Train" s := va_AO.of (hts0 _ iv_oT)
  obtain ⟨D, κ, hK⟩ := iv_hasK hts hoC hoT
  have hFr : ∀ a : Nat, a < s.heap.size → ¬ (fun q => s.heap.size ≤ q) a := fun a ha h => absurd h (Nat.not_le.mpr ha)
  have hsm : ∀ (t : Term) (z : Int32), Cond.eq t (.int z) ∈ flatC (Jvm.Cond.and given_1 narrow_1) → t.eval #[Value.ref b] s none [] s = some (.int z) := fun t z hm => va_eqt (hs _ hm)
  obtain ⟨t0, v0, T0⟩ := va_Tof (args := #[Value.ref b]) (s := s) (tm := .static "TripGuard$Channel" "CURVE" "[I") (ty := .int) (N := 5) (f := fun j => .int (([3600, 3300, 2900, 2200, 1500] : List Int32).getD j 0)) (A := fun q => s.heap.size ≤ q) (by decide) (hs _ (by decide +kernel)) (hsm _ 5 (by decide +kernel))
    (fun j hj => by
      match j, hj with
      | 0, _ => exact hsm _ 3600 (by decide +kernel)
      | 1, _ => exact hsm _ 3300 (by decide +kernel)
      | 2, _ => exact hsm _ 2900 (by decide +kernel)
      | 3, _ => exact hsm _ 2200 (by decide +kernel)
      | 4, _ => exact hsm _ 1500 (by decide +kernel)
      | n + 5, h => omega) hFr
  obtain ⟨t1, v1, T1⟩ := va_Tof (args := #[Value.ref b]) (s := s) (tm := .static "TripGuard$Train" "NEEDED" "[I") (ty := .int) (N := 3) (f := fun j => .int (([2, 4, 3] : List Int32).getD j 0)) (A := fun q => s.heap.size ≤ q) (by decide) (hs _ (by decide +kernel)) (hsm _ 3 (by decide +kernel))
    (fun j hj => by
      match j, hj with
      | 0, _ => exact hsm _ 2 (by decide +kernel)
      | 1, _ => exact hsm _ 4 (by decide +kernel)
      | 2, _ => exact hsm _ 3 (by decide +kernel)
      | n + 3, h => omega) hFr
  refine ⟨D, κ, fun i => match i with | 0 => t0 | 1 => t1 | _ => b, rfl, hK, fun w hw => ?_, hoC, hoT, ?_, va_Zof (hts0 _ iv_lsC) (hts0 _ iv_inC) v0 hFr, va_Zof (hts0 _ iv_lsN) (hts0 _ iv_inT) v1 hFr, ?_, iv_LS.of (hts0 _ iv_lsU) (hs _ (by decide +kernel)) hFr, iv_LS.of (hts0 _ iv_lsS) (hs _ (by decide +kernel)) hFr⟩
  · have h1 := (List.mem_filter.mp hw).2
    have h2 := hts0 w (List.mem_filter.mp hw).1
    unfold iv_isN at h1
    split at h1
    · exact va_Nw.of rfl h2
    · exact va_Nw.of rfl h2
    · exact va_Nw.of rfl h2
    · exact va_Nw.of rfl h2
    · cases h1
  · intro ci ce c7 c10 e7 e10 hne
    match ci, ce, c7, c10, e7, e10, hne with
    | 7, 8, _, _, _, _, _ => exact va_Nc.of (hs _ (by decide +kernel))
    | 7, 9, _, _, _, _, _ => exact va_Nc.of (hs _ (by decide +kernel))
    | 8, 7, _, _, _, _, _ => exact va_Nc.of (hs _ (by decide +kernel))
    | 8, 9, _, _, _, _, _ => exact va_Nc.of (hs _ (by decide +kernel))
    | 9, 7, _, _, _, _, _ => exact va_Nc.of (hs _ (by decide +kernel))
    | 9, 8, _, _, _, _, _ => exact va_Nc.of (hs _ (by decide +kernel))
    | 7, 7, _, _, _, _, h => exact absurd rfl h
    | 8, 8, _, _, _, _, h => exact absurd rfl h
    | 9, 9, _, _, _, _, h => exact absurd rfl h
    | n + 10, _, _, h, _, _, _ => omega
    | _, n + 10, _, _, _, h, _ => omega
  · intro i n f hi
    match i, hi with
    | 0, hi => cases hi; exact ⟨by decide, T0⟩
    | 1, hi => cases hi; exact ⟨by decide, T1⟩
    | 2, hi =>
      cases hi
      obtain ⟨scr, h1, h2, h3, h4, h5⟩ := hX
      exact ⟨by decide, scr, h1, h2, h3, Nat.le_of_eq h4.symm, (by rw [h4]), h5, hFr b hbl⟩
    | n + 3, hi => cases hi
/-- the law's walk out of a run of the picture -/
theorem iv_entry {p : Program} {e : Env} {s : State} {m : MethodId} {below : List Frame} {meth : Method} {c : Code} (l : Launch) (hfl : l.flags = flags0) (htb : c.exceptionTable.toList = []) {b L : Nat} {xs : Nat → Int32} (hL : L ≤ 2049) (C0 : lw_At p s m meth c b L xs)
    (hrun : ∃ (n : Nat) (A : iv_A), iv_run (iv_Xs L xs) n 115 0 (iv_pad 115 [.ref 2]) [] [] 0 0 = some (.inl (some (.int 1)), A)) :
    W p l e room_1 s m #[Value.ref b] below meth c s.heap [] 0 0 (lw_Z below #[Value.ref b] s) (entryFrame m ([Value.ref b] : List Value).toArray 7) := by
  obtain ⟨n, A, hrun⟩ := hrun
  obtain ⟨D, κ, ρ0, hρ, hEv⟩ := iv_ground hL C0
  obtain ⟨hx, hb, hr, hml, hown, hts0, hX, hbl, hlk, hgv⟩ := C0
  have hG := iv_sound (l := l) (D := D) (κ := κ) n _ _ _ _ _ _ _ _ hrun p e s m #[Value.ref b] below meth c (fun q => s.heap.size ≤ q) ρ0 0
    ⟨hx, hb, hml, hr, hown, hlk, (fun h => by cases h), htb, fun w hw => hts0 w (List.mem_filter.mp hw).1, hEv, fun q h => h, fun e he => Launch.traces_off hfl he⟩
  have hent := hG ρ0 s.heap [] _ (fun _ _ => rfl) (Nat.le_refl _) (fun i e h => by cases h) (fun v hv => ?_) (fun v hv => by cases hv) (iv_L.entry (ρ := ρ0) (nL := 7) (as := [.ref 2]) (fun v hv => by rw [List.mem_singleton.mp hv]; rfl) (by decide)) (fun k q h => by cases h) ⟨fun i j p q h => (by cases h), fun k q h => (by cases h)⟩ va_S.rf
  · rw [entry_eq m [Value.ref b] (fun v hv => by rw [List.mem_singleton.mp hv]; rfl)]
    have hent : W p l e room_1 s m #[Value.ref b] below meth c s.heap [] 0 0 (iv_MQ below (iv_Q D κ ρ0 0 (.inl (some (.int 1)), A) (fun q => s.heap.size ≤ q)) #[Value.ref b] s 601024 7293000 (fun q => s.heap.size ≤ q)) (F0 m 0 ((([.ref 2] : List Value).map (iv_r ρ0)).map Slot.val ++ List.replicate (7 - (([.ref 2] : List Value).map (iv_r ρ0)).length) Slot.unset).toArray []) := hent
    have e1 : ([.ref 2] : List Value).map (iv_r ρ0) = [Value.ref b] := by simp [iv_r, hρ]
    rw [e1] at hent
    refine iv_mono (fun t ht => ?_) hent
    obtain ⟨o, h1, h2, ⟨⟨ρ, -, h3, -⟩, -⟩, LL, ⟨h4, h5⟩, h6⟩ := ht
    have h3 : o = .returned (some (.int 1)) := h3
    exact ⟨o, h1, h2, h3, ⟨_, h3⟩, h4, h5.weaken (fun y hy hlt => absurd hlt (Nat.not_lt.mpr (h6 y hy))) (Nat.le_refl _) (Nat.le_refl _)⟩
  · rcases List.mem_append.mp hv with h1 | h1
    · rw [List.mem_singleton.mp h1]
      intro i hi
      cases hi
      exact Nat.lt_of_lt_of_le (by decide : 2 < 3) (Nat.le_add_left _ _)
    · rw [(List.mem_replicate.mp h1).2]
      exact iv_vc_un 0
