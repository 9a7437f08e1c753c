/-! What every method stands on, and how it is carried from a caller to a callee. -/
def iv_tys (κ : Nat → ClassId) : List (ClassId × FieldType) := [(κ 0, .int), (κ 1, .boolean), (κ 2, .long), (κ 3, .object "TripGuard$Channel"), (κ 6, .object "TripGuard$Train")]
theorem iv_tys_kt (κ : Nat → ClassId) : iv_Kt iv_kt κ iv_cl (iv_tys κ) := by
  intro q C h
  unfold iv_kt at h
  cases h1 : Nat.beq q 3 with
  | true =>
    rw [h1] at h
    obtain rfl := Nat.eq_of_beq_eq_true h1
    obtain rfl := Option.some.inj h
    exact ⟨⟨3, rfl⟩, 0, _, _, rfl, rfl⟩
  | false =>
    rw [h1] at h
    cases h2 : Nat.beq q 6 with
    | true =>
      rw [h2] at h
      obtain rfl := Nat.eq_of_beq_eq_true h2
      obtain rfl := Option.some.inj h
      exact ⟨⟨4, rfl⟩, 3, _, _, rfl, rfl⟩
    | false => rw [h2] at h; cases h
theorem iv_tys_kk (κ : Nat → ClassId) : ∀ q : Nat, iv_kk q = true → ∃ (t0 : Nat) (ty : FieldType), (iv_tys κ)[t0]? = some (κ q, ty) := by
  intro q h
  unfold iv_kk at h
  simp only [Bool.or_eq_true] at h
  rcases h with h | h
  · have h1 := Nat.le_of_ble_eq_true h
    match q, h1 with
    | 0, _ => exact ⟨0, _, rfl⟩
    | 1, _ => exact ⟨1, _, rfl⟩
    | 2, _ => exact ⟨2, _, rfl⟩
    | n + 3, h1 => omega
  · obtain ⟨C, hC⟩ := Option.isSome_iff_exists.mp h
    obtain ⟨⟨t0, ht⟩, -⟩ := iv_tys_kt κ q C hC
    exact ⟨t0, _, ht⟩
theorem iv_Ns_warm {w : Cond} (hw : w ∈ iv_Ns) {s U : State} (hW : s.WarmedH U.vm) (h : va_Nw w s) : va_Nw w U := by
  have h1 := (List.mem_filter.mp hw).2
  unfold iv_isN at h1
  split at h1
  · exact h.warmF hW
  · exact h.warmM hW
  · exact h.warmD hW
  · exact va_tabs rfl (rfl : (s.setVm U.vm).vm = U.vm) (by rw [Cond.castable_setVm hW.alike]; exact h)
  · cases h1
theorem iv_Ns_use {w : Cond} (hw : w ∈ iv_Ns) {U : State} {a : Array Value} (h : va_Nw w U) : w.before a U = true := by
  have h1 := (List.mem_filter.mp hw).2
  unfold iv_isN at h1
  split at h1
  · exact h.use rfl
  · exact h.use rfl
  · exact h.use rfl
  · exact h.use rfl
  · cases h1
def iv_Ev (D : va_G) (κ : Nat → ClassId) (Fr : Nat → Prop) (ρ0 : Nat → Nat) (X : Nat → Option (Nat × (Nat → Int32))) (U : State) : Prop :=
  va_K D iv_cl (iv_tys κ) U ∧ (∀ w ∈ iv_Ns, va_Nw w U) ∧ va_AO "TripGuard$Channel" U ∧ va_AO "TripGuard$Train" U ∧ (∀ ci ce, 7 ≤ ci → ci < 10 → 7 ≤ ce → ce < 10 → ci ≠ ce → va_Nc (iv_on ci) (iv_on ce) U) ∧
  va_Z "TripGuard$Channel" "CURVE" "[I" (.ref (ρ0 0)) Fr U U.heap ∧ va_Z "TripGuard$Train" "NEEDED" "[I" (.ref (ρ0 1)) Fr U U.heap ∧ iv_Ro X ρ0 Fr U ∧
  iv_LS "java/lang/Throwable" "UNASSIGNED_STACK" "[Ljava/lang/StackTraceElement;" Fr U ∧ iv_LS "java/lang/Throwable" "SUPPRESSED_SENTINEL" "Ljava/util/List;" Fr U
theorem iv_Ev.moved {D : va_G} {κ : Nat → ClassId} {Fr Fr' : Nat → Prop} {ρ0 ρ : Nat → Nat} {X : Nat → Option (Nat × (Nat → Int32))} {s U : State} (h : iv_Ev D κ Fr ρ0 X s) (hW : s.WarmedH U.vm) (hH : ∀ a : Nat, a < s.heap.size → ¬ Fr a → U.heap[a]? = s.heap[a]?) (hF : ∀ q, Fr' q → Fr q) (hρ : ∀ i, i < 3 → ρ i = ρ0 i) : iv_Ev D κ Fr' ρ X U := by
  obtain ⟨h1, h2, h3, h4, h5, h6, h7, h8, h9, h10⟩ := h
  have hal := hW.alike
  refine ⟨va_K.moved hal h1, fun w hw => iv_Ns_warm hw hW (h2 w hw), h3.moved hal, h4.moved hal, fun ci ce a b c d e => (h5 ci ce a b c d e).moved hal, ?_, ?_, ?_, h9.moved hal hH hF, h10.moved hal hH hF⟩
  · rw [hρ 0 (by decide)]
    exact ((va_Z.moved hal h6).kept hH).narrow hF
  · rw [hρ 1 (by decide)]
    exact ((va_Z.moved hal h7).kept hH).narrow hF
  · intro i n f hi
    obtain ⟨a, b⟩ := h8 i n f hi
    refine ⟨a, ?_⟩
    rw [hρ i a]
    exact ((va_T.moved hal b).kept hH).narrow hF
/-- the callee's end, told of the picture -/
def iv_out (ρ : Nat → Nat) (x : Option Value ⊕ Nat) (o : Outcome) : Prop := match x with
  | .inl v => o = .returned (v.map (iv_r ρ))
  | .inr i => o = .threw (ρ i)
def iv_oc (n : Nat) (x : Option Value ⊕ Nat) : Prop := match x with
  | .inl v => ∀ w, v = some w → iv_vc n w
  | .inr i => i < n + 3
def iv_Q (D : va_G) (κ : Nat → ClassId) (ρ0 : Nat → Nat) (n0 : Nat) (r : iv_R) (Fr : Nat → Prop) : Array Value → State → Outcome → State → Prop := fun _ st o t =>
  (∃ ρ : Nat → Nat, (∀ i, i < n0 + 3 → ρ i = ρ0 i) ∧ iv_out ρ r.1 o ∧ va_P D iv_cl (iv_w ρ κ r.2) t.heap ∧ va_D Fr (iv_w ρ κ r.2) ∧ iv_hc r.2 ∧ n0 ≤ r.2.length ∧ iv_oc r.2.length r.1) ∧ va_F Fr st t
def iv_Cx (p : Program) (l : Launch) (s : State) (m : MethodId) (args : Array Value) (meth : Method) (c : Code) (mi : Nat) (D : va_G) (κ : Nat → ClassId) (Fr : Nat → Prop) (ρ0 : Nat → Nat) (X : Nat → Option (Nat × (Nat → Int32))) : Prop :=
  p.tables.exec = Jvm.exec ∧ c.code = iv_b mi ∧ c.maxLocals = iv_nL mi ∧ meth.sig.returnType = iv_rt mi ∧ s.vm.findClass (iv_on (iv_ow mi)) = some m.cls ∧ meth.locks = false ∧ (iv_ini mi = true → meth.name = "<init>") ∧ c.exceptionTable.toList = tableOf (iv_hh mi) ∧
  (∀ w ∈ iv_Ws, w.before args s = true) ∧ iv_Ev D κ Fr ρ0 X s ∧ (∀ q, s.heap.size ≤ q → Fr q) ∧ (∀ e : Env, l.admits e → e.platform.stackTraces = false)
def iv_G (l : Launch) (D : va_G) (κ : Nat → ClassId) (X : Nat → Option (Nat × (Nat → Int32))) (mi pc : Nat) (ls st : List Value) (A : iv_A) (cells slots : Nat) (r : iv_R) : Prop :=
  ∀ (p : Program) (e : Env) (s : State) (m : MethodId) (args : Array Value) (below : List Frame) (meth : Method) (c : Code) (Fr : Nat → Prop) (ρ0 : Nat → Nat) (n0 : Nat), iv_Cx p l s m args meth c mi D κ Fr ρ0 X →
    iv_Wd p l e (iv_rm mi) s m args below meth c (iv_MQ below (iv_Q D κ ρ0 n0 r Fr) args s (iv_rm mi).cells (iv_rm mi).slots Fr) D iv_cl κ Fr (iv_nL mi) ρ0 n0 pc ls st A cells slots
theorem iv_cwB {j : Nat} (hm : iv_cwP j) {a : Array Value} {U : State} (h : ∀ w ∈ iv_Ws, w.before a U = true) : (Cond.codeWith (iv_y j) (iv_b j) (iv_nL j) (iv_rt j) (iv_hh j)).before a U = true := by
  rcases hm with ⟨h1, h2⟩ | h2
  · have h3 := h _ h2
    rw [h1]
    simp only [Cond.before, Cond.holds] at h3 ⊢
    rw [← Cond.code_iff_codeWith_nil]
    exact h3
  · exact h _ h2
theorem iv_c1s_ok {as : List Value} (h : iv_c1s as = true) : ∀ v ∈ as, v.category = 1 := fun v hv => Nat.eq_of_beq_eq_true (List.all_eq_true.mp h v hv)
/-- the start of a callee -/
def iv_Pr (D : va_G) (κ : Nat → ClassId) (ρ : Nat → Nat) (X : Nat → Option (Nat × (Nat → Int32))) (A : iv_A) (sz : Nat) : State → Prop := fun U =>
  U.heap.size = sz ∧ va_P D iv_cl (iv_w ρ κ A) U.heap ∧ va_D (fun _ => True) (iv_w ρ κ A) ∧ iv_Ev D κ (va_A (iv_w ρ κ A) sz) ρ X U
theorem iv_met {l : Launch} {D : va_G} {κ : Nat → ClassId} {X : Nat → Option (Nat × (Nat → Int32))} {mj sz : Nat} {as : List Value} {A : iv_A} {r : iv_R} {ρ : Nat → Nat} (hG : iv_G l D κ X mj 0 (iv_pad mj as) [] A 0 0 r) (hm : iv_mP mj) (hini : iv_ini mj = true → (iv_y mj).name = "<init>") (htr : ∀ e : Env, l.admits e → e.platform.stackTraces = false)
    (has : iv_c1s as = true) (hlen : as.length ≤ iv_nL mj) (hcl : ∀ v ∈ as, iv_vc A.length v) (hA : iv_hc A) :
    iv_Met l (iv_y mj) iv_Ws (iv_rm mj) (va_Pc (as.map (iv_r ρ)) (iv_Pr D κ ρ X A sz)) (iv_Q D κ ρ A.length r (va_A (iv_w ρ κ A) sz)) (iv_rm mj).cells (iv_rm mj).slots (va_A (iv_w ρ κ A) sz) := by
  have hcat := iv_c1s_ok has
  refine iv_Met.ofW (cc := iv_b mj) (maxL := iv_nL mj) (ret := iv_rt mj) (hh := iv_hh mj) hm.2.2.1 ?_ ?_
  · intro a U h
    exact iv_cwB hm.1 (atoms_spec (ws := iv_Ws) h)
  · intro p e s m args below meth c s₁ B hml hPc
    obtain ⟨rfl, hsz, hP, hD0, hEv⟩ := hPc
    subst hsz
    have hts := atoms_spec (ws := iv_Ws) B.pre
    have X0 := Stand.of_body B
    obtain ⟨me, cd, k1, k2, k3, k4, k5, k6, k7, k8⟩ := iv_cwS (iv_cwB hm.1 hts) B.named
    cases B.method.symm.trans k1
    cases X0.code.symm.trans k2
    have hown : s.vm.findClass (iv_on (iv_ow mj)) = some m.cls := by
      rw [← hm.2.2.2.1]
      exact findClass_of_methodNamed B.named
    have hcat' : ∀ v ∈ as.map (iv_r ρ), v.category = 1 := fun w hw => by
      obtain ⟨v, hv, rfl⟩ := List.mem_map.mp hw
      rw [iv_r_cat]; exact hcat v hv
    rw [entry_eq m (as.map (iv_r ρ)) hcat']
    refine hG p e s m _ below _ _ (va_A (iv_w ρ κ A) s.heap.size) ρ A.length ⟨B.exec, k3, k4, k5, hown, k6, fun h => ?_, k7, hts, hEv, fun q h => Or.inr h, htr⟩ ρ s.heap [] _ (fun _ _ => rfl) (Nat.le_refl _) hA (fun v hv => ?_) (fun v hv => by cases hv) (iv_L.entry hcat hlen) hP hD0.self va_S.rf
    · rw [(name_of_methodNamed B.named B.method).1]
      exact hini h
    · rcases List.mem_append.mp hv with h1 | h1
      · exact hcl v h1
      · rw [(List.mem_replicate.mp h1).2]
        exact iv_vc_un 0
theorem iv_blind {D : va_G} {κ : Nat → ClassId} {ρ : Nat → Nat} {X : Nat → Option (Nat × (Nat → Int32))} {A : iv_A} {sz : Nat} {av : List Value} : FrameBlind (va_Pc av (iv_Pr D κ ρ X A sz)) := by
  intro a U g mk h
  obtain ⟨h0, h1, h2, h3, h4⟩ := h
  refine ⟨h0, h1, h2, h3, h4.moved (s := U) (U := U.calling g mk a) (State.WarmedH.refl U) (fun _ _ _ => rfl) (fun _ h => h) (fun _ _ => rfl)⟩
