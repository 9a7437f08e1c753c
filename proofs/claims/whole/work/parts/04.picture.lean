/-! The picture of the heap: cells by number (a reference i + 3 names the cell i; 0, 1, 2 name arrays that are only read); numbers are turned to addresses by ρ, the kinds of arrays to classes by κ. -/
abbrev iv_A : Type := List va_E
def iv_r (ρ : Nat → Nat) (v : Value) : Value := match v with
  | .ref i => .ref (ρ i)
  | .int x => .int x
  | .long x => .long x
  | .float x => .float x
  | .double x => .double x
  | .null => .null
  | .retAddr x => .retAddr x
abbrev iv_X : Type := (Nat → Int32) ⊕ (Nat → Int64) ⊕ (Nat → UInt32) ⊕ (Nat → UInt64) ⊕ (Nat → Option Nat)
def iv_x (ρ : Nat → Nat) (x : iv_X) : iv_X := match x with
  | .inl f => .inl f
  | .inr (.inl f) => .inr (.inl f)
  | .inr (.inr (.inl f)) => .inr (.inr (.inl f))
  | .inr (.inr (.inr (.inl f))) => .inr (.inr (.inr (.inl f)))
  | .inr (.inr (.inr (.inr f))) => .inr (.inr (.inr (.inr (fun j => (f j).map ρ))))
def iv_e (ρ : Nat → Nat) (κ : Nat → ClassId) (e : va_E) : va_E := match e with
  | .inl a => .inl (κ a.1, a.2.1, iv_x ρ a.2.2)
  | .inr o => .inr (o.1, o.2.map (iv_r ρ))
def iv_w (ρ : Nat → Nat) (κ : Nat → ClassId) (A : iv_A) : va_W := A.mapIdx fun i e => (ρ (i + 3), iv_e ρ κ e)
def iv_vc (n : Nat) (v : Value) : Prop := ∀ i, v = .ref i → i < n + 3
def iv_ec (n : Nat) (e : va_E) : Prop := match e with
  | .inl a => ∀ f : Nat → Option Nat, a.2.2 = .inr (.inr (.inr (.inr f))) → ∀ j i, f j = some i → i < n + 3
  | .inr o => ∀ v ∈ o.2, iv_vc n v
def iv_hc (A : iv_A) : Prop := ∀ (i : Nat) (e : va_E), A[i]? = some e → iv_ec A.length e
section IvE
variable {ρ ρ' : Nat → Nat} {κ : Nat → ClassId} {A : iv_A} {i n n' : Nat} {e : va_E} {v : Value}
theorem iv_w_at (h : A[i]? = some e) : (iv_w ρ κ A)[i]? = some (ρ (i + 3), iv_e ρ κ e) := by
  simp [iv_w, List.getElem?_mapIdx, h]
theorem iv_w_set : (iv_w ρ κ A).set i (ρ (i + 3), iv_e ρ κ e) = iv_w ρ κ (A.set i e) := by
  apply List.ext_getElem?
  intro j
  simp only [iv_w, List.getElem?_set, List.getElem?_mapIdx, List.length_mapIdx]
  by_cases h : i = j
  · subst h
    by_cases hl : i < A.length <;> simp [hl]
  · simp [h]
theorem iv_w_push : iv_w ρ κ (A ++ [e]) = iv_w ρ κ A ++ [(ρ (A.length + 3), iv_e ρ κ e)] := by
  simp [iv_w, List.mapIdx_append]
theorem iv_w_len : (iv_w ρ κ A).length = A.length := by simp [iv_w]
theorem iv_vc_int (x : Int32) : iv_vc n (.int x) := fun _ h => by cases h
theorem iv_vc_long (x : Int64) : iv_vc n (.long x) := fun _ h => by cases h
theorem iv_vc_un (x : Nat) : iv_vc n (.retAddr x) := fun _ h => by cases h
theorem iv_vc_null : iv_vc n .null := fun _ h => by cases h
theorem iv_vc_mono (h : iv_vc n v) (hn : n ≤ n') : iv_vc n' v := fun i hi => Nat.lt_of_lt_of_le (h i hi) (by omega)
theorem iv_ec_mono (h : iv_ec n e) (hn : n ≤ n') : iv_ec n' e := by
  cases e with
  | inl a => exact fun f hf j i hj => Nat.lt_of_lt_of_le (h f hf j i hj) (by omega)
  | inr o => exact fun v hv => iv_vc_mono (h v hv) hn
theorem iv_r_congr (h : ∀ i, i < n + 3 → ρ' i = ρ i) (hv : iv_vc n v) : iv_r ρ' v = iv_r ρ v := by
  cases v with
  | ref i => simp only [iv_r, h i (hv i rfl)]
  | _ => rfl
theorem iv_rl_congr {vs : List Value} (h : ∀ i, i < n + 3 → ρ' i = ρ i) (hv : ∀ v ∈ vs, iv_vc n v) : vs.map (iv_r ρ') = vs.map (iv_r ρ) :=
  List.map_congr_left fun v hm => iv_r_congr h (hv v hm)
theorem iv_x_congr {x : iv_X} (h : ∀ i, i < n + 3 → ρ' i = ρ i) (hc : ∀ f : Nat → Option Nat, x = .inr (.inr (.inr (.inr f))) → ∀ j i, f j = some i → i < n + 3) : iv_x ρ' x = iv_x ρ x := by
  match x, hc with
  | .inl f, _ => rfl
  | .inr (.inl f), _ => rfl
  | .inr (.inr (.inl f)), _ => rfl
  | .inr (.inr (.inr (.inl f))), _ => rfl
  | .inr (.inr (.inr (.inr f))), hc =>
    simp only [iv_x]
    congr 4
    funext j
    cases hj : f j with
    | none => rfl
    | some i => simp only [Option.map_some, h i (hc f rfl j i hj)]
theorem iv_e_congr (h : ∀ i, i < n + 3 → ρ' i = ρ i) (hc : iv_ec n e) : iv_e ρ' κ e = iv_e ρ κ e := by
  cases e with
  | inl a => simp only [iv_e, iv_x_congr h hc]
  | inr o => simp only [iv_e, iv_rl_congr h hc]
theorem iv_w_congr (h : ∀ i, i < A.length + 3 → ρ' i = ρ i) (hc : iv_hc A) : iv_w ρ' κ A = iv_w ρ κ A := by
  apply List.ext_getElem?
  intro j
  simp only [iv_w, List.getElem?_mapIdx]
  cases hj : A[j]? with
  | none => rfl
  | some e =>
    have hlt : j < A.length := (List.getElem?_eq_some_iff.mp hj).1
    simp only [Option.map_some, h (j + 3) (by omega), iv_e_congr h (hc j e hj)]
theorem iv_hc_set (h : iv_hc A) (he : iv_ec A.length e) : iv_hc (A.set i e) := by
  intro j e' hj
  rw [List.length_set]
  rw [List.getElem?_set] at hj
  split at hj
  · split at hj
    · obtain rfl := Option.some.inj hj
      exact he
    · cases hj
  · exact h j e' hj
theorem iv_hc_push (h : iv_hc A) (he : iv_ec (A.length + 1) e) : iv_hc (A ++ [e]) := by
  intro j e' hj
  rw [List.length_append, List.length_singleton]
  rw [List.getElem?_append] at hj
  split at hj
  · exact iv_ec_mono (h j e' hj) (by omega)
  · have : j - A.length = 0 := by
      cases hz : j - A.length with
      | zero => rfl
      | succ z => rw [hz] at hj; simp at hj
    rw [this] at hj
    obtain rfl := Option.some.inj hj
    exact he
theorem iv_rf_map (x : Option Nat) : iv_r ρ (va_rf x) = va_rf (x.map ρ) := by cases x <;> rfl
theorem iv_r_cat (v : Value) : (iv_r ρ v).category = v.category := by cases v <;> rfl
end IvE
/-! the locals: a value '.retAddr _' stands for a slot of which nothing is known -/
def iv_un (v : Value) : Bool := match v with
  | .retAddr _ => true
  | _ => false
def iv_L (ρ : Nat → Nat) (nL : Nat) (ls : List Value) (lsR : Array Slot) : Prop :=
  ls.length = nL ∧ lsR.size = nL ∧ lv_wf lsR ∧ (∀ v ∈ ls, v.category = 1) ∧ ∀ (i : Nat) (v : Value), ls[i]? = some v → iv_un v = false → lsR[i]? = some (Slot.val (iv_r ρ v))
def iv_ll (ρ : Nat → Nat) (ls : List Value) : List (Nat × Value) := (List.range ls.length).filterMap fun i => match ls[i]? with
  | some v => bif iv_un v then none else some (i, iv_r ρ v)
  | none => none
section IvF
variable {ρ ρ' : Nat → Nat} {nL n i : Nat} {ls : List Value} {lsR ls' : Array Slot} {v : Value}
theorem iv_ll_mem {q : Nat × Value} : q ∈ iv_ll ρ ls ↔ ∃ v, ls[q.1]? = some v ∧ iv_un v = false ∧ q.2 = iv_r ρ v := by
  simp only [iv_ll, List.mem_filterMap, List.mem_range]
  constructor
  · rintro ⟨i, hi, h⟩
    cases hv : ls[i]? with
    | none => rw [hv] at h; cases h
    | some v =>
      rw [hv] at h
      cases hu : iv_un v with
      | true => simp [hu] at h
      | false =>
        simp [hu] at h
        subst h
        exact ⟨v, hv, hu, rfl⟩
  · rintro ⟨v, hv, hu, h2⟩
    refine ⟨q.1, (List.getElem?_eq_some_iff.mp hv).1, ?_⟩
    obtain ⟨q1, q2⟩ := q
    simp only at hv h2 ⊢
    rw [hv, h2]
    simp [hu]
theorem iv_L.has (h : iv_L ρ nL ls lsR) : lv_has lsR nL (iv_ll ρ ls) := by
  refine ⟨h.2.1, h.2.2.1, fun q hq => ?_⟩
  obtain ⟨v, hv, hu, h2⟩ := iv_ll_mem.mp hq
  rw [h2]
  exact h.2.2.2.2 q.1 v hv hu
theorem iv_L.get (h : iv_L ρ nL ls lsR) (hv : ls[i]? = some v) (hu : iv_un v = false) : lsR[i]? = some (Slot.val (iv_r ρ v)) := h.2.2.2.2 i v hv hu
theorem iv_L.put (h : iv_L ρ nL ls lsR) (hi : i < ls.length) (hv : v.category = 1) (h' : lv_has ls' nL ((i, iv_r ρ v) :: (iv_ll ρ ls).filter (fun q => !(q.1 == i) && !(q.1 + 1 == i && q.2.category == 2)))) : iv_L ρ nL (ls.set i v) ls' := by
  refine ⟨by rw [List.length_set]; exact h.1, h'.1, h'.2.1, fun x hx => ?_, fun j x hj hu => ?_⟩
  · rcases List.mem_or_eq_of_mem_set hx with h1 | h1
    · exact h.2.2.2.1 x h1
    · rw [h1]; exact hv
  · rw [List.getElem?_set] at hj
    split at hj
    · rename_i hij
      subst hij
      (try rw [if_pos hi] at hj)
      obtain rfl := Option.some.inj hj
      exact h'.2.2 (i, iv_r ρ v) (List.mem_cons_self ..)
    · rename_i hij
      have hm : (j, iv_r ρ x) ∈ iv_ll ρ ls := iv_ll_mem.mpr ⟨x, hj, hu, rfl⟩
      have hc : (iv_r ρ x).category = 1 := by rw [iv_r_cat]; exact h.2.2.2.1 x (List.mem_of_getElem? hj)
      refine h'.2.2 (j, iv_r ρ x) (List.mem_cons_of_mem _ (List.mem_filter.mpr ⟨hm, ?_⟩))
      have hji : ¬ j = i := fun q => hij q.symm
      simp [hji, hc]
theorem iv_L.congr (h : iv_L ρ nL ls lsR) (hr : ∀ i, i < n + 3 → ρ' i = ρ i) (hc : ∀ v ∈ ls, iv_vc n v) : iv_L ρ' nL ls lsR :=
  ⟨h.1, h.2.1, h.2.2.1, h.2.2.2.1, fun i v hv hu => by rw [iv_r_congr hr (hc v (List.mem_of_getElem? hv))]; exact h.2.2.2.2 i v hv hu⟩
theorem iv_L.entry {as : List Value} (ha : ∀ v ∈ as, v.category = 1) (hl : as.length ≤ nL) :
    iv_L ρ nL (as ++ List.replicate (nL - as.length) (.retAddr 0)) (((as.map (iv_r ρ)).map Slot.val ++ List.replicate (nL - (as.map (iv_r ρ)).length) Slot.unset).toArray) := by
  have hcat : ∀ w ∈ as.map (iv_r ρ), w.category = 1 := fun w hw => by
    obtain ⟨v, hv, rfl⟩ := List.mem_map.mp hw
    rw [iv_r_cat]; exact ha v hv
  refine ⟨by simp; omega, by simp; omega, ⟨fun i v h hc => ?_, fun i h => ?_⟩, fun v hv => ?_, fun i v hv hu => ?_⟩
  · exfalso
    simp only [List.getElem?_toArray, List.getElem?_append] at h
    split at h
    · simp only [List.getElem?_map, Option.map_eq_some_iff] at h
      obtain ⟨w, hw, h2⟩ := h
      obtain rfl : w = v := by injection h2
      have := hcat w (List.mem_of_getElem? (by simpa using hw))
      omega
    · simp only [List.getElem?_replicate] at h
      split at h <;> simp at h
  · exfalso
    simp only [List.getElem?_toArray, List.getElem?_append] at h
    split at h
    · simp only [List.getElem?_map, Option.map_eq_some_iff] at h
      obtain ⟨w, hw, h2⟩ := h
      cases h2
    · simp only [List.getElem?_replicate] at h
      split at h <;> simp at h
  · rcases List.mem_append.mp hv with h1 | h1
    · exact ha v h1
    · rw [(List.mem_replicate.mp h1).2]; rfl
  · rw [List.getElem?_append] at hv
    split at hv
    · rename_i hlt
      have h2 : as[i] = v := (List.getElem?_eq_some_iff.mp hv).2
      simp [List.getElem?_append, hlt, h2]
    · simp only [List.getElem?_replicate] at hv
      split at hv
      · obtain rfl := Option.some.inj hv
        cases hu
      · cases hv
end IvF
