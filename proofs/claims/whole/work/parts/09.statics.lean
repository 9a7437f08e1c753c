/-! A static field that holds a reference, and stays as it is. -/
def iv_LS (C n d : String) (Fr : Nat → Prop) (U : State) : Prop := ∃ (c : ClassId) (k : Class) (i : Nat) (f : Field) (a : Nat) (cell : Cell) (v : Value), U.vm.findClass C = some c ∧ U.fieldFound? C n d = some (c, k, i, f) ∧ f.isStatic = true ∧ k.statics = some a ∧ U.heap[a]? = some cell ∧ cell.vm.isStatics = true ∧ cell.cls = c ∧
  f.slot < cell.slots.size ∧ k.staticTypes[f.slot]? = some f.type ∧ cell.slots[f.slot]? = some v ∧ (v = .null ∨ ∃ z, v = .ref z) ∧ ¬ Fr a
theorem iv_LS.of {C n d : String} {Fr : Nat → Prop} {args : Array Value} {s : State} (h1 : (Cond.laysStatic C n d).before args s = true) (h2 : (Cond.isRef (.static C n d)).before args s = true) (hFr : ∀ a : Nat, a < s.heap.size → ¬ Fr a) : iv_LS C n d Fr s := by
  obtain ⟨c, k, i, f, a, cell, hc, hf, hst, hsta, hcell, hiss, hcls, hlt, hty⟩ := Cond.laysStatic_spec h1
  have hv : cell.slots[f.slot]? = some cell.slots[f.slot] := Array.getElem?_eq_getElem hlt
  have he : (Term.static C n d).eval args s none [] s = cell.slots[f.slot]? := by
    simp [Term.eval, State.fieldNamed?, hf, hst, hsta, hcell, hiss]
  refine ⟨c, k, i, f, a, cell, cell.slots[f.slot], hc, hf, hst, hsta, hcell, hiss, hcls, hlt, hty, hv, ?_, hFr a (Array.getElem?_eq_some_iff.mp hcell).1⟩
  simp only [Cond.before, Cond.holds, Cond.value, he, hv] at h2
  cases hw : cell.slots[f.slot] with
  | null => exact Or.inl rfl
  | ref z => exact Or.inr ⟨z, rfl⟩
  | _ => rw [hw] at h2; simp at h2
theorem iv_LS.lays {C n d : String} {Fr : Nat → Prop} {args : Array Value} {s : State} (h : iv_LS C n d Fr s) : (Cond.laysStatic C n d).before args s = true := by
  obtain ⟨c, k, i, f, a, cell, v, hc, hf, hst, hsta, hcell, hiss, hcls, hlt, hty, -⟩ := h
  simp [Cond.before, Cond.holds, Cond.value, hc, hf, hst, hsta, hcell, hiss, hcls, hlt, hty]
theorem iv_LS.isRef {C n d : String} {Fr : Nat → Prop} {args : Array Value} {s : State} (h : iv_LS C n d Fr s) : (Cond.isRef (.static C n d)).before args s = true := by
  obtain ⟨c, k, i, f, a, cell, v, hc, hf, hst, hsta, hcell, hiss, hcls, hlt, hty, hv, hn, -⟩ := h
  have he : (Term.static C n d).eval args s none [] s = some v := by
    simp [Term.eval, State.fieldNamed?, hf, hst, hsta, hcell, hiss, hv]
  simp only [Cond.before, Cond.holds, Cond.value, he]
  rcases hn with rfl | ⟨z, rfl⟩ <;> rfl
theorem iv_LS.moved {C n d : String} {Fr Fr' : Nat → Prop} {s U : State} (h : iv_LS C n d Fr s) (hvm : s.vm.Alike U.vm) (hH : ∀ a : Nat, a < s.heap.size → ¬ Fr a → U.heap[a]? = s.heap[a]?) (hF : ∀ q, Fr' q → Fr q) : iv_LS C n d Fr' U := by
  obtain ⟨c, k, i, f, a, cell, v, hc, hf, hst, hsta, hcell, hiss, hcls, hlt, hty, hv, hn, hFr⟩ := h
  obtain ⟨k', hi', he⟩ := State.fieldFound?_setVm hvm hf
  exact ⟨c, k', i, f, a, cell, v, by rw [hvm.findClass]; exact hc, hi', hst, by rw [he]; exact hsta, by rw [hH a (Array.getElem?_eq_some_iff.mp hcell).1 hFr]; exact hcell, hiss, hcls, hlt, by rw [he]; exact hty, hv, hn, fun q => hFr (hF a q)⟩
