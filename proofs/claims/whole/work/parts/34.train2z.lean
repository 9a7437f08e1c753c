/-! Opening a printed function by lemmas alone: nothing behind it is evaluated. -/
theorem iv_bt {α : Type} {b : Bool} {x y : Option α} {r : Option α} (hb : b = true) (h : (bif b then x else y) = r) : x = r := by
  subst hb
  exact h
theorem iv_bf {α : Type} {b : Bool} {x y : Option α} {r : Option α} (hb : b = false) (h : (bif b then x else y) = r) : y = r := by
  subst hb
  exact h
theorem iv_bn {α : Type} {b : Bool} {x : Option α} {r : α} (hb : b = false) (h : (bif b then x else none) = some r) : False := by
  subst hb
  cases h
theorem iv_bd {α β γ : Type} {x : Option (α × β)} {f : α × β → Option γ} {r : γ} (h : Option.bind x f = some r) : ∃ v g, x = some (v, g) ∧ f (v, g) = some r := by
  cases x with
  | none => cases h
  | some q => exact ⟨q.1, q.2, rfl, h⟩
theorem iv_b3 {b : Bool} (hb : b = true) : (true && b && true) = true := by
  subst hb
  rfl
