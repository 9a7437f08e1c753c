/-! What a throwing method says: which throw (0: argument, 1: state, 2: no such element), or its answer. -/
abbrev im_T : Type := Fin 3 ⊕ Int32
def im_res (t : im_T) (H : iv_A) : iv_R := match t with
  | .inl z => (.inr (H.length + 3), H ++ [.inr (z.val + 7, [])])
  | .inr v => (.inl (some (.int v)), H)
def im_rev (t : im_T) (H : iv_A) : iv_R := match t with
  | .inl z => (.inr (H.length + 3), H ++ [.inr (z.val + 7, [])])
  | .inr _ => (.inl none, H)
theorem im_zx (z : Fin 3) : (iv_xc (z.val + 7) && Nat.blt (z.val + 7) 10) = true := by
  match z with
  | 0 => rfl
  | 1 => rfl
  | 2 => rfl
theorem iv_sl {α β γ : Type} {f : α → γ} {k : β → γ} {z : α} {r : γ} (h : Sum.elim f k (.inl z) = r) : f z = r := h
theorem iv_sr {α β γ : Type} {f : α → γ} {k : β → γ} {v : β} {r : γ} (h : Sum.elim f k (.inr v) = r) : k v = r := h
