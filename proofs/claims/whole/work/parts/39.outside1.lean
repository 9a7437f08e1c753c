/-! figure at a number out of range -/
theorem iv_brx {X : Nat → Option (Nat × (Nat → Int32))} {mi pc mi' pc' : Nat} {ls st ls' st' : List Value} {A A' : iv_A} {c s c' s' : Nat} {r : iv_R} (k : Nat) {b : Bool} (hb : b = true) (Q : Nat → Option iv_R) (h : ∀ n : Nat, iv_run X (n + k) mi pc ls st A c s = bif b then iv_run X n mi' pc' ls' st' A' c' s' else Q n) (h2 : iv_ev X mi' pc' ls' st' A' c' s' r) : iv_ev X mi pc ls st A c s r := by
  obtain ⟨k2, h2⟩ := h2
  subst hb
  exact ⟨k2 + k, fun n => by rw [← Nat.add_assoc, h]; exact h2 n⟩
set_option maxRecDepth 100000 in
set_option maxHeartbeats 4000000 in
theorem x82_t_ok {L : Nat} {xs : Nat → Int32} {g u : im_M} {o : Nat → Int64} {Y : iv_A} {a : Int32} (h : (decide (a.toInt < 0) || decide (6 < a.toInt)) = true) : iv_ev (iv_Xs L xs) 82 0 [.ref 3, .int a] [] (im_H g u o Y) 0 0 (im_res (.inl 0) (im_H g u o Y)) := by
  refine iv_brx (mi' := 82) (pc' := 94) (ls' := [.ref 3, .int a]) (st' := []) (A' := im_H g u o Y) (c' := 0) (s' := 0) 2 h _ (fun n => rfl) ?_
  exact iv_ret 1 (fun n => rfl)
