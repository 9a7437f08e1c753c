/-! A call that ends in a throw: handed on, or caught. The thrown object is the heap's last cell. -/
section IvT
variable {X : Nat → Option (Nat × (Nat → Int32))} {mi pc mi' pc' : Nat} {ls st ls' : List Value} {A A' B : iv_A} {c s c' s' : Nat} {r : iv_R}
theorem iv_calt (k mj : Nat) {as rest : List Value} {q : iv_R} {x : Nat} (h : ∀ n : Nat, iv_run X (n + k) mi pc ls st A c s = iv_inv (iv_run X n) mi' pc' ls' rest A' c' s' mj as)
    (hb : (Nat.ble rest.length 4 && Nat.ble (c' + (iv_rm mj).cells) (iv_rm mi').cells && Nat.ble (s' + (iv_rm mj).slots) (iv_rm mi').slots && Nat.ble as.length (iv_nL mj) && iv_c1s as) = true)
    (hc : iv_ev X mj 0 (iv_pad mj as) [] A' 0 0 (.inr x, B))
    (h2 : ∃ k2 : Nat, ∀ n : Nat, iv_thr (iv_run X (n + k2)) mi' pc' ls' B (c' + (iv_rm mj).cells) (s' + (iv_rm mj).slots) x = some q) : iv_ev X mi pc ls st A c s q := by
  obtain ⟨k1, hc⟩ := hc
  obtain ⟨k2, h2⟩ := h2
  refine ⟨k1 + k2 + k, fun n => ?_⟩
  rw [← Nat.add_assoc, h]
  unfold iv_inv
  rw [hb]
  have e1 : iv_run X (n + (k1 + k2)) mj 0 (iv_pad mj as) [] A' 0 0 = some (.inr x, B) := by
    rw [Nat.add_comm k1 k2, ← Nat.add_assoc]
    exact hc (n + k2)
  have e2 : iv_thr (iv_run X (n + (k1 + k2))) mi' pc' ls' B (c' + (iv_rm mj).cells) (s' + (iv_rm mj).slots) x = some q := by
    rw [← Nat.add_assoc]
    exact h2 (n + k1)
  simp only [cond_true, e1, e2]
theorem iv_last (B : iv_A) (e : va_E) : (B ++ [e])[B.length]? = some e := by
  rw [List.getElem?_append_right (Nat.le_refl _), Nat.sub_self]
  rfl
theorem iv_calu (k mj z : Nat) {as rest : List Value} (h : ∀ n : Nat, iv_run X (n + k) mi pc ls st A c s = iv_inv (iv_run X n) mi' pc' ls' rest A' c' s' mj as)
    (hb : (Nat.ble rest.length 4 && Nat.ble (c' + (iv_rm mj).cells) (iv_rm mi').cells && Nat.ble (s' + (iv_rm mj).slots) (iv_rm mi').slots && Nat.ble as.length (iv_nL mj) && iv_c1s as) = true)
    (hx : (iv_xc z && Nat.blt z 10) = true) (he : (iv_hh mi').isEmpty = true) (hr : (Nat.ble (c' + (iv_rm mj).cells) (iv_rm mi').cells && Nat.ble (s' + (iv_rm mj).slots) (iv_rm mi').slots) = true)
    (hc : iv_ev X mj 0 (iv_pad mj as) [] A' 0 0 (.inr (B.length + 3), B ++ [.inr (z, [])])) : iv_ev X mi pc ls st A c s (.inr (B.length + 3), B ++ [.inr (z, [])]) := by
  refine iv_calt k mj h hb hc ⟨0, fun n => ?_⟩
  unfold iv_thr
  simp only [iv_last, hx, he, cond_true]
  unfold iv_end
  rw [hr]
  rfl
theorem iv_calc (k mj z hd : Nat) {as rest : List Value} (h : ∀ n : Nat, iv_run X (n + k) mi pc ls st A c s = iv_inv (iv_run X n) mi' pc' ls' rest A' c' s' mj as)
    (hb : (Nat.ble rest.length 4 && Nat.ble (c' + (iv_rm mj).cells) (iv_rm mi').cells && Nat.ble (s' + (iv_rm mj).slots) (iv_rm mi').slots && Nat.ble as.length (iv_nL mj) && iv_c1s as) = true)
    (hx : (iv_xc z && Nat.blt z 10) = true) (he : (iv_hh mi').isEmpty = false) (hp : iv_pick pc' (iv_ok (iv_ow mi') z) (iv_hh mi') = some hd)
    (hc : iv_ev X mj 0 (iv_pad mj as) [] A' 0 0 (.inr (B.length + 3), B ++ [.inr (z, [])]))
    (h2 : iv_ev X mi' hd ls' [.ref (B.length + 3)] (B ++ [.inr (z, [])]) (c' + (iv_rm mj).cells) (s' + (iv_rm mj).slots) r) : iv_ev X mi pc ls st A c s r := by
  obtain ⟨k2, h2⟩ := h2
  refine iv_calt k mj h hb hc ⟨k2, fun n => ?_⟩
  unfold iv_thr
  simp only [iv_last, hx, he, hp, cond_true, cond_false]
  exact h2 n
end IvT
