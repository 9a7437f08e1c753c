/-! Runs of the picture, whatever fuel is left: rules. -/
def iv_ev (X : Nat → Option (Nat × (Nat → Int32))) (mi pc : Nat) (ls st : List Value) (A : iv_A) (c s : Nat) (r : iv_R) : Prop := ∃ k : Nat, ∀ n : Nat, iv_run X (n + k) mi pc ls st A c s = some r
section IvR
variable {X : Nat → Option (Nat × (Nat → Int32))} {mi pc mi' pc' mi'' pc'' : Nat} {ls st ls' st' ls'' st'' : List Value} {A A' A'' : iv_A} {c s c' s' c'' s'' : Nat} {r : iv_R}
theorem iv_blk (k : Nat) (h : ∀ n : Nat, iv_run X (n + k) mi pc ls st A c s = iv_run X n mi' pc' ls' st' A' c' s') (h2 : iv_ev X mi' pc' ls' st' A' c' s' r) : iv_ev X mi pc ls st A c s r := by
  obtain ⟨k2, h2⟩ := h2
  exact ⟨k2 + k, fun n => by rw [← Nat.add_assoc, h]; exact h2 n⟩
theorem iv_brt (k i j : Nat) {b : Bool} (hb : b = true) (h : ∀ n : Nat, iv_run X (n + k) mi pc ls st A c s = bif b then iv_run X (n + i) mi' pc' ls' st' A' c' s' else iv_run X (n + j) mi'' pc'' ls'' st'' A'' c'' s'') (h2 : iv_ev X mi' pc' ls' st' A' c' s' r) : iv_ev X mi pc ls st A c s r := by
  obtain ⟨k2, h2⟩ := h2
  subst hb
  refine ⟨k2 + k, fun n => ?_⟩
  rw [← Nat.add_assoc, h]
  show iv_run X (n + k2 + i) mi' pc' ls' st' A' c' s' = _
  rw [Nat.add_right_comm]
  exact h2 (n + i)
theorem iv_brf (k i j : Nat) {b : Bool} (hb : b = false) (h : ∀ n : Nat, iv_run X (n + k) mi pc ls st A c s = bif b then iv_run X (n + i) mi' pc' ls' st' A' c' s' else iv_run X (n + j) mi'' pc'' ls'' st'' A'' c'' s'') (h2 : iv_ev X mi'' pc'' ls'' st'' A'' c'' s'' r) : iv_ev X mi pc ls st A c s r := by
  obtain ⟨k2, h2⟩ := h2
  subst hb
  refine ⟨k2 + k, fun n => ?_⟩
  rw [← Nat.add_assoc, h]
  show iv_run X (n + k2 + j) mi'' pc'' ls'' st'' A'' c'' s'' = _
  rw [Nat.add_right_comm]
  exact h2 (n + j)
theorem iv_chk (k : Nat) {b : Bool} (hb : b = true) (h : ∀ n : Nat, iv_run X (n + k) mi pc ls st A c s = bif b then iv_run X n mi' pc' ls' st' A' c' s' else none) (h2 : iv_ev X mi' pc' ls' st' A' c' s' r) : iv_ev X mi pc ls st A c s r := by
  subst hb
  exact iv_blk k h h2
theorem iv_ret (k : Nat) (h : ∀ n : Nat, iv_run X (n + k) mi pc ls st A c s = some r) : iv_ev X mi pc ls st A c s r := ⟨k, h⟩
theorem iv_retc (k : Nat) {b : Bool} (hb : b = true) (h : ∀ n : Nat, iv_run X (n + k) mi pc ls st A c s = bif b then some r else none) : iv_ev X mi pc ls st A c s r := by
  subst hb
  exact ⟨k, h⟩
theorem iv_cal (k mj : Nat) {as rest : List Value} {v : Option Value} (h : ∀ n : Nat, iv_run X (n + k) mi pc ls st A c s = iv_inv (iv_run X n) mi' pc' ls' rest A' c' s' mj as)
    (hb : (Nat.ble rest.length 4 && Nat.ble (c' + (iv_rm mj).cells) (iv_rm mi').cells && Nat.ble (s' + (iv_rm mj).slots) (iv_rm mi').slots && Nat.ble as.length (iv_nL mj) && iv_c1s as) = true)
    (hc : iv_ev X mj 0 (iv_pad mj as) [] A' 0 0 (.inl v, A'')) (h2 : iv_ev X mi' (pc' + 3) ls' (v.toList ++ rest) A'' (c' + (iv_rm mj).cells) (s' + (iv_rm mj).slots) r) : iv_ev X mi pc ls st A c s r := by
  obtain ⟨k1, hc⟩ := hc
  obtain ⟨k2, h2⟩ := h2
  refine ⟨k1 + k2 + k, fun n => ?_⟩
  rw [← Nat.add_assoc, h]
  unfold iv_inv
  rw [hb]
  have e1 : iv_run X (n + (k1 + k2)) mj 0 (iv_pad mj as) [] A' 0 0 = some (.inl v, A'') := by
    rw [Nat.add_comm k1 k2, ← Nat.add_assoc]
    exact hc (n + k2)
  have e2 : iv_run X (n + (k1 + k2)) mi' (pc' + 3) ls' (v.toList ++ rest) A'' (c' + (iv_rm mj).cells) (s' + (iv_rm mj).slots) = some r := by
    rw [← Nat.add_assoc]
    exact h2 (n + k1)
  simp only [cond_true, e1, e2]
end IvR
/-! the memory: a number for each place and index -/
abbrev im_M : Type := Nat → Nat → Int32
def im_w (g : im_M) (p k : Nat) (v : Int32) : im_M := fun q => if q = p then upd (g p) k v else g q
