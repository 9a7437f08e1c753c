/-! The relation between the two memories: journal and lanes. -/
def iJ (n E : Nat) (g u : im_M) : Prop := g 1 1 = Int32.ofNat n ∧ u 37 2 = Int32.ofNat n ∧ (∃ e : Nat, e ≤ E ∧ g 1 2 = Int32.ofNat e ∧ u 37 22 = Int32.ofNat e) ∧ ∀ j : Nat, j < 40 → g 2 (4 * j) = u 54 j ∧ g 2 (4 * j + 1) = u 55 j ∧ g 2 (4 * j + 2) = u 56 j ∧ g 2 (4 * j + 3) = u 57 j
theorem upd_s (f : Nat → Int32) (k : Nat) (v : Int32) : upd f k v k = v := by simp [upd]
theorem upd_o (f : Nat → Int32) {k j : Nat} (v : Int32) (h : j ≠ k) : upd f k v j = f j := by simp [upd, h]
theorem upd_if (f : Nat → Int32) (k j : Nat) (v : Int32) : upd f k v j = if j = k then v else f j := rfl
theorem iJ_rec {n E : Nat} {g u : im_M} (h : iJ n E g u) (hE : E < 2 ^ 30) (a b c : Int32) : iJ n (E + 1) (c_rec g a b c) (m_note u a b c) := by
  obtain ⟨h1, h2, ⟨e, he, h3, h4⟩, h5⟩ := h
  have hf : (fm (Int32.ofNat e)).toNatClampNeg = e % 40 := by
    rw [fm_n (by omega), Int32.toNatClampNeg_ofNat_of_lt (by omega)]
  refine ⟨h1, h2, ⟨e + 1, by omega, ?_, ?_⟩, fun j hj => ?_⟩
  · show g 1 2 + 1 = _
    rw [h3, is_n1]
  · show u 37 22 + 1 = _
    rw [h4, is_n1]
  · obtain ⟨k1, k2, k3, k4⟩ := h5 j hj
    show upd (upd (upd (upd (g 2) (4 * (fm (g 1 2)).toNatClampNeg) (g 1 1)) (4 * (fm (g 1 2)).toNatClampNeg + 1) a) (4 * (fm (g 1 2)).toNatClampNeg + 2) b) (4 * (fm (g 1 2)).toNatClampNeg + 3) c (4 * j) = upd (u 54) (fm (u 37 22)).toNatClampNeg (u 37 2) j ∧
      upd (upd (upd (upd (g 2) (4 * (fm (g 1 2)).toNatClampNeg) (g 1 1)) (4 * (fm (g 1 2)).toNatClampNeg + 1) a) (4 * (fm (g 1 2)).toNatClampNeg + 2) b) (4 * (fm (g 1 2)).toNatClampNeg + 3) c (4 * j + 1) = upd (u 55) (fm (u 37 22)).toNatClampNeg a j ∧
      upd (upd (upd (upd (g 2) (4 * (fm (g 1 2)).toNatClampNeg) (g 1 1)) (4 * (fm (g 1 2)).toNatClampNeg + 1) a) (4 * (fm (g 1 2)).toNatClampNeg + 2) b) (4 * (fm (g 1 2)).toNatClampNeg + 3) c (4 * j + 2) = upd (u 56) (fm (u 37 22)).toNatClampNeg b j ∧
      upd (upd (upd (upd (g 2) (4 * (fm (g 1 2)).toNatClampNeg) (g 1 1)) (4 * (fm (g 1 2)).toNatClampNeg + 1) a) (4 * (fm (g 1 2)).toNatClampNeg + 2) b) (4 * (fm (g 1 2)).toNatClampNeg + 3) c (4 * j + 3) = upd (u 57) (fm (u 37 22)).toNatClampNeg c j
    rw [h3, h4, hf, h1, h2]
    generalize e % 40 = q
    by_cases hq : j = q
    · subst hq
      refine ⟨?_, ?_, ?_, ?_⟩
      · rw [upd_o _ _ (by omega), upd_o _ _ (by omega), upd_o _ _ (by omega), upd_s, upd_s]
      · rw [upd_o _ _ (by omega), upd_o _ _ (by omega), upd_s, upd_s]
      · rw [upd_o _ _ (by omega), upd_s, upd_s]
      · rw [upd_s, upd_s]
    · refine ⟨?_, ?_, ?_, ?_⟩
      · rw [upd_o _ _ (by omega), upd_o _ _ (by omega), upd_o _ _ (by omega), upd_o _ _ (by omega), upd_o _ _ hq, k1]
      · rw [upd_o _ _ (by omega), upd_o _ _ (by omega), upd_o _ _ (by omega), upd_o _ _ (by omega), upd_o _ _ hq, k2]
      · rw [upd_o _ _ (by omega), upd_o _ _ (by omega), upd_o _ _ (by omega), upd_o _ _ (by omega), upd_o _ _ hq, k3]
      · rw [upd_o _ _ (by omega), upd_o _ _ (by omega), upd_o _ _ (by omega), upd_o _ _ (by omega), upd_o _ _ hq, k4]
theorem iJ_le {n E E' : Nat} {g u : im_M} (h : iJ n E g u) (hE : E ≤ E') : iJ n E' g u := by
  obtain ⟨h1, h2, ⟨e, he, h3, h4⟩, h5⟩ := h
  exact ⟨h1, h2, ⟨e, by omega, h3, h4⟩, h5⟩
theorem iJ_fr {n E : Nat} {g u g' u' : im_M} (h : iJ n E g u) (a1 : g' 1 = g 1) (a2 : g' 2 = g 2) (b1 : u' 37 2 = u 37 2) (b2 : u' 37 22 = u 37 22) (b3 : u' 54 = u 54) (b4 : u' 55 = u 55) (b5 : u' 56 = u 56) (b6 : u' 57 = u 57) : iJ n E g' u' := by
  unfold iJ
  rw [a1, a2, b1, b2, b3, b4, b5, b6]
  exact h
theorem m_note_o (u : im_M) (a b c : Int32) {q : Nat} (h0 : q ≠ 37) (h1 : q ≠ 54) (h2 : q ≠ 55) (h3 : q ≠ 56) (h4 : q ≠ 57) : m_note u a b c q = u q := by
  unfold m_note
  rw [im_w_o _ _ _ h0, im_w_o _ _ _ h4, im_w_o _ _ _ h3, im_w_o _ _ _ h2, im_w_o _ _ _ h1]
theorem m_note_37 (u : im_M) (a b c : Int32) {i : Nat} (h : i ≠ 22) : m_note u a b c 37 i = u 37 i := by
  unfold m_note
  rw [im_w_k _ _ _ h]
  rfl
/-! three bits -/
def B3f (w : Nat → Bool) : Int32 := B3 (w 0) (w 1) (w 2)
def sb (w : Nat → Bool) (p : Nat) (b : Bool) : Nat → Bool := fun q => if q = p then b else w q
theorem B3_eq (w : Nat → Bool) {p : Nat} (hp : p < 3) : Op.ifCond.holds .eq (B3f w &&& c_msk p) = !(w p) := by
  have h3 : p = 0 ∨ p = 1 ∨ p = 2 := by omega
  unfold B3f
  rcases h3 with h3 | h3 | h3 <;> subst h3 <;> cases w 0 <;> cases w 1 <;> cases w 2 <;> rfl
theorem B3_ne (w : Nat → Bool) {p : Nat} (hp : p < 3) : Op.ifCond.holds .ne (B3f w &&& c_msk p) = w p := by
  have h3 : p = 0 ∨ p = 1 ∨ p = 2 := by omega
  unfold B3f
  rcases h3 with h3 | h3 | h3 <;> subst h3 <;> cases w 0 <;> cases w 1 <;> cases w 2 <;> rfl
theorem B3_or (w : Nat → Bool) {p : Nat} (hp : p < 3) : B3f w ||| c_msk p = B3f (sb w p true) := by
  have h3 : p = 0 ∨ p = 1 ∨ p = 2 := by omega
  unfold B3f sb
  rcases h3 with h3 | h3 | h3 <;> subst h3 <;> simp <;> cases w 0 <;> cases w 1 <;> cases w 2 <;> rfl
theorem B3_an (w : Nat → Bool) {p : Nat} (hp : p < 3) : B3f w &&& c_nmk p = B3f (sb w p false) := by
  have h3 : p = 0 ∨ p = 1 ∨ p = 2 := by omega
  unfold B3f sb
  rcases h3 with h3 | h3 | h3 <;> subst h3 <;> simp <;> cases w 0 <;> cases w 1 <;> cases w 2 <;> rfl
theorem B3_id (w : Nat → Bool) (p : Nat) : B3f (sb w p (w p)) = B3f w := by
  have e : sb w p (w p) = w := by
    funext q
    unfold sb
    by_cases h : q = p
    · rw [if_pos h, h]
    · rw [if_neg h]
  rw [e]
/-! what isn't written -/
theorem scan_cg {u v : im_M} {k d : Nat} : ∀ (n r : Nat), (∀ m : Nat, 1 ≤ m → m ≤ n → hb (u 42 m) k = hb (v 42 m) k ∧ hb (u 43 m) k = hb (v 43 m) k ∧ hb (u 44 m) k = hb (v 44 m) k) → scan u k d n r = scan v k d n r := by
  intro n
  induction n with
  | zero =>
    intro r _
    rfl
  | succ n ih =>
    intro r h
    obtain ⟨h1, h2, h3⟩ := h (n + 1) (by omega) (by omega)
    have i0 := ih 0 (fun m a b => h m a (by omega))
    have i1 := ih (r + 1) (fun m a b => h m a (by omega))
    rw [scan_s, scan_s, h1, h2, h3, i0, i1]
def iL (n d : Nat) (g u : im_M) (c p : Nat) (w s : Bool) : Prop :=
  ∃ x f a b : Nat, x < 4096 ∧ f < 4096 ∧ a ≤ n ∧ b ≤ n ∧ g (10 + 5 * c) p = Int32.ofNat x ∧ u 38 (3 * c + p) = Int32.ofNat x ∧ g (11 + 5 * c) p = Int32.ofNat f ∧ u 39 (3 * c + p) = Int32.ofNat f ∧ g (12 + 5 * c) p = Int32.ofNat (n - a) ∧ u 41 (3 * c + p) = Int32.ofNat a ∧ g (13 + 5 * c) p = Int32.ofNat b ∧ hb (u 42 n) (3 * c + p) = w ∧ scan u (3 * c + p) d n 0 = s ∧ ∀ r : Nat, r < d → scan u (3 * c + p) d n r = (s || decide (d ≤ b + r))
theorem iL_fr {n d : Nat} {g u g' u' : im_M} {c p : Nat} {w s : Bool} (h : iL n d g u c p w s) (a1 : g' (10 + 5 * c) p = g (10 + 5 * c) p) (a2 : g' (11 + 5 * c) p = g (11 + 5 * c) p) (a3 : g' (12 + 5 * c) p = g (12 + 5 * c) p) (a4 : g' (13 + 5 * c) p = g (13 + 5 * c) p)
    (b1 : u' 38 (3 * c + p) = u 38 (3 * c + p)) (b2 : u' 39 (3 * c + p) = u 39 (3 * c + p)) (b3 : u' 41 (3 * c + p) = u 41 (3 * c + p))
    (b4 : ∀ m : Nat, m ≤ n → hb (u' 42 m) (3 * c + p) = hb (u 42 m) (3 * c + p) ∧ hb (u' 43 m) (3 * c + p) = hb (u 43 m) (3 * c + p) ∧ hb (u' 44 m) (3 * c + p) = hb (u 44 m) (3 * c + p)) : iL n d g' u' c p w s := by
  obtain ⟨x, f, a, b, h1, h2, h3, h4, h5, h6, h7, h8, h9, h10, h11, h12, h13, h14⟩ := h
  have hs : ∀ r : Nat, scan u' (3 * c + p) d n r = scan u (3 * c + p) d n r := fun r => scan_cg n r (fun m _ hm => b4 m hm)
  refine ⟨x, f, a, b, h1, h2, h3, h4, a1.trans h5, b1.trans h6, a2.trans h7, b2.trans h8, a3.trans h9, b3.trans h10, a4.trans h11, (b4 n (Nat.le_refl n)).1.trans h12, (hs 0).trans h13, fun r hr => (hs r).trans (h14 r hr)⟩
/-! a step of the scan -/
def ss (is ov iw s : Bool) (b d : Nat) : Bool := bif is then s else (bif s then !iw else decide (d ≤ bif ov then b + 1 else 0))
def sc (is ov : Bool) (b : Nat) : Nat := bif is then 0 else (bif ov then b + 1 else 0)
theorem scan_st {F : Nat → Bool} {is ov iw s : Bool} {b d : Nat} (hd : 1 ≤ d) (hF : ∀ r : Nat, r < d → F r = (s || decide (d ≤ b + r))) (h0 : F 0 = s) (hx : (ov && iw) = false) (r : Nat) (hr : r < d) :
    (bif is then F 0 else (bif iw then false else (bif ov then (bif Nat.beq (r + 1) d then true else F (r + 1)) else F 0))) = (ss is ov iw s b d || decide (d ≤ sc is ov b + r)) := by
  have hb0 : d ≤ b → s = true := by
    intro h
    have h1 := hF 0 (by omega)
    rw [h0] at h1
    have h2 : decide (d ≤ b + 0) = true := by simp [h]
    rw [h2] at h1
    rw [h1]
    simp
  have hd0 : decide (d ≤ 0 + r) = false := by simp; omega
  have hd1 : decide (d ≤ 0) = false := by simp; omega
  unfold ss sc
  cases is
  · cases iw
    · cases ov
      · cases s
        · simp [h0, hd0, hd1]; omega
        · simp [h0]
      · simp only [cond_true, cond_false]
        by_cases he : r + 1 = d
        · have e1 : Nat.beq (r + 1) d = true := by rw [he]; exact Nat.beq_refl d
          rw [e1]
          have e2 : decide (d ≤ b + 1 + r) = true := by simp; omega
          rw [e2]
          simp
        · have e1 : Nat.beq (r + 1) d = false := by
            cases h5 : Nat.beq (r + 1) d with
            | false => rfl
            | true => exact absurd (Nat.eq_of_beq_eq_true h5) he
          rw [e1, hF (r + 1) (by omega)]
          cases s
          · show (false || decide (d ≤ b + (r + 1))) = (decide (d ≤ b + 1) || decide (d ≤ b + 1 + r))
            by_cases h : d ≤ b + 1
            · have h2 : d ≤ b + (r + 1) := by omega
              simp [h, h2]
            · have e3 : b + (r + 1) = b + 1 + r := by omega
              rw [e3]
              simp [h]
          · simp
    · cases ov
      · cases s
        · simp [hd0, hd1]; omega
        · simp [hd0]; omega
      · simp at hx
  · simp only [cond_true]
    rw [h0, hd0]
    simp
