/-! A lane's step on both sides. -/
theorem is_lt {a b : Nat} (ha : a < 2 ^ 31) (hb : b < 2 ^ 31) : Op.if_icmp.holds .lt (Int32.ofNat a) (Int32.ofNat b) = decide (a < b) := by
  have h : (Int32.ofNat a < Int32.ofNat b) ↔ a < b := Int32.ofNat_lt_iff_lt ha hb
  show decide (Int32.ofNat a < Int32.ofNat b) = _
  exact decide_eq_decide.mpr h
theorem is_le {a b : Nat} (ha : a < 2 ^ 31) (hb : b < 2 ^ 31) : Op.if_icmp.holds .le (Int32.ofNat a) (Int32.ofNat b) = decide (a ≤ b) := by
  have h : (Int32.ofNat a ≤ Int32.ofNat b) ↔ a ≤ b := Int32.ofNat_le_iff_le ha hb
  show decide (Int32.ofNat a ≤ Int32.ofNat b) = _
  exact decide_eq_decide.mpr h
theorem is_ge {a b : Nat} (ha : a < 2 ^ 31) (hb : b < 2 ^ 31) : Op.if_icmp.holds .ge (Int32.ofNat a) (Int32.ofNat b) = decide (b ≤ a) := by
  have h : (Int32.ofNat b ≤ Int32.ofNat a) ↔ b ≤ a := Int32.ofNat_le_iff_le hb ha
  show decide (Int32.ofNat b ≤ Int32.ofNat a) = _
  exact decide_eq_decide.mpr h
theorem is_gt {a b : Nat} (ha : a < 2 ^ 31) (hb : b < 2 ^ 31) : Op.if_icmp.holds .gt (Int32.ofNat a) (Int32.ofNat b) = decide (b < a) := by
  have h : (Int32.ofNat b < Int32.ofNat a) ↔ b < a := Int32.ofNat_lt_iff_lt hb ha
  show decide (Int32.ofNat b < Int32.ofNat a) = _
  exact decide_eq_decide.mpr h
theorem is_sub {a b : Nat} (h : b ≤ a) : Int32.ofNat a - Int32.ofNat b = Int32.ofNat (a - b) := (Int32.ofNat_sub a b h).symm
/-- the two distances -/
theorem is_abs {x f : Nat} (hx : x < 4096) (hf : f < 4096) : (if 0 ≤ (Int32.ofNat x - Int32.ofNat f) then (Int32.ofNat x - Int32.ofNat f) else 0 - (Int32.ofNat x - Int32.ofNat f)) = (bif Op.if_icmp.holds .ge (Int32.ofNat x) (Int32.ofNat f) then (Int32.ofNat x) - (Int32.ofNat f) else (Int32.ofNat f) - (Int32.ofNat x)) := by
  rw [is_ge (by omega) (by omega)]
  by_cases h : f ≤ x
  · rw [is_sub h]
    have h1 : (0 : Int32) ≤ Int32.ofNat (x - f) := by
      have := nn_n (k := x - f) (by omega)
      exact Int32.not_lt.1 this
    rw [if_pos h1]
    simp [h]
  · have h2 : x ≤ f := by omega
    have e1 : Int32.ofNat x - Int32.ofNat f = -(Int32.ofNat (f - x)) := by
      rw [← is_sub h2, Int32.neg_sub]
    have h3 : ¬ ((0 : Int32) ≤ Int32.ofNat x - Int32.ofNat f) := by
      rw [e1, Int32.le_iff_toInt_le, Int32.toInt_neg, Int32.toInt_ofNat_of_lt (by omega)]
      have e2 : (-(((f - x : Nat)) : Int)).bmod (2 ^ 32) = -((f - x : Nat) : Int) := Int.bmod_eq_of_le (by omega) (by omega)
      rw [e2]
      show ¬ (0 ≤ -((f - x : Nat) : Int))
      omega
    rw [if_neg h3]
    have h4 : decide (f ≤ x) = false := by simp; omega
    rw [h4]
    show 0 - (Int32.ofNat x - Int32.ofNat f) = Int32.ofNat f - Int32.ofNat x
    rw [Int32.zero_sub, Int32.neg_sub]
theorem isw_eq {c p k n x f a : Nat} {g u : im_M} {t : Int32} (hx : x < 4096) (hf : f < 4096) (ha : a ≤ n) (hn : n < 1000) (h1 : g (10 + 5 * c) p = Int32.ofNat x) (h2 : g (11 + 5 * c) p = Int32.ofNat f) (h3 : g (12 + 5 * c) p = Int32.ofNat (n - a))
    (k1 : u 38 k = Int32.ofNat x) (k2 : u 39 k = Int32.ofNat f) (k3 : u 41 k = Int32.ofNat a) (k4 : u 37 2 = Int32.ofNat n) (ht : t = Int32.ofNat n) : c_isw c p g (!(Op.if_icmp.holds .le t (1 : Int32))) = m_isw k u := by
  unfold c_isw m_isw
  rw [h1, h2, h3, k1, k2, k3, k4, ht, is_abs hx hf, is_sub ha]
  have e1 : Op.if_icmp.holds .lt (Int32.ofNat (n - a)) (13 : Int32) = Op.if_icmp.holds .le (Int32.ofNat (n - a)) (12 : Int32) := by
    have q1 := is_lt (a := n - a) (b := 13) (by omega) (by decide)
    have q2 := is_le (a := n - a) (b := 12) (by omega) (by decide)
    refine q1.trans (Eq.trans ?_ q2.symm)
    by_cases h : n - a < 13
    · have h' : n - a ≤ 12 := by omega
      simp [h, h']
    · have h' : ¬ n - a ≤ 12 := by omega
      simp [h, h']
  rw [e1]
theorem x_tt : Bool.xor true true = false := rfl
theorem x_tf : Bool.xor true false = true := rfl
theorem x_ft : Bool.xor false true = true := rfl
theorem x_ff : Bool.xor false false = false := rfl
theorem cj_eq (c : Nat) {p : Nat} (hp : p < 3) (g : im_M) {w : Nat → Bool} (hw : g (9 + 5 * c) 6 = B3f w) {is : Bool} (hi : c_isw c p g (!(Op.if_icmp.holds .le (g 1 1) (1 : Int32))) = is) :
    c_judge c p g = bif Bool.xor is (w p) then c_rec (im_w g (9 + 5 * c) 6 (B3f (sb w p is))) (bif is then 1 else 2) (Int32.ofNat c) (Int32.ofNat p) else g := by
  unfold c_judge
  rw [hi, hw, B3_eq w hp, B3_or w hp, B3_an w hp]
  cases is <;> cases w p <;> simp only [cond_true, cond_false, Bool.not_true, Bool.not_false, x_tt, x_tf, x_ft, x_ff]
theorem c_lim_fr (c p : Nat) {g g' : im_M} (h : g' (10 + 5 * c) = g (10 + 5 * c)) : c_lim c p g' = c_lim c p g := by
  unfold c_lim
  rw [h]
theorem c_bey_fr (c p : Nat) {g g' : im_M} (h : g' (10 + 5 * c) = g (10 + 5 * c)) : c_bey c p g' = c_bey c p g := by
  unfold c_bey
  rw [h, c_lim_fr c p h]
theorem c_ins_fr (c p : Nat) {g g' : im_M} (h : g' (10 + 5 * c) = g (10 + 5 * c)) : c_ins c p g' = c_ins c p g := by
  unfold c_ins
  rw [h, c_lim_fr c p h]
theorem cmv1_eq (c : Nat) {p : Nat} (hp : p < 3) (g : im_M) {s : Nat → Bool} (hs : g (9 + 5 * c) 7 = B3f s) {y d : Nat} (hy : y < 1000) (hd : d ≤ 8) {iw : Bool} (hi : c_ins c p g = iw) :
    c_mv1 c p g (Int32.ofNat y) (Int32.ofNat d) = bif Bool.xor (bif s p then !iw else decide (d ≤ y)) (s p) then c_rec (im_w g (9 + 5 * c) 7 (B3f (sb s p (bif s p then !iw else decide (d ≤ y))))) (bif (bif s p then !iw else decide (d ≤ y)) then 3 else 4) (Int32.ofNat c) (Int32.ofNat p) else g := by
  unfold c_mv1
  rw [hi, hs, B3_ne s hp, B3_or s hp, B3_an s hp, is_lt (by omega) (by omega)]
  by_cases h : d ≤ y
  · have h1 : decide (y < d) = false := by simp; omega
    have h2 : decide (d ≤ y) = true := by simp [h]
    rw [h1, h2]
    cases iw <;> cases s p <;> rfl
  · have h1 : decide (y < d) = true := by simp; omega
    have h2 : decide (d ≤ y) = false := by simp [h]
    rw [h1, h2]
    cases iw <;> cases s p <;> rfl
theorem cmv_eq (c : Nat) {p : Nat} (hp : p < 3) (g : im_M) {w s : Nat → Bool} (hw : g (9 + 5 * c) 6 = B3f w) (hs : g (9 + 5 * c) 7 = B3f s) {b d : Nat} (hb : g (13 + 5 * c) p = Int32.ofNat b) (hbn : b < 900) (hd : d ≤ 8) {ov iw : Bool} (ho : c_bey c p g = ov) (hi : c_ins c p g = iw) :
    c_move c p g (Int32.ofNat d) = bif Bool.xor (ss (w p) ov iw (s p) b d) (s p) then c_rec (im_w (im_w g (13 + 5 * c) p (Int32.ofNat (sc (w p) ov b))) (9 + 5 * c) 7 (B3f (sb s p (ss (w p) ov iw (s p) b d)))) (bif ss (w p) ov iw (s p) b d then 3 else 4) (Int32.ofNat c) (Int32.ofNat p) else im_w g (13 + 5 * c) p (Int32.ofNat (sc (w p) ov b)) := by
  have f7 : ∀ v : Int32, im_w g (13 + 5 * c) p v (9 + 5 * c) 7 = B3f s := fun v => by rw [im_w_o _ _ _ (by omega)]; exact hs
  have fi : ∀ v : Int32, c_ins c p (im_w g (13 + 5 * c) p v) = iw := fun v => (c_ins_fr c p (im_w_o _ _ _ (by omega))).trans hi
  have m1 := cmv1_eq c hp (im_w g (13 + 5 * c) p (Int32.ofNat (b + 1))) (f7 _) (y := b + 1) (by omega) hd (fi _)
  have m0 := cmv1_eq c hp (im_w g (13 + 5 * c) p (Int32.ofNat 0)) (f7 _) (y := 0) (by omega) hd (fi _)
  unfold c_move
  rw [hw, B3_eq w hp, ho, hb, is_n1, m1]
  rw [show c_mv1 c p (im_w g (13 + 5 * c) p 0) 0 (Int32.ofNat d) = c_mv1 c p (im_w g (13 + 5 * c) p (Int32.ofNat 0)) (Int32.ofNat 0) (Int32.ofNat d) from rfl, m0]
  unfold ss sc
  cases w p
  · cases ov <;> rfl
  · cases s p <;> rfl
