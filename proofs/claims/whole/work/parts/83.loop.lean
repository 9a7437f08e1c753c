/-! The law's loop, and the whole run. -/
theorem hb_15 {j : Nat} (hj : j < 32) : hb 15 j = decide (j < 4) := by
  revert j
  decide +kernel
theorem and15 (w : Int32) : ∃ q : Nat, q < 16 ∧ (w &&& (15 : Int32)) = Int32.ofNat q := by
  refine ⟨wn w % 16, Nat.mod_lt _ (by decide), hb_ext fun j hj => ?_⟩
  rw [hb_and, hb_15 hj, hb_n hj, show (16 : Nat) = 2 ^ 4 from rfl, Nat.testBit_mod_two_pow, hb_wn]
  by_cases h : j < 4
  · simp [h]
  · simp [h]
theorem loop_c {L m : Nat} (hL : L ≤ 2049) (hm : m ≤ 512) : Op.if_icmp.holds .gt (Int32.ofNat (4 * m + 1)) (Int32.ofNat L - 4) = decide (L < 4 * m + 5) := by
  have z4 : (4 : Int32).toInt = 4 := by decide
  have t : (Int32.ofNat L - 4).toInt = (L : Int) - 4 := by
    rw [Int32.toInt_sub, Int32.toInt_ofNat_of_lt (by omega), z4]
    exact Int.bmod_eq_of_le (by omega) (by omega)
  have h : (Int32.ofNat L - 4 < Int32.ofNat (4 * m + 1)) ↔ L < 4 * m + 5 := by
    rw [Int32.lt_iff_toInt_lt, t, Int32.toInt_ofNat_of_lt (by omega)]
    omega
  exact decide_eq_decide.mpr h
theorem law_sw {L : Nat} {xs : Nat → Int32} {N : Nat} {i : Int32} {l5 l6 : Value} {g u : im_M} {o : Nat → Int64} {Y : iv_A} {c s : Nat} (h : iR N g u) (hN : N < 512) (h1 : iv_in (i + 1) L = true) (h2 : iv_in (i + 2) L = true) (h3 : iv_in (i + 3) L = true) (hc : c + 3 ≤ 601024) (hs : s + 18 ≤ 7293000) (v : Int32) :
    ∃ (g' u' : im_M) (o' : Nat → Int64) (Y' : iv_A) (l5' l6' : Value) (c' s' : Nat), iR (N + 1) g' u' ∧ c' ≤ c + 3 ∧ s' ≤ s + 18 ∧ ∀ r : iv_R, iv_ev (iv_Xs L xs) 115 854 [.ref 2, .ref 3, .ref 40, .ref 61, .int i, l5', l6'] [] (im_H g' u' o' Y') c' s' r → iv_ev (iv_Xs L xs) 115 49 [.ref 2, .ref 3, .ref 40, .ref 61, .int i, l5, l6] [.int (v &&& 15)] (im_H g u o Y) c s r := by
  obtain ⟨q, hq, e⟩ := and15 v
  rw [e]
  have h16 : q = 0 ∨ q = 1 ∨ q = 2 ∨ q = 3 ∨ q = 4 ∨ q = 5 ∨ q = 6 ∨ q = 7 ∨ q = 8 ∨ q = 9 ∨ q = 10 ∨ q = 11 ∨ q = 12 ∨ q = 13 ∨ q = 14 ∨ q = 15 := by omega
  rcases h16 with h' | h' | h' | h' | h' | h' | h' | h' | h' | h' | h' | h' | h' | h' | h' | h' <;> subst h'
  · obtain ⟨g', u', o', Y', a, b, c', s', R, k1, k2, K⟩ := law_s0 (l5 := l5) (l6 := l6) (o := o) (Y := Y) (xs := xs) h hN h1 h2 h3 hc hs
    exact ⟨g', u', o', Y', a, b, c', s', R, k1, k2, fun r hn => law_sw0 (K r hn)⟩
  · obtain ⟨g', u', o', Y', a, b, c', s', R, k1, k2, K⟩ := law_s1 (l5 := l5) (l6 := l6) (o := o) (Y := Y) (xs := xs) h hN h1 h2 h3 hc hs
    exact ⟨g', u', o', Y', a, b, c', s', R, k1, k2, fun r hn => law_sw1 (K r hn)⟩
  · obtain ⟨g', u', o', Y', a, b, c', s', R, k1, k2, K⟩ := law_s2 (l5 := l5) (l6 := l6) (o := o) (Y := Y) (xs := xs) h hN h1 h2 h3 hc hs
    exact ⟨g', u', o', Y', a, b, c', s', R, k1, k2, fun r hn => law_sw2 (K r hn)⟩
  · obtain ⟨g', u', o', Y', a, b, c', s', R, k1, k2, K⟩ := law_s3 (l5 := l5) (l6 := l6) (o := o) (Y := Y) (xs := xs) h hN h1 h2 h3 hc hs
    exact ⟨g', u', o', Y', a, b, c', s', R, k1, k2, fun r hn => law_sw3 (K r hn)⟩
  · obtain ⟨g', u', o', Y', a, b, c', s', R, k1, k2, K⟩ := law_s4 (l5 := l5) (l6 := l6) (o := o) (Y := Y) (xs := xs) h hN h1 h2 h3 hc hs
    exact ⟨g', u', o', Y', a, b, c', s', R, k1, k2, fun r hn => law_sw4 (K r hn)⟩
  · obtain ⟨g', u', o', Y', a, b, c', s', R, k1, k2, K⟩ := law_s5 (l5 := l5) (l6 := l6) (o := o) (Y := Y) (xs := xs) h hN h1 h2 h3 hc hs
    exact ⟨g', u', o', Y', a, b, c', s', R, k1, k2, fun r hn => law_sw5 (K r hn)⟩
  · obtain ⟨g', u', o', Y', a, b, c', s', R, k1, k2, K⟩ := law_s6 (l5 := l5) (l6 := l6) (o := o) (Y := Y) (xs := xs) h hN h1 h2 h3 hc hs
    exact ⟨g', u', o', Y', a, b, c', s', R, k1, k2, fun r hn => law_sw6 (K r hn)⟩
  · obtain ⟨g', u', o', Y', a, b, c', s', R, k1, k2, K⟩ := law_s7 (l5 := l5) (l6 := l6) (o := o) (Y := Y) (xs := xs) h hN h1 h2 h3 hc hs
    exact ⟨g', u', o', Y', a, b, c', s', R, k1, k2, fun r hn => law_sw7 (K r hn)⟩
  · obtain ⟨g', u', o', Y', a, b, c', s', R, k1, k2, K⟩ := law_s8 (l5 := l5) (l6 := l6) (o := o) (Y := Y) (xs := xs) h hN h1 h2 h3 hc hs
    exact ⟨g', u', o', Y', a, b, c', s', R, k1, k2, fun r hn => law_sw8 (K r hn)⟩
  · obtain ⟨g', u', o', Y', a, b, c', s', R, k1, k2, K⟩ := law_s9 (l5 := l5) (l6 := l6) (o := o) (Y := Y) (xs := xs) h hN h1 h2 h3 hc hs
    exact ⟨g', u', o', Y', a, b, c', s', R, k1, k2, fun r hn => law_sw9 (K r hn)⟩
  · obtain ⟨g', u', o', Y', a, b, c', s', R, k1, k2, K⟩ := law_s10 (l5 := l5) (l6 := l6) (o := o) (Y := Y) (xs := xs) h hN h1 h2 h3 hc hs
    exact ⟨g', u', o', Y', a, b, c', s', R, k1, k2, fun r hn => law_sw10 (K r hn)⟩
  · obtain ⟨g', u', o', Y', a, b, c', s', R, k1, k2, K⟩ := law_s11 (l5 := l5) (l6 := l6) (o := o) (Y := Y) (xs := xs) h hN h1 h2 h3 hc hs
    exact ⟨g', u', o', Y', a, b, c', s', R, k1, k2, fun r hn => law_sw11 (K r hn)⟩
  · obtain ⟨g', u', o', Y', a, b, c', s', R, k1, k2, K⟩ := law_s12 (l5 := l5) (l6 := l6) (o := o) (Y := Y) (xs := xs) h hN h1 h2 h3 hc hs
    exact ⟨g', u', o', Y', a, b, c', s', R, k1, k2, fun r hn => law_sw12 (K r hn)⟩
  · obtain ⟨g', u', o', Y', a, b, c', s', R, k1, k2, K⟩ := law_s13 (l5 := l5) (l6 := l6) (o := o) (Y := Y) (xs := xs) h hN h1 h2 h3 hc hs
    exact ⟨g', u', o', Y', a, b, c', s', R, k1, k2, fun r hn => law_sw13 (K r hn)⟩
  · obtain ⟨g', u', o', Y', a, b, c', s', R, k1, k2, K⟩ := law_s14 (l5 := l5) (l6 := l6) (o := o) (Y := Y) (xs := xs) h hN h1 h2 h3 hc hs
    exact ⟨g', u', o', Y', a, b, c', s', R, k1, k2, fun r hn => law_sw14 (K r hn)⟩
  · exact ⟨g, u, o, Y, l5, l6, c, s, iR_q h (fun _ _ => rfl) (fun _ _ => rfl), by omega, by omega, fun r hn => law_sw15 hn⟩
theorem law_loop {L : Nat} {xs : Nat → Int32} (hL : L ≤ 2049) : ∀ (f m : Nat) (g u : im_M) (o : Nat → Int64) (Y : iv_A) (l5 l6 : Value) (c s : Nat), m + f = 512 → iR m g u → c ≤ 59 + 3 * m → s ≤ 2249 + 18 * m → ∃ A : iv_A, iv_ev (iv_Xs L xs) 115 33 [.ref 2, .ref 3, .ref 40, .ref 61, .int (Int32.ofNat (4 * m + 1)), l5, l6] [] (im_H g u o Y) c s (.inl (some (.int 1)), A) := by
  intro f
  induction f with
  | zero =>
    intro m g u o Y l5 l6 c s hm _ hc hs
    have hb := (loop_c (m := m) hL (by omega)).trans (decide_eq_true (by omega))
    exact ⟨_, law_end hb (by omega) (by omega)⟩
  | succ f ih =>
    intro m g u o Y l5 l6 c s hm hR hc hs
    by_cases hq : L < 4 * m + 5
    · have hb := (loop_c (m := m) hL (by omega)).trans (decide_eq_true hq)
      exact ⟨_, law_end hb (by omega) (by omega)⟩
    · have hb := (loop_c (m := m) hL (by omega)).trans (decide_eq_false hq)
      have i1 : iv_in (Int32.ofNat (4 * m + 1) + 1) L = true := by
        rw [is_n1]
        exact iv_in_t (by omega) (by omega)
      have i2 : iv_in (Int32.ofNat (4 * m + 1) + 2) L = true := by
        rw [is_n2]
        exact iv_in_t (by omega) (by omega)
      have i3 : iv_in (Int32.ofNat (4 * m + 1) + 3) L = true := by
        rw [is_n3]
        exact iv_in_t (by omega) (by omega)
      obtain ⟨g', u', o', Y', a, b, c', s', R, k1, k2, K⟩ := law_sw (l5 := l5) (l6 := l6) (o := o) (Y := Y) (xs := xs) (c := c) (s := s) hR (by omega) i1 i2 i3 (by omega) (by omega) (xs (Int32.ofNat (4 * m + 1)).toNatClampNeg)
      obtain ⟨A, hA⟩ := ih (m + 1) g' u' o' Y' a b c' s' (by omega) R (by omega) (by omega)
      have e4 : Int32.ofNat (4 * m + 1) + 4 = Int32.ofNat (4 * (m + 1) + 1) := (Int32.ofNat_add (4 * m + 1) 4).symm
      refine ⟨A, law_top hb (iv_in_t (by omega) (by omega)) (K _ (law_nxt ?_))⟩
      rw [e4]
      exact hA
