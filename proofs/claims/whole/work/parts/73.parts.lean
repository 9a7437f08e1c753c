/-! Sending by all channels; the end of a test in a tick (printed by wip/gen/rel10.py) -/
/-- the state while the frames are sent -/
def iS (n d E : Nat) (g u : im_M) : Prop := iJ (n + 1) E g u ∧ u 37 0 = Int32.ofNat d ∧ (∀ c : Nat, c < 4 → iC (n + 1) d g u c) ∧ iX g u ∧ ∀ c : Nat, c < 4 → ∀ t : Nat, t < 4 → iQ1 g u c t
set_option maxRecDepth 100000 in
set_option maxHeartbeats 4000000 in
theorem sf_0 {n d E : Nat} {g u : im_M} (hd : 1 ≤ d) (hd2 : d ≤ 8) (hn : n < 519) (hS : iS n d E g u) :
    ∃ (v : Nat) (τ x y F : Int32) (g' u1 u2 u3 u' : im_M), x35_r8 g 0 = some (τ, g) ∧ x28 g (g 1 1) (((g 9 6) ||| (g 9 7)) ||| τ) = some (F, g) ∧ x38_r5_0 g F = some (0, g') ∧ x100_r37 u 0 = some (x, u) ∧ x101_r37 u 0 = some (y, u) ∧ m_tb 0 u = τ ∧ ((x ||| y) ||| τ) = Int32.ofNat v ∧
      x102_r37 u 0 0 (Int32.ofNat v) = some (0, u1) ∧ x102_r37 u1 0 1 (Int32.ofNat v) = some (0, u2) ∧ x102_r37 u2 0 2 (Int32.ofNat v) = some (0, u3) ∧ x102_r37 u3 0 3 (Int32.ofNat v) = some (0, u') ∧ iS n d E g' u' ∧ (∀ t : Nat, t < 4 → iL1 (n + 1) g' u' 0 t) ∧
      (∀ m c' t' : Nat, c' < 4 → t' < 4 → c' ≠ 0 → iL1 m g u c' t' → iL1 m g' u' c' t') ∧ (∀ q : Nat, q ≠ 6 → q ≠ 7 → g' q = g q) ∧ (∀ q : Nat, q ≠ 45 → q ≠ 46 → q ≠ 47 → q ≠ 48 → u' q = u q) := by
  obtain ⟨hJ, hu0, hC, hX, hQ⟩ := hS
  obtain ⟨v, τ, x, y, hv, A, B, P, R, T, V⟩ := sn_st (c := 0) (by decide) hd hd2 hn hu0 hJ (hC 0 (by decide)) hX
  obtain ⟨u1, u2, u3, u', Y0, Y1, Y2, Y3, Q, L, K, a1, a2⟩ := sd_st (c := 0) (by decide) hv hJ.2.1 hQ
  refine ⟨v, τ, x, y, _, _, u1, u2, u3, u', A, B, e38_0 g _, P, R, T, V, Y0, Y1, Y2, Y3, ⟨?_, ?_, ?_, ?_, Q⟩, L, K, a1, a2⟩
  · exact iJ_fr hJ (a1 _ (by decide) (by decide)) (a1 _ (by decide) (by decide)) (by rw [a2 _ (by decide) (by decide) (by decide) (by decide)]) (by rw [a2 _ (by decide) (by decide) (by decide) (by decide)]) (a2 _ (by decide) (by decide) (by decide) (by decide)) (a2 _ (by decide) (by decide) (by decide) (by decide)) (a2 _ (by decide) (by decide) (by decide) (by decide)) (a2 _ (by decide) (by decide) (by decide) (by decide))
  · rw [a2 _ (by decide) (by decide) (by decide) (by decide)]
    exact hu0
  · intro c' hc'
    exact iC_fr (hC c' hc') (a1 _ (by omega) (by omega)) (a1 _ (by omega) (by omega)) (a1 _ (by omega) (by omega)) (a1 _ (by omega) (by omega)) (a1 _ (by omega) (by omega)) (a2 _ (by decide) (by decide) (by decide) (by decide)) (a2 _ (by decide) (by decide) (by decide) (by decide)) (a2 _ (by decide) (by decide) (by decide) (by decide)) (a2 _ (by decide) (by decide) (by decide) (by decide)) (a2 _ (by decide) (by decide) (by decide) (by decide)) (a2 _ (by decide) (by decide) (by decide) (by decide)) (a2 _ (by decide) (by decide) (by decide) (by decide))
  · exact iX_fr hX (a1 _ (by decide) (by decide)) (by rw [a2 _ (by decide) (by decide) (by decide) (by decide)]) (by rw [a2 _ (by decide) (by decide) (by decide) (by decide)])
set_option maxRecDepth 100000 in
set_option maxHeartbeats 4000000 in
theorem sf_1 {n d E : Nat} {g u : im_M} (hd : 1 ≤ d) (hd2 : d ≤ 8) (hn : n < 519) (hS : iS n d E g u) :
    ∃ (v : Nat) (τ x y F : Int32) (g' u1 u2 u3 u' : im_M), x35_r8 g 1 = some (τ, g) ∧ x28 g (g 1 1) (((g 14 6) ||| (g 14 7)) ||| τ) = some (F, g) ∧ x38_r5_1 g F = some (0, g') ∧ x100_r37 u 1 = some (x, u) ∧ x101_r37 u 1 = some (y, u) ∧ m_tb 1 u = τ ∧ ((x ||| y) ||| τ) = Int32.ofNat v ∧
      x102_r37 u 1 0 (Int32.ofNat v) = some (0, u1) ∧ x102_r37 u1 1 1 (Int32.ofNat v) = some (0, u2) ∧ x102_r37 u2 1 2 (Int32.ofNat v) = some (0, u3) ∧ x102_r37 u3 1 3 (Int32.ofNat v) = some (0, u') ∧ iS n d E g' u' ∧ (∀ t : Nat, t < 4 → iL1 (n + 1) g' u' 1 t) ∧
      (∀ m c' t' : Nat, c' < 4 → t' < 4 → c' ≠ 1 → iL1 m g u c' t' → iL1 m g' u' c' t') ∧ (∀ q : Nat, q ≠ 6 → q ≠ 7 → g' q = g q) ∧ (∀ q : Nat, q ≠ 45 → q ≠ 46 → q ≠ 47 → q ≠ 48 → u' q = u q) := by
  obtain ⟨hJ, hu0, hC, hX, hQ⟩ := hS
  obtain ⟨v, τ, x, y, hv, A, B, P, R, T, V⟩ := sn_st (c := 1) (by decide) hd hd2 hn hu0 hJ (hC 1 (by decide)) hX
  obtain ⟨u1, u2, u3, u', Y0, Y1, Y2, Y3, Q, L, K, a1, a2⟩ := sd_st (c := 1) (by decide) hv hJ.2.1 hQ
  refine ⟨v, τ, x, y, _, _, u1, u2, u3, u', A, B, e38_1 g _, P, R, T, V, Y0, Y1, Y2, Y3, ⟨?_, ?_, ?_, ?_, Q⟩, L, K, a1, a2⟩
  · exact iJ_fr hJ (a1 _ (by decide) (by decide)) (a1 _ (by decide) (by decide)) (by rw [a2 _ (by decide) (by decide) (by decide) (by decide)]) (by rw [a2 _ (by decide) (by decide) (by decide) (by decide)]) (a2 _ (by decide) (by decide) (by decide) (by decide)) (a2 _ (by decide) (by decide) (by decide) (by decide)) (a2 _ (by decide) (by decide) (by decide) (by decide)) (a2 _ (by decide) (by decide) (by decide) (by decide))
  · rw [a2 _ (by decide) (by decide) (by decide) (by decide)]
    exact hu0
  · intro c' hc'
    exact iC_fr (hC c' hc') (a1 _ (by omega) (by omega)) (a1 _ (by omega) (by omega)) (a1 _ (by omega) (by omega)) (a1 _ (by omega) (by omega)) (a1 _ (by omega) (by omega)) (a2 _ (by decide) (by decide) (by decide) (by decide)) (a2 _ (by decide) (by decide) (by decide) (by decide)) (a2 _ (by decide) (by decide) (by decide) (by decide)) (a2 _ (by decide) (by decide) (by decide) (by decide)) (a2 _ (by decide) (by decide) (by decide) (by decide)) (a2 _ (by decide) (by decide) (by decide) (by decide)) (a2 _ (by decide) (by decide) (by decide) (by decide))
  · exact iX_fr hX (a1 _ (by decide) (by decide)) (by rw [a2 _ (by decide) (by decide) (by decide) (by decide)]) (by rw [a2 _ (by decide) (by decide) (by decide) (by decide)])
set_option maxRecDepth 100000 in
set_option maxHeartbeats 4000000 in
theorem sf_2 {n d E : Nat} {g u : im_M} (hd : 1 ≤ d) (hd2 : d ≤ 8) (hn : n < 519) (hS : iS n d E g u) :
    ∃ (v : Nat) (τ x y F : Int32) (g' u1 u2 u3 u' : im_M), x35_r8 g 2 = some (τ, g) ∧ x28 g (g 1 1) (((g 19 6) ||| (g 19 7)) ||| τ) = some (F, g) ∧ x38_r5_2 g F = some (0, g') ∧ x100_r37 u 2 = some (x, u) ∧ x101_r37 u 2 = some (y, u) ∧ m_tb 2 u = τ ∧ ((x ||| y) ||| τ) = Int32.ofNat v ∧
      x102_r37 u 2 0 (Int32.ofNat v) = some (0, u1) ∧ x102_r37 u1 2 1 (Int32.ofNat v) = some (0, u2) ∧ x102_r37 u2 2 2 (Int32.ofNat v) = some (0, u3) ∧ x102_r37 u3 2 3 (Int32.ofNat v) = some (0, u') ∧ iS n d E g' u' ∧ (∀ t : Nat, t < 4 → iL1 (n + 1) g' u' 2 t) ∧
      (∀ m c' t' : Nat, c' < 4 → t' < 4 → c' ≠ 2 → iL1 m g u c' t' → iL1 m g' u' c' t') ∧ (∀ q : Nat, q ≠ 6 → q ≠ 7 → g' q = g q) ∧ (∀ q : Nat, q ≠ 45 → q ≠ 46 → q ≠ 47 → q ≠ 48 → u' q = u q) := by
  obtain ⟨hJ, hu0, hC, hX, hQ⟩ := hS
  obtain ⟨v, τ, x, y, hv, A, B, P, R, T, V⟩ := sn_st (c := 2) (by decide) hd hd2 hn hu0 hJ (hC 2 (by decide)) hX
  obtain ⟨u1, u2, u3, u', Y0, Y1, Y2, Y3, Q, L, K, a1, a2⟩ := sd_st (c := 2) (by decide) hv hJ.2.1 hQ
  refine ⟨v, τ, x, y, _, _, u1, u2, u3, u', A, B, e38_2 g _, P, R, T, V, Y0, Y1, Y2, Y3, ⟨?_, ?_, ?_, ?_, Q⟩, L, K, a1, a2⟩
  · exact iJ_fr hJ (a1 _ (by decide) (by decide)) (a1 _ (by decide) (by decide)) (by rw [a2 _ (by decide) (by decide) (by decide) (by decide)]) (by rw [a2 _ (by decide) (by decide) (by decide) (by decide)]) (a2 _ (by decide) (by decide) (by decide) (by decide)) (a2 _ (by decide) (by decide) (by decide) (by decide)) (a2 _ (by decide) (by decide) (by decide) (by decide)) (a2 _ (by decide) (by decide) (by decide) (by decide))
  · rw [a2 _ (by decide) (by decide) (by decide) (by decide)]
    exact hu0
  · intro c' hc'
    exact iC_fr (hC c' hc') (a1 _ (by omega) (by omega)) (a1 _ (by omega) (by omega)) (a1 _ (by omega) (by omega)) (a1 _ (by omega) (by omega)) (a1 _ (by omega) (by omega)) (a2 _ (by decide) (by decide) (by decide) (by decide)) (a2 _ (by decide) (by decide) (by decide) (by decide)) (a2 _ (by decide) (by decide) (by decide) (by decide)) (a2 _ (by decide) (by decide) (by decide) (by decide)) (a2 _ (by decide) (by decide) (by decide) (by decide)) (a2 _ (by decide) (by decide) (by decide) (by decide)) (a2 _ (by decide) (by decide) (by decide) (by decide))
  · exact iX_fr hX (a1 _ (by decide) (by decide)) (by rw [a2 _ (by decide) (by decide) (by decide) (by decide)]) (by rw [a2 _ (by decide) (by decide) (by decide) (by decide)])
set_option maxRecDepth 100000 in
set_option maxHeartbeats 4000000 in
theorem sf_3 {n d E : Nat} {g u : im_M} (hd : 1 ≤ d) (hd2 : d ≤ 8) (hn : n < 519) (hS : iS n d E g u) :
    ∃ (v : Nat) (τ x y F : Int32) (g' u1 u2 u3 u' : im_M), x35_r8 g 3 = some (τ, g) ∧ x28 g (g 1 1) (((g 24 6) ||| (g 24 7)) ||| τ) = some (F, g) ∧ x38_r5_3 g F = some (0, g') ∧ x100_r37 u 3 = some (x, u) ∧ x101_r37 u 3 = some (y, u) ∧ m_tb 3 u = τ ∧ ((x ||| y) ||| τ) = Int32.ofNat v ∧
      x102_r37 u 3 0 (Int32.ofNat v) = some (0, u1) ∧ x102_r37 u1 3 1 (Int32.ofNat v) = some (0, u2) ∧ x102_r37 u2 3 2 (Int32.ofNat v) = some (0, u3) ∧ x102_r37 u3 3 3 (Int32.ofNat v) = some (0, u') ∧ iS n d E g' u' ∧ (∀ t : Nat, t < 4 → iL1 (n + 1) g' u' 3 t) ∧
      (∀ m c' t' : Nat, c' < 4 → t' < 4 → c' ≠ 3 → iL1 m g u c' t' → iL1 m g' u' c' t') ∧ (∀ q : Nat, q ≠ 6 → q ≠ 7 → g' q = g q) ∧ (∀ q : Nat, q ≠ 45 → q ≠ 46 → q ≠ 47 → q ≠ 48 → u' q = u q) := by
  obtain ⟨hJ, hu0, hC, hX, hQ⟩ := hS
  obtain ⟨v, τ, x, y, hv, A, B, P, R, T, V⟩ := sn_st (c := 3) (by decide) hd hd2 hn hu0 hJ (hC 3 (by decide)) hX
  obtain ⟨u1, u2, u3, u', Y0, Y1, Y2, Y3, Q, L, K, a1, a2⟩ := sd_st (c := 3) (by decide) hv hJ.2.1 hQ
  refine ⟨v, τ, x, y, _, _, u1, u2, u3, u', A, B, e38_3 g _, P, R, T, V, Y0, Y1, Y2, Y3, ⟨?_, ?_, ?_, ?_, Q⟩, L, K, a1, a2⟩
  · exact iJ_fr hJ (a1 _ (by decide) (by decide)) (a1 _ (by decide) (by decide)) (by rw [a2 _ (by decide) (by decide) (by decide) (by decide)]) (by rw [a2 _ (by decide) (by decide) (by decide) (by decide)]) (a2 _ (by decide) (by decide) (by decide) (by decide)) (a2 _ (by decide) (by decide) (by decide) (by decide)) (a2 _ (by decide) (by decide) (by decide) (by decide)) (a2 _ (by decide) (by decide) (by decide) (by decide))
  · rw [a2 _ (by decide) (by decide) (by decide) (by decide)]
    exact hu0
  · intro c' hc'
    exact iC_fr (hC c' hc') (a1 _ (by omega) (by omega)) (a1 _ (by omega) (by omega)) (a1 _ (by omega) (by omega)) (a1 _ (by omega) (by omega)) (a1 _ (by omega) (by omega)) (a2 _ (by decide) (by decide) (by decide) (by decide)) (a2 _ (by decide) (by decide) (by decide) (by decide)) (a2 _ (by decide) (by decide) (by decide) (by decide)) (a2 _ (by decide) (by decide) (by decide) (by decide)) (a2 _ (by decide) (by decide) (by decide) (by decide)) (a2 _ (by decide) (by decide) (by decide) (by decide)) (a2 _ (by decide) (by decide) (by decide) (by decide))
  · exact iX_fr hX (a1 _ (by decide) (by decide)) (by rw [a2 _ (by decide) (by decide) (by decide) (by decide)]) (by rw [a2 _ (by decide) (by decide) (by decide) (by decide)])
set_option maxRecDepth 100000 in
set_option maxHeartbeats 4000000 in
theorem sf_all {n d E : Nat} {g u : im_M} (hd : 1 ≤ d) (hd2 : d ≤ 8) (hn : n < 519) (hS : iS n d E g u) :
    ∃ g' u' : im_M, x37_r0 g = some (0, g') ∧ (∀ y0 : Int32, x90_r37_1 u y0 = some ((u' 37 22) - y0, u')) ∧ iJ (n + 1) E g' u' ∧ (∀ c : Nat, c < 4 → iC (n + 1) d g' u' c) ∧ iX g' u' ∧ (∀ c : Nat, c < 4 → ∀ t : Nat, t < 4 → iQ1 g' u' c t) ∧ iF (n + 1) g' u' ∧
      (∀ q : Nat, q ≠ 6 → q ≠ 7 → q ≠ 8 → g' q = g q) ∧ (∀ i : Nat, i ≠ 2 → g' 8 i = g 8 i) ∧ (∀ q : Nat, q ≠ 37 → q ≠ 45 → q ≠ 46 → q ≠ 47 → q ≠ 48 → u' q = u q) ∧ (∀ i : Nat, i ≠ 21 → u' 37 i = u 37 i) := by
  obtain ⟨v0, τ0, x0, y0', F0, g1, a1, a2, a3, a4, A0, B0, C0, P0, R0, T0, V0, E00, E01, E02, E03, S1, L0, K0, f0, h0⟩ := sf_0 hd hd2 hn hS
  obtain ⟨v1, τ1, x1, y1', F1, g2, b1, b2, b3, b4, A1, B1, C1, P1, R1, T1, V1, E10, E11, E12, E13, S2, L1, K1, f1, h1⟩ := sf_1 hd hd2 hn S1
  obtain ⟨v2, τ2, x2, y2', F2, g3, c1, c2, c3, c4, A2, B2, C2, P2, R2, T2, V2, E20, E21, E22, E23, S3, L2, K2, f2, h2⟩ := sf_2 hd hd2 hn S2
  obtain ⟨v3, τ3, x3, y3', F3, g4, d1, d2, d3, d4, A3, B3', C3, P3, R3, T3, V3, E30, E31, E32, E33, S4, L3, K3, f3, h3⟩ := sf_3 hd hd2 hn S3
  obtain ⟨J4, U4, Cc4, X4, Q4⟩ := S4
  -- who is tested
  obtain ⟨w, hw1, hw2⟩ : ∃ w : Bool, Op.if_icmp.holds .eq (g4 8 0) (-1 : Int32) = !w ∧ Op.ifCond.holds .lt (d4 37 20) = !w := by
    rcases X4 with ⟨z1, z2⟩ | ⟨cc, pp, hcc, hpp, z1, -, z3, -⟩
    · refine ⟨false, ?_, ?_⟩
      · rw [z1]
        rfl
      · rw [z2]
        rfl
    · refine ⟨true, ?_, ?_⟩
      · rw [z1]
        have q := ne_m1 (m := cc) (by omega)
        have q2 : (Int32.ofNat cc != (-1 : Int32)) = true := q
        show (Int32.ofNat cc == (-1 : Int32)) = false
        simpa using q2
      · rw [z3]
        exact nn_lt (by omega)
  have runC : x37_r0 g = some (0, im_w g4 8 2 (bi w)) := by
    unfold x37_r0
    refine (ob A0).trans ((ob B0).trans ((ob C0).trans ((ob A1).trans ((ob B1).trans ((ob C1).trans ((ob A2).trans ((ob B2).trans ((ob C2).trans ((ob A3).trans ((ob B3').trans ((ob C3).trans ?_)))))))))))
    cases w
    · refine (cbt hw1).trans ?_
      exact (cbt rfl).trans rfl
    · refine (cbf hw1).trans ?_
      exact (cbt rfl).trans rfl
  have t5 : ∀ (y0 z : Int32) (m : im_M), m = d4 → (bif Op.ifCond.holds .lt (m 37 20) then (x90_r37_6 m y0 z (0 : Int32)) else (x90_r37_6 m y0 z (1 : Int32))) = some ((d4 37 22) - y0, im_w d4 37 21 (bi w)) := fun y0 z m hm => by
    subst hm
    cases w
    · refine (cbt hw2).trans ?_
      exact (cbt rfl).trans rfl
    · refine (cbf hw2).trans ?_
      exact (cbt rfl).trans rfl
  have s5 : ∀ y0 z : Int32, x90_r37_5 c4 y0 z τ3 (x3 ||| y3') = some ((d4 37 22) - y0, im_w d4 37 21 (bi w)) := fun y0 z => by
    unfold x90_r37_5
    rw [V3]
    exact (ob E30).trans ((ob E31).trans ((ob E32).trans ((ob E33).trans (t5 y0 _ d4 rfl))))
  have s4 : ∀ y0 z : Int32, x90_r37_4 b4 y0 z τ2 (x2 ||| y2') = some ((d4 37 22) - y0, im_w d4 37 21 (bi w)) := fun y0 z => by
    unfold x90_r37_4
    rw [V2]
    refine (ob E20).trans ((ob E21).trans ((ob E22).trans ((ob E23).trans ((ob P3).trans ((ob R3).trans ?_)))))
    refine (cb3 (fun q => x90_r37_5 c4 y0 (x3 ||| y3') q (x3 ||| y3')) _ _ _).trans ?_
    show x90_r37_5 c4 y0 (x3 ||| y3') (m_tb 3 c4) (x3 ||| y3') = _
    rw [T3]
    exact s5 y0 _
  have s3 : ∀ y0 z : Int32, x90_r37_3 a4 y0 z τ1 (x1 ||| y1') = some ((d4 37 22) - y0, im_w d4 37 21 (bi w)) := fun y0 z => by
    unfold x90_r37_3
    rw [V1]
    refine (ob E10).trans ((ob E11).trans ((ob E12).trans ((ob E13).trans ((ob P2).trans ((ob R2).trans ?_)))))
    refine (cb3 (fun q => x90_r37_4 b4 y0 (x2 ||| y2') q (x2 ||| y2')) _ _ _).trans ?_
    show x90_r37_4 b4 y0 (x2 ||| y2') (m_tb 2 b4) (x2 ||| y2') = _
    rw [T2]
    exact s4 y0 _
  have s2 : ∀ y0 z : Int32, x90_r37_2 u y0 z τ0 (x0 ||| y0') = some ((d4 37 22) - y0, im_w d4 37 21 (bi w)) := fun y0 z => by
    unfold x90_r37_2
    rw [V0]
    refine (ob E00).trans ((ob E01).trans ((ob E02).trans ((ob E03).trans ((ob P1).trans ((ob R1).trans ?_)))))
    refine (cb3 (fun q => x90_r37_3 a4 y0 (x1 ||| y1') q (x1 ||| y1')) _ _ _).trans ?_
    show x90_r37_3 a4 y0 (x1 ||| y1') (m_tb 1 a4) (x1 ||| y1') = _
    rw [T1]
    exact s3 y0 _
  have runM : ∀ y0 : Int32, x90_r37_1 u y0 = some ((d4 37 22) - y0, im_w d4 37 21 (bi w)) := fun y0 => by
    unfold x90_r37_1
    refine (ob P0).trans ((ob R0).trans ?_)
    refine (cb3 (fun q => x90_r37_2 u y0 (x0 ||| y0') q (x0 ||| y0')) _ _ _).trans ?_
    show x90_r37_2 u y0 (x0 ||| y0') (m_tb 0 u) (x0 ||| y0') = _
    rw [T0]
    exact s2 y0 _
  have fg : ∀ q : Nat, q ≠ 6 → q ≠ 7 → g4 q = g q := fun q z6 z7 => by rw [f3 q z6 z7, f2 q z6 z7, f1 q z6 z7, f0 q z6 z7]
  have fu : ∀ q : Nat, q ≠ 45 → q ≠ 46 → q ≠ 47 → q ≠ 48 → d4 q = u q := fun q z5 z6 z7 z8 => by rw [h3 q z5 z6 z7 z8, h2 q z5 z6 z7 z8, h1 q z5 z6 z7 z8, h0 q z5 z6 z7 z8]
  refine ⟨im_w g4 8 2 (bi w), im_w d4 37 21 (bi w), runC, runM, ?_, ?_, ?_, ?_, ?_, ?_, ?_, ?_, ?_⟩
  · exact iJ_fr J4 rfl rfl rfl rfl rfl rfl rfl rfl
  · intro c hc
    exact iC_fr (Cc4 c hc) (im_w_o _ _ _ (by omega)) (im_w_o _ _ _ (by omega)) (im_w_o _ _ _ (by omega)) (im_w_o _ _ _ (by omega)) (im_w_o _ _ _ (by omega)) rfl rfl rfl rfl rfl rfl rfl
  · rcases X4 with ⟨z1, z2⟩ | ⟨cc, pp, hcc, hpp, z1, z2, z3, -⟩
    · exact Or.inl ⟨z1, z2⟩
    · exact Or.inr ⟨cc, pp, hcc, hpp, z1, z2, z3, w, rfl, rfl⟩
  · intro c hc t ht
    exact Q4 c hc t ht
  · intro c hc t ht
    have all : iL1 (n + 1) g4 d4 c t := by
      have h4 : c = 0 ∨ c = 1 ∨ c = 2 ∨ c = 3 := by omega
      rcases h4 with h4 | h4 | h4 | h4 <;> subst h4
      · exact K3 _ _ _ hc ht (by decide) (K2 _ _ _ hc ht (by decide) (K1 _ _ _ hc ht (by decide) (L0 t ht)))
      · exact K3 _ _ _ hc ht (by decide) (K2 _ _ _ hc ht (by decide) (L1 t ht))
      · exact K3 _ _ _ hc ht (by decide) (L2 t ht)
      · exact L3 t ht
    exact all
  · intro q z6 z7 z8
    rw [im_w_o _ _ _ z8, fg q z6 z7]
  · intro i hi
    rw [im_w_k _ _ _ hi, fg 8 (by decide) (by decide)]
  · intro q z z5 z6 z7 z8
    rw [im_w_o _ _ _ z, fu q z5 z6 z7 z8]
  · intro i hi
    rw [im_w_k _ _ _ hi, fu 37 (by decide) (by decide) (by decide) (by decide)]
theorem hb_lo {k : Nat} (h : 3 ≤ k) (hk : k < 32) : hb 7 k = false := by
  rw [hb_7 hk]
  exact decide_eq_false (by omega)
theorem iH_b {t c p : Nat} {g u : im_M} (hp : p < 3) (h : iH t c g u) : (!(Op.ifCond.holds .eq (u 51 (4 * t + c))) && hb (u 46 (4 * t + c)) (3 + p)) = hb (g (30 + 2 * t) c) (3 + p) := by
  obtain ⟨gd, b, hb0, k1, k2, k3, -⟩ := h
  rw [k1, k2, k3, bi_eq]
  cases gd
  · show _ = hb 7 (3 + p)
    rw [hb_lo (by omega) (by omega)]
    rfl
  · rfl
set_option maxRecDepth 100000 in
set_option maxHeartbeats 4000000 in
theorem en_st {n E : Nat} {g u : im_M} (hE : E < 2 ^ 28) (hB : iB n E g u) (hX : iX g u) (hp : g 8 3 = u 37 28) (hf : g 8 4 = u 37 29) (hH : ∀ t c : Nat, t < 4 → c < 4 → iH t c g u) :
    ∃ g' u' : im_M, (∀ y : Int32, (bif Op.if_icmp.holds .eq (g 8 0) (-1 : Int32) then (x10_r0_1 g y) else (bif Op.ifCond.holds .eq (g 8 2) then (x10_r0_1 g y) else (Option.bind (x34_r0 g) (fun q13 => x10_r0_1 q13.2 y)))) = x10_r0_1 g' y) ∧
      (∀ y : Int32, (bif Op.ifCond.holds .lt (u 37 20) then (x90_r37_1 u y) else (bif Op.ifCond.holds .eq (u 37 21) then (x90_r37_1 u y) else (Option.bind (x99_r37 u) (fun q33 => x90_r37_1 q33.2 y)))) = x90_r37_1 u' y) ∧
      iB n (E + 1) g' u' ∧ iX g' u' ∧ g' 8 3 = u' 37 28 ∧ g' 8 4 = u' 37 29 ∧ (∀ q : Nat, q ≠ 1 → q ≠ 2 → q ≠ 8 → g' q = g q) ∧ (∀ q : Nat, q ≠ 37 → q ≠ 54 → q ≠ 55 → q ≠ 56 → q ≠ 57 → u' q = u q) ∧ (∀ i : Nat, i ≠ 20 → i ≠ 21 → i ≠ 22 → i ≠ 28 → i ≠ 29 → u' 37 i = u 37 i) := by
  obtain ⟨hJ, hF, hb7, hy, hT⟩ := hB
  have keep : ∀ (c1 : Op.if_icmp.holds .eq (g 8 0) (-1 : Int32) = true ∨ Op.ifCond.holds .eq (g 8 2) = true) (c2 : Op.ifCond.holds .lt (u 37 20) = true ∨ Op.ifCond.holds .eq (u 37 21) = true), ∃ g' u' : im_M, (∀ y : Int32, (bif Op.if_icmp.holds .eq (g 8 0) (-1 : Int32) then (x10_r0_1 g y) else (bif Op.ifCond.holds .eq (g 8 2) then (x10_r0_1 g y) else (Option.bind (x34_r0 g) (fun q13 => x10_r0_1 q13.2 y)))) = x10_r0_1 g' y) ∧
      (∀ y : Int32, (bif Op.ifCond.holds .lt (u 37 20) then (x90_r37_1 u y) else (bif Op.ifCond.holds .eq (u 37 21) then (x90_r37_1 u y) else (Option.bind (x99_r37 u) (fun q33 => x90_r37_1 q33.2 y)))) = x90_r37_1 u' y) ∧
      iB n (E + 1) g' u' ∧ iX g' u' ∧ g' 8 3 = u' 37 28 ∧ g' 8 4 = u' 37 29 ∧ (∀ q : Nat, q ≠ 1 → q ≠ 2 → q ≠ 8 → g' q = g q) ∧ (∀ q : Nat, q ≠ 37 → q ≠ 54 → q ≠ 55 → q ≠ 56 → q ≠ 57 → u' q = u q) ∧ (∀ i : Nat, i ≠ 20 → i ≠ 21 → i ≠ 22 → i ≠ 28 → i ≠ 29 → u' 37 i = u 37 i) := by
    intro c1 c2
    refine ⟨g, u, fun y => ?_, fun y => ?_, ⟨iJ_le hJ (by omega), hF, hb7, hy, hT⟩, hX, hp, hf, fun _ _ _ _ => rfl, fun _ _ _ _ _ _ => rfl, fun _ _ _ _ _ _ => rfl⟩
    · cases h : Op.if_icmp.holds .eq (g 8 0) (-1 : Int32)
      · rcases c1 with c1 | c1
        · rw [h] at c1
          cases c1
        · exact (cbf rfl).trans (cbt c1)
      · exact cbt rfl
    · cases h : Op.ifCond.holds .lt (u 37 20)
      · rcases c2 with c2 | c2
        · rw [h] at c2
          cases c2
        · exact (cbf rfl).trans (cbt c2)
      · exact cbt rfl
  rcases hX with ⟨z1, z2⟩ | ⟨cc, pp, hcc, hpp, z1, z2, z3, b, z4, z5⟩
  · exact keep (Or.inl (by rw [z1]; rfl)) (Or.inl (by rw [z2]; rfl))
  · cases b
    · exact keep (Or.inr (by rw [z4]; rfl)) (Or.inr (by rw [z5]; rfl))
    · have c1 : Op.if_icmp.holds .eq (g 8 0) (-1 : Int32) = false := by
        rw [z1]
        have q := ne_m1 (m := cc) (by omega)
        have q2 : (Int32.ofNat cc != (-1 : Int32)) = true := q
        show (Int32.ofNat cc == (-1 : Int32)) = false
        simpa using q2
      have c2 : Op.ifCond.holds .eq (g 8 2) = false := by
        rw [z4]
        rfl
      have d1 : Op.ifCond.holds .lt (u 37 20) = false := by
        rw [z3]
        exact nn_lt (by omega)
      have d2 : Op.ifCond.holds .eq (u 37 21) = false := by
        rw [z5]
        rfl
      obtain ⟨A, hA⟩ : ∃ A : Bool, (((hb (g 30 cc) (3 + pp) && hb (g 32 cc) (3 + pp)) && hb (g 34 cc) (3 + pp)) && hb (g 36 cc) (3 + pp)) = A := ⟨_, rfl⟩
      have X := x34_eq hcc hpp z1 z2 hA
      obtain ⟨e, he, -, he2⟩ := hJ.2.2.1
      have i0 : (!(Op.ifCond.holds .eq (u 51 cc)) && hb (u 46 cc) (3 + pp)) = hb (g 30 cc) (3 + pp) := by
        have q := iH_b hpp (hH 0 cc (by decide) hcc)
        rw [Nat.mul_zero, Nat.zero_add] at q
        exact q
      have i1 : (!(Op.ifCond.holds .eq (u 51 (4 + cc))) && hb (u 46 (4 + cc)) (3 + pp)) = hb (g 32 cc) (3 + pp) := iH_b hpp (hH 1 cc (by decide) hcc)
      have i2 : (!(Op.ifCond.holds .eq (u 51 (8 + cc))) && hb (u 46 (8 + cc)) (3 + pp)) = hb (g 34 cc) (3 + pp) := iH_b hpp (hH 2 cc (by decide) hcc)
      have i3 : (!(Op.ifCond.holds .eq (u 51 (12 + cc))) && hb (u 46 (12 + cc)) (3 + pp)) = hb (g 36 cc) (3 + pp) := iH_b hpp (hH 3 cc (by decide) hcc)
      have Y : x99_r37 u = some (0, m_end A cc pp u) := x99_eq hcc hpp z3 (by omega) he2 (by rw [i0, i1, i2, i3]; exact hA)
      have go : ∀ q : Nat, q ≠ 1 → q ≠ 2 → q ≠ 8 → c_end A g q = g q := fun q w1 w2 w8 => by
        unfold c_end
        rw [im_w_o _ _ _ w8]
        cases A
        · show im_w (c_rec _ _ _ _) 8 4 _ q = _
          rw [im_w_o _ _ _ w8, c_rec_o _ _ _ _ w1 w2]
        · show im_w (c_rec _ _ _ _) 8 3 _ q = _
          rw [im_w_o _ _ _ w8, c_rec_o _ _ _ _ w1 w2]
      have uo : ∀ q : Nat, q ≠ 37 → q ≠ 54 → q ≠ 55 → q ≠ 56 → q ≠ 57 → m_end A cc pp u q = u q := fun q w0 w1 w2 w3 w4 => by
        unfold m_end
        rw [im_w_o _ _ _ w0, im_w_o _ _ _ w0, im_w_o _ _ _ w0, im_w_o _ _ _ w0, m_note_o _ _ _ _ w0 w1 w2 w3 w4]
      have u3 : ∀ i : Nat, i ≠ 20 → i ≠ 21 → i ≠ 22 → i ≠ 28 → i ≠ 29 → m_end A cc pp u 37 i = u 37 i := fun i w0 w1 w2 w3 w4 => by
        unfold m_end
        rw [im_w_k _ _ _ w1, im_w_k _ _ _ w0, im_w_k _ _ _ w4, im_w_k _ _ _ w3, m_note_37 _ _ _ _ w2]
      have J1 : iJ (n + 1) (E + 1) (c_end A g) (m_end A cc pp u) := by
        have j := iJ_rec hJ (by omega) (bif A then 9 else 10) (Int32.ofNat cc) (Int32.ofNat pp)
        unfold c_end m_end
        rw [z1, z2]
        cases A
        · exact iJ_fr j rfl rfl rfl rfl rfl rfl rfl rfl
        · exact iJ_fr j rfl rfl rfl rfl rfl rfl rfl rfl
      refine ⟨c_end A g, m_end A cc pp u, fun y => ?_, fun y => ?_, ⟨J1, ?_, ?_, ?_, ?_⟩, Or.inl ⟨?_, ?_⟩, ?_, ?_, go, uo, u3⟩
      · exact (cbf c1).trans ((cbf c2).trans ((ob X).trans rfl))
      · exact (cbf d1).trans ((cbf d2).trans ((ob Y).trans rfl))
      · exact iF_fr hF (go _ (by decide) (by decide) (by decide)) (uo _ (by decide) (by decide) (by decide) (by decide) (by decide)) (uo _ (by decide) (by decide) (by decide) (by decide) (by decide)) (uo _ (by decide) (by decide) (by decide) (by decide) (by decide))
      · rw [go _ (by decide) (by decide) (by decide), u3 27 (by decide) (by decide) (by decide) (by decide) (by decide)]
        exact hb7
      · rw [go _ (by decide) (by decide) (by decide), u3 19 (by decide) (by decide) (by decide) (by decide) (by decide)]
        exact hy
      · intro t ht
        exact iT_fr (hT t ht) (go _ (by omega) (by omega) (by omega)) (go _ (by omega) (by omega) (by omega)) (fun c hc => by rw [uo _ (by decide) (by decide) (by decide) (by decide) (by decide)]) (by rw [uo _ (by decide) (by decide) (by decide) (by decide) (by decide)]) (by rw [uo _ (by decide) (by decide) (by decide) (by decide) (by decide)])
      · exact im_w_s _ _ _ _
      · rfl
      · show c_end A g 8 3 = (m_note u (bif A then 9 else 10) (Int32.ofNat cc) (Int32.ofNat pp) 37 28) + bi A
        rw [m_note_37 _ _ _ _ (by decide), ← hp]
        unfold c_end
        rw [im_w_k _ _ _ (by decide)]
        cases A
        · show im_w (c_rec _ _ _ _) 8 4 _ 8 3 = _
          rw [im_w_k _ _ _ (by decide), c_rec_o _ _ _ _ (by decide) (by decide)]
          exact (Int32.add_zero _).symm
        · show im_w (c_rec _ _ _ _) 8 3 _ 8 3 = _
          rw [im_w_s, c_rec_o _ _ _ _ (by decide) (by decide)]
          rfl
      · show c_end A g 8 4 = (m_note u (bif A then 9 else 10) (Int32.ofNat cc) (Int32.ofNat pp) 37 29) + bi (!A)
        rw [m_note_37 _ _ _ _ (by decide), ← hf]
        unfold c_end
        rw [im_w_k _ _ _ (by decide)]
        cases A
        · show im_w (c_rec _ _ _ _) 8 4 _ 8 4 = _
          rw [im_w_s, c_rec_o _ _ _ _ (by decide) (by decide)]
          rfl
        · show im_w (c_rec _ _ _ _) 8 3 _ 8 4 = _
          rw [im_w_k _ _ _ (by decide), c_rec_o _ _ _ _ (by decide) (by decide)]
          exact (Int32.add_zero _).symm
