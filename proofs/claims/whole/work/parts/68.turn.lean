/-! A train's turn in a tick (printed by wip/gen/rel7.py) -/
/-- what a tick's second half keeps: journal, links, bad frames, the bypass, the trains -/
def iB (n E : Nat) (g u : im_M) : Prop := iJ (n + 1) E g u ∧ iF n g u ∧ g 0 7 = u 37 27 ∧ g 0 6 = u 37 19 ∧ ∀ t : Nat, t < 4 → iT g u t
set_option maxRecDepth 100000 in
set_option maxHeartbeats 4000000 in
theorem tr_0 {n E : Nat} {g u : im_M} (hn : n < 519) (hE : E < 2 ^ 27) (hB : iB n E g u) :
    ∃ g1 g' u1 u2 u3 u4 u' : im_M, x24_r0_r29 g = some (0, g1) ∧ x31_r29_r1 g1 (g1 0 6) = some (0, g') ∧ x96_r37 u 0 0 = some (0, u1) ∧ x96_r37 u1 0 1 = some (0, u2) ∧ x96_r37 u2 0 2 = some (0, u3) ∧ x96_r37 u3 0 3 = some (0, u4) ∧ x98_r37 u4 0 = some (0, u') ∧ iB n (E + 11) g' u' ∧ (∀ c : Nat, c < 4 → iH 0 c g' u') ∧
      (∀ t' c' : Nat, t' < 4 → c' < 4 → t' ≠ 0 → iH t' c' g u → iH t' c' g' u') ∧ (∀ q : Nat, q ≠ 0 → q ≠ 1 → q ≠ 2 → q ≠ 30 → q ≠ 29 → g' q = g q) ∧ (∀ i : Nat, i ≠ 7 → g' 0 i = g 0 i) ∧ (∀ q : Nat, q ≠ 37 → q ≠ 54 → q ≠ 55 → q ≠ 56 → q ≠ 57 → q ≠ 50 → q ≠ 51 → q ≠ 52 → q ≠ 53 → u' q = u q) ∧ (∀ i : Nat, i ≠ 22 → i ≠ 27 → u' 37 i = u 37 i) := by
  obtain ⟨hJ, hF, hb, hy, hT⟩ := hB
  obtain ⟨g1, u1, u2, u3, u4, X, Y0, Y1, Y2, Y3, J1, F1, B1, H1, K1, a1, a2, a3, a4, a5⟩ := hr4_0 hn (by omega) hJ hF hb
  have ay : g1 0 6 = u4 37 19 := by
    rw [a2 6 (by decide), a4 19 (by decide) (by decide)]
    exact hy
  have T1 : ∀ t' : Nat, t' < 4 → iT g1 u4 t' := fun t' ht' => by
    by_cases htt : t' = 0
    · subst htt
      obtain ⟨-, w1, w2⟩ := hT 0 (by decide)
      have e1 : g1 (29 + 2 * 0) = g (29 + 2 * 0) := a1 _ (by decide) (by decide) (by decide) (by decide)
      have e2 : u4 52 = u 52 := a3 _ (by decide) (by decide) (by decide) (by decide) (by decide) (by decide) (by decide)
      have e3 : u4 53 = u 53 := a3 _ (by decide) (by decide) (by decide) (by decide) (by decide) (by decide) (by decide)
      refine ⟨fun c hc => ?_, ?_, ?_⟩
      · obtain ⟨_, _, -, -, -, -, hh⟩ := H1 c hc
        exact hh
      · rw [e1, e2]
        exact w1
      · rw [e1, e3]
        exact w2
    · exact iT_fr (hT t' ht') (a1 _ (by omega) (by omega) (by omega) (by omega)) (a1 _ (by omega) (by omega) (by omega) (by omega)) (fun c hc => a5 t' c hc htt) (by rw [a3 _ (by decide) (by decide) (by decide) (by decide) (by decide) (by decide) (by decide)]) (by rw [a3 _ (by decide) (by decide) (by decide) (by decide) (by decide) (by decide) (by decide)])
  obtain ⟨a, b, c, ha, hb', hc, J2, T2⟩ := dec_st (t := 0) (by decide) (by omega) J1 (T1 0 (by decide)) ay
  obtain ⟨e, he, -, he2⟩ := J1.2.2.1
  have V : x98_r37 u4 0 = some (0, m_vote 0 a b c u4) := x98_eq (t := 0) (by decide) (by omega) he2 ha hb' hc
  have Z : x31_r29_r1 g1 (g1 0 6) = some (0, c_dec 0 (g1 0 6) g1) := e31_0 g1 (g1 0 6)
  have co : ∀ q : Nat, q ≠ 1 → q ≠ 2 → q ≠ 29 → c_dec 0 (g1 0 6) g1 q = g1 q := fun q z1 z2 z3 => c_dec_o 0 (g1 0 6) g1 z1 z2 z3
  have mo : ∀ q : Nat, q ≠ 37 → q ≠ 54 → q ≠ 55 → q ≠ 56 → q ≠ 57 → q ≠ 52 → q ≠ 53 → m_vote 0 a b c u4 q = u4 q := fun q z0 z1 z2 z3 z4 z5 z6 => m_vote_o 0 a b c u4 z0 z1 z2 z3 z4 z5 z6
  have m3 : ∀ i : Nat, i ≠ 22 → m_vote 0 a b c u4 37 i = u4 37 i := fun i hi => m_vote_37 0 a b c u4 hi
  refine ⟨g1, _, u1, u2, u3, u4, _, X, Z, Y0, Y1, Y2, Y3, V, ⟨J2, ?_, ?_, ?_, ?_⟩, ?_, ?_, ?_, ?_, ?_, ?_⟩
  · exact iF_fr F1 (co _ (by decide) (by decide) (by decide)) (mo _ (by decide) (by decide) (by decide) (by decide) (by decide) (by decide) (by decide)) (mo _ (by decide) (by decide) (by decide) (by decide) (by decide) (by decide) (by decide)) (mo _ (by decide) (by decide) (by decide) (by decide) (by decide) (by decide) (by decide))
  · rw [co _ (by decide) (by decide) (by decide), m3 27 (by decide)]
    exact B1
  · rw [co _ (by decide) (by decide) (by decide), m3 19 (by decide)]
    exact ay
  · intro t' ht'
    by_cases htt : t' = 0
    · subst htt
      exact T2
    · refine iT_fr (T1 t' ht') (co _ (by omega) (by omega) (by omega)) (co _ (by omega) (by omega) (by omega)) (fun c hc => by rw [mo _ (by decide) (by decide) (by decide) (by decide) (by decide) (by decide) (by decide)]) ?_ ?_
      · rw [m_vote_52, upd_o _ _ htt]
      · rw [m_vote_53, upd_o _ _ htt]
  · intro c hc
    exact iH_fr (H1 c hc) (by rw [co _ (by decide) (by decide) (by decide)]) (by rw [mo _ (by decide) (by decide) (by decide) (by decide) (by decide) (by decide) (by decide)]) (by rw [mo _ (by decide) (by decide) (by decide) (by decide) (by decide) (by decide) (by decide)]) (by rw [mo _ (by decide) (by decide) (by decide) (by decide) (by decide) (by decide) (by decide)])
  · intro t' c' ht' hc' hne hh
    exact iH_fr (K1 t' c' ht' hc' hne hh) (by rw [co _ (by omega) (by omega) (by omega)]) (by rw [mo _ (by decide) (by decide) (by decide) (by decide) (by decide) (by decide) (by decide)]) (by rw [mo _ (by decide) (by decide) (by decide) (by decide) (by decide) (by decide) (by decide)]) (by rw [mo _ (by decide) (by decide) (by decide) (by decide) (by decide) (by decide) (by decide)])
  · intro q z0 z1 z2 z3 z4
    rw [co q z1 z2 z4, a1 q z0 z1 z2 z3]
  · intro i hi
    rw [co 0 (by decide) (by decide) (by decide), a2 i hi]
  · intro q z0 z1 z2 z3 z4 z5 z6 z7 z8
    rw [mo q z0 z1 z2 z3 z4 z7 z8, a3 q z0 z1 z2 z3 z4 z5 z6]
  · intro i hi hi2
    rw [m3 i hi, a4 i hi hi2]
set_option maxRecDepth 100000 in
set_option maxHeartbeats 4000000 in
theorem tr_1 {n E : Nat} {g u : im_M} (hn : n < 519) (hE : E < 2 ^ 27) (hB : iB n E g u) :
    ∃ g1 g' u1 u2 u3 u4 u' : im_M, x24_r0_r31 g = some (0, g1) ∧ x31_r31_r1 g1 (g1 0 6) = some (0, g') ∧ x96_r37 u 1 0 = some (0, u1) ∧ x96_r37 u1 1 1 = some (0, u2) ∧ x96_r37 u2 1 2 = some (0, u3) ∧ x96_r37 u3 1 3 = some (0, u4) ∧ x98_r37 u4 1 = some (0, u') ∧ iB n (E + 11) g' u' ∧ (∀ c : Nat, c < 4 → iH 1 c g' u') ∧
      (∀ t' c' : Nat, t' < 4 → c' < 4 → t' ≠ 1 → iH t' c' g u → iH t' c' g' u') ∧ (∀ q : Nat, q ≠ 0 → q ≠ 1 → q ≠ 2 → q ≠ 32 → q ≠ 31 → g' q = g q) ∧ (∀ i : Nat, i ≠ 7 → g' 0 i = g 0 i) ∧ (∀ q : Nat, q ≠ 37 → q ≠ 54 → q ≠ 55 → q ≠ 56 → q ≠ 57 → q ≠ 50 → q ≠ 51 → q ≠ 52 → q ≠ 53 → u' q = u q) ∧ (∀ i : Nat, i ≠ 22 → i ≠ 27 → u' 37 i = u 37 i) := by
  obtain ⟨hJ, hF, hb, hy, hT⟩ := hB
  obtain ⟨g1, u1, u2, u3, u4, X, Y0, Y1, Y2, Y3, J1, F1, B1, H1, K1, a1, a2, a3, a4, a5⟩ := hr4_1 hn (by omega) hJ hF hb
  have ay : g1 0 6 = u4 37 19 := by
    rw [a2 6 (by decide), a4 19 (by decide) (by decide)]
    exact hy
  have T1 : ∀ t' : Nat, t' < 4 → iT g1 u4 t' := fun t' ht' => by
    by_cases htt : t' = 1
    · subst htt
      obtain ⟨-, w1, w2⟩ := hT 1 (by decide)
      have e1 : g1 (29 + 2 * 1) = g (29 + 2 * 1) := a1 _ (by decide) (by decide) (by decide) (by decide)
      have e2 : u4 52 = u 52 := a3 _ (by decide) (by decide) (by decide) (by decide) (by decide) (by decide) (by decide)
      have e3 : u4 53 = u 53 := a3 _ (by decide) (by decide) (by decide) (by decide) (by decide) (by decide) (by decide)
      refine ⟨fun c hc => ?_, ?_, ?_⟩
      · obtain ⟨_, _, -, -, -, -, hh⟩ := H1 c hc
        exact hh
      · rw [e1, e2]
        exact w1
      · rw [e1, e3]
        exact w2
    · exact iT_fr (hT t' ht') (a1 _ (by omega) (by omega) (by omega) (by omega)) (a1 _ (by omega) (by omega) (by omega) (by omega)) (fun c hc => a5 t' c hc htt) (by rw [a3 _ (by decide) (by decide) (by decide) (by decide) (by decide) (by decide) (by decide)]) (by rw [a3 _ (by decide) (by decide) (by decide) (by decide) (by decide) (by decide) (by decide)])
  obtain ⟨a, b, c, ha, hb', hc, J2, T2⟩ := dec_st (t := 1) (by decide) (by omega) J1 (T1 1 (by decide)) ay
  obtain ⟨e, he, -, he2⟩ := J1.2.2.1
  have V : x98_r37 u4 1 = some (0, m_vote 1 a b c u4) := x98_eq (t := 1) (by decide) (by omega) he2 ha hb' hc
  have Z : x31_r31_r1 g1 (g1 0 6) = some (0, c_dec 1 (g1 0 6) g1) := e31_1 g1 (g1 0 6)
  have co : ∀ q : Nat, q ≠ 1 → q ≠ 2 → q ≠ 31 → c_dec 1 (g1 0 6) g1 q = g1 q := fun q z1 z2 z3 => c_dec_o 1 (g1 0 6) g1 z1 z2 z3
  have mo : ∀ q : Nat, q ≠ 37 → q ≠ 54 → q ≠ 55 → q ≠ 56 → q ≠ 57 → q ≠ 52 → q ≠ 53 → m_vote 1 a b c u4 q = u4 q := fun q z0 z1 z2 z3 z4 z5 z6 => m_vote_o 1 a b c u4 z0 z1 z2 z3 z4 z5 z6
  have m3 : ∀ i : Nat, i ≠ 22 → m_vote 1 a b c u4 37 i = u4 37 i := fun i hi => m_vote_37 1 a b c u4 hi
  refine ⟨g1, _, u1, u2, u3, u4, _, X, Z, Y0, Y1, Y2, Y3, V, ⟨J2, ?_, ?_, ?_, ?_⟩, ?_, ?_, ?_, ?_, ?_, ?_⟩
  · exact iF_fr F1 (co _ (by decide) (by decide) (by decide)) (mo _ (by decide) (by decide) (by decide) (by decide) (by decide) (by decide) (by decide)) (mo _ (by decide) (by decide) (by decide) (by decide) (by decide) (by decide) (by decide)) (mo _ (by decide) (by decide) (by decide) (by decide) (by decide) (by decide) (by decide))
  · rw [co _ (by decide) (by decide) (by decide), m3 27 (by decide)]
    exact B1
  · rw [co _ (by decide) (by decide) (by decide), m3 19 (by decide)]
    exact ay
  · intro t' ht'
    by_cases htt : t' = 1
    · subst htt
      exact T2
    · refine iT_fr (T1 t' ht') (co _ (by omega) (by omega) (by omega)) (co _ (by omega) (by omega) (by omega)) (fun c hc => by rw [mo _ (by decide) (by decide) (by decide) (by decide) (by decide) (by decide) (by decide)]) ?_ ?_
      · rw [m_vote_52, upd_o _ _ htt]
      · rw [m_vote_53, upd_o _ _ htt]
  · intro c hc
    exact iH_fr (H1 c hc) (by rw [co _ (by decide) (by decide) (by decide)]) (by rw [mo _ (by decide) (by decide) (by decide) (by decide) (by decide) (by decide) (by decide)]) (by rw [mo _ (by decide) (by decide) (by decide) (by decide) (by decide) (by decide) (by decide)]) (by rw [mo _ (by decide) (by decide) (by decide) (by decide) (by decide) (by decide) (by decide)])
  · intro t' c' ht' hc' hne hh
    exact iH_fr (K1 t' c' ht' hc' hne hh) (by rw [co _ (by omega) (by omega) (by omega)]) (by rw [mo _ (by decide) (by decide) (by decide) (by decide) (by decide) (by decide) (by decide)]) (by rw [mo _ (by decide) (by decide) (by decide) (by decide) (by decide) (by decide) (by decide)]) (by rw [mo _ (by decide) (by decide) (by decide) (by decide) (by decide) (by decide) (by decide)])
  · intro q z0 z1 z2 z3 z4
    rw [co q z1 z2 z4, a1 q z0 z1 z2 z3]
  · intro i hi
    rw [co 0 (by decide) (by decide) (by decide), a2 i hi]
  · intro q z0 z1 z2 z3 z4 z5 z6 z7 z8
    rw [mo q z0 z1 z2 z3 z4 z7 z8, a3 q z0 z1 z2 z3 z4 z5 z6]
  · intro i hi hi2
    rw [m3 i hi, a4 i hi hi2]
set_option maxRecDepth 100000 in
set_option maxHeartbeats 4000000 in
theorem tr_2 {n E : Nat} {g u : im_M} (hn : n < 519) (hE : E < 2 ^ 27) (hB : iB n E g u) :
    ∃ g1 g' u1 u2 u3 u4 u' : im_M, x24_r0_r33 g = some (0, g1) ∧ x31_r33_r1 g1 (g1 0 6) = some (0, g') ∧ x96_r37 u 2 0 = some (0, u1) ∧ x96_r37 u1 2 1 = some (0, u2) ∧ x96_r37 u2 2 2 = some (0, u3) ∧ x96_r37 u3 2 3 = some (0, u4) ∧ x98_r37 u4 2 = some (0, u') ∧ iB n (E + 11) g' u' ∧ (∀ c : Nat, c < 4 → iH 2 c g' u') ∧
      (∀ t' c' : Nat, t' < 4 → c' < 4 → t' ≠ 2 → iH t' c' g u → iH t' c' g' u') ∧ (∀ q : Nat, q ≠ 0 → q ≠ 1 → q ≠ 2 → q ≠ 34 → q ≠ 33 → g' q = g q) ∧ (∀ i : Nat, i ≠ 7 → g' 0 i = g 0 i) ∧ (∀ q : Nat, q ≠ 37 → q ≠ 54 → q ≠ 55 → q ≠ 56 → q ≠ 57 → q ≠ 50 → q ≠ 51 → q ≠ 52 → q ≠ 53 → u' q = u q) ∧ (∀ i : Nat, i ≠ 22 → i ≠ 27 → u' 37 i = u 37 i) := by
  obtain ⟨hJ, hF, hb, hy, hT⟩ := hB
  obtain ⟨g1, u1, u2, u3, u4, X, Y0, Y1, Y2, Y3, J1, F1, B1, H1, K1, a1, a2, a3, a4, a5⟩ := hr4_2 hn (by omega) hJ hF hb
  have ay : g1 0 6 = u4 37 19 := by
    rw [a2 6 (by decide), a4 19 (by decide) (by decide)]
    exact hy
  have T1 : ∀ t' : Nat, t' < 4 → iT g1 u4 t' := fun t' ht' => by
    by_cases htt : t' = 2
    · subst htt
      obtain ⟨-, w1, w2⟩ := hT 2 (by decide)
      have e1 : g1 (29 + 2 * 2) = g (29 + 2 * 2) := a1 _ (by decide) (by decide) (by decide) (by decide)
      have e2 : u4 52 = u 52 := a3 _ (by decide) (by decide) (by decide) (by decide) (by decide) (by decide) (by decide)
      have e3 : u4 53 = u 53 := a3 _ (by decide) (by decide) (by decide) (by decide) (by decide) (by decide) (by decide)
      refine ⟨fun c hc => ?_, ?_, ?_⟩
      · obtain ⟨_, _, -, -, -, -, hh⟩ := H1 c hc
        exact hh
      · rw [e1, e2]
        exact w1
      · rw [e1, e3]
        exact w2
    · exact iT_fr (hT t' ht') (a1 _ (by omega) (by omega) (by omega) (by omega)) (a1 _ (by omega) (by omega) (by omega) (by omega)) (fun c hc => a5 t' c hc htt) (by rw [a3 _ (by decide) (by decide) (by decide) (by decide) (by decide) (by decide) (by decide)]) (by rw [a3 _ (by decide) (by decide) (by decide) (by decide) (by decide) (by decide) (by decide)])
  obtain ⟨a, b, c, ha, hb', hc, J2, T2⟩ := dec_st (t := 2) (by decide) (by omega) J1 (T1 2 (by decide)) ay
  obtain ⟨e, he, -, he2⟩ := J1.2.2.1
  have V : x98_r37 u4 2 = some (0, m_vote 2 a b c u4) := x98_eq (t := 2) (by decide) (by omega) he2 ha hb' hc
  have Z : x31_r33_r1 g1 (g1 0 6) = some (0, c_dec 2 (g1 0 6) g1) := e31_2 g1 (g1 0 6)
  have co : ∀ q : Nat, q ≠ 1 → q ≠ 2 → q ≠ 33 → c_dec 2 (g1 0 6) g1 q = g1 q := fun q z1 z2 z3 => c_dec_o 2 (g1 0 6) g1 z1 z2 z3
  have mo : ∀ q : Nat, q ≠ 37 → q ≠ 54 → q ≠ 55 → q ≠ 56 → q ≠ 57 → q ≠ 52 → q ≠ 53 → m_vote 2 a b c u4 q = u4 q := fun q z0 z1 z2 z3 z4 z5 z6 => m_vote_o 2 a b c u4 z0 z1 z2 z3 z4 z5 z6
  have m3 : ∀ i : Nat, i ≠ 22 → m_vote 2 a b c u4 37 i = u4 37 i := fun i hi => m_vote_37 2 a b c u4 hi
  refine ⟨g1, _, u1, u2, u3, u4, _, X, Z, Y0, Y1, Y2, Y3, V, ⟨J2, ?_, ?_, ?_, ?_⟩, ?_, ?_, ?_, ?_, ?_, ?_⟩
  · exact iF_fr F1 (co _ (by decide) (by decide) (by decide)) (mo _ (by decide) (by decide) (by decide) (by decide) (by decide) (by decide) (by decide)) (mo _ (by decide) (by decide) (by decide) (by decide) (by decide) (by decide) (by decide)) (mo _ (by decide) (by decide) (by decide) (by decide) (by decide) (by decide) (by decide))
  · rw [co _ (by decide) (by decide) (by decide), m3 27 (by decide)]
    exact B1
  · rw [co _ (by decide) (by decide) (by decide), m3 19 (by decide)]
    exact ay
  · intro t' ht'
    by_cases htt : t' = 2
    · subst htt
      exact T2
    · refine iT_fr (T1 t' ht') (co _ (by omega) (by omega) (by omega)) (co _ (by omega) (by omega) (by omega)) (fun c hc => by rw [mo _ (by decide) (by decide) (by decide) (by decide) (by decide) (by decide) (by decide)]) ?_ ?_
      · rw [m_vote_52, upd_o _ _ htt]
      · rw [m_vote_53, upd_o _ _ htt]
  · intro c hc
    exact iH_fr (H1 c hc) (by rw [co _ (by decide) (by decide) (by decide)]) (by rw [mo _ (by decide) (by decide) (by decide) (by decide) (by decide) (by decide) (by decide)]) (by rw [mo _ (by decide) (by decide) (by decide) (by decide) (by decide) (by decide) (by decide)]) (by rw [mo _ (by decide) (by decide) (by decide) (by decide) (by decide) (by decide) (by decide)])
  · intro t' c' ht' hc' hne hh
    exact iH_fr (K1 t' c' ht' hc' hne hh) (by rw [co _ (by omega) (by omega) (by omega)]) (by rw [mo _ (by decide) (by decide) (by decide) (by decide) (by decide) (by decide) (by decide)]) (by rw [mo _ (by decide) (by decide) (by decide) (by decide) (by decide) (by decide) (by decide)]) (by rw [mo _ (by decide) (by decide) (by decide) (by decide) (by decide) (by decide) (by decide)])
  · intro q z0 z1 z2 z3 z4
    rw [co q z1 z2 z4, a1 q z0 z1 z2 z3]
  · intro i hi
    rw [co 0 (by decide) (by decide) (by decide), a2 i hi]
  · intro q z0 z1 z2 z3 z4 z5 z6 z7 z8
    rw [mo q z0 z1 z2 z3 z4 z7 z8, a3 q z0 z1 z2 z3 z4 z5 z6]
  · intro i hi hi2
    rw [m3 i hi, a4 i hi hi2]
set_option maxRecDepth 100000 in
set_option maxHeartbeats 4000000 in
theorem tr_3 {n E : Nat} {g u : im_M} (hn : n < 519) (hE : E < 2 ^ 27) (hB : iB n E g u) :
    ∃ g1 g' u1 u2 u3 u4 u' : im_M, x24_r0_r35 g = some (0, g1) ∧ x31_r35_r1 g1 (g1 0 6) = some (0, g') ∧ x96_r37 u 3 0 = some (0, u1) ∧ x96_r37 u1 3 1 = some (0, u2) ∧ x96_r37 u2 3 2 = some (0, u3) ∧ x96_r37 u3 3 3 = some (0, u4) ∧ x98_r37 u4 3 = some (0, u') ∧ iB n (E + 11) g' u' ∧ (∀ c : Nat, c < 4 → iH 3 c g' u') ∧
      (∀ t' c' : Nat, t' < 4 → c' < 4 → t' ≠ 3 → iH t' c' g u → iH t' c' g' u') ∧ (∀ q : Nat, q ≠ 0 → q ≠ 1 → q ≠ 2 → q ≠ 36 → q ≠ 35 → g' q = g q) ∧ (∀ i : Nat, i ≠ 7 → g' 0 i = g 0 i) ∧ (∀ q : Nat, q ≠ 37 → q ≠ 54 → q ≠ 55 → q ≠ 56 → q ≠ 57 → q ≠ 50 → q ≠ 51 → q ≠ 52 → q ≠ 53 → u' q = u q) ∧ (∀ i : Nat, i ≠ 22 → i ≠ 27 → u' 37 i = u 37 i) := by
  obtain ⟨hJ, hF, hb, hy, hT⟩ := hB
  obtain ⟨g1, u1, u2, u3, u4, X, Y0, Y1, Y2, Y3, J1, F1, B1, H1, K1, a1, a2, a3, a4, a5⟩ := hr4_3 hn (by omega) hJ hF hb
  have ay : g1 0 6 = u4 37 19 := by
    rw [a2 6 (by decide), a4 19 (by decide) (by decide)]
    exact hy
  have T1 : ∀ t' : Nat, t' < 4 → iT g1 u4 t' := fun t' ht' => by
    by_cases htt : t' = 3
    · subst htt
      obtain ⟨-, w1, w2⟩ := hT 3 (by decide)
      have e1 : g1 (29 + 2 * 3) = g (29 + 2 * 3) := a1 _ (by decide) (by decide) (by decide) (by decide)
      have e2 : u4 52 = u 52 := a3 _ (by decide) (by decide) (by decide) (by decide) (by decide) (by decide) (by decide)
      have e3 : u4 53 = u 53 := a3 _ (by decide) (by decide) (by decide) (by decide) (by decide) (by decide) (by decide)
      refine ⟨fun c hc => ?_, ?_, ?_⟩
      · obtain ⟨_, _, -, -, -, -, hh⟩ := H1 c hc
        exact hh
      · rw [e1, e2]
        exact w1
      · rw [e1, e3]
        exact w2
    · exact iT_fr (hT t' ht') (a1 _ (by omega) (by omega) (by omega) (by omega)) (a1 _ (by omega) (by omega) (by omega) (by omega)) (fun c hc => a5 t' c hc htt) (by rw [a3 _ (by decide) (by decide) (by decide) (by decide) (by decide) (by decide) (by decide)]) (by rw [a3 _ (by decide) (by decide) (by decide) (by decide) (by decide) (by decide) (by decide)])
  obtain ⟨a, b, c, ha, hb', hc, J2, T2⟩ := dec_st (t := 3) (by decide) (by omega) J1 (T1 3 (by decide)) ay
  obtain ⟨e, he, -, he2⟩ := J1.2.2.1
  have V : x98_r37 u4 3 = some (0, m_vote 3 a b c u4) := x98_eq (t := 3) (by decide) (by omega) he2 ha hb' hc
  have Z : x31_r35_r1 g1 (g1 0 6) = some (0, c_dec 3 (g1 0 6) g1) := e31_3 g1 (g1 0 6)
  have co : ∀ q : Nat, q ≠ 1 → q ≠ 2 → q ≠ 35 → c_dec 3 (g1 0 6) g1 q = g1 q := fun q z1 z2 z3 => c_dec_o 3 (g1 0 6) g1 z1 z2 z3
  have mo : ∀ q : Nat, q ≠ 37 → q ≠ 54 → q ≠ 55 → q ≠ 56 → q ≠ 57 → q ≠ 52 → q ≠ 53 → m_vote 3 a b c u4 q = u4 q := fun q z0 z1 z2 z3 z4 z5 z6 => m_vote_o 3 a b c u4 z0 z1 z2 z3 z4 z5 z6
  have m3 : ∀ i : Nat, i ≠ 22 → m_vote 3 a b c u4 37 i = u4 37 i := fun i hi => m_vote_37 3 a b c u4 hi
  refine ⟨g1, _, u1, u2, u3, u4, _, X, Z, Y0, Y1, Y2, Y3, V, ⟨J2, ?_, ?_, ?_, ?_⟩, ?_, ?_, ?_, ?_, ?_, ?_⟩
  · exact iF_fr F1 (co _ (by decide) (by decide) (by decide)) (mo _ (by decide) (by decide) (by decide) (by decide) (by decide) (by decide) (by decide)) (mo _ (by decide) (by decide) (by decide) (by decide) (by decide) (by decide) (by decide)) (mo _ (by decide) (by decide) (by decide) (by decide) (by decide) (by decide) (by decide))
  · rw [co _ (by decide) (by decide) (by decide), m3 27 (by decide)]
    exact B1
  · rw [co _ (by decide) (by decide) (by decide), m3 19 (by decide)]
    exact ay
  · intro t' ht'
    by_cases htt : t' = 3
    · subst htt
      exact T2
    · refine iT_fr (T1 t' ht') (co _ (by omega) (by omega) (by omega)) (co _ (by omega) (by omega) (by omega)) (fun c hc => by rw [mo _ (by decide) (by decide) (by decide) (by decide) (by decide) (by decide) (by decide)]) ?_ ?_
      · rw [m_vote_52, upd_o _ _ htt]
      · rw [m_vote_53, upd_o _ _ htt]
  · intro c hc
    exact iH_fr (H1 c hc) (by rw [co _ (by decide) (by decide) (by decide)]) (by rw [mo _ (by decide) (by decide) (by decide) (by decide) (by decide) (by decide) (by decide)]) (by rw [mo _ (by decide) (by decide) (by decide) (by decide) (by decide) (by decide) (by decide)]) (by rw [mo _ (by decide) (by decide) (by decide) (by decide) (by decide) (by decide) (by decide)])
  · intro t' c' ht' hc' hne hh
    exact iH_fr (K1 t' c' ht' hc' hne hh) (by rw [co _ (by omega) (by omega) (by omega)]) (by rw [mo _ (by decide) (by decide) (by decide) (by decide) (by decide) (by decide) (by decide)]) (by rw [mo _ (by decide) (by decide) (by decide) (by decide) (by decide) (by decide) (by decide)]) (by rw [mo _ (by decide) (by decide) (by decide) (by decide) (by decide) (by decide) (by decide)])
  · intro q z0 z1 z2 z3 z4
    rw [co q z1 z2 z4, a1 q z0 z1 z2 z3]
  · intro i hi
    rw [co 0 (by decide) (by decide) (by decide), a2 i hi]
  · intro q z0 z1 z2 z3 z4 z5 z6 z7 z8
    rw [mo q z0 z1 z2 z3 z4 z7 z8, a3 q z0 z1 z2 z3 z4 z5 z6]
  · intro i hi hi2
    rw [m3 i hi, a4 i hi hi2]
