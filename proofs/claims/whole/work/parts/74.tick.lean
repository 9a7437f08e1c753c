/-! The relation, and the tick that keeps it (printed by wip/gen/rel11.py) -/
/-- the relation behind N calls -/
def iR (N : Nat) (g u : im_M) : Prop := ∃ n d : Nat, n ≤ N ∧ 1 ≤ d ∧ d ≤ 8 ∧ g 0 0 = Int32.ofNat d ∧ u 37 0 = Int32.ofNat d ∧ iJ n (80 * N) g u ∧ (g 0 6 = (-1 : Int32) ∨ ∃ c : Nat, c < 4 ∧ g 0 6 = Int32.ofNat c) ∧ g 0 6 = u 37 19 ∧ g 0 7 = u 37 27 ∧ g 8 3 = u 37 28 ∧ g 8 4 = u 37 29 ∧ iX g u ∧ (∀ c : Nat, c < 4 → iC n d g u c) ∧ (∀ m k : Nat, n < m → m < 520 → k < 12 → iZ m u k) ∧ (∀ t : Nat, t < 4 → iT g u t) ∧ iF n g u ∧ (∀ c : Nat, c < 4 → ∀ t : Nat, t < 4 → iQ1 g u c t)
theorem iQ1_fr {g u g' u' : im_M} {c t : Nat} (h : iQ1 g u c t) (a1 : g' 7 = g 7) (b1 : u' 48 = u 48) (b2 : u' 49 = u 49) : iQ1 g' u' c t := by
  unfold iQ1
  rw [a1, b1, b2]
  exact h
theorem iZ_fr {m k : Nat} {u u' : im_M} (h : iZ m u k) (b1 : u' 42 = u 42) (b2 : u' 43 = u 43) (b3 : u' 44 = u 44) : iZ m u' k := by
  unfold iZ
  rw [b1, b2, b3]
  exact h
set_option maxRecDepth 100000 in
set_option maxHeartbeats 4000000 in
theorem t10 {g g1 g2 g3 g4 g5 g6 g7 g8 g9 g10 g11 g12 : im_M} (h1 : x11_r9_r1 (im_w g 1 1 ((g 1 1) + (1 : Int32))) (g 0 0) = some (0, g1)) (h2 : x11_r14_r1 g1 (g1 0 0) = some (0, g2)) (h3 : x11_r19_r1 g2 (g2 0 0) = some (0, g3)) (h4 : x11_r24_r1 g3 (g3 0 0) = some (0, g4)) (h5 : x24_r0_r29 g4 = some (0, g5)) (h6 : x31_r29_r1 g5 (g5 0 6) = some (0, g6)) (h7 : x24_r0_r31 g6 = some (0, g7)) (h8 : x31_r31_r1 g7 (g7 0 6) = some (0, g8)) (h9 : x24_r0_r33 g8 = some (0, g9)) (h10 : x31_r33_r1 g9 (g9 0 6) = some (0, g10)) (h11 : x24_r0_r35 g10 = some (0, g11)) (h12 : x31_r35_r1 g11 (g11 0 6) = some (0, g12)) : x10_r0 g = (bif Op.if_icmp.holds .eq (g12 8 0) (-1 : Int32) then (x10_r0_1 g12 (g 1 2)) else (bif Op.ifCond.holds .eq (g12 8 2) then (x10_r0_1 g12 (g 1 2)) else (Option.bind (x34_r0 g12) (fun q13 => x10_r0_1 q13.2 (g 1 2))))) := by
  unfold x10_r0
  exact (ob h1).trans ((ob h2).trans ((ob h3).trans ((ob h4).trans ((ob h5).trans ((ob h6).trans ((ob h7).trans ((ob h8).trans ((ob h9).trans ((ob h10).trans ((ob h11).trans ((ob h12).trans (rfl))))))))))))
set_option maxRecDepth 100000 in
set_option maxHeartbeats 4000000 in
theorem t90 {u u1 u2 u3 u4 u5 u6 u7 u8 u9 u10 u11 u12 u13 u14 u15 u16 u17 u18 u19 u20 u21 u22 u23 u24 u25 u26 u27 u28 u29 u30 u31 u32 : im_M} (h1 : x91_r37 (im_w (im_w u 37 1 (0 : Int32)) 37 2 ((u 37 2) + (1 : Int32))) 0 0 = some (0, u1)) (h2 : x91_r37 u1 0 1 = some (0, u2)) (h3 : x91_r37 u2 0 2 = some (0, u3)) (h4 : x91_r37 u3 1 0 = some (0, u4)) (h5 : x91_r37 u4 1 1 = some (0, u5)) (h6 : x91_r37 u5 1 2 = some (0, u6)) (h7 : x91_r37 u6 2 0 = some (0, u7)) (h8 : x91_r37 u7 2 1 = some (0, u8)) (h9 : x91_r37 u8 2 2 = some (0, u9)) (h10 : x91_r37 u9 3 0 = some (0, u10)) (h11 : x91_r37 u10 3 1 = some (0, u11)) (h12 : x91_r37 u11 3 2 = some (0, u12)) (h13 : x96_r37 u12 0 0 = some (0, u13)) (h14 : x96_r37 u13 0 1 = some (0, u14)) (h15 : x96_r37 u14 0 2 = some (0, u15)) (h16 : x96_r37 u15 0 3 = some (0, u16)) (h17 : x98_r37 u16 0 = some (0, u17)) (h18 : x96_r37 u17 1 0 = some (0, u18)) (h19 : x96_r37 u18 1 1 = some (0, u19)) (h20 : x96_r37 u19 1 2 = some (0, u20)) (h21 : x96_r37 u20 1 3 = some (0, u21)) (h22 : x98_r37 u21 1 = some (0, u22)) (h23 : x96_r37 u22 2 0 = some (0, u23)) (h24 : x96_r37 u23 2 1 = some (0, u24)) (h25 : x96_r37 u24 2 2 = some (0, u25)) (h26 : x96_r37 u25 2 3 = some (0, u26)) (h27 : x98_r37 u26 2 = some (0, u27)) (h28 : x96_r37 u27 3 0 = some (0, u28)) (h29 : x96_r37 u28 3 1 = some (0, u29)) (h30 : x96_r37 u29 3 2 = some (0, u30)) (h31 : x96_r37 u30 3 3 = some (0, u31)) (h32 : x98_r37 u31 3 = some (0, u32)) : x90_r37 u = (bif Op.ifCond.holds .lt (u32 37 20) then (x90_r37_1 u32 (u 37 22)) else (bif Op.ifCond.holds .eq (u32 37 21) then (x90_r37_1 u32 (u 37 22)) else (Option.bind (x99_r37 u32) (fun q33 => x90_r37_1 q33.2 (u 37 22))))) := by
  unfold x90_r37
  exact (ob h1).trans ((ob h2).trans ((ob h3).trans ((ob h4).trans ((ob h5).trans ((ob h6).trans ((ob h7).trans ((ob h8).trans ((ob h9).trans ((ob h10).trans ((ob h11).trans ((ob h12).trans ((ob h13).trans ((ob h14).trans ((ob h15).trans ((ob h16).trans ((ob h17).trans ((ob h18).trans ((ob h19).trans ((ob h20).trans ((ob h21).trans ((ob h22).trans ((ob h23).trans ((ob h24).trans ((ob h25).trans ((ob h26).trans ((ob h27).trans ((ob h28).trans ((ob h29).trans ((ob h30).trans ((ob h31).trans ((ob h32).trans (rfl))))))))))))))))))))))))))))))))
set_option maxRecDepth 100000 in
set_option maxHeartbeats 4000000 in
theorem tick_st {N : Nat} {g u : im_M} (hN : N < 512) (h : iR N g u) : ∃ (k : Int32) (g' u' : im_M), x10_r0 g = some (k, g') ∧ x90_r37 u = some (k, u') ∧ iR (N + 1) g' u' := by
  obtain ⟨n, d, hn, hd, hd2, h00, hu0, hJ, hby, hy, hb7, hp, hf, hX, hC, hZ, hT, hF, hQ⟩ := h
  obtain ⟨ga, ega⟩ : ∃ ga : im_M, ga = im_w g 1 1 ((g 1 1) + (1 : Int32)) := ⟨_, rfl⟩
  obtain ⟨ua, eua⟩ : ∃ ua : im_M, ua = im_w (im_w u 37 1 (0 : Int32)) 37 2 ((u 37 2) + (1 : Int32)) := ⟨_, rfl⟩
  have gao : ∀ q : Nat, q ≠ 1 → ga q = g q := fun q hq => by rw [ega, im_w_o _ _ _ hq]
  have uao : ∀ q : Nat, q ≠ 37 → ua q = u q := fun q hq => by rw [eua, im_w_o _ _ _ hq, im_w_o _ _ _ hq]
  have ua7 : ∀ i : Nat, i ≠ 1 → i ≠ 2 → ua 37 i = u 37 i := fun i h1 h2 => by rw [eua, im_w_k _ _ _ h2, im_w_k _ _ _ h1]
  have Ja : iJ (n + 1) (80 * N) ga ua := by
    obtain ⟨j1, j2, ⟨e, he, j3, j4⟩, j5⟩ := hJ
    refine ⟨?_, ?_, ⟨e, he, ?_, ?_⟩, fun j hj => ?_⟩
    · rw [ega, im_w_s, j1, is_n1]
    · rw [eua, im_w_s, j2, is_n1]
    · rw [ega, im_w_k _ _ _ (by decide)]
      exact j3
    · rw [ua7 22 (by decide) (by decide)]
      exact j4
    · rw [gao 2 (by decide), uao 54 (by decide), uao 55 (by decide), uao 56 (by decide), uao 57 (by decide)]
      exact j5 j hj
  have C0 : ∀ c : Nat, c < 4 → iC n d ga ua c := fun c hc => iC_fr (hC c hc) (gao _ (by omega)) (gao _ (by omega)) (gao _ (by omega)) (gao _ (by omega)) (gao _ (by omega)) (uao _ (by decide)) (uao _ (by decide)) (uao _ (by decide)) (uao _ (by decide)) (uao _ (by decide)) (uao _ (by decide)) (uao _ (by decide))
  have Z0 : ∀ m k : Nat, n < m → m < 520 → k < 12 → iZ m ua k := fun m k h1 h2 h3 => iZ_fr (hZ m k h1 h2 h3) (uao _ (by decide)) (uao _ (by decide)) (uao _ (by decide))
  have d0 : ga 0 0 = Int32.ofNat d := by
    rw [gao 0 (by decide)]
    exact h00
  have e0 : ua 37 0 = Int32.ofNat d := (ua7 0 (by decide) (by decide)).trans hu0
  obtain ⟨g1, v1, w1, u1, X1, Y10, Y11, Y12, J1, D1, K1, zz1, zm1, fg1, fu1, fi1⟩ := ch_st (c := 0) x11_r9_r1 (fun g d x hx hg => e11_0 g d hx hg) (by decide) hd hd2 (by omega) (by omega) Ja d0 e0 (C0 0 (by decide)) (fun p hp => Z0 (n + 1) _ (by omega) (by omega) (by omega))
  have z1 : ∀ k : Nat, k < 12 → 3 ≤ k → iZ (n + 1) u1 k := fun k hk hk2 => zz1 k hk (Or.inr (by omega)) (Z0 (n + 1) k (by omega) (by omega) hk)
  have d1 : g1 0 0 = Int32.ofNat d := by
    rw [fg1 0 (by decide) (by decide) (Or.inl (by decide))]
    exact d0
  have e1 : u1 37 0 = Int32.ofNat d := (fi1 0 (by decide)).trans e0
  obtain ⟨g2, v2, w2, u2, X2, Y20, Y21, Y22, J2, D2, K2, zz2, zm2, fg2, fu2, fi2⟩ := ch_st (c := 1) x11_r14_r1 (fun g d x hx hg => e11_1 g d hx hg) (by decide) hd hd2 (by omega) (by omega) J1 d1 e1 (K1 n 1 (by decide) (by decide) (by omega) (C0 1 (by decide))) (fun p hp => z1 _ (by omega) (by omega))
  have z2 : ∀ k : Nat, k < 12 → 6 ≤ k → iZ (n + 1) u2 k := fun k hk hk2 => zz2 k hk (Or.inr (by omega)) (z1 k hk (by omega))
  have d2 : g2 0 0 = Int32.ofNat d := by
    rw [fg2 0 (by decide) (by decide) (Or.inl (by decide))]
    exact d1
  have e2 : u2 37 0 = Int32.ofNat d := (fi2 0 (by decide)).trans e1
  obtain ⟨g3, v3, w3, u3, X3, Y30, Y31, Y32, J3, D3, K3, zz3, zm3, fg3, fu3, fi3⟩ := ch_st (c := 2) x11_r19_r1 (fun g d x hx hg => e11_2 g d hx hg) (by decide) hd hd2 (by omega) (by omega) J2 d2 e2 (K2 n 2 (by decide) (by decide) (by omega) (K1 n 2 (by decide) (by decide) (by omega) (C0 2 (by decide)))) (fun p hp => z2 _ (by omega) (by omega))
  have z3 : ∀ k : Nat, k < 12 → 9 ≤ k → iZ (n + 1) u3 k := fun k hk hk2 => zz3 k hk (Or.inr (by omega)) (z2 k hk (by omega))
  have d3 : g3 0 0 = Int32.ofNat d := by
    rw [fg3 0 (by decide) (by decide) (Or.inl (by decide))]
    exact d2
  have e3 : u3 37 0 = Int32.ofNat d := (fi3 0 (by decide)).trans e2
  obtain ⟨g4, v4, w4, u4, X4, Y40, Y41, Y42, J4, D4, K4, zz4, zm4, fg4, fu4, fi4⟩ := ch_st (c := 3) x11_r24_r1 (fun g d x hx hg => e11_3 g d hx hg) (by decide) hd hd2 (by omega) (by omega) J3 d3 e3 (K3 n 3 (by decide) (by decide) (by omega) (K2 n 3 (by decide) (by decide) (by omega) (K1 n 3 (by decide) (by decide) (by omega) (C0 3 (by decide))))) (fun p hp => z3 _ (by omega) (by omega))
  have z4 : ∀ k : Nat, k < 12 → 12 ≤ k → iZ (n + 1) u4 k := fun k hk hk2 => zz4 k hk (Or.inr (by omega)) (z3 k hk (by omega))
  have d4 : g4 0 0 = Int32.ofNat d := by
    rw [fg4 0 (by decide) (by decide) (Or.inl (by decide))]
    exact d3
  have e4 : u4 37 0 = Int32.ofNat d := (fi4 0 (by decide)).trans e3
  have CA : ∀ c : Nat, c < 4 → iC (n + 1) d g4 u4 c := fun c hc => by
    have h4 : c = 0 ∨ c = 1 ∨ c = 2 ∨ c = 3 := by omega
    rcases h4 with h4 | h4 | h4 | h4 <;> subst h4
    · exact (K4 (n + 1) 0 (by decide) (by decide) (by omega) (K3 (n + 1) 0 (by decide) (by decide) (by omega) (K2 (n + 1) 0 (by decide) (by decide) (by omega) D1)))
    · exact (K4 (n + 1) 1 (by decide) (by decide) (by omega) (K3 (n + 1) 1 (by decide) (by decide) (by omega) D2))
    · exact (K4 (n + 1) 2 (by decide) (by decide) (by omega) D3)
    · exact D4
  have ZA : ∀ m k : Nat, n + 1 < m → m < 520 → k < 12 → iZ m u4 k := fun m k h1 h2 h3 => zm4 m k (by omega) (zm3 m k (by omega) (zm2 m k (by omega) (zm1 m k (by omega) (Z0 m k (by omega) h2 h3))))
  have gA : ∀ q : Nat, q ≠ 1 → q ≠ 2 → (q < 9 ∨ 28 < q) → g4 q = g q := fun q h1 h2 h3 => by rw [fg4 q h1 h2 h3, fg3 q h1 h2 h3, fg2 q h1 h2 h3, fg1 q h1 h2 h3, gao q h1]
  have uA : ∀ q : Nat, q ≠ 37 → (q < 37 ∨ 44 < q) → q ≠ 54 → q ≠ 55 → q ≠ 56 → q ≠ 57 → u4 q = u q := fun q h0 h1 h2 h3 h4 h5 => by rw [fu4 q h1 h2 h3 h4 h5, fu3 q h1 h2 h3 h4 h5, fu2 q h1 h2 h3 h4 h5, fu1 q h1 h2 h3 h4 h5, uao q h0]
  have uB : ∀ i : Nat, i ≠ 22 → i ≠ 1 → i ≠ 2 → u4 37 i = u 37 i := fun i h1 h2 h3 => by rw [fi4 i h1, fi3 i h1, fi2 i h1, fi1 i h1, ua7 i h2 h3]
  have B4 : iB n (80 * N + 6 + 6 + 6 + 6) g4 u4 := by
    refine ⟨J4, ?_, ?_, ?_, ?_⟩
    · exact iF_fr hF (gA _ (by decide) (by decide) (Or.inl (by decide))) (uA _ (by decide) (Or.inr (by decide)) (by decide) (by decide) (by decide) (by decide)) (uA _ (by decide) (Or.inr (by decide)) (by decide) (by decide) (by decide) (by decide)) (uA _ (by decide) (Or.inr (by decide)) (by decide) (by decide) (by decide) (by decide))
    · rw [gA _ (by decide) (by decide) (Or.inl (by decide)), uB 27 (by decide) (by decide) (by decide)]
      exact hb7
    · rw [gA _ (by decide) (by decide) (Or.inl (by decide)), uB 19 (by decide) (by decide) (by decide)]
      exact hy
    · intro t ht
      exact iT_fr (hT t ht) (gA _ (by omega) (by omega) (Or.inr (by omega))) (gA _ (by omega) (by omega) (Or.inr (by omega))) (fun c hc => by rw [uA _ (by decide) (Or.inr (by decide)) (by decide) (by decide) (by decide) (by decide)]) (by rw [uA _ (by decide) (Or.inr (by decide)) (by decide) (by decide) (by decide) (by decide)]) (by rw [uA _ (by decide) (Or.inr (by decide)) (by decide) (by decide) (by decide) (by decide)])
  obtain ⟨p5, g5, r5, s5, t5, y5, u5, P5, Q5, R50, R51, R52, R53, V5, B5, H5, M5, ng5, n05, nu5, n75⟩ := tr_0 (by omega) (by omega) B4
  obtain ⟨p6, g6, r6, s6, t6, y6, u6, P6, Q6, R60, R61, R62, R63, V6, B6, H6, M6, ng6, n06, nu6, n76⟩ := tr_1 (by omega) (by omega) B5
  obtain ⟨p7, g7, r7, s7, t7, y7, u7, P7, Q7, R70, R71, R72, R73, V7, B7, H7, M7, ng7, n07, nu7, n77⟩ := tr_2 (by omega) (by omega) B6
  obtain ⟨p8, g8, r8, s8, t8, y8, u8, P8, Q8, R80, R81, R82, R83, V8, B8, H8, M8, ng8, n08, nu8, n78⟩ := tr_3 (by omega) (by omega) B7
  have HA : ∀ t c : Nat, t < 4 → c < 4 → iH t c g8 u8 := fun t c ht hc => by
    have h4 : t = 0 ∨ t = 1 ∨ t = 2 ∨ t = 3 := by omega
    rcases h4 with h4 | h4 | h4 | h4 <;> subst h4
    · exact M8 0 c ht hc (by decide) (M7 0 c ht hc (by decide) (M6 0 c ht hc (by decide) (H5 c hc)))
    · exact M8 1 c ht hc (by decide) (M7 1 c ht hc (by decide) (H6 c hc))
    · exact M8 2 c ht hc (by decide) (H7 c hc)
    · exact H8 c hc
  have gC : ∀ q : Nat, q ≠ 0 → q ≠ 1 → q ≠ 2 → (q < 29 ∨ 36 < q) → g8 q = g4 q := fun q h0 h1 h2 h3 => by rw [ng8 q h0 h1 h2 (by omega) (by omega), ng7 q h0 h1 h2 (by omega) (by omega), ng6 q h0 h1 h2 (by omega) (by omega), ng5 q h0 h1 h2 (by omega) (by omega)]
  have g0C : ∀ i : Nat, i ≠ 7 → g8 0 i = g4 0 i := fun i hi => by rw [n08 i hi, n07 i hi, n06 i hi, n05 i hi]
  have uC : ∀ q : Nat, q ≠ 37 → (q < 50 ∨ 57 < q) → u8 q = u4 q := fun q h0 h1 => by rw [nu8 q h0 (by omega) (by omega) (by omega) (by omega) (by omega) (by omega) (by omega) (by omega), nu7 q h0 (by omega) (by omega) (by omega) (by omega) (by omega) (by omega) (by omega) (by omega), nu6 q h0 (by omega) (by omega) (by omega) (by omega) (by omega) (by omega) (by omega) (by omega), nu5 q h0 (by omega) (by omega) (by omega) (by omega) (by omega) (by omega) (by omega) (by omega)]
  have u7C : ∀ i : Nat, i ≠ 22 → i ≠ 27 → u8 37 i = u4 37 i := fun i h1 h2 => by rw [n78 i h1 h2, n77 i h1 h2, n76 i h1 h2, n75 i h1 h2]
  have X8 : iX g8 u8 := by
    refine iX_fr hX ?_ ?_ ?_
    · rw [gC 8 (by decide) (by decide) (by decide) (Or.inl (by decide)), gA 8 (by decide) (by decide) (Or.inl (by decide))]
    · rw [u7C 20 (by decide) (by decide), uB 20 (by decide) (by decide) (by decide)]
    · rw [u7C 21 (by decide) (by decide), uB 21 (by decide) (by decide) (by decide)]
  have e8 : g8 8 = g 8 := by rw [gC 8 (by decide) (by decide) (by decide) (Or.inl (by decide)), gA 8 (by decide) (by decide) (Or.inl (by decide))]
  have p8 : g8 8 3 = u8 37 28 := by
    rw [e8, u7C 28 (by decide) (by decide), uB 28 (by decide) (by decide) (by decide)]
    exact hp
  have f8 : g8 8 4 = u8 37 29 := by
    rw [e8, u7C 29 (by decide) (by decide), uB 29 (by decide) (by decide) (by decide)]
    exact hf
  obtain ⟨g9, u9, N1, N2, B9, X9, p9, f9, og, ou, o7⟩ := en_st (by omega) B8 X8 p8 f8 HA
  obtain ⟨J9, F9, b9, y9, T9⟩ := B9
  have C9 : ∀ c : Nat, c < 4 → iC (n + 1) d g9 u9 c := fun c hc => by
    have k : ∀ q : Nat, 9 ≤ q → q ≤ 28 → g9 q = g4 q := fun q h1 h2 => by rw [og q (by omega) (by omega) (by omega), gC q (by omega) (by omega) (by omega) (Or.inl (by omega))]
    have l : ∀ q : Nat, 38 ≤ q → q ≤ 44 → u9 q = u4 q := fun q h1 h2 => by rw [ou q (by omega) (by omega) (by omega) (by omega) (by omega), uC q (by omega) (Or.inl (by omega))]
    exact iC_fr (CA c hc) (k _ (by omega) (by omega)) (k _ (by omega) (by omega)) (k _ (by omega) (by omega)) (k _ (by omega) (by omega)) (k _ (by omega) (by omega)) (l _ (by decide) (by decide)) (l _ (by decide) (by decide)) (l _ (by decide) (by decide)) (l _ (by decide) (by decide)) (l _ (by decide) (by decide)) (l _ (by decide) (by decide)) (l _ (by decide) (by decide))
  have u90 : u9 37 0 = Int32.ofNat d := by
    rw [o7 0 (by decide) (by decide) (by decide) (by decide) (by decide), u7C 0 (by decide) (by decide), uB 0 (by decide) (by decide) (by decide)]
    exact hu0
  have q7 : g9 7 = g 7 := by rw [og 7 (by decide) (by decide) (by decide), gC 7 (by decide) (by decide) (by decide) (Or.inl (by decide)), gA 7 (by decide) (by decide) (Or.inl (by decide))]
  have q48 : u9 48 = u 48 := by rw [ou 48 (by decide) (by decide) (by decide) (by decide) (by decide), uC 48 (by decide) (Or.inl (by decide)), uA 48 (by decide) (Or.inr (by decide)) (by decide) (by decide) (by decide) (by decide)]
  have q49 : u9 49 = u 49 := by rw [ou 49 (by decide) (by decide) (by decide) (by decide) (by decide), uC 49 (by decide) (Or.inl (by decide)), uA 49 (by decide) (Or.inr (by decide)) (by decide) (by decide) (by decide) (by decide)]
  obtain ⟨gz, uz, S1, S2, Jz, Cz, Xz, Qz, Fz, sg, s8, su, s7⟩ := sf_all hd hd2 (by omega) ⟨J9, u90, C9, X9, fun c hc t ht => iQ1_fr (hQ c hc t ht) q7 q48 q49⟩
  have run1 : x10_r0 g = some ((gz 1 2) - (g 1 2), gz) := by
    rw [ega] at X1
    refine (t10 X1 X2 X3 X4 P5 Q5 P6 Q6 P7 Q7 P8 Q8).trans ((N1 _).trans ?_)
    unfold x10_r0_1
    exact (ob S1).trans rfl
  have run2 : x90_r37 u = some ((uz 37 22) - (u 37 22), uz) := by
    rw [eua] at Y10
    exact (t90 Y10 Y11 Y12 Y20 Y21 Y22 Y30 Y31 Y32 Y40 Y41 Y42 R50 R51 R52 R53 V5 R60 R61 R62 R63 V6 R70 R71 R72 R73 V7 R80 R81 R82 R83 V8).trans ((N2 _).trans (S2 _))
  have same : (gz 1 2) - (g 1 2) = (uz 37 22) - (u 37 22) := by
    obtain ⟨e, -, i1, i2⟩ := Jz.2.2.1
    obtain ⟨e', -, i3, i4⟩ := hJ.2.2.1
    rw [i1, i2, i3, i4]
  have gZ : ∀ q : Nat, q ≠ 0 → q ≠ 1 → q ≠ 2 → q ≠ 6 → q ≠ 7 → q ≠ 8 → (q < 29 ∨ 36 < q) → gz q = g4 q := fun q h0 h1 h2 h6 h7 h8 h9 => by rw [sg q h6 h7 h8, og q h1 h2 h8, gC q h0 h1 h2 h9]
  have g0Z : ∀ i : Nat, i ≠ 7 → gz 0 i = g 0 i := fun i hi => by rw [sg 0 (by decide) (by decide) (by decide), og 0 (by decide) (by decide) (by decide), g0C i hi, gA 0 (by decide) (by decide) (Or.inl (by decide))]
  have uZ : ∀ q : Nat, 38 ≤ q → q ≤ 44 → uz q = u4 q := fun q h1 h2 => by rw [su q (by omega) (by omega) (by omega) (by omega) (by omega), ou q (by omega) (by omega) (by omega) (by omega) (by omega), uC q (by omega) (Or.inl (by omega))]
  have u7Z : ∀ i : Nat, i ≠ 1 → i ≠ 2 → i ≠ 20 → i ≠ 21 → i ≠ 22 → i ≠ 27 → i ≠ 28 → i ≠ 29 → uz 37 i = u 37 i := fun i h1 h2 h3 h4 h5 h6 h7 h8 => by rw [s7 i h4, o7 i h3 h4 h5 h7 h8, u7C i h5 h6, uB i h5 h1 h2]
  refine ⟨(gz 1 2) - (g 1 2), gz, uz, run1, by rw [same]; exact run2, n + 1, d, by omega, hd, hd2, ?_, ?_, ?_, ?_, ?_, ?_, ?_, ?_, Xz, Cz, ?_, ?_, Fz, Qz⟩
  · rw [g0Z 0 (by decide)]
    exact h00
  · rw [u7Z 0 (by decide) (by decide) (by decide) (by decide) (by decide) (by decide) (by decide) (by decide)]
    exact hu0
  · exact iJ_le Jz (by omega)
  · rw [g0Z 6 (by decide)]
    exact hby
  · rw [g0Z 6 (by decide), u7Z 19 (by decide) (by decide) (by decide) (by decide) (by decide) (by decide) (by decide) (by decide)]
    exact hy
  · rw [sg 0 (by decide) (by decide) (by decide), s7 27 (by decide)]
    exact b9
  · rw [s8 3 (by decide), s7 28 (by decide)]
    exact p9
  · rw [s8 4 (by decide), s7 29 (by decide)]
    exact f9
  · intro m k h1 h2 h3
    exact iZ_fr (ZA m k h1 h2 h3) (uZ _ (by decide) (by decide)) (uZ _ (by decide) (by decide)) (uZ _ (by decide) (by decide))
  · intro t ht
    exact iT_fr (T9 t ht) (sg _ (by omega) (by omega) (by omega)) (sg _ (by omega) (by omega) (by omega)) (fun c hc => by rw [su _ (by decide) (by decide) (by decide) (by decide) (by decide)]) (by rw [su _ (by decide) (by decide) (by decide) (by decide) (by decide)]) (by rw [su _ (by decide) (by decide) (by decide) (by decide) (by decide)])
