/-! A channel's look in a tick: runs and relation together. -/
theorem m_look_m (c p n d : Nat) (l : Int32) (u : im_M) {m : Nat} (h : m ≠ n) : m_look c p n d l u 42 m = u 42 m ∧ m_look c p n d l u 43 m = u 43 m ∧ m_look c p n d l u 44 m = u 44 m := by
  rw [m_look_42, m_look_43, m_look_44]
  exact ⟨upd_o _ _ h, upd_o _ _ h, upd_o _ _ h⟩
theorem iZ_m {n m d c p k : Nat} {l : Int32} {u : im_M} (h : m ≠ n) (hz : iZ m u k) : iZ m (m_look c p n d l u) k := by
  obtain ⟨e1, e2, e3⟩ := m_look_m c p n d l u h
  unfold iZ
  rw [e1, e2, e3]
  exact hz
set_option maxHeartbeats 4000000 in
theorem ch_st {n d E c : Nat} {g u : im_M} (X : im_M → Int32 → Option (Int32 × im_M)) (hX : ∀ (g : im_M) (d : Int32) (x : Nat), x < 4096 → g (10 + 5 * c) 0 = Int32.ofNat x → X g d = some (0, c_look c g d)) (hc : c < 4) (hd : 1 ≤ d) (hd2 : d ≤ 8) (hn : n < 519) (hE : E < 2 ^ 28) (hJ : iJ (n + 1) E g u) (h00 : g 0 0 = Int32.ofNat d) (hu0 : u 37 0 = Int32.ofNat d)
    (hC : iC n d g u c) (hz : ∀ p : Nat, p < 3 → iZ (n + 1) u (3 * c + p)) :
    ∃ g' u1 u2 u' : im_M, X g (g 0 0) = some (0, g') ∧ x91_r37 u (Int32.ofNat c) 0 = some (0, u1) ∧ x91_r37 u1 (Int32.ofNat c) 1 = some (0, u2) ∧ x91_r37 u2 (Int32.ofNat c) 2 = some (0, u') ∧ iJ (n + 1) (E + 6) g' u' ∧ iC (n + 1) d g' u' c ∧
      (∀ m c' : Nat, c' < 4 → c' ≠ c → m ≤ n + 1 → iC m d g u c' → iC m d g' u' c') ∧ (∀ k : Nat, k < 12 → (k < 3 * c ∨ 3 * c + 3 ≤ k) → iZ (n + 1) u k → iZ (n + 1) u' k) ∧ (∀ m k : Nat, m ≠ n + 1 → iZ m u k → iZ m u' k) ∧
      (∀ q : Nat, q ≠ 1 → q ≠ 2 → (q < 9 ∨ 28 < q) → g' q = g q) ∧ (∀ q : Nat, (q < 37 ∨ 44 < q) → q ≠ 54 → q ≠ 55 → q ≠ 56 → q ≠ 57 → u' q = u q) ∧ (∀ i : Nat, i ≠ 22 → u' 37 i = u 37 i) := by
  obtain ⟨x, y, hx, hy, gx, ux, uy, J0, J1, J2, C2⟩ := chan_st hc hd hd2 hn hE hJ hC hz
  obtain ⟨e, he, -, he2⟩ := hJ.2.2.1
  obtain ⟨e0, he0, -, he02⟩ := J0.2.2.1
  obtain ⟨e1, he1, -, he12⟩ := J1.2.2.1
  have Y0 : x91_r37 u (Int32.ofNat c) 0 = some (0, _) := x91_eq (p := 0) hc (by decide) hx hy ux uy hd hd2 hu0 hJ.2.1 (by omega) (by omega) he2
  have a38 : m_look c 0 (n + 1) d (limv 0 x y) u 38 = u 38 := m_look_38 _ _ _ _ _ _
  have a37 : m_look c 0 (n + 1) d (limv 0 x y) u 37 0 = Int32.ofNat d := (m_look_37 _ _ _ _ _ _ (by decide)).trans hu0
  have Y1 : x91_r37 (m_look c 0 (n + 1) d (limv 0 x y) u) (Int32.ofNat c) 1 = some (0, _) := x91_eq (p := 1) hc (by decide) hx hy (by rw [a38]; exact ux) (by rw [a38]; exact uy) hd hd2 a37 J0.2.1 (by omega) (by omega) he02
  have b38 : m_look c 1 (n + 1) d (limv 1 x y) (m_look c 0 (n + 1) d (limv 0 x y) u) 38 = u 38 := (m_look_38 _ _ _ _ _ _).trans a38
  have b37 : m_look c 1 (n + 1) d (limv 1 x y) (m_look c 0 (n + 1) d (limv 0 x y) u) 37 0 = Int32.ofNat d := (m_look_37 _ _ _ _ _ _ (by decide)).trans a37
  have Y2 : x91_r37 (m_look c 1 (n + 1) d (limv 1 x y) (m_look c 0 (n + 1) d (limv 0 x y) u)) (Int32.ofNat c) 2 = some (0, _) := x91_eq (p := 2) hc (by decide) hx hy (by rw [b38]; exact ux) (by rw [b38]; exact uy) hd hd2 b37 J1.2.1 (by omega) (by omega) he12
  have Z : X g (g 0 0) = some (0, c_look c g (Int32.ofNat d)) := by
    rw [h00]
    exact hX g _ x hx gx
  refine ⟨_, _, _, _, Z, Y0, Y1, Y2, J2, C2, ?_, ?_, ?_, ?_, ?_, ?_⟩
  · intro m c' hc' hne hm h
    have h1 := iC_lane (p := 0) (Int32.ofNat d) (limv 0 x y) h hm (by decide) hc hc' hne
    have h2 := iC_lane (p := 1) (Int32.ofNat d) (limv 1 x y) h1 hm (by decide) hc hc' hne
    have h3 := iC_lane (p := 2) (Int32.ofNat d) (limv 2 x y) h2 hm (by decide) hc hc' hne
    exact iC_fr h3 (im_w_o _ _ _ (by omega)) (im_w_o _ _ _ (by omega)) (im_w_o _ _ _ (by omega)) (im_w_o _ _ _ (by omega)) (im_w_o _ _ _ (by omega)) rfl rfl rfl rfl rfl rfl rfl
  · intro k hk hk2 h
    exact iZ_look (iZ_look (iZ_look h hk hc (by decide) (by omega)) hk hc (by decide) (by omega)) hk hc (by decide) (by omega)
  · intro m k hm h
    exact iZ_m hm (iZ_m hm (iZ_m hm h))
  · intro q z1 z2 z3
    exact c_look_o c g _ z1 z2 (by omega) (by omega) (by omega) (by omega)
  · intro q z z4 z5 z6 z7
    show m_ch c (n + 1) d x y u q = u q
    unfold m_ch
    rw [m_look_q _ _ _ _ _ _ (by omega) z4 z5 z6 z7 (by omega) (by omega) (by omega) (by omega) (by omega) (by omega), m_look_q _ _ _ _ _ _ (by omega) z4 z5 z6 z7 (by omega) (by omega) (by omega) (by omega) (by omega) (by omega), m_look_q _ _ _ _ _ _ (by omega) z4 z5 z6 z7 (by omega) (by omega) (by omega) (by omega) (by omega) (by omega)]
  · intro i hi
    show m_ch c (n + 1) d x y u 37 i = u 37 i
    unfold m_ch
    rw [m_look_37 _ _ _ _ _ _ hi, m_look_37 _ _ _ _ _ _ hi, m_look_37 _ _ _ _ _ _ hi]
