/-! Hearing four frames: kept on both sides (printed by wip/gen/rel6.py) -/
theorem c_hr_o (t c : Nat) (gd : Bool) (b : Int32) (g : im_M) {q : Nat} (h0 : q ≠ 0) (h1 : q ≠ 1) (h2 : q ≠ 2) (h3 : q ≠ 30 + 2 * t) : c_hr t c gd b g q = g q := by
  unfold c_hr
  cases gd
  · show c_rec _ _ _ _ q = _
    rw [c_rec_o _ _ _ _ h1 h2, im_w_o _ _ _ h0, im_w_o _ _ _ h3]
  · show im_w g (30 + 2 * t) c b q = _
    rw [im_w_o _ _ _ h3]
theorem c_hr_0 (t c : Nat) (gd : Bool) (b : Int32) (g : im_M) {i : Nat} (h : i ≠ 7) : c_hr t c gd b g 0 i = g 0 i := by
  unfold c_hr
  cases gd
  · show c_rec _ _ _ _ 0 i = _
    rw [c_rec_o _ _ _ _ (by decide) (by decide), im_w_k _ _ _ h, im_w_o _ _ _ (by omega)]
  · show im_w g (30 + 2 * t) c b 0 i = _
    rw [im_w_o _ _ _ (by omega)]
theorem c_hr_i (t c : Nat) (gd : Bool) (b : Int32) (g : im_M) {i : Nat} (h : i ≠ c) : c_hr t c gd b g (30 + 2 * t) i = g (30 + 2 * t) i := by
  unfold c_hr
  cases gd
  · show c_rec _ _ _ _ (30 + 2 * t) i = _
    rw [c_rec_o _ _ _ _ (by omega) (by omega), im_w_o _ _ _ (by omega), im_w_k _ _ _ h]
  · show im_w g (30 + 2 * t) c b (30 + 2 * t) i = _
    rw [im_w_k _ _ _ h]
theorem c_hr_c (t c : Nat) (gd : Bool) (b : Int32) (g : im_M) : c_hr t c gd b g (30 + 2 * t) c = bif gd then b else 7 := by
  unfold c_hr
  cases gd
  · show c_rec _ _ _ _ (30 + 2 * t) c = _
    rw [c_rec_o _ _ _ _ (by omega) (by omega), im_w_o _ _ _ (by omega), im_w_s]
    rfl
  · show im_w g (30 + 2 * t) c b (30 + 2 * t) c = _
    rw [im_w_s]
    rfl
theorem c_hr_7 (t c : Nat) (gd : Bool) (b : Int32) (g : im_M) : c_hr t c gd b g 0 7 = bif gd then g 0 7 else g 0 7 + 1 := by
  unfold c_hr
  cases gd
  · show c_rec _ _ _ _ 0 7 = _
    rw [c_rec_o _ _ _ _ (by decide) (by decide), im_w_s]
    rfl
  · show im_w g (30 + 2 * t) c b 0 7 = _
    rw [im_w_o _ _ _ (by omega)]
    rfl
theorem m_hr_o (t c : Nat) (gd : Bool) (b : Int32) (u : im_M) {q : Nat} (h0 : q ≠ 37) (h1 : q ≠ 54) (h2 : q ≠ 55) (h3 : q ≠ 56) (h4 : q ≠ 57) (h5 : q ≠ 50) (h6 : q ≠ 51) : m_hr t c gd b u q = u q := by
  unfold m_hr
  cases gd
  · show m_note _ _ _ _ q = _
    rw [m_note_o _ _ _ _ h0 h1 h2 h3 h4, im_w_o _ _ _ h0, im_w_o _ _ _ h5, im_w_o _ _ _ h6]
  · show im_w (im_w u 51 (4 * t + c) 1) 50 (4 * t + c) (b &&& 7) q = _
    rw [im_w_o _ _ _ h5, im_w_o _ _ _ h6]
theorem m_hr_37 (t c : Nat) (gd : Bool) (b : Int32) (u : im_M) {i : Nat} (h : i ≠ 22) (h' : i ≠ 27) : m_hr t c gd b u 37 i = u 37 i := by
  unfold m_hr
  cases gd
  · show m_note _ _ _ _ 37 i = _
    rw [m_note_37 _ _ _ _ h, im_w_k _ _ _ h']
    rfl
  · rfl
theorem m_hr_27 (t c : Nat) (gd : Bool) (b : Int32) (u : im_M) : m_hr t c gd b u 37 27 = bif gd then u 37 27 else u 37 27 + 1 := by
  unfold m_hr
  cases gd
  · show m_note _ _ _ _ 37 27 = _
    rw [m_note_37 _ _ _ _ (by decide), im_w_s]
    rfl
  · rfl
theorem m_hr_50 (t c : Nat) (gd : Bool) (b : Int32) (u : im_M) : m_hr t c gd b u 50 = upd (u 50) (4 * t + c) ((bif gd then b else 7) &&& 7) := by
  unfold m_hr
  cases gd
  · have e7 : ((bif false then b else (7 : Int32)) &&& 7) = 7 := by
      show (7 : Int32) &&& 7 = 7
      decide
    rw [e7]
    show m_note _ _ _ _ 50 = _
    rw [m_note_o _ _ _ _ (by decide) (by decide) (by decide) (by decide) (by decide)]
    rfl
  · rfl
theorem m_hr_51 (t c : Nat) (gd : Bool) (b : Int32) (u : im_M) : m_hr t c gd b u 51 = upd (u 51) (4 * t + c) (bi gd) := by
  unfold m_hr
  cases gd
  · show m_note _ _ _ _ 51 = _
    rw [m_note_o _ _ _ _ (by decide) (by decide) (by decide) (by decide) (by decide)]
    rfl
  · rfl
theorem hr_J {n E t c : Nat} {g u : im_M} (gd : Bool) (b : Int32) (hE : E < 2 ^ 30) (hJ : iJ n E g u) : iJ n (E + 1) (c_hr t c gd b g) (m_hr t c gd b u) := by
  unfold c_hr m_hr
  cases gd
  · exact iJ_rec (iJ_fr hJ ((im_w_o _ _ _ (by decide)).trans (im_w_o _ _ _ (by omega))) ((im_w_o _ _ _ (by decide)).trans (im_w_o _ _ _ (by omega))) rfl rfl rfl rfl rfl rfl) hE _ _ _
  · exact iJ_le (iJ_fr hJ (im_w_o _ _ _ (by omega)) (im_w_o _ _ _ (by omega)) rfl rfl rfl rfl rfl rfl) (by omega)
/-- what train t has heard of channel c -/
def iH (t c : Nat) (g u : im_M) : Prop := ∃ (gd : Bool) (b : Nat), b < 256 ∧ u 51 (4 * t + c) = bi gd ∧ u 46 (4 * t + c) = Int32.ofNat b ∧ g (30 + 2 * t) c = (bif gd then Int32.ofNat b else 7) ∧ u 50 (4 * t + c) = (g (30 + 2 * t) c &&& 7)
theorem iH_fr {t c : Nat} {g u g' u' : im_M} (h : iH t c g u) (a1 : g' (30 + 2 * t) c = g (30 + 2 * t) c) (b1 : u' 51 (4 * t + c) = u 51 (4 * t + c)) (b2 : u' 46 (4 * t + c) = u 46 (4 * t + c)) (b3 : u' 50 (4 * t + c) = u 50 (4 * t + c)) : iH t c g' u' := by
  unfold iH
  rw [a1, b1, b2, b3]
  exact h
/-- the links -/
def iF (n : Nat) (g u : im_M) : Prop := ∀ c : Nat, c < 4 → ∀ t : Nat, t < 4 → ∃ h b r : Nat, h < 256 ∧ b < 256 ∧ r < 256 ∧ g 6 (4 * c + t) = Int32.ofNat (h + 256 * b + 65536 * r) ∧ u 45 (4 * t + c) = Int32.ofNat h ∧ u 46 (4 * t + c) = Int32.ofNat b ∧ u 47 (4 * t + c) = Int32.ofNat r ∧ (n = 0 → h = 0 ∧ b = 0 ∧ r = 0)
theorem iF_fr {n : Nat} {g u g' u' : im_M} (h : iF n g u) (a1 : g' 6 = g 6) (b1 : u' 45 = u 45) (b2 : u' 46 = u 46) (b3 : u' 47 = u 47) : iF n g' u' := by
  unfold iF
  rw [a1, b1, b2, b3]
  exact h
/-- one frame -/
theorem hr_st {n E t c : Nat} {g u : im_M} (ht : t < 4) (hc : c < 4) (hn : n < 519) (hE : E < 2 ^ 29) (hJ : iJ (n + 1) E g u) (hF : iF n g u) (hb : g 0 7 = u 37 27) :
    ∃ h b r : Nat, h < 256 ∧ b < 256 ∧ r < 256 ∧ g 6 (4 * c + t) = Int32.ofNat (h + 256 * b + 65536 * r) ∧ x96_r37 u (Int32.ofNat t) (Int32.ofNat c) = some (0, m_hr t c (k_gd n h b r) (Int32.ofNat b) u) ∧
      iJ (n + 1) (E + 1) (c_hr t c (k_gd n h b r) (Int32.ofNat b) g) (m_hr t c (k_gd n h b r) (Int32.ofNat b) u) ∧ iF n (c_hr t c (k_gd n h b r) (Int32.ofNat b) g) (m_hr t c (k_gd n h b r) (Int32.ofNat b) u) ∧
      c_hr t c (k_gd n h b r) (Int32.ofNat b) g 0 7 = m_hr t c (k_gd n h b r) (Int32.ofNat b) u 37 27 ∧ iH t c (c_hr t c (k_gd n h b r) (Int32.ofNat b) g) (m_hr t c (k_gd n h b r) (Int32.ofNat b) u) := by
  obtain ⟨h, b, r, h1, h2, h3, h4, h5, h6, h7, h8⟩ := hF c hc t ht
  obtain ⟨e, he, he1, he2⟩ := hJ.2.2.1
  refine ⟨h, b, r, h1, h2, h3, h4, x96_eq ht hc (by omega) (by omega) he2 hJ.2.1 h1 h2 h3 h5 h6 h7 h8, hr_J _ _ (by omega) hJ, ?_, ?_, ?_⟩
  · exact iF_fr hF (c_hr_o _ _ _ _ _ (by decide) (by decide) (by decide) (by omega)) (m_hr_o _ _ _ _ _ (by decide) (by decide) (by decide) (by decide) (by decide) (by decide) (by decide)) (m_hr_o _ _ _ _ _ (by decide) (by decide) (by decide) (by decide) (by decide) (by decide) (by decide)) (m_hr_o _ _ _ _ _ (by decide) (by decide) (by decide) (by decide) (by decide) (by decide) (by decide))
  · rw [c_hr_7, m_hr_27, hb]
  · refine ⟨k_gd n h b r, b, h2, ?_, ?_, c_hr_c _ _ _ _ _, ?_⟩
    · rw [m_hr_51, upd_s]
    · rw [m_hr_o _ _ _ _ _ (by decide) (by decide) (by decide) (by decide) (by decide) (by decide) (by decide)]
      exact h6
    · rw [m_hr_50, upd_s, c_hr_c]
theorem iH_hr {t c t' c' : Nat} {g u : im_M} (gd : Bool) (b : Int32) (h : iH t' c' g u) (ht : t < 4) (hc : c < 4) (hc' : c' < 4) (ht' : t' < 4) (hne : t' ≠ t ∨ c' ≠ c) : iH t' c' (c_hr t c gd b g) (m_hr t c gd b u) := by
  have hk : 4 * t' + c' ≠ 4 * t + c := by omega
  refine iH_fr h ?_ ?_ ?_ ?_
  · by_cases htt : t' = t
    · subst htt
      exact c_hr_i _ _ _ _ _ (by omega)
    · rw [c_hr_o _ _ _ _ _ (by omega) (by omega) (by omega) (by omega)]
  · rw [m_hr_51, upd_o _ _ hk]
  · rw [m_hr_o _ _ _ _ _ (by decide) (by decide) (by decide) (by decide) (by decide) (by decide) (by decide)]
  · rw [m_hr_50, upd_o _ _ hk]
set_option maxRecDepth 100000 in
set_option maxHeartbeats 4000000 in
theorem hr4_0 {n E : Nat} {g u : im_M} (hn : n < 519) (hE : E < 2 ^ 28) (hJ : iJ (n + 1) E g u) (hF : iF n g u) (hb : g 0 7 = u 37 27) :
    ∃ g' u1 u2 u3 u' : im_M, x24_r0_r29 g = some (0, g') ∧ x96_r37 u 0 0 = some (0, u1) ∧ x96_r37 u1 0 1 = some (0, u2) ∧ x96_r37 u2 0 2 = some (0, u3) ∧ x96_r37 u3 0 3 = some (0, u') ∧ iJ (n + 1) (E + 4) g' u' ∧ iF n g' u' ∧ g' 0 7 = u' 37 27 ∧ (∀ c : Nat, c < 4 → iH 0 c g' u') ∧
      (∀ t' c' : Nat, t' < 4 → c' < 4 → t' ≠ 0 → iH t' c' g u → iH t' c' g' u') ∧ (∀ q : Nat, q ≠ 0 → q ≠ 1 → q ≠ 2 → q ≠ 30 → g' q = g q) ∧ (∀ i : Nat, i ≠ 7 → g' 0 i = g 0 i) ∧ (∀ q : Nat, q ≠ 37 → q ≠ 54 → q ≠ 55 → q ≠ 56 → q ≠ 57 → q ≠ 50 → q ≠ 51 → u' q = u q) ∧ (∀ i : Nat, i ≠ 22 → i ≠ 27 → u' 37 i = u 37 i) ∧ (∀ t' c' : Nat, c' < 4 → t' ≠ 0 → u' 50 (4 * t' + c') = u 50 (4 * t' + c')) := by
  obtain ⟨h0, b0, r0, p0, q0, s0, k0, X0, J0, F0, B0, H0⟩ := hr_st (t := 0) (c := 0) (by decide) (by decide) hn (by omega) hJ hF hb
  obtain ⟨d0, e0⟩ : ∃ d : Bool, d = k_gd n h0 b0 r0 := ⟨_, rfl⟩
  obtain ⟨h1, b1, r1, p1, q1, s1, k1, X1, J1, F1, B1, H1⟩ := hr_st (t := 0) (c := 1) (by decide) (by decide) hn (by omega) J0 F0 B0
  obtain ⟨h2, b2, r2, p2, q2, s2, k2, X2, J2, F2, B2, H2⟩ := hr_st (t := 0) (c := 2) (by decide) (by decide) hn (by omega) J1 F1 B1
  obtain ⟨h3, b3, r3, p3, q3, s3, k3, X3, J3, F3, B3', H3⟩ := hr_st (t := 0) (c := 3) (by decide) (by decide) hn (by omega) J2 F2 B2
  have t1 : (g 1 1) - (1 : Int32) = Int32.ofNat n := by
    rw [hJ.1]
    exact is_s1 n
  have run : x24_r0_r29 g = some (0, _) := (e24_0_0 g p0 q0 s0 k0 t1).trans ((e24_0_1 _ p1 q1 s1 k1 _).trans ((e24_0_2 _ p2 q2 s2 k2 _).trans ((e24_0_3 _ p3 q3 s3 k3 _).trans rfl)))
  refine ⟨_, _, _, _, _, run, X0, X1, X2, X3, J3, F3, B3', ?_, ?_, ?_, ?_, ?_, ?_, ?_⟩
  · intro c hc
    have h4 : c = 0 ∨ c = 1 ∨ c = 2 ∨ c = 3 := by omega
    rcases h4 with h4 | h4 | h4 | h4 <;> subst h4
    · exact iH_hr _ _ (iH_hr _ _ (iH_hr _ _ H0 (by decide) (by decide) (by decide) (by decide) (Or.inr (by decide))) (by decide) (by decide) (by decide) (by decide) (Or.inr (by decide))) (by decide) (by decide) (by decide) (by decide) (Or.inr (by decide))
    · exact iH_hr _ _ (iH_hr _ _ H1 (by decide) (by decide) (by decide) (by decide) (Or.inr (by decide))) (by decide) (by decide) (by decide) (by decide) (Or.inr (by decide))
    · exact iH_hr _ _ H2 (by decide) (by decide) (by decide) (by decide) (Or.inr (by decide))
    · exact H3
  · intro t' c' ht hc hne hh
    exact iH_hr _ _ (iH_hr _ _ (iH_hr _ _ (iH_hr _ _ hh (by decide) (by decide) hc ht (Or.inl hne)) (by decide) (by decide) hc ht (Or.inl hne)) (by decide) (by decide) hc ht (Or.inl hne)) (by decide) (by decide) hc ht (Or.inl hne)
  · intro q z0 z1 z2 z3
    rw [c_hr_o _ _ _ _ _ z0 z1 z2 z3, c_hr_o _ _ _ _ _ z0 z1 z2 z3, c_hr_o _ _ _ _ _ z0 z1 z2 z3, c_hr_o _ _ _ _ _ z0 z1 z2 z3]
  · intro i hi
    rw [c_hr_0 _ _ _ _ _ hi, c_hr_0 _ _ _ _ _ hi, c_hr_0 _ _ _ _ _ hi, c_hr_0 _ _ _ _ _ hi]
  · intro q z0 z1 z2 z3 z4 z5 z6
    rw [m_hr_o _ _ _ _ _ z0 z1 z2 z3 z4 z5 z6, m_hr_o _ _ _ _ _ z0 z1 z2 z3 z4 z5 z6, m_hr_o _ _ _ _ _ z0 z1 z2 z3 z4 z5 z6, m_hr_o _ _ _ _ _ z0 z1 z2 z3 z4 z5 z6]
  · intro i hi hi2
    rw [m_hr_37 _ _ _ _ _ hi hi2, m_hr_37 _ _ _ _ _ hi hi2, m_hr_37 _ _ _ _ _ hi hi2, m_hr_37 _ _ _ _ _ hi hi2]
  · intro t' c' hc hne
    rw [m_hr_50, upd_o _ _ (by omega), m_hr_50, upd_o _ _ (by omega), m_hr_50, upd_o _ _ (by omega), m_hr_50, upd_o _ _ (by omega)]
set_option maxRecDepth 100000 in
set_option maxHeartbeats 4000000 in
theorem hr4_1 {n E : Nat} {g u : im_M} (hn : n < 519) (hE : E < 2 ^ 28) (hJ : iJ (n + 1) E g u) (hF : iF n g u) (hb : g 0 7 = u 37 27) :
    ∃ g' u1 u2 u3 u' : im_M, x24_r0_r31 g = some (0, g') ∧ x96_r37 u 1 0 = some (0, u1) ∧ x96_r37 u1 1 1 = some (0, u2) ∧ x96_r37 u2 1 2 = some (0, u3) ∧ x96_r37 u3 1 3 = some (0, u') ∧ iJ (n + 1) (E + 4) g' u' ∧ iF n g' u' ∧ g' 0 7 = u' 37 27 ∧ (∀ c : Nat, c < 4 → iH 1 c g' u') ∧
      (∀ t' c' : Nat, t' < 4 → c' < 4 → t' ≠ 1 → iH t' c' g u → iH t' c' g' u') ∧ (∀ q : Nat, q ≠ 0 → q ≠ 1 → q ≠ 2 → q ≠ 32 → g' q = g q) ∧ (∀ i : Nat, i ≠ 7 → g' 0 i = g 0 i) ∧ (∀ q : Nat, q ≠ 37 → q ≠ 54 → q ≠ 55 → q ≠ 56 → q ≠ 57 → q ≠ 50 → q ≠ 51 → u' q = u q) ∧ (∀ i : Nat, i ≠ 22 → i ≠ 27 → u' 37 i = u 37 i) ∧ (∀ t' c' : Nat, c' < 4 → t' ≠ 1 → u' 50 (4 * t' + c') = u 50 (4 * t' + c')) := by
  obtain ⟨h0, b0, r0, p0, q0, s0, k0, X0, J0, F0, B0, H0⟩ := hr_st (t := 1) (c := 0) (by decide) (by decide) hn (by omega) hJ hF hb
  obtain ⟨d0, e0⟩ : ∃ d : Bool, d = k_gd n h0 b0 r0 := ⟨_, rfl⟩
  obtain ⟨h1, b1, r1, p1, q1, s1, k1, X1, J1, F1, B1, H1⟩ := hr_st (t := 1) (c := 1) (by decide) (by decide) hn (by omega) J0 F0 B0
  obtain ⟨h2, b2, r2, p2, q2, s2, k2, X2, J2, F2, B2, H2⟩ := hr_st (t := 1) (c := 2) (by decide) (by decide) hn (by omega) J1 F1 B1
  obtain ⟨h3, b3, r3, p3, q3, s3, k3, X3, J3, F3, B3', H3⟩ := hr_st (t := 1) (c := 3) (by decide) (by decide) hn (by omega) J2 F2 B2
  have t1 : (g 1 1) - (1 : Int32) = Int32.ofNat n := by
    rw [hJ.1]
    exact is_s1 n
  have run : x24_r0_r31 g = some (0, _) := (e24_1_0 g p0 q0 s0 k0 t1).trans ((e24_1_1 _ p1 q1 s1 k1 _).trans ((e24_1_2 _ p2 q2 s2 k2 _).trans ((e24_1_3 _ p3 q3 s3 k3 _).trans rfl)))
  refine ⟨_, _, _, _, _, run, X0, X1, X2, X3, J3, F3, B3', ?_, ?_, ?_, ?_, ?_, ?_, ?_⟩
  · intro c hc
    have h4 : c = 0 ∨ c = 1 ∨ c = 2 ∨ c = 3 := by omega
    rcases h4 with h4 | h4 | h4 | h4 <;> subst h4
    · exact iH_hr _ _ (iH_hr _ _ (iH_hr _ _ H0 (by decide) (by decide) (by decide) (by decide) (Or.inr (by decide))) (by decide) (by decide) (by decide) (by decide) (Or.inr (by decide))) (by decide) (by decide) (by decide) (by decide) (Or.inr (by decide))
    · exact iH_hr _ _ (iH_hr _ _ H1 (by decide) (by decide) (by decide) (by decide) (Or.inr (by decide))) (by decide) (by decide) (by decide) (by decide) (Or.inr (by decide))
    · exact iH_hr _ _ H2 (by decide) (by decide) (by decide) (by decide) (Or.inr (by decide))
    · exact H3
  · intro t' c' ht hc hne hh
    exact iH_hr _ _ (iH_hr _ _ (iH_hr _ _ (iH_hr _ _ hh (by decide) (by decide) hc ht (Or.inl hne)) (by decide) (by decide) hc ht (Or.inl hne)) (by decide) (by decide) hc ht (Or.inl hne)) (by decide) (by decide) hc ht (Or.inl hne)
  · intro q z0 z1 z2 z3
    rw [c_hr_o _ _ _ _ _ z0 z1 z2 z3, c_hr_o _ _ _ _ _ z0 z1 z2 z3, c_hr_o _ _ _ _ _ z0 z1 z2 z3, c_hr_o _ _ _ _ _ z0 z1 z2 z3]
  · intro i hi
    rw [c_hr_0 _ _ _ _ _ hi, c_hr_0 _ _ _ _ _ hi, c_hr_0 _ _ _ _ _ hi, c_hr_0 _ _ _ _ _ hi]
  · intro q z0 z1 z2 z3 z4 z5 z6
    rw [m_hr_o _ _ _ _ _ z0 z1 z2 z3 z4 z5 z6, m_hr_o _ _ _ _ _ z0 z1 z2 z3 z4 z5 z6, m_hr_o _ _ _ _ _ z0 z1 z2 z3 z4 z5 z6, m_hr_o _ _ _ _ _ z0 z1 z2 z3 z4 z5 z6]
  · intro i hi hi2
    rw [m_hr_37 _ _ _ _ _ hi hi2, m_hr_37 _ _ _ _ _ hi hi2, m_hr_37 _ _ _ _ _ hi hi2, m_hr_37 _ _ _ _ _ hi hi2]
  · intro t' c' hc hne
    rw [m_hr_50, upd_o _ _ (by omega), m_hr_50, upd_o _ _ (by omega), m_hr_50, upd_o _ _ (by omega), m_hr_50, upd_o _ _ (by omega)]
set_option maxRecDepth 100000 in
set_option maxHeartbeats 4000000 in
theorem hr4_2 {n E : Nat} {g u : im_M} (hn : n < 519) (hE : E < 2 ^ 28) (hJ : iJ (n + 1) E g u) (hF : iF n g u) (hb : g 0 7 = u 37 27) :
    ∃ g' u1 u2 u3 u' : im_M, x24_r0_r33 g = some (0, g') ∧ x96_r37 u 2 0 = some (0, u1) ∧ x96_r37 u1 2 1 = some (0, u2) ∧ x96_r37 u2 2 2 = some (0, u3) ∧ x96_r37 u3 2 3 = some (0, u') ∧ iJ (n + 1) (E + 4) g' u' ∧ iF n g' u' ∧ g' 0 7 = u' 37 27 ∧ (∀ c : Nat, c < 4 → iH 2 c g' u') ∧
      (∀ t' c' : Nat, t' < 4 → c' < 4 → t' ≠ 2 → iH t' c' g u → iH t' c' g' u') ∧ (∀ q : Nat, q ≠ 0 → q ≠ 1 → q ≠ 2 → q ≠ 34 → g' q = g q) ∧ (∀ i : Nat, i ≠ 7 → g' 0 i = g 0 i) ∧ (∀ q : Nat, q ≠ 37 → q ≠ 54 → q ≠ 55 → q ≠ 56 → q ≠ 57 → q ≠ 50 → q ≠ 51 → u' q = u q) ∧ (∀ i : Nat, i ≠ 22 → i ≠ 27 → u' 37 i = u 37 i) ∧ (∀ t' c' : Nat, c' < 4 → t' ≠ 2 → u' 50 (4 * t' + c') = u 50 (4 * t' + c')) := by
  obtain ⟨h0, b0, r0, p0, q0, s0, k0, X0, J0, F0, B0, H0⟩ := hr_st (t := 2) (c := 0) (by decide) (by decide) hn (by omega) hJ hF hb
  obtain ⟨d0, e0⟩ : ∃ d : Bool, d = k_gd n h0 b0 r0 := ⟨_, rfl⟩
  obtain ⟨h1, b1, r1, p1, q1, s1, k1, X1, J1, F1, B1, H1⟩ := hr_st (t := 2) (c := 1) (by decide) (by decide) hn (by omega) J0 F0 B0
  obtain ⟨h2, b2, r2, p2, q2, s2, k2, X2, J2, F2, B2, H2⟩ := hr_st (t := 2) (c := 2) (by decide) (by decide) hn (by omega) J1 F1 B1
  obtain ⟨h3, b3, r3, p3, q3, s3, k3, X3, J3, F3, B3', H3⟩ := hr_st (t := 2) (c := 3) (by decide) (by decide) hn (by omega) J2 F2 B2
  have t1 : (g 1 1) - (1 : Int32) = Int32.ofNat n := by
    rw [hJ.1]
    exact is_s1 n
  have run : x24_r0_r33 g = some (0, _) := (e24_2_0 g p0 q0 s0 k0 t1).trans ((e24_2_1 _ p1 q1 s1 k1 _).trans ((e24_2_2 _ p2 q2 s2 k2 _).trans ((e24_2_3 _ p3 q3 s3 k3 _).trans rfl)))
  refine ⟨_, _, _, _, _, run, X0, X1, X2, X3, J3, F3, B3', ?_, ?_, ?_, ?_, ?_, ?_, ?_⟩
  · intro c hc
    have h4 : c = 0 ∨ c = 1 ∨ c = 2 ∨ c = 3 := by omega
    rcases h4 with h4 | h4 | h4 | h4 <;> subst h4
    · exact iH_hr _ _ (iH_hr _ _ (iH_hr _ _ H0 (by decide) (by decide) (by decide) (by decide) (Or.inr (by decide))) (by decide) (by decide) (by decide) (by decide) (Or.inr (by decide))) (by decide) (by decide) (by decide) (by decide) (Or.inr (by decide))
    · exact iH_hr _ _ (iH_hr _ _ H1 (by decide) (by decide) (by decide) (by decide) (Or.inr (by decide))) (by decide) (by decide) (by decide) (by decide) (Or.inr (by decide))
    · exact iH_hr _ _ H2 (by decide) (by decide) (by decide) (by decide) (Or.inr (by decide))
    · exact H3
  · intro t' c' ht hc hne hh
    exact iH_hr _ _ (iH_hr _ _ (iH_hr _ _ (iH_hr _ _ hh (by decide) (by decide) hc ht (Or.inl hne)) (by decide) (by decide) hc ht (Or.inl hne)) (by decide) (by decide) hc ht (Or.inl hne)) (by decide) (by decide) hc ht (Or.inl hne)
  · intro q z0 z1 z2 z3
    rw [c_hr_o _ _ _ _ _ z0 z1 z2 z3, c_hr_o _ _ _ _ _ z0 z1 z2 z3, c_hr_o _ _ _ _ _ z0 z1 z2 z3, c_hr_o _ _ _ _ _ z0 z1 z2 z3]
  · intro i hi
    rw [c_hr_0 _ _ _ _ _ hi, c_hr_0 _ _ _ _ _ hi, c_hr_0 _ _ _ _ _ hi, c_hr_0 _ _ _ _ _ hi]
  · intro q z0 z1 z2 z3 z4 z5 z6
    rw [m_hr_o _ _ _ _ _ z0 z1 z2 z3 z4 z5 z6, m_hr_o _ _ _ _ _ z0 z1 z2 z3 z4 z5 z6, m_hr_o _ _ _ _ _ z0 z1 z2 z3 z4 z5 z6, m_hr_o _ _ _ _ _ z0 z1 z2 z3 z4 z5 z6]
  · intro i hi hi2
    rw [m_hr_37 _ _ _ _ _ hi hi2, m_hr_37 _ _ _ _ _ hi hi2, m_hr_37 _ _ _ _ _ hi hi2, m_hr_37 _ _ _ _ _ hi hi2]
  · intro t' c' hc hne
    rw [m_hr_50, upd_o _ _ (by omega), m_hr_50, upd_o _ _ (by omega), m_hr_50, upd_o _ _ (by omega), m_hr_50, upd_o _ _ (by omega)]
set_option maxRecDepth 100000 in
set_option maxHeartbeats 4000000 in
theorem hr4_3 {n E : Nat} {g u : im_M} (hn : n < 519) (hE : E < 2 ^ 28) (hJ : iJ (n + 1) E g u) (hF : iF n g u) (hb : g 0 7 = u 37 27) :
    ∃ g' u1 u2 u3 u' : im_M, x24_r0_r35 g = some (0, g') ∧ x96_r37 u 3 0 = some (0, u1) ∧ x96_r37 u1 3 1 = some (0, u2) ∧ x96_r37 u2 3 2 = some (0, u3) ∧ x96_r37 u3 3 3 = some (0, u') ∧ iJ (n + 1) (E + 4) g' u' ∧ iF n g' u' ∧ g' 0 7 = u' 37 27 ∧ (∀ c : Nat, c < 4 → iH 3 c g' u') ∧
      (∀ t' c' : Nat, t' < 4 → c' < 4 → t' ≠ 3 → iH t' c' g u → iH t' c' g' u') ∧ (∀ q : Nat, q ≠ 0 → q ≠ 1 → q ≠ 2 → q ≠ 36 → g' q = g q) ∧ (∀ i : Nat, i ≠ 7 → g' 0 i = g 0 i) ∧ (∀ q : Nat, q ≠ 37 → q ≠ 54 → q ≠ 55 → q ≠ 56 → q ≠ 57 → q ≠ 50 → q ≠ 51 → u' q = u q) ∧ (∀ i : Nat, i ≠ 22 → i ≠ 27 → u' 37 i = u 37 i) ∧ (∀ t' c' : Nat, c' < 4 → t' ≠ 3 → u' 50 (4 * t' + c') = u 50 (4 * t' + c')) := by
  obtain ⟨h0, b0, r0, p0, q0, s0, k0, X0, J0, F0, B0, H0⟩ := hr_st (t := 3) (c := 0) (by decide) (by decide) hn (by omega) hJ hF hb
  obtain ⟨d0, e0⟩ : ∃ d : Bool, d = k_gd n h0 b0 r0 := ⟨_, rfl⟩
  obtain ⟨h1, b1, r1, p1, q1, s1, k1, X1, J1, F1, B1, H1⟩ := hr_st (t := 3) (c := 1) (by decide) (by decide) hn (by omega) J0 F0 B0
  obtain ⟨h2, b2, r2, p2, q2, s2, k2, X2, J2, F2, B2, H2⟩ := hr_st (t := 3) (c := 2) (by decide) (by decide) hn (by omega) J1 F1 B1
  obtain ⟨h3, b3, r3, p3, q3, s3, k3, X3, J3, F3, B3', H3⟩ := hr_st (t := 3) (c := 3) (by decide) (by decide) hn (by omega) J2 F2 B2
  have t1 : (g 1 1) - (1 : Int32) = Int32.ofNat n := by
    rw [hJ.1]
    exact is_s1 n
  have run : x24_r0_r35 g = some (0, _) := (e24_3_0 g p0 q0 s0 k0 t1).trans ((e24_3_1 _ p1 q1 s1 k1 _).trans ((e24_3_2 _ p2 q2 s2 k2 _).trans ((e24_3_3 _ p3 q3 s3 k3 _).trans rfl)))
  refine ⟨_, _, _, _, _, run, X0, X1, X2, X3, J3, F3, B3', ?_, ?_, ?_, ?_, ?_, ?_, ?_⟩
  · intro c hc
    have h4 : c = 0 ∨ c = 1 ∨ c = 2 ∨ c = 3 := by omega
    rcases h4 with h4 | h4 | h4 | h4 <;> subst h4
    · exact iH_hr _ _ (iH_hr _ _ (iH_hr _ _ H0 (by decide) (by decide) (by decide) (by decide) (Or.inr (by decide))) (by decide) (by decide) (by decide) (by decide) (Or.inr (by decide))) (by decide) (by decide) (by decide) (by decide) (Or.inr (by decide))
    · exact iH_hr _ _ (iH_hr _ _ H1 (by decide) (by decide) (by decide) (by decide) (Or.inr (by decide))) (by decide) (by decide) (by decide) (by decide) (Or.inr (by decide))
    · exact iH_hr _ _ H2 (by decide) (by decide) (by decide) (by decide) (Or.inr (by decide))
    · exact H3
  · intro t' c' ht hc hne hh
    exact iH_hr _ _ (iH_hr _ _ (iH_hr _ _ (iH_hr _ _ hh (by decide) (by decide) hc ht (Or.inl hne)) (by decide) (by decide) hc ht (Or.inl hne)) (by decide) (by decide) hc ht (Or.inl hne)) (by decide) (by decide) hc ht (Or.inl hne)
  · intro q z0 z1 z2 z3
    rw [c_hr_o _ _ _ _ _ z0 z1 z2 z3, c_hr_o _ _ _ _ _ z0 z1 z2 z3, c_hr_o _ _ _ _ _ z0 z1 z2 z3, c_hr_o _ _ _ _ _ z0 z1 z2 z3]
  · intro i hi
    rw [c_hr_0 _ _ _ _ _ hi, c_hr_0 _ _ _ _ _ hi, c_hr_0 _ _ _ _ _ hi, c_hr_0 _ _ _ _ _ hi]
  · intro q z0 z1 z2 z3 z4 z5 z6
    rw [m_hr_o _ _ _ _ _ z0 z1 z2 z3 z4 z5 z6, m_hr_o _ _ _ _ _ z0 z1 z2 z3 z4 z5 z6, m_hr_o _ _ _ _ _ z0 z1 z2 z3 z4 z5 z6, m_hr_o _ _ _ _ _ z0 z1 z2 z3 z4 z5 z6]
  · intro i hi hi2
    rw [m_hr_37 _ _ _ _ _ hi hi2, m_hr_37 _ _ _ _ _ hi hi2, m_hr_37 _ _ _ _ _ hi hi2, m_hr_37 _ _ _ _ _ hi hi2]
  · intro t' c' hc hne
    rw [m_hr_50, upd_o _ _ (by omega), m_hr_50, upd_o _ _ (by omega), m_hr_50, upd_o _ _ (by omega), m_hr_50, upd_o _ _ (by omega)]
