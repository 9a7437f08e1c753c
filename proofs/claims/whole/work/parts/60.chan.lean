/-! A channel's step on both sides. -/
theorem k_rn0 : ∀ i : Nat, i < 64 → ∀ j : Nat, j < 64 → (k_cv (64 * i + j) = Int32.ofNat (k_cv (64 * i + j)).toNatClampNeg ∧ 1500 ≤ (k_cv (64 * i + j)).toNatClampNeg ∧ (k_cv (64 * i + j)).toNatClampNeg ≤ 3600) := by
  decide +kernel
theorem k_rng {x : Nat} (hx : x < 4096) : k_cv x = Int32.ofNat (k_cv x).toNatClampNeg ∧ 1500 ≤ (k_cv x).toNatClampNeg ∧ (k_cv x).toNatClampNeg ≤ 3600 := by
  have h := k_rn0 (x / 64) (by omega) (x % 64) (by omega)
  have e : 64 * (x / 64) + x % 64 = x := by omega
  rw [e] at h
  exact h
theorem limv_2 (x y : Nat) : limv 2 x y = k_cv x - Int32.ofNat (k_ls y) := rfl
theorem c_lim_2 (c : Nat) (g : im_M) : c_lim c 2 g = k_cv (g (10 + 5 * c) 0).toNatClampNeg - (((if (0 : Int32) < ((2000 : Int32) - (g (10 + 5 * c) 1)) then ((2000 : Int32) - (g (10 + 5 * c) 1)) else (0 : Int32)) + (3 : Int32)) / (4 : Int32)) := rfl
theorem limv_n {p x y : Nat} (hp : p < 3) (hx : x < 4096) : ∃ q : Nat, 40 ≤ q ∧ q ≤ 4000 ∧ limv p x y = Int32.ofNat q := by
  have h3 : p = 0 ∨ p = 1 ∨ p = 2 := by omega
  rcases h3 with h3 | h3 | h3 <;> subst h3
  · exact ⟨3000, by decide, by decide, rfl⟩
  · exact ⟨1200, by decide, by decide, rfl⟩
  · obtain ⟨h1, h2, h4⟩ := k_rng hx
    have h5 : k_ls y ≤ 500 := by
      unfold k_ls
      omega
    obtain ⟨C, eC⟩ : ∃ C : Nat, C = (k_cv x).toNatClampNeg := ⟨_, rfl⟩
    rw [← eC] at h1 h2 h4
    refine ⟨C - k_ls y, by omega, by omega, ?_⟩
    rw [limv_2, h1, is_sub (by omega)]
theorem lim_ex {p x y v : Nat} (hp : p < 3) (hx : x < 4096) (hv : v < 4096) : (m_ov p (Int32.ofNat v) (limv p x y) && m_in p (Int32.ofNat v) (limv p x y)) = false := by
  obtain ⟨q, h1, h2, h3⟩ := limv_n (y := y) hp hx
  rw [h3]
  have e1 : Int32.ofNat q + (40 : Int32) = Int32.ofNat (q + 40) := (Int32.ofNat_add q 40).symm
  have e2 : Int32.ofNat q - (40 : Int32) = Int32.ofNat (q - 40) := is_sub (b := 40) h1
  unfold m_ov m_in
  rw [e1, e2, is_le (by omega) (by omega), is_ge (by omega) (by omega), is_le (by omega) (by omega), is_ge (by omega) (by omega)]
  cases Nat.beq p 1
  · simp
    omega
  · simp
    omega
theorem c_lim_0 (c : Nat) (g : im_M) : c_lim c 0 g = 3000 := rfl
theorem c_lim_1 (c : Nat) (g : im_M) : c_lim c 1 g = 1200 := rfl
theorem limv_0 (x y : Nat) : limv 0 x y = 3000 := rfl
theorem limv_1 (x y : Nat) : limv 1 x y = 1200 := rfl
theorem c_lim_e2 {c x y : Nat} {g : im_M} (hx : x < 4096) (hy : y < 4096) (h0 : g (10 + 5 * c) 0 = Int32.ofNat x) (h1 : g (10 + 5 * c) 1 = Int32.ofNat y) : c_lim c 2 g = limv 2 x y := by
  have e1 := (k_one hy).2.2
  rw [c_lim_2, limv_2, h0, h1, e1, Int32.toNatClampNeg_ofNat_of_lt (by omega)]
theorem c_lim_eq {c p x y : Nat} {g : im_M} (hp : p < 3) (hx : x < 4096) (hy : y < 4096) (h0 : g (10 + 5 * c) 0 = Int32.ofNat x) (h1 : g (10 + 5 * c) 1 = Int32.ofNat y) : c_lim c p g = limv p x y := by
  have h3 : p = 0 ∨ p = 1 ∨ p = 2 := by omega
  rcases h3 with h3 | h3 | h3
  · rw [h3]
    rw [c_lim_0, limv_0]
  · rw [h3]
    rw [c_lim_1, limv_1]
  · rw [h3]
    exact c_lim_e2 hx hy h0 h1
theorem lane_keep {n m d c p c' p' : Nat} {g u : im_M} {w s : Bool} (D l : Int32) (h : iL m d g u c' p' w s) (hm : m ≤ n + 1) (hp : p < 3) (hp' : p' < 3) (hc : c < 4) (hc' : c' < 4) (hne : c' ≠ c ∨ p' ≠ p) :
    iL m d (c_lane c p g D) (m_look c p (n + 1) d l u) c' p' w s := by
  have hk : 3 * c' + p' ≠ 3 * c + p := by omega
  have hu : ∀ q : Nat, m_look c p (n + 1) d l u 38 q = u 38 q := fun q => by rw [m_look_q _ _ _ _ _ _ (by decide) (by decide) (by decide) (by decide) (by decide) (by decide) (by decide) (by decide) (by decide) (by decide) (by decide)]
  refine iL_fr h ?_ ?_ ?_ ?_ (hu _) ?_ ?_ ?_
  · by_cases hcc : c' = c
    · subst hcc
      rw [c_lane_10]
    · rw [c_lane_o c p g D (by omega) (by omega) (by omega) (by omega) (by omega) (by omega)]
  · by_cases hcc : c' = c
    · subst hcc
      rw [c_lane_11 _ _ _ _ (by omega)]
    · rw [c_lane_o c p g D (by omega) (by omega) (by omega) (by omega) (by omega) (by omega)]
  · by_cases hcc : c' = c
    · subst hcc
      rw [c_lane_12 _ _ _ _ (by omega)]
    · rw [c_lane_o c p g D (by omega) (by omega) (by omega) (by omega) (by omega) (by omega)]
  · by_cases hcc : c' = c
    · subst hcc
      rw [c_lane_13 _ _ _ _ (by omega)]
    · rw [c_lane_o c p g D (by omega) (by omega) (by omega) (by omega) (by omega) (by omega)]
  · rw [m_look_39, upd_o _ _ hk]
  · rw [m_look_41, upd_o _ _ hk]
  · intro q hq
    rw [m_look_42, m_look_43, m_look_44]
    exact ⟨hb_row _ _ (by omega) (by omega) (Or.inr hk), hb_row _ _ (by omega) (by omega) (Or.inr hk), hb_row _ _ (by omega) (by omega) (Or.inr hk)⟩
def iZ (n : Nat) (u : im_M) (k : Nat) : Prop := hb (u 42 n) k = false ∧ hb (u 43 n) k = false ∧ hb (u 44 n) k = false
theorem iZ_look {n d c p k : Nat} {u : im_M} {l : Int32} (h : iZ n u k) (hk : k < 12) (hc : c < 4) (hp : p < 3) (hne : k ≠ 3 * c + p) : iZ n (m_look c p n d l u) k := by
  obtain ⟨h1, h2, h3⟩ := h
  unfold iZ
  rw [m_look_42, m_look_43, m_look_44]
  exact ⟨(hb_row _ _ (by omega) (by omega) (Or.inr hne)).trans h1, (hb_row _ _ (by omega) (by omega) (Or.inr hne)).trans h2, (hb_row _ _ (by omega) (by omega) (Or.inr hne)).trans h3⟩
def iC (n d : Nat) (g u : im_M) (c : Nat) : Prop := ∃ w s f : Nat → Bool, (∀ p : Nat, p < 3 → iL n d g u c p (w p) (s p)) ∧ g (9 + 5 * c) 6 = B3f w ∧ g (9 + 5 * c) 7 = B3f s ∧ g (9 + 5 * c) 5 = B3f f ∧ ∀ p : Nat, p < 3 → f p = (decide (n = 0) || Op.ifCond.holds .ne (u 40 (3 * c + p)))
theorem sb_s (w : Nat → Bool) (p : Nat) (b : Bool) : sb w p b p = b := by simp [sb]
theorem sb_o (w : Nat → Bool) {p q : Nat} (b : Bool) (h : q ≠ p) : sb w p b q = w q := by simp [sb, h]
/-- the channel's three looks of the reference -/
def m_ch (c n d x y : Nat) (u : im_M) : im_M := m_look c 2 n d (limv 2 x y) (m_look c 1 n d (limv 1 x y) (m_look c 0 n d (limv 0 x y) u))
theorem m_look_38 (c p n d : Nat) (l : Int32) (u : im_M) : m_look c p n d l u 38 = u 38 := m_look_q _ _ _ _ _ _ (by decide) (by decide) (by decide) (by decide) (by decide) (by decide) (by decide) (by decide) (by decide) (by decide) (by decide)
set_option maxHeartbeats 4000000 in
theorem chan_st {n d E c : Nat} {g u : im_M} (hc : c < 4) (hd : 1 ≤ d) (hd2 : d ≤ 8) (hn : n < 519) (hE : E < 2 ^ 28) (hJ : iJ (n + 1) E g u) (hC : iC n d g u c) (hz : ∀ p : Nat, p < 3 → iZ (n + 1) u (3 * c + p)) :
    ∃ x y : Nat, x < 4096 ∧ y < 4096 ∧ g (10 + 5 * c) 0 = Int32.ofNat x ∧ u 38 (3 * c) = Int32.ofNat x ∧ u 38 (3 * c + 1) = Int32.ofNat y ∧
      iJ (n + 1) (E + 2) (c_lane c 0 g (Int32.ofNat d)) (m_look c 0 (n + 1) d (limv 0 x y) u) ∧
      iJ (n + 1) (E + 4) (c_lane c 1 (c_lane c 0 g (Int32.ofNat d)) (Int32.ofNat d)) (m_look c 1 (n + 1) d (limv 1 x y) (m_look c 0 (n + 1) d (limv 0 x y) u)) ∧
      iJ (n + 1) (E + 6) (c_look c g (Int32.ofNat d)) (m_ch c (n + 1) d x y u) ∧ iC (n + 1) d (c_look c g (Int32.ofNat d)) (m_ch c (n + 1) d x y u) c := by
  obtain ⟨w, s, f, hL, hw, hs, hf, hfp⟩ := hC
  obtain ⟨x, _, _, _, hx, -, -, -, gx, ux, -⟩ := hL 0 (by decide)
  obtain ⟨y, _, _, _, hy, -, -, -, gy, uy, -⟩ := hL 1 (by decide)
  obtain ⟨v, _, _, _, hv, -, -, -, gv, uv, -⟩ := hL 2 (by decide)
  obtain ⟨w0, s0, J0, L0, a6, a7, a5⟩ := lane_st (p := 0) (l := limv 0 x y) hc (by decide) hd hd2 hn (by omega) hJ hw hs hf (hfp 0 (by decide)) (hL 0 (by decide)) (hz 0 (by decide)).1 (hz 0 (by decide)).2.1 (hz 0 (by decide)).2.2 (c_lim_eq (by decide) hx hy gx gy) (by rw [ux]; exact lim_ex (by decide) hx hx)
  obtain ⟨g1, eg1⟩ : ∃ g1 : im_M, g1 = c_lane c 0 g (Int32.ofNat d) := ⟨_, rfl⟩
  obtain ⟨u1, eu1⟩ : ∃ u1 : im_M, u1 = m_look c 0 (n + 1) d (limv 0 x y) u := ⟨_, rfl⟩
  have L1 : iL n d g1 u1 c 1 (w 1) (s 1) := by
    rw [eg1, eu1]
    exact lane_keep _ _ (hL 1 (by decide)) (by omega) (by decide) (by decide) hc hc (Or.inr (by decide))
  have L2 : iL n d g1 u1 c 2 (w 2) (s 2) := by
    rw [eg1, eu1]
    exact lane_keep _ _ (hL 2 (by decide)) (by omega) (by decide) (by decide) hc hc (Or.inr (by decide))
  have z11 : iZ (n + 1) u1 (3 * c + 1) := by
    rw [eu1]
    exact iZ_look (hz 1 (by decide)) (by omega) hc (by decide) (by omega)
  have z12 : iZ (n + 1) u1 (3 * c + 2) := by
    rw [eu1]
    exact iZ_look (hz 2 (by decide)) (by omega) hc (by decide) (by omega)
  have f11 : f 1 = (decide (n = 0) || Op.ifCond.holds .ne (u1 40 (3 * c + 1))) := by
    rw [eu1, m_look_40, upd_o _ _ (by omega)]
    exact hfp 1 (by decide)
  have f12 : f 2 = (decide (n = 0) || Op.ifCond.holds .ne (u1 40 (3 * c + 2))) := by
    rw [eu1, m_look_40, upd_o _ _ (by omega)]
    exact hfp 2 (by decide)
  have g110 : g1 (10 + 5 * c) = g (10 + 5 * c) := by rw [eg1, c_lane_10]
  have u138 : u1 38 = u 38 := by rw [eu1, m_look_38]
  rw [← eg1, ← eu1] at J0 L0
  rw [← eg1] at a6 a7 a5
  obtain ⟨w1, s1, J1, M1, b6, b7, b5⟩ := lane_st (p := 1) (l := limv 1 x y) (w := sb w 0 w0) (s := sb s 0 s0) (f := f) hc (by decide) hd hd2 hn (by omega) J0 a6 a7 (a5.trans hf) f11 L1 z11.1 z11.2.1 z11.2.2 (c_lim_eq (by decide) hx hy (by rw [g110]; exact gx) (by rw [g110]; exact gy)) (by rw [u138, uy]; exact lim_ex (by decide) hx hy)
  obtain ⟨g2, eg2⟩ : ∃ g2 : im_M, g2 = c_lane c 1 g1 (Int32.ofNat d) := ⟨_, rfl⟩
  obtain ⟨u2, eu2⟩ : ∃ u2 : im_M, u2 = m_look c 1 (n + 1) d (limv 1 x y) u1 := ⟨_, rfl⟩
  have M0 : iL (n + 1) d g2 u2 c 0 w0 s0 := by
    rw [eg2, eu2]
    exact lane_keep _ _ L0 (by omega) (by decide) (by decide) hc hc (Or.inr (by decide))
  have M2 : iL n d g2 u2 c 2 (w 2) (s 2) := by
    rw [eg2, eu2]
    exact lane_keep _ _ L2 (by omega) (by decide) (by decide) hc hc (Or.inr (by decide))
  have z22 : iZ (n + 1) u2 (3 * c + 2) := by
    rw [eu2]
    exact iZ_look z12 (by omega) hc (by decide) (by omega)
  have f22 : f 2 = (decide (n = 0) || Op.ifCond.holds .ne (u2 40 (3 * c + 2))) := by
    rw [eu2, m_look_40, upd_o _ _ (by omega)]
    exact f12
  have g210 : g2 (10 + 5 * c) = g (10 + 5 * c) := by rw [eg2, c_lane_10, g110]
  have u238 : u2 38 = u 38 := by rw [eu2, m_look_38, u138]
  rw [← eg2, ← eu2] at J1 M1
  rw [← eg2] at b6 b7 b5
  obtain ⟨w2, s2, J2, N2, c6, c7, c5⟩ := lane_st (p := 2) (l := limv 2 x y) (w := sb (sb w 0 w0) 1 w1) (s := sb (sb s 0 s0) 1 s1) (f := f) hc (by decide) hd hd2 hn (by omega) J1 b6 b7 (b5.trans (a5.trans hf)) f22 M2 z22.1 z22.2.1 z22.2.2 (c_lim_eq (by decide) hx hy (by rw [g210]; exact gx) (by rw [g210]; exact gy)) (by rw [u238, uv]; exact lim_ex (by decide) hx hv)
  obtain ⟨g3, eg3⟩ : ∃ g3 : im_M, g3 = c_lane c 2 g2 (Int32.ofNat d) := ⟨_, rfl⟩
  obtain ⟨u3, eu3⟩ : ∃ u3 : im_M, u3 = m_look c 2 (n + 1) d (limv 2 x y) u2 := ⟨_, rfl⟩
  have N0 : iL (n + 1) d g3 u3 c 0 w0 s0 := by
    rw [eg3, eu3]
    exact lane_keep _ _ M0 (by omega) (by decide) (by decide) hc hc (Or.inr (by decide))
  have N1 : iL (n + 1) d g3 u3 c 1 w1 s1 := by
    rw [eg3, eu3]
    exact lane_keep _ _ M1 (by omega) (by decide) (by decide) hc hc (Or.inr (by decide))
  rw [← eg3, ← eu3] at J2 N2
  rw [← eg3] at c6 c7 c5
  have el : c_look c g (Int32.ofNat d) = im_w g3 (9 + 5 * c) 5 0 := by
    unfold c_look
    rw [← eg1, ← eg2, ← eg3]
  have em : m_ch c (n + 1) d x y u = u3 := by
    unfold m_ch
    rw [← eu1, ← eu2, ← eu3]
  refine ⟨x, y, hx, hy, gx, ux, uy, ?_⟩
  rw [el, em, ← eg1, ← eu1, ← eg2, ← eu2]
  refine ⟨J0, J1, iJ_fr J2 (im_w_o _ _ _ (by omega)) (im_w_o _ _ _ (by omega)) rfl rfl rfl rfl rfl rfl, sb (sb (sb w 0 w0) 1 w1) 2 w2, sb (sb (sb s 0 s0) 1 s1) 2 s2, fun _ => false, ?_, ?_, ?_, ?_, ?_⟩
  · intro p hp
    have h3 : p = 0 ∨ p = 1 ∨ p = 2 := by omega
    have fr : ∀ (p : Nat) (w s : Bool), iL (n + 1) d g3 u3 c p w s → iL (n + 1) d (im_w g3 (9 + 5 * c) 5 0) u3 c p w s := fun p w s h => iL_fr h (by rw [im_w_o _ _ _ (by omega)]) (by rw [im_w_o _ _ _ (by omega)]) (by rw [im_w_o _ _ _ (by omega)]) (by rw [im_w_o _ _ _ (by omega)]) rfl rfl rfl (fun _ _ => ⟨rfl, rfl, rfl⟩)
    rcases h3 with h3 | h3 | h3 <;> subst h3
    · exact fr 0 _ _ N0
    · exact fr 1 _ _ N1
    · exact fr 2 _ _ N2
  · rw [im_w_k _ _ _ (by decide)]
    exact c6
  · rw [im_w_k _ _ _ (by decide)]
    exact c7
  · rw [im_w_s]
    rfl
  · intro p hp
    have h3 : p = 0 ∨ p = 1 ∨ p = 2 := by omega
    have e : u3 40 (3 * c + p) = 0 := by
      rw [eu3, m_look_40, eu2, m_look_40, eu1, m_look_40]
      rcases h3 with h3 | h3 | h3 <;> subst h3
      · rw [upd_o _ _ (by omega), upd_o _ _ (by omega), upd_s]
      · rw [upd_o _ _ (by omega), upd_s]
      · rw [upd_s]
    rw [e]
    simp
    rfl
theorem iC_lane {n m d c p c' : Nat} {g u : im_M} (D l : Int32) (h : iC m d g u c') (hm : m ≤ n + 1) (hp : p < 3) (hc : c < 4) (hc' : c' < 4) (hne : c' ≠ c) : iC m d (c_lane c p g D) (m_look c p (n + 1) d l u) c' := by
  obtain ⟨w, s, f, hL, hw, hs, hf, hfp⟩ := h
  refine ⟨w, s, f, fun q hq => lane_keep _ _ (hL q hq) hm hp hq hc hc' (Or.inl hne), ?_, ?_, ?_, ?_⟩
  · rw [c_lane_o c p g D (by omega) (by omega) (by omega) (by omega) (by omega) (by omega)]
    exact hw
  · rw [c_lane_o c p g D (by omega) (by omega) (by omega) (by omega) (by omega) (by omega)]
    exact hs
  · rw [c_lane_o c p g D (by omega) (by omega) (by omega) (by omega) (by omega) (by omega)]
    exact hf
  · intro q hq
    rw [m_look_40, upd_o _ _ (by omega)]
    exact hfp q hq
theorem iC_fr {n d c : Nat} {g u g' u' : im_M} (h : iC n d g u c) (a0 : g' (9 + 5 * c) = g (9 + 5 * c)) (a1 : g' (10 + 5 * c) = g (10 + 5 * c)) (a2 : g' (11 + 5 * c) = g (11 + 5 * c)) (a3 : g' (12 + 5 * c) = g (12 + 5 * c)) (a4 : g' (13 + 5 * c) = g (13 + 5 * c))
    (b1 : u' 38 = u 38) (b2 : u' 39 = u 39) (b3 : u' 40 = u 40) (b4 : u' 41 = u 41) (b5 : u' 42 = u 42) (b6 : u' 43 = u 43) (b7 : u' 44 = u 44) : iC n d g' u' c := by
  obtain ⟨w, s, f, hL, hw, hs, hf, hfp⟩ := h
  refine ⟨w, s, f, fun q hq => iL_fr (hL q hq) (by rw [a1]) (by rw [a2]) (by rw [a3]) (by rw [a4]) (by rw [b1]) (by rw [b2]) (by rw [b4]) (fun m _ => by rw [b5, b6, b7]; exact ⟨rfl, rfl, rfl⟩), by rw [a0]; exact hw, by rw [a0]; exact hs, by rw [a0]; exact hf, fun p hp => by rw [b3]; exact hfp p hp⟩
