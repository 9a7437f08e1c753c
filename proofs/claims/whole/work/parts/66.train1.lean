/-! A train's step: both sides together. -/
theorem c_cn_fr {t p : Nat} {a : Int32} {g g' : im_M} (h : g' (30 + 2 * t) = g (30 + 2 * t)) : c_cn t p a g' = c_cn t p a g := by
  unfold c_cn
  rw [h]
def w3 (a b c : Bool) : Nat → Bool := fun p => if p = 0 then a else (if p = 1 then b else c)
theorem w3_eq (a b c : Bool) : B3f (w3 a b c) = B3 a b c := rfl
theorem hb_B3f (o : Nat → Bool) {p : Nat} (hp : p < 3) : hb (B3f o) p = o p := by
  have h3 : p = 0 ∨ p = 1 ∨ p = 2 := by omega
  unfold B3f
  rw [hb_B3 _ _ _ (by omega)]
  rcases h3 with h3 | h3 | h3 <;> subst h3 <;> simp
set_option maxHeartbeats 4000000 in
theorem dec_st {n E t : Nat} {g u : im_M} (ht : t < 4) (hE : E < 2 ^ 29) (hJ : iJ n E g u) (hT : iT g u t) (ha : g 0 6 = u 37 19) :
    ∃ a b c : Bool, decide (2 ≤ m_cn t 0 u) = a ∧ decide (2 ≤ m_cn t 1 u) = b ∧ decide (2 ≤ m_cn t 2 u) = c ∧ iJ n (E + 7) (c_dec t (g 0 6) g) (m_vote t a b c u) ∧ iT (c_dec t (g 0 6) g) (m_vote t a b c u) t := by
  obtain ⟨hh, ⟨o, ho1, ho2⟩, q, hq, hq1, hq2⟩ := hT
  obtain ⟨A, hA⟩ : ∃ A : Int32, A = g 0 6 := ⟨_, rfl⟩
  rw [← hA]
  rw [← hA] at ha
  obtain ⟨a, hda⟩ : ∃ a : Bool, decide (2 ≤ m_cn t 0 u) = a := ⟨_, rfl⟩
  obtain ⟨b, hdb⟩ : ∃ b : Bool, decide (2 ≤ m_cn t 1 u) = b := ⟨_, rfl⟩
  obtain ⟨c, hdc⟩ : ∃ c : Bool, decide (2 ≤ m_cn t 2 u) = c := ⟨_, rfl⟩
  refine ⟨a, b, c, hda, hdb, hdc, ?_⟩
  have n0 : c_cn t 0 A g = m_cn t 0 u := cn_eq (by decide) ha hh
  have n1 : c_cn t 1 A g = m_cn t 1 u := cn_eq (by decide) ha hh
  have n2 : c_cn t 2 A g = m_cn t 2 u := cn_eq (by decide) ha hh
  have o0 : hb (u 52 t) 0 = o 0 := by rw [ho2, hb_B3f o (by decide)]
  have o1 : hb (u 52 t) 1 = o 1 := by rw [ho2, hb_B3f o (by decide)]
  have o2 : hb (u 52 t) 2 = o 2 := by rw [ho2, hb_B3f o (by decide)]
  obtain ⟨g0, eg0⟩ : ∃ g0 : im_M, g0 = im_w g (29 + 2 * t) 2 0 := ⟨_, rfl⟩
  have g0o : ∀ r : Nat, r ≠ 29 + 2 * t → g0 r = g r := fun r hr => by rw [eg0, im_w_o _ _ _ hr]
  have J0 : iJ n E g0 u := iJ_fr hJ (g0o _ (by omega)) (g0o _ (by omega)) rfl rfl rfl rfl rfl rfl
  have v0 : g0 (29 + 2 * t) 2 = B3f (fun _ => false) := by
    rw [eg0, im_w_s]
    rfl
  have l0 : g0 (29 + 2 * t) 3 = Int32.ofNat q := by
    rw [eg0, im_w_k _ _ _ (by decide)]
    exact hq1
  have c0 : decide (2 ≤ c_cn t 0 A g0) = a := by rw [c_cn_fr (g0o _ (by omega)), n0, hda]
  obtain ⟨G1, eG1⟩ : ∃ G1 : im_M, G1 = c_dd t 0 A (B3f o) g0 := ⟨_, rfl⟩
  have G1o : ∀ r : Nat, r ≠ 1 → r ≠ 2 → r ≠ 29 + 2 * t → G1 r = g r := fun r h1 h2 h3 => by rw [eG1, c_dd_o _ _ _ _ _ h1 h2 h3, g0o r h3]
  have J1 := c_dd_J (o := o) (p := 0) (t := t) (by decide) A (by omega) J0 c0
  have v1 := c_dd_v (t := t) (p := 0) (o := o) (by decide) A v0
  rw [c0] at v1
  rw [← eG1] at J1 v1
  have l1 : G1 (29 + 2 * t) 3 = Int32.ofNat q := by rw [eG1, c_dd_i _ _ _ _ _ (by decide), l0]
  have c1 : decide (2 ≤ c_cn t 1 A G1) = b := by rw [c_cn_fr (G1o _ (by omega) (by omega) (by omega)), n1, hdb]
  obtain ⟨G2, eG2⟩ : ∃ G2 : im_M, G2 = c_dd t 1 A (B3f o) G1 := ⟨_, rfl⟩
  have G2o : ∀ r : Nat, r ≠ 1 → r ≠ 2 → r ≠ 29 + 2 * t → G2 r = g r := fun r h1 h2 h3 => by rw [eG2, c_dd_o _ _ _ _ _ h1 h2 h3, G1o r h1 h2 h3]
  have J2 := c_dd_J (o := o) (p := 1) (t := t) (by decide) A (by omega) J1 c1
  have v2 := c_dd_v (t := t) (p := 1) (o := o) (by decide) A v1
  rw [c1] at v2
  rw [← eG2] at J2 v2
  have l2 : G2 (29 + 2 * t) 3 = Int32.ofNat q := by rw [eG2, c_dd_i _ _ _ _ _ (by decide), l1]
  have c2 : decide (2 ≤ c_cn t 2 A G2) = c := by rw [c_cn_fr (G2o _ (by omega) (by omega) (by omega)), n2, hdc]
  obtain ⟨G3, eG3⟩ : ∃ G3 : im_M, G3 = c_dd t 2 A (B3f o) G2 := ⟨_, rfl⟩
  have G3o : ∀ r : Nat, r ≠ 1 → r ≠ 2 → r ≠ 29 + 2 * t → G3 r = g r := fun r h1 h2 h3 => by rw [eG3, c_dd_o _ _ _ _ _ h1 h2 h3, G2o r h1 h2 h3]
  have J3 := c_dd_J (o := o) (p := 2) (t := t) (by decide) A (by omega) J2 c2
  have v3 := c_dd_v (t := t) (p := 2) (o := o) (by decide) A v2
  rw [c2] at v3
  rw [← eG3] at J3 v3
  have l3 : G3 (29 + 2 * t) 3 = Int32.ofNat q := by rw [eG3, c_dd_i _ _ _ _ _ (by decide), l2]
  have v3' : G3 (29 + 2 * t) 2 = B3 a b c := by
    rw [v3]
    cases a <;> cases b <;> cases c <;> rfl
  have eU : m_nt (c && !(o 2)) 6 t 2 (m_nt (b && !(o 1)) 6 t 1 (m_nt (a && !(o 0)) 6 t 0 u)) = m_v1 t a b c u := by
    unfold m_v1
    rw [o0, o1, o2]
  rw [eU] at J3
  have eD : c_dec t A g = bif Op.ifCond.holds .eq (B3 a b c) then G3 else c_lat t G3 := by
    have e : c_dec0 t A (g (29 + 2 * t) 2) (im_w g (29 + 2 * t) 2 0) = G3 := by
      unfold c_dec0
      rw [ho1, ← eg0, ← eG1, ← eG2, ← eG3]
    unfold c_dec
    rw [e, v3']
  obtain ⟨U4, eU4⟩ : ∃ U4 : im_M, U4 = im_w (m_v1 t a b c u) 52 t (B3 a b c) := ⟨_, rfl⟩
  have J4 : iJ n (E + 1 + 1 + 1) G3 U4 := by
    rw [eU4]
    exact iJ_fr J3 rfl rfl rfl rfl rfl rfl rfl rfl
  have u53 : U4 53 = u 53 := by
    rw [eU4, im_w_o _ _ _ (show (53 : Nat) ≠ 52 by decide)]
    unfold m_v1
    rw [m_nt_o _ _ _ _ _ (by decide) (by decide) (by decide) (by decide) (by decide), m_nt_o _ _ _ _ _ (by decide) (by decide) (by decide) (by decide) (by decide), m_nt_o _ _ _ _ _ (by decide) (by decide) (by decide) (by decide) (by decide)]
  obtain ⟨t1, t2, t3, t4, t5, t6, t7, t8, t9⟩ := lt_tab q hq a b c
  have eV : m_vote t a b c u = im_w (m_nt ((a && b) && !(hb (Int32.ofNat q) 3)) 8 t 2 (m_nt (c && !(hb (Int32.ofNat q) 2)) 8 t 1 (m_nt (b && !(hb (Int32.ofNat q) 1)) 8 t 0 (m_nt ((a || (b || c)) && !(hb (Int32.ofNat q) 0)) 7 t 0 U4)))) 53 t (Int32.ofNat q ||| (m_run a b c ||| bi (a || (b || c)))) := by
    unfold m_vote m_v2
    rw [← eU4, u53, hq2]
  have main : iJ n (E + 7) (c_dec t A g) (m_vote t a b c u) ∧ c_dec t A g (29 + 2 * t) 2 = B3 a b c ∧ c_dec t A g (29 + 2 * t) 3 = (Int32.ofNat q ||| (m_run a b c ||| bi (a || (b || c)))) := by
    rw [eD, eV, B3_z]
    cases hany : (a || (b || c))
    · rw [hany] at t8
      have hab : a = false ∧ b = false ∧ c = false := by
        revert hany
        cases a <;> cases b <;> cases c <;> simp
      obtain ⟨rfl, rfl, rfl⟩ := hab
      refine ⟨?_, v3', ?_⟩
      · exact iJ_le (iJ_fr J4 rfl rfl rfl rfl rfl rfl rfl rfl) (by omega)
      · exact l3.trans (t8 rfl)
    · rw [hany] at t7
      obtain ⟨K1, m1⟩ := c_la_s (t := t) (i := 0) (by decide) 7 0 (by omega) J4 hq l3
      obtain ⟨H1, eH1⟩ : ∃ H1 : im_M, H1 = c_la t (Int32.ofNat (2 ^ 0)) 7 (Int32.ofNat 0) G3 := ⟨_, rfl⟩
      rw [← eH1] at K1 m1
      have w1 : H1 (29 + 2 * t) 2 = B3 a b c := by rw [eH1, c_la_i _ _ _ _ _ (by decide), v3']
      obtain ⟨K2, m2⟩ := c_lb_s (t := t) (i := 1) (D := b) (by decide) 2 0 (by omega) K1 t1 m1 (by rw [w1]; exact (nd_tab a b c).1)
      obtain ⟨H2, eH2⟩ : ∃ H2 : im_M, H2 = c_lb t 2 (Int32.ofNat (2 ^ 1)) (Int32.ofNat 0) H1 := ⟨_, rfl⟩
      rw [← eH2] at K2 m2
      have w2 : H2 (29 + 2 * t) 2 = B3 a b c := by rw [eH2, c_lb_i _ _ _ _ _ (by decide), w1]
      obtain ⟨K3, m3⟩ := c_lb_s (t := t) (i := 2) (D := c) (by decide) 4 1 (by omega) K2 t2 m2 (by rw [w2]; exact (nd_tab a b c).2.1)
      obtain ⟨H3, eH3⟩ : ∃ H3 : im_M, H3 = c_lb t 4 (Int32.ofNat (2 ^ 2)) (Int32.ofNat 1) H2 := ⟨_, rfl⟩
      rw [← eH3] at K3 m3
      have w3' : H3 (29 + 2 * t) 2 = B3 a b c := by rw [eH3, c_lb_i _ _ _ _ _ (by decide), w2]
      obtain ⟨K4, m4⟩ := c_lb_s (t := t) (i := 3) (D := a && b) (by decide) 3 2 (by omega) K3 t3 m3 (by rw [w3']; exact (nd_tab a b c).2.2)
      have eL : c_lat t G3 = c_lb t 3 (Int32.ofNat (2 ^ 3)) (Int32.ofNat 2) H3 := by
        rw [eH3, eH2, eH1]
        rfl
      rw [t4] at K2 K3 K4
      rw [t5] at K3 K4
      rw [t6] at K4
      rw [← eL] at K4 m4
      show iJ n (E + 7) (c_lat t G3) _ ∧ c_lat t G3 (29 + 2 * t) 2 = _ ∧ c_lat t G3 (29 + 2 * t) 3 = _
      refine ⟨?_, ?_, ?_⟩
      · exact iJ_fr K4 rfl rfl rfl rfl rfl rfl rfl rfl
      · rw [c_lat_i t G3 (by decide), v3']
      · exact m4.trans (t7 rfl)
  refine ⟨main.1, ?_, ⟨w3 a b c, main.2.1, ?_⟩, ?_⟩
  · intro r hr
    rw [m_vote_o _ _ _ _ _ (by decide) (by decide) (by decide) (by decide) (by decide) (by decide) (by decide), c_dec_o _ _ _ (by omega) (by omega) (by omega)]
    exact hh r hr
  · rw [m_vote_52, upd_s]
    rfl
  · obtain ⟨r, r1, r2⟩ := t9
    refine ⟨r, r1, main.2.2.trans r2, ?_⟩
    rw [m_vote_53, upd_s, hq2]
    exact r2
