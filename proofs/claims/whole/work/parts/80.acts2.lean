/-! reset, fault, sense: both sides keep the relation (printed by wip/gen/rel15.py) -/
set_option maxRecDepth 100000 in
set_option maxHeartbeats 4000000 in
theorem k63_0 (g : im_M) : x63_r0_0 g = (bif Op.ifCond.holds .eq (g (29 + 2 * 0) 3) then some (.inl 1, g) else (bif Op.ifCond.holds .ne (g (29 + 2 * 0) 2) then some (.inl 1, g) else some (.inr 0, im_w (c_rec g 13 (Int32.ofNat 0) (g (29 + 2 * 0) 3)) (29 + 2 * 0) 3 0))) := by
  show x63_r0_0 g = (bif Op.ifCond.holds .eq (g 29 3) then some (.inl 1, g) else (bif Op.ifCond.holds .ne (g 29 2) then some (.inl 1, g) else some (.inr 0, im_w (c_rec g 13 (0 : Int32) (g 29 3)) 29 3 0)))
  have cl : x63_r0_0_1 g 1 = some (.inr 0, im_w (c_rec g 13 (0 : Int32) (g 29 3)) 29 3 0) := by
    unfold x63_r0_0_1
    refine (ob (show x55 g (1 : Int32) = some (.inr 0, g) from rfl)).trans ((se_r (0 : Int32)).trans ?_)
    exact (ob (x15_eq _ _ _ _)).trans rfl
  have c0 : x63_r0_0_1 g 0 = some (.inl 1, g) := rfl
  unfold x63_r0_0
  refine (ob (show x64 g (0 : Int32) = some (.inr 0, g) from rfl)).trans ((se_r (0 : Int32)).trans ?_)
  cases Op.ifCond.holds .eq (g 29 3)
  · refine (cbf rfl).trans (Eq.trans ?_ (cbf rfl).symm)
    cases Op.ifCond.holds .ne (g 29 2)
    · exact (cbf rfl).trans (cl.trans (cbf rfl).symm)
    · exact (cbt rfl).trans (c0.trans (cbt rfl).symm)
  · exact (cbt rfl).trans (c0.trans (cbt rfl).symm)
set_option maxRecDepth 100000 in
set_option maxHeartbeats 4000000 in
theorem k63_1 (g : im_M) : x63_r0_1 g = (bif Op.ifCond.holds .eq (g (29 + 2 * 1) 3) then some (.inl 1, g) else (bif Op.ifCond.holds .ne (g (29 + 2 * 1) 2) then some (.inl 1, g) else some (.inr 0, im_w (c_rec g 13 (Int32.ofNat 1) (g (29 + 2 * 1) 3)) (29 + 2 * 1) 3 0))) := by
  show x63_r0_1 g = (bif Op.ifCond.holds .eq (g 31 3) then some (.inl 1, g) else (bif Op.ifCond.holds .ne (g 31 2) then some (.inl 1, g) else some (.inr 0, im_w (c_rec g 13 (1 : Int32) (g 31 3)) 31 3 0)))
  have cl : x63_r0_1_1 g 1 = some (.inr 0, im_w (c_rec g 13 (1 : Int32) (g 31 3)) 31 3 0) := by
    unfold x63_r0_1_1
    refine (ob (show x55 g (1 : Int32) = some (.inr 0, g) from rfl)).trans ((se_r (0 : Int32)).trans ?_)
    exact (ob (x15_eq _ _ _ _)).trans rfl
  have c0 : x63_r0_1_1 g 0 = some (.inl 1, g) := rfl
  unfold x63_r0_1
  refine (ob (show x64 g (1 : Int32) = some (.inr 0, g) from rfl)).trans ((se_r (0 : Int32)).trans ?_)
  cases Op.ifCond.holds .eq (g 31 3)
  · refine (cbf rfl).trans (Eq.trans ?_ (cbf rfl).symm)
    cases Op.ifCond.holds .ne (g 31 2)
    · exact (cbf rfl).trans (cl.trans (cbf rfl).symm)
    · exact (cbt rfl).trans (c0.trans (cbt rfl).symm)
  · exact (cbt rfl).trans (c0.trans (cbt rfl).symm)
set_option maxRecDepth 100000 in
set_option maxHeartbeats 4000000 in
theorem k63_2 (g : im_M) : x63_r0_2 g = (bif Op.ifCond.holds .eq (g (29 + 2 * 2) 3) then some (.inl 1, g) else (bif Op.ifCond.holds .ne (g (29 + 2 * 2) 2) then some (.inl 1, g) else some (.inr 0, im_w (c_rec g 13 (Int32.ofNat 2) (g (29 + 2 * 2) 3)) (29 + 2 * 2) 3 0))) := by
  show x63_r0_2 g = (bif Op.ifCond.holds .eq (g 33 3) then some (.inl 1, g) else (bif Op.ifCond.holds .ne (g 33 2) then some (.inl 1, g) else some (.inr 0, im_w (c_rec g 13 (2 : Int32) (g 33 3)) 33 3 0)))
  have cl : x63_r0_2_1 g 1 = some (.inr 0, im_w (c_rec g 13 (2 : Int32) (g 33 3)) 33 3 0) := by
    unfold x63_r0_2_1
    refine (ob (show x55 g (1 : Int32) = some (.inr 0, g) from rfl)).trans ((se_r (0 : Int32)).trans ?_)
    exact (ob (x15_eq _ _ _ _)).trans rfl
  have c0 : x63_r0_2_1 g 0 = some (.inl 1, g) := rfl
  unfold x63_r0_2
  refine (ob (show x64 g (2 : Int32) = some (.inr 0, g) from rfl)).trans ((se_r (0 : Int32)).trans ?_)
  cases Op.ifCond.holds .eq (g 33 3)
  · refine (cbf rfl).trans (Eq.trans ?_ (cbf rfl).symm)
    cases Op.ifCond.holds .ne (g 33 2)
    · exact (cbf rfl).trans (cl.trans (cbf rfl).symm)
    · exact (cbt rfl).trans (c0.trans (cbt rfl).symm)
  · exact (cbt rfl).trans (c0.trans (cbt rfl).symm)
set_option maxRecDepth 100000 in
set_option maxHeartbeats 4000000 in
theorem k63_3 (g : im_M) : x63_r0_3 g = (bif Op.ifCond.holds .eq (g (29 + 2 * 3) 3) then some (.inl 1, g) else (bif Op.ifCond.holds .ne (g (29 + 2 * 3) 2) then some (.inl 1, g) else some (.inr 0, im_w (c_rec g 13 (Int32.ofNat 3) (g (29 + 2 * 3) 3)) (29 + 2 * 3) 3 0))) := by
  show x63_r0_3 g = (bif Op.ifCond.holds .eq (g 35 3) then some (.inl 1, g) else (bif Op.ifCond.holds .ne (g 35 2) then some (.inl 1, g) else some (.inr 0, im_w (c_rec g 13 (3 : Int32) (g 35 3)) 35 3 0)))
  have cl : x63_r0_3_1 g 1 = some (.inr 0, im_w (c_rec g 13 (3 : Int32) (g 35 3)) 35 3 0) := by
    unfold x63_r0_3_1
    refine (ob (show x55 g (1 : Int32) = some (.inr 0, g) from rfl)).trans ((se_r (0 : Int32)).trans ?_)
    exact (ob (x15_eq _ _ _ _)).trans rfl
  have c0 : x63_r0_3_1 g 0 = some (.inl 1, g) := rfl
  unfold x63_r0_3
  refine (ob (show x64 g (3 : Int32) = some (.inr 0, g) from rfl)).trans ((se_r (0 : Int32)).trans ?_)
  cases Op.ifCond.holds .eq (g 35 3)
  · refine (cbf rfl).trans (Eq.trans ?_ (cbf rfl).symm)
    cases Op.ifCond.holds .ne (g 35 2)
    · exact (cbf rfl).trans (cl.trans (cbf rfl).symm)
    · exact (cbt rfl).trans (c0.trans (cbt rfl).symm)
  · exact (cbt rfl).trans (c0.trans (cbt rfl).symm)
theorem ne_eq (x : Int32) : Op.ifCond.holds .ne x = !(Op.ifCond.holds .eq x) := by
  show (x != 0) = !(x == 0)
  rfl
set_option maxRecDepth 100000 in
set_option maxHeartbeats 4000000 in
theorem q_rst {N : Nat} {g u : im_M} (h : iR N g u) (hN : N < 512) (a : Int32) : ∃ (t : im_T) (g' u' : im_M), (∀ (L : Nat) (xs : Nat → Int32) (o : Nat → Int64) (Y : iv_A), iv_ev (iv_Xs L xs) 63 0 [.ref 3, .int a, .retAddr 0] [] (im_H g u o Y) 0 0 (im_rev t (im_H g' u o Y))) ∧ x106_r37 u a = some (0, u') ∧ iR (N + 1) g' u' ∧ iAo t u' := by
  cases hr : inr a 3
  · have k : x63_t g a = some (.inl 0, g) := by
      unfold x63_t
      exact (ob ((x64_eq g a).trans (by rw [hr]))).trans rfl
    refine ⟨.inl 0, g, im_w u 37 1 1, fun L xs o Y => x63_t_ok k, ?_, iR_f 1 h, Or.inl ⟨rfl, im_w_s _ _ _ _⟩⟩
    unfold x106_r37
    refine (ob (x86_in u a 3)).trans ((cbf (by rw [bi_ne, hr])).trans ?_)
    unfold x106_r37_1
    exact (cbt rfl).trans rfl
  · obtain ⟨t, ht, rfl⟩ := inr_t (by decide) hr
    have p2 := x86_in u (Int32.ofNat t) 3
    rw [hr] at p2
    have h2 := h
    obtain ⟨n, d, hn, hd, hd2, h00, hu0, hJ, hby, hy, hb7, hp, hf, hX, hC, hZ, hT, hF, hQ⟩ := h2
    obtain ⟨hh, ⟨w, w1, w2⟩, q, hq, q1, q2⟩ := hT t (by omega)
    have i1 := iv_in_t (k := t) (n := 4) (by omega) (by omega)
    have i2 := Int32.toNatClampNeg_ofNat_of_lt (n := t) (by omega)
    have e3 : g (29 + 2 * t) 3 = u 53 t := q1.trans q2.symm
    have e2 : g (29 + 2 * t) 2 = u 52 t := w1.trans w2.symm
    have run : ∀ (t' : im_T) (g' : im_M), (bif Op.ifCond.holds .eq (g (29 + 2 * t) 3) then some (.inl 1, g) else (bif Op.ifCond.holds .ne (g (29 + 2 * t) 2) then some (.inl 1, g) else some (.inr 0, im_w (c_rec g 13 (Int32.ofNat t) (g (29 + 2 * t) 3)) (29 + 2 * t) 3 0))) = some (t', g') → ∀ (L : Nat) (xs : Nat → Int32) (o : Nat → Int64) (Y : iv_A), iv_ev (iv_Xs L xs) 63 0 [.ref 3, .int (Int32.ofNat t), .retAddr 0] [] (im_H g u o Y) 0 0 (im_rev t' (im_H g' u o Y)) := fun t' g' he L xs o Y => by
      rcases four ht with h4 | h4 | h4 | h4 <;> subst h4
      · exact x63_r0_0_ok ((k63_0 g).trans he)
      · exact x63_r0_1_ok ((k63_1 g).trans he)
      · exact x63_r0_2_ok ((k63_2 g).trans he)
      · exact x63_r0_3_ok ((k63_3 g).trans he)
    have m2 : x106_r37_1 u (Int32.ofNat t) 2 = some (0, im_w u 37 1 2) := by
      unfold x106_r37_1
      exact (cbt rfl).trans rfl
    have st : iR (N + 1) g (im_w u 37 1 2) ∧ iAo (.inl 1) (im_w u 37 1 2) := ⟨iR_f 2 h, Or.inr (Or.inl ⟨rfl, im_w_s _ _ _ _⟩)⟩
    have mm : x106_r37 u (Int32.ofNat t) = (bif Op.ifCond.holds .eq (u 53 t) then x106_r37_1 u (Int32.ofNat t) 2 else (bif Op.ifCond.holds .eq (u 52 t) then x106_r37_1 u (Int32.ofNat t) 0 else x106_r37_1 u (Int32.ofNat t) 2)) := by
      unfold x106_r37
      refine (ob p2).trans ((cbt rfl).trans ((cbt i1).trans ?_))
      show (bif Op.ifCond.holds .eq (u 53 (Int32.ofNat t).toNatClampNeg) then _ else (bif Op.ifCond.holds .eq (u 52 (Int32.ofNat t).toNatClampNeg) then _ else _)) = _
      rw [i2]
    cases c3 : Op.ifCond.holds .eq (u 53 t)
    · cases c2 : Op.ifCond.holds .eq (u 52 t)
      · exact ⟨.inl 1, g, im_w u 37 1 2, run _ _ ((cbf (by rw [e3]; exact c3)).trans (cbt (by rw [e2, ne_eq, c2]; rfl))), mm.trans ((cbf c3).trans ((cbf c2).trans m2)), st.1, st.2⟩
      · obtain ⟨e, he, j1, j2⟩ := hJ.2.2.1
        obtain ⟨gN, egN⟩ : ∃ gN : im_M, gN = im_w (c_rec g 13 (Int32.ofNat t) (g (29 + 2 * t) 3)) (29 + 2 * t) 3 0 := ⟨_, rfl⟩
        obtain ⟨uN, euN⟩ : ∃ uN : im_M, uN = im_w (m_note (im_w u 37 1 0) 13 (Int32.ofNat t) (g (29 + 2 * t) 3)) 53 t 0 := ⟨_, rfl⟩
        have m0 : x106_r37_1 u (Int32.ofNat t) 0 = some (0, uN) := by
          unfold x106_r37_1
          refine (cbf rfl).trans ((cbt i1).trans ?_)
          rw [i2, euN, e3]
          exact (ob (x94_eq (u := im_w u 37 1 0) (e := e) (by omega) j2 _ _ _)).trans rfl
        have go : ∀ r : Nat, r ≠ 1 → r ≠ 2 → r ≠ 29 + 2 * t → gN r = g r := fun r a0 a1 a2 => by rw [egN, im_w_o _ _ _ a2, c_rec_o _ _ _ _ a0 a1]
        have uo : ∀ r : Nat, r ≠ 37 → r ≠ 54 → r ≠ 55 → r ≠ 56 → r ≠ 57 → r ≠ 53 → uN r = u r := fun r a0 a1 a2 a3 a4 a5 => by rw [euN, im_w_o _ _ _ a5, m_note_o _ _ _ _ a0 a1 a2 a3 a4, im_w_o _ _ _ a0]
        have u7 : ∀ i : Nat, i ≠ 1 → i ≠ 22 → uN 37 i = u 37 i := fun i a0 a1 => by rw [euN, im_w_o _ _ _ (show (37 : Nat) ≠ 53 by decide), m_note_37 _ _ _ _ a1, im_w_k _ _ _ a0]
        have u1 : uN 37 1 = 0 := by rw [euN, im_w_o _ _ _ (show (37 : Nat) ≠ 53 by decide), m_note_37 _ _ _ _ (by decide), im_w_s]
        have u53 : uN 53 = upd (u 53) t 0 := by
          have e9 : m_note (im_w u 37 1 0) 13 (Int32.ofNat t) (g (29 + 2 * t) 3) 53 = u 53 := by rw [m_note_o _ _ _ _ (by decide) (by decide) (by decide) (by decide) (by decide), im_w_o _ _ _ (by decide)]
          rw [euN]
          show upd (m_note (im_w u 37 1 0) 13 (Int32.ofNat t) (g (29 + 2 * t) 3) 53) t 0 = _
          rw [e9]
        have JN : iJ n (80 * N + 1) gN uN := by
          rw [egN, euN]
          exact iJ_fr (iJ_rec (iJ_fr (u' := im_w u 37 1 0) hJ rfl rfl rfl rfl rfl rfl rfl rfl) (by omega) _ _ _) (im_w_o _ _ _ (by omega)) (im_w_o _ _ _ (by omega)) rfl rfl rfl rfl rfl rfl
        refine ⟨.inr 0, gN, uN, run _ _ ((cbf (by rw [e3]; exact c3)).trans ((cbf (by rw [e2, ne_eq, c2]; rfl)).trans (by rw [egN]))), mm.trans ((cbf c3).trans ((cbt c2).trans m0)), ⟨n, d, by omega, hd, hd2, ?_, (u7 0 (by decide) (by decide)).trans hu0, iJ_le JN (by omega), ?_, ?_, ?_, ?_, ?_, ?_, ?_, ?_, ?_, ?_, ?_⟩, Or.inr (Or.inr ⟨rfl, u1⟩)⟩
        · rw [go 0 (by omega) (by omega) (by omega)]
          exact h00
        · rw [go 0 (by omega) (by omega) (by omega)]
          exact hby
        · rw [go 0 (by omega) (by omega) (by omega), u7 19 (by decide) (by decide)]
          exact hy
        · rw [go 0 (by omega) (by omega) (by omega), u7 27 (by decide) (by decide)]
          exact hb7
        · rw [go 8 (by omega) (by omega) (by omega), u7 28 (by decide) (by decide)]
          exact hp
        · rw [go 8 (by omega) (by omega) (by omega), u7 29 (by decide) (by decide)]
          exact hf
        · exact iX_fr hX (go 8 (by omega) (by omega) (by omega)) (u7 20 (by decide) (by decide)) (u7 21 (by decide) (by decide))
        · intro c' hc'
          exact iC_fr (hC c' hc') (go _ (by omega) (by omega) (by omega)) (go _ (by omega) (by omega) (by omega)) (go _ (by omega) (by omega) (by omega)) (go _ (by omega) (by omega) (by omega)) (go _ (by omega) (by omega) (by omega)) (uo _ (by decide) (by decide) (by decide) (by decide) (by decide) (by decide)) (uo _ (by decide) (by decide) (by decide) (by decide) (by decide) (by decide)) (uo _ (by decide) (by decide) (by decide) (by decide) (by decide) (by decide)) (uo _ (by decide) (by decide) (by decide) (by decide) (by decide) (by decide)) (uo _ (by decide) (by decide) (by decide) (by decide) (by decide) (by decide)) (uo _ (by decide) (by decide) (by decide) (by decide) (by decide) (by decide)) (uo _ (by decide) (by decide) (by decide) (by decide) (by decide) (by decide))
        · intro m k r1 r2 r3
          exact iZ_fr (hZ m k r1 r2 r3) (uo _ (by decide) (by decide) (by decide) (by decide) (by decide) (by decide)) (uo _ (by decide) (by decide) (by decide) (by decide) (by decide) (by decide)) (uo _ (by decide) (by decide) (by decide) (by decide) (by decide) (by decide))
        · intro t' ht'
          by_cases htt : t' = t
          · subst htt
            refine ⟨fun c hc => ?_, ⟨w, ?_, ?_⟩, 0, by decide, ?_, ?_⟩
            · rw [uo 50 (by decide) (by decide) (by decide) (by decide) (by decide) (by decide), go _ (by omega) (by omega) (by omega)]
              exact hh c hc
            · rw [egN, im_w_k _ _ _ (by decide), c_rec_o _ _ _ _ (by omega) (by omega)]
              exact w1
            · rw [uo 52 (by decide) (by decide) (by decide) (by decide) (by decide) (by decide)]
              exact w2
            · rw [egN, im_w_s]
              rfl
            · rw [u53, upd_s]
              rfl
          · exact iT_fr (hT t' ht') (go _ (by omega) (by omega) (by omega)) (go _ (by omega) (by omega) (by omega)) (fun c hc => by rw [uo _ (by decide) (by decide) (by decide) (by decide) (by decide) (by decide)]) (by rw [uo _ (by decide) (by decide) (by decide) (by decide) (by decide) (by decide)]) (by rw [u53, upd_o _ _ htt])
        · exact iF_fr hF (go _ (by omega) (by omega) (by omega)) (uo _ (by decide) (by decide) (by decide) (by decide) (by decide) (by decide)) (uo _ (by decide) (by decide) (by decide) (by decide) (by decide) (by decide)) (uo _ (by decide) (by decide) (by decide) (by decide) (by decide) (by decide))
        · intro c' hc' t' ht'
          exact iQ1_fr (hQ c' hc' t' ht') (go _ (by omega) (by omega) (by omega)) (uo _ (by decide) (by decide) (by decide) (by decide) (by decide) (by decide)) (uo _ (by decide) (by decide) (by decide) (by decide) (by decide) (by decide))
    · exact ⟨.inl 1, g, im_w u 37 1 2, run _ _ (cbt (by rw [e3]; exact c3)), mm.trans ((cbt c3).trans m2), st.1, st.2⟩
def iAs (t : im_T) (u' : im_M) : Prop := (t = .inl 0 ∧ u' 37 1 = 1) ∨ (t = .inr 0 ∧ u' 37 1 = 0)
set_option maxRecDepth 100000 in
set_option maxHeartbeats 4000000 in
theorem q_flt {N : Nat} {g u : im_M} (h : iR N g u) (a a2 v : Int32) : ∃ (t : im_T) (g' u' : im_M), (∀ (L : Nat) (xs : Nat → Int32) (o : Nat → Int64) (Y : iv_A), iv_ev (iv_Xs L xs) 66 0 [.ref 3, .int a, .int a2, .int v] [] (im_H g u o Y) 0 0 (im_rev t (im_H g' u o Y))) ∧ x107_r37 u a a2 v = some (0, u') ∧ iR (N + 1) g' u' ∧ iAs t u' := by
  have m1 : x107_r37_1 u a a2 v 1 = some (0, im_w u 37 1 1) := by
    unfold x107_r37_1
    exact (cbt rfl).trans rfl
  cases hr : inr a 3
  · have k : x66_t g a a2 v = some (.inl 0, g) := by
      unfold x66_t
      exact (ob ((x43_eq g a).trans (by rw [hr]))).trans rfl
    refine ⟨.inl 0, g, im_w u 37 1 1, fun L xs o Y => x66_t_ok k, ?_, iR_f 1 h, Or.inl ⟨rfl, im_w_s _ _ _ _⟩⟩
    unfold x107_r37
    exact (ob (x86_in u a 3)).trans ((cbt (by rw [bi_eq, hr]; rfl)).trans m1)
  · cases hr2 : inr a2 3
    · have k : x66_t g a a2 v = some (.inl 0, g) := by
        unfold x66_t
        refine (ob ((x43_eq g a).trans (by rw [hr]; rfl))).trans ((se_r (0 : Int32)).trans ?_)
        exact (ob ((x64_eq g a2).trans (by rw [hr2]))).trans rfl
      refine ⟨.inl 0, g, im_w u 37 1 1, fun L xs o Y => x66_t_ok k, ?_, iR_f 1 h, Or.inl ⟨rfl, im_w_s _ _ _ _⟩⟩
      unfold x107_r37
      exact (ob (x86_in u a 3)).trans ((cbf (by rw [bi_eq, hr]; rfl)).trans ((ob (x86_in u a2 3)).trans ((cbt (by rw [bi_eq, hr2]; rfl)).trans m1)))
    · obtain ⟨c, hc, rfl⟩ := inr_t (by decide) hr
      obtain ⟨t, ht, rfl⟩ := inr_t (by decide) hr2
      have h2 := h
      obtain ⟨n, d, hn, hd, hd2, h00, hu0, hJ, hby, hy, hb7, hp, hf, hX, hC, hZ, hT, hF, hQ⟩ := h2
      obtain ⟨gN, egN⟩ : ∃ gN : im_M, gN = im_w g 7 (4 * c + t) (v &&& (16777215 : Int32)) := ⟨_, rfl⟩
      obtain ⟨uN, euN⟩ : ∃ uN : im_M, uN = im_w (im_w (im_w u 37 1 0) 48 (4 * t + c) 1) 49 (4 * t + c) v := ⟨_, rfl⟩
      have m0 : x107_r37_1 u (Int32.ofNat c) (Int32.ofNat t) v 0 = some (0, uN) := by
        unfold x107_r37_1
        rw [is_i4, Int32.toNatClampNeg_ofNat_of_lt (by omega), euN]
        exact (cbf rfl).trans ((cbt (iv_in_t (by omega) (by omega))).trans rfl)
      have go : ∀ r : Nat, r ≠ 7 → gN r = g r := fun r a0 => by rw [egN, im_w_o _ _ _ a0]
      have uo : ∀ r : Nat, r ≠ 37 → r ≠ 48 → r ≠ 49 → uN r = u r := fun r a0 a1 a2 => by rw [euN, im_w_o _ _ _ a2, im_w_o _ _ _ a1, im_w_o _ _ _ a0]
      have u7 : ∀ i : Nat, i ≠ 1 → uN 37 i = u 37 i := fun i a0 => by rw [euN, im_w_o _ _ _ (show (37 : Nat) ≠ 49 by decide), im_w_o _ _ _ (show (37 : Nat) ≠ 48 by decide), im_w_k _ _ _ a0]
      have u1 : uN 37 1 = 0 := by
        rw [euN]
        rfl
      refine ⟨.inr 0, gN, uN, fun L xs o Y => ?_, ?_, ⟨n, d, by omega, hd, hd2, ?_, (u7 0 (by decide)).trans hu0, iJ_le (iJ_fr hJ (go _ (by decide)) (go _ (by decide)) (u7 _ (by decide)) (u7 _ (by decide)) (uo _ (by decide) (by decide) (by decide)) (uo _ (by decide) (by decide) (by decide)) (uo _ (by decide) (by decide) (by decide)) (uo _ (by decide) (by decide) (by decide))) (by omega), ?_, ?_, ?_, ?_, ?_, ?_, ?_, ?_, ?_, ?_, ?_⟩, Or.inr ⟨rfl, u1⟩⟩
      · rw [egN]
        rcases four hc with h4 | h4 | h4 | h4 <;> subst h4 <;> rcases four ht with h5 | h5 | h5 | h5 <;> subst h5
        · exact x66_r0_0_0_ok rfl
        · exact x66_r0_0_1_ok rfl
        · exact x66_r0_0_2_ok rfl
        · exact x66_r0_0_3_ok rfl
        · exact x66_r0_1_0_ok rfl
        · exact x66_r0_1_1_ok rfl
        · exact x66_r0_1_2_ok rfl
        · exact x66_r0_1_3_ok rfl
        · exact x66_r0_2_0_ok rfl
        · exact x66_r0_2_1_ok rfl
        · exact x66_r0_2_2_ok rfl
        · exact x66_r0_2_3_ok rfl
        · exact x66_r0_3_0_ok rfl
        · exact x66_r0_3_1_ok rfl
        · exact x66_r0_3_2_ok rfl
        · exact x66_r0_3_3_ok rfl
      · unfold x107_r37
        exact (ob (x86_in u _ 3)).trans ((cbf (by rw [bi_eq, hr]; rfl)).trans ((ob (x86_in u _ 3)).trans ((cbf (by rw [bi_eq, hr2]; rfl)).trans m0)))
      · rw [go 0 (by decide)]
        exact h00
      · rw [go 0 (by decide)]
        exact hby
      · rw [go 0 (by decide), u7 19 (by decide)]
        exact hy
      · rw [go 0 (by decide), u7 27 (by decide)]
        exact hb7
      · rw [go 8 (by decide), u7 28 (by decide)]
        exact hp
      · rw [go 8 (by decide), u7 29 (by decide)]
        exact hf
      · exact iX_fr hX (go 8 (by decide)) (u7 20 (by decide)) (u7 21 (by decide))
      · intro c' hc'
        exact iC_fr (hC c' hc') (go _ (by omega)) (go _ (by omega)) (go _ (by omega)) (go _ (by omega)) (go _ (by omega)) (uo _ (by decide) (by decide) (by decide)) (uo _ (by decide) (by decide) (by decide)) (uo _ (by decide) (by decide) (by decide)) (uo _ (by decide) (by decide) (by decide)) (uo _ (by decide) (by decide) (by decide)) (uo _ (by decide) (by decide) (by decide)) (uo _ (by decide) (by decide) (by decide))
      · intro m k r1 r2 r3
        exact iZ_fr (hZ m k r1 r2 r3) (uo _ (by decide) (by decide) (by decide)) (uo _ (by decide) (by decide) (by decide)) (uo _ (by decide) (by decide) (by decide))
      · intro t' ht'
        exact iT_fr (hT t' ht') (go _ (by omega)) (go _ (by omega)) (fun c hc => by rw [uo _ (by decide) (by decide) (by decide)]) (by rw [uo _ (by decide) (by decide) (by decide)]) (by rw [uo _ (by decide) (by decide) (by decide)])
      · exact iF_fr hF (go _ (by decide)) (uo _ (by decide) (by decide) (by decide)) (uo _ (by decide) (by decide) (by decide)) (uo _ (by decide) (by decide) (by decide))
      · intro c' hc' t' ht'
        by_cases hq : c' = c ∧ t' = t
        · obtain ⟨r1, r2⟩ := hq
          subst r1 r2
          refine Or.inr ⟨?_, ?_⟩
          · rw [euN, im_w_o _ _ _ (show (48 : Nat) ≠ 49 by decide), im_w_s]
          · rw [egN, im_w_s, euN, im_w_s]
        · have e7 : gN 7 (4 * c' + t') = g 7 (4 * c' + t') := by rw [egN, im_w_k _ _ _ (by omega)]
          have e8 : uN 48 (4 * t' + c') = u 48 (4 * t' + c') := by rw [euN, im_w_o _ _ _ (show (48 : Nat) ≠ 49 by decide), im_w_k _ _ _ (by omega)]; rfl
          have e9 : uN 49 (4 * t' + c') = u 49 (4 * t' + c') := by rw [euN, im_w_k _ _ _ (by omega)]; rfl
          unfold iQ1
          rw [e7, e8, e9]
          exact hQ c' hc' t' ht'
set_option maxRecDepth 100000 in
set_option maxHeartbeats 4000000 in
theorem k42_0_0 (g : im_M) (v : Int32) : x42_r0_0_0 g v = (bif inr v 4095 then some (.inr 0, im_w (im_w g (10 + 5 * 0) 0 v) (9 + 5 * 0) 5 ((g (9 + 5 * 0) 5) ||| c_msk 0)) else some (.inl 0, g)) := by
  show x42_r0_0_0 g v = (bif inr v 4095 then some (.inr 0, im_w (im_w g 10 0 v) 9 5 ((g 9 5) ||| (1 : Int32))) else some (.inl 0, g))
  have c1 : x42_r0_0_0_1 g v 1 = some (.inr 0, im_w (im_w g 10 0 v) 9 5 ((g 9 5) ||| (1 : Int32))) := rfl
  have c0 : x42_r0_0_0_1 g v 0 = some (.inl 0, g) := rfl
  unfold x42_r0_0_0
  refine (ob (show x43 g (0 : Int32) = some (.inr 0, g) from rfl)).trans ((se_r (0 : Int32)).trans ?_)
  refine (ob (show x49 g (0 : Int32) = some (.inr 0, g) from rfl)).trans ((se_r (0 : Int32)).trans ?_)
  unfold inr
  cases Op.ifCond.holds .lt v
  · refine (cbf rfl).trans ?_
    cases h : Op.if_icmp.holds .gt v (4095 : Int32)
    · exact (cbf rfl).trans c1
    · exact (cbt rfl).trans c0
  · exact (cbt rfl).trans c0
set_option maxRecDepth 100000 in
set_option maxHeartbeats 4000000 in
theorem k42_0_1 (g : im_M) (v : Int32) : x42_r0_0_1 g v = (bif inr v 4095 then some (.inr 0, im_w (im_w g (10 + 5 * 0) 1 v) (9 + 5 * 0) 5 ((g (9 + 5 * 0) 5) ||| c_msk 1)) else some (.inl 0, g)) := by
  show x42_r0_0_1 g v = (bif inr v 4095 then some (.inr 0, im_w (im_w g 10 1 v) 9 5 ((g 9 5) ||| (2 : Int32))) else some (.inl 0, g))
  have c1 : x42_r0_0_1_1 g v 1 = some (.inr 0, im_w (im_w g 10 1 v) 9 5 ((g 9 5) ||| (2 : Int32))) := rfl
  have c0 : x42_r0_0_1_1 g v 0 = some (.inl 0, g) := rfl
  unfold x42_r0_0_1
  refine (ob (show x43 g (0 : Int32) = some (.inr 0, g) from rfl)).trans ((se_r (0 : Int32)).trans ?_)
  refine (ob (show x49 g (1 : Int32) = some (.inr 0, g) from rfl)).trans ((se_r (0 : Int32)).trans ?_)
  unfold inr
  cases Op.ifCond.holds .lt v
  · refine (cbf rfl).trans ?_
    cases h : Op.if_icmp.holds .gt v (4095 : Int32)
    · exact (cbf rfl).trans c1
    · exact (cbt rfl).trans c0
  · exact (cbt rfl).trans c0
set_option maxRecDepth 100000 in
set_option maxHeartbeats 4000000 in
theorem k42_0_2 (g : im_M) (v : Int32) : x42_r0_0_2 g v = (bif inr v 4095 then some (.inr 0, im_w (im_w g (10 + 5 * 0) 2 v) (9 + 5 * 0) 5 ((g (9 + 5 * 0) 5) ||| c_msk 2)) else some (.inl 0, g)) := by
  show x42_r0_0_2 g v = (bif inr v 4095 then some (.inr 0, im_w (im_w g 10 2 v) 9 5 ((g 9 5) ||| (4 : Int32))) else some (.inl 0, g))
  have c1 : x42_r0_0_2_1 g v 1 = some (.inr 0, im_w (im_w g 10 2 v) 9 5 ((g 9 5) ||| (4 : Int32))) := rfl
  have c0 : x42_r0_0_2_1 g v 0 = some (.inl 0, g) := rfl
  unfold x42_r0_0_2
  refine (ob (show x43 g (0 : Int32) = some (.inr 0, g) from rfl)).trans ((se_r (0 : Int32)).trans ?_)
  refine (ob (show x49 g (2 : Int32) = some (.inr 0, g) from rfl)).trans ((se_r (0 : Int32)).trans ?_)
  unfold inr
  cases Op.ifCond.holds .lt v
  · refine (cbf rfl).trans ?_
    cases h : Op.if_icmp.holds .gt v (4095 : Int32)
    · exact (cbf rfl).trans c1
    · exact (cbt rfl).trans c0
  · exact (cbt rfl).trans c0
set_option maxRecDepth 100000 in
set_option maxHeartbeats 4000000 in
theorem k42_1_0 (g : im_M) (v : Int32) : x42_r0_1_0 g v = (bif inr v 4095 then some (.inr 0, im_w (im_w g (10 + 5 * 1) 0 v) (9 + 5 * 1) 5 ((g (9 + 5 * 1) 5) ||| c_msk 0)) else some (.inl 0, g)) := by
  show x42_r0_1_0 g v = (bif inr v 4095 then some (.inr 0, im_w (im_w g 15 0 v) 14 5 ((g 14 5) ||| (1 : Int32))) else some (.inl 0, g))
  have c1 : x42_r0_1_0_1 g v 1 = some (.inr 0, im_w (im_w g 15 0 v) 14 5 ((g 14 5) ||| (1 : Int32))) := rfl
  have c0 : x42_r0_1_0_1 g v 0 = some (.inl 0, g) := rfl
  unfold x42_r0_1_0
  refine (ob (show x43 g (1 : Int32) = some (.inr 0, g) from rfl)).trans ((se_r (0 : Int32)).trans ?_)
  refine (ob (show x49 g (0 : Int32) = some (.inr 0, g) from rfl)).trans ((se_r (0 : Int32)).trans ?_)
  unfold inr
  cases Op.ifCond.holds .lt v
  · refine (cbf rfl).trans ?_
    cases h : Op.if_icmp.holds .gt v (4095 : Int32)
    · exact (cbf rfl).trans c1
    · exact (cbt rfl).trans c0
  · exact (cbt rfl).trans c0
set_option maxRecDepth 100000 in
set_option maxHeartbeats 4000000 in
theorem k42_1_1 (g : im_M) (v : Int32) : x42_r0_1_1 g v = (bif inr v 4095 then some (.inr 0, im_w (im_w g (10 + 5 * 1) 1 v) (9 + 5 * 1) 5 ((g (9 + 5 * 1) 5) ||| c_msk 1)) else some (.inl 0, g)) := by
  show x42_r0_1_1 g v = (bif inr v 4095 then some (.inr 0, im_w (im_w g 15 1 v) 14 5 ((g 14 5) ||| (2 : Int32))) else some (.inl 0, g))
  have c1 : x42_r0_1_1_1 g v 1 = some (.inr 0, im_w (im_w g 15 1 v) 14 5 ((g 14 5) ||| (2 : Int32))) := rfl
  have c0 : x42_r0_1_1_1 g v 0 = some (.inl 0, g) := rfl
  unfold x42_r0_1_1
  refine (ob (show x43 g (1 : Int32) = some (.inr 0, g) from rfl)).trans ((se_r (0 : Int32)).trans ?_)
  refine (ob (show x49 g (1 : Int32) = some (.inr 0, g) from rfl)).trans ((se_r (0 : Int32)).trans ?_)
  unfold inr
  cases Op.ifCond.holds .lt v
  · refine (cbf rfl).trans ?_
    cases h : Op.if_icmp.holds .gt v (4095 : Int32)
    · exact (cbf rfl).trans c1
    · exact (cbt rfl).trans c0
  · exact (cbt rfl).trans c0
set_option maxRecDepth 100000 in
set_option maxHeartbeats 4000000 in
theorem k42_1_2 (g : im_M) (v : Int32) : x42_r0_1_2 g v = (bif inr v 4095 then some (.inr 0, im_w (im_w g (10 + 5 * 1) 2 v) (9 + 5 * 1) 5 ((g (9 + 5 * 1) 5) ||| c_msk 2)) else some (.inl 0, g)) := by
  show x42_r0_1_2 g v = (bif inr v 4095 then some (.inr 0, im_w (im_w g 15 2 v) 14 5 ((g 14 5) ||| (4 : Int32))) else some (.inl 0, g))
  have c1 : x42_r0_1_2_1 g v 1 = some (.inr 0, im_w (im_w g 15 2 v) 14 5 ((g 14 5) ||| (4 : Int32))) := rfl
  have c0 : x42_r0_1_2_1 g v 0 = some (.inl 0, g) := rfl
  unfold x42_r0_1_2
  refine (ob (show x43 g (1 : Int32) = some (.inr 0, g) from rfl)).trans ((se_r (0 : Int32)).trans ?_)
  refine (ob (show x49 g (2 : Int32) = some (.inr 0, g) from rfl)).trans ((se_r (0 : Int32)).trans ?_)
  unfold inr
  cases Op.ifCond.holds .lt v
  · refine (cbf rfl).trans ?_
    cases h : Op.if_icmp.holds .gt v (4095 : Int32)
    · exact (cbf rfl).trans c1
    · exact (cbt rfl).trans c0
  · exact (cbt rfl).trans c0
set_option maxRecDepth 100000 in
set_option maxHeartbeats 4000000 in
theorem k42_2_0 (g : im_M) (v : Int32) : x42_r0_2_0 g v = (bif inr v 4095 then some (.inr 0, im_w (im_w g (10 + 5 * 2) 0 v) (9 + 5 * 2) 5 ((g (9 + 5 * 2) 5) ||| c_msk 0)) else some (.inl 0, g)) := by
  show x42_r0_2_0 g v = (bif inr v 4095 then some (.inr 0, im_w (im_w g 20 0 v) 19 5 ((g 19 5) ||| (1 : Int32))) else some (.inl 0, g))
  have c1 : x42_r0_2_0_1 g v 1 = some (.inr 0, im_w (im_w g 20 0 v) 19 5 ((g 19 5) ||| (1 : Int32))) := rfl
  have c0 : x42_r0_2_0_1 g v 0 = some (.inl 0, g) := rfl
  unfold x42_r0_2_0
  refine (ob (show x43 g (2 : Int32) = some (.inr 0, g) from rfl)).trans ((se_r (0 : Int32)).trans ?_)
  refine (ob (show x49 g (0 : Int32) = some (.inr 0, g) from rfl)).trans ((se_r (0 : Int32)).trans ?_)
  unfold inr
  cases Op.ifCond.holds .lt v
  · refine (cbf rfl).trans ?_
    cases h : Op.if_icmp.holds .gt v (4095 : Int32)
    · exact (cbf rfl).trans c1
    · exact (cbt rfl).trans c0
  · exact (cbt rfl).trans c0
set_option maxRecDepth 100000 in
set_option maxHeartbeats 4000000 in
theorem k42_2_1 (g : im_M) (v : Int32) : x42_r0_2_1 g v = (bif inr v 4095 then some (.inr 0, im_w (im_w g (10 + 5 * 2) 1 v) (9 + 5 * 2) 5 ((g (9 + 5 * 2) 5) ||| c_msk 1)) else some (.inl 0, g)) := by
  show x42_r0_2_1 g v = (bif inr v 4095 then some (.inr 0, im_w (im_w g 20 1 v) 19 5 ((g 19 5) ||| (2 : Int32))) else some (.inl 0, g))
  have c1 : x42_r0_2_1_1 g v 1 = some (.inr 0, im_w (im_w g 20 1 v) 19 5 ((g 19 5) ||| (2 : Int32))) := rfl
  have c0 : x42_r0_2_1_1 g v 0 = some (.inl 0, g) := rfl
  unfold x42_r0_2_1
  refine (ob (show x43 g (2 : Int32) = some (.inr 0, g) from rfl)).trans ((se_r (0 : Int32)).trans ?_)
  refine (ob (show x49 g (1 : Int32) = some (.inr 0, g) from rfl)).trans ((se_r (0 : Int32)).trans ?_)
  unfold inr
  cases Op.ifCond.holds .lt v
  · refine (cbf rfl).trans ?_
    cases h : Op.if_icmp.holds .gt v (4095 : Int32)
    · exact (cbf rfl).trans c1
    · exact (cbt rfl).trans c0
  · exact (cbt rfl).trans c0
set_option maxRecDepth 100000 in
set_option maxHeartbeats 4000000 in
theorem k42_2_2 (g : im_M) (v : Int32) : x42_r0_2_2 g v = (bif inr v 4095 then some (.inr 0, im_w (im_w g (10 + 5 * 2) 2 v) (9 + 5 * 2) 5 ((g (9 + 5 * 2) 5) ||| c_msk 2)) else some (.inl 0, g)) := by
  show x42_r0_2_2 g v = (bif inr v 4095 then some (.inr 0, im_w (im_w g 20 2 v) 19 5 ((g 19 5) ||| (4 : Int32))) else some (.inl 0, g))
  have c1 : x42_r0_2_2_1 g v 1 = some (.inr 0, im_w (im_w g 20 2 v) 19 5 ((g 19 5) ||| (4 : Int32))) := rfl
  have c0 : x42_r0_2_2_1 g v 0 = some (.inl 0, g) := rfl
  unfold x42_r0_2_2
  refine (ob (show x43 g (2 : Int32) = some (.inr 0, g) from rfl)).trans ((se_r (0 : Int32)).trans ?_)
  refine (ob (show x49 g (2 : Int32) = some (.inr 0, g) from rfl)).trans ((se_r (0 : Int32)).trans ?_)
  unfold inr
  cases Op.ifCond.holds .lt v
  · refine (cbf rfl).trans ?_
    cases h : Op.if_icmp.holds .gt v (4095 : Int32)
    · exact (cbf rfl).trans c1
    · exact (cbt rfl).trans c0
  · exact (cbt rfl).trans c0
set_option maxRecDepth 100000 in
set_option maxHeartbeats 4000000 in
theorem k42_3_0 (g : im_M) (v : Int32) : x42_r0_3_0 g v = (bif inr v 4095 then some (.inr 0, im_w (im_w g (10 + 5 * 3) 0 v) (9 + 5 * 3) 5 ((g (9 + 5 * 3) 5) ||| c_msk 0)) else some (.inl 0, g)) := by
  show x42_r0_3_0 g v = (bif inr v 4095 then some (.inr 0, im_w (im_w g 25 0 v) 24 5 ((g 24 5) ||| (1 : Int32))) else some (.inl 0, g))
  have c1 : x42_r0_3_0_1 g v 1 = some (.inr 0, im_w (im_w g 25 0 v) 24 5 ((g 24 5) ||| (1 : Int32))) := rfl
  have c0 : x42_r0_3_0_1 g v 0 = some (.inl 0, g) := rfl
  unfold x42_r0_3_0
  refine (ob (show x43 g (3 : Int32) = some (.inr 0, g) from rfl)).trans ((se_r (0 : Int32)).trans ?_)
  refine (ob (show x49 g (0 : Int32) = some (.inr 0, g) from rfl)).trans ((se_r (0 : Int32)).trans ?_)
  unfold inr
  cases Op.ifCond.holds .lt v
  · refine (cbf rfl).trans ?_
    cases h : Op.if_icmp.holds .gt v (4095 : Int32)
    · exact (cbf rfl).trans c1
    · exact (cbt rfl).trans c0
  · exact (cbt rfl).trans c0
set_option maxRecDepth 100000 in
set_option maxHeartbeats 4000000 in
theorem k42_3_1 (g : im_M) (v : Int32) : x42_r0_3_1 g v = (bif inr v 4095 then some (.inr 0, im_w (im_w g (10 + 5 * 3) 1 v) (9 + 5 * 3) 5 ((g (9 + 5 * 3) 5) ||| c_msk 1)) else some (.inl 0, g)) := by
  show x42_r0_3_1 g v = (bif inr v 4095 then some (.inr 0, im_w (im_w g 25 1 v) 24 5 ((g 24 5) ||| (2 : Int32))) else some (.inl 0, g))
  have c1 : x42_r0_3_1_1 g v 1 = some (.inr 0, im_w (im_w g 25 1 v) 24 5 ((g 24 5) ||| (2 : Int32))) := rfl
  have c0 : x42_r0_3_1_1 g v 0 = some (.inl 0, g) := rfl
  unfold x42_r0_3_1
  refine (ob (show x43 g (3 : Int32) = some (.inr 0, g) from rfl)).trans ((se_r (0 : Int32)).trans ?_)
  refine (ob (show x49 g (1 : Int32) = some (.inr 0, g) from rfl)).trans ((se_r (0 : Int32)).trans ?_)
  unfold inr
  cases Op.ifCond.holds .lt v
  · refine (cbf rfl).trans ?_
    cases h : Op.if_icmp.holds .gt v (4095 : Int32)
    · exact (cbf rfl).trans c1
    · exact (cbt rfl).trans c0
  · exact (cbt rfl).trans c0
set_option maxRecDepth 100000 in
set_option maxHeartbeats 4000000 in
theorem k42_3_2 (g : im_M) (v : Int32) : x42_r0_3_2 g v = (bif inr v 4095 then some (.inr 0, im_w (im_w g (10 + 5 * 3) 2 v) (9 + 5 * 3) 5 ((g (9 + 5 * 3) 5) ||| c_msk 2)) else some (.inl 0, g)) := by
  show x42_r0_3_2 g v = (bif inr v 4095 then some (.inr 0, im_w (im_w g 25 2 v) 24 5 ((g 24 5) ||| (4 : Int32))) else some (.inl 0, g))
  have c1 : x42_r0_3_2_1 g v 1 = some (.inr 0, im_w (im_w g 25 2 v) 24 5 ((g 24 5) ||| (4 : Int32))) := rfl
  have c0 : x42_r0_3_2_1 g v 0 = some (.inl 0, g) := rfl
  unfold x42_r0_3_2
  refine (ob (show x43 g (3 : Int32) = some (.inr 0, g) from rfl)).trans ((se_r (0 : Int32)).trans ?_)
  refine (ob (show x49 g (2 : Int32) = some (.inr 0, g) from rfl)).trans ((se_r (0 : Int32)).trans ?_)
  unfold inr
  cases Op.ifCond.holds .lt v
  · refine (cbf rfl).trans ?_
    cases h : Op.if_icmp.holds .gt v (4095 : Int32)
    · exact (cbf rfl).trans c1
    · exact (cbt rfl).trans c0
  · exact (cbt rfl).trans c0
set_option maxRecDepth 100000 in
set_option maxHeartbeats 4000000 in
theorem q_sen {N : Nat} {g u : im_M} (h : iR N g u) (a a2 v : Int32) : ∃ (t : im_T) (g' u' : im_M), (∀ (L : Nat) (xs : Nat → Int32) (o : Nat → Int64) (Y : iv_A), iv_ev (iv_Xs L xs) 42 0 [.ref 3, .int a, .int a2, .int v] [] (im_H g u o Y) 0 0 (im_rev t (im_H g' u o Y))) ∧ x85_r37 u a a2 v = some (0, u') ∧ iR (N + 1) g' u' ∧ iAs t u' := by
  have m1 : x85_r37_1 u a a2 v 1 = some (0, im_w u 37 1 1) := by
    unfold x85_r37_1
    exact (cbt rfl).trans rfl
  have st : iR (N + 1) g (im_w u 37 1 1) ∧ iAs (.inl 0) (im_w u 37 1 1) := ⟨iR_f 1 h, Or.inl ⟨rfl, im_w_s _ _ _ _⟩⟩
  cases hr : inr a 3
  · have k : x42_t g a a2 v = some (.inl 0, g) := by
      unfold x42_t
      exact (ob ((x43_eq g a).trans (by rw [hr]))).trans rfl
    refine ⟨.inl 0, g, im_w u 37 1 1, fun L xs o Y => x42_t_ok k, ?_, st.1, st.2⟩
    unfold x85_r37
    exact (ob (x86_in u a 3)).trans ((cbt (by rw [bi_eq, hr]; rfl)).trans m1)
  · cases hr2 : inr a2 2
    · have k : x42_t g a a2 v = some (.inl 0, g) := by
        unfold x42_t
        refine (ob ((x43_eq g a).trans (by rw [hr]; rfl))).trans ((se_r (0 : Int32)).trans ?_)
        exact (ob ((x49_eq g a2).trans (by rw [hr2]))).trans rfl
      refine ⟨.inl 0, g, im_w u 37 1 1, fun L xs o Y => x42_t_ok k, ?_, st.1, st.2⟩
      unfold x85_r37
      exact (ob (x86_in u a 3)).trans ((cbf (by rw [bi_eq, hr]; rfl)).trans ((ob (x86_in u a2 2)).trans ((cbt (by rw [bi_eq, hr2]; rfl)).trans m1)))
    · obtain ⟨c, hc, rfl⟩ := inr_t (by decide) hr
      obtain ⟨p, hp', rfl⟩ := inr_t (by decide) hr2
      have run : ∀ (t' : im_T) (g' : im_M), (bif inr v 4095 then some (.inr 0, im_w (im_w g (10 + 5 * c) p v) (9 + 5 * c) 5 ((g (9 + 5 * c) 5) ||| c_msk p)) else some (.inl 0, g)) = some (t', g') → ∀ (L : Nat) (xs : Nat → Int32) (o : Nat → Int64) (Y : iv_A), iv_ev (iv_Xs L xs) 42 0 [.ref 3, .int (Int32.ofNat c), .int (Int32.ofNat p), .int v] [] (im_H g u o Y) 0 0 (im_rev t' (im_H g' u o Y)) := fun t' g' he L xs o Y => by
        rcases four hc with h4 | h4 | h4 | h4 <;> subst h4 <;> rcases three hp' with h5 | h5 | h5 <;> subst h5
        · exact x42_r0_0_0_ok ((k42_0_0 g v).trans he)
        · exact x42_r0_0_1_ok ((k42_0_1 g v).trans he)
        · exact x42_r0_0_2_ok ((k42_0_2 g v).trans he)
        · exact x42_r0_1_0_ok ((k42_1_0 g v).trans he)
        · exact x42_r0_1_1_ok ((k42_1_1 g v).trans he)
        · exact x42_r0_1_2_ok ((k42_1_2 g v).trans he)
        · exact x42_r0_2_0_ok ((k42_2_0 g v).trans he)
        · exact x42_r0_2_1_ok ((k42_2_1 g v).trans he)
        · exact x42_r0_2_2_ok ((k42_2_2 g v).trans he)
        · exact x42_r0_3_0_ok ((k42_3_0 g v).trans he)
        · exact x42_r0_3_1_ok ((k42_3_1 g v).trans he)
        · exact x42_r0_3_2_ok ((k42_3_2 g v).trans he)
      have mm : x85_r37 u (Int32.ofNat c) (Int32.ofNat p) v = (bif inr v 4095 then x85_r37_1 u (Int32.ofNat c) (Int32.ofNat p) v 0 else x85_r37_1 u (Int32.ofNat c) (Int32.ofNat p) v 1) := by
        unfold x85_r37
        refine (ob (x86_in u _ 3)).trans ((cbf (by rw [bi_eq, hr]; rfl)).trans ((ob (x86_in u _ 2)).trans ((cbf (by rw [bi_eq, hr2]; rfl)).trans ((ob (x86_in u v 4095)).trans ?_))))
        show (bif Op.ifCond.holds .eq (bi (inr v 4095)) then _ else _) = _
        rw [bi_eq]
        cases inr v 4095
        · exact (cbt rfl).trans (cbf rfl).symm
        · exact (cbf rfl).trans (cbt rfl).symm
      cases hr3 : inr v 4095
      · exact ⟨.inl 0, g, im_w u 37 1 1, run _ _ (cbf hr3), mm.trans ((cbf hr3).trans m1), st.1, st.2⟩
      · obtain ⟨x, hx, rfl⟩ := inr_t (by decide) hr3
        have h2 := h
        obtain ⟨n, d, hn, hd, hd2, h00, hu0, hJ, hby, hy, hb7, hp, hf, hX, hC, hZ, hT, hF, hQ⟩ := h2
        obtain ⟨w, s, f, hL, hw, hs, hfr, hfp⟩ := hC c (by omega)
        obtain ⟨gN, egN⟩ : ∃ gN : im_M, gN = im_w (im_w g (10 + 5 * c) p (Int32.ofNat x)) (9 + 5 * c) 5 ((g (9 + 5 * c) 5) ||| c_msk p) := ⟨_, rfl⟩
        obtain ⟨uN, euN⟩ : ∃ uN : im_M, uN = im_w (im_w (im_w u 37 1 0) 38 (3 * c + p) (Int32.ofNat x)) 40 (3 * c + p) 1 := ⟨_, rfl⟩
        have m0 : x85_r37_1 u (Int32.ofNat c) (Int32.ofNat p) (Int32.ofNat x) 0 = some (0, uN) := by
          unfold x85_r37_1
          rw [is_i3 (by omega) (by omega), Int32.toNatClampNeg_ofNat_of_lt (by omega), euN]
          exact (cbf rfl).trans ((cbt (iv_in_t (by omega) (by omega))).trans rfl)
        have go : ∀ r : Nat, r ≠ 9 + 5 * c → r ≠ 10 + 5 * c → gN r = g r := fun r a0 a1 => by rw [egN, im_w_o _ _ _ a0, im_w_o _ _ _ a1]
        have uo : ∀ r : Nat, r ≠ 37 → r ≠ 38 → r ≠ 40 → uN r = u r := fun r a0 a1 a2 => by rw [euN, im_w_o _ _ _ a2, im_w_o _ _ _ a1, im_w_o _ _ _ a0]
        have u7 : ∀ i : Nat, i ≠ 1 → uN 37 i = u 37 i := fun i a0 => by rw [euN, im_w_o _ _ _ (show (37 : Nat) ≠ 40 by decide), im_w_o _ _ _ (show (37 : Nat) ≠ 38 by decide), im_w_k _ _ _ a0]
        have u1 : uN 37 1 = 0 := by
          rw [euN]
          rfl
        have u38 : uN 38 = upd (u 38) (3 * c + p) (Int32.ofNat x) := by
          rw [euN]
          rfl
        have u40 : uN 40 = upd (u 40) (3 * c + p) 1 := by
          rw [euN]
          rfl
        have g10 : gN (10 + 5 * c) = upd (g (10 + 5 * c)) p (Int32.ofNat x) := by
          rw [egN, im_w_o _ _ _ (by omega)]
          simp [im_w]
        have g9 : ∀ i : Nat, i ≠ 5 → gN (9 + 5 * c) i = g (9 + 5 * c) i := fun i hi => by rw [egN, im_w_k _ _ _ hi, im_w_o _ _ _ (by omega)]
        have g95 : gN (9 + 5 * c) 5 = B3f (sb f p true) := by rw [egN, im_w_s, hfr, B3_or f (by omega)]
        have sN : ∀ (k m r : Nat), scan uN k d m r = scan u k d m r := fun k m r => scan_cg m r (fun q _ _ => by
          rw [uo 42 (by decide) (by decide) (by decide), uo 43 (by decide) (by decide) (by decide), uo 44 (by decide) (by decide) (by decide)]
          exact ⟨rfl, rfl, rfl⟩)
        refine ⟨.inr 0, gN, uN, run _ _ ((cbt hr3).trans (by rw [egN])), mm.trans ((cbt hr3).trans m0), ⟨n, d, by omega, hd, hd2, ?_, (u7 0 (by decide)).trans hu0, iJ_le (iJ_fr hJ (go _ (by omega) (by omega)) (go _ (by omega) (by omega)) (u7 _ (by decide)) (u7 _ (by decide)) (uo _ (by decide) (by decide) (by decide)) (uo _ (by decide) (by decide) (by decide)) (uo _ (by decide) (by decide) (by decide)) (uo _ (by decide) (by decide) (by decide))) (by omega), ?_, ?_, ?_, ?_, ?_, ?_, ?_, ?_, ?_, ?_, ?_⟩, Or.inr ⟨rfl, u1⟩⟩
        · rw [go 0 (by omega) (by omega)]
          exact h00
        · rw [go 0 (by omega) (by omega)]
          exact hby
        · rw [go 0 (by omega) (by omega), u7 19 (by decide)]
          exact hy
        · rw [go 0 (by omega) (by omega), u7 27 (by decide)]
          exact hb7
        · rw [go 8 (by omega) (by omega), u7 28 (by decide)]
          exact hp
        · rw [go 8 (by omega) (by omega), u7 29 (by decide)]
          exact hf
        · exact iX_fr hX (go 8 (by omega) (by omega)) (u7 20 (by decide)) (u7 21 (by decide))
        · intro c' hc'
          by_cases hcc : c' = c
          · subst hcc
            refine ⟨w, s, sb f p true, fun q hq => ?_, (g9 6 (by decide)).trans hw, (g9 7 (by decide)).trans hs, g95, fun q hq => ?_⟩
            · obtain ⟨x0, f0, a0, b0, l1, l2, l3, l4, l5, l6, l7, l8, l9, l10, l11, l12, l13, l14⟩ := hL q hq
              by_cases hqp : q = p
              · subst hqp
                refine ⟨x, f0, a0, b0, by omega, l2, l3, l4, ?_, ?_, ?_, ?_, ?_, ?_, ?_, ?_, (sN _ _ _).trans l13, fun r hr' => (sN _ _ _).trans (l14 r hr')⟩
                · rw [g10, upd_s]
                · rw [u38, upd_s]
                · rw [go _ (by omega) (by omega)]
                  exact l7
                · rw [uo 39 (by decide) (by decide) (by decide)]
                  exact l8
                · rw [go _ (by omega) (by omega)]
                  exact l9
                · rw [uo 41 (by decide) (by decide) (by decide)]
                  exact l10
                · rw [go _ (by omega) (by omega)]
                  exact l11
                · rw [uo 42 (by decide) (by decide) (by decide)]
                  exact l12
              · refine ⟨x0, f0, a0, b0, l1, l2, l3, l4, ?_, ?_, ?_, ?_, ?_, ?_, ?_, ?_, (sN _ _ _).trans l13, fun r hr' => (sN _ _ _).trans (l14 r hr')⟩
                · rw [g10, upd_o _ _ hqp]
                  exact l5
                · rw [u38, upd_o _ _ (by omega)]
                  exact l6
                · rw [go _ (by omega) (by omega)]
                  exact l7
                · rw [uo 39 (by decide) (by decide) (by decide)]
                  exact l8
                · rw [go _ (by omega) (by omega)]
                  exact l9
                · rw [uo 41 (by decide) (by decide) (by decide)]
                  exact l10
                · rw [go _ (by omega) (by omega)]
                  exact l11
                · rw [uo 42 (by decide) (by decide) (by decide)]
                  exact l12
            · by_cases hqp : q = p
              · subst hqp
                rw [sb_s, u40, upd_s, h_ne1, Bool.or_true]
              · rw [sb_o _ _ hqp, u40, upd_o _ _ (by omega)]
                exact hfp q hq
          · obtain ⟨w', s', f', hL', hw', hs', hf', hfp'⟩ := hC c' hc'
            have gq : ∀ r : Nat, 9 + 5 * c' ≤ r → r ≤ 13 + 5 * c' → gN r = g r := fun r r1 r2 => go r (by omega) (by omega)
            refine ⟨w', s', f', fun q hq => ?_, by rw [gq _ (by omega) (by omega)]; exact hw', by rw [gq _ (by omega) (by omega)]; exact hs', by rw [gq _ (by omega) (by omega)]; exact hf', fun q hq => ?_⟩
            · refine iL_fr (hL' q hq) (by rw [gq _ (by omega) (by omega)]) (by rw [gq _ (by omega) (by omega)]) (by rw [gq _ (by omega) (by omega)]) (by rw [gq _ (by omega) (by omega)]) (by rw [u38, upd_o _ _ (by omega)]) (by rw [uo 39 (by decide) (by decide) (by decide)]) (by rw [uo 41 (by decide) (by decide) (by decide)]) (fun m _ => ?_)
              rw [uo 42 (by decide) (by decide) (by decide), uo 43 (by decide) (by decide) (by decide), uo 44 (by decide) (by decide) (by decide)]
              exact ⟨rfl, rfl, rfl⟩
            · rw [u40, upd_o _ _ (by omega)]
              exact hfp' q hq
        · intro m k r1 r2 r3
          exact iZ_fr (hZ m k r1 r2 r3) (uo _ (by decide) (by decide) (by decide)) (uo _ (by decide) (by decide) (by decide)) (uo _ (by decide) (by decide) (by decide))
        · intro t' ht'
          exact iT_fr (hT t' ht') (go _ (by omega) (by omega)) (go _ (by omega) (by omega)) (fun c hc => by rw [uo _ (by decide) (by decide) (by decide)]) (by rw [uo _ (by decide) (by decide) (by decide)]) (by rw [uo _ (by decide) (by decide) (by decide)])
        · exact iF_fr hF (go _ (by omega) (by omega)) (uo _ (by decide) (by decide) (by decide)) (uo _ (by decide) (by decide) (by decide)) (uo _ (by decide) (by decide) (by decide))
        · intro c' hc' t' ht'
          exact iQ1_fr (hQ c' hc' t' ht') (go _ (by omega) (by omega)) (uo _ (by decide) (by decide) (by decide)) (uo _ (by decide) (by decide) (by decide))
