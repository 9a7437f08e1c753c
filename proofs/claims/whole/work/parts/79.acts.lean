/-! The calls that do something: both sides keep the relation (printed by wip/gen/rel14.py) -/
/-- an outcome: argument (1), state (2), or done (0) -/
def iAo (t : im_T) (u' : im_M) : Prop := (t = .inl 0 ∧ u' 37 1 = 1) ∨ (t = .inl 1 ∧ u' 37 1 = 2) ∨ (t = .inr 0 ∧ u' 37 1 = 0)
theorem eq_m1 {m : Nat} (h : m < 2 ^ 31) : Op.if_icmp.holds .eq (Int32.ofNat m) (-1 : Int32) = false := by
  have q := ne_m1 h
  have q2 : (Int32.ofNat m != (-1 : Int32)) = true := q
  show (Int32.ofNat m == (-1 : Int32)) = false
  simpa using q2
theorem ge_n {m : Nat} (h : m < 2 ^ 31) : Op.ifCond.holds .ge (Int32.ofNat m) = true := by
  have q := nn_n h
  show decide (Int32.ofNat m ≥ 0) = true
  exact decide_eq_true (Int32.not_lt.1 q)
theorem eq_ne (x y : Int32) : Op.if_icmp.holds .eq x y = !(Op.if_icmp.holds .ne x y) := by
  show (x == y) = !(x != y)
  simp [bne]
theorem ne_cm (x y : Int32) : Op.if_icmp.holds .ne x y = Op.if_icmp.holds .ne y x := by
  show (x != y) = (y != x)
  exact bne_comm
set_option maxRecDepth 100000 in
set_option maxHeartbeats 4000000 in
theorem q_byp {N : Nat} {g u : im_M} (h : iR N g u) (hN : N < 512) (a : Int32) : ∃ (t : im_T) (g' u' : im_M), x54_t g a = some (t, g') ∧ x103_r37 u a = some (0, u') ∧ iR (N + 1) g' u' ∧ iAo t u' := by
  unfold x54_t x103_r37
  cases hr : inr a 3
  · refine ⟨.inl 0, g, im_w u 37 1 1, (ob ((x43_eq g a).trans (by rw [hr]))).trans rfl, ?_, iR_f 1 h, Or.inl ⟨rfl, im_w_s _ _ _ _⟩⟩
    refine (ob (x86_in u a 3)).trans ((cbf (by rw [bi_ne, hr])).trans ?_)
    unfold x103_r37_1
    exact (cbt rfl).trans rfl
  · obtain ⟨c, hc, rfl⟩ := inr_t (by decide) hr
    have h2 := h
    obtain ⟨n, d, hn, hd, hd2, h00, hu0, hJ, hby, hy, hb7, hp, hf, hX, hC, hZ, hT, hF, hQ⟩ := h2
    have p1 := (x43_eq g (Int32.ofNat c)).trans (by rw [hr])
    have p2 := x86_in u (Int32.ofNat c) 3
    rw [hr] at p2
    have cl0 : x54_t_1 g (Int32.ofNat c) 0 = some (.inl 1, g) := rfl
    have ml2 : x103_r37_1 u (Int32.ofNat c) 2 = some (0, im_w u 37 1 2) := by
      unfold x103_r37_1
      exact (cbt rfl).trans rfl
    have st : iR (N + 1) g (im_w u 37 1 2) ∧ iAo (.inl 1) (im_w u 37 1 2) := ⟨iR_f 2 h, Or.inr (Or.inl ⟨rfl, im_w_s _ _ _ _⟩)⟩
    rcases hby with hb1 | ⟨cb, hcb, hb1⟩
    · have y1 : Op.if_icmp.holds .ne (g 0 6) (-1 : Int32) = false := by
        rw [hb1]
        rfl
      have y2 : Op.ifCond.holds .ge (u 37 19) = false := by
        rw [← hy, hb1]
        rfl
      -- tested?
      have tst : ∃ w : Bool, Op.if_icmp.holds .eq (g 8 0) (Int32.ofNat c) = w ∧ (bif Op.ifCond.holds .lt (u 37 20) then x103_r37_1 u (Int32.ofNat c) (0 : Int32) else (bif Op.if_icmp.holds .ne ((u 37 20) / (3 : Int32)) (Int32.ofNat c) then x103_r37_1 u (Int32.ofNat c) (0 : Int32) else x103_r37_1 u (Int32.ofNat c) (2 : Int32))) = x103_r37_1 u (Int32.ofNat c) (bif w then 2 else 0) := by
        rcases hX with ⟨z1, z2⟩ | ⟨c', p, hc', hp', z1, -, z3, -⟩
        · refine ⟨false, ?_, ?_⟩
          · rw [z1, eq_ne, ne_cm, ne_m1 (by omega)]
            rfl
          · exact cbt (by rw [z2]; rfl)
        · refine ⟨Op.if_icmp.holds .eq (g 8 0) (Int32.ofNat c), rfl, ?_⟩
          refine (cbf (by rw [z3]; exact nn_lt (by omega))).trans ?_
          have dv : (u 37 20) / (3 : Int32) = g 8 0 := by rw [z3, z1, q_div hc' hp']
          rw [dv, eq_ne]
          cases Op.if_icmp.holds .ne (g 8 0) (Int32.ofNat c)
          · exact (cbf rfl).trans rfl
          · exact (cbt rfl).trans rfl
      obtain ⟨w, w1, w2⟩ := tst
      cases w
      · obtain ⟨e, he, i1, i2⟩ := hJ.2.2.1
        obtain ⟨gN, egN⟩ : ∃ gN : im_M, gN = c_rec (im_w g 0 6 (Int32.ofNat c)) 11 (Int32.ofNat c) 0 := ⟨_, rfl⟩
        obtain ⟨uN, euN⟩ : ∃ uN : im_M, uN = m_note (im_w (im_w u 37 1 0) 37 19 (Int32.ofNat c)) 11 (Int32.ofNat c) 0 := ⟨_, rfl⟩
        have cl : x54_t_1 g (Int32.ofNat c) 1 = some (.inr 0, gN) := by
          unfold x54_t_1
          refine (ob (show x55 g (1 : Int32) = some (.inr 0, g) from rfl)).trans ((se_r (0 : Int32)).trans ?_)
          rw [egN]
          exact (ob (x15_eq _ _ _ _)).trans rfl
        have ml : x103_r37_1 u (Int32.ofNat c) 0 = some (0, uN) := by
          unfold x103_r37_1
          refine (cbf rfl).trans ?_
          rw [euN]
          exact (ob (x94_eq (u := im_w (im_w u 37 1 0) 37 19 (Int32.ofNat c)) (e := e) (by omega) i2 _ _ _)).trans rfl
        have go : ∀ q : Nat, q ≠ 0 → q ≠ 1 → q ≠ 2 → gN q = g q := fun q a0 a1 a2 => by rw [egN, c_rec_o _ _ _ _ a1 a2, im_w_o _ _ _ a0]
        have g0 : ∀ i : Nat, i ≠ 6 → gN 0 i = g 0 i := fun i hi => by rw [egN, c_rec_o _ _ _ _ (by decide) (by decide), im_w_k _ _ _ hi]
        have g6 : gN 0 6 = Int32.ofNat c := by rw [egN, c_rec_o _ _ _ _ (by decide) (by decide), im_w_s]
        have uo : ∀ q : Nat, q ≠ 37 → q ≠ 54 → q ≠ 55 → q ≠ 56 → q ≠ 57 → uN q = u q := fun q a0 a1 a2 a3 a4 => by rw [euN, m_note_o _ _ _ _ a0 a1 a2 a3 a4, im_w_o _ _ _ a0, im_w_o _ _ _ a0]
        have u7 : ∀ i : Nat, i ≠ 1 → i ≠ 19 → i ≠ 22 → uN 37 i = u 37 i := fun i a0 a1 a2 => by rw [euN, m_note_37 _ _ _ _ a2, im_w_k _ _ _ a1, im_w_k _ _ _ a0]
        have u19 : uN 37 19 = Int32.ofNat c := by rw [euN, m_note_37 _ _ _ _ (by decide), im_w_s]
        have u1 : uN 37 1 = 0 := by rw [euN, m_note_37 _ _ _ _ (by decide), im_w_k _ _ _ (by decide), im_w_s]
        have JN : iJ n (80 * N + 1) gN uN := by
          rw [egN, euN]
          exact iJ_rec (iJ_fr hJ (im_w_o _ _ _ (by decide)) (im_w_o _ _ _ (by decide)) rfl rfl rfl rfl rfl rfl) (by omega) _ _ _
        refine ⟨.inr 0, gN, uN, (ob p1).trans ((se_r (0 : Int32)).trans ((cbf y1).trans ((cbf w1).trans cl))), (ob p2).trans ((cbt rfl).trans ((cbf y2).trans (w2.trans ml))), ⟨n, d, by omega, hd, hd2, (g0 0 (by decide)).trans h00, (u7 0 (by decide) (by decide) (by decide)).trans hu0, iJ_le JN (by omega), Or.inr ⟨c, by omega, g6⟩, g6.trans u19.symm, (g0 7 (by decide)).trans (hb7.trans (u7 27 (by decide) (by decide) (by decide)).symm), ?_, ?_, ?_, ?_, ?_, ?_, ?_, ?_⟩, Or.inr (Or.inr ⟨rfl, u1⟩)⟩
        · rw [go 8 (by decide) (by decide) (by decide), u7 28 (by decide) (by decide) (by decide)]
          exact hp
        · rw [go 8 (by decide) (by decide) (by decide), u7 29 (by decide) (by decide) (by decide)]
          exact hf
        · exact iX_fr hX (go 8 (by decide) (by decide) (by decide)) (u7 20 (by decide) (by decide) (by decide)) (u7 21 (by decide) (by decide) (by decide))
        · intro c' hc'
          exact iC_fr (hC c' hc') (go _ (by omega) (by omega) (by omega)) (go _ (by omega) (by omega) (by omega)) (go _ (by omega) (by omega) (by omega)) (go _ (by omega) (by omega) (by omega)) (go _ (by omega) (by omega) (by omega)) (uo _ (by decide) (by decide) (by decide) (by decide) (by decide)) (uo _ (by decide) (by decide) (by decide) (by decide) (by decide)) (uo _ (by decide) (by decide) (by decide) (by decide) (by decide)) (uo _ (by decide) (by decide) (by decide) (by decide) (by decide)) (uo _ (by decide) (by decide) (by decide) (by decide) (by decide)) (uo _ (by decide) (by decide) (by decide) (by decide) (by decide)) (uo _ (by decide) (by decide) (by decide) (by decide) (by decide))
        · intro m k q1 q2 q3
          exact iZ_fr (hZ m k q1 q2 q3) (uo _ (by decide) (by decide) (by decide) (by decide) (by decide)) (uo _ (by decide) (by decide) (by decide) (by decide) (by decide)) (uo _ (by decide) (by decide) (by decide) (by decide) (by decide))
        · intro t ht
          exact iT_fr (hT t ht) (go _ (by omega) (by omega) (by omega)) (go _ (by omega) (by omega) (by omega)) (fun c hc => by rw [uo _ (by decide) (by decide) (by decide) (by decide) (by decide)]) (by rw [uo _ (by decide) (by decide) (by decide) (by decide) (by decide)]) (by rw [uo _ (by decide) (by decide) (by decide) (by decide) (by decide)])
        · exact iF_fr hF (go _ (by decide) (by decide) (by decide)) (uo _ (by decide) (by decide) (by decide) (by decide) (by decide)) (uo _ (by decide) (by decide) (by decide) (by decide) (by decide)) (uo _ (by decide) (by decide) (by decide) (by decide) (by decide))
        · intro c' hc' t' ht'
          exact iQ1_fr (hQ c' hc' t' ht') (go _ (by decide) (by decide) (by decide)) (uo _ (by decide) (by decide) (by decide) (by decide) (by decide)) (uo _ (by decide) (by decide) (by decide) (by decide) (by decide))
      · exact ⟨.inl 1, g, im_w u 37 1 2, (ob p1).trans ((se_r (0 : Int32)).trans ((cbf y1).trans ((cbt w1).trans cl0))), (ob p2).trans ((cbt rfl).trans ((cbf y2).trans (w2.trans ml2))), st.1, st.2⟩
    · have y1 : Op.if_icmp.holds .ne (g 0 6) (-1 : Int32) = true := by
        rw [hb1]
        exact ne_m1 (by omega)
      have y2 : Op.ifCond.holds .ge (u 37 19) = true := by
        rw [← hy, hb1]
        exact ge_n (by omega)
      exact ⟨.inl 1, g, im_w u 37 1 2, (ob p1).trans ((se_r (0 : Int32)).trans ((cbt y1).trans cl0)), (ob p2).trans ((cbt rfl).trans ((cbt y2).trans ml2)), st.1, st.2⟩
set_option maxRecDepth 100000 in
set_option maxHeartbeats 4000000 in
theorem q_res {N : Nat} {g u : im_M} (h : iR N g u) (hN : N < 512) : ∃ (t : im_T) (g' u' : im_M), x58_r0 g = some (t, g') ∧ x104_r37 u = some (0, u') ∧ iR (N + 1) g' u' ∧ ((t = .inl 1 ∧ u' 37 1 = 1) ∨ (t = .inr 0 ∧ u' 37 1 = 0)) := by
  have h2 := h
  obtain ⟨n, d, hn, hd, hd2, h00, hu0, hJ, hby, hy, hb7, hp, hf, hX, hC, hZ, hT, hF, hQ⟩ := h2
  unfold x58_r0 x104_r37
  rcases hby with hb1 | ⟨cb, hcb, hb1⟩
  · have y1 : Op.if_icmp.holds .eq (g 0 6) (-1 : Int32) = true := by
      rw [hb1]
      rfl
    have y2 : Op.ifCond.holds .ge (u 37 19) = false := by
      rw [← hy, hb1]
      rfl
    have ml : x104_r37_1 u 1 = some (0, im_w u 37 1 1) := by
      unfold x104_r37_1
      exact (cbt rfl).trans rfl
    exact ⟨.inl 1, g, im_w u 37 1 1, (cbt y1).trans rfl, (cbf y2).trans ml, iR_f 1 h, Or.inl ⟨rfl, im_w_s _ _ _ _⟩⟩
  · have y1 : Op.if_icmp.holds .eq (g 0 6) (-1 : Int32) = false := by
      rw [hb1]
      exact eq_m1 (by omega)
    have y2 : Op.ifCond.holds .ge (u 37 19) = true := by
      rw [← hy, hb1]
      exact ge_n (by omega)
    obtain ⟨e, he, i1, i2⟩ := hJ.2.2.1
    obtain ⟨gN, egN⟩ : ∃ gN : im_M, gN = im_w (c_rec g 12 (g 0 6) 0) 0 6 (-1 : Int32) := ⟨_, rfl⟩
    obtain ⟨uN, euN⟩ : ∃ uN : im_M, uN = im_w (m_note (im_w u 37 1 0) 12 (g 0 6) 0) 37 19 (-1 : Int32) := ⟨_, rfl⟩
    have cl : x58_r0_1 g 1 = some (.inr 0, gN) := by
      unfold x58_r0_1
      refine (ob (show x55 g (1 : Int32) = some (.inr 0, g) from rfl)).trans ((se_r (0 : Int32)).trans ?_)
      rw [egN]
      exact (ob (x15_eq _ _ _ _)).trans rfl
    have ml : x104_r37_1 u 0 = some (0, uN) := by
      unfold x104_r37_1
      refine (cbf rfl).trans ?_
      rw [euN, hy]
      exact (ob (x94_eq (u := im_w u 37 1 0) (e := e) (by omega) i2 _ _ _)).trans rfl
    have go : ∀ q : Nat, q ≠ 0 → q ≠ 1 → q ≠ 2 → gN q = g q := fun q a0 a1 a2 => by rw [egN, im_w_o _ _ _ a0, c_rec_o _ _ _ _ a1 a2]
    have g0 : ∀ i : Nat, i ≠ 6 → gN 0 i = g 0 i := fun i hi => by rw [egN, im_w_k _ _ _ hi, c_rec_o _ _ _ _ (by decide) (by decide)]
    have g6 : gN 0 6 = (-1 : Int32) := by rw [egN, im_w_s]
    have uo : ∀ q : Nat, q ≠ 37 → q ≠ 54 → q ≠ 55 → q ≠ 56 → q ≠ 57 → uN q = u q := fun q a0 a1 a2 a3 a4 => by rw [euN, im_w_o _ _ _ a0, m_note_o _ _ _ _ a0 a1 a2 a3 a4, im_w_o _ _ _ a0]
    have u7 : ∀ i : Nat, i ≠ 1 → i ≠ 19 → i ≠ 22 → uN 37 i = u 37 i := fun i a0 a1 a2 => by rw [euN, im_w_k _ _ _ a1, m_note_37 _ _ _ _ a2, im_w_k _ _ _ a0]
    have u19 : uN 37 19 = (-1 : Int32) := by rw [euN, im_w_s]
    have u1 : uN 37 1 = 0 := by rw [euN, im_w_k _ _ _ (by decide), m_note_37 _ _ _ _ (by decide), im_w_s]
    have JN : iJ n (80 * N + 1) gN uN := by
      rw [egN, euN]
      exact iJ_fr (iJ_rec (iJ_fr (u' := im_w u 37 1 0) hJ rfl rfl rfl rfl rfl rfl rfl rfl) (by omega) _ _ _) (im_w_o _ _ _ (by decide)) (im_w_o _ _ _ (by decide)) rfl rfl rfl rfl rfl rfl
    refine ⟨.inr 0, gN, uN, (cbf y1).trans cl, (cbt y2).trans ml, ⟨n, d, by omega, hd, hd2, (g0 0 (by decide)).trans h00, (u7 0 (by decide) (by decide) (by decide)).trans hu0, iJ_le JN (by omega), Or.inl g6, g6.trans u19.symm, (g0 7 (by decide)).trans (hb7.trans (u7 27 (by decide) (by decide) (by decide)).symm), ?_, ?_, ?_, ?_, ?_, ?_, ?_, ?_⟩, Or.inr ⟨rfl, u1⟩⟩
    · rw [go 8 (by decide) (by decide) (by decide), u7 28 (by decide) (by decide) (by decide)]
      exact hp
    · rw [go 8 (by decide) (by decide) (by decide), u7 29 (by decide) (by decide) (by decide)]
      exact hf
    · exact iX_fr hX (go 8 (by decide) (by decide) (by decide)) (u7 20 (by decide) (by decide) (by decide)) (u7 21 (by decide) (by decide) (by decide))
    · intro c' hc'
      exact iC_fr (hC c' hc') (go _ (by omega) (by omega) (by omega)) (go _ (by omega) (by omega) (by omega)) (go _ (by omega) (by omega) (by omega)) (go _ (by omega) (by omega) (by omega)) (go _ (by omega) (by omega) (by omega)) (uo _ (by decide) (by decide) (by decide) (by decide) (by decide)) (uo _ (by decide) (by decide) (by decide) (by decide) (by decide)) (uo _ (by decide) (by decide) (by decide) (by decide) (by decide)) (uo _ (by decide) (by decide) (by decide) (by decide) (by decide)) (uo _ (by decide) (by decide) (by decide) (by decide) (by decide)) (uo _ (by decide) (by decide) (by decide) (by decide) (by decide)) (uo _ (by decide) (by decide) (by decide) (by decide) (by decide))
    · intro m k q1 q2 q3
      exact iZ_fr (hZ m k q1 q2 q3) (uo _ (by decide) (by decide) (by decide) (by decide) (by decide)) (uo _ (by decide) (by decide) (by decide) (by decide) (by decide)) (uo _ (by decide) (by decide) (by decide) (by decide) (by decide))
    · intro t ht
      exact iT_fr (hT t ht) (go _ (by omega) (by omega) (by omega)) (go _ (by omega) (by omega) (by omega)) (fun c hc => by rw [uo _ (by decide) (by decide) (by decide) (by decide) (by decide)]) (by rw [uo _ (by decide) (by decide) (by decide) (by decide) (by decide)]) (by rw [uo _ (by decide) (by decide) (by decide) (by decide) (by decide)])
    · exact iF_fr hF (go _ (by decide) (by decide) (by decide)) (uo _ (by decide) (by decide) (by decide) (by decide) (by decide)) (uo _ (by decide) (by decide) (by decide) (by decide) (by decide)) (uo _ (by decide) (by decide) (by decide) (by decide) (by decide))
    · intro c' hc' t' ht'
      exact iQ1_fr (hQ c' hc' t' ht') (go _ (by decide) (by decide) (by decide)) (uo _ (by decide) (by decide) (by decide) (by decide) (by decide)) (uo _ (by decide) (by decide) (by decide) (by decide) (by decide))
set_option maxRecDepth 100000 in
set_option maxHeartbeats 4000000 in
theorem q_tes {N : Nat} {g u : im_M} (h : iR N g u) (a a2 : Int32) : ∃ (t : im_T) (g' u' : im_M), x60_t g a a2 = some (t, g') ∧ x105_r37 u a a2 = some (0, u') ∧ iR (N + 1) g' u' ∧ iAo t u' := by
  unfold x60_t x105_r37
  have ml1 : x105_r37_1 u a a2 1 = some (0, im_w u 37 1 1) := by
    unfold x105_r37_1
    exact (cbt rfl).trans rfl
  have ml2 : x105_r37_1 u a a2 2 = some (0, im_w u 37 1 2) := by
    unfold x105_r37_1
    exact (cbt rfl).trans rfl
  cases hr : inr a 3
  · refine ⟨.inl 0, g, im_w u 37 1 1, (ob ((x43_eq g a).trans (by rw [hr]))).trans rfl, ?_, iR_f 1 h, Or.inl ⟨rfl, im_w_s _ _ _ _⟩⟩
    exact (ob (x86_in u a 3)).trans ((cbt (by rw [bi_eq, hr]; rfl)).trans ml1)
  · have p1 := (x43_eq g a).trans (by rw [hr])
    have p2 := x86_in u a 3
    rw [hr] at p2
    cases hr2 : inr a2 2
    · refine ⟨.inl 0, g, im_w u 37 1 1, (ob p1).trans ((se_r (0 : Int32)).trans ((ob ((x49_eq g a2).trans (by rw [hr2]))).trans rfl)), ?_, iR_f 1 h, Or.inl ⟨rfl, im_w_s _ _ _ _⟩⟩
      exact (ob p2).trans ((cbf rfl).trans ((ob (x86_in u a2 2)).trans ((cbf (by rw [bi_ne, hr2])).trans ml1)))
    · have p3 := (x49_eq g a2).trans (by rw [hr2])
      have p4 := x86_in u a2 2
      rw [hr2] at p4
      obtain ⟨c, hc, rfl⟩ := inr_t (by decide) hr
      obtain ⟨p, hp', rfl⟩ := inr_t (by decide) hr2
      have h2 := h
      obtain ⟨n, d, hn, hd, hd2, h00, hu0, hJ, hby, hy, hb7, hp, hf, hX, hC, hZ, hT, hF, hQ⟩ := h2
      have cl0 : x60_t_1 g (Int32.ofNat c) (Int32.ofNat p) 0 = some (.inl 1, g) := rfl
      have st : iR (N + 1) g (im_w u 37 1 2) ∧ iAo (.inl 1) (im_w u 37 1 2) := ⟨iR_f 2 h, Or.inr (Or.inl ⟨rfl, im_w_s _ _ _ _⟩)⟩
      rcases hX with ⟨z1, z2⟩ | ⟨c', p', hc', hp2, z1, -, z3, -⟩
      · have y1 : Op.if_icmp.holds .ne (g 8 0) (-1 : Int32) = false := by
          rw [z1]
          rfl
        have y2 : Op.ifCond.holds .ge (u 37 20) = false := by
          rw [z2]
          rfl
        cases w : Op.if_icmp.holds .ne (g 0 6) (Int32.ofNat c)
        · have w1 : Op.if_icmp.holds .eq (g 0 6) (Int32.ofNat c) = true := by
            rw [eq_ne, w]
            rfl
          have w2 : Op.if_icmp.holds .ne (u 37 19) (Int32.ofNat c) = false := by
            rw [← hy]
            exact w
          exact ⟨.inl 1, g, im_w u 37 1 2, (ob p1).trans ((se_r (0 : Int32)).trans ((ob p3).trans ((se_r (0 : Int32)).trans ((cbf y1).trans ((cbt w1).trans cl0))))), (ob p2).trans ((cbf rfl).trans ((ob p4).trans ((cbt rfl).trans ((cbf y2).trans ((cbf w2).trans ml2))))), st.1, st.2⟩
        · have w1 : Op.if_icmp.holds .eq (g 0 6) (Int32.ofNat c) = false := by
            rw [eq_ne, w]
            rfl
          have w2 : Op.if_icmp.holds .ne (u 37 19) (Int32.ofNat c) = true := by
            rw [← hy]
            exact w
          obtain ⟨gN, egN⟩ : ∃ gN : im_M, gN = im_w (im_w (im_w g 8 0 (Int32.ofNat c)) 8 1 (Int32.ofNat p)) 8 2 (0 : Int32) := ⟨_, rfl⟩
          obtain ⟨uN, euN⟩ : ∃ uN : im_M, uN = im_w (im_w (im_w u 37 1 0) 37 20 (Int32.ofNat (3 * c + p))) 37 21 (0 : Int32) := ⟨_, rfl⟩
          have cl : x60_t_1 g (Int32.ofNat c) (Int32.ofNat p) 1 = some (.inr 0, gN) := by
            rw [egN]
            rfl
          have ml : x105_r37_1 u (Int32.ofNat c) (Int32.ofNat p) 0 = some (0, uN) := by
            unfold x105_r37_1
            refine (cbf rfl).trans ?_
            rw [euN, is_i3 (by omega) (by omega)]
            rfl
          have go : ∀ q : Nat, q ≠ 8 → gN q = g q := fun q a0 => by rw [egN, im_w_o _ _ _ a0, im_w_o _ _ _ a0, im_w_o _ _ _ a0]
          have g8 : ∀ i : Nat, i ≠ 0 → i ≠ 1 → i ≠ 2 → gN 8 i = g 8 i := fun i a0 a1 a2 => by rw [egN, im_w_k _ _ _ a2, im_w_k _ _ _ a1, im_w_k _ _ _ a0]
          have uo : ∀ q : Nat, q ≠ 37 → uN q = u q := fun q a0 => by rw [euN, im_w_o _ _ _ a0, im_w_o _ _ _ a0, im_w_o _ _ _ a0]
          have u7 : ∀ i : Nat, i ≠ 1 → i ≠ 20 → i ≠ 21 → uN 37 i = u 37 i := fun i a0 a1 a2 => by rw [euN, im_w_k _ _ _ a2, im_w_k _ _ _ a1, im_w_k _ _ _ a0]
          have k1 : gN 8 0 = Int32.ofNat c := by
            rw [egN]
            rfl
          have k2 : gN 8 1 = Int32.ofNat p := by
            rw [egN]
            rfl
          have k3 : gN 8 2 = bi false := by
            rw [egN]
            rfl
          have k4 : uN 37 20 = Int32.ofNat (3 * c + p) := by
            rw [euN]
            rfl
          have k5 : uN 37 21 = bi false := by
            rw [euN]
            rfl
          have k6 : uN 37 1 = 0 := by
            rw [euN]
            rfl
          refine ⟨.inr 0, gN, uN, (ob p1).trans ((se_r (0 : Int32)).trans ((ob p3).trans ((se_r (0 : Int32)).trans ((cbf y1).trans ((cbf w1).trans cl))))), (ob p2).trans ((cbf rfl).trans ((ob p4).trans ((cbt rfl).trans ((cbf y2).trans ((cbt w2).trans ml))))), ⟨n, d, by omega, hd, hd2, ?_, (u7 0 (by decide) (by decide) (by decide)).trans hu0, iJ_le (iJ_fr hJ (go _ (by decide)) (go _ (by decide)) (u7 _ (by decide) (by decide) (by decide)) (u7 _ (by decide) (by decide) (by decide)) (uo _ (by decide)) (uo _ (by decide)) (uo _ (by decide)) (uo _ (by decide))) (by omega), ?_, ?_, ?_, (g8 3 (by decide) (by decide) (by decide)).trans (hp.trans (u7 28 (by decide) (by decide) (by decide)).symm), (g8 4 (by decide) (by decide) (by decide)).trans (hf.trans (u7 29 (by decide) (by decide) (by decide)).symm), Or.inr ⟨c, p, by omega, by omega, k1, k2, k4, false, k3, k5⟩, ?_, ?_, ?_, ?_, ?_⟩, Or.inr (Or.inr ⟨rfl, k6⟩)⟩
          · rw [go 0 (by decide)]
            exact h00
          · rw [go 0 (by decide)]
            exact hby
          · rw [go 0 (by decide), u7 19 (by decide) (by decide) (by decide)]
            exact hy
          · rw [go 0 (by decide), u7 27 (by decide) (by decide) (by decide)]
            exact hb7
          · intro c' hc'
            exact iC_fr (hC c' hc') (go _ (by omega)) (go _ (by omega)) (go _ (by omega)) (go _ (by omega)) (go _ (by omega)) (uo _ (by decide)) (uo _ (by decide)) (uo _ (by decide)) (uo _ (by decide)) (uo _ (by decide)) (uo _ (by decide)) (uo _ (by decide))
          · intro m k q1 q2 q3
            exact iZ_fr (hZ m k q1 q2 q3) (uo _ (by decide)) (uo _ (by decide)) (uo _ (by decide))
          · intro t ht
            exact iT_fr (hT t ht) (go _ (by omega)) (go _ (by omega)) (fun c hc => by rw [uo _ (by decide)]) (by rw [uo _ (by decide)]) (by rw [uo _ (by decide)])
          · exact iF_fr hF (go _ (by decide)) (uo _ (by decide)) (uo _ (by decide)) (uo _ (by decide))
          · intro c' hc' t' ht'
            exact iQ1_fr (hQ c' hc' t' ht') (go _ (by decide)) (uo _ (by decide)) (uo _ (by decide))
      · have y1 : Op.if_icmp.holds .ne (g 8 0) (-1 : Int32) = true := by
          rw [z1]
          exact ne_m1 (by omega)
        have y2 : Op.ifCond.holds .ge (u 37 20) = true := by
          rw [z3]
          exact ge_n (by omega)
        exact ⟨.inl 1, g, im_w u 37 1 2, (ob p1).trans ((se_r (0 : Int32)).trans ((ob p3).trans ((se_r (0 : Int32)).trans ((cbt y1).trans cl0)))), (ob p2).trans ((cbf rfl).trans ((ob p4).trans ((cbt rfl).trans ((cbt y2).trans ml2)))), st.1, st.2⟩
