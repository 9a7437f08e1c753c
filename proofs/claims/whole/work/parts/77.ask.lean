/-! The calls that ask: both sides answer alike (printed by wip/gen/rel12.py) -/
theorem four {c : Nat} (h : c ≤ 3) : c = 0 ∨ c = 1 ∨ c = 2 ∨ c = 3 := by omega
theorem three {c : Nat} (h : c ≤ 2) : c = 0 ∨ c = 1 ∨ c = 2 := by omega
/-- an answer: a throw of kind 0 with the code 1, or the same value -/
def iAn (t : im_T) (b : Int32) (u' : im_M) : Prop := (t = .inl 0 ∧ u' 37 1 = 1) ∨ (t = .inr b ∧ u' 37 1 = 0)
theorem iAn_t (u : im_M) (b : Int32) : iAn (.inl 0) b (im_w u 37 1 1) := Or.inl ⟨rfl, im_w_s _ _ _ _⟩
theorem iAn_r (u : im_M) (b : Int32) : iAn (.inr b) b (im_w u 37 1 0) := Or.inr ⟨rfl, im_w_s _ _ _ _⟩
theorem iT_of {N : Nat} {g u : im_M} (h : iR N g u) {t : Nat} (ht : t < 4) : iT g u t := by
  obtain ⟨_, _, _, _, _, _, _, _, _, _, _, _, _, _, _, _, hT, _⟩ := h
  exact hT t ht
set_option maxRecDepth 100000 in
set_option maxHeartbeats 4000000 in
theorem q_dem {N : Nat} {g u : im_M} (h : iR N g u) (a : Int32) : ∃ (t : im_T) (b : Int32) (u' : im_M), (∀ (L : Nat) (xs : Nat → Int32) (o : Nat → Int64) (Y : iv_A), iv_ev (iv_Xs L xs) 73 0 [.ref 3, .int a] [] (im_H g u o Y) 0 0 (im_res t (im_H g u o Y))) ∧ x110_r37 u a = some (b, u') ∧ iR (N + 1) g u' ∧ iAn t b u' := by
  cases hr : inr a 3
  · have k : x73_t g a = some (.inl 0, g) := by
      unfold x73_t
      exact (ob ((x64_eq g a).trans (by rw [hr]))).trans rfl
    refine ⟨.inl 0, 0, im_w u 37 1 1, fun L xs o Y => x73_t_ok k, ?_, iR_f 1 h, iAn_t u 0⟩
    unfold x110_r37
    refine (ob (x86_in u a 3)).trans ((cbt (by rw [bi_eq, hr]; rfl)).trans ?_)
    unfold x110_r37_1
    exact (cbt rfl).trans rfl
  · obtain ⟨c, hc, rfl⟩ := inr_t (by decide) hr
    have hT := iT_of h (show c < 4 by omega)
    refine ⟨.inr (u 52 c), u 52 c, im_w u 37 1 0, fun L xs o Y => ?_, ?_, iR_f 0 h, iAn_r u _⟩
    · have e : g (29 + 2 * c) 2 = u 52 c := by
        obtain ⟨-, ⟨w, w1, w2⟩, q, -, q1, q2⟩ := hT
        rw [w1, w2]
      rw [← e]
      rcases four hc with h4 | h4 | h4 | h4 <;> subst h4
      · exact x73_r0_0_ok rfl
      · exact x73_r0_1_ok rfl
      · exact x73_r0_2_ok rfl
      · exact x73_r0_3_ok rfl
    · unfold x110_r37
      refine (ob (x86_in u _ 3)).trans ((cbf (by rw [bi_eq, hr]; rfl)).trans ?_)
      unfold x110_r37_1
      refine (cbf rfl).trans ((cbt (iv_in_t (by omega) (by omega))).trans ?_)
      unfold x110_r37_2
      rw [Int32.toNatClampNeg_ofNat_of_lt (by omega)]
set_option maxRecDepth 100000 in
set_option maxHeartbeats 4000000 in
theorem q_lat {N : Nat} {g u : im_M} (h : iR N g u) (a : Int32) : ∃ (t : im_T) (b : Int32) (u' : im_M), (∀ (L : Nat) (xs : Nat → Int32) (o : Nat → Int64) (Y : iv_A), iv_ev (iv_Xs L xs) 75 0 [.ref 3, .int a] [] (im_H g u o Y) 0 0 (im_res t (im_H g u o Y))) ∧ x111_r37 u a = some (b, u') ∧ iR (N + 1) g u' ∧ iAn t b u' := by
  cases hr : inr a 3
  · have k : x75_t g a = some (.inl 0, g) := by
      unfold x75_t
      exact (ob ((x64_eq g a).trans (by rw [hr]))).trans rfl
    refine ⟨.inl 0, 0, im_w u 37 1 1, fun L xs o Y => x75_t_ok k, ?_, iR_f 1 h, iAn_t u 0⟩
    unfold x111_r37
    refine (ob (x86_in u a 3)).trans ((cbt (by rw [bi_eq, hr]; rfl)).trans ?_)
    unfold x111_r37_1
    exact (cbt rfl).trans rfl
  · obtain ⟨c, hc, rfl⟩ := inr_t (by decide) hr
    have hT := iT_of h (show c < 4 by omega)
    refine ⟨.inr (u 53 c), u 53 c, im_w u 37 1 0, fun L xs o Y => ?_, ?_, iR_f 0 h, iAn_r u _⟩
    · have e : g (29 + 2 * c) 3 = u 53 c := by
        obtain ⟨-, ⟨w, w1, w2⟩, q, -, q1, q2⟩ := hT
        rw [q1, q2]
      rw [← e]
      rcases four hc with h4 | h4 | h4 | h4 <;> subst h4
      · exact x75_r0_0_ok rfl
      · exact x75_r0_1_ok rfl
      · exact x75_r0_2_ok rfl
      · exact x75_r0_3_ok rfl
    · unfold x111_r37
      refine (ob (x86_in u _ 3)).trans ((cbf (by rw [bi_eq, hr]; rfl)).trans ?_)
      unfold x111_r37_1
      refine (cbf rfl).trans ((cbt (iv_in_t (by omega) (by omega))).trans ?_)
      unfold x111_r37_2
      rw [Int32.toNatClampNeg_ofNat_of_lt (by omega)]
set_option maxRecDepth 100000 in
set_option maxHeartbeats 4000000 in
theorem q_vot {N : Nat} {g u : im_M} (h : iR N g u) (a a2 : Int32) : ∃ (t : im_T) (b : Int32) (u' : im_M), (∀ (L : Nat) (xs : Nat → Int32) (o : Nat → Int64) (Y : iv_A), iv_ev (iv_Xs L xs) 71 0 [.ref 3, .int a, .int a2] [] (im_H g u o Y) 0 0 (im_res t (im_H g u o Y))) ∧ x109_r37 u a a2 = some (b, u') ∧ iR (N + 1) g u' ∧ iAn t b u' := by
  cases hr : inr a 3
  · have k : x71_t g a a2 = some (.inl 0, g) := by
      unfold x71_t
      exact (ob ((x64_eq g a).trans (by rw [hr]))).trans rfl
    refine ⟨.inl 0, 0, im_w u 37 1 1, fun L xs o Y => x71_t_ok k, ?_, iR_f 1 h, iAn_t u 0⟩
    unfold x109_r37
    refine (ob (x86_in u a 3)).trans ((cbt (by rw [bi_eq, hr]; rfl)).trans ?_)
    unfold x109_r37_1
    exact (cbt rfl).trans rfl
  · cases hr2 : inr a2 3
    · have k : x71_t g a a2 = some (.inl 0, g) := by
        unfold x71_t
        refine (ob ((x64_eq g a).trans (by rw [hr]))).trans ?_
        exact (ob ((x43_eq g a2).trans (by rw [hr2]))).trans rfl
      refine ⟨.inl 0, 0, im_w u 37 1 1, fun L xs o Y => x71_t_ok k, ?_, iR_f 1 h, iAn_t u 0⟩
      unfold x109_r37
      refine (ob (x86_in u a 3)).trans ((cbf (by rw [bi_eq, hr]; rfl)).trans ?_)
      refine (ob (x86_in u a2 3)).trans ((cbt (by rw [bi_eq, hr2]; rfl)).trans ?_)
      unfold x109_r37_1
      exact (cbt rfl).trans rfl
    · obtain ⟨t, ht, rfl⟩ := inr_t (by decide) hr
      obtain ⟨c, hc, rfl⟩ := inr_t (by decide) hr2
      have hT := iT_of h (show t < 4 by omega)
      refine ⟨.inr (u 50 (4 * t + c)), u 50 (4 * t + c), im_w u 37 1 0, fun L xs o Y => ?_, ?_, iR_f 0 h, iAn_r u _⟩
      · rw [hT.1 c (by omega)]
        rcases four ht with h4 | h4 | h4 | h4 <;> subst h4 <;> rcases four hc with h5 | h5 | h5 | h5 <;> subst h5
        · exact x71_r0_0_0_ok rfl
        · exact x71_r0_0_1_ok rfl
        · exact x71_r0_0_2_ok rfl
        · exact x71_r0_0_3_ok rfl
        · exact x71_r0_1_0_ok rfl
        · exact x71_r0_1_1_ok rfl
        · exact x71_r0_1_2_ok rfl
        · exact x71_r0_1_3_ok rfl
        · exact x71_r0_2_0_ok rfl
        · exact x71_r0_2_1_ok rfl
        · exact x71_r0_2_2_ok rfl
        · exact x71_r0_2_3_ok rfl
        · exact x71_r0_3_0_ok rfl
        · exact x71_r0_3_1_ok rfl
        · exact x71_r0_3_2_ok rfl
        · exact x71_r0_3_3_ok rfl
      · unfold x109_r37
        refine (ob (x86_in u _ 3)).trans ((cbf (by rw [bi_eq, hr]; rfl)).trans ?_)
        refine (ob (x86_in u _ 3)).trans ((cbf (by rw [bi_eq, hr2]; rfl)).trans ?_)
        unfold x109_r37_1
        rw [is_i4]
        refine (cbf rfl).trans ((cbt (iv_in_t (by omega) (by omega))).trans ?_)
        unfold x109_r37_2
        rw [Int32.toNatClampNeg_ofNat_of_lt (by omega)]
set_option maxRecDepth 100000 in
set_option maxHeartbeats 4000000 in
theorem ch_v {N : Nat} {g u : im_M} (h : iR N g u) (hN : N ≤ 512) {c : Nat} (hc : c < 4) : ∃ x y : Int32, x100_r37 (im_w u 37 1 0) (Int32.ofNat c) = some (x, im_w u 37 1 0) ∧ x101_r37 (im_w u 37 1 0) (Int32.ofNat c) = some (y, im_w u 37 1 0) ∧ g (9 + 5 * c) 6 = y ∧ g (9 + 5 * c) 7 = x ∧ (g (9 + 5 * c) 6 ||| g (9 + 5 * c) 7) = (x ||| y) := by
  obtain ⟨n, d, hn, hd, hd2, h00, hu0, hJ, -, -, -, -, -, -, hC, -⟩ := h
  obtain ⟨w, s, f, hL, hw, hs, -, -⟩ := hC c hc
  have sw : ∀ p : Nat, p < 3 → hb (u 42 n) (3 * c + p) = w p ∧ scan u (3 * c + p) d n 0 = s p := fun p hp => by
    obtain ⟨_, _, _, _, -, -, -, -, -, -, -, -, -, -, -, k1, k2, -⟩ := hL p hp
    exact ⟨k1, k2⟩
  have sc' : ∀ k : Nat, scan (im_w u 37 1 0) k d n 0 = scan u k d n 0 := fun k => scan_cg n 0 (fun m _ _ => ⟨rfl, rfl, rfl⟩)
  have w0 : hb (u 42 n) (3 * c) = w 0 := (sw 0 (by decide)).1
  have s0 : scan u (3 * c) d n 0 = s 0 := (sw 0 (by decide)).2
  have q1 := x100_eq (u := im_w u 37 1 0) hd hd2 hu0 (show n < 520 by omega) hJ.2.1 hc
  have q2 := x101_eq (u := im_w u 37 1 0) (n := n) (by omega) hJ.2.1 hc
  rw [sc', sc', sc', s0, (sw 1 (by decide)).2, (sw 2 (by decide)).2] at q1
  have q3 : x101_r37 (im_w u 37 1 0) (Int32.ofNat c) = some (B3 (hb (u 42 n) (3 * c)) (hb (u 42 n) (3 * c + 1)) (hb (u 42 n) (3 * c + 2)), im_w u 37 1 0) := q2
  rw [w0, (sw 1 (by decide)).1, (sw 2 (by decide)).1] at q3
  refine ⟨_, _, q1, q3, hw, hs, ?_⟩
  rw [hw, hs]
  exact Int32.or_comm _ _
theorem x44_1 (g : im_M) : x44 g 1 = some (.inr 0, g) := rfl
theorem q_cha {N : Nat} {g u : im_M} (h : iR N g u) (hN : N ≤ 512) (a a2 : Int32) : ∃ (t : im_T) (b : Int32) (u' : im_M), (∀ (L : Nat) (xs : Nat → Int32) (o : Nat → Int64) (Y : iv_A), iv_ev (iv_Xs L xs) 69 0 [.ref 3, .int a, .int a2, .retAddr 0] [] (im_H g u o Y) 0 0 (im_res t (im_H g u o Y))) ∧ x108_r37 u a a2 = some (b, u') ∧ iR (N + 1) g u' ∧ iAn t b u' := by
  cases hr : inr a 3
  · have k : x69_t g a a2 = some (.inl 0, g) := by
      unfold x69_t
      exact (ob ((x43_eq g a).trans (by rw [hr]))).trans rfl
    refine ⟨.inl 0, 0, im_w u 37 1 1, fun L xs o Y => x69_t_ok k, ?_, iR_f 1 h, iAn_t u 0⟩
    unfold x108_r37
    refine (ob (x86_in u a 3)).trans ((cbt (by rw [bi_eq, hr]; rfl)).trans ?_)
    unfold x108_r37_1
    exact (cbf rfl).trans rfl
  · cases hr2 : inr a2 2
    · have k : x69_t g a a2 = some (.inl 0, g) := by
        unfold x69_t
        refine (ob ((x43_eq g a).trans (by rw [hr]))).trans ?_
        unfold inr at hr2
        cases e1 : Op.ifCond.holds .lt a2
        · have e2 : Op.if_icmp.holds .gt a2 (2 : Int32) = true := by
            cases e3 : Op.if_icmp.holds .gt a2 (2 : Int32)
            · have e4 : Op.if_icmp.holds .gt a2 (Int32.ofNat 2) = false := e3
              rw [e1, e4] at hr2
              cases hr2
            · rfl
          exact (se_r (0 : Int32)).trans ((cbf rfl).trans ((cbt e2).trans rfl))
        · exact (se_r (0 : Int32)).trans ((cbt rfl).trans rfl)
      refine ⟨.inl 0, 0, im_w u 37 1 1, fun L xs o Y => x69_t_ok k, ?_, iR_f 1 h, iAn_t u 0⟩
      unfold x108_r37
      refine (ob (x86_in u a 3)).trans ((cbf (by rw [bi_eq, hr]; rfl)).trans ?_)
      refine (ob (x86_in u a2 2)).trans ((cbt (by rw [bi_eq, hr2]; rfl)).trans ?_)
      unfold x108_r37_1
      exact (cbf rfl).trans rfl
    · obtain ⟨c, hc, rfl⟩ := inr_t (by decide) hr
      obtain ⟨k, hk, rfl⟩ := inr_t (by decide) hr2
      obtain ⟨x, y, X, Y, e1, e2, e3⟩ := ch_v h hN (show c < 4 by omega)
      have run : ∀ b : Int32, (bif Op.ifCond.holds .ne (Int32.ofNat k) then (bif Op.if_icmp.holds .ne (Int32.ofNat k) (1 : Int32) then x else y) else (x ||| y)) = b → x108_r37 u (Int32.ofNat c) (Int32.ofNat k) = some (b, im_w u 37 1 0) := fun b hb' => by
        unfold x108_r37
        refine (ob (x86_in u _ 3)).trans ((cbf (by rw [bi_eq, hr]; rfl)).trans ?_)
        refine (ob (x86_in u _ 2)).trans ((cbf (by rw [bi_eq, hr2]; rfl)).trans ?_)
        unfold x108_r37_1
        refine (cbt rfl).trans ((ob X).trans ((ob Y).trans ?_))
        unfold x108_r37_2
        rw [← hb']
        cases Op.ifCond.holds .ne (Int32.ofNat k)
        · rfl
        · cases Op.if_icmp.holds .ne (Int32.ofNat k) (1 : Int32) <;> rfl
      rcases three hk with h4 | h4 | h4 <;> subst h4
      · refine ⟨.inr (x ||| y), x ||| y, im_w u 37 1 0, fun L xs o Y => ?_, run _ rfl, iR_f 0 h, iAn_r u _⟩
        rw [← e3]
        rcases four hc with h5 | h5 | h5 | h5 <;> subst h5
        · exact x69_r0_0_0_ok rfl
        · exact x69_r0_1_0_ok rfl
        · exact x69_r0_2_0_ok rfl
        · exact x69_r0_3_0_ok rfl
      · refine ⟨.inr y, y, im_w u 37 1 0, fun L xs o Y => ?_, run _ rfl, iR_f 0 h, iAn_r u _⟩
        rw [← e1]
        rcases four hc with h5 | h5 | h5 | h5 <;> subst h5
        · exact x69_r0_0_1_ok rfl
        · exact x69_r0_1_1_ok rfl
        · exact x69_r0_2_1_ok rfl
        · exact x69_r0_3_1_ok rfl
      · refine ⟨.inr x, x, im_w u 37 1 0, fun L xs o Y => ?_, run _ rfl, iR_f 0 h, iAn_r u _⟩
        rw [← e2]
        rcases four hc with h5 | h5 | h5 | h5 <;> subst h5
        · exact x69_r0_0_2_ok rfl
        · exact x69_r0_1_2_ok rfl
        · exact x69_r0_2_2_ok rfl
        · exact x69_r0_3_2_ok rfl
set_option maxRecDepth 100000 in
set_option maxHeartbeats 4000000 in
theorem q_tri {N : Nat} {g u : im_M} (h : iR N g u) : ∃ (b : Int32) (u' : im_M), x39_r0 g = some (b, g) ∧ x112_r37 u = some (b, u') ∧ iR (N + 1) g u' := by
  have e : ∀ t : Nat, t < 4 → g (29 + 2 * t) 3 = u 53 t ∧ ∃ b : Bool, (u 53 t &&& 1) = bi b := fun t ht => by
    obtain ⟨-, -, q, hq, q1, q2⟩ := iT_of h ht
    refine ⟨q1.trans q2.symm, ?_⟩
    rw [q2]
    have tab : ∀ q : Nat, q < 16 → ∃ b : Bool, (Int32.ofNat q &&& 1) = bi b := by decide +kernel
    exact tab q hq
  obtain ⟨e0, b0, c0⟩ := e 0 (by decide)
  obtain ⟨e1, b1, c1⟩ := e 1 (by decide)
  obtain ⟨e2, b2, c2⟩ := e 2 (by decide)
  obtain ⟨e3, b3, c3⟩ := e 3 (by decide)
  have f0 : g 29 3 = u 53 0 := e0
  have f1 : g 31 3 = u 53 1 := e1
  have f2 : g 33 3 = u 53 2 := e2
  have f3 : g 35 3 = u 53 3 := e3
  unfold x39_r0 x112_r37 x39_r0_1 x112_r37_1
  rw [f0, f1, f2, f3, c0, c1, c2, c3]
  cases b0 <;> cases b1 <;> cases b2 <;> cases b3
  all_goals first
    | exact ⟨0, im_w u 37 1 0, rfl, rfl, iR_f 0 h⟩
    | exact ⟨1, im_w u 37 1 0, rfl, rfl, iR_f 0 h⟩
