/-! figure, limit, event: both sides answer alike (printed by wip/gen/rel13.py) -/
set_option maxRecDepth 100000 in
set_option maxHeartbeats 4000000 in
theorem x114_t_ok {L : Nat} {xs : Nat → Int32} {g u : im_M} {o : Nat → Int64} {Y : iv_A} {a : Int32} (hr : inr a 6 = false) (h : (decide (a.toInt < 0) || decide (6 < a.toInt)) = true) : iv_ev (iv_Xs L xs) 114 0 [.ref 40, .int a] [] (im_H g u o Y) 0 0 (.inl (some (.int 0)), im_H g (im_w u 37 1 1) o Y) := by
  have hc : x86 u a (6 : Int32) = some (0, u) := (x86_in u a 6).trans (by rw [hr]; rfl)
  refine iv_cal (mi' := 114) (pc' := 4) (ls' := [.ref 40, .int a]) (rest := [.ref 40]) (A' := im_H g u o Y) (c' := 0) (s' := 0) (as := [.int a, .int (6 : Int32)]) (v := some (.int (0 : Int32))) (A'' := im_H g u o Y) 4 86 (fun n => rfl) rfl (x86_ok (u := u) (a := a) (b := (6 : Int32)) hc) ?_
  show iv_ev (iv_Xs L xs) 114 7 [.ref 40, .int a] [.int (0 : Int32), .ref 40] (im_H g u o Y) 0 0 _
  refine iv_blk (mi' := 114) (pc' := 15) (ls' := [.ref 40, .int a]) (st' := [.int (1 : Int32), .ref 40]) (A' := im_H g u o Y) (c' := 0) (s' := 0) 2 (fun n => rfl) ?_
  refine iv_blk (mi' := 114) (pc' := 18) (ls' := [.ref 40, .int a]) (st' := []) (A' := List.set (im_H g u o Y) 37 (.inr (6, List.set [.int (u 37 0), .int (u 37 1), .int (u 37 2), .ref 41, .ref 42, .ref 43, .ref 44, .ref 45, .ref 46, .ref 47, .ref 48, .ref 49, .ref 50, .ref 51, .ref 52, .ref 53, .ref 54, .ref 55, .ref 56, .int (u 37 19), .int (u 37 20), .int (u 37 21), .int (u 37 22), .ref 57, .ref 58, .ref 59, .ref 60, .int (u 37 27), .int (u 37 28), .int (u 37 29)] 1 (.int (1 : Int32))))) (c' := 0) (s' := 0) 1 (fun n => rfl) ?_
  rw [im_f37_1]
  refine iv_brx (mi' := 114) (pc' := 108) (ls' := [.ref 40, .int a]) (st' := []) (A' := im_H g (im_w u 37 1 1) o Y) (c' := 0) (s' := 0) 2 h _ (fun n => rfl) ?_
  exact iv_ret 2 (fun n => rfl)
theorem inr_6 {a : Int32} (hr : inr a 6 = false) : (decide (a.toInt < 0) || decide (6 < a.toInt)) = true := by
  cases h1 : decide (a.toInt < 0)
  · cases h2 : decide (6 < a.toInt)
    · have k1 := of_decide_eq_false h1
      have k2 := of_decide_eq_false h2
      have e : a = Int32.ofNat a.toInt.toNat := of_toInt (by omega) (by omega)
      rw [e, inr_n (by decide) (by omega)] at hr
      cases hr
    · rfl
  · rfl
set_option maxRecDepth 100000 in
set_option maxHeartbeats 4000000 in
theorem q_fig {N : Nat} {g u : im_M} (h : iR N g u) (a : Int32) : ∃ (t : im_T) (b : Int32) (u' : im_M), (∀ (L : Nat) (xs : Nat → Int32) (o : Nat → Int64) (Y : iv_A), iv_ev (iv_Xs L xs) 82 0 [.ref 3, .int a] [] (im_H g u o Y) 0 0 (im_res t (im_H g u o Y))) ∧ (∀ (L : Nat) (xs : Nat → Int32) (g0 : im_M) (o : Nat → Int64) (Y : iv_A), iv_ev (iv_Xs L xs) 114 0 [.ref 40, .int a] [] (im_H g0 u o Y) 0 0 (.inl (some (.int b)), im_H g0 u' o Y)) ∧ iR (N + 1) g u' ∧ iAn t b u' := by
  cases hr : inr a 6
  · exact ⟨.inl 0, 0, im_w u 37 1 1, fun L xs o Y => x82_t_ok (inr_6 hr), fun L xs g0 o Y => x114_t_ok hr (inr_6 hr), iR_f 1 h, iAn_t u 0⟩
  · obtain ⟨k, hk, rfl⟩ := inr_t (by decide) hr
    have h2 := h
    obtain ⟨n, d, hn, hd, hd2, h00, hu0, hJ, hby, hy, hb7, hp, hf, hX, -⟩ := h2
    have h7 : k = 0 ∨ k = 1 ∨ k = 2 ∨ k = 3 ∨ k = 4 ∨ k = 5 ∨ k = 6 := by omega
    rcases h7 with h7 | h7 | h7 | h7 | h7 | h7 | h7 <;> subst h7
    · have e : g 1 1 = u 37 2 := hJ.1.trans hJ.2.1.symm
      refine ⟨.inr (u 37 2), u 37 2, im_w u 37 1 0, fun L xs o Y => ?_, fun L xs g0 o Y => x114_r37_0_ok rfl, iR_f 0 h, iAn_r u _⟩
      rw [← e]
      exact x82_r0_0_ok rfl
    · have e : g 1 2 = u 37 22 := (by obtain ⟨e, -, i1, i2⟩ := hJ.2.2.1; rw [i1, i2])
      refine ⟨.inr (u 37 22), u 37 22, im_w u 37 1 0, fun L xs o Y => ?_, fun L xs g0 o Y => x114_r37_1_ok rfl, iR_f 0 h, iAn_r u _⟩
      rw [← e]
      exact x82_r0_1_ok rfl
    · have e : g 0 7 = u 37 27 := hb7
      refine ⟨.inr (u 37 27), u 37 27, im_w u 37 1 0, fun L xs o Y => ?_, fun L xs g0 o Y => x114_r37_2_ok rfl, iR_f 0 h, iAn_r u _⟩
      rw [← e]
      exact x82_r0_2_ok rfl
    · have e : g 8 3 = u 37 28 := hp
      refine ⟨.inr (u 37 28), u 37 28, im_w u 37 1 0, fun L xs o Y => ?_, fun L xs g0 o Y => x114_r37_3_ok rfl, iR_f 0 h, iAn_r u _⟩
      rw [← e]
      exact x82_r0_3_ok rfl
    · have e : g 8 4 = u 37 29 := hf
      refine ⟨.inr (u 37 29), u 37 29, im_w u 37 1 0, fun L xs o Y => ?_, fun L xs g0 o Y => x114_r37_4_ok rfl, iR_f 0 h, iAn_r u _⟩
      rw [← e]
      exact x82_r0_4_ok rfl
    · have e : g 0 6 = u 37 19 := hy
      refine ⟨.inr (u 37 19), u 37 19, im_w u 37 1 0, fun L xs o Y => ?_, fun L xs g0 o Y => x114_r37_5_ok rfl, iR_f 0 h, iAn_r u _⟩
      rw [← e]
      exact x82_r0_5_ok rfl
    · have e : x114_r37_6 u = some (g 8 0, im_w u 37 1 0) := by
        have e0 : x114_r37_6 u = x114_r37_6_1 u 0 := rfl
        rw [e0]
        unfold x114_r37_6_1 x114_r37_6_2
        rcases hX with ⟨z1, z2⟩ | ⟨c, p, hc, hp', z1, -, z3, -⟩
        · rw [z1, z2]
          rfl
        · have g1 : Op.ifCond.holds .ge (u 37 20) = true := by
            rw [z3]
            have q := nn_n (k := 3 * c + p) (by omega)
            show decide (Int32.ofNat (3 * c + p) ≥ 0) = true
            exact decide_eq_true (Int32.not_lt.1 q)
          refine (cbt g1).trans ?_
          rw [z1, z3, q_div hc hp']
      exact ⟨.inr (g 8 0), g 8 0, im_w u 37 1 0, fun L xs o Y => x82_r0_6_ok rfl, fun L xs g0 o Y => x114_r37_6_ok e, iR_f 0 h, iAn_r u _⟩
set_option maxRecDepth 100000 in
set_option maxHeartbeats 4000000 in
theorem k52_0_0 (g : im_M) : x52_r0_0_0 g = some (.inr (c_lim 0 0 g), g) := by
  unfold x52_r0_0_0
  refine (ob (show x43 g (0 : Int32) = some (.inr 0, g) from rfl)).trans ?_
  refine (se_r (0 : Int32)).trans ?_
  refine (ob (show x49 g (0 : Int32) = some (.inr 0, g) from rfl)).trans ?_
  refine (se_r (0 : Int32)).trans ?_
  exact (ob (e20_0_0 g)).trans rfl
set_option maxRecDepth 100000 in
set_option maxHeartbeats 4000000 in
theorem k52_0_1 (g : im_M) : x52_r0_0_1 g = some (.inr (c_lim 0 1 g), g) := by
  unfold x52_r0_0_1
  refine (ob (show x43 g (0 : Int32) = some (.inr 0, g) from rfl)).trans ?_
  refine (se_r (0 : Int32)).trans ?_
  refine (ob (show x49 g (1 : Int32) = some (.inr 0, g) from rfl)).trans ?_
  refine (se_r (0 : Int32)).trans ?_
  exact (ob (e20_0_1 g)).trans rfl
set_option maxRecDepth 100000 in
set_option maxHeartbeats 4000000 in
theorem k52_0_2 (g : im_M) {x : Nat} (hx : x < 4096) (hg : g 10 0 = Int32.ofNat x) : x52_r0_0_2 g = some (.inr (c_lim 0 2 g), g) := by
  unfold x52_r0_0_2
  refine (ob (show x43 g (0 : Int32) = some (.inr 0, g) from rfl)).trans ?_
  refine (se_r (0 : Int32)).trans ?_
  refine (ob (show x49 g (2 : Int32) = some (.inr 0, g) from rfl)).trans ?_
  refine (se_r (0 : Int32)).trans ?_
  exact (ob (e20_0_2 g hx hg)).trans rfl
set_option maxRecDepth 100000 in
set_option maxHeartbeats 4000000 in
theorem k52_1_0 (g : im_M) : x52_r0_1_0 g = some (.inr (c_lim 1 0 g), g) := by
  unfold x52_r0_1_0
  refine (ob (show x43 g (1 : Int32) = some (.inr 0, g) from rfl)).trans ?_
  refine (se_r (0 : Int32)).trans ?_
  refine (ob (show x49 g (0 : Int32) = some (.inr 0, g) from rfl)).trans ?_
  refine (se_r (0 : Int32)).trans ?_
  exact (ob (e20_1_0 g)).trans rfl
set_option maxRecDepth 100000 in
set_option maxHeartbeats 4000000 in
theorem k52_1_1 (g : im_M) : x52_r0_1_1 g = some (.inr (c_lim 1 1 g), g) := by
  unfold x52_r0_1_1
  refine (ob (show x43 g (1 : Int32) = some (.inr 0, g) from rfl)).trans ?_
  refine (se_r (0 : Int32)).trans ?_
  refine (ob (show x49 g (1 : Int32) = some (.inr 0, g) from rfl)).trans ?_
  refine (se_r (0 : Int32)).trans ?_
  exact (ob (e20_1_1 g)).trans rfl
set_option maxRecDepth 100000 in
set_option maxHeartbeats 4000000 in
theorem k52_1_2 (g : im_M) {x : Nat} (hx : x < 4096) (hg : g 15 0 = Int32.ofNat x) : x52_r0_1_2 g = some (.inr (c_lim 1 2 g), g) := by
  unfold x52_r0_1_2
  refine (ob (show x43 g (1 : Int32) = some (.inr 0, g) from rfl)).trans ?_
  refine (se_r (0 : Int32)).trans ?_
  refine (ob (show x49 g (2 : Int32) = some (.inr 0, g) from rfl)).trans ?_
  refine (se_r (0 : Int32)).trans ?_
  exact (ob (e20_1_2 g hx hg)).trans rfl
set_option maxRecDepth 100000 in
set_option maxHeartbeats 4000000 in
theorem k52_2_0 (g : im_M) : x52_r0_2_0 g = some (.inr (c_lim 2 0 g), g) := by
  unfold x52_r0_2_0
  refine (ob (show x43 g (2 : Int32) = some (.inr 0, g) from rfl)).trans ?_
  refine (se_r (0 : Int32)).trans ?_
  refine (ob (show x49 g (0 : Int32) = some (.inr 0, g) from rfl)).trans ?_
  refine (se_r (0 : Int32)).trans ?_
  exact (ob (e20_2_0 g)).trans rfl
set_option maxRecDepth 100000 in
set_option maxHeartbeats 4000000 in
theorem k52_2_1 (g : im_M) : x52_r0_2_1 g = some (.inr (c_lim 2 1 g), g) := by
  unfold x52_r0_2_1
  refine (ob (show x43 g (2 : Int32) = some (.inr 0, g) from rfl)).trans ?_
  refine (se_r (0 : Int32)).trans ?_
  refine (ob (show x49 g (1 : Int32) = some (.inr 0, g) from rfl)).trans ?_
  refine (se_r (0 : Int32)).trans ?_
  exact (ob (e20_2_1 g)).trans rfl
set_option maxRecDepth 100000 in
set_option maxHeartbeats 4000000 in
theorem k52_2_2 (g : im_M) {x : Nat} (hx : x < 4096) (hg : g 20 0 = Int32.ofNat x) : x52_r0_2_2 g = some (.inr (c_lim 2 2 g), g) := by
  unfold x52_r0_2_2
  refine (ob (show x43 g (2 : Int32) = some (.inr 0, g) from rfl)).trans ?_
  refine (se_r (0 : Int32)).trans ?_
  refine (ob (show x49 g (2 : Int32) = some (.inr 0, g) from rfl)).trans ?_
  refine (se_r (0 : Int32)).trans ?_
  exact (ob (e20_2_2 g hx hg)).trans rfl
set_option maxRecDepth 100000 in
set_option maxHeartbeats 4000000 in
theorem k52_3_0 (g : im_M) : x52_r0_3_0 g = some (.inr (c_lim 3 0 g), g) := by
  unfold x52_r0_3_0
  refine (ob (show x43 g (3 : Int32) = some (.inr 0, g) from rfl)).trans ?_
  refine (se_r (0 : Int32)).trans ?_
  refine (ob (show x49 g (0 : Int32) = some (.inr 0, g) from rfl)).trans ?_
  refine (se_r (0 : Int32)).trans ?_
  exact (ob (e20_3_0 g)).trans rfl
set_option maxRecDepth 100000 in
set_option maxHeartbeats 4000000 in
theorem k52_3_1 (g : im_M) : x52_r0_3_1 g = some (.inr (c_lim 3 1 g), g) := by
  unfold x52_r0_3_1
  refine (ob (show x43 g (3 : Int32) = some (.inr 0, g) from rfl)).trans ?_
  refine (se_r (0 : Int32)).trans ?_
  refine (ob (show x49 g (1 : Int32) = some (.inr 0, g) from rfl)).trans ?_
  refine (se_r (0 : Int32)).trans ?_
  exact (ob (e20_3_1 g)).trans rfl
set_option maxRecDepth 100000 in
set_option maxHeartbeats 4000000 in
theorem k52_3_2 (g : im_M) {x : Nat} (hx : x < 4096) (hg : g 25 0 = Int32.ofNat x) : x52_r0_3_2 g = some (.inr (c_lim 3 2 g), g) := by
  unfold x52_r0_3_2
  refine (ob (show x43 g (3 : Int32) = some (.inr 0, g) from rfl)).trans ?_
  refine (se_r (0 : Int32)).trans ?_
  refine (ob (show x49 g (2 : Int32) = some (.inr 0, g) from rfl)).trans ?_
  refine (se_r (0 : Int32)).trans ?_
  exact (ob (e20_3_2 g hx hg)).trans rfl
set_option maxRecDepth 100000 in
set_option maxHeartbeats 4000000 in
theorem q_lim {N : Nat} {g u : im_M} (h : iR N g u) (a a2 : Int32) : ∃ (t : im_T) (b : Int32) (u' : im_M), (∀ (L : Nat) (xs : Nat → Int32) (o : Nat → Int64) (Y : iv_A), iv_ev (iv_Xs L xs) 52 0 [.ref 3, .int a, .int a2] [] (im_H g u o Y) 0 0 (im_res t (im_H g u o Y))) ∧ x87_r37 u a a2 = some (b, u') ∧ iR (N + 1) g u' ∧ iAn t b u' := by
  cases hr : inr a 3
  · have k : x52_t g a a2 = some (.inl 0, g) := by
      unfold x52_t
      exact (ob ((x43_eq g a).trans (by rw [hr]))).trans rfl
    refine ⟨.inl 0, 0, im_w u 37 1 1, fun L xs o Y => x52_t_ok k, ?_, iR_f 1 h, iAn_t u 0⟩
    unfold x87_r37
    refine (ob (x86_in u a 3)).trans ((cbt (by rw [bi_eq, hr]; rfl)).trans ?_)
    unfold x87_r37_1
    exact (cbt rfl).trans rfl
  · cases hr2 : inr a2 2
    · have k : x52_t g a a2 = some (.inl 0, g) := by
        unfold x52_t
        refine (ob ((x43_eq g a).trans (by rw [hr]))).trans ?_
        exact (ob ((x49_eq g a2).trans (by rw [hr2]))).trans rfl
      refine ⟨.inl 0, 0, im_w u 37 1 1, fun L xs o Y => x52_t_ok k, ?_, iR_f 1 h, iAn_t u 0⟩
      unfold x87_r37
      refine (ob (x86_in u a 3)).trans ((cbf (by rw [bi_eq, hr]; rfl)).trans ?_)
      refine (ob (x86_in u a2 2)).trans ((cbt (by rw [bi_eq, hr2]; rfl)).trans ?_)
      unfold x87_r37_1
      exact (cbt rfl).trans rfl
    · obtain ⟨c, hc, rfl⟩ := inr_t (by decide) hr
      obtain ⟨p, hp, rfl⟩ := inr_t (by decide) hr2
      have h2 := h
      obtain ⟨n, d, hn, hd, hd2, h00, hu0, hJ, -, -, -, -, -, -, hC, -⟩ := h2
      obtain ⟨w, s, f, hL, -⟩ := hC c (by omega)
      obtain ⟨x, _, _, _, hx, -, -, -, gx, ux, -⟩ := hL 0 (by decide)
      obtain ⟨y, _, _, _, hy, -, -, -, gy, uy, -⟩ := hL 1 (by decide)
      have e := c_lim_eq (c := c) (p := p) (by omega) hx hy gx gy
      refine ⟨.inr (limv p x y), limv p x y, im_w u 37 1 0, fun L xs o Y => ?_, ?_, iR_f 0 h, iAn_r u _⟩
      · rw [← e]
        rcases four hc with h4 | h4 | h4 | h4 <;> subst h4 <;> rcases three hp with h5 | h5 | h5 <;> subst h5
        · exact x52_r0_0_0_ok (k52_0_0 g)
        · exact x52_r0_0_1_ok (k52_0_1 g)
        · exact x52_r0_0_2_ok (k52_0_2 g hx gx)
        · exact x52_r0_1_0_ok (k52_1_0 g)
        · exact x52_r0_1_1_ok (k52_1_1 g)
        · exact x52_r0_1_2_ok (k52_1_2 g hx gx)
        · exact x52_r0_2_0_ok (k52_2_0 g)
        · exact x52_r0_2_1_ok (k52_2_1 g)
        · exact x52_r0_2_2_ok (k52_2_2 g hx gx)
        · exact x52_r0_3_0_ok (k52_3_0 g)
        · exact x52_r0_3_1_ok (k52_3_1 g)
        · exact x52_r0_3_2_ok (k52_3_2 g hx gx)
      · unfold x87_r37
        refine (ob (x86_in u _ 3)).trans ((cbf (by rw [bi_eq, hr]; rfl)).trans ?_)
        refine (ob (x86_in u _ 2)).trans ((cbf (by rw [bi_eq, hr2]; rfl)).trans ?_)
        unfold x87_r37_1
        refine (cbf rfl).trans ?_
        exact (ob (x88_eq (u := im_w u 37 1 0) (by omega) (by omega) hx hy ux uy)).trans rfl
set_option maxRecDepth 100000 in
set_option maxHeartbeats 4000000 in
theorem lt_ge (x y : Int32) : Op.if_icmp.holds .lt x y = !(Op.if_icmp.holds .ge x y) := by
  show decide (x < y) = !(decide (y ≤ x))
  by_cases h : y ≤ x
  · rw [decide_eq_true h, decide_eq_false (Int32.not_lt.2 h)]
    rfl
  · rw [decide_eq_false h, decide_eq_true (Int32.not_le.1 h)]
    rfl
def iAe (t : im_T) (b : Int32) (u' : im_M) : Prop := (t = .inl 2 ∧ u' 37 1 = 1) ∨ (t = .inl 0 ∧ u' 37 1 = 2) ∨ (t = .inr b ∧ u' 37 1 = 0)
theorem x78_eq (g : im_M) (a : Int32) : x78_r1 g a = some (bi ((!(Op.ifCond.holds .lt a) && !(Op.if_icmp.holds .ge a (g 1 2))) && !(Op.if_icmp.holds .lt a ((g 1 2) - (40 : Int32)))), g) := by
  unfold x78_r1 x78_r1_1
  cases Op.ifCond.holds .lt a <;> cases Op.if_icmp.holds .ge a (g 1 2) <;> cases Op.if_icmp.holds .lt a ((g 1 2) - (40 : Int32)) <;> rfl
theorem q_eve {N : Nat} {g u : im_M} (h : iR N g u) (hN : N ≤ 512) (a a2 : Int32) : ∃ (t : im_T) (b : Int32) (u' : im_M), x77_r0 g a a2 = some (t, g) ∧ x113_r37 u a a2 = some (b, u') ∧ iR (N + 1) g u' ∧ iAe t b u' := by
  have h2 := h
  obtain ⟨n, d, hn, hd, hd2, h00, hu0, hJ, -⟩ := h2
  obtain ⟨-, -, ⟨e, he, j3, j4⟩, j5⟩ := hJ
  have k78 := x78_eq g a
  rw [j3, lt_ge] at k78
  unfold x77_r0 x113_r37
  rw [j4]
  have no : x113_r37_1 u a a2 1 = some (0, im_w u 37 1 1) := by
    unfold x113_r37_1
    exact (cbf rfl).trans rfl
  have non : iAe (.inl 2) 0 (im_w u 37 1 1) := Or.inl ⟨rfl, im_w_s _ _ _ _⟩
  cases c1 : Op.ifCond.holds .lt a
  · cases c2 : Op.if_icmp.holds .ge a (Int32.ofNat e)
    · cases c3 : Op.if_icmp.holds .ge a (Int32.ofNat e - (40 : Int32))
      · rw [c1, c2, c3] at k78
        exact ⟨.inl 2, 0, im_w u 37 1 1, (ob k78).trans ((cbf rfl).trans rfl), (cbf rfl).trans ((cbf rfl).trans ((cbf rfl).trans no)), iR_f 1 h, non⟩
      · rw [c1, c2, c3] at k78
        have ka : ∃ k : Nat, k < e ∧ a = Int32.ofNat k := by
          have q1 : ¬ (a < 0) := of_decide_eq_false c1
          have q2 : ¬ (Int32.ofNat e ≤ a) := of_decide_eq_false c2
          rw [Int32.lt_iff_toInt_lt] at q1
          rw [Int32.le_iff_toInt_le, Int32.toInt_ofNat_of_lt (by omega)] at q2
          have z : (0 : Int32).toInt = 0 := rfl
          rw [z] at q1
          exact ⟨a.toInt.toNat, by omega, of_toInt (by omega) (by omega)⟩
        obtain ⟨k, hk, rfl⟩ := ka
        have fr := fm_r (e := k) (by omega)
        have km : k % 40 < 40 := Nat.mod_lt _ (by decide)
        obtain ⟨r0, r1, r2, r3⟩ := j5 (k % 40) km
        have ge4 : Op.if_icmp.holds .ge a2 (4 : Int32) = Op.if_icmp.holds .gt a2 (Int32.ofNat 3) := ge_gt a2 (m := 3) (by decide)
        have m86 := x86_in u a2 3
        cases hr : inr a2 3
        · rw [hr] at m86
          have cl : x77_r0_1 g (Int32.ofNat k) a2 0 = some (.inl 0, g) := rfl
          have mr : x113_r37_1 u (Int32.ofNat k) a2 2 = some (0, im_w u 37 1 2) := by
            unfold x113_r37_1
            exact (cbf rfl).trans rfl
          refine ⟨.inl 0, 0, im_w u 37 1 2, (ob k78).trans ((cbt rfl).trans ?_), (cbf rfl).trans ((cbf rfl).trans ((cbt rfl).trans ((ob m86).trans ((cbt rfl).trans mr)))), iR_f 2 h, Or.inr (Or.inl ⟨rfl, im_w_s _ _ _ _⟩)⟩
          cases e1 : Op.ifCond.holds .lt a2
          · have e2 : Op.if_icmp.holds .ge a2 (4 : Int32) = true := by
              rw [ge4]
              cases e3 : Op.if_icmp.holds .gt a2 (Int32.ofNat 3)
              · unfold inr at hr
                rw [e1, e3] at hr
                cases hr
              · rfl
            exact (cbf rfl).trans ((cbt e2).trans cl)
          · exact (cbt rfl).trans cl
        · rw [hr] at m86
          obtain ⟨b, hb', rfl⟩ := inr_t (by decide) hr
          have e1 : Op.ifCond.holds .lt (Int32.ofNat b) = false := nn_lt (by omega)
          have e2 : Op.if_icmp.holds .ge (Int32.ofNat b) (4 : Int32) = false := (is_ge (b := 4) (by omega) (by decide)).trans (decide_eq_false (by omega))
          have i1 := iv_in_t (k := 4 * (k % 40) + b) (n := 160) (by omega) (by omega)
          have i2 := Int32.toNatClampNeg_ofNat_of_lt (n := 4 * (k % 40) + b) (by omega)
          have i3 := iv_in_t (k := k % 40) (n := 40) (by omega) km
          have i4 := Int32.toNatClampNeg_ofNat_of_lt (n := k % 40) (by omega)
          have rd : x80_r1 g (Int32.ofNat k) (Int32.ofNat b) = some (g 2 (4 * (k % 40) + b), g) := by
            unfold x80_r1
            refine (ob (x16_eq g _)).trans ?_
            show (bif iv_in (fm (Int32.ofNat k) * 4 + Int32.ofNat b) 160 then some ((g 2) ((fm (Int32.ofNat k) * 4 + Int32.ofNat b)).toNatClampNeg, g) else none) = _
            rw [fm_n (by omega), is_m4, on_add, i2]
            exact cbt i1
          have cl : x77_r0_1 g (Int32.ofNat k) (Int32.ofNat b) 1 = some (.inr (g 2 (4 * (k % 40) + b)), g) := by
            unfold x77_r0_1
            refine (ob (x44_1 g)).trans ?_
            exact (ob rd).trans rfl
          have c' : (∀ v : Int32, g 2 (4 * (k % 40) + b) = v → x113_r37_1 u (Int32.ofNat k) (Int32.ofNat b) 0 = some (v, im_w u 37 1 0)) := fun v hv => by
            unfold x113_r37_1
            rw [fr, i4, ← hv]
            refine (cbt rfl).trans ?_
            rcases four hb' with h4 | h4 | h4 | h4 <;> subst h4
            · refine (cbf rfl).trans ((cbt i3).trans ?_)
              unfold x113_r37_2
              rw [← r0]
              rfl
            · refine (cbt rfl).trans ((cbf rfl).trans ((cbt i3).trans ?_))
              unfold x113_r37_2
              rw [← r1]
            · refine (cbt rfl).trans ((cbt rfl).trans ((cbf rfl).trans ((cbt i3).trans ?_)))
              unfold x113_r37_2
              rw [← r2]
            · refine (cbt rfl).trans ((cbt rfl).trans ((cbt rfl).trans ((cbt i3).trans ?_)))
              unfold x113_r37_2
              rw [← r3]
          exact ⟨.inr (g 2 (4 * (k % 40) + b)), g 2 (4 * (k % 40) + b), im_w u 37 1 0, (ob k78).trans ((cbt rfl).trans ((cbf e1).trans ((cbf e2).trans cl))), (cbf rfl).trans ((cbf rfl).trans ((cbt rfl).trans ((ob m86).trans ((cbf rfl).trans (c' _ rfl))))), iR_f 0 h, Or.inr (Or.inr ⟨rfl, im_w_s _ _ _ _⟩)⟩
    · rw [c1, c2] at k78
      exact ⟨.inl 2, 0, im_w u 37 1 1, (ob k78).trans ((cbf rfl).trans rfl), (cbf rfl).trans ((cbt rfl).trans no), iR_f 1 h, non⟩
  · rw [c1] at k78
    exact ⟨.inl 2, 0, im_w u 37 1 1, (ob k78).trans ((cbf rfl).trans rfl), (cbt rfl).trans no, iR_f 1 h, non⟩
