/-! A call of the law keeps the relation (printed by wip/gen/rel16.py) -/
/-- what a call leaves: the law goes on behind the switch -/
def iG1 (L : Nat) (xs : Nat → Int32) (N pc : Nat) (i : Int32) (l5 l6 : Value) (g u : im_M) (o : Nat → Int64) (Y : iv_A) (c s : Nat) : Prop :=
  ∃ (g' u' : im_M) (o' : Nat → Int64) (Y' : iv_A) (l5' l6' : Value) (c' s' : Nat), iR (N + 1) g' u' ∧ c' ≤ c + 3 ∧ s' ≤ s + 18 ∧ ∀ r : iv_R, iv_ev (iv_Xs L xs) 115 854 [.ref 2, .ref 3, .ref 40, .ref 61, .int i, l5', l6'] [] (im_H g' u' o' Y') c' s' r → iv_ev (iv_Xs L xs) 115 pc [.ref 2, .ref 3, .ref 40, .ref 61, .int i, l5, l6] [] (im_H g u o Y) c s r
theorem out_0 (o : Nat → Int64) (v : Int64) : vp_updL o 0 v 0 = v := by simp [vp_updL]
set_option maxRecDepth 100000 in
set_option maxHeartbeats 4000000 in
theorem law_s0 {L : Nat} {xs : Nat → Int32} {N : Nat} {i : Int32} {l5 l6 : Value} {g u : im_M} {o : Nat → Int64} {Y : iv_A} {c s : Nat} (h : iR N g u) (hN : N < 512) (h1 : iv_in (i + 1) L = true) (h2 : iv_in (i + 2) L = true) (h3 : iv_in (i + 3) L = true) (hc : c + 3 ≤ 601024) (hs : s + 18 ≤ 7293000) : iG1 L xs N 124 i l5 l6 g u o Y c s := by
  obtain ⟨t, g', u', C, M, R, O⟩ := q_sen h (xs (i + 1).toNatClampNeg) (xs (i + 2).toNatClampNeg) (xs (i + 3).toNatClampNeg)
  rcases O with ⟨ht, hu⟩ | ⟨ht, hu⟩ <;> subst ht
  · exact ⟨g', u', o, Y ++ [.inr (7, [])], .int 1, l6, c + 3, s + 18, R, by omega, by omega, fun r hn => law_c0 h1 h2 h3 (by omega) (by omega) (x41_t0 (C L xs o Y)) (x85_r37_ok M) hu hn⟩
  · exact ⟨g', u', o, Y, .int 0, l6, c + 3, s + 18, R, by omega, by omega, fun r hn => law_c0 h1 h2 h3 (by omega) (by omega) (x41_ret (C L xs o Y)) (x85_r37_ok M) hu hn⟩
set_option maxRecDepth 100000 in
set_option maxHeartbeats 4000000 in
theorem law_s7 {L : Nat} {xs : Nat → Int32} {N : Nat} {i : Int32} {l5 l6 : Value} {g u : im_M} {o : Nat → Int64} {Y : iv_A} {c s : Nat} (h : iR N g u) (hN : N < 512) (h1 : iv_in (i + 1) L = true) (h2 : iv_in (i + 2) L = true) (h3 : iv_in (i + 3) L = true) (hc : c + 3 ≤ 601024) (hs : s + 18 ≤ 7293000) : iG1 L xs N 409 i l5 l6 g u o Y c s := by
  obtain ⟨t, g', u', C, M, R, O⟩ := q_flt h (xs (i + 1).toNatClampNeg) (xs (i + 2).toNatClampNeg) (xs (i + 3).toNatClampNeg)
  rcases O with ⟨ht, hu⟩ | ⟨ht, hu⟩ <;> subst ht
  · exact ⟨g', u', o, Y ++ [.inr (7, [])], .int 1, l6, c + 2, s + 12, R, by omega, by omega, fun r hn => law_c7 h1 h2 h3 (by omega) (by omega) (x65_t0 (C L xs o Y)) (x107_r37_ok M) hu hn⟩
  · exact ⟨g', u', o, Y, .int 0, l6, c + 2, s + 12, R, by omega, by omega, fun r hn => law_c7 h1 h2 h3 (by omega) (by omega) (x65_ret (C L xs o Y)) (x107_r37_ok M) hu hn⟩
set_option maxRecDepth 100000 in
set_option maxHeartbeats 4000000 in
theorem law_s3 {L : Nat} {xs : Nat → Int32} {N : Nat} {i : Int32} {l5 l6 : Value} {g u : im_M} {o : Nat → Int64} {Y : iv_A} {c s : Nat} (h : iR N g u) (hN : N < 512) (h1 : iv_in (i + 1) L = true) (h2 : iv_in (i + 2) L = true) (h3 : iv_in (i + 3) L = true) (hc : c + 3 ≤ 601024) (hs : s + 18 ≤ 7293000) : iG1 L xs N 265 i l5 l6 g u o Y c s := by
  obtain ⟨t, g', u', C, M, R, O⟩ := q_byp h hN (xs (i + 1).toNatClampNeg)
  rcases O with ⟨ht, hu⟩ | ⟨ht, hu⟩ | ⟨ht, hu⟩ <;> subst ht
  · exact ⟨g', u', o, Y ++ [.inr (7, [])], .int 1, l6, c + 2, s + 12, R, by omega, by omega, fun r hn => law_c3 h1 (by omega) (by omega) (x53_t0 (x54_t_ok C)) (x103_r37_ok M) hu hn⟩
  · exact ⟨g', u', o, Y ++ [.inr (8, [])], .int 2, l6, c + 2, s + 12, R, by omega, by omega, fun r hn => law_c3 h1 (by omega) (by omega) (x53_t1 (x54_t_ok C)) (x103_r37_ok M) hu hn⟩
  · exact ⟨g', u', o, Y, .int 0, l6, c + 2, s + 12, R, by omega, by omega, fun r hn => law_c3 h1 (by omega) (by omega) (x53_ret (x54_t_ok C)) (x103_r37_ok M) hu hn⟩
set_option maxRecDepth 100000 in
set_option maxHeartbeats 4000000 in
theorem law_s5 {L : Nat} {xs : Nat → Int32} {N : Nat} {i : Int32} {l5 l6 : Value} {g u : im_M} {o : Nat → Int64} {Y : iv_A} {c s : Nat} (h : iR N g u) (hN : N < 512) (h1 : iv_in (i + 1) L = true) (h2 : iv_in (i + 2) L = true) (h3 : iv_in (i + 3) L = true) (hc : c + 3 ≤ 601024) (hs : s + 18 ≤ 7293000) : iG1 L xs N 325 i l5 l6 g u o Y c s := by
  obtain ⟨t, g', u', C, M, R, O⟩ := q_tes h (xs (i + 1).toNatClampNeg) (xs (i + 2).toNatClampNeg)
  rcases O with ⟨ht, hu⟩ | ⟨ht, hu⟩ | ⟨ht, hu⟩ <;> subst ht
  · exact ⟨g', u', o, Y ++ [.inr (7, [])], .int 1, l6, c + 3, s + 18, R, by omega, by omega, fun r hn => law_c5 h1 h2 (by omega) (by omega) (x59_t0 (x60_t_ok C)) (x105_r37_ok M) hu hn⟩
  · exact ⟨g', u', o, Y ++ [.inr (8, [])], .int 2, l6, c + 3, s + 18, R, by omega, by omega, fun r hn => law_c5 h1 h2 (by omega) (by omega) (x59_t1 (x60_t_ok C)) (x105_r37_ok M) hu hn⟩
  · exact ⟨g', u', o, Y, .int 0, l6, c + 3, s + 18, R, by omega, by omega, fun r hn => law_c5 h1 h2 (by omega) (by omega) (x59_ret (x60_t_ok C)) (x105_r37_ok M) hu hn⟩
set_option maxRecDepth 100000 in
set_option maxHeartbeats 4000000 in
theorem law_s6 {L : Nat} {xs : Nat → Int32} {N : Nat} {i : Int32} {l5 l6 : Value} {g u : im_M} {o : Nat → Int64} {Y : iv_A} {c s : Nat} (h : iR N g u) (hN : N < 512) (h1 : iv_in (i + 1) L = true) (h2 : iv_in (i + 2) L = true) (h3 : iv_in (i + 3) L = true) (hc : c + 3 ≤ 601024) (hs : s + 18 ≤ 7293000) : iG1 L xs N 373 i l5 l6 g u o Y c s := by
  obtain ⟨t, g', u', C, M, R, O⟩ := q_rst h hN (xs (i + 1).toNatClampNeg)
  rcases O with ⟨ht, hu⟩ | ⟨ht, hu⟩ | ⟨ht, hu⟩ <;> subst ht
  · exact ⟨g', u', o, Y ++ [.inr (7, [])], .int 1, l6, c + 2, s + 12, R, by omega, by omega, fun r hn => law_c6 h1 (by omega) (by omega) (x62_t0 (C L xs o Y)) (x106_r37_ok M) hu hn⟩
  · exact ⟨g', u', o, Y ++ [.inr (8, [])], .int 2, l6, c + 2, s + 12, R, by omega, by omega, fun r hn => law_c6 h1 (by omega) (by omega) (x62_t1 (C L xs o Y)) (x106_r37_ok M) hu hn⟩
  · exact ⟨g', u', o, Y, .int 0, l6, c + 2, s + 12, R, by omega, by omega, fun r hn => law_c6 h1 (by omega) (by omega) (x62_ret (C L xs o Y)) (x106_r37_ok M) hu hn⟩
set_option maxRecDepth 100000 in
set_option maxHeartbeats 4000000 in
theorem law_s4 {L : Nat} {xs : Nat → Int32} {N : Nat} {i : Int32} {l5 l6 : Value} {g u : im_M} {o : Nat → Int64} {Y : iv_A} {c s : Nat} (h : iR N g u) (hN : N < 512) (h1 : iv_in (i + 1) L = true) (h2 : iv_in (i + 2) L = true) (h3 : iv_in (i + 3) L = true) (hc : c + 3 ≤ 601024) (hs : s + 18 ≤ 7293000) : iG1 L xs N 301 i l5 l6 g u o Y c s := by
  obtain ⟨t, g', u', C, M, R, O⟩ := q_res h hN
  rcases O with ⟨ht, hu⟩ | ⟨ht, hu⟩ <;> subst ht
  · exact ⟨g', u', o, Y ++ [.inr (8, [])], .int 1, l6, c + 1, s + 6, R, by omega, by omega, fun r hn => law_c4 (by omega) (by omega) (x57_t1 (x58_r0_ok C)) (x104_r37_ok M) hu hn⟩
  · exact ⟨g', u', o, Y, .int 0, l6, c + 1, s + 6, R, by omega, by omega, fun r hn => law_c4 (by omega) (by omega) (x57_ret (x58_r0_ok C)) (x104_r37_ok M) hu hn⟩
set_option maxRecDepth 100000 in
set_option maxHeartbeats 4000000 in
theorem law_s1 {L : Nat} {xs : Nat → Int32} {N : Nat} {i : Int32} {l5 l6 : Value} {g u : im_M} {o : Nat → Int64} {Y : iv_A} {c s : Nat} (h : iR N g u) (hN : N < 512) (h1 : iv_in (i + 1) L = true) (h2 : iv_in (i + 2) L = true) (h3 : iv_in (i + 3) L = true) (hc : c + 3 ≤ 601024) (hs : s + 18 ≤ 7293000) : iG1 L xs N 184 i l5 l6 g u o Y c s := by
  obtain ⟨t, b, u', C, M, R, O⟩ := q_lim h (xs (i + 1).toNatClampNeg) (xs (i + 2).toNatClampNeg)
  rcases O with ⟨ht, hu⟩ | ⟨ht, hu⟩ <;> subst ht
  · exact ⟨g, u', o, Y ++ [.inr (7, [])], .int 1, .int b, c + 2, s + 12, R, by omega, by omega, fun r hn => law_c1 h1 h2 (by omega) (by omega) (x51_t0 (C L xs o Y)) (x87_r37_ok M) hu (fun h0 => absurd h0 (by decide)) hn⟩
  · exact ⟨g, u', vp_updL o 0 b.toInt64, Y, .int 0, .int b, c + 2, s + 12, R, by omega, by omega, fun r hn => law_c1 h1 h2 (by omega) (by omega) (x51_ret (C L xs o Y)) (x87_r37_ok M) hu (fun _ => out_0 o _) hn⟩
set_option maxRecDepth 100000 in
set_option maxHeartbeats 4000000 in
theorem law_s8 {L : Nat} {xs : Nat → Int32} {N : Nat} {i : Int32} {l5 l6 : Value} {g u : im_M} {o : Nat → Int64} {Y : iv_A} {c s : Nat} (h : iR N g u) (hN : N < 512) (h1 : iv_in (i + 1) L = true) (h2 : iv_in (i + 2) L = true) (h3 : iv_in (i + 3) L = true) (hc : c + 3 ≤ 601024) (hs : s + 18 ≤ 7293000) : iG1 L xs N 469 i l5 l6 g u o Y c s := by
  obtain ⟨t, b, u', C, M, R, O⟩ := q_cha h (by omega) (xs (i + 1).toNatClampNeg) (xs (i + 2).toNatClampNeg)
  rcases O with ⟨ht, hu⟩ | ⟨ht, hu⟩ <;> subst ht
  · exact ⟨g, u', o, Y ++ [.inr (7, [])], .int 1, .int b, c + 2, s + 12, R, by omega, by omega, fun r hn => law_c8 h1 h2 (by omega) (by omega) (x68_t0 (C L xs o Y)) (x108_r37_ok M) hu (fun h0 => absurd h0 (by decide)) hn⟩
  · exact ⟨g, u', vp_updL o 0 b.toInt64, Y, .int 0, .int b, c + 2, s + 12, R, by omega, by omega, fun r hn => law_c8 h1 h2 (by omega) (by omega) (x68_ret (C L xs o Y)) (x108_r37_ok M) hu (fun _ => out_0 o _) hn⟩
set_option maxRecDepth 100000 in
set_option maxHeartbeats 4000000 in
theorem law_s9 {L : Nat} {xs : Nat → Int32} {N : Nat} {i : Int32} {l5 l6 : Value} {g u : im_M} {o : Nat → Int64} {Y : iv_A} {c s : Nat} (h : iR N g u) (hN : N < 512) (h1 : iv_in (i + 1) L = true) (h2 : iv_in (i + 2) L = true) (h3 : iv_in (i + 3) L = true) (hc : c + 3 ≤ 601024) (hs : s + 18 ≤ 7293000) : iG1 L xs N 537 i l5 l6 g u o Y c s := by
  obtain ⟨t, b, u', C, M, R, O⟩ := q_vot h (xs (i + 1).toNatClampNeg) (xs (i + 2).toNatClampNeg)
  rcases O with ⟨ht, hu⟩ | ⟨ht, hu⟩ <;> subst ht
  · exact ⟨g, u', o, Y ++ [.inr (7, [])], .int 1, .int b, c + 2, s + 12, R, by omega, by omega, fun r hn => law_c9 h1 h2 (by omega) (by omega) (x70_t0 (C L xs o Y)) (x109_r37_ok M) hu (fun h0 => absurd h0 (by decide)) hn⟩
  · exact ⟨g, u', vp_updL o 0 b.toInt64, Y, .int 0, .int b, c + 2, s + 12, R, by omega, by omega, fun r hn => law_c9 h1 h2 (by omega) (by omega) (x70_ret (C L xs o Y)) (x109_r37_ok M) hu (fun _ => out_0 o _) hn⟩
set_option maxRecDepth 100000 in
set_option maxHeartbeats 4000000 in
theorem law_s10 {L : Nat} {xs : Nat → Int32} {N : Nat} {i : Int32} {l5 l6 : Value} {g u : im_M} {o : Nat → Int64} {Y : iv_A} {c s : Nat} (h : iR N g u) (hN : N < 512) (h1 : iv_in (i + 1) L = true) (h2 : iv_in (i + 2) L = true) (h3 : iv_in (i + 3) L = true) (hc : c + 3 ≤ 601024) (hs : s + 18 ≤ 7293000) : iG1 L xs N 605 i l5 l6 g u o Y c s := by
  obtain ⟨t, b, u', C, M, R, O⟩ := q_dem h (xs (i + 1).toNatClampNeg)
  rcases O with ⟨ht, hu⟩ | ⟨ht, hu⟩ <;> subst ht
  · exact ⟨g, u', o, Y ++ [.inr (7, [])], .int 1, .int b, c + 1, s + 6, R, by omega, by omega, fun r hn => law_c10 h1 (by omega) (by omega) (x72_t0 (C L xs o Y)) (x110_r37_ok M) hu (fun h0 => absurd h0 (by decide)) hn⟩
  · exact ⟨g, u', vp_updL o 0 b.toInt64, Y, .int 0, .int b, c + 1, s + 6, R, by omega, by omega, fun r hn => law_c10 h1 (by omega) (by omega) (x72_ret (C L xs o Y)) (x110_r37_ok M) hu (fun _ => out_0 o _) hn⟩
set_option maxRecDepth 100000 in
set_option maxHeartbeats 4000000 in
theorem law_s11 {L : Nat} {xs : Nat → Int32} {N : Nat} {i : Int32} {l5 l6 : Value} {g u : im_M} {o : Nat → Int64} {Y : iv_A} {c s : Nat} (h : iR N g u) (hN : N < 512) (h1 : iv_in (i + 1) L = true) (h2 : iv_in (i + 2) L = true) (h3 : iv_in (i + 3) L = true) (hc : c + 3 ≤ 601024) (hs : s + 18 ≤ 7293000) : iG1 L xs N 661 i l5 l6 g u o Y c s := by
  obtain ⟨t, b, u', C, M, R, O⟩ := q_lat h (xs (i + 1).toNatClampNeg)
  rcases O with ⟨ht, hu⟩ | ⟨ht, hu⟩ <;> subst ht
  · exact ⟨g, u', o, Y ++ [.inr (7, [])], .int 1, .int b, c + 1, s + 6, R, by omega, by omega, fun r hn => law_c11 h1 (by omega) (by omega) (x74_t0 (C L xs o Y)) (x111_r37_ok M) hu (fun h0 => absurd h0 (by decide)) hn⟩
  · exact ⟨g, u', vp_updL o 0 b.toInt64, Y, .int 0, .int b, c + 1, s + 6, R, by omega, by omega, fun r hn => law_c11 h1 (by omega) (by omega) (x74_ret (C L xs o Y)) (x111_r37_ok M) hu (fun _ => out_0 o _) hn⟩
set_option maxRecDepth 100000 in
set_option maxHeartbeats 4000000 in
theorem law_s14 {L : Nat} {xs : Nat → Int32} {N : Nat} {i : Int32} {l5 l6 : Value} {g u : im_M} {o : Nat → Int64} {Y : iv_A} {c s : Nat} (h : iR N g u) (hN : N < 512) (h1 : iv_in (i + 1) L = true) (h2 : iv_in (i + 2) L = true) (h3 : iv_in (i + 3) L = true) (hc : c + 3 ≤ 601024) (hs : s + 18 ≤ 7293000) : iG1 L xs N 798 i l5 l6 g u o Y c s := by
  obtain ⟨t, b, u', C, M, R, O⟩ := q_fig h (xs (i + 1).toNatClampNeg)
  rcases O with ⟨ht, hu⟩ | ⟨ht, hu⟩ <;> subst ht
  · exact ⟨g, u', o, Y ++ [.inr (7, [])], .int 1, .int b, c + 1, s + 6, R, by omega, by omega, fun r hn => law_c14 h1 (by omega) (by omega) (x81_t0 (C L xs o Y)) (M L xs _ _ _) hu (fun h0 => absurd h0 (by decide)) hn⟩
  · exact ⟨g, u', vp_updL o 0 b.toInt64, Y, .int 0, .int b, c + 1, s + 6, R, by omega, by omega, fun r hn => law_c14 h1 (by omega) (by omega) (x81_ret (C L xs o Y)) (M L xs _ _ _) hu (fun _ => out_0 o _) hn⟩
set_option maxRecDepth 100000 in
set_option maxHeartbeats 4000000 in
theorem law_s13 {L : Nat} {xs : Nat → Int32} {N : Nat} {i : Int32} {l5 l6 : Value} {g u : im_M} {o : Nat → Int64} {Y : iv_A} {c s : Nat} (h : iR N g u) (hN : N < 512) (h1 : iv_in (i + 1) L = true) (h2 : iv_in (i + 2) L = true) (h3 : iv_in (i + 3) L = true) (hc : c + 3 ≤ 601024) (hs : s + 18 ≤ 7293000) : iG1 L xs N 730 i l5 l6 g u o Y c s := by
  obtain ⟨t, b, u', C, M, R, O⟩ := q_eve h (by omega) (xs (i + 1).toNatClampNeg) (xs (i + 2).toNatClampNeg)
  rcases O with ⟨ht, hu⟩ | ⟨ht, hu⟩ | ⟨ht, hu⟩ <;> subst ht
  · exact ⟨g, u', o, Y ++ [.inr (9, [])], .int 1, .int b, c + 2, s + 12, R, by omega, by omega, fun r hn => law_c13 h1 h2 (by omega) (by omega) (x76_t2 (x77_r0_ok C)) (x113_r37_ok M) hu (fun h0 => absurd h0 (by decide)) hn⟩
  · exact ⟨g, u', o, Y ++ [.inr (7, [])], .int 2, .int b, c + 2, s + 12, R, by omega, by omega, fun r hn => law_c13 h1 h2 (by omega) (by omega) (x76_t0 (x77_r0_ok C)) (x113_r37_ok M) hu (fun h0 => absurd h0 (by decide)) hn⟩
  · exact ⟨g, u', vp_updL o 0 b.toInt64, Y, .int 0, .int b, c + 2, s + 12, R, by omega, by omega, fun r hn => law_c13 h1 h2 (by omega) (by omega) (x76_ret (x77_r0_ok C)) (x113_r37_ok M) hu (fun _ => out_0 o _) hn⟩
set_option maxRecDepth 100000 in
set_option maxHeartbeats 4000000 in
theorem law_s2 {L : Nat} {xs : Nat → Int32} {N : Nat} {i : Int32} {l5 l6 : Value} {g u : im_M} {o : Nat → Int64} {Y : iv_A} {c s : Nat} (h : iR N g u) (hN : N < 512) (h1 : iv_in (i + 1) L = true) (h2 : iv_in (i + 2) L = true) (h3 : iv_in (i + 3) L = true) (hc : c + 3 ≤ 601024) (hs : s + 18 ≤ 7293000) : iG1 L xs N 252 i l5 l6 g u o Y c s := by
  obtain ⟨k, g', u', C, M, R⟩ := tick_st hN h
  exact ⟨g', u', o, Y, l5, l6, c, s, R, by omega, by omega, fun r hn => law_c2 (by omega) (by omega) (x10_r0_ok C) (x90_r37_ok M) hn⟩
set_option maxRecDepth 100000 in
set_option maxHeartbeats 4000000 in
theorem law_s12 {L : Nat} {xs : Nat → Int32} {N : Nat} {i : Int32} {l5 l6 : Value} {g u : im_M} {o : Nat → Int64} {Y : iv_A} {c s : Nat} (h : iR N g u) (hN : N < 512) (h1 : iv_in (i + 1) L = true) (h2 : iv_in (i + 2) L = true) (h3 : iv_in (i + 3) L = true) (hc : c + 3 ≤ 601024) (hs : s + 18 ≤ 7293000) : iG1 L xs N 717 i l5 l6 g u o Y c s := by
  obtain ⟨k, u', C, M, R⟩ := q_tri h
  exact ⟨g, u', o, Y, l5, l6, c, s, R, by omega, by omega, fun r hn => law_c12 (by omega) (by omega) (x39_r0_ok C) (x112_r37_ok M) hn⟩
