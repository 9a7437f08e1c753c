/-! A lane's step: both sides together. -/
theorem c_judge_i (c p : Nat) (g : im_M) {i : Nat} (h : i ≠ 6) : c_judge c p g (9 + 5 * c) i = g (9 + 5 * c) i := by
  unfold c_judge
  cases c_isw c p g (!(Op.if_icmp.holds .le (g 1 1) (1 : Int32))) <;> cases Op.ifCond.holds .eq ((g (9 + 5 * c) 6) &&& c_msk p) <;> simp only [cond_true, cond_false]
  · rw [c_rec_o _ _ _ _ (by omega) (by omega), im_w_k _ _ _ h]
  · rw [c_rec_o _ _ _ _ (by omega) (by omega), im_w_k _ _ _ h]
theorem c_mv1_i (c p : Nat) (g : im_M) (y d : Int32) {i : Nat} (h : i ≠ 7) : c_mv1 c p g y d (9 + 5 * c) i = g (9 + 5 * c) i := by
  unfold c_mv1
  cases Op.ifCond.holds .ne ((g (9 + 5 * c) 7) &&& c_msk p) <;> cases c_ins c p g <;> cases Op.if_icmp.holds .lt y d <;> simp only [cond_true, cond_false]
  all_goals rw [c_rec_o _ _ _ _ (by omega) (by omega), im_w_k _ _ _ h]
theorem c_move_i (c p : Nat) (g : im_M) (d : Int32) {i : Nat} (h : i ≠ 7) : c_move c p g d (9 + 5 * c) i = g (9 + 5 * c) i := by
  unfold c_move
  cases Op.ifCond.holds .eq ((g (9 + 5 * c) 6) &&& c_msk p) <;> cases c_bey c p g <;> simp only [cond_true, cond_false]
  · rw [im_w_o _ _ _ (by omega)]
  · rw [im_w_o _ _ _ (by omega)]
  · rw [c_mv1_i _ _ _ _ _ h, im_w_o _ _ _ (by omega)]
  · rw [c_mv1_i _ _ _ _ _ h, im_w_o _ _ _ (by omega)]
theorem c_move_13 (c p : Nat) (g : im_M) (d : Int32) {i : Nat} (h : i ≠ p) : c_move c p g d (13 + 5 * c) i = g (13 + 5 * c) i := by
  unfold c_move
  cases Op.ifCond.holds .eq ((g (9 + 5 * c) 6) &&& c_msk p) <;> cases c_bey c p g <;> simp only [cond_true, cond_false]
  · rw [im_w_k _ _ _ h]
  · rw [im_w_k _ _ _ h]
  · rw [c_mv1_o _ _ _ _ _ (by omega) (by omega) (by omega), im_w_k _ _ _ h]
  · rw [c_mv1_o _ _ _ _ _ (by omega) (by omega) (by omega), im_w_k _ _ _ h]
theorem c_ln1_13 (c p : Nat) (g : im_M) (d : Int32) {i : Nat} (h : i ≠ p) : c_ln1 c p g d (13 + 5 * c) i = g (13 + 5 * c) i := by
  unfold c_ln1
  rw [c_move_13 c p _ d h, c_judge_o c p g (by omega) (by omega) (by omega)]
theorem c_lane_10 (c p : Nat) (g : im_M) (d : Int32) : c_lane c p g d (10 + 5 * c) = g (10 + 5 * c) := c_lane_o c p g d (by omega) (by omega) (by omega) (by omega) (by omega) (by omega)
theorem c_lane_11 (c p : Nat) (g : im_M) (d : Int32) {i : Nat} (h : i ≠ p) : c_lane c p g d (11 + 5 * c) i = g (11 + 5 * c) i := by
  unfold c_lane
  rw [im_w_k _ _ _ h, c_ln1_o c p _ d (by omega) (by omega) (by omega) (by omega), im_w_o _ _ _ (by omega)]
theorem c_lane_12 (c p : Nat) (g : im_M) (d : Int32) {i : Nat} (h : i ≠ p) : c_lane c p g d (12 + 5 * c) i = g (12 + 5 * c) i := by
  unfold c_lane
  rw [im_w_o _ _ _ (by omega), c_ln1_o c p _ d (by omega) (by omega) (by omega) (by omega), im_w_k _ _ _ h]
theorem c_lane_13 (c p : Nat) (g : im_M) (d : Int32) {i : Nat} (h : i ≠ p) : c_lane c p g d (13 + 5 * c) i = g (13 + 5 * c) i := by
  unfold c_lane
  rw [im_w_o _ _ _ (by omega), c_ln1_13 c p _ d h, im_w_o _ _ _ (by omega)]
set_option maxHeartbeats 4000000 in
theorem lane_st {n d E c p : Nat} {g u : im_M} {w s f : Nat → Bool} {l : Int32} (hc : c < 4) (hp : p < 3) (hd : 1 ≤ d) (hd2 : d ≤ 8) (hn : n < 519) (hE : E < 2 ^ 29) (hJ : iJ (n + 1) E g u)
    (hw : g (9 + 5 * c) 6 = B3f w) (hs : g (9 + 5 * c) 7 = B3f s) (hf : g (9 + 5 * c) 5 = B3f f) (hfp : f p = (decide (n = 0) || Op.ifCond.holds .ne (u 40 (3 * c + p))))
    (hL : iL n d g u c p (w p) (s p)) (z1 : hb (u 42 (n + 1)) (3 * c + p) = false) (z2 : hb (u 43 (n + 1)) (3 * c + p) = false) (z3 : hb (u 44 (n + 1)) (3 * c + p) = false)
    (hl : c_lim c p g = l) (hx : (m_ov p (u 38 (3 * c + p)) l && m_in p (u 38 (3 * c + p)) l) = false) :
    ∃ w' s' : Bool, iJ (n + 1) (E + 2) (c_lane c p g (Int32.ofNat d)) (m_look c p (n + 1) d l u) ∧ iL (n + 1) d (c_lane c p g (Int32.ofNat d)) (m_look c p (n + 1) d l u) c p w' s' ∧
      c_lane c p g (Int32.ofNat d) (9 + 5 * c) 6 = B3f (sb w p w') ∧ c_lane c p g (Int32.ofNat d) (9 + 5 * c) 7 = B3f (sb s p s') ∧ c_lane c p g (Int32.ofNat d) (9 + 5 * c) 5 = g (9 + 5 * c) 5 := by
  obtain ⟨x, f0, a, b, h1, h2, h3, h4, h5, h6, h7, h8, h9, h10, h11, h12, h13, h14⟩ := hL
  obtain ⟨k, hk⟩ : ∃ k : Nat, k = 3 * c + p := ⟨_, rfl⟩
  have hk2 : k < 12 := by omega
  rw [← hk] at hfp z1 z2 z3 hx h6 h8 h10 h12 h13 h14
  obtain ⟨A, hA⟩ : ∃ A : Nat, A = bif f p then n + 1 else a := ⟨_, rfl⟩
  have hAn : A ≤ n + 1 := by
    rw [hA]
    cases f p
    · show a ≤ n + 1
      omega
    · exact Nat.le_refl _
  have hren : m_ren k u = Int32.ofNat A := by
    rw [hA]
    exact ren_eq hfp h10 hJ.2.1 (by omega)
  have ha' : (bif Op.ifCond.holds .eq ((g (9 + 5 * c) 5) &&& c_msk p) then (g (12 + 5 * c) p) + (1 : Int32) else 0) = Int32.ofNat (n + 1 - A) := by
    rw [hf, B3_eq f hp, h9, hA]
    cases f p
    · show Int32.ofNat (n - a) + 1 = Int32.ofNat (n + 1 - a)
      rw [is_n1]
      have e : n - a + 1 = n + 1 - a := by omega
      rw [e]
    · show (0 : Int32) = Int32.ofNat (n + 1 - (n + 1))
      rw [Nat.sub_self]
      rfl
  obtain ⟨g0, hg0⟩ : ∃ g0 : im_M, g0 = im_w g (12 + 5 * c) p (Int32.ofNat (n + 1 - A)) := ⟨_, rfl⟩
  have hlane : c_lane c p g (Int32.ofNat d) = im_w (c_ln1 c p g0 (Int32.ofNat d)) (11 + 5 * c) p (c_ln1 c p g0 (Int32.ofNat d) (10 + 5 * c) p) := by
    unfold c_lane
    rw [ha', hg0]
  have g0o : ∀ q : Nat, q ≠ 12 + 5 * c → g0 q = g q := fun q hq => by rw [hg0, im_w_o _ _ _ hq]
  have g012 : g0 (12 + 5 * c) p = Int32.ofNat (n + 1 - A) := by rw [hg0, im_w_s]
  -- the reference up to the rows
  obtain ⟨U1, hU1⟩ : ∃ U1 : im_M, U1 = m_l1 k p (n + 1) l (m_l0 k u) := ⟨_, rfl⟩
  obtain ⟨is, his⟩ : ∃ is : Bool, is = m_isw k (m_l0 k u) := ⟨_, rfl⟩
  have hiw : c_isw c p g0 (!(Op.if_icmp.holds .le (g0 1 1) (1 : Int32))) = is := by
    rw [his]
    refine isw_eq (n := n + 1) (a := A) h1 h2 hAn (by omega) ?_ ?_ g012 ?_ ?_ ?_ ?_ ?_
    · rw [g0o _ (by omega)]
      exact h5
    · rw [g0o _ (by omega)]
      exact h7
    · exact h6
    · exact h8
    · show upd (u 41) k (m_ren k u) k = _
      rw [upd_s]
      exact hren
    · exact hJ.2.1
    · rw [g0o _ (by omega)]
      exact hJ.1
  have hlook : m_look c p (n + 1) d l u = m_l3 c p k (n + 1) d (m_l2 c p k (n + 1) is U1) := by
    unfold m_look
    rw [← hk, ← his, ← hU1]
  have J0 : iJ (n + 1) E g0 U1 := by
    refine iJ_fr hJ (g0o _ (by omega)) (g0o _ (by omega)) ?_ ?_ ?_ ?_ ?_ ?_ <;> rw [hU1] <;> rfl
  have hU42 : U1 42 n = u 42 n := by
    rw [hU1]
    show upd (u 42) (n + 1) _ n = _
    rw [upd_o _ _ (by omega)]
  -- the first event
  have hG1 := cj_eq c hp g0 (w := w) (by rw [g0o _ (by omega)]; exact hw) hiw
  have hV1 : m_l2 c p k (n + 1) is U1 = bif Bool.xor is (w p) then m_note U1 (bif is then 1 else 2) (Int32.ofNat c) (Int32.ofNat p) else U1 := by
    unfold m_l2
    rw [Nat.add_sub_cancel, hU42, h12]
  obtain ⟨G1, eG1⟩ : ∃ G1 : im_M, G1 = c_judge c p g0 := ⟨_, rfl⟩
  obtain ⟨V1, eV1⟩ : ∃ V1 : im_M, V1 = m_l2 c p k (n + 1) is U1 := ⟨_, rfl⟩
  have G1o : ∀ q : Nat, q ≠ 1 → q ≠ 2 → q ≠ 9 + 5 * c → G1 q = g0 q := fun q a1 a2 a3 => by rw [eG1, c_judge_o c p g0 a1 a2 a3]
  have G1i : ∀ i : Nat, i ≠ 6 → G1 (9 + 5 * c) i = g (9 + 5 * c) i := fun i hi => by rw [eG1, c_judge_i c p g0 hi, g0o _ (by omega)]
  have V1o : ∀ q : Nat, q ≠ 37 → q ≠ 54 → q ≠ 55 → q ≠ 56 → q ≠ 57 → V1 q = U1 q := fun q a0 a1 a2 a3 a4 => by rw [eV1, m_l2_o _ _ _ _ _ _ a0 a1 a2 a3 a4]
  have G16 : G1 (9 + 5 * c) 6 = B3f (sb w p is) := by
    rw [eG1, hG1]
    cases hxx : Bool.xor is (w p)
    · have e : is = w p := by
        revert hxx
        cases is <;> cases w p <;> simp
      show g0 (9 + 5 * c) 6 = _
      rw [g0o _ (by omega), hw, e, B3_id]
    · show c_rec _ _ _ _ (9 + 5 * c) 6 = _
      rw [c_rec_o _ _ _ _ (by omega) (by omega), im_w_s]
  have J1 : iJ (n + 1) (E + 1) G1 V1 := by
    rw [eG1, eV1, hG1, hV1]
    cases Bool.xor is (w p)
    · exact iJ_le J0 (by omega)
    · exact iJ_rec (iJ_fr J0 (im_w_o _ _ _ (by omega)) (im_w_o _ _ _ (by omega)) rfl rfl rfl rfl rfl rfl) (by omega) _ _ _
  -- the scan
  have r42 : ∀ m : Nat, V1 42 m = upd (u 42) (n + 1) ((u 42 (n + 1)) ||| m_bt is k) m := fun m => by
    rw [V1o 42 (by decide) (by decide) (by decide) (by decide) (by decide), hU1, his]
    rfl
  have r43 : ∀ m : Nat, V1 43 m = upd (u 43) (n + 1) ((u 43 (n + 1)) ||| m_bt (m_ov p (u 38 k) l) k) m := fun m => by
    rw [V1o 43 (by decide) (by decide) (by decide) (by decide) (by decide), hU1]
    rfl
  have r44 : ∀ m : Nat, V1 44 m = upd (u 44) (n + 1) ((u 44 (n + 1)) ||| m_bt (m_in p (u 38 k) l) k) m := fun m => by
    rw [V1o 44 (by decide) (by decide) (by decide) (by decide) (by decide), hU1]
    rfl
  obtain ⟨ov, hov⟩ : ∃ ov : Bool, ov = m_ov p (u 38 k) l := ⟨_, rfl⟩
  obtain ⟨iw, hiw2⟩ : ∃ iw : Bool, iw = m_in p (u 38 k) l := ⟨_, rfl⟩
  rw [← hov, ← hiw2] at hx
  have sn : ∀ r : Nat, scan V1 k d n r = scan u k d n r := fun r => scan_cg n r (fun m m1 m2 => by
    rw [r42, r43, r44, upd_o _ _ (by omega), upd_o _ _ (by omega), upd_o _ _ (by omega)]
    exact ⟨rfl, rfl, rfl⟩)
  have b42 : hb (V1 42 (n + 1)) k = is := by rw [r42, hb_row1 (u 42) is (by omega) z1]
  have b43 : hb (V1 43 (n + 1)) k = ov := by rw [r43, hb_row1 (u 43) _ (by omega) z2, hov]
  have b44 : hb (V1 44 (n + 1)) k = iw := by rw [r44, hb_row1 (u 44) _ (by omega) z3, hiw2]
  have sn1 : ∀ r : Nat, r < d → scan V1 k d (n + 1) r = (ss is ov iw (s p) b d || decide (d ≤ sc is ov b + r)) := fun r hr => by
    have h := scan_st (F := fun r => scan u k d n r) (is := is) hd h14 h13 hx r hr
    rw [scan_s, b42, b43, b44, sn, sn]
    exact h
  have s0 : scan V1 k d (n + 1) 0 = ss is ov iw (s p) b d := by rw [sn1 0 (by omega), ss_sc hd hx]
  -- the second event
  have ebey : c_bey c p G1 = ov := by
    have e1 : G1 (10 + 5 * c) = g (10 + 5 * c) := by rw [G1o _ (by omega) (by omega) (by omega), g0o _ (by omega)]
    rw [c_bey_fr c p e1, hov]
    unfold c_bey m_ov
    rw [hl, h5, h6]
  have eins : c_ins c p G1 = iw := by
    have e1 : G1 (10 + 5 * c) = g (10 + 5 * c) := by rw [G1o _ (by omega) (by omega) (by omega), g0o _ (by omega)]
    rw [c_ins_fr c p e1, hiw2]
    unfold c_ins m_in
    rw [hl, h5, h6]
  have G113 : G1 (13 + 5 * c) p = Int32.ofNat b := by
    rw [G1o _ (by omega) (by omega) (by omega), g0o _ (by omega)]
    exact h11
  have hG2 := cmv_eq c hp G1 (w := sb w p is) (s := s) G16 ((G1i 7 (by decide)).trans hs) (d := d) G113 (by omega) hd2 ebey eins
  have hwp : sb w p is p = is := by simp [sb]
  rw [hwp] at hG2
  have hV2 : m_l3 c p k (n + 1) d V1 = bif Bool.xor (ss is ov iw (s p) b d) (s p) then m_note V1 (bif ss is ov iw (s p) b d then 3 else 4) (Int32.ofNat c) (Int32.ofNat p) else V1 := by
    unfold m_l3
    rw [Nat.add_sub_cancel, s0, sn, h13]
  obtain ⟨G2, eG2⟩ : ∃ G2 : im_M, G2 = c_move c p G1 (Int32.ofNat d) := ⟨_, rfl⟩
  obtain ⟨V2, eV2⟩ : ∃ V2 : im_M, V2 = m_l3 c p k (n + 1) d V1 := ⟨_, rfl⟩
  have e2 : c_ln1 c p g0 (Int32.ofNat d) = G2 := by
    unfold c_ln1
    rw [← eG1, ← eG2]
  have e3 : m_look c p (n + 1) d l u = V2 := by rw [hlook, ← eV1, ← eV2]
  rw [e2] at hlane
  obtain ⟨s', hs'⟩ : ∃ s' : Bool, s' = ss is ov iw (s p) b d := ⟨_, rfl⟩
  rw [← hs'] at hG2 hV2 s0 sn1
  have J2 : iJ (n + 1) (E + 2) G2 V2 := by
    rw [eG2, eV2, hG2, hV2]
    cases Bool.xor s' (s p)
    · exact iJ_le (iJ_fr J1 (im_w_o _ _ _ (by omega)) (im_w_o _ _ _ (by omega)) rfl rfl rfl rfl rfl rfl) (by omega)
    · exact iJ_rec (iJ_fr J1 ((im_w_o _ _ _ (by omega)).trans (im_w_o _ _ _ (by omega))) ((im_w_o _ _ _ (by omega)).trans (im_w_o _ _ _ (by omega))) rfl rfl rfl rfl rfl rfl) (by omega) _ _ _
  have G2o : ∀ q : Nat, q ≠ 1 → q ≠ 2 → q ≠ 9 + 5 * c → q ≠ 13 + 5 * c → G2 q = g0 q := fun q a1 a2 a3 a4 => by rw [eG2, c_move_o c p G1 _ a1 a2 a3 a4, G1o q a1 a2 a3]
  have G213 : G2 (13 + 5 * c) p = Int32.ofNat (sc is ov b) := by
    rw [eG2, hG2]
    cases Bool.xor s' (s p)
    · exact im_w_s _ _ _ _
    · show c_rec _ _ _ _ (13 + 5 * c) p = _
      rw [c_rec_o _ _ _ _ (by omega) (by omega), im_w_o _ _ _ (by omega), im_w_s]
  have G27 : G2 (9 + 5 * c) 7 = B3f (sb s p s') := by
    rw [eG2, hG2]
    cases hxx : Bool.xor s' (s p)
    · have e : s' = s p := by
        revert hxx
        cases s' <;> cases s p <;> simp
      show im_w G1 (13 + 5 * c) p _ (9 + 5 * c) 7 = _
      rw [im_w_o _ _ _ (by omega), G1i 7 (by decide), hs, e, B3_id]
    · show c_rec _ _ _ _ (9 + 5 * c) 7 = _
      rw [c_rec_o _ _ _ _ (by omega) (by omega), im_w_s]
  have V2o : ∀ q : Nat, q ≠ 37 → q ≠ 54 → q ≠ 55 → q ≠ 56 → q ≠ 57 → V2 q = V1 q := fun q a0 a1 a2 a3 a4 => by rw [eV2, m_l3_o _ _ _ _ _ _ a0 a1 a2 a3 a4]
  have sV : ∀ m r : Nat, scan V2 k d m r = scan V1 k d m r := fun m r => scan_cg m r (fun q _ _ => by
    rw [V2o 42 (by decide) (by decide) (by decide) (by decide) (by decide), V2o 43 (by decide) (by decide) (by decide) (by decide) (by decide), V2o 44 (by decide) (by decide) (by decide) (by decide) (by decide)]
    exact ⟨rfl, rfl, rfl⟩)
  rw [hlane, e3]
  refine ⟨is, s', ?_, ?_, ?_, ?_, ?_⟩
  · exact iJ_fr J2 (im_w_o _ _ _ (by omega)) (im_w_o _ _ _ (by omega)) rfl rfl rfl rfl rfl rfl
  · refine ⟨x, x, A, sc is ov b, h1, h1, hAn, ?_, ?_, ?_, ?_, ?_, ?_, ?_, ?_, ?_, ?_, ?_⟩
    · unfold sc
      cases is
      · cases ov
        · exact Nat.zero_le _
        · show b + 1 ≤ n + 1
          omega
      · exact Nat.zero_le _
    · rw [im_w_o _ _ _ (by omega), G2o _ (by omega) (by omega) (by omega) (by omega), g0o _ (by omega)]
      exact h5
    · rw [← hk, V2o 38 (by decide) (by decide) (by decide) (by decide) (by decide), V1o 38 (by decide) (by decide) (by decide) (by decide) (by decide), hU1]
      exact h6
    · rw [im_w_s, G2o _ (by omega) (by omega) (by omega) (by omega), g0o _ (by omega)]
      exact h5
    · rw [← hk, V2o 39 (by decide) (by decide) (by decide) (by decide) (by decide), V1o 39 (by decide) (by decide) (by decide) (by decide) (by decide), hU1]
      show upd (u 39) k (u 38 k) k = _
      rw [upd_s]
      exact h6
    · rw [im_w_o _ _ _ (by omega), G2o _ (by omega) (by omega) (by omega) (by omega)]
      exact g012
    · rw [← hk, V2o 41 (by decide) (by decide) (by decide) (by decide) (by decide), V1o 41 (by decide) (by decide) (by decide) (by decide) (by decide), hU1]
      show upd (u 41) k (m_ren k u) k = _
      rw [upd_s]
      exact hren
    · rw [im_w_o _ _ _ (by omega)]
      exact G213
    · rw [← hk, V2o 42 (by decide) (by decide) (by decide) (by decide) (by decide)]
      exact b42
    · rw [← hk, sV]
      exact s0
    · intro r hr
      rw [← hk, sV]
      exact sn1 r hr
  · rw [im_w_o _ _ _ (by omega), eG2, c_move_i c p G1 _ (by decide)]
    exact G16
  · rw [im_w_o _ _ _ (by omega)]
    exact G27
  · rw [im_w_o _ _ _ (by omega), eG2, c_move_i c p G1 _ (by decide), G1i 5 (by decide)]
