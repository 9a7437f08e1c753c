/-! Sending the frames, on both sides (printed by wip/gen/rel9.py) -/
theorem x100_eq {u : im_M} {n d c : Nat} (hd : 1 ≤ d) (hd2 : d ≤ 8) (hu0 : u 37 0 = Int32.ofNat d) (hn : n < 520) (hu : u 37 2 = Int32.ofNat n) (hc : c < 4) : x100_r37 u (Int32.ofNat c) = some (B3 (scan u (3 * c) d n 0) (scan u (3 * c + 1) d n 0) (scan u (3 * c + 2) d n 0), u) := by
  have j0 : ((3 : Int32) * Int32.ofNat c) + (0 : Int32) = Int32.ofNat (3 * c) := is_i3 (p := 0) hc (by decide)
  have j1 : ((3 : Int32) * Int32.ofNat c) + (1 : Int32) = Int32.ofNat (3 * c + 1) := is_i3 (p := 1) hc (by decide)
  have j2 : ((3 : Int32) * Int32.ofNat c) + (2 : Int32) = Int32.ofNat (3 * c + 2) := is_i3 (p := 2) hc (by decide)
  have q0 := x95_eq (k := 3 * c) (by omega) hd hd2 hu0 hn
  have q1 := x95_eq (k := 3 * c + 1) (by omega) hd hd2 hu0 hn
  have q2 := x95_eq (k := 3 * c + 2) (by omega) hd hd2 hu0 hn
  have s2 : ∀ y z : Int32, x100_r37_2 u (Int32.ofNat c) z y z = some ((z ||| y) ||| (bif scan u (3 * c + 2) d n 0 then 4 else 0), u) := fun y z => by
    unfold x100_r37_2
    rw [j2, hu]
    refine (ob q2).trans ?_
    cases scan u (3 * c + 2) d n 0
    · exact (cbt rfl).trans rfl
    · exact (cbf rfl).trans rfl
  have s1 : ∀ y : Int32, x100_r37_1 u (Int32.ofNat c) y = some ((((0 : Int32) ||| y) ||| (bif scan u (3 * c + 1) d n 0 then 2 else 0)) ||| (bif scan u (3 * c + 2) d n 0 then 4 else 0), u) := fun y => by
    unfold x100_r37_1
    rw [j1, hu]
    refine (ob q1).trans ?_
    cases scan u (3 * c + 1) d n 0
    · exact (cbt rfl).trans (s2 _ _)
    · exact (cbf rfl).trans (s2 _ _)
  unfold x100_r37
  rw [j0, hu]
  refine (ob q0).trans ?_
  cases scan u (3 * c) d n 0
  · refine (cbt rfl).trans ((s1 _).trans ?_)
    cases scan u (3 * c + 1) d n 0 <;> cases scan u (3 * c + 2) d n 0 <;> rfl
  · refine (cbf rfl).trans ((s1 _).trans ?_)
    cases scan u (3 * c + 1) d n 0 <;> cases scan u (3 * c + 2) d n 0 <;> rfl
def m_em (c t h b r : Nat) (u : im_M) : im_M := im_w (im_w (im_w (im_w u 45 (4 * t + c) (Int32.ofNat h)) 46 (4 * t + c) (Int32.ofNat b)) 47 (4 * t + c) (Int32.ofNat r)) 48 (4 * t + c) 0
theorem e102_3 (u : im_M) {k : Nat} (hk : k < 16) (y0 y1 y2 y4 y5 : Int32) : x102_r37_3 u y0 y1 y2 (Int32.ofNat k) y4 y5 (Int32.ofNat k) = some (0, im_w (im_w u 47 k y5) 48 k 0) := by
  have i1 := iv_in_t (k := k) (n := 16) (by omega) hk
  have i2 := Int32.toNatClampNeg_ofNat_of_lt (n := k) (by omega)
  unfold x102_r37_3
  refine (cbt i1).trans ((cbt i1).trans ?_)
  rw [i2]
theorem x102_n {u : im_M} {c t n v : Nat} (hc : c < 4) (ht : t < 4) (hv : v < 256) (h2 : u 37 2 = Int32.ofNat n) (hq : u 48 (4 * t + c) = 0) : x102_r37 u (Int32.ofNat c) (Int32.ofNat t) (Int32.ofNat v) = some (0, m_em c t (n % 256) v (k_ck (n % 256) v) u) := by
  have i1 := iv_in_t (k := 4 * t + c) (n := 16) (by omega) (by omega)
  have i2 := Int32.toNatClampNeg_ofNat_of_lt (n := 4 * t + c) (by omega)
  have hm : n % 256 < 256 := Nat.mod_lt _ (by decide)
  have hz : Op.ifCond.holds .eq (u 48 (4 * t + c)) = true := by
    rw [hq]
    rfl
  unfold x102_r37
  rw [is_i4, i2, h2, on_255]
  refine (cbt i1).trans ((cbt hz).trans ?_)
  unfold x102_r37_1
  rw [i2]
  refine (cbt i1).trans ((cbt i1).trans ((cbt hz).trans ?_))
  unfold x102_r37_2
  rw [i2]
  refine (cbt i1).trans ((cbt i1).trans ((cbt hz).trans ?_))
  refine (ob (x97_eq _ hm hv)).trans ?_
  exact e102_3 _ (by omega) _ _ _ _ _
theorem x102_f {u : im_M} {c t v : Nat} (hc : c < 4) (ht : t < 4) (hq : u 48 (4 * t + c) = 1) : x102_r37 u (Int32.ofNat c) (Int32.ofNat t) (Int32.ofNat v) = some (0, m_em c t (wn (u 49 (4 * t + c)) % 256) (wn (u 49 (4 * t + c)) / 2 ^ 8 % 256) (wn (u 49 (4 * t + c)) / 2 ^ 16 % 256) u) := by
  have i1 := iv_in_t (k := 4 * t + c) (n := 16) (by omega) (by omega)
  have i2 := Int32.toNatClampNeg_ofNat_of_lt (n := 4 * t + c) (by omega)
  have hz : Op.ifCond.holds .eq (u 48 (4 * t + c)) = false := by
    rw [hq]
    rfl
  have b0 := w_b0 (u 49 (4 * t + c))
  have b1 : ((u 49 (4 * t + c) >>> ((8 : Int32) &&& 31)) &&& (255 : Int32)) = Int32.ofNat (wn (u 49 (4 * t + c)) / 2 ^ 8 % 256) := w_by (k := 8) _ (by decide)
  have b2 : ((u 49 (4 * t + c) >>> ((16 : Int32) &&& 31)) &&& (255 : Int32)) = Int32.ofNat (wn (u 49 (4 * t + c)) / 2 ^ 16 % 256) := w_by (k := 16) _ (by decide)
  unfold x102_r37
  rw [is_i4, i2]
  refine (cbt i1).trans ((cbf hz).trans ?_)
  unfold x102_r37_1
  rw [i2]
  refine (cbt i1).trans ((cbt i1).trans ((cbf hz).trans ?_))
  unfold x102_r37_2
  rw [i2]
  refine (cbt i1).trans ((cbt i1).trans ((cbf hz).trans ?_))
  refine (e102_3 _ (by omega) _ _ _ _ _).trans ?_
  unfold m_em
  rw [← b0, ← b1, ← b2]
  rfl
def sel (g : im_M) (k : Nat) (a : Int32) : Int32 := bif Op.if_icmp.holds .ne (g 7 k) (-1 : Int32) then g 7 k else a
def c_s1 (c t : Nat) (y : Int32) (g : im_M) : im_M := im_w (im_w g 6 (4 * c + t) y) 7 (4 * c + t) (-1 : Int32)
def c_sd (c : Nat) (a : Int32) (g : im_M) : im_M := c_s1 c 3 (sel g (4 * c + 3) a) (c_s1 c 2 (sel g (4 * c + 2) a) (c_s1 c 1 (sel g (4 * c + 1) a) (c_s1 c 0 (sel g (4 * c) a) g)))
set_option maxRecDepth 100000 in
set_option maxHeartbeats 4000000 in
theorem e38_0_0 (g : im_M) (a : Int32) : x38_r5_0 g a = x38_r5_0_1 g a (sel g 0 a) := by
  unfold x38_r5_0 sel
  cases Op.if_icmp.holds .ne (g 7 0) (-1 : Int32)
  · refine (cbf rfl).trans ?_
    exact cg3 rfl rfl rfl
  · refine (cbt rfl).trans ?_
    exact cg3 rfl rfl rfl
set_option maxRecDepth 100000 in
set_option maxHeartbeats 4000000 in
theorem e38_0_1 (g : im_M) (a y : Int32) : x38_r5_0_1 g a y = x38_r5_0_2 (im_w (im_w g 6 0 y) 7 0 (-1 : Int32)) a (sel g 1 a) := by
  unfold x38_r5_0_1 sel
  cases Op.if_icmp.holds .ne (g 7 1) (-1 : Int32)
  · refine (cbf rfl).trans ?_
    exact cg3 rfl rfl rfl
  · refine (cbt rfl).trans ?_
    exact cg3 rfl rfl rfl
set_option maxRecDepth 100000 in
set_option maxHeartbeats 4000000 in
theorem e38_0_2 (g : im_M) (a y : Int32) : x38_r5_0_2 g a y = x38_r5_0_3 (im_w (im_w g 6 1 y) 7 1 (-1 : Int32)) a (sel g 2 a) := by
  unfold x38_r5_0_2 sel
  cases Op.if_icmp.holds .ne (g 7 2) (-1 : Int32)
  · refine (cbf rfl).trans ?_
    exact cg3 rfl rfl rfl
  · refine (cbt rfl).trans ?_
    exact cg3 rfl rfl rfl
set_option maxRecDepth 100000 in
set_option maxHeartbeats 4000000 in
theorem e38_0_3 (g : im_M) (a y : Int32) : x38_r5_0_3 g a y = x38_r5_0_4 (im_w (im_w g 6 2 y) 7 2 (-1 : Int32)) a (sel g 3 a) := by
  unfold x38_r5_0_3 sel
  cases Op.if_icmp.holds .ne (g 7 3) (-1 : Int32)
  · refine (cbf rfl).trans ?_
    exact cg3 rfl rfl rfl
  · refine (cbt rfl).trans ?_
    exact cg3 rfl rfl rfl
set_option maxRecDepth 100000 in
set_option maxHeartbeats 4000000 in
theorem e38_0 (g : im_M) (a : Int32) : x38_r5_0 g a = some (0, c_sd 0 a g) :=
  (e38_0_0 g a).trans ((e38_0_1 g a _).trans ((e38_0_2 _ a _).trans ((e38_0_3 _ a _).trans rfl)))
set_option maxRecDepth 100000 in
set_option maxHeartbeats 4000000 in
theorem e38_1_0 (g : im_M) (a : Int32) : x38_r5_1 g a = x38_r5_1_1 g a (sel g 4 a) := by
  unfold x38_r5_1 sel
  cases Op.if_icmp.holds .ne (g 7 4) (-1 : Int32)
  · refine (cbf rfl).trans ?_
    exact cg3 rfl rfl rfl
  · refine (cbt rfl).trans ?_
    exact cg3 rfl rfl rfl
set_option maxRecDepth 100000 in
set_option maxHeartbeats 4000000 in
theorem e38_1_1 (g : im_M) (a y : Int32) : x38_r5_1_1 g a y = x38_r5_1_2 (im_w (im_w g 6 4 y) 7 4 (-1 : Int32)) a (sel g 5 a) := by
  unfold x38_r5_1_1 sel
  cases Op.if_icmp.holds .ne (g 7 5) (-1 : Int32)
  · refine (cbf rfl).trans ?_
    exact cg3 rfl rfl rfl
  · refine (cbt rfl).trans ?_
    exact cg3 rfl rfl rfl
set_option maxRecDepth 100000 in
set_option maxHeartbeats 4000000 in
theorem e38_1_2 (g : im_M) (a y : Int32) : x38_r5_1_2 g a y = x38_r5_1_3 (im_w (im_w g 6 5 y) 7 5 (-1 : Int32)) a (sel g 6 a) := by
  unfold x38_r5_1_2 sel
  cases Op.if_icmp.holds .ne (g 7 6) (-1 : Int32)
  · refine (cbf rfl).trans ?_
    exact cg3 rfl rfl rfl
  · refine (cbt rfl).trans ?_
    exact cg3 rfl rfl rfl
set_option maxRecDepth 100000 in
set_option maxHeartbeats 4000000 in
theorem e38_1_3 (g : im_M) (a y : Int32) : x38_r5_1_3 g a y = x38_r5_1_4 (im_w (im_w g 6 6 y) 7 6 (-1 : Int32)) a (sel g 7 a) := by
  unfold x38_r5_1_3 sel
  cases Op.if_icmp.holds .ne (g 7 7) (-1 : Int32)
  · refine (cbf rfl).trans ?_
    exact cg3 rfl rfl rfl
  · refine (cbt rfl).trans ?_
    exact cg3 rfl rfl rfl
set_option maxRecDepth 100000 in
set_option maxHeartbeats 4000000 in
theorem e38_1 (g : im_M) (a : Int32) : x38_r5_1 g a = some (0, c_sd 1 a g) :=
  (e38_1_0 g a).trans ((e38_1_1 g a _).trans ((e38_1_2 _ a _).trans ((e38_1_3 _ a _).trans rfl)))
set_option maxRecDepth 100000 in
set_option maxHeartbeats 4000000 in
theorem e38_2_0 (g : im_M) (a : Int32) : x38_r5_2 g a = x38_r5_2_1 g a (sel g 8 a) := by
  unfold x38_r5_2 sel
  cases Op.if_icmp.holds .ne (g 7 8) (-1 : Int32)
  · refine (cbf rfl).trans ?_
    exact cg3 rfl rfl rfl
  · refine (cbt rfl).trans ?_
    exact cg3 rfl rfl rfl
set_option maxRecDepth 100000 in
set_option maxHeartbeats 4000000 in
theorem e38_2_1 (g : im_M) (a y : Int32) : x38_r5_2_1 g a y = x38_r5_2_2 (im_w (im_w g 6 8 y) 7 8 (-1 : Int32)) a (sel g 9 a) := by
  unfold x38_r5_2_1 sel
  cases Op.if_icmp.holds .ne (g 7 9) (-1 : Int32)
  · refine (cbf rfl).trans ?_
    exact cg3 rfl rfl rfl
  · refine (cbt rfl).trans ?_
    exact cg3 rfl rfl rfl
set_option maxRecDepth 100000 in
set_option maxHeartbeats 4000000 in
theorem e38_2_2 (g : im_M) (a y : Int32) : x38_r5_2_2 g a y = x38_r5_2_3 (im_w (im_w g 6 9 y) 7 9 (-1 : Int32)) a (sel g 10 a) := by
  unfold x38_r5_2_2 sel
  cases Op.if_icmp.holds .ne (g 7 10) (-1 : Int32)
  · refine (cbf rfl).trans ?_
    exact cg3 rfl rfl rfl
  · refine (cbt rfl).trans ?_
    exact cg3 rfl rfl rfl
set_option maxRecDepth 100000 in
set_option maxHeartbeats 4000000 in
theorem e38_2_3 (g : im_M) (a y : Int32) : x38_r5_2_3 g a y = x38_r5_2_4 (im_w (im_w g 6 10 y) 7 10 (-1 : Int32)) a (sel g 11 a) := by
  unfold x38_r5_2_3 sel
  cases Op.if_icmp.holds .ne (g 7 11) (-1 : Int32)
  · refine (cbf rfl).trans ?_
    exact cg3 rfl rfl rfl
  · refine (cbt rfl).trans ?_
    exact cg3 rfl rfl rfl
set_option maxRecDepth 100000 in
set_option maxHeartbeats 4000000 in
theorem e38_2 (g : im_M) (a : Int32) : x38_r5_2 g a = some (0, c_sd 2 a g) :=
  (e38_2_0 g a).trans ((e38_2_1 g a _).trans ((e38_2_2 _ a _).trans ((e38_2_3 _ a _).trans rfl)))
set_option maxRecDepth 100000 in
set_option maxHeartbeats 4000000 in
theorem e38_3_0 (g : im_M) (a : Int32) : x38_r5_3 g a = x38_r5_3_1 g a (sel g 12 a) := by
  unfold x38_r5_3 sel
  cases Op.if_icmp.holds .ne (g 7 12) (-1 : Int32)
  · refine (cbf rfl).trans ?_
    exact cg3 rfl rfl rfl
  · refine (cbt rfl).trans ?_
    exact cg3 rfl rfl rfl
set_option maxRecDepth 100000 in
set_option maxHeartbeats 4000000 in
theorem e38_3_1 (g : im_M) (a y : Int32) : x38_r5_3_1 g a y = x38_r5_3_2 (im_w (im_w g 6 12 y) 7 12 (-1 : Int32)) a (sel g 13 a) := by
  unfold x38_r5_3_1 sel
  cases Op.if_icmp.holds .ne (g 7 13) (-1 : Int32)
  · refine (cbf rfl).trans ?_
    exact cg3 rfl rfl rfl
  · refine (cbt rfl).trans ?_
    exact cg3 rfl rfl rfl
set_option maxRecDepth 100000 in
set_option maxHeartbeats 4000000 in
theorem e38_3_2 (g : im_M) (a y : Int32) : x38_r5_3_2 g a y = x38_r5_3_3 (im_w (im_w g 6 13 y) 7 13 (-1 : Int32)) a (sel g 14 a) := by
  unfold x38_r5_3_2 sel
  cases Op.if_icmp.holds .ne (g 7 14) (-1 : Int32)
  · refine (cbf rfl).trans ?_
    exact cg3 rfl rfl rfl
  · refine (cbt rfl).trans ?_
    exact cg3 rfl rfl rfl
set_option maxRecDepth 100000 in
set_option maxHeartbeats 4000000 in
theorem e38_3_3 (g : im_M) (a y : Int32) : x38_r5_3_3 g a y = x38_r5_3_4 (im_w (im_w g 6 14 y) 7 14 (-1 : Int32)) a (sel g 15 a) := by
  unfold x38_r5_3_3 sel
  cases Op.if_icmp.holds .ne (g 7 15) (-1 : Int32)
  · refine (cbf rfl).trans ?_
    exact cg3 rfl rfl rfl
  · refine (cbt rfl).trans ?_
    exact cg3 rfl rfl rfl
set_option maxRecDepth 100000 in
set_option maxHeartbeats 4000000 in
theorem e38_3 (g : im_M) (a : Int32) : x38_r5_3 g a = some (0, c_sd 3 a g) :=
  (e38_3_0 g a).trans ((e38_3_1 g a _).trans ((e38_3_2 _ a _).trans ((e38_3_3 _ a _).trans rfl)))
/-! a link: its frame, its fault -/
def iL1 (n : Nat) (g u : im_M) (c t : Nat) : Prop := ∃ h b r : Nat, h < 256 ∧ b < 256 ∧ r < 256 ∧ g 6 (4 * c + t) = Int32.ofNat (h + 256 * b + 65536 * r) ∧ u 45 (4 * t + c) = Int32.ofNat h ∧ u 46 (4 * t + c) = Int32.ofNat b ∧ u 47 (4 * t + c) = Int32.ofNat r ∧ (n = 0 → h = 0 ∧ b = 0 ∧ r = 0)
def iQ1 (g u : im_M) (c t : Nat) : Prop := (u 48 (4 * t + c) = 0 ∧ g 7 (4 * c + t) = (-1 : Int32)) ∨ (u 48 (4 * t + c) = 1 ∧ g 7 (4 * c + t) = (u 49 (4 * t + c) &&& (16777215 : Int32)))
theorem ne_m1 {m : Nat} (h : m < 2 ^ 31) : Op.if_icmp.holds .ne (Int32.ofNat m) (-1 : Int32) = true := by
  have hq : Int32.ofNat m ≠ (-1 : Int32) := fun h4 => by
    have h5 := congrArg Int32.toInt h4
    rw [Int32.toInt_ofNat_of_lt h] at h5
    have h6 : (-1 : Int32).toInt = -1 := by decide
    omega
  simp [Op.if_icmp.holds, hq]
theorem em_st {c t n v : Nat} {g u : im_M} (hc : c < 4) (ht : t < 4) (hv : v < 256) (h2 : u 37 2 = Int32.ofNat n) (hq : iQ1 g u c t) :
    ∃ h b r : Nat, h < 256 ∧ b < 256 ∧ r < 256 ∧ x102_r37 u (Int32.ofNat c) (Int32.ofNat t) (Int32.ofNat v) = some (0, m_em c t h b r u) ∧ sel g (4 * c + t) (Int32.ofNat (n % 256 + 256 * v + 65536 * k_ck (n % 256) v)) = Int32.ofNat (h + 256 * b + 65536 * r) := by
  have hm : n % 256 < 256 := Nat.mod_lt _ (by decide)
  rcases hq with ⟨q1, q2⟩ | ⟨q1, q2⟩
  · refine ⟨_, _, _, hm, hv, k_ck_lt hm hv, x102_n hc ht hv h2 q1, ?_⟩
    unfold sel
    rw [q2]
    rfl
  · refine ⟨_, _, _, Nat.mod_lt _ (by decide), Nat.mod_lt _ (by decide), Nat.mod_lt _ (by decide), x102_f hc ht q1, ?_⟩
    have b1 : wn (u 49 (4 * t + c)) % 256 < 256 := Nat.mod_lt _ (by decide)
    have b2 : wn (u 49 (4 * t + c)) / 2 ^ 8 % 256 < 256 := Nat.mod_lt _ (by decide)
    have b3 : wn (u 49 (4 * t + c)) / 2 ^ 16 % 256 < 256 := Nat.mod_lt _ (by decide)
    unfold sel
    rw [q2, w_24]
    exact cbt (ne_m1 (by omega))
theorem em_d {c t n h b r : Nat} {g u : im_M} (hh : h < 256) (hb : b < 256) (hr : r < 256) : iL1 (n + 1) (c_s1 c t (Int32.ofNat (h + 256 * b + 65536 * r)) g) (m_em c t h b r u) c t ∧ iQ1 (c_s1 c t (Int32.ofNat (h + 256 * b + 65536 * r)) g) (m_em c t h b r u) c t := by
  refine ⟨⟨h, b, r, hh, hb, hr, ?_, ?_, ?_, ?_, fun h0 => absurd h0 (by omega)⟩, Or.inl ⟨?_, ?_⟩⟩
  · show upd (g 6) (4 * c + t) _ (4 * c + t) = _
    rw [upd_s]
  · show upd (u 45) (4 * t + c) _ (4 * t + c) = _
    rw [upd_s]
  · show upd (u 46) (4 * t + c) _ (4 * t + c) = _
    rw [upd_s]
  · show upd (u 47) (4 * t + c) _ (4 * t + c) = _
    rw [upd_s]
  · show upd (u 48) (4 * t + c) _ (4 * t + c) = _
    rw [upd_s]
  · show upd (g 7) (4 * c + t) _ (4 * c + t) = _
    rw [upd_s]
theorem em_k {m c t c' t' h b r : Nat} {g u : im_M} (y : Int32) (hc : c < 4) (ht : t < 4) (hc' : c' < 4) (ht' : t' < 4) (hne : c' ≠ c ∨ t' ≠ t) : (iL1 m g u c' t' → iL1 m (c_s1 c t y g) (m_em c t h b r u) c' t') ∧ (iQ1 g u c' t' → iQ1 (c_s1 c t y g) (m_em c t h b r u) c' t') := by
  have k1 : 4 * c' + t' ≠ 4 * c + t := by omega
  have k2 : 4 * t' + c' ≠ 4 * t + c := by omega
  have e6 : c_s1 c t y g 6 (4 * c' + t') = g 6 (4 * c' + t') := upd_o _ _ k1
  have e7 : c_s1 c t y g 7 (4 * c' + t') = g 7 (4 * c' + t') := upd_o _ _ k1
  have f5 : m_em c t h b r u 45 (4 * t' + c') = u 45 (4 * t' + c') := upd_o _ _ k2
  have f6 : m_em c t h b r u 46 (4 * t' + c') = u 46 (4 * t' + c') := upd_o _ _ k2
  have f7 : m_em c t h b r u 47 (4 * t' + c') = u 47 (4 * t' + c') := upd_o _ _ k2
  have f8 : m_em c t h b r u 48 (4 * t' + c') = u 48 (4 * t' + c') := upd_o _ _ k2
  constructor
  · intro q
    unfold iL1
    rw [e6, f5, f6, f7]
    exact q
  · intro q
    unfold iQ1
    rw [e7, f8]
    exact q
theorem sel_s {c t k : Nat} (y a : Int32) (g : im_M) (h : k ≠ 4 * c + t) : sel (c_s1 c t y g) k a = sel g k a := by
  have e : c_s1 c t y g 7 k = g 7 k := upd_o _ _ h
  unfold sel
  rw [e]
theorem c_s1_o (c t : Nat) (y : Int32) (g : im_M) {q : Nat} (h6 : q ≠ 6) (h7 : q ≠ 7) : c_s1 c t y g q = g q := by
  unfold c_s1
  rw [im_w_o _ _ _ h7, im_w_o _ _ _ h6]
theorem m_em_o (c t h b r : Nat) (u : im_M) {q : Nat} (h5 : q ≠ 45) (h6 : q ≠ 46) (h7 : q ≠ 47) (h8 : q ≠ 48) : m_em c t h b r u q = u q := by
  unfold m_em
  rw [im_w_o _ _ _ h8, im_w_o _ _ _ h7, im_w_o _ _ _ h6, im_w_o _ _ _ h5]
/-- a channel's four frames -/
theorem sd_st {c n v : Nat} {g u : im_M} (hc : c < 4) (hv : v < 256) (h2 : u 37 2 = Int32.ofNat (n + 1)) (hq : ∀ c' : Nat, c' < 4 → ∀ t' : Nat, t' < 4 → iQ1 g u c' t') :
    ∃ u1 u2 u3 u' : im_M, x102_r37 u (Int32.ofNat c) 0 (Int32.ofNat v) = some (0, u1) ∧ x102_r37 u1 (Int32.ofNat c) 1 (Int32.ofNat v) = some (0, u2) ∧ x102_r37 u2 (Int32.ofNat c) 2 (Int32.ofNat v) = some (0, u3) ∧ x102_r37 u3 (Int32.ofNat c) 3 (Int32.ofNat v) = some (0, u') ∧
      (∀ c' : Nat, c' < 4 → ∀ t' : Nat, t' < 4 → iQ1 (c_sd c (Int32.ofNat ((n + 1) % 256 + 256 * v + 65536 * k_ck ((n + 1) % 256) v)) g) u' c' t') ∧ (∀ t : Nat, t < 4 → iL1 (n + 1) (c_sd c (Int32.ofNat ((n + 1) % 256 + 256 * v + 65536 * k_ck ((n + 1) % 256) v)) g) u' c t) ∧
      (∀ m c' t' : Nat, c' < 4 → t' < 4 → c' ≠ c → iL1 m g u c' t' → iL1 m (c_sd c (Int32.ofNat ((n + 1) % 256 + 256 * v + 65536 * k_ck ((n + 1) % 256) v)) g) u' c' t') ∧
      (∀ q : Nat, q ≠ 6 → q ≠ 7 → c_sd c (Int32.ofNat ((n + 1) % 256 + 256 * v + 65536 * k_ck ((n + 1) % 256) v)) g q = g q) ∧ (∀ q : Nat, q ≠ 45 → q ≠ 46 → q ≠ 47 → q ≠ 48 → u' q = u q) := by
  obtain ⟨F, eF⟩ : ∃ F : Int32, F = Int32.ofNat ((n + 1) % 256 + 256 * v + 65536 * k_ck ((n + 1) % 256) v) := ⟨_, rfl⟩
  obtain ⟨h0, b0, r0, p0, q0, s0, X0, S0⟩ := em_st (t := 0) hc (by decide) hv h2 (hq c hc 0 (by decide))
  rw [← eF] at S0 ⊢
  obtain ⟨g1, eg1⟩ : ∃ g1 : im_M, g1 = c_s1 c 0 (sel g (4 * c) F) g := ⟨_, rfl⟩
  obtain ⟨u1, eu1⟩ : ∃ u1 : im_M, u1 = m_em c 0 h0 b0 r0 u := ⟨_, rfl⟩
  have S0' : sel g (4 * c) F = Int32.ofNat (h0 + 256 * b0 + 65536 * r0) := S0
  have D0 : iL1 (n + 1) g1 u1 c 0 ∧ iQ1 g1 u1 c 0 := by
    rw [eg1, eu1, S0']
    exact em_d p0 q0 s0
  have Q1 : ∀ c' : Nat, c' < 4 → ∀ t' : Nat, t' < 4 → iQ1 g1 u1 c' t' := fun c' hc' t' ht' => by
    by_cases h : c' = c ∧ t' = 0
    · rw [h.1, h.2]
      exact D0.2
    · rw [eg1, eu1]
      exact (em_k (m := 0) _ hc (by decide) hc' ht' (by omega)).2 (hq c' hc' t' ht')
  have w1 : u1 37 2 = Int32.ofNat (n + 1) := by
    rw [eu1]
    exact h2
  obtain ⟨h1, b1, r1, p1, q1, s1, X1, S1⟩ := em_st (t := 1) hc (by decide) hv w1 (Q1 c hc 1 (by decide))
  rw [← eF] at S1
  obtain ⟨g2, eg2⟩ : ∃ g2 : im_M, g2 = c_s1 c 1 (sel g1 (4 * c + 1) F) g1 := ⟨_, rfl⟩
  obtain ⟨u2, eu2⟩ : ∃ u2 : im_M, u2 = m_em c 1 h1 b1 r1 u1 := ⟨_, rfl⟩
  have D1 : iL1 (n + 1) g2 u2 c 1 ∧ iQ1 g2 u2 c 1 := by
    rw [eg2, eu2, S1]
    exact em_d p1 q1 s1
  have Q2 : ∀ c' : Nat, c' < 4 → ∀ t' : Nat, t' < 4 → iQ1 g2 u2 c' t' := fun c' hc' t' ht' => by
    by_cases h : c' = c ∧ t' = 1
    · rw [h.1, h.2]
      exact D1.2
    · rw [eg2, eu2]
      exact (em_k (m := 0) _ hc (by decide) hc' ht' (by omega)).2 (Q1 c' hc' t' ht')
  have w2 : u2 37 2 = Int32.ofNat (n + 1) := by
    rw [eu2]
    exact w1
  obtain ⟨h2', b2, r2, p2, q2, s2, X2, S2⟩ := em_st (t := 2) hc (by decide) hv w2 (Q2 c hc 2 (by decide))
  rw [← eF] at S2
  obtain ⟨g3, eg3⟩ : ∃ g3 : im_M, g3 = c_s1 c 2 (sel g2 (4 * c + 2) F) g2 := ⟨_, rfl⟩
  obtain ⟨u3, eu3⟩ : ∃ u3 : im_M, u3 = m_em c 2 h2' b2 r2 u2 := ⟨_, rfl⟩
  have D2 : iL1 (n + 1) g3 u3 c 2 ∧ iQ1 g3 u3 c 2 := by
    rw [eg3, eu3, S2]
    exact em_d p2 q2 s2
  have Q3 : ∀ c' : Nat, c' < 4 → ∀ t' : Nat, t' < 4 → iQ1 g3 u3 c' t' := fun c' hc' t' ht' => by
    by_cases h : c' = c ∧ t' = 2
    · rw [h.1, h.2]
      exact D2.2
    · rw [eg3, eu3]
      exact (em_k (m := 0) _ hc (by decide) hc' ht' (by omega)).2 (Q2 c' hc' t' ht')
  have w3 : u3 37 2 = Int32.ofNat (n + 1) := by
    rw [eu3]
    exact w2
  obtain ⟨h3, b3, r3, p3, q3, s3, X3, S3⟩ := em_st (t := 3) hc (by decide) hv w3 (Q3 c hc 3 (by decide))
  rw [← eF] at S3
  obtain ⟨g4, eg4⟩ : ∃ g4 : im_M, g4 = c_s1 c 3 (sel g3 (4 * c + 3) F) g3 := ⟨_, rfl⟩
  obtain ⟨u4, eu4⟩ : ∃ u4 : im_M, u4 = m_em c 3 h3 b3 r3 u3 := ⟨_, rfl⟩
  have D3 : iL1 (n + 1) g4 u4 c 3 ∧ iQ1 g4 u4 c 3 := by
    rw [eg4, eu4, S3]
    exact em_d p3 q3 s3
  have Q4 : ∀ c' : Nat, c' < 4 → ∀ t' : Nat, t' < 4 → iQ1 g4 u4 c' t' := fun c' hc' t' ht' => by
    by_cases h : c' = c ∧ t' = 3
    · rw [h.1, h.2]
      exact D3.2
    · rw [eg4, eu4]
      exact (em_k (m := 0) _ hc (by decide) hc' ht' (by omega)).2 (Q3 c' hc' t' ht')
  have eD : c_sd c F g = g4 := by
    unfold c_sd
    rw [← eg1, ← sel_s (c := c) (t := 0) (sel g (4 * c) F) F g (show 4 * c + 1 ≠ 4 * c + 0 by omega), ← eg1, ← eg2]
    have z2 : sel g (4 * c + 2) F = sel g2 (4 * c + 2) F := by rw [eg2, sel_s _ _ _ (by omega), eg1, sel_s _ _ _ (by omega)]
    have z3 : sel g (4 * c + 3) F = sel g3 (4 * c + 3) F := by rw [eg3, sel_s _ _ _ (by omega), eg2, sel_s _ _ _ (by omega), eg1, sel_s _ _ _ (by omega)]
    rw [z2, ← eg3, z3, ← eg4]
  have K : ∀ m c' t' : Nat, c' < 4 → t' < 4 → (c' ≠ c ∨ t' ≠ 0) → iL1 m g u c' t' → iL1 m g1 u1 c' t' := fun m c' t' hc' ht' hne h => by
    rw [eg1, eu1]
    exact (em_k _ hc (by decide) hc' ht' hne).1 h
  have K1 : ∀ m c' t' : Nat, c' < 4 → t' < 4 → (c' ≠ c ∨ t' ≠ 1) → iL1 m g1 u1 c' t' → iL1 m g2 u2 c' t' := fun m c' t' hc' ht' hne h => by
    rw [eg2, eu2]
    exact (em_k _ hc (by decide) hc' ht' hne).1 h
  have K2 : ∀ m c' t' : Nat, c' < 4 → t' < 4 → (c' ≠ c ∨ t' ≠ 2) → iL1 m g2 u2 c' t' → iL1 m g3 u3 c' t' := fun m c' t' hc' ht' hne h => by
    rw [eg3, eu3]
    exact (em_k _ hc (by decide) hc' ht' hne).1 h
  have K3 : ∀ m c' t' : Nat, c' < 4 → t' < 4 → (c' ≠ c ∨ t' ≠ 3) → iL1 m g3 u3 c' t' → iL1 m g4 u4 c' t' := fun m c' t' hc' ht' hne h => by
    rw [eg4, eu4]
    exact (em_k _ hc (by decide) hc' ht' hne).1 h
  rw [← eu1] at X0
  rw [← eu2] at X1
  rw [← eu3] at X2
  rw [← eu4] at X3
  rw [eD]
  refine ⟨u1, u2, u3, u4, X0, X1, X2, X3, Q4, ?_, ?_, ?_, ?_⟩
  · intro t ht
    have h4 : t = 0 ∨ t = 1 ∨ t = 2 ∨ t = 3 := by omega
    rcases h4 with h4 | h4 | h4 | h4 <;> subst h4
    · exact K3 _ _ _ hc (by decide) (Or.inr (by decide)) (K2 _ _ _ hc (by decide) (Or.inr (by decide)) (K1 _ _ _ hc (by decide) (Or.inr (by decide)) D0.1))
    · exact K3 _ _ _ hc (by decide) (Or.inr (by decide)) (K2 _ _ _ hc (by decide) (Or.inr (by decide)) D1.1)
    · exact K3 _ _ _ hc (by decide) (Or.inr (by decide)) D2.1
    · exact D3.1
  · intro m c' t' hc' ht' hne h
    exact K3 _ _ _ hc' ht' (Or.inl hne) (K2 _ _ _ hc' ht' (Or.inl hne) (K1 _ _ _ hc' ht' (Or.inl hne) (K _ _ _ hc' ht' (Or.inl hne) h)))
  · intro q z6 z7
    rw [eg4, c_s1_o _ _ _ _ z6 z7, eg3, c_s1_o _ _ _ _ z6 z7, eg2, c_s1_o _ _ _ _ z6 z7, eg1, c_s1_o _ _ _ _ z6 z7]
  · intro q z5 z6 z7 z8
    rw [eu4, m_em_o _ _ _ _ _ _ z5 z6 z7 z8, eu3, m_em_o _ _ _ _ _ _ z5 z6 z7 z8, eu2, m_em_o _ _ _ _ _ _ z5 z6 z7 z8, eu1, m_em_o _ _ _ _ _ _ z5 z6 z7 z8]
