/-! The end of a test, on both sides (printed by wip/gen/rel8.py) -/
theorem bit_nz {k : Nat} (hk : k < 32) : Op.ifCond.holds .eq ((1 : Int32) <<< (Int32.ofNat k &&& 31)) = false := by
  revert k
  decide +kernel
theorem bit_and (x : Int32) {k : Nat} (hk : k < 32) : Op.ifCond.holds .eq (x &&& ((1 : Int32) <<< (Int32.ofNat k &&& 31))) = !(hb x k) := by
  have e : (x &&& ((1 : Int32) <<< (Int32.ofNat k &&& 31))) = bif hb x k then ((1 : Int32) <<< (Int32.ofNat k &&& 31)) else 0 := by
    refine hb_ext fun j hj => ?_
    rw [hb_and, hb_bit hk hj]
    cases h : hb x k
    · show _ = hb 0 j
      rw [hb_zero]
      by_cases hjk : j = k
      · rw [hjk, h]
        rfl
      · rw [decide_eq_false hjk]
        simp
    · show _ = hb ((1 : Int32) <<< (Int32.ofNat k &&& 31)) j
      rw [hb_bit hk hj]
      by_cases hjk : j = k
      · rw [hjk, h]
        rfl
      · rw [decide_eq_false hjk]
        simp
  rw [e]
  cases hb x k
  · rfl
  · exact bit_nz hk
theorem x35_eq (g : im_M) (a : Int32) : x35_r8 g a = some (bif Op.if_icmp.holds .ne (g 8 0) a then 0 else (1 : Int32) <<< (((3 : Int32) + (g 8 1)) &&& 31), g) := by
  unfold x35_r8
  cases Op.if_icmp.holds .ne (g 8 0) a
  · exact (cbf rfl).trans rfl
  · exact (cbt rfl).trans rfl
theorem is_nes (x : Int32) : Op.if_icmp.holds .ne x x = false := by simp [Op.if_icmp.holds]
theorem is_3p (p : Nat) : (3 : Int32) + Int32.ofNat p = Int32.ofNat (3 + p) := (Int32.ofNat_add 3 p).symm
theorem x35_s {g : im_M} {c p : Nat} (h0 : g 8 0 = Int32.ofNat c) (h1 : g 8 1 = Int32.ofNat p) : x35_r8 g (Int32.ofNat c) = some ((1 : Int32) <<< (Int32.ofNat (3 + p) &&& 31), g) := by
  rw [x35_eq, h0, h1, is_nes, is_3p]
  rfl
def c_end (A : Bool) (g : im_M) : im_M :=
  im_w (bif A then im_w (c_rec g (bif A then 9 else 10) (g 8 0) (g 8 1)) 8 3 ((c_rec g (bif A then 9 else 10) (g 8 0) (g 8 1) 8 3) + (1 : Int32)) else im_w (c_rec g (bif A then 9 else 10) (g 8 0) (g 8 1)) 8 4 ((c_rec g (bif A then 9 else 10) (g 8 0) (g 8 1) 8 4) + (1 : Int32))) 8 0 (-1 : Int32)
def m_end (A : Bool) (c p : Nat) (u : im_M) : im_M :=
  im_w (im_w (im_w (im_w (m_note u (bif A then 9 else 10) (Int32.ofNat c) (Int32.ofNat p)) 37 28 ((m_note u (bif A then 9 else 10) (Int32.ofNat c) (Int32.ofNat p) 37 28) + bi A)) 37 29 ((m_note u (bif A then 9 else 10) (Int32.ofNat c) (Int32.ofNat p) 37 29) + bi (!A))) 37 20 (-1 : Int32)) 37 21 (0 : Int32)
theorem x36_eq (g : im_M) (A : Bool) : x36_r8 g (bi A) = some (0, im_w (bif A then im_w g 8 3 ((g 8 3) + (1 : Int32)) else im_w g 8 4 ((g 8 4) + (1 : Int32))) 8 0 (-1 : Int32)) := by
  unfold x36_r8
  cases A
  · exact (cbt rfl).trans rfl
  · exact (cbf rfl).trans rfl
set_option maxRecDepth 100000 in
set_option maxHeartbeats 4000000 in
theorem e34_0 {g : im_M} {c p : Nat} (hc : c < 4) (hp : p < 3) (h0 : g 8 0 = Int32.ofNat c) (h1 : g 8 1 = Int32.ofNat p) : x34_r0 g = x34_r0_1 g (bi (hb (g 30 c) (3 + p))) := by
  have i1 := iv_in_t (k := c) (n := 4) (by omega) hc
  have i2 := Int32.toNatClampNeg_ofNat_of_lt (n := c) (by omega)
  have q := bit_and (g 30 c) (k := 3 + p) (by omega)
  unfold x34_r0
  rw [h0, i2]
  refine (cbt i1).trans ?_
  refine (ob (x35_s h0 h1)).trans ?_
  cases hq : hb (g 30 c) (3 + p)
  · refine (cbt (q.trans (by rw [hq]; rfl))).trans ?_
    exact cg2 rfl rfl
  · refine (cbf (q.trans (by rw [hq]; rfl))).trans ?_
    exact cg2 rfl rfl
set_option maxRecDepth 100000 in
set_option maxHeartbeats 4000000 in
theorem e34_1 {g : im_M} {c p : Nat} (hc : c < 4) (hp : p < 3) (h0 : g 8 0 = Int32.ofNat c) (h1 : g 8 1 = Int32.ofNat p) (s : Bool) : x34_r0_1 g (bi s) = x34_r0_2 g (bi s) (bi (s && hb (g 32 c) (3 + p))) := by
  have i1 := iv_in_t (k := c) (n := 4) (by omega) hc
  have i2 := Int32.toNatClampNeg_ofNat_of_lt (n := c) (by omega)
  have q := bit_and (g 32 c) (k := 3 + p) (by omega)
  unfold x34_r0_1
  rw [h0, i2]
  cases s
  · refine (cbt rfl).trans ?_
    exact cg3 rfl rfl rfl
  · refine (cbf rfl).trans ?_
    refine (cbt i1).trans ?_
    refine (ob (x35_s h0 h1)).trans ?_
    cases hq : hb (g 32 c) (3 + p)
    · refine (cbt (q.trans (by rw [hq]; rfl))).trans ?_
      exact cg3 rfl rfl rfl
    · refine (cbf (q.trans (by rw [hq]; rfl))).trans ?_
      exact cg3 rfl rfl rfl
set_option maxRecDepth 100000 in
set_option maxHeartbeats 4000000 in
theorem e34_2 {g : im_M} {c p : Nat} (hc : c < 4) (hp : p < 3) (h0 : g 8 0 = Int32.ofNat c) (h1 : g 8 1 = Int32.ofNat p) (z : Int32) (s : Bool) : x34_r0_2 g z (bi s) = x34_r0_3 g (bi s) (bi (s && hb (g 34 c) (3 + p))) := by
  have i1 := iv_in_t (k := c) (n := 4) (by omega) hc
  have i2 := Int32.toNatClampNeg_ofNat_of_lt (n := c) (by omega)
  have q := bit_and (g 34 c) (k := 3 + p) (by omega)
  unfold x34_r0_2
  rw [h0, i2]
  cases s
  · refine (cbt rfl).trans ?_
    exact cg3 rfl rfl rfl
  · refine (cbf rfl).trans ?_
    refine (cbt i1).trans ?_
    refine (ob (x35_s h0 h1)).trans ?_
    cases hq : hb (g 34 c) (3 + p)
    · refine (cbt (q.trans (by rw [hq]; rfl))).trans ?_
      exact cg3 rfl rfl rfl
    · refine (cbf (q.trans (by rw [hq]; rfl))).trans ?_
      exact cg3 rfl rfl rfl
set_option maxRecDepth 100000 in
set_option maxHeartbeats 4000000 in
theorem e34_3 {g : im_M} {c p : Nat} (hc : c < 4) (hp : p < 3) (h0 : g 8 0 = Int32.ofNat c) (h1 : g 8 1 = Int32.ofNat p) (z : Int32) (s : Bool) : x34_r0_3 g z (bi s) = x34_r0_4 g (bi s) (bi (s && hb (g 36 c) (3 + p))) := by
  have i1 := iv_in_t (k := c) (n := 4) (by omega) hc
  have i2 := Int32.toNatClampNeg_ofNat_of_lt (n := c) (by omega)
  have q := bit_and (g 36 c) (k := 3 + p) (by omega)
  unfold x34_r0_3
  rw [h0, i2]
  cases s
  · refine (cbt rfl).trans ?_
    exact cg3 rfl rfl rfl
  · refine (cbf rfl).trans ?_
    refine (cbt i1).trans ?_
    refine (ob (x35_s h0 h1)).trans ?_
    cases hq : hb (g 36 c) (3 + p)
    · refine (cbt (q.trans (by rw [hq]; rfl))).trans ?_
      exact cg3 rfl rfl rfl
    · refine (cbf (q.trans (by rw [hq]; rfl))).trans ?_
      exact cg3 rfl rfl rfl
set_option maxRecDepth 100000 in
set_option maxHeartbeats 4000000 in
theorem x34_eq {g : im_M} {c p : Nat} (hc : c < 4) (hp : p < 3) (h0 : g 8 0 = Int32.ofNat c) (h1 : g 8 1 = Int32.ofNat p) {A : Bool} (hA : (((hb (g 30 c) (3 + p) && hb (g 32 c) (3 + p)) && hb (g 34 c) (3 + p)) && hb (g 36 c) (3 + p)) = A) : x34_r0 g = some (0, c_end A g) := by
  refine ((e34_0 hc hp h0 h1).trans ((e34_1 hc hp h0 h1 _).trans ((e34_2 hc hp h0 h1 _ _).trans (e34_3 hc hp h0 h1 _ _)))).trans ?_
  rw [hA]
  unfold x34_r0_4 c_end
  cases A
  · refine (cbt rfl).trans ?_
    unfold x34_r0_5
    refine (ob (x15_eq _ _ _ _)).trans ?_
    exact (ob (x36_eq _ false)).trans rfl
  · refine (cbf rfl).trans ?_
    unfold x34_r0_5
    refine (ob (x15_eq _ _ _ _)).trans ?_
    exact (ob (x36_eq _ true)).trans rfl
set_option maxRecDepth 100000 in
set_option maxHeartbeats 4000000 in
theorem e99_0 {u : im_M} {c p : Nat} (hc : c < 4) (hp : p < 3) (h0 : (u 37 20) / (3 : Int32) = Int32.ofNat c) (h1 : (u 37 20) - Int32.ofNat c * (3 : Int32) = Int32.ofNat p) : x99_r37 u = x99_r37_1 u (Int32.ofNat c) (Int32.ofNat p) (Int32.ofNat c) (bi (!(Op.ifCond.holds .eq (u 51 c)) && hb (u 46 c) (3 + p))) := by
  have ix : (0 : Int32) + Int32.ofNat c = Int32.ofNat (c) := Int32.zero_add _
  have i1 := iv_in_t (k := c) (n := 16) (by omega) (by omega)
  have i2 := Int32.toNatClampNeg_ofNat_of_lt (n := c) (by omega)
  have hx : x93 u (u 46 c) (Int32.ofNat (3 + p)) = some (bi (hb (u 46 c) (3 + p)), u) := x93_eq u _ (by omega)
  unfold x99_r37
  rw [h0, h1, ix, i2, is_3p]
  refine (cbt i1).trans ?_
  cases hg : Op.ifCond.holds .eq (u 51 c)
  · refine (cbf rfl).trans ?_
    refine (ob hx).trans ?_
    cases hb (u 46 c) (3 + p)
    · refine (cbt rfl).trans ?_
      exact cg5 rfl rfl rfl rfl rfl
    · refine (cbf rfl).trans ?_
      exact cg5 rfl rfl rfl rfl rfl
  · refine (cbt rfl).trans ?_
    exact cg5 rfl rfl rfl rfl rfl
set_option maxRecDepth 100000 in
set_option maxHeartbeats 4000000 in
theorem e99_1 {u : im_M} {c p : Nat} (hc : c < 4) (hp : p < 3) (z : Int32) (s : Bool) : x99_r37_1 u (Int32.ofNat c) (Int32.ofNat p) z (bi s) = x99_r37_2 u (Int32.ofNat c) (Int32.ofNat p) (bi s) (Int32.ofNat (4 + c)) (bi (s && (!(Op.ifCond.holds .eq (u 51 (4 + c))) && hb (u 46 (4 + c)) (3 + p)))) := by
  have ix : (4 : Int32) + Int32.ofNat c = Int32.ofNat (4 + c) := (Int32.ofNat_add 4 c).symm
  have i1 := iv_in_t (k := 4 + c) (n := 16) (by omega) (by omega)
  have i2 := Int32.toNatClampNeg_ofNat_of_lt (n := 4 + c) (by omega)
  have hx : x93 u (u 46 (4 + c)) (Int32.ofNat (3 + p)) = some (bi (hb (u 46 (4 + c)) (3 + p)), u) := x93_eq u _ (by omega)
  unfold x99_r37_1
  rw [ix, i2, is_3p]
  cases s
  · refine (cbt rfl).trans ?_
    exact cg6 rfl rfl rfl rfl rfl rfl
  · refine (cbf rfl).trans ?_
    refine (cbt i1).trans ?_
    cases hg : Op.ifCond.holds .eq (u 51 (4 + c))
    · refine (cbf rfl).trans ?_
      refine (ob hx).trans ?_
      cases hb (u 46 (4 + c)) (3 + p)
      · refine (cbt rfl).trans ?_
        exact cg6 rfl rfl rfl rfl rfl rfl
      · refine (cbf rfl).trans ?_
        exact cg6 rfl rfl rfl rfl rfl rfl
    · refine (cbt rfl).trans ?_
      exact cg6 rfl rfl rfl rfl rfl rfl
set_option maxRecDepth 100000 in
set_option maxHeartbeats 4000000 in
theorem e99_2 {u : im_M} {c p : Nat} (hc : c < 4) (hp : p < 3) (z z2 : Int32) (s : Bool) : x99_r37_2 u (Int32.ofNat c) (Int32.ofNat p) z z2 (bi s) = x99_r37_3 u (Int32.ofNat c) (Int32.ofNat p) (bi s) (Int32.ofNat (8 + c)) (bi (s && (!(Op.ifCond.holds .eq (u 51 (8 + c))) && hb (u 46 (8 + c)) (3 + p)))) := by
  have ix : (8 : Int32) + Int32.ofNat c = Int32.ofNat (8 + c) := (Int32.ofNat_add 8 c).symm
  have i1 := iv_in_t (k := 8 + c) (n := 16) (by omega) (by omega)
  have i2 := Int32.toNatClampNeg_ofNat_of_lt (n := 8 + c) (by omega)
  have hx : x93 u (u 46 (8 + c)) (Int32.ofNat (3 + p)) = some (bi (hb (u 46 (8 + c)) (3 + p)), u) := x93_eq u _ (by omega)
  unfold x99_r37_2
  rw [ix, i2, is_3p]
  cases s
  · refine (cbt rfl).trans ?_
    exact cg6 rfl rfl rfl rfl rfl rfl
  · refine (cbf rfl).trans ?_
    refine (cbt i1).trans ?_
    cases hg : Op.ifCond.holds .eq (u 51 (8 + c))
    · refine (cbf rfl).trans ?_
      refine (ob hx).trans ?_
      cases hb (u 46 (8 + c)) (3 + p)
      · refine (cbt rfl).trans ?_
        exact cg6 rfl rfl rfl rfl rfl rfl
      · refine (cbf rfl).trans ?_
        exact cg6 rfl rfl rfl rfl rfl rfl
    · refine (cbt rfl).trans ?_
      exact cg6 rfl rfl rfl rfl rfl rfl
set_option maxRecDepth 100000 in
set_option maxHeartbeats 4000000 in
theorem e99_3 {u : im_M} {c p : Nat} (hc : c < 4) (hp : p < 3) (z z2 : Int32) (s : Bool) : x99_r37_3 u (Int32.ofNat c) (Int32.ofNat p) z z2 (bi s) = x99_r37_4 u (Int32.ofNat c) (Int32.ofNat p) (bi s) (Int32.ofNat (12 + c)) (bi (s && (!(Op.ifCond.holds .eq (u 51 (12 + c))) && hb (u 46 (12 + c)) (3 + p)))) := by
  have ix : (12 : Int32) + Int32.ofNat c = Int32.ofNat (12 + c) := (Int32.ofNat_add 12 c).symm
  have i1 := iv_in_t (k := 12 + c) (n := 16) (by omega) (by omega)
  have i2 := Int32.toNatClampNeg_ofNat_of_lt (n := 12 + c) (by omega)
  have hx : x93 u (u 46 (12 + c)) (Int32.ofNat (3 + p)) = some (bi (hb (u 46 (12 + c)) (3 + p)), u) := x93_eq u _ (by omega)
  unfold x99_r37_3
  rw [ix, i2, is_3p]
  cases s
  · refine (cbt rfl).trans ?_
    exact cg6 rfl rfl rfl rfl rfl rfl
  · refine (cbf rfl).trans ?_
    refine (cbt i1).trans ?_
    cases hg : Op.ifCond.holds .eq (u 51 (12 + c))
    · refine (cbf rfl).trans ?_
      refine (ob hx).trans ?_
      cases hb (u 46 (12 + c)) (3 + p)
      · refine (cbt rfl).trans ?_
        exact cg6 rfl rfl rfl rfl rfl rfl
      · refine (cbf rfl).trans ?_
        exact cg6 rfl rfl rfl rfl rfl rfl
    · refine (cbt rfl).trans ?_
      exact cg6 rfl rfl rfl rfl rfl rfl
set_option maxRecDepth 100000 in
set_option maxHeartbeats 4000000 in
theorem x99_eq {u : im_M} {c p e : Nat} (hc : c < 4) (hp : p < 3) (h : u 37 20 = Int32.ofNat (3 * c + p)) (he : e < 2 ^ 31) (hu : u 37 22 = Int32.ofNat e) {A : Bool} (hA : ((((!(Op.ifCond.holds .eq (u 51 c)) && hb (u 46 c) (3 + p)) && (!(Op.ifCond.holds .eq (u 51 (4 + c))) && hb (u 46 (4 + c)) (3 + p))) && (!(Op.ifCond.holds .eq (u 51 (8 + c))) && hb (u 46 (8 + c)) (3 + p))) && (!(Op.ifCond.holds .eq (u 51 (12 + c))) && hb (u 46 (12 + c)) (3 + p))) = A) : x99_r37 u = some (0, m_end A c p u) := by
  have h0 : (u 37 20) / (3 : Int32) = Int32.ofNat c := by
    have q := Int32.ofNat_div (a := 3 * c + p) (b := 3) (by omega) (by decide)
    have e1 : (3 * c + p) / 3 = c := by omega
    rw [e1] at q
    rw [h]
    exact q.symm
  have h1 : (u 37 20) - Int32.ofNat c * (3 : Int32) = Int32.ofNat p := by
    have e1 : Int32.ofNat c * (3 : Int32) = Int32.ofNat (3 * c) := by
      rw [Nat.mul_comm]
      exact (Int32.ofNat_mul c 3).symm
    rw [h, e1, is_sub (by omega)]
    have e2 : 3 * c + p - 3 * c = p := by omega
    rw [e2]
  refine ((e99_0 hc hp h0 h1).trans ((e99_1 hc hp _ _).trans ((e99_2 hc hp _ _ _).trans (e99_3 hc hp _ _ _)))).trans ?_
  rw [hA]
  unfold x99_r37_4 m_end
  cases A
  · refine (cbt rfl).trans ?_
    unfold x99_r37_5
    refine (ob (x94_eq he hu _ _ _)).trans ?_
    refine (cbt rfl).trans ?_
    unfold x99_r37_6
    refine (cbt rfl).trans ?_
    rfl
  · refine (cbf rfl).trans ?_
    unfold x99_r37_5
    refine (ob (x94_eq he hu _ _ _)).trans ?_
    refine (cbf rfl).trans ?_
    unfold x99_r37_6
    refine (cbf rfl).trans ?_
    rfl
