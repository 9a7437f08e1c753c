/-! What a train decides: its printed functions are those of the memory (printed by wip/gen/rel4.py) -/
def k_b (b : Bool) : Nat := bif b then 1 else 0
def k_v (a : Int32) (c : Nat) (b : Bool) : Nat := bif Op.if_icmp.holds .eq (Int32.ofNat c) a then 0 else k_b b
theorem on_bi (m : Nat) (b : Bool) : Int32.ofNat m + bi b = Int32.ofNat (m + k_b b) := by
  cases b
  · exact Int32.add_zero _
  · exact is_n1 m
theorem k_v_le (a : Int32) (c : Nat) (b : Bool) : k_v a c b ≤ 1 := by
  unfold k_v k_b
  cases Op.if_icmp.holds .eq (Int32.ofNat c) a <;> cases b <;> decide
/-- the votes -/
def k_cn (a : Int32) (x0 x1 x2 x3 : Bool) : Nat := k_v a 0 x0 + k_v a 1 x1 + k_v a 2 x2 + k_v a 3 x3
theorem k_cn_le (a : Int32) (x0 x1 x2 x3 : Bool) : k_cn a x0 x1 x2 x3 ≤ 4 := by
  have h0 := k_v_le a 0 x0
  have h1 := k_v_le a 1 x1
  have h2 := k_v_le a 2 x2
  have h3 := k_v_le a 3 x3
  unfold k_cn
  omega
theorem cg1 {α δ : Type} {f : α → δ} {a a' : α} (h1 : a = a') : f a = f a' := by
  subst h1
  rfl
def c_cn (t p : Nat) (a : Int32) (g : im_M) : Nat := k_cn a (hb (g (30 + 2 * t) 0) p) (hb (g (30 + 2 * t) 1) p) (hb (g (30 + 2 * t) 2) p) (hb (g (30 + 2 * t) 3) p)
def c_dd (t p : Nat) (a : Int32) (y : Int32) (g : im_M) : im_M :=
  bif decide (2 ≤ c_cn t p a g) then
    (bif Op.ifCond.holds .ne (y &&& c_msk p) then im_w g (29 + 2 * t) 2 ((g (29 + 2 * t) 2) ||| c_msk p) else c_rec (im_w g (29 + 2 * t) 2 ((g (29 + 2 * t) 2) ||| c_msk p)) 6 (Int32.ofNat t) (Int32.ofNat p))
  else g
def c_la (t : Nat) (m k f : Int32) (g : im_M) : im_M := bif Op.ifCond.holds .ne ((g (29 + 2 * t) 3) &&& m) then g else c_rec (im_w g (29 + 2 * t) 3 ((g (29 + 2 * t) 3) ||| m)) k (Int32.ofNat t) f
def c_lb (t : Nat) (nd m f : Int32) (g : im_M) : im_M := bif Op.if_icmp.holds .ne ((g (29 + 2 * t) 2) &&& nd) nd then g else c_la t m 8 f g
def c_lat (t : Nat) (g : im_M) : im_M := c_lb t 3 8 2 (c_lb t 4 4 1 (c_lb t 2 2 0 (c_la t 1 7 0 g)))
def c_dec0 (t : Nat) (a : Int32) (y : Int32) (g : im_M) : im_M := c_dd t 2 a y (c_dd t 1 a y (c_dd t 0 a y g))
def c_dec (t : Nat) (a : Int32) (g : im_M) : im_M :=
  bif Op.ifCond.holds .eq (c_dec0 t a (g (29 + 2 * t) 2) (im_w g (29 + 2 * t) 2 0) (29 + 2 * t) 2) then c_dec0 t a (g (29 + 2 * t) 2) (im_w g (29 + 2 * t) 2 0) else c_lat t (c_dec0 t a (g (29 + 2 * t) 2) (im_w g (29 + 2 * t) 2 0))
theorem k_dl (m : Nat) (h : m ≤ 4) : Op.if_icmp.holds .lt (Int32.ofNat m) (2 : Int32) = !(decide (2 ≤ m)) := by
  have q := is_lt (a := m) (b := 2) (by omega) (by decide)
  refine Eq.trans q ?_
  by_cases h2 : 2 ≤ m
  · have h3 : ¬ m < 2 := by omega
    simp [h2, h3]
  · have h3 : m < 2 := by omega
    simp [h2, h3]
set_option maxRecDepth 100000 in
set_option maxHeartbeats 4000000 in
theorem e32_0_0_3 (g : im_M) (a : Int32) (m : Nat) : x32_r29_0_3 g a (Int32.ofNat m) = x32_r29_0_4 g a (Int32.ofNat (m + k_v a 3 (hb (g 30 3) 0))) := by
  have e : (((g 30 3) >>> ((0 : Int32) &&& 31)) &&& (1 : Int32)) = bi (hb (g 30 3) 0) := is_has _ (by decide)
  unfold x32_r29_0_3
  cases h : Op.if_icmp.holds .eq (3 : Int32) a
  · have h2 : Op.if_icmp.holds .eq (Int32.ofNat 3) a = false := h
    have ev : Int32.ofNat m + (((g 30 3) >>> ((0 : Int32) &&& 31)) &&& (1 : Int32)) = Int32.ofNat (m + k_v a 3 (hb (g 30 3) 0)) := by
      rw [e]
      unfold k_v
      rw [h2]
      exact on_bi m _
    refine (cbf rfl).trans ?_
    exact cg3 rfl rfl ev
  · have h2 : Op.if_icmp.holds .eq (Int32.ofNat 3) a = true := h
    have ev : Int32.ofNat m = Int32.ofNat (m + k_v a 3 (hb (g 30 3) 0)) := by
      unfold k_v
      rw [h2]
      rfl
    refine (cbt rfl).trans ?_
    exact cg3 rfl rfl ev
set_option maxRecDepth 100000 in
set_option maxHeartbeats 4000000 in
theorem e32_0_0_2 (g : im_M) (a : Int32) (m : Nat) : x32_r29_0_2 g a (Int32.ofNat m) = x32_r29_0_3 g a (Int32.ofNat (m + k_v a 2 (hb (g 30 2) 0))) := by
  have e : (((g 30 2) >>> ((0 : Int32) &&& 31)) &&& (1 : Int32)) = bi (hb (g 30 2) 0) := is_has _ (by decide)
  unfold x32_r29_0_2
  cases h : Op.if_icmp.holds .eq (2 : Int32) a
  · have h2 : Op.if_icmp.holds .eq (Int32.ofNat 2) a = false := h
    have ev : Int32.ofNat m + (((g 30 2) >>> ((0 : Int32) &&& 31)) &&& (1 : Int32)) = Int32.ofNat (m + k_v a 2 (hb (g 30 2) 0)) := by
      rw [e]
      unfold k_v
      rw [h2]
      exact on_bi m _
    refine (cbf rfl).trans ?_
    exact cg3 rfl rfl ev
  · have h2 : Op.if_icmp.holds .eq (Int32.ofNat 2) a = true := h
    have ev : Int32.ofNat m = Int32.ofNat (m + k_v a 2 (hb (g 30 2) 0)) := by
      unfold k_v
      rw [h2]
      rfl
    refine (cbt rfl).trans ?_
    exact cg3 rfl rfl ev
set_option maxRecDepth 100000 in
set_option maxHeartbeats 4000000 in
theorem e32_0_0_1 (g : im_M) (a : Int32) (m : Nat) : x32_r29_0_1 g a (Int32.ofNat m) = x32_r29_0_2 g a (Int32.ofNat (m + k_v a 1 (hb (g 30 1) 0))) := by
  have e : (((g 30 1) >>> ((0 : Int32) &&& 31)) &&& (1 : Int32)) = bi (hb (g 30 1) 0) := is_has _ (by decide)
  unfold x32_r29_0_1
  cases h : Op.if_icmp.holds .eq (1 : Int32) a
  · have h2 : Op.if_icmp.holds .eq (Int32.ofNat 1) a = false := h
    have ev : Int32.ofNat m + (((g 30 1) >>> ((0 : Int32) &&& 31)) &&& (1 : Int32)) = Int32.ofNat (m + k_v a 1 (hb (g 30 1) 0)) := by
      rw [e]
      unfold k_v
      rw [h2]
      exact on_bi m _
    refine (cbf rfl).trans ?_
    exact cg3 rfl rfl ev
  · have h2 : Op.if_icmp.holds .eq (Int32.ofNat 1) a = true := h
    have ev : Int32.ofNat m = Int32.ofNat (m + k_v a 1 (hb (g 30 1) 0)) := by
      unfold k_v
      rw [h2]
      rfl
    refine (cbt rfl).trans ?_
    exact cg3 rfl rfl ev
set_option maxRecDepth 100000 in
set_option maxHeartbeats 4000000 in
theorem e32_0_0_0 (g : im_M) (a : Int32) : x32_r29_0 g a = x32_r29_0_1 g a (Int32.ofNat (0 + k_v a 0 (hb (g 30 0) 0))) := by
  have e : (((g 30 0) >>> ((0 : Int32) &&& 31)) &&& (1 : Int32)) = bi (hb (g 30 0) 0) := is_has _ (by decide)
  unfold x32_r29_0
  cases h : Op.if_icmp.holds .eq (0 : Int32) a
  · have h2 : Op.if_icmp.holds .eq (Int32.ofNat 0) a = false := h
    have ev : (0 : Int32) + (((g 30 0) >>> ((0 : Int32) &&& 31)) &&& (1 : Int32)) = Int32.ofNat (0 + k_v a 0 (hb (g 30 0) 0)) := by
      rw [e]
      unfold k_v
      rw [h2]
      exact on_bi 0 _
    refine (cbf rfl).trans ?_
    exact cg3 rfl rfl ev
  · have h2 : Op.if_icmp.holds .eq (Int32.ofNat 0) a = true := h
    have ev : (0 : Int32) = Int32.ofNat (0 + k_v a 0 (hb (g 30 0) 0)) := by
      unfold k_v
      rw [h2]
      rfl
    refine (cbt rfl).trans ?_
    exact cg3 rfl rfl ev
set_option maxRecDepth 100000 in
set_option maxHeartbeats 4000000 in
theorem e32_0_0 (g : im_M) (a : Int32) : x32_r29_0 g a = some (Int32.ofNat (c_cn 0 0 a g), g) := by
  rw [e32_0_0_0, e32_0_0_1, e32_0_0_2, e32_0_0_3]
  unfold x32_r29_0_4
  rw [show c_cn 0 0 a g = 0 + k_v a 0 (hb (g 30 0) 0) + k_v a 1 (hb (g 30 1) 0) + k_v a 2 (hb (g 30 2) 0) + k_v a 3 (hb (g 30 3) 0) from by rw [Nat.zero_add]; rfl]
set_option maxRecDepth 100000 in
set_option maxHeartbeats 4000000 in
theorem e32_0_1_3 (g : im_M) (a : Int32) (m : Nat) : x32_r29_1_3 g a (Int32.ofNat m) = x32_r29_1_4 g a (Int32.ofNat (m + k_v a 3 (hb (g 30 3) 1))) := by
  have e : (((g 30 3) >>> ((1 : Int32) &&& 31)) &&& (1 : Int32)) = bi (hb (g 30 3) 1) := is_has _ (by decide)
  unfold x32_r29_1_3
  cases h : Op.if_icmp.holds .eq (3 : Int32) a
  · have h2 : Op.if_icmp.holds .eq (Int32.ofNat 3) a = false := h
    have ev : Int32.ofNat m + (((g 30 3) >>> ((1 : Int32) &&& 31)) &&& (1 : Int32)) = Int32.ofNat (m + k_v a 3 (hb (g 30 3) 1)) := by
      rw [e]
      unfold k_v
      rw [h2]
      exact on_bi m _
    refine (cbf rfl).trans ?_
    exact cg3 rfl rfl ev
  · have h2 : Op.if_icmp.holds .eq (Int32.ofNat 3) a = true := h
    have ev : Int32.ofNat m = Int32.ofNat (m + k_v a 3 (hb (g 30 3) 1)) := by
      unfold k_v
      rw [h2]
      rfl
    refine (cbt rfl).trans ?_
    exact cg3 rfl rfl ev
set_option maxRecDepth 100000 in
set_option maxHeartbeats 4000000 in
theorem e32_0_1_2 (g : im_M) (a : Int32) (m : Nat) : x32_r29_1_2 g a (Int32.ofNat m) = x32_r29_1_3 g a (Int32.ofNat (m + k_v a 2 (hb (g 30 2) 1))) := by
  have e : (((g 30 2) >>> ((1 : Int32) &&& 31)) &&& (1 : Int32)) = bi (hb (g 30 2) 1) := is_has _ (by decide)
  unfold x32_r29_1_2
  cases h : Op.if_icmp.holds .eq (2 : Int32) a
  · have h2 : Op.if_icmp.holds .eq (Int32.ofNat 2) a = false := h
    have ev : Int32.ofNat m + (((g 30 2) >>> ((1 : Int32) &&& 31)) &&& (1 : Int32)) = Int32.ofNat (m + k_v a 2 (hb (g 30 2) 1)) := by
      rw [e]
      unfold k_v
      rw [h2]
      exact on_bi m _
    refine (cbf rfl).trans ?_
    exact cg3 rfl rfl ev
  · have h2 : Op.if_icmp.holds .eq (Int32.ofNat 2) a = true := h
    have ev : Int32.ofNat m = Int32.ofNat (m + k_v a 2 (hb (g 30 2) 1)) := by
      unfold k_v
      rw [h2]
      rfl
    refine (cbt rfl).trans ?_
    exact cg3 rfl rfl ev
set_option maxRecDepth 100000 in
set_option maxHeartbeats 4000000 in
theorem e32_0_1_1 (g : im_M) (a : Int32) (m : Nat) : x32_r29_1_1 g a (Int32.ofNat m) = x32_r29_1_2 g a (Int32.ofNat (m + k_v a 1 (hb (g 30 1) 1))) := by
  have e : (((g 30 1) >>> ((1 : Int32) &&& 31)) &&& (1 : Int32)) = bi (hb (g 30 1) 1) := is_has _ (by decide)
  unfold x32_r29_1_1
  cases h : Op.if_icmp.holds .eq (1 : Int32) a
  · have h2 : Op.if_icmp.holds .eq (Int32.ofNat 1) a = false := h
    have ev : Int32.ofNat m + (((g 30 1) >>> ((1 : Int32) &&& 31)) &&& (1 : Int32)) = Int32.ofNat (m + k_v a 1 (hb (g 30 1) 1)) := by
      rw [e]
      unfold k_v
      rw [h2]
      exact on_bi m _
    refine (cbf rfl).trans ?_
    exact cg3 rfl rfl ev
  · have h2 : Op.if_icmp.holds .eq (Int32.ofNat 1) a = true := h
    have ev : Int32.ofNat m = Int32.ofNat (m + k_v a 1 (hb (g 30 1) 1)) := by
      unfold k_v
      rw [h2]
      rfl
    refine (cbt rfl).trans ?_
    exact cg3 rfl rfl ev
set_option maxRecDepth 100000 in
set_option maxHeartbeats 4000000 in
theorem e32_0_1_0 (g : im_M) (a : Int32) : x32_r29_1 g a = x32_r29_1_1 g a (Int32.ofNat (0 + k_v a 0 (hb (g 30 0) 1))) := by
  have e : (((g 30 0) >>> ((1 : Int32) &&& 31)) &&& (1 : Int32)) = bi (hb (g 30 0) 1) := is_has _ (by decide)
  unfold x32_r29_1
  cases h : Op.if_icmp.holds .eq (0 : Int32) a
  · have h2 : Op.if_icmp.holds .eq (Int32.ofNat 0) a = false := h
    have ev : (0 : Int32) + (((g 30 0) >>> ((1 : Int32) &&& 31)) &&& (1 : Int32)) = Int32.ofNat (0 + k_v a 0 (hb (g 30 0) 1)) := by
      rw [e]
      unfold k_v
      rw [h2]
      exact on_bi 0 _
    refine (cbf rfl).trans ?_
    exact cg3 rfl rfl ev
  · have h2 : Op.if_icmp.holds .eq (Int32.ofNat 0) a = true := h
    have ev : (0 : Int32) = Int32.ofNat (0 + k_v a 0 (hb (g 30 0) 1)) := by
      unfold k_v
      rw [h2]
      rfl
    refine (cbt rfl).trans ?_
    exact cg3 rfl rfl ev
set_option maxRecDepth 100000 in
set_option maxHeartbeats 4000000 in
theorem e32_0_1 (g : im_M) (a : Int32) : x32_r29_1 g a = some (Int32.ofNat (c_cn 0 1 a g), g) := by
  rw [e32_0_1_0, e32_0_1_1, e32_0_1_2, e32_0_1_3]
  unfold x32_r29_1_4
  rw [show c_cn 0 1 a g = 0 + k_v a 0 (hb (g 30 0) 1) + k_v a 1 (hb (g 30 1) 1) + k_v a 2 (hb (g 30 2) 1) + k_v a 3 (hb (g 30 3) 1) from by rw [Nat.zero_add]; rfl]
set_option maxRecDepth 100000 in
set_option maxHeartbeats 4000000 in
theorem e32_0_2_3 (g : im_M) (a : Int32) (m : Nat) : x32_r29_2_3 g a (Int32.ofNat m) = x32_r29_2_4 g a (Int32.ofNat (m + k_v a 3 (hb (g 30 3) 2))) := by
  have e : (((g 30 3) >>> ((2 : Int32) &&& 31)) &&& (1 : Int32)) = bi (hb (g 30 3) 2) := is_has _ (by decide)
  unfold x32_r29_2_3
  cases h : Op.if_icmp.holds .eq (3 : Int32) a
  · have h2 : Op.if_icmp.holds .eq (Int32.ofNat 3) a = false := h
    have ev : Int32.ofNat m + (((g 30 3) >>> ((2 : Int32) &&& 31)) &&& (1 : Int32)) = Int32.ofNat (m + k_v a 3 (hb (g 30 3) 2)) := by
      rw [e]
      unfold k_v
      rw [h2]
      exact on_bi m _
    refine (cbf rfl).trans ?_
    exact cg3 rfl rfl ev
  · have h2 : Op.if_icmp.holds .eq (Int32.ofNat 3) a = true := h
    have ev : Int32.ofNat m = Int32.ofNat (m + k_v a 3 (hb (g 30 3) 2)) := by
      unfold k_v
      rw [h2]
      rfl
    refine (cbt rfl).trans ?_
    exact cg3 rfl rfl ev
set_option maxRecDepth 100000 in
set_option maxHeartbeats 4000000 in
theorem e32_0_2_2 (g : im_M) (a : Int32) (m : Nat) : x32_r29_2_2 g a (Int32.ofNat m) = x32_r29_2_3 g a (Int32.ofNat (m + k_v a 2 (hb (g 30 2) 2))) := by
  have e : (((g 30 2) >>> ((2 : Int32) &&& 31)) &&& (1 : Int32)) = bi (hb (g 30 2) 2) := is_has _ (by decide)
  unfold x32_r29_2_2
  cases h : Op.if_icmp.holds .eq (2 : Int32) a
  · have h2 : Op.if_icmp.holds .eq (Int32.ofNat 2) a = false := h
    have ev : Int32.ofNat m + (((g 30 2) >>> ((2 : Int32) &&& 31)) &&& (1 : Int32)) = Int32.ofNat (m + k_v a 2 (hb (g 30 2) 2)) := by
      rw [e]
      unfold k_v
      rw [h2]
      exact on_bi m _
    refine (cbf rfl).trans ?_
    exact cg3 rfl rfl ev
  · have h2 : Op.if_icmp.holds .eq (Int32.ofNat 2) a = true := h
    have ev : Int32.ofNat m = Int32.ofNat (m + k_v a 2 (hb (g 30 2) 2)) := by
      unfold k_v
      rw [h2]
      rfl
    refine (cbt rfl).trans ?_
    exact cg3 rfl rfl ev
set_option maxRecDepth 100000 in
set_option maxHeartbeats 4000000 in
theorem e32_0_2_1 (g : im_M) (a : Int32) (m : Nat) : x32_r29_2_1 g a (Int32.ofNat m) = x32_r29_2_2 g a (Int32.ofNat (m + k_v a 1 (hb (g 30 1) 2))) := by
  have e : (((g 30 1) >>> ((2 : Int32) &&& 31)) &&& (1 : Int32)) = bi (hb (g 30 1) 2) := is_has _ (by decide)
  unfold x32_r29_2_1
  cases h : Op.if_icmp.holds .eq (1 : Int32) a
  · have h2 : Op.if_icmp.holds .eq (Int32.ofNat 1) a = false := h
    have ev : Int32.ofNat m + (((g 30 1) >>> ((2 : Int32) &&& 31)) &&& (1 : Int32)) = Int32.ofNat (m + k_v a 1 (hb (g 30 1) 2)) := by
      rw [e]
      unfold k_v
      rw [h2]
      exact on_bi m _
    refine (cbf rfl).trans ?_
    exact cg3 rfl rfl ev
  · have h2 : Op.if_icmp.holds .eq (Int32.ofNat 1) a = true := h
    have ev : Int32.ofNat m = Int32.ofNat (m + k_v a 1 (hb (g 30 1) 2)) := by
      unfold k_v
      rw [h2]
      rfl
    refine (cbt rfl).trans ?_
    exact cg3 rfl rfl ev
set_option maxRecDepth 100000 in
set_option maxHeartbeats 4000000 in
theorem e32_0_2_0 (g : im_M) (a : Int32) : x32_r29_2 g a = x32_r29_2_1 g a (Int32.ofNat (0 + k_v a 0 (hb (g 30 0) 2))) := by
  have e : (((g 30 0) >>> ((2 : Int32) &&& 31)) &&& (1 : Int32)) = bi (hb (g 30 0) 2) := is_has _ (by decide)
  unfold x32_r29_2
  cases h : Op.if_icmp.holds .eq (0 : Int32) a
  · have h2 : Op.if_icmp.holds .eq (Int32.ofNat 0) a = false := h
    have ev : (0 : Int32) + (((g 30 0) >>> ((2 : Int32) &&& 31)) &&& (1 : Int32)) = Int32.ofNat (0 + k_v a 0 (hb (g 30 0) 2)) := by
      rw [e]
      unfold k_v
      rw [h2]
      exact on_bi 0 _
    refine (cbf rfl).trans ?_
    exact cg3 rfl rfl ev
  · have h2 : Op.if_icmp.holds .eq (Int32.ofNat 0) a = true := h
    have ev : (0 : Int32) = Int32.ofNat (0 + k_v a 0 (hb (g 30 0) 2)) := by
      unfold k_v
      rw [h2]
      rfl
    refine (cbt rfl).trans ?_
    exact cg3 rfl rfl ev
set_option maxRecDepth 100000 in
set_option maxHeartbeats 4000000 in
theorem e32_0_2 (g : im_M) (a : Int32) : x32_r29_2 g a = some (Int32.ofNat (c_cn 0 2 a g), g) := by
  rw [e32_0_2_0, e32_0_2_1, e32_0_2_2, e32_0_2_3]
  unfold x32_r29_2_4
  rw [show c_cn 0 2 a g = 0 + k_v a 0 (hb (g 30 0) 2) + k_v a 1 (hb (g 30 1) 2) + k_v a 2 (hb (g 30 2) 2) + k_v a 3 (hb (g 30 3) 2) from by rw [Nat.zero_add]; rfl]
set_option maxRecDepth 100000 in
set_option maxHeartbeats 4000000 in
theorem e33_0_1 (g : im_M) : x33_r29_r1_1 g = x33_r29_r1_2 (c_lb 0 2 2 0 g) := by
  have e : c_lb 0 2 2 0 g = (bif Op.if_icmp.holds .ne ((g 29 2) &&& (2 : Int32)) (2 : Int32) then g else (bif Op.ifCond.holds .ne ((g 29 3) &&& (2 : Int32)) then g else c_rec (im_w g 29 3 ((g 29 3) ||| (2 : Int32))) (8 : Int32) (0 : Int32) (0 : Int32))) := rfl
  rw [e]
  unfold x33_r29_r1_1
  cases Op.if_icmp.holds .ne ((g 29 2) &&& (2 : Int32)) (2 : Int32)
  · refine (cbf rfl).trans ?_
    cases Op.ifCond.holds .ne ((g 29 3) &&& (2 : Int32))
    · refine (cbf rfl).trans ?_
      refine (ob (x15_eq _ _ _ _)).trans ?_
      exact cg1 rfl
    · refine (cbt rfl).trans ?_
      exact cg1 rfl
  · refine (cbt rfl).trans ?_
    exact cg1 rfl
set_option maxRecDepth 100000 in
set_option maxHeartbeats 4000000 in
theorem e33_0_2 (g : im_M) : x33_r29_r1_2 g = x33_r29_r1_3 (c_lb 0 4 4 1 g) := by
  have e : c_lb 0 4 4 1 g = (bif Op.if_icmp.holds .ne ((g 29 2) &&& (4 : Int32)) (4 : Int32) then g else (bif Op.ifCond.holds .ne ((g 29 3) &&& (4 : Int32)) then g else c_rec (im_w g 29 3 ((g 29 3) ||| (4 : Int32))) (8 : Int32) (0 : Int32) (1 : Int32))) := rfl
  rw [e]
  unfold x33_r29_r1_2
  cases Op.if_icmp.holds .ne ((g 29 2) &&& (4 : Int32)) (4 : Int32)
  · refine (cbf rfl).trans ?_
    cases Op.ifCond.holds .ne ((g 29 3) &&& (4 : Int32))
    · refine (cbf rfl).trans ?_
      refine (ob (x15_eq _ _ _ _)).trans ?_
      exact cg1 rfl
    · refine (cbt rfl).trans ?_
      exact cg1 rfl
  · refine (cbt rfl).trans ?_
    exact cg1 rfl
set_option maxRecDepth 100000 in
set_option maxHeartbeats 4000000 in
theorem e33_0_3 (g : im_M) : x33_r29_r1_3 g = x33_r29_r1_4 (c_lb 0 3 8 2 g) := by
  have e : c_lb 0 3 8 2 g = (bif Op.if_icmp.holds .ne ((g 29 2) &&& (3 : Int32)) (3 : Int32) then g else (bif Op.ifCond.holds .ne ((g 29 3) &&& (8 : Int32)) then g else c_rec (im_w g 29 3 ((g 29 3) ||| (8 : Int32))) (8 : Int32) (0 : Int32) (2 : Int32))) := rfl
  rw [e]
  unfold x33_r29_r1_3
  cases Op.if_icmp.holds .ne ((g 29 2) &&& (3 : Int32)) (3 : Int32)
  · refine (cbf rfl).trans ?_
    cases Op.ifCond.holds .ne ((g 29 3) &&& (8 : Int32))
    · refine (cbf rfl).trans ?_
      refine (ob (x15_eq _ _ _ _)).trans ?_
      exact cg1 rfl
    · refine (cbt rfl).trans ?_
      exact cg1 rfl
  · refine (cbt rfl).trans ?_
    exact cg1 rfl
set_option maxRecDepth 100000 in
set_option maxHeartbeats 4000000 in
theorem e33_0 (g : im_M) : x33_r29_r1 g = some (0, c_lat 0 g) := by
  have h : x33_r29_r1 g = x33_r29_r1_1 (c_la 0 1 7 0 g) := by
    have e : c_la 0 1 7 0 g = (bif Op.ifCond.holds .ne ((g 29 3) &&& (1 : Int32)) then g else c_rec (im_w g 29 3 ((g 29 3) ||| (1 : Int32))) (7 : Int32) (0 : Int32) (0 : Int32)) := rfl
    rw [e]
    unfold x33_r29_r1
    cases Op.ifCond.holds .ne ((g 29 3) &&& (1 : Int32))
    · refine (cbf rfl).trans ?_
      refine (ob (x15_eq _ _ _ _)).trans ?_
      exact cg1 rfl
    · refine (cbt rfl).trans ?_
      exact cg1 rfl
  refine h.trans ?_
  rw [e33_0_1, e33_0_2, e33_0_3]
  rfl
set_option maxRecDepth 100000 in
set_option maxHeartbeats 4000000 in
theorem e31_0_0 (g : im_M) (a : Int32) : x31_r29_r1 g a = x31_r29_r1_1 (c_dd 0 0 a (g 29 2) (im_w g 29 2 0)) a (g 29 2) := by
  have e : c_dd 0 0 a (g 29 2) (im_w g 29 2 0) = (bif decide (2 ≤ c_cn 0 0 a (im_w g 29 2 0)) then (bif Op.ifCond.holds .ne ((g 29 2) &&& (1 : Int32)) then im_w (im_w g 29 2 0) 29 2 (((im_w g 29 2 0) 29 2) ||| (1 : Int32)) else c_rec (im_w (im_w g 29 2 0) 29 2 (((im_w g 29 2 0) 29 2) ||| (1 : Int32))) (6 : Int32) (0 : Int32) (0 : Int32)) else (im_w g 29 2 0)) := rfl
  rw [e]
  unfold x31_r29_r1
  refine (ob (e32_0_0 _ _)).trans ?_
  have kd := k_dl _ (k_cn_le a (hb ((im_w g 29 2 0) 30 0) 0) (hb ((im_w g 29 2 0) 30 1) 0) (hb ((im_w g 29 2 0) 30 2) 0) (hb ((im_w g 29 2 0) 30 3) 0))
  have kd2 : Op.if_icmp.holds .lt (Int32.ofNat (c_cn 0 0 a (im_w g 29 2 0))) (2 : Int32) = !(decide (2 ≤ c_cn 0 0 a (im_w g 29 2 0))) := kd
  cases hD : decide (2 ≤ c_cn 0 0 a (im_w g 29 2 0))
  · refine (cbt (kd2.trans (by rw [hD]; rfl))).trans ?_
    exact cg3 rfl rfl rfl
  · refine (cbf (kd2.trans (by rw [hD]; rfl))).trans ?_
    cases Op.ifCond.holds .ne ((g 29 2) &&& (1 : Int32))
    · refine (cbf rfl).trans ?_
      refine (ob (x15_eq _ _ _ _)).trans ?_
      exact cg3 rfl rfl rfl
    · refine (cbt rfl).trans ?_
      exact cg3 rfl rfl rfl
set_option maxRecDepth 100000 in
set_option maxHeartbeats 4000000 in
theorem e31_0_1 (g : im_M) (a y : Int32) : x31_r29_r1_1 g a y = x31_r29_r1_2 (c_dd 0 1 a y g) a y := by
  have e : c_dd 0 1 a y g = (bif decide (2 ≤ c_cn 0 1 a g) then (bif Op.ifCond.holds .ne (y &&& (2 : Int32)) then im_w g 29 2 ((g 29 2) ||| (2 : Int32)) else c_rec (im_w g 29 2 ((g 29 2) ||| (2 : Int32))) (6 : Int32) (0 : Int32) (1 : Int32)) else g) := rfl
  rw [e]
  unfold x31_r29_r1_1
  refine (ob (e32_0_1 _ _)).trans ?_
  have kd := k_dl _ (k_cn_le a (hb (g 30 0) 1) (hb (g 30 1) 1) (hb (g 30 2) 1) (hb (g 30 3) 1))
  have kd2 : Op.if_icmp.holds .lt (Int32.ofNat (c_cn 0 1 a g)) (2 : Int32) = !(decide (2 ≤ c_cn 0 1 a g)) := kd
  cases hD : decide (2 ≤ c_cn 0 1 a g)
  · refine (cbt (kd2.trans (by rw [hD]; rfl))).trans ?_
    exact cg3 rfl rfl rfl
  · refine (cbf (kd2.trans (by rw [hD]; rfl))).trans ?_
    cases Op.ifCond.holds .ne (y &&& (2 : Int32))
    · refine (cbf rfl).trans ?_
      refine (ob (x15_eq _ _ _ _)).trans ?_
      exact cg3 rfl rfl rfl
    · refine (cbt rfl).trans ?_
      exact cg3 rfl rfl rfl
set_option maxRecDepth 100000 in
set_option maxHeartbeats 4000000 in
theorem e31_0_2 (g : im_M) (a y : Int32) : x31_r29_r1_2 g a y = x31_r29_r1_3 (c_dd 0 2 a y g) a y := by
  have e : c_dd 0 2 a y g = (bif decide (2 ≤ c_cn 0 2 a g) then (bif Op.ifCond.holds .ne (y &&& (4 : Int32)) then im_w g 29 2 ((g 29 2) ||| (4 : Int32)) else c_rec (im_w g 29 2 ((g 29 2) ||| (4 : Int32))) (6 : Int32) (0 : Int32) (2 : Int32)) else g) := rfl
  rw [e]
  unfold x31_r29_r1_2
  refine (ob (e32_0_2 _ _)).trans ?_
  have kd := k_dl _ (k_cn_le a (hb (g 30 0) 2) (hb (g 30 1) 2) (hb (g 30 2) 2) (hb (g 30 3) 2))
  have kd2 : Op.if_icmp.holds .lt (Int32.ofNat (c_cn 0 2 a g)) (2 : Int32) = !(decide (2 ≤ c_cn 0 2 a g)) := kd
  cases hD : decide (2 ≤ c_cn 0 2 a g)
  · refine (cbt (kd2.trans (by rw [hD]; rfl))).trans ?_
    exact cg3 rfl rfl rfl
  · refine (cbf (kd2.trans (by rw [hD]; rfl))).trans ?_
    cases Op.ifCond.holds .ne (y &&& (4 : Int32))
    · refine (cbf rfl).trans ?_
      refine (ob (x15_eq _ _ _ _)).trans ?_
      exact cg3 rfl rfl rfl
    · refine (cbt rfl).trans ?_
      exact cg3 rfl rfl rfl
set_option maxRecDepth 100000 in
set_option maxHeartbeats 4000000 in
theorem e31_0 (g : im_M) (a : Int32) : x31_r29_r1 g a = some (0, c_dec 0 a g) := by
  refine ((e31_0_0 g a).trans ((e31_0_1 _ a _).trans (e31_0_2 _ a _))).trans ?_
  show x31_r29_r1_3 (c_dec0 0 a (g 29 2) (im_w g 29 2 0)) a (g 29 2) = _
  have e : c_dec 0 a g = (bif Op.ifCond.holds .eq (c_dec0 0 a (g 29 2) (im_w g 29 2 0) 29 2) then c_dec0 0 a (g 29 2) (im_w g 29 2 0) else c_lat 0 (c_dec0 0 a (g 29 2) (im_w g 29 2 0))) := rfl
  rw [e]
  generalize c_dec0 0 a (g 29 2) (im_w g 29 2 0) = G
  unfold x31_r29_r1_3
  cases Op.ifCond.holds .eq (G 29 2)
  · refine (cbf rfl).trans ?_
    refine (ob (e33_0 G)).trans ?_
    rfl
  · exact (cbt rfl).trans rfl
set_option maxRecDepth 100000 in
set_option maxHeartbeats 4000000 in
theorem e32_1_0_3 (g : im_M) (a : Int32) (m : Nat) : x32_r31_0_3 g a (Int32.ofNat m) = x32_r31_0_4 g a (Int32.ofNat (m + k_v a 3 (hb (g 32 3) 0))) := by
  have e : (((g 32 3) >>> ((0 : Int32) &&& 31)) &&& (1 : Int32)) = bi (hb (g 32 3) 0) := is_has _ (by decide)
  unfold x32_r31_0_3
  cases h : Op.if_icmp.holds .eq (3 : Int32) a
  · have h2 : Op.if_icmp.holds .eq (Int32.ofNat 3) a = false := h
    have ev : Int32.ofNat m + (((g 32 3) >>> ((0 : Int32) &&& 31)) &&& (1 : Int32)) = Int32.ofNat (m + k_v a 3 (hb (g 32 3) 0)) := by
      rw [e]
      unfold k_v
      rw [h2]
      exact on_bi m _
    refine (cbf rfl).trans ?_
    exact cg3 rfl rfl ev
  · have h2 : Op.if_icmp.holds .eq (Int32.ofNat 3) a = true := h
    have ev : Int32.ofNat m = Int32.ofNat (m + k_v a 3 (hb (g 32 3) 0)) := by
      unfold k_v
      rw [h2]
      rfl
    refine (cbt rfl).trans ?_
    exact cg3 rfl rfl ev
set_option maxRecDepth 100000 in
set_option maxHeartbeats 4000000 in
theorem e32_1_0_2 (g : im_M) (a : Int32) (m : Nat) : x32_r31_0_2 g a (Int32.ofNat m) = x32_r31_0_3 g a (Int32.ofNat (m + k_v a 2 (hb (g 32 2) 0))) := by
  have e : (((g 32 2) >>> ((0 : Int32) &&& 31)) &&& (1 : Int32)) = bi (hb (g 32 2) 0) := is_has _ (by decide)
  unfold x32_r31_0_2
  cases h : Op.if_icmp.holds .eq (2 : Int32) a
  · have h2 : Op.if_icmp.holds .eq (Int32.ofNat 2) a = false := h
    have ev : Int32.ofNat m + (((g 32 2) >>> ((0 : Int32) &&& 31)) &&& (1 : Int32)) = Int32.ofNat (m + k_v a 2 (hb (g 32 2) 0)) := by
      rw [e]
      unfold k_v
      rw [h2]
      exact on_bi m _
    refine (cbf rfl).trans ?_
    exact cg3 rfl rfl ev
  · have h2 : Op.if_icmp.holds .eq (Int32.ofNat 2) a = true := h
    have ev : Int32.ofNat m = Int32.ofNat (m + k_v a 2 (hb (g 32 2) 0)) := by
      unfold k_v
      rw [h2]
      rfl
    refine (cbt rfl).trans ?_
    exact cg3 rfl rfl ev
set_option maxRecDepth 100000 in
set_option maxHeartbeats 4000000 in
theorem e32_1_0_1 (g : im_M) (a : Int32) (m : Nat) : x32_r31_0_1 g a (Int32.ofNat m) = x32_r31_0_2 g a (Int32.ofNat (m + k_v a 1 (hb (g 32 1) 0))) := by
  have e : (((g 32 1) >>> ((0 : Int32) &&& 31)) &&& (1 : Int32)) = bi (hb (g 32 1) 0) := is_has _ (by decide)
  unfold x32_r31_0_1
  cases h : Op.if_icmp.holds .eq (1 : Int32) a
  · have h2 : Op.if_icmp.holds .eq (Int32.ofNat 1) a = false := h
    have ev : Int32.ofNat m + (((g 32 1) >>> ((0 : Int32) &&& 31)) &&& (1 : Int32)) = Int32.ofNat (m + k_v a 1 (hb (g 32 1) 0)) := by
      rw [e]
      unfold k_v
      rw [h2]
      exact on_bi m _
    refine (cbf rfl).trans ?_
    exact cg3 rfl rfl ev
  · have h2 : Op.if_icmp.holds .eq (Int32.ofNat 1) a = true := h
    have ev : Int32.ofNat m = Int32.ofNat (m + k_v a 1 (hb (g 32 1) 0)) := by
      unfold k_v
      rw [h2]
      rfl
    refine (cbt rfl).trans ?_
    exact cg3 rfl rfl ev
set_option maxRecDepth 100000 in
set_option maxHeartbeats 4000000 in
theorem e32_1_0_0 (g : im_M) (a : Int32) : x32_r31_0 g a = x32_r31_0_1 g a (Int32.ofNat (0 + k_v a 0 (hb (g 32 0) 0))) := by
  have e : (((g 32 0) >>> ((0 : Int32) &&& 31)) &&& (1 : Int32)) = bi (hb (g 32 0) 0) := is_has _ (by decide)
  unfold x32_r31_0
  cases h : Op.if_icmp.holds .eq (0 : Int32) a
  · have h2 : Op.if_icmp.holds .eq (Int32.ofNat 0) a = false := h
    have ev : (0 : Int32) + (((g 32 0) >>> ((0 : Int32) &&& 31)) &&& (1 : Int32)) = Int32.ofNat (0 + k_v a 0 (hb (g 32 0) 0)) := by
      rw [e]
      unfold k_v
      rw [h2]
      exact on_bi 0 _
    refine (cbf rfl).trans ?_
    exact cg3 rfl rfl ev
  · have h2 : Op.if_icmp.holds .eq (Int32.ofNat 0) a = true := h
    have ev : (0 : Int32) = Int32.ofNat (0 + k_v a 0 (hb (g 32 0) 0)) := by
      unfold k_v
      rw [h2]
      rfl
    refine (cbt rfl).trans ?_
    exact cg3 rfl rfl ev
set_option maxRecDepth 100000 in
set_option maxHeartbeats 4000000 in
theorem e32_1_0 (g : im_M) (a : Int32) : x32_r31_0 g a = some (Int32.ofNat (c_cn 1 0 a g), g) := by
  rw [e32_1_0_0, e32_1_0_1, e32_1_0_2, e32_1_0_3]
  unfold x32_r31_0_4
  rw [show c_cn 1 0 a g = 0 + k_v a 0 (hb (g 32 0) 0) + k_v a 1 (hb (g 32 1) 0) + k_v a 2 (hb (g 32 2) 0) + k_v a 3 (hb (g 32 3) 0) from by rw [Nat.zero_add]; rfl]
set_option maxRecDepth 100000 in
set_option maxHeartbeats 4000000 in
theorem e32_1_1_3 (g : im_M) (a : Int32) (m : Nat) : x32_r31_1_3 g a (Int32.ofNat m) = x32_r31_1_4 g a (Int32.ofNat (m + k_v a 3 (hb (g 32 3) 1))) := by
  have e : (((g 32 3) >>> ((1 : Int32) &&& 31)) &&& (1 : Int32)) = bi (hb (g 32 3) 1) := is_has _ (by decide)
  unfold x32_r31_1_3
  cases h : Op.if_icmp.holds .eq (3 : Int32) a
  · have h2 : Op.if_icmp.holds .eq (Int32.ofNat 3) a = false := h
    have ev : Int32.ofNat m + (((g 32 3) >>> ((1 : Int32) &&& 31)) &&& (1 : Int32)) = Int32.ofNat (m + k_v a 3 (hb (g 32 3) 1)) := by
      rw [e]
      unfold k_v
      rw [h2]
      exact on_bi m _
    refine (cbf rfl).trans ?_
    exact cg3 rfl rfl ev
  · have h2 : Op.if_icmp.holds .eq (Int32.ofNat 3) a = true := h
    have ev : Int32.ofNat m = Int32.ofNat (m + k_v a 3 (hb (g 32 3) 1)) := by
      unfold k_v
      rw [h2]
      rfl
    refine (cbt rfl).trans ?_
    exact cg3 rfl rfl ev
set_option maxRecDepth 100000 in
set_option maxHeartbeats 4000000 in
theorem e32_1_1_2 (g : im_M) (a : Int32) (m : Nat) : x32_r31_1_2 g a (Int32.ofNat m) = x32_r31_1_3 g a (Int32.ofNat (m + k_v a 2 (hb (g 32 2) 1))) := by
  have e : (((g 32 2) >>> ((1 : Int32) &&& 31)) &&& (1 : Int32)) = bi (hb (g 32 2) 1) := is_has _ (by decide)
  unfold x32_r31_1_2
  cases h : Op.if_icmp.holds .eq (2 : Int32) a
  · have h2 : Op.if_icmp.holds .eq (Int32.ofNat 2) a = false := h
    have ev : Int32.ofNat m + (((g 32 2) >>> ((1 : Int32) &&& 31)) &&& (1 : Int32)) = Int32.ofNat (m + k_v a 2 (hb (g 32 2) 1)) := by
      rw [e]
      unfold k_v
      rw [h2]
      exact on_bi m _
    refine (cbf rfl).trans ?_
    exact cg3 rfl rfl ev
  · have h2 : Op.if_icmp.holds .eq (Int32.ofNat 2) a = true := h
    have ev : Int32.ofNat m = Int32.ofNat (m + k_v a 2 (hb (g 32 2) 1)) := by
      unfold k_v
      rw [h2]
      rfl
    refine (cbt rfl).trans ?_
    exact cg3 rfl rfl ev
set_option maxRecDepth 100000 in
set_option maxHeartbeats 4000000 in
theorem e32_1_1_1 (g : im_M) (a : Int32) (m : Nat) : x32_r31_1_1 g a (Int32.ofNat m) = x32_r31_1_2 g a (Int32.ofNat (m + k_v a 1 (hb (g 32 1) 1))) := by
  have e : (((g 32 1) >>> ((1 : Int32) &&& 31)) &&& (1 : Int32)) = bi (hb (g 32 1) 1) := is_has _ (by decide)
  unfold x32_r31_1_1
  cases h : Op.if_icmp.holds .eq (1 : Int32) a
  · have h2 : Op.if_icmp.holds .eq (Int32.ofNat 1) a = false := h
    have ev : Int32.ofNat m + (((g 32 1) >>> ((1 : Int32) &&& 31)) &&& (1 : Int32)) = Int32.ofNat (m + k_v a 1 (hb (g 32 1) 1)) := by
      rw [e]
      unfold k_v
      rw [h2]
      exact on_bi m _
    refine (cbf rfl).trans ?_
    exact cg3 rfl rfl ev
  · have h2 : Op.if_icmp.holds .eq (Int32.ofNat 1) a = true := h
    have ev : Int32.ofNat m = Int32.ofNat (m + k_v a 1 (hb (g 32 1) 1)) := by
      unfold k_v
      rw [h2]
      rfl
    refine (cbt rfl).trans ?_
    exact cg3 rfl rfl ev
set_option maxRecDepth 100000 in
set_option maxHeartbeats 4000000 in
theorem e32_1_1_0 (g : im_M) (a : Int32) : x32_r31_1 g a = x32_r31_1_1 g a (Int32.ofNat (0 + k_v a 0 (hb (g 32 0) 1))) := by
  have e : (((g 32 0) >>> ((1 : Int32) &&& 31)) &&& (1 : Int32)) = bi (hb (g 32 0) 1) := is_has _ (by decide)
  unfold x32_r31_1
  cases h : Op.if_icmp.holds .eq (0 : Int32) a
  · have h2 : Op.if_icmp.holds .eq (Int32.ofNat 0) a = false := h
    have ev : (0 : Int32) + (((g 32 0) >>> ((1 : Int32) &&& 31)) &&& (1 : Int32)) = Int32.ofNat (0 + k_v a 0 (hb (g 32 0) 1)) := by
      rw [e]
      unfold k_v
      rw [h2]
      exact on_bi 0 _
    refine (cbf rfl).trans ?_
    exact cg3 rfl rfl ev
  · have h2 : Op.if_icmp.holds .eq (Int32.ofNat 0) a = true := h
    have ev : (0 : Int32) = Int32.ofNat (0 + k_v a 0 (hb (g 32 0) 1)) := by
      unfold k_v
      rw [h2]
      rfl
    refine (cbt rfl).trans ?_
    exact cg3 rfl rfl ev
set_option maxRecDepth 100000 in
set_option maxHeartbeats 4000000 in
theorem e32_1_1 (g : im_M) (a : Int32) : x32_r31_1 g a = some (Int32.ofNat (c_cn 1 1 a g), g) := by
  rw [e32_1_1_0, e32_1_1_1, e32_1_1_2, e32_1_1_3]
  unfold x32_r31_1_4
  rw [show c_cn 1 1 a g = 0 + k_v a 0 (hb (g 32 0) 1) + k_v a 1 (hb (g 32 1) 1) + k_v a 2 (hb (g 32 2) 1) + k_v a 3 (hb (g 32 3) 1) from by rw [Nat.zero_add]; rfl]
set_option maxRecDepth 100000 in
set_option maxHeartbeats 4000000 in
theorem e32_1_2_3 (g : im_M) (a : Int32) (m : Nat) : x32_r31_2_3 g a (Int32.ofNat m) = x32_r31_2_4 g a (Int32.ofNat (m + k_v a 3 (hb (g 32 3) 2))) := by
  have e : (((g 32 3) >>> ((2 : Int32) &&& 31)) &&& (1 : Int32)) = bi (hb (g 32 3) 2) := is_has _ (by decide)
  unfold x32_r31_2_3
  cases h : Op.if_icmp.holds .eq (3 : Int32) a
  · have h2 : Op.if_icmp.holds .eq (Int32.ofNat 3) a = false := h
    have ev : Int32.ofNat m + (((g 32 3) >>> ((2 : Int32) &&& 31)) &&& (1 : Int32)) = Int32.ofNat (m + k_v a 3 (hb (g 32 3) 2)) := by
      rw [e]
      unfold k_v
      rw [h2]
      exact on_bi m _
    refine (cbf rfl).trans ?_
    exact cg3 rfl rfl ev
  · have h2 : Op.if_icmp.holds .eq (Int32.ofNat 3) a = true := h
    have ev : Int32.ofNat m = Int32.ofNat (m + k_v a 3 (hb (g 32 3) 2)) := by
      unfold k_v
      rw [h2]
      rfl
    refine (cbt rfl).trans ?_
    exact cg3 rfl rfl ev
set_option maxRecDepth 100000 in
set_option maxHeartbeats 4000000 in
theorem e32_1_2_2 (g : im_M) (a : Int32) (m : Nat) : x32_r31_2_2 g a (Int32.ofNat m) = x32_r31_2_3 g a (Int32.ofNat (m + k_v a 2 (hb (g 32 2) 2))) := by
  have e : (((g 32 2) >>> ((2 : Int32) &&& 31)) &&& (1 : Int32)) = bi (hb (g 32 2) 2) := is_has _ (by decide)
  unfold x32_r31_2_2
  cases h : Op.if_icmp.holds .eq (2 : Int32) a
  · have h2 : Op.if_icmp.holds .eq (Int32.ofNat 2) a = false := h
    have ev : Int32.ofNat m + (((g 32 2) >>> ((2 : Int32) &&& 31)) &&& (1 : Int32)) = Int32.ofNat (m + k_v a 2 (hb (g 32 2) 2)) := by
      rw [e]
      unfold k_v
      rw [h2]
      exact on_bi m _
    refine (cbf rfl).trans ?_
    exact cg3 rfl rfl ev
  · have h2 : Op.if_icmp.holds .eq (Int32.ofNat 2) a = true := h
    have ev : Int32.ofNat m = Int32.ofNat (m + k_v a 2 (hb (g 32 2) 2)) := by
      unfold k_v
      rw [h2]
      rfl
    refine (cbt rfl).trans ?_
    exact cg3 rfl rfl ev
set_option maxRecDepth 100000 in
set_option maxHeartbeats 4000000 in
theorem e32_1_2_1 (g : im_M) (a : Int32) (m : Nat) : x32_r31_2_1 g a (Int32.ofNat m) = x32_r31_2_2 g a (Int32.ofNat (m + k_v a 1 (hb (g 32 1) 2))) := by
  have e : (((g 32 1) >>> ((2 : Int32) &&& 31)) &&& (1 : Int32)) = bi (hb (g 32 1) 2) := is_has _ (by decide)
  unfold x32_r31_2_1
  cases h : Op.if_icmp.holds .eq (1 : Int32) a
  · have h2 : Op.if_icmp.holds .eq (Int32.ofNat 1) a = false := h
    have ev : Int32.ofNat m + (((g 32 1) >>> ((2 : Int32) &&& 31)) &&& (1 : Int32)) = Int32.ofNat (m + k_v a 1 (hb (g 32 1) 2)) := by
      rw [e]
      unfold k_v
      rw [h2]
      exact on_bi m _
    refine (cbf rfl).trans ?_
    exact cg3 rfl rfl ev
  · have h2 : Op.if_icmp.holds .eq (Int32.ofNat 1) a = true := h
    have ev : Int32.ofNat m = Int32.ofNat (m + k_v a 1 (hb (g 32 1) 2)) := by
      unfold k_v
      rw [h2]
      rfl
    refine (cbt rfl).trans ?_
    exact cg3 rfl rfl ev
set_option maxRecDepth 100000 in
set_option maxHeartbeats 4000000 in
theorem e32_1_2_0 (g : im_M) (a : Int32) : x32_r31_2 g a = x32_r31_2_1 g a (Int32.ofNat (0 + k_v a 0 (hb (g 32 0) 2))) := by
  have e : (((g 32 0) >>> ((2 : Int32) &&& 31)) &&& (1 : Int32)) = bi (hb (g 32 0) 2) := is_has _ (by decide)
  unfold x32_r31_2
  cases h : Op.if_icmp.holds .eq (0 : Int32) a
  · have h2 : Op.if_icmp.holds .eq (Int32.ofNat 0) a = false := h
    have ev : (0 : Int32) + (((g 32 0) >>> ((2 : Int32) &&& 31)) &&& (1 : Int32)) = Int32.ofNat (0 + k_v a 0 (hb (g 32 0) 2)) := by
      rw [e]
      unfold k_v
      rw [h2]
      exact on_bi 0 _
    refine (cbf rfl).trans ?_
    exact cg3 rfl rfl ev
  · have h2 : Op.if_icmp.holds .eq (Int32.ofNat 0) a = true := h
    have ev : (0 : Int32) = Int32.ofNat (0 + k_v a 0 (hb (g 32 0) 2)) := by
      unfold k_v
      rw [h2]
      rfl
    refine (cbt rfl).trans ?_
    exact cg3 rfl rfl ev
set_option maxRecDepth 100000 in
set_option maxHeartbeats 4000000 in
theorem e32_1_2 (g : im_M) (a : Int32) : x32_r31_2 g a = some (Int32.ofNat (c_cn 1 2 a g), g) := by
  rw [e32_1_2_0, e32_1_2_1, e32_1_2_2, e32_1_2_3]
  unfold x32_r31_2_4
  rw [show c_cn 1 2 a g = 0 + k_v a 0 (hb (g 32 0) 2) + k_v a 1 (hb (g 32 1) 2) + k_v a 2 (hb (g 32 2) 2) + k_v a 3 (hb (g 32 3) 2) from by rw [Nat.zero_add]; rfl]
set_option maxRecDepth 100000 in
set_option maxHeartbeats 4000000 in
theorem e33_1_1 (g : im_M) : x33_r31_r1_1 g = x33_r31_r1_2 (c_lb 1 2 2 0 g) := by
  have e : c_lb 1 2 2 0 g = (bif Op.if_icmp.holds .ne ((g 31 2) &&& (2 : Int32)) (2 : Int32) then g else (bif Op.ifCond.holds .ne ((g 31 3) &&& (2 : Int32)) then g else c_rec (im_w g 31 3 ((g 31 3) ||| (2 : Int32))) (8 : Int32) (1 : Int32) (0 : Int32))) := rfl
  rw [e]
  unfold x33_r31_r1_1
  cases Op.if_icmp.holds .ne ((g 31 2) &&& (2 : Int32)) (2 : Int32)
  · refine (cbf rfl).trans ?_
    cases Op.ifCond.holds .ne ((g 31 3) &&& (2 : Int32))
    · refine (cbf rfl).trans ?_
      refine (ob (x15_eq _ _ _ _)).trans ?_
      exact cg1 rfl
    · refine (cbt rfl).trans ?_
      exact cg1 rfl
  · refine (cbt rfl).trans ?_
    exact cg1 rfl
set_option maxRecDepth 100000 in
set_option maxHeartbeats 4000000 in
theorem e33_1_2 (g : im_M) : x33_r31_r1_2 g = x33_r31_r1_3 (c_lb 1 4 4 1 g) := by
  have e : c_lb 1 4 4 1 g = (bif Op.if_icmp.holds .ne ((g 31 2) &&& (4 : Int32)) (4 : Int32) then g else (bif Op.ifCond.holds .ne ((g 31 3) &&& (4 : Int32)) then g else c_rec (im_w g 31 3 ((g 31 3) ||| (4 : Int32))) (8 : Int32) (1 : Int32) (1 : Int32))) := rfl
  rw [e]
  unfold x33_r31_r1_2
  cases Op.if_icmp.holds .ne ((g 31 2) &&& (4 : Int32)) (4 : Int32)
  · refine (cbf rfl).trans ?_
    cases Op.ifCond.holds .ne ((g 31 3) &&& (4 : Int32))
    · refine (cbf rfl).trans ?_
      refine (ob (x15_eq _ _ _ _)).trans ?_
      exact cg1 rfl
    · refine (cbt rfl).trans ?_
      exact cg1 rfl
  · refine (cbt rfl).trans ?_
    exact cg1 rfl
set_option maxRecDepth 100000 in
set_option maxHeartbeats 4000000 in
theorem e33_1_3 (g : im_M) : x33_r31_r1_3 g = x33_r31_r1_4 (c_lb 1 3 8 2 g) := by
  have e : c_lb 1 3 8 2 g = (bif Op.if_icmp.holds .ne ((g 31 2) &&& (3 : Int32)) (3 : Int32) then g else (bif Op.ifCond.holds .ne ((g 31 3) &&& (8 : Int32)) then g else c_rec (im_w g 31 3 ((g 31 3) ||| (8 : Int32))) (8 : Int32) (1 : Int32) (2 : Int32))) := rfl
  rw [e]
  unfold x33_r31_r1_3
  cases Op.if_icmp.holds .ne ((g 31 2) &&& (3 : Int32)) (3 : Int32)
  · refine (cbf rfl).trans ?_
    cases Op.ifCond.holds .ne ((g 31 3) &&& (8 : Int32))
    · refine (cbf rfl).trans ?_
      refine (ob (x15_eq _ _ _ _)).trans ?_
      exact cg1 rfl
    · refine (cbt rfl).trans ?_
      exact cg1 rfl
  · refine (cbt rfl).trans ?_
    exact cg1 rfl
set_option maxRecDepth 100000 in
set_option maxHeartbeats 4000000 in
theorem e33_1 (g : im_M) : x33_r31_r1 g = some (0, c_lat 1 g) := by
  have h : x33_r31_r1 g = x33_r31_r1_1 (c_la 1 1 7 0 g) := by
    have e : c_la 1 1 7 0 g = (bif Op.ifCond.holds .ne ((g 31 3) &&& (1 : Int32)) then g else c_rec (im_w g 31 3 ((g 31 3) ||| (1 : Int32))) (7 : Int32) (1 : Int32) (0 : Int32)) := rfl
    rw [e]
    unfold x33_r31_r1
    cases Op.ifCond.holds .ne ((g 31 3) &&& (1 : Int32))
    · refine (cbf rfl).trans ?_
      refine (ob (x15_eq _ _ _ _)).trans ?_
      exact cg1 rfl
    · refine (cbt rfl).trans ?_
      exact cg1 rfl
  refine h.trans ?_
  rw [e33_1_1, e33_1_2, e33_1_3]
  rfl
set_option maxRecDepth 100000 in
set_option maxHeartbeats 4000000 in
theorem e31_1_0 (g : im_M) (a : Int32) : x31_r31_r1 g a = x31_r31_r1_1 (c_dd 1 0 a (g 31 2) (im_w g 31 2 0)) a (g 31 2) := by
  have e : c_dd 1 0 a (g 31 2) (im_w g 31 2 0) = (bif decide (2 ≤ c_cn 1 0 a (im_w g 31 2 0)) then (bif Op.ifCond.holds .ne ((g 31 2) &&& (1 : Int32)) then im_w (im_w g 31 2 0) 31 2 (((im_w g 31 2 0) 31 2) ||| (1 : Int32)) else c_rec (im_w (im_w g 31 2 0) 31 2 (((im_w g 31 2 0) 31 2) ||| (1 : Int32))) (6 : Int32) (1 : Int32) (0 : Int32)) else (im_w g 31 2 0)) := rfl
  rw [e]
  unfold x31_r31_r1
  refine (ob (e32_1_0 _ _)).trans ?_
  have kd := k_dl _ (k_cn_le a (hb ((im_w g 31 2 0) 32 0) 0) (hb ((im_w g 31 2 0) 32 1) 0) (hb ((im_w g 31 2 0) 32 2) 0) (hb ((im_w g 31 2 0) 32 3) 0))
  have kd2 : Op.if_icmp.holds .lt (Int32.ofNat (c_cn 1 0 a (im_w g 31 2 0))) (2 : Int32) = !(decide (2 ≤ c_cn 1 0 a (im_w g 31 2 0))) := kd
  cases hD : decide (2 ≤ c_cn 1 0 a (im_w g 31 2 0))
  · refine (cbt (kd2.trans (by rw [hD]; rfl))).trans ?_
    exact cg3 rfl rfl rfl
  · refine (cbf (kd2.trans (by rw [hD]; rfl))).trans ?_
    cases Op.ifCond.holds .ne ((g 31 2) &&& (1 : Int32))
    · refine (cbf rfl).trans ?_
      refine (ob (x15_eq _ _ _ _)).trans ?_
      exact cg3 rfl rfl rfl
    · refine (cbt rfl).trans ?_
      exact cg3 rfl rfl rfl
set_option maxRecDepth 100000 in
set_option maxHeartbeats 4000000 in
theorem e31_1_1 (g : im_M) (a y : Int32) : x31_r31_r1_1 g a y = x31_r31_r1_2 (c_dd 1 1 a y g) a y := by
  have e : c_dd 1 1 a y g = (bif decide (2 ≤ c_cn 1 1 a g) then (bif Op.ifCond.holds .ne (y &&& (2 : Int32)) then im_w g 31 2 ((g 31 2) ||| (2 : Int32)) else c_rec (im_w g 31 2 ((g 31 2) ||| (2 : Int32))) (6 : Int32) (1 : Int32) (1 : Int32)) else g) := rfl
  rw [e]
  unfold x31_r31_r1_1
  refine (ob (e32_1_1 _ _)).trans ?_
  have kd := k_dl _ (k_cn_le a (hb (g 32 0) 1) (hb (g 32 1) 1) (hb (g 32 2) 1) (hb (g 32 3) 1))
  have kd2 : Op.if_icmp.holds .lt (Int32.ofNat (c_cn 1 1 a g)) (2 : Int32) = !(decide (2 ≤ c_cn 1 1 a g)) := kd
  cases hD : decide (2 ≤ c_cn 1 1 a g)
  · refine (cbt (kd2.trans (by rw [hD]; rfl))).trans ?_
    exact cg3 rfl rfl rfl
  · refine (cbf (kd2.trans (by rw [hD]; rfl))).trans ?_
    cases Op.ifCond.holds .ne (y &&& (2 : Int32))
    · refine (cbf rfl).trans ?_
      refine (ob (x15_eq _ _ _ _)).trans ?_
      exact cg3 rfl rfl rfl
    · refine (cbt rfl).trans ?_
      exact cg3 rfl rfl rfl
set_option maxRecDepth 100000 in
set_option maxHeartbeats 4000000 in
theorem e31_1_2 (g : im_M) (a y : Int32) : x31_r31_r1_2 g a y = x31_r31_r1_3 (c_dd 1 2 a y g) a y := by
  have e : c_dd 1 2 a y g = (bif decide (2 ≤ c_cn 1 2 a g) then (bif Op.ifCond.holds .ne (y &&& (4 : Int32)) then im_w g 31 2 ((g 31 2) ||| (4 : Int32)) else c_rec (im_w g 31 2 ((g 31 2) ||| (4 : Int32))) (6 : Int32) (1 : Int32) (2 : Int32)) else g) := rfl
  rw [e]
  unfold x31_r31_r1_2
  refine (ob (e32_1_2 _ _)).trans ?_
  have kd := k_dl _ (k_cn_le a (hb (g 32 0) 2) (hb (g 32 1) 2) (hb (g 32 2) 2) (hb (g 32 3) 2))
  have kd2 : Op.if_icmp.holds .lt (Int32.ofNat (c_cn 1 2 a g)) (2 : Int32) = !(decide (2 ≤ c_cn 1 2 a g)) := kd
  cases hD : decide (2 ≤ c_cn 1 2 a g)
  · refine (cbt (kd2.trans (by rw [hD]; rfl))).trans ?_
    exact cg3 rfl rfl rfl
  · refine (cbf (kd2.trans (by rw [hD]; rfl))).trans ?_
    cases Op.ifCond.holds .ne (y &&& (4 : Int32))
    · refine (cbf rfl).trans ?_
      refine (ob (x15_eq _ _ _ _)).trans ?_
      exact cg3 rfl rfl rfl
    · refine (cbt rfl).trans ?_
      exact cg3 rfl rfl rfl
set_option maxRecDepth 100000 in
set_option maxHeartbeats 4000000 in
theorem e31_1 (g : im_M) (a : Int32) : x31_r31_r1 g a = some (0, c_dec 1 a g) := by
  refine ((e31_1_0 g a).trans ((e31_1_1 _ a _).trans (e31_1_2 _ a _))).trans ?_
  show x31_r31_r1_3 (c_dec0 1 a (g 31 2) (im_w g 31 2 0)) a (g 31 2) = _
  have e : c_dec 1 a g = (bif Op.ifCond.holds .eq (c_dec0 1 a (g 31 2) (im_w g 31 2 0) 31 2) then c_dec0 1 a (g 31 2) (im_w g 31 2 0) else c_lat 1 (c_dec0 1 a (g 31 2) (im_w g 31 2 0))) := rfl
  rw [e]
  generalize c_dec0 1 a (g 31 2) (im_w g 31 2 0) = G
  unfold x31_r31_r1_3
  cases Op.ifCond.holds .eq (G 31 2)
  · refine (cbf rfl).trans ?_
    refine (ob (e33_1 G)).trans ?_
    rfl
  · exact (cbt rfl).trans rfl
set_option maxRecDepth 100000 in
set_option maxHeartbeats 4000000 in
theorem e32_2_0_3 (g : im_M) (a : Int32) (m : Nat) : x32_r33_0_3 g a (Int32.ofNat m) = x32_r33_0_4 g a (Int32.ofNat (m + k_v a 3 (hb (g 34 3) 0))) := by
  have e : (((g 34 3) >>> ((0 : Int32) &&& 31)) &&& (1 : Int32)) = bi (hb (g 34 3) 0) := is_has _ (by decide)
  unfold x32_r33_0_3
  cases h : Op.if_icmp.holds .eq (3 : Int32) a
  · have h2 : Op.if_icmp.holds .eq (Int32.ofNat 3) a = false := h
    have ev : Int32.ofNat m + (((g 34 3) >>> ((0 : Int32) &&& 31)) &&& (1 : Int32)) = Int32.ofNat (m + k_v a 3 (hb (g 34 3) 0)) := by
      rw [e]
      unfold k_v
      rw [h2]
      exact on_bi m _
    refine (cbf rfl).trans ?_
    exact cg3 rfl rfl ev
  · have h2 : Op.if_icmp.holds .eq (Int32.ofNat 3) a = true := h
    have ev : Int32.ofNat m = Int32.ofNat (m + k_v a 3 (hb (g 34 3) 0)) := by
      unfold k_v
      rw [h2]
      rfl
    refine (cbt rfl).trans ?_
    exact cg3 rfl rfl ev
set_option maxRecDepth 100000 in
set_option maxHeartbeats 4000000 in
theorem e32_2_0_2 (g : im_M) (a : Int32) (m : Nat) : x32_r33_0_2 g a (Int32.ofNat m) = x32_r33_0_3 g a (Int32.ofNat (m + k_v a 2 (hb (g 34 2) 0))) := by
  have e : (((g 34 2) >>> ((0 : Int32) &&& 31)) &&& (1 : Int32)) = bi (hb (g 34 2) 0) := is_has _ (by decide)
  unfold x32_r33_0_2
  cases h : Op.if_icmp.holds .eq (2 : Int32) a
  · have h2 : Op.if_icmp.holds .eq (Int32.ofNat 2) a = false := h
    have ev : Int32.ofNat m + (((g 34 2) >>> ((0 : Int32) &&& 31)) &&& (1 : Int32)) = Int32.ofNat (m + k_v a 2 (hb (g 34 2) 0)) := by
      rw [e]
      unfold k_v
      rw [h2]
      exact on_bi m _
    refine (cbf rfl).trans ?_
    exact cg3 rfl rfl ev
  · have h2 : Op.if_icmp.holds .eq (Int32.ofNat 2) a = true := h
    have ev : Int32.ofNat m = Int32.ofNat (m + k_v a 2 (hb (g 34 2) 0)) := by
      unfold k_v
      rw [h2]
      rfl
    refine (cbt rfl).trans ?_
    exact cg3 rfl rfl ev
set_option maxRecDepth 100000 in
set_option maxHeartbeats 4000000 in
theorem e32_2_0_1 (g : im_M) (a : Int32) (m : Nat) : x32_r33_0_1 g a (Int32.ofNat m) = x32_r33_0_2 g a (Int32.ofNat (m + k_v a 1 (hb (g 34 1) 0))) := by
  have e : (((g 34 1) >>> ((0 : Int32) &&& 31)) &&& (1 : Int32)) = bi (hb (g 34 1) 0) := is_has _ (by decide)
  unfold x32_r33_0_1
  cases h : Op.if_icmp.holds .eq (1 : Int32) a
  · have h2 : Op.if_icmp.holds .eq (Int32.ofNat 1) a = false := h
    have ev : Int32.ofNat m + (((g 34 1) >>> ((0 : Int32) &&& 31)) &&& (1 : Int32)) = Int32.ofNat (m + k_v a 1 (hb (g 34 1) 0)) := by
      rw [e]
      unfold k_v
      rw [h2]
      exact on_bi m _
    refine (cbf rfl).trans ?_
    exact cg3 rfl rfl ev
  · have h2 : Op.if_icmp.holds .eq (Int32.ofNat 1) a = true := h
    have ev : Int32.ofNat m = Int32.ofNat (m + k_v a 1 (hb (g 34 1) 0)) := by
      unfold k_v
      rw [h2]
      rfl
    refine (cbt rfl).trans ?_
    exact cg3 rfl rfl ev
set_option maxRecDepth 100000 in
set_option maxHeartbeats 4000000 in
theorem e32_2_0_0 (g : im_M) (a : Int32) : x32_r33_0 g a = x32_r33_0_1 g a (Int32.ofNat (0 + k_v a 0 (hb (g 34 0) 0))) := by
  have e : (((g 34 0) >>> ((0 : Int32) &&& 31)) &&& (1 : Int32)) = bi (hb (g 34 0) 0) := is_has _ (by decide)
  unfold x32_r33_0
  cases h : Op.if_icmp.holds .eq (0 : Int32) a
  · have h2 : Op.if_icmp.holds .eq (Int32.ofNat 0) a = false := h
    have ev : (0 : Int32) + (((g 34 0) >>> ((0 : Int32) &&& 31)) &&& (1 : Int32)) = Int32.ofNat (0 + k_v a 0 (hb (g 34 0) 0)) := by
      rw [e]
      unfold k_v
      rw [h2]
      exact on_bi 0 _
    refine (cbf rfl).trans ?_
    exact cg3 rfl rfl ev
  · have h2 : Op.if_icmp.holds .eq (Int32.ofNat 0) a = true := h
    have ev : (0 : Int32) = Int32.ofNat (0 + k_v a 0 (hb (g 34 0) 0)) := by
      unfold k_v
      rw [h2]
      rfl
    refine (cbt rfl).trans ?_
    exact cg3 rfl rfl ev
set_option maxRecDepth 100000 in
set_option maxHeartbeats 4000000 in
theorem e32_2_0 (g : im_M) (a : Int32) : x32_r33_0 g a = some (Int32.ofNat (c_cn 2 0 a g), g) := by
  rw [e32_2_0_0, e32_2_0_1, e32_2_0_2, e32_2_0_3]
  unfold x32_r33_0_4
  rw [show c_cn 2 0 a g = 0 + k_v a 0 (hb (g 34 0) 0) + k_v a 1 (hb (g 34 1) 0) + k_v a 2 (hb (g 34 2) 0) + k_v a 3 (hb (g 34 3) 0) from by rw [Nat.zero_add]; rfl]
set_option maxRecDepth 100000 in
set_option maxHeartbeats 4000000 in
theorem e32_2_1_3 (g : im_M) (a : Int32) (m : Nat) : x32_r33_1_3 g a (Int32.ofNat m) = x32_r33_1_4 g a (Int32.ofNat (m + k_v a 3 (hb (g 34 3) 1))) := by
  have e : (((g 34 3) >>> ((1 : Int32) &&& 31)) &&& (1 : Int32)) = bi (hb (g 34 3) 1) := is_has _ (by decide)
  unfold x32_r33_1_3
  cases h : Op.if_icmp.holds .eq (3 : Int32) a
  · have h2 : Op.if_icmp.holds .eq (Int32.ofNat 3) a = false := h
    have ev : Int32.ofNat m + (((g 34 3) >>> ((1 : Int32) &&& 31)) &&& (1 : Int32)) = Int32.ofNat (m + k_v a 3 (hb (g 34 3) 1)) := by
      rw [e]
      unfold k_v
      rw [h2]
      exact on_bi m _
    refine (cbf rfl).trans ?_
    exact cg3 rfl rfl ev
  · have h2 : Op.if_icmp.holds .eq (Int32.ofNat 3) a = true := h
    have ev : Int32.ofNat m = Int32.ofNat (m + k_v a 3 (hb (g 34 3) 1)) := by
      unfold k_v
      rw [h2]
      rfl
    refine (cbt rfl).trans ?_
    exact cg3 rfl rfl ev
set_option maxRecDepth 100000 in
set_option maxHeartbeats 4000000 in
theorem e32_2_1_2 (g : im_M) (a : Int32) (m : Nat) : x32_r33_1_2 g a (Int32.ofNat m) = x32_r33_1_3 g a (Int32.ofNat (m + k_v a 2 (hb (g 34 2) 1))) := by
  have e : (((g 34 2) >>> ((1 : Int32) &&& 31)) &&& (1 : Int32)) = bi (hb (g 34 2) 1) := is_has _ (by decide)
  unfold x32_r33_1_2
  cases h : Op.if_icmp.holds .eq (2 : Int32) a
  · have h2 : Op.if_icmp.holds .eq (Int32.ofNat 2) a = false := h
    have ev : Int32.ofNat m + (((g 34 2) >>> ((1 : Int32) &&& 31)) &&& (1 : Int32)) = Int32.ofNat (m + k_v a 2 (hb (g 34 2) 1)) := by
      rw [e]
      unfold k_v
      rw [h2]
      exact on_bi m _
    refine (cbf rfl).trans ?_
    exact cg3 rfl rfl ev
  · have h2 : Op.if_icmp.holds .eq (Int32.ofNat 2) a = true := h
    have ev : Int32.ofNat m = Int32.ofNat (m + k_v a 2 (hb (g 34 2) 1)) := by
      unfold k_v
      rw [h2]
      rfl
    refine (cbt rfl).trans ?_
    exact cg3 rfl rfl ev
set_option maxRecDepth 100000 in
set_option maxHeartbeats 4000000 in
theorem e32_2_1_1 (g : im_M) (a : Int32) (m : Nat) : x32_r33_1_1 g a (Int32.ofNat m) = x32_r33_1_2 g a (Int32.ofNat (m + k_v a 1 (hb (g 34 1) 1))) := by
  have e : (((g 34 1) >>> ((1 : Int32) &&& 31)) &&& (1 : Int32)) = bi (hb (g 34 1) 1) := is_has _ (by decide)
  unfold x32_r33_1_1
  cases h : Op.if_icmp.holds .eq (1 : Int32) a
  · have h2 : Op.if_icmp.holds .eq (Int32.ofNat 1) a = false := h
    have ev : Int32.ofNat m + (((g 34 1) >>> ((1 : Int32) &&& 31)) &&& (1 : Int32)) = Int32.ofNat (m + k_v a 1 (hb (g 34 1) 1)) := by
      rw [e]
      unfold k_v
      rw [h2]
      exact on_bi m _
    refine (cbf rfl).trans ?_
    exact cg3 rfl rfl ev
  · have h2 : Op.if_icmp.holds .eq (Int32.ofNat 1) a = true := h
    have ev : Int32.ofNat m = Int32.ofNat (m + k_v a 1 (hb (g 34 1) 1)) := by
      unfold k_v
      rw [h2]
      rfl
    refine (cbt rfl).trans ?_
    exact cg3 rfl rfl ev
set_option maxRecDepth 100000 in
set_option maxHeartbeats 4000000 in
theorem e32_2_1_0 (g : im_M) (a : Int32) : x32_r33_1 g a = x32_r33_1_1 g a (Int32.ofNat (0 + k_v a 0 (hb (g 34 0) 1))) := by
  have e : (((g 34 0) >>> ((1 : Int32) &&& 31)) &&& (1 : Int32)) = bi (hb (g 34 0) 1) := is_has _ (by decide)
  unfold x32_r33_1
  cases h : Op.if_icmp.holds .eq (0 : Int32) a
  · have h2 : Op.if_icmp.holds .eq (Int32.ofNat 0) a = false := h
    have ev : (0 : Int32) + (((g 34 0) >>> ((1 : Int32) &&& 31)) &&& (1 : Int32)) = Int32.ofNat (0 + k_v a 0 (hb (g 34 0) 1)) := by
      rw [e]
      unfold k_v
      rw [h2]
      exact on_bi 0 _
    refine (cbf rfl).trans ?_
    exact cg3 rfl rfl ev
  · have h2 : Op.if_icmp.holds .eq (Int32.ofNat 0) a = true := h
    have ev : (0 : Int32) = Int32.ofNat (0 + k_v a 0 (hb (g 34 0) 1)) := by
      unfold k_v
      rw [h2]
      rfl
    refine (cbt rfl).trans ?_
    exact cg3 rfl rfl ev
set_option maxRecDepth 100000 in
set_option maxHeartbeats 4000000 in
theorem e32_2_1 (g : im_M) (a : Int32) : x32_r33_1 g a = some (Int32.ofNat (c_cn 2 1 a g), g) := by
  rw [e32_2_1_0, e32_2_1_1, e32_2_1_2, e32_2_1_3]
  unfold x32_r33_1_4
  rw [show c_cn 2 1 a g = 0 + k_v a 0 (hb (g 34 0) 1) + k_v a 1 (hb (g 34 1) 1) + k_v a 2 (hb (g 34 2) 1) + k_v a 3 (hb (g 34 3) 1) from by rw [Nat.zero_add]; rfl]
set_option maxRecDepth 100000 in
set_option maxHeartbeats 4000000 in
theorem e32_2_2_3 (g : im_M) (a : Int32) (m : Nat) : x32_r33_2_3 g a (Int32.ofNat m) = x32_r33_2_4 g a (Int32.ofNat (m + k_v a 3 (hb (g 34 3) 2))) := by
  have e : (((g 34 3) >>> ((2 : Int32) &&& 31)) &&& (1 : Int32)) = bi (hb (g 34 3) 2) := is_has _ (by decide)
  unfold x32_r33_2_3
  cases h : Op.if_icmp.holds .eq (3 : Int32) a
  · have h2 : Op.if_icmp.holds .eq (Int32.ofNat 3) a = false := h
    have ev : Int32.ofNat m + (((g 34 3) >>> ((2 : Int32) &&& 31)) &&& (1 : Int32)) = Int32.ofNat (m + k_v a 3 (hb (g 34 3) 2)) := by
      rw [e]
      unfold k_v
      rw [h2]
      exact on_bi m _
    refine (cbf rfl).trans ?_
    exact cg3 rfl rfl ev
  · have h2 : Op.if_icmp.holds .eq (Int32.ofNat 3) a = true := h
    have ev : Int32.ofNat m = Int32.ofNat (m + k_v a 3 (hb (g 34 3) 2)) := by
      unfold k_v
      rw [h2]
      rfl
    refine (cbt rfl).trans ?_
    exact cg3 rfl rfl ev
set_option maxRecDepth 100000 in
set_option maxHeartbeats 4000000 in
theorem e32_2_2_2 (g : im_M) (a : Int32) (m : Nat) : x32_r33_2_2 g a (Int32.ofNat m) = x32_r33_2_3 g a (Int32.ofNat (m + k_v a 2 (hb (g 34 2) 2))) := by
  have e : (((g 34 2) >>> ((2 : Int32) &&& 31)) &&& (1 : Int32)) = bi (hb (g 34 2) 2) := is_has _ (by decide)
  unfold x32_r33_2_2
  cases h : Op.if_icmp.holds .eq (2 : Int32) a
  · have h2 : Op.if_icmp.holds .eq (Int32.ofNat 2) a = false := h
    have ev : Int32.ofNat m + (((g 34 2) >>> ((2 : Int32) &&& 31)) &&& (1 : Int32)) = Int32.ofNat (m + k_v a 2 (hb (g 34 2) 2)) := by
      rw [e]
      unfold k_v
      rw [h2]
      exact on_bi m _
    refine (cbf rfl).trans ?_
    exact cg3 rfl rfl ev
  · have h2 : Op.if_icmp.holds .eq (Int32.ofNat 2) a = true := h
    have ev : Int32.ofNat m = Int32.ofNat (m + k_v a 2 (hb (g 34 2) 2)) := by
      unfold k_v
      rw [h2]
      rfl
    refine (cbt rfl).trans ?_
    exact cg3 rfl rfl ev
set_option maxRecDepth 100000 in
set_option maxHeartbeats 4000000 in
theorem e32_2_2_1 (g : im_M) (a : Int32) (m : Nat) : x32_r33_2_1 g a (Int32.ofNat m) = x32_r33_2_2 g a (Int32.ofNat (m + k_v a 1 (hb (g 34 1) 2))) := by
  have e : (((g 34 1) >>> ((2 : Int32) &&& 31)) &&& (1 : Int32)) = bi (hb (g 34 1) 2) := is_has _ (by decide)
  unfold x32_r33_2_1
  cases h : Op.if_icmp.holds .eq (1 : Int32) a
  · have h2 : Op.if_icmp.holds .eq (Int32.ofNat 1) a = false := h
    have ev : Int32.ofNat m + (((g 34 1) >>> ((2 : Int32) &&& 31)) &&& (1 : Int32)) = Int32.ofNat (m + k_v a 1 (hb (g 34 1) 2)) := by
      rw [e]
      unfold k_v
      rw [h2]
      exact on_bi m _
    refine (cbf rfl).trans ?_
    exact cg3 rfl rfl ev
  · have h2 : Op.if_icmp.holds .eq (Int32.ofNat 1) a = true := h
    have ev : Int32.ofNat m = Int32.ofNat (m + k_v a 1 (hb (g 34 1) 2)) := by
      unfold k_v
      rw [h2]
      rfl
    refine (cbt rfl).trans ?_
    exact cg3 rfl rfl ev
set_option maxRecDepth 100000 in
set_option maxHeartbeats 4000000 in
theorem e32_2_2_0 (g : im_M) (a : Int32) : x32_r33_2 g a = x32_r33_2_1 g a (Int32.ofNat (0 + k_v a 0 (hb (g 34 0) 2))) := by
  have e : (((g 34 0) >>> ((2 : Int32) &&& 31)) &&& (1 : Int32)) = bi (hb (g 34 0) 2) := is_has _ (by decide)
  unfold x32_r33_2
  cases h : Op.if_icmp.holds .eq (0 : Int32) a
  · have h2 : Op.if_icmp.holds .eq (Int32.ofNat 0) a = false := h
    have ev : (0 : Int32) + (((g 34 0) >>> ((2 : Int32) &&& 31)) &&& (1 : Int32)) = Int32.ofNat (0 + k_v a 0 (hb (g 34 0) 2)) := by
      rw [e]
      unfold k_v
      rw [h2]
      exact on_bi 0 _
    refine (cbf rfl).trans ?_
    exact cg3 rfl rfl ev
  · have h2 : Op.if_icmp.holds .eq (Int32.ofNat 0) a = true := h
    have ev : (0 : Int32) = Int32.ofNat (0 + k_v a 0 (hb (g 34 0) 2)) := by
      unfold k_v
      rw [h2]
      rfl
    refine (cbt rfl).trans ?_
    exact cg3 rfl rfl ev
set_option maxRecDepth 100000 in
set_option maxHeartbeats 4000000 in
theorem e32_2_2 (g : im_M) (a : Int32) : x32_r33_2 g a = some (Int32.ofNat (c_cn 2 2 a g), g) := by
  rw [e32_2_2_0, e32_2_2_1, e32_2_2_2, e32_2_2_3]
  unfold x32_r33_2_4
  rw [show c_cn 2 2 a g = 0 + k_v a 0 (hb (g 34 0) 2) + k_v a 1 (hb (g 34 1) 2) + k_v a 2 (hb (g 34 2) 2) + k_v a 3 (hb (g 34 3) 2) from by rw [Nat.zero_add]; rfl]
set_option maxRecDepth 100000 in
set_option maxHeartbeats 4000000 in
theorem e33_2_1 (g : im_M) : x33_r33_r1_1 g = x33_r33_r1_2 (c_lb 2 2 2 0 g) := by
  have e : c_lb 2 2 2 0 g = (bif Op.if_icmp.holds .ne ((g 33 2) &&& (2 : Int32)) (2 : Int32) then g else (bif Op.ifCond.holds .ne ((g 33 3) &&& (2 : Int32)) then g else c_rec (im_w g 33 3 ((g 33 3) ||| (2 : Int32))) (8 : Int32) (2 : Int32) (0 : Int32))) := rfl
  rw [e]
  unfold x33_r33_r1_1
  cases Op.if_icmp.holds .ne ((g 33 2) &&& (2 : Int32)) (2 : Int32)
  · refine (cbf rfl).trans ?_
    cases Op.ifCond.holds .ne ((g 33 3) &&& (2 : Int32))
    · refine (cbf rfl).trans ?_
      refine (ob (x15_eq _ _ _ _)).trans ?_
      exact cg1 rfl
    · refine (cbt rfl).trans ?_
      exact cg1 rfl
  · refine (cbt rfl).trans ?_
    exact cg1 rfl
set_option maxRecDepth 100000 in
set_option maxHeartbeats 4000000 in
theorem e33_2_2 (g : im_M) : x33_r33_r1_2 g = x33_r33_r1_3 (c_lb 2 4 4 1 g) := by
  have e : c_lb 2 4 4 1 g = (bif Op.if_icmp.holds .ne ((g 33 2) &&& (4 : Int32)) (4 : Int32) then g else (bif Op.ifCond.holds .ne ((g 33 3) &&& (4 : Int32)) then g else c_rec (im_w g 33 3 ((g 33 3) ||| (4 : Int32))) (8 : Int32) (2 : Int32) (1 : Int32))) := rfl
  rw [e]
  unfold x33_r33_r1_2
  cases Op.if_icmp.holds .ne ((g 33 2) &&& (4 : Int32)) (4 : Int32)
  · refine (cbf rfl).trans ?_
    cases Op.ifCond.holds .ne ((g 33 3) &&& (4 : Int32))
    · refine (cbf rfl).trans ?_
      refine (ob (x15_eq _ _ _ _)).trans ?_
      exact cg1 rfl
    · refine (cbt rfl).trans ?_
      exact cg1 rfl
  · refine (cbt rfl).trans ?_
    exact cg1 rfl
set_option maxRecDepth 100000 in
set_option maxHeartbeats 4000000 in
theorem e33_2_3 (g : im_M) : x33_r33_r1_3 g = x33_r33_r1_4 (c_lb 2 3 8 2 g) := by
  have e : c_lb 2 3 8 2 g = (bif Op.if_icmp.holds .ne ((g 33 2) &&& (3 : Int32)) (3 : Int32) then g else (bif Op.ifCond.holds .ne ((g 33 3) &&& (8 : Int32)) then g else c_rec (im_w g 33 3 ((g 33 3) ||| (8 : Int32))) (8 : Int32) (2 : Int32) (2 : Int32))) := rfl
  rw [e]
  unfold x33_r33_r1_3
  cases Op.if_icmp.holds .ne ((g 33 2) &&& (3 : Int32)) (3 : Int32)
  · refine (cbf rfl).trans ?_
    cases Op.ifCond.holds .ne ((g 33 3) &&& (8 : Int32))
    · refine (cbf rfl).trans ?_
      refine (ob (x15_eq _ _ _ _)).trans ?_
      exact cg1 rfl
    · refine (cbt rfl).trans ?_
      exact cg1 rfl
  · refine (cbt rfl).trans ?_
    exact cg1 rfl
set_option maxRecDepth 100000 in
set_option maxHeartbeats 4000000 in
theorem e33_2 (g : im_M) : x33_r33_r1 g = some (0, c_lat 2 g) := by
  have h : x33_r33_r1 g = x33_r33_r1_1 (c_la 2 1 7 0 g) := by
    have e : c_la 2 1 7 0 g = (bif Op.ifCond.holds .ne ((g 33 3) &&& (1 : Int32)) then g else c_rec (im_w g 33 3 ((g 33 3) ||| (1 : Int32))) (7 : Int32) (2 : Int32) (0 : Int32)) := rfl
    rw [e]
    unfold x33_r33_r1
    cases Op.ifCond.holds .ne ((g 33 3) &&& (1 : Int32))
    · refine (cbf rfl).trans ?_
      refine (ob (x15_eq _ _ _ _)).trans ?_
      exact cg1 rfl
    · refine (cbt rfl).trans ?_
      exact cg1 rfl
  refine h.trans ?_
  rw [e33_2_1, e33_2_2, e33_2_3]
  rfl
set_option maxRecDepth 100000 in
set_option maxHeartbeats 4000000 in
theorem e31_2_0 (g : im_M) (a : Int32) : x31_r33_r1 g a = x31_r33_r1_1 (c_dd 2 0 a (g 33 2) (im_w g 33 2 0)) a (g 33 2) := by
  have e : c_dd 2 0 a (g 33 2) (im_w g 33 2 0) = (bif decide (2 ≤ c_cn 2 0 a (im_w g 33 2 0)) then (bif Op.ifCond.holds .ne ((g 33 2) &&& (1 : Int32)) then im_w (im_w g 33 2 0) 33 2 (((im_w g 33 2 0) 33 2) ||| (1 : Int32)) else c_rec (im_w (im_w g 33 2 0) 33 2 (((im_w g 33 2 0) 33 2) ||| (1 : Int32))) (6 : Int32) (2 : Int32) (0 : Int32)) else (im_w g 33 2 0)) := rfl
  rw [e]
  unfold x31_r33_r1
  refine (ob (e32_2_0 _ _)).trans ?_
  have kd := k_dl _ (k_cn_le a (hb ((im_w g 33 2 0) 34 0) 0) (hb ((im_w g 33 2 0) 34 1) 0) (hb ((im_w g 33 2 0) 34 2) 0) (hb ((im_w g 33 2 0) 34 3) 0))
  have kd2 : Op.if_icmp.holds .lt (Int32.ofNat (c_cn 2 0 a (im_w g 33 2 0))) (2 : Int32) = !(decide (2 ≤ c_cn 2 0 a (im_w g 33 2 0))) := kd
  cases hD : decide (2 ≤ c_cn 2 0 a (im_w g 33 2 0))
  · refine (cbt (kd2.trans (by rw [hD]; rfl))).trans ?_
    exact cg3 rfl rfl rfl
  · refine (cbf (kd2.trans (by rw [hD]; rfl))).trans ?_
    cases Op.ifCond.holds .ne ((g 33 2) &&& (1 : Int32))
    · refine (cbf rfl).trans ?_
      refine (ob (x15_eq _ _ _ _)).trans ?_
      exact cg3 rfl rfl rfl
    · refine (cbt rfl).trans ?_
      exact cg3 rfl rfl rfl
set_option maxRecDepth 100000 in
set_option maxHeartbeats 4000000 in
theorem e31_2_1 (g : im_M) (a y : Int32) : x31_r33_r1_1 g a y = x31_r33_r1_2 (c_dd 2 1 a y g) a y := by
  have e : c_dd 2 1 a y g = (bif decide (2 ≤ c_cn 2 1 a g) then (bif Op.ifCond.holds .ne (y &&& (2 : Int32)) then im_w g 33 2 ((g 33 2) ||| (2 : Int32)) else c_rec (im_w g 33 2 ((g 33 2) ||| (2 : Int32))) (6 : Int32) (2 : Int32) (1 : Int32)) else g) := rfl
  rw [e]
  unfold x31_r33_r1_1
  refine (ob (e32_2_1 _ _)).trans ?_
  have kd := k_dl _ (k_cn_le a (hb (g 34 0) 1) (hb (g 34 1) 1) (hb (g 34 2) 1) (hb (g 34 3) 1))
  have kd2 : Op.if_icmp.holds .lt (Int32.ofNat (c_cn 2 1 a g)) (2 : Int32) = !(decide (2 ≤ c_cn 2 1 a g)) := kd
  cases hD : decide (2 ≤ c_cn 2 1 a g)
  · refine (cbt (kd2.trans (by rw [hD]; rfl))).trans ?_
    exact cg3 rfl rfl rfl
  · refine (cbf (kd2.trans (by rw [hD]; rfl))).trans ?_
    cases Op.ifCond.holds .ne (y &&& (2 : Int32))
    · refine (cbf rfl).trans ?_
      refine (ob (x15_eq _ _ _ _)).trans ?_
      exact cg3 rfl rfl rfl
    · refine (cbt rfl).trans ?_
      exact cg3 rfl rfl rfl
set_option maxRecDepth 100000 in
set_option maxHeartbeats 4000000 in
theorem e31_2_2 (g : im_M) (a y : Int32) : x31_r33_r1_2 g a y = x31_r33_r1_3 (c_dd 2 2 a y g) a y := by
  have e : c_dd 2 2 a y g = (bif decide (2 ≤ c_cn 2 2 a g) then (bif Op.ifCond.holds .ne (y &&& (4 : Int32)) then im_w g 33 2 ((g 33 2) ||| (4 : Int32)) else c_rec (im_w g 33 2 ((g 33 2) ||| (4 : Int32))) (6 : Int32) (2 : Int32) (2 : Int32)) else g) := rfl
  rw [e]
  unfold x31_r33_r1_2
  refine (ob (e32_2_2 _ _)).trans ?_
  have kd := k_dl _ (k_cn_le a (hb (g 34 0) 2) (hb (g 34 1) 2) (hb (g 34 2) 2) (hb (g 34 3) 2))
  have kd2 : Op.if_icmp.holds .lt (Int32.ofNat (c_cn 2 2 a g)) (2 : Int32) = !(decide (2 ≤ c_cn 2 2 a g)) := kd
  cases hD : decide (2 ≤ c_cn 2 2 a g)
  · refine (cbt (kd2.trans (by rw [hD]; rfl))).trans ?_
    exact cg3 rfl rfl rfl
  · refine (cbf (kd2.trans (by rw [hD]; rfl))).trans ?_
    cases Op.ifCond.holds .ne (y &&& (4 : Int32))
    · refine (cbf rfl).trans ?_
      refine (ob (x15_eq _ _ _ _)).trans ?_
      exact cg3 rfl rfl rfl
    · refine (cbt rfl).trans ?_
      exact cg3 rfl rfl rfl
set_option maxRecDepth 100000 in
set_option maxHeartbeats 4000000 in
theorem e31_2 (g : im_M) (a : Int32) : x31_r33_r1 g a = some (0, c_dec 2 a g) := by
  refine ((e31_2_0 g a).trans ((e31_2_1 _ a _).trans (e31_2_2 _ a _))).trans ?_
  show x31_r33_r1_3 (c_dec0 2 a (g 33 2) (im_w g 33 2 0)) a (g 33 2) = _
  have e : c_dec 2 a g = (bif Op.ifCond.holds .eq (c_dec0 2 a (g 33 2) (im_w g 33 2 0) 33 2) then c_dec0 2 a (g 33 2) (im_w g 33 2 0) else c_lat 2 (c_dec0 2 a (g 33 2) (im_w g 33 2 0))) := rfl
  rw [e]
  generalize c_dec0 2 a (g 33 2) (im_w g 33 2 0) = G
  unfold x31_r33_r1_3
  cases Op.ifCond.holds .eq (G 33 2)
  · refine (cbf rfl).trans ?_
    refine (ob (e33_2 G)).trans ?_
    rfl
  · exact (cbt rfl).trans rfl
set_option maxRecDepth 100000 in
set_option maxHeartbeats 4000000 in
theorem e32_3_0_3 (g : im_M) (a : Int32) (m : Nat) : x32_r35_0_3 g a (Int32.ofNat m) = x32_r35_0_4 g a (Int32.ofNat (m + k_v a 3 (hb (g 36 3) 0))) := by
  have e : (((g 36 3) >>> ((0 : Int32) &&& 31)) &&& (1 : Int32)) = bi (hb (g 36 3) 0) := is_has _ (by decide)
  unfold x32_r35_0_3
  cases h : Op.if_icmp.holds .eq (3 : Int32) a
  · have h2 : Op.if_icmp.holds .eq (Int32.ofNat 3) a = false := h
    have ev : Int32.ofNat m + (((g 36 3) >>> ((0 : Int32) &&& 31)) &&& (1 : Int32)) = Int32.ofNat (m + k_v a 3 (hb (g 36 3) 0)) := by
      rw [e]
      unfold k_v
      rw [h2]
      exact on_bi m _
    refine (cbf rfl).trans ?_
    exact cg3 rfl rfl ev
  · have h2 : Op.if_icmp.holds .eq (Int32.ofNat 3) a = true := h
    have ev : Int32.ofNat m = Int32.ofNat (m + k_v a 3 (hb (g 36 3) 0)) := by
      unfold k_v
      rw [h2]
      rfl
    refine (cbt rfl).trans ?_
    exact cg3 rfl rfl ev
set_option maxRecDepth 100000 in
set_option maxHeartbeats 4000000 in
theorem e32_3_0_2 (g : im_M) (a : Int32) (m : Nat) : x32_r35_0_2 g a (Int32.ofNat m) = x32_r35_0_3 g a (Int32.ofNat (m + k_v a 2 (hb (g 36 2) 0))) := by
  have e : (((g 36 2) >>> ((0 : Int32) &&& 31)) &&& (1 : Int32)) = bi (hb (g 36 2) 0) := is_has _ (by decide)
  unfold x32_r35_0_2
  cases h : Op.if_icmp.holds .eq (2 : Int32) a
  · have h2 : Op.if_icmp.holds .eq (Int32.ofNat 2) a = false := h
    have ev : Int32.ofNat m + (((g 36 2) >>> ((0 : Int32) &&& 31)) &&& (1 : Int32)) = Int32.ofNat (m + k_v a 2 (hb (g 36 2) 0)) := by
      rw [e]
      unfold k_v
      rw [h2]
      exact on_bi m _
    refine (cbf rfl).trans ?_
    exact cg3 rfl rfl ev
  · have h2 : Op.if_icmp.holds .eq (Int32.ofNat 2) a = true := h
    have ev : Int32.ofNat m = Int32.ofNat (m + k_v a 2 (hb (g 36 2) 0)) := by
      unfold k_v
      rw [h2]
      rfl
    refine (cbt rfl).trans ?_
    exact cg3 rfl rfl ev
set_option maxRecDepth 100000 in
set_option maxHeartbeats 4000000 in
theorem e32_3_0_1 (g : im_M) (a : Int32) (m : Nat) : x32_r35_0_1 g a (Int32.ofNat m) = x32_r35_0_2 g a (Int32.ofNat (m + k_v a 1 (hb (g 36 1) 0))) := by
  have e : (((g 36 1) >>> ((0 : Int32) &&& 31)) &&& (1 : Int32)) = bi (hb (g 36 1) 0) := is_has _ (by decide)
  unfold x32_r35_0_1
  cases h : Op.if_icmp.holds .eq (1 : Int32) a
  · have h2 : Op.if_icmp.holds .eq (Int32.ofNat 1) a = false := h
    have ev : Int32.ofNat m + (((g 36 1) >>> ((0 : Int32) &&& 31)) &&& (1 : Int32)) = Int32.ofNat (m + k_v a 1 (hb (g 36 1) 0)) := by
      rw [e]
      unfold k_v
      rw [h2]
      exact on_bi m _
    refine (cbf rfl).trans ?_
    exact cg3 rfl rfl ev
  · have h2 : Op.if_icmp.holds .eq (Int32.ofNat 1) a = true := h
    have ev : Int32.ofNat m = Int32.ofNat (m + k_v a 1 (hb (g 36 1) 0)) := by
      unfold k_v
      rw [h2]
      rfl
    refine (cbt rfl).trans ?_
    exact cg3 rfl rfl ev
set_option maxRecDepth 100000 in
set_option maxHeartbeats 4000000 in
theorem e32_3_0_0 (g : im_M) (a : Int32) : x32_r35_0 g a = x32_r35_0_1 g a (Int32.ofNat (0 + k_v a 0 (hb (g 36 0) 0))) := by
  have e : (((g 36 0) >>> ((0 : Int32) &&& 31)) &&& (1 : Int32)) = bi (hb (g 36 0) 0) := is_has _ (by decide)
  unfold x32_r35_0
  cases h : Op.if_icmp.holds .eq (0 : Int32) a
  · have h2 : Op.if_icmp.holds .eq (Int32.ofNat 0) a = false := h
    have ev : (0 : Int32) + (((g 36 0) >>> ((0 : Int32) &&& 31)) &&& (1 : Int32)) = Int32.ofNat (0 + k_v a 0 (hb (g 36 0) 0)) := by
      rw [e]
      unfold k_v
      rw [h2]
      exact on_bi 0 _
    refine (cbf rfl).trans ?_
    exact cg3 rfl rfl ev
  · have h2 : Op.if_icmp.holds .eq (Int32.ofNat 0) a = true := h
    have ev : (0 : Int32) = Int32.ofNat (0 + k_v a 0 (hb (g 36 0) 0)) := by
      unfold k_v
      rw [h2]
      rfl
    refine (cbt rfl).trans ?_
    exact cg3 rfl rfl ev
set_option maxRecDepth 100000 in
set_option maxHeartbeats 4000000 in
theorem e32_3_0 (g : im_M) (a : Int32) : x32_r35_0 g a = some (Int32.ofNat (c_cn 3 0 a g), g) := by
  rw [e32_3_0_0, e32_3_0_1, e32_3_0_2, e32_3_0_3]
  unfold x32_r35_0_4
  rw [show c_cn 3 0 a g = 0 + k_v a 0 (hb (g 36 0) 0) + k_v a 1 (hb (g 36 1) 0) + k_v a 2 (hb (g 36 2) 0) + k_v a 3 (hb (g 36 3) 0) from by rw [Nat.zero_add]; rfl]
set_option maxRecDepth 100000 in
set_option maxHeartbeats 4000000 in
theorem e32_3_1_3 (g : im_M) (a : Int32) (m : Nat) : x32_r35_1_3 g a (Int32.ofNat m) = x32_r35_1_4 g a (Int32.ofNat (m + k_v a 3 (hb (g 36 3) 1))) := by
  have e : (((g 36 3) >>> ((1 : Int32) &&& 31)) &&& (1 : Int32)) = bi (hb (g 36 3) 1) := is_has _ (by decide)
  unfold x32_r35_1_3
  cases h : Op.if_icmp.holds .eq (3 : Int32) a
  · have h2 : Op.if_icmp.holds .eq (Int32.ofNat 3) a = false := h
    have ev : Int32.ofNat m + (((g 36 3) >>> ((1 : Int32) &&& 31)) &&& (1 : Int32)) = Int32.ofNat (m + k_v a 3 (hb (g 36 3) 1)) := by
      rw [e]
      unfold k_v
      rw [h2]
      exact on_bi m _
    refine (cbf rfl).trans ?_
    exact cg3 rfl rfl ev
  · have h2 : Op.if_icmp.holds .eq (Int32.ofNat 3) a = true := h
    have ev : Int32.ofNat m = Int32.ofNat (m + k_v a 3 (hb (g 36 3) 1)) := by
      unfold k_v
      rw [h2]
      rfl
    refine (cbt rfl).trans ?_
    exact cg3 rfl rfl ev
set_option maxRecDepth 100000 in
set_option maxHeartbeats 4000000 in
theorem e32_3_1_2 (g : im_M) (a : Int32) (m : Nat) : x32_r35_1_2 g a (Int32.ofNat m) = x32_r35_1_3 g a (Int32.ofNat (m + k_v a 2 (hb (g 36 2) 1))) := by
  have e : (((g 36 2) >>> ((1 : Int32) &&& 31)) &&& (1 : Int32)) = bi (hb (g 36 2) 1) := is_has _ (by decide)
  unfold x32_r35_1_2
  cases h : Op.if_icmp.holds .eq (2 : Int32) a
  · have h2 : Op.if_icmp.holds .eq (Int32.ofNat 2) a = false := h
    have ev : Int32.ofNat m + (((g 36 2) >>> ((1 : Int32) &&& 31)) &&& (1 : Int32)) = Int32.ofNat (m + k_v a 2 (hb (g 36 2) 1)) := by
      rw [e]
      unfold k_v
      rw [h2]
      exact on_bi m _
    refine (cbf rfl).trans ?_
    exact cg3 rfl rfl ev
  · have h2 : Op.if_icmp.holds .eq (Int32.ofNat 2) a = true := h
    have ev : Int32.ofNat m = Int32.ofNat (m + k_v a 2 (hb (g 36 2) 1)) := by
      unfold k_v
      rw [h2]
      rfl
    refine (cbt rfl).trans ?_
    exact cg3 rfl rfl ev
set_option maxRecDepth 100000 in
set_option maxHeartbeats 4000000 in
theorem e32_3_1_1 (g : im_M) (a : Int32) (m : Nat) : x32_r35_1_1 g a (Int32.ofNat m) = x32_r35_1_2 g a (Int32.ofNat (m + k_v a 1 (hb (g 36 1) 1))) := by
  have e : (((g 36 1) >>> ((1 : Int32) &&& 31)) &&& (1 : Int32)) = bi (hb (g 36 1) 1) := is_has _ (by decide)
  unfold x32_r35_1_1
  cases h : Op.if_icmp.holds .eq (1 : Int32) a
  · have h2 : Op.if_icmp.holds .eq (Int32.ofNat 1) a = false := h
    have ev : Int32.ofNat m + (((g 36 1) >>> ((1 : Int32) &&& 31)) &&& (1 : Int32)) = Int32.ofNat (m + k_v a 1 (hb (g 36 1) 1)) := by
      rw [e]
      unfold k_v
      rw [h2]
      exact on_bi m _
    refine (cbf rfl).trans ?_
    exact cg3 rfl rfl ev
  · have h2 : Op.if_icmp.holds .eq (Int32.ofNat 1) a = true := h
    have ev : Int32.ofNat m = Int32.ofNat (m + k_v a 1 (hb (g 36 1) 1)) := by
      unfold k_v
      rw [h2]
      rfl
    refine (cbt rfl).trans ?_
    exact cg3 rfl rfl ev
set_option maxRecDepth 100000 in
set_option maxHeartbeats 4000000 in
theorem e32_3_1_0 (g : im_M) (a : Int32) : x32_r35_1 g a = x32_r35_1_1 g a (Int32.ofNat (0 + k_v a 0 (hb (g 36 0) 1))) := by
  have e : (((g 36 0) >>> ((1 : Int32) &&& 31)) &&& (1 : Int32)) = bi (hb (g 36 0) 1) := is_has _ (by decide)
  unfold x32_r35_1
  cases h : Op.if_icmp.holds .eq (0 : Int32) a
  · have h2 : Op.if_icmp.holds .eq (Int32.ofNat 0) a = false := h
    have ev : (0 : Int32) + (((g 36 0) >>> ((1 : Int32) &&& 31)) &&& (1 : Int32)) = Int32.ofNat (0 + k_v a 0 (hb (g 36 0) 1)) := by
      rw [e]
      unfold k_v
      rw [h2]
      exact on_bi 0 _
    refine (cbf rfl).trans ?_
    exact cg3 rfl rfl ev
  · have h2 : Op.if_icmp.holds .eq (Int32.ofNat 0) a = true := h
    have ev : (0 : Int32) = Int32.ofNat (0 + k_v a 0 (hb (g 36 0) 1)) := by
      unfold k_v
      rw [h2]
      rfl
    refine (cbt rfl).trans ?_
    exact cg3 rfl rfl ev
set_option maxRecDepth 100000 in
set_option maxHeartbeats 4000000 in
theorem e32_3_1 (g : im_M) (a : Int32) : x32_r35_1 g a = some (Int32.ofNat (c_cn 3 1 a g), g) := by
  rw [e32_3_1_0, e32_3_1_1, e32_3_1_2, e32_3_1_3]
  unfold x32_r35_1_4
  rw [show c_cn 3 1 a g = 0 + k_v a 0 (hb (g 36 0) 1) + k_v a 1 (hb (g 36 1) 1) + k_v a 2 (hb (g 36 2) 1) + k_v a 3 (hb (g 36 3) 1) from by rw [Nat.zero_add]; rfl]
set_option maxRecDepth 100000 in
set_option maxHeartbeats 4000000 in
theorem e32_3_2_3 (g : im_M) (a : Int32) (m : Nat) : x32_r35_2_3 g a (Int32.ofNat m) = x32_r35_2_4 g a (Int32.ofNat (m + k_v a 3 (hb (g 36 3) 2))) := by
  have e : (((g 36 3) >>> ((2 : Int32) &&& 31)) &&& (1 : Int32)) = bi (hb (g 36 3) 2) := is_has _ (by decide)
  unfold x32_r35_2_3
  cases h : Op.if_icmp.holds .eq (3 : Int32) a
  · have h2 : Op.if_icmp.holds .eq (Int32.ofNat 3) a = false := h
    have ev : Int32.ofNat m + (((g 36 3) >>> ((2 : Int32) &&& 31)) &&& (1 : Int32)) = Int32.ofNat (m + k_v a 3 (hb (g 36 3) 2)) := by
      rw [e]
      unfold k_v
      rw [h2]
      exact on_bi m _
    refine (cbf rfl).trans ?_
    exact cg3 rfl rfl ev
  · have h2 : Op.if_icmp.holds .eq (Int32.ofNat 3) a = true := h
    have ev : Int32.ofNat m = Int32.ofNat (m + k_v a 3 (hb (g 36 3) 2)) := by
      unfold k_v
      rw [h2]
      rfl
    refine (cbt rfl).trans ?_
    exact cg3 rfl rfl ev
set_option maxRecDepth 100000 in
set_option maxHeartbeats 4000000 in
theorem e32_3_2_2 (g : im_M) (a : Int32) (m : Nat) : x32_r35_2_2 g a (Int32.ofNat m) = x32_r35_2_3 g a (Int32.ofNat (m + k_v a 2 (hb (g 36 2) 2))) := by
  have e : (((g 36 2) >>> ((2 : Int32) &&& 31)) &&& (1 : Int32)) = bi (hb (g 36 2) 2) := is_has _ (by decide)
  unfold x32_r35_2_2
  cases h : Op.if_icmp.holds .eq (2 : Int32) a
  · have h2 : Op.if_icmp.holds .eq (Int32.ofNat 2) a = false := h
    have ev : Int32.ofNat m + (((g 36 2) >>> ((2 : Int32) &&& 31)) &&& (1 : Int32)) = Int32.ofNat (m + k_v a 2 (hb (g 36 2) 2)) := by
      rw [e]
      unfold k_v
      rw [h2]
      exact on_bi m _
    refine (cbf rfl).trans ?_
    exact cg3 rfl rfl ev
  · have h2 : Op.if_icmp.holds .eq (Int32.ofNat 2) a = true := h
    have ev : Int32.ofNat m = Int32.ofNat (m + k_v a 2 (hb (g 36 2) 2)) := by
      unfold k_v
      rw [h2]
      rfl
    refine (cbt rfl).trans ?_
    exact cg3 rfl rfl ev
set_option maxRecDepth 100000 in
set_option maxHeartbeats 4000000 in
theorem e32_3_2_1 (g : im_M) (a : Int32) (m : Nat) : x32_r35_2_1 g a (Int32.ofNat m) = x32_r35_2_2 g a (Int32.ofNat (m + k_v a 1 (hb (g 36 1) 2))) := by
  have e : (((g 36 1) >>> ((2 : Int32) &&& 31)) &&& (1 : Int32)) = bi (hb (g 36 1) 2) := is_has _ (by decide)
  unfold x32_r35_2_1
  cases h : Op.if_icmp.holds .eq (1 : Int32) a
  · have h2 : Op.if_icmp.holds .eq (Int32.ofNat 1) a = false := h
    have ev : Int32.ofNat m + (((g 36 1) >>> ((2 : Int32) &&& 31)) &&& (1 : Int32)) = Int32.ofNat (m + k_v a 1 (hb (g 36 1) 2)) := by
      rw [e]
      unfold k_v
      rw [h2]
      exact on_bi m _
    refine (cbf rfl).trans ?_
    exact cg3 rfl rfl ev
  · have h2 : Op.if_icmp.holds .eq (Int32.ofNat 1) a = true := h
    have ev : Int32.ofNat m = Int32.ofNat (m + k_v a 1 (hb (g 36 1) 2)) := by
      unfold k_v
      rw [h2]
      rfl
    refine (cbt rfl).trans ?_
    exact cg3 rfl rfl ev
set_option maxRecDepth 100000 in
set_option maxHeartbeats 4000000 in
theorem e32_3_2_0 (g : im_M) (a : Int32) : x32_r35_2 g a = x32_r35_2_1 g a (Int32.ofNat (0 + k_v a 0 (hb (g 36 0) 2))) := by
  have e : (((g 36 0) >>> ((2 : Int32) &&& 31)) &&& (1 : Int32)) = bi (hb (g 36 0) 2) := is_has _ (by decide)
  unfold x32_r35_2
  cases h : Op.if_icmp.holds .eq (0 : Int32) a
  · have h2 : Op.if_icmp.holds .eq (Int32.ofNat 0) a = false := h
    have ev : (0 : Int32) + (((g 36 0) >>> ((2 : Int32) &&& 31)) &&& (1 : Int32)) = Int32.ofNat (0 + k_v a 0 (hb (g 36 0) 2)) := by
      rw [e]
      unfold k_v
      rw [h2]
      exact on_bi 0 _
    refine (cbf rfl).trans ?_
    exact cg3 rfl rfl ev
  · have h2 : Op.if_icmp.holds .eq (Int32.ofNat 0) a = true := h
    have ev : (0 : Int32) = Int32.ofNat (0 + k_v a 0 (hb (g 36 0) 2)) := by
      unfold k_v
      rw [h2]
      rfl
    refine (cbt rfl).trans ?_
    exact cg3 rfl rfl ev
set_option maxRecDepth 100000 in
set_option maxHeartbeats 4000000 in
theorem e32_3_2 (g : im_M) (a : Int32) : x32_r35_2 g a = some (Int32.ofNat (c_cn 3 2 a g), g) := by
  rw [e32_3_2_0, e32_3_2_1, e32_3_2_2, e32_3_2_3]
  unfold x32_r35_2_4
  rw [show c_cn 3 2 a g = 0 + k_v a 0 (hb (g 36 0) 2) + k_v a 1 (hb (g 36 1) 2) + k_v a 2 (hb (g 36 2) 2) + k_v a 3 (hb (g 36 3) 2) from by rw [Nat.zero_add]; rfl]
set_option maxRecDepth 100000 in
set_option maxHeartbeats 4000000 in
theorem e33_3_1 (g : im_M) : x33_r35_r1_1 g = x33_r35_r1_2 (c_lb 3 2 2 0 g) := by
  have e : c_lb 3 2 2 0 g = (bif Op.if_icmp.holds .ne ((g 35 2) &&& (2 : Int32)) (2 : Int32) then g else (bif Op.ifCond.holds .ne ((g 35 3) &&& (2 : Int32)) then g else c_rec (im_w g 35 3 ((g 35 3) ||| (2 : Int32))) (8 : Int32) (3 : Int32) (0 : Int32))) := rfl
  rw [e]
  unfold x33_r35_r1_1
  cases Op.if_icmp.holds .ne ((g 35 2) &&& (2 : Int32)) (2 : Int32)
  · refine (cbf rfl).trans ?_
    cases Op.ifCond.holds .ne ((g 35 3) &&& (2 : Int32))
    · refine (cbf rfl).trans ?_
      refine (ob (x15_eq _ _ _ _)).trans ?_
      exact cg1 rfl
    · refine (cbt rfl).trans ?_
      exact cg1 rfl
  · refine (cbt rfl).trans ?_
    exact cg1 rfl
set_option maxRecDepth 100000 in
set_option maxHeartbeats 4000000 in
theorem e33_3_2 (g : im_M) : x33_r35_r1_2 g = x33_r35_r1_3 (c_lb 3 4 4 1 g) := by
  have e : c_lb 3 4 4 1 g = (bif Op.if_icmp.holds .ne ((g 35 2) &&& (4 : Int32)) (4 : Int32) then g else (bif Op.ifCond.holds .ne ((g 35 3) &&& (4 : Int32)) then g else c_rec (im_w g 35 3 ((g 35 3) ||| (4 : Int32))) (8 : Int32) (3 : Int32) (1 : Int32))) := rfl
  rw [e]
  unfold x33_r35_r1_2
  cases Op.if_icmp.holds .ne ((g 35 2) &&& (4 : Int32)) (4 : Int32)
  · refine (cbf rfl).trans ?_
    cases Op.ifCond.holds .ne ((g 35 3) &&& (4 : Int32))
    · refine (cbf rfl).trans ?_
      refine (ob (x15_eq _ _ _ _)).trans ?_
      exact cg1 rfl
    · refine (cbt rfl).trans ?_
      exact cg1 rfl
  · refine (cbt rfl).trans ?_
    exact cg1 rfl
set_option maxRecDepth 100000 in
set_option maxHeartbeats 4000000 in
theorem e33_3_3 (g : im_M) : x33_r35_r1_3 g = x33_r35_r1_4 (c_lb 3 3 8 2 g) := by
  have e : c_lb 3 3 8 2 g = (bif Op.if_icmp.holds .ne ((g 35 2) &&& (3 : Int32)) (3 : Int32) then g else (bif Op.ifCond.holds .ne ((g 35 3) &&& (8 : Int32)) then g else c_rec (im_w g 35 3 ((g 35 3) ||| (8 : Int32))) (8 : Int32) (3 : Int32) (2 : Int32))) := rfl
  rw [e]
  unfold x33_r35_r1_3
  cases Op.if_icmp.holds .ne ((g 35 2) &&& (3 : Int32)) (3 : Int32)
  · refine (cbf rfl).trans ?_
    cases Op.ifCond.holds .ne ((g 35 3) &&& (8 : Int32))
    · refine (cbf rfl).trans ?_
      refine (ob (x15_eq _ _ _ _)).trans ?_
      exact cg1 rfl
    · refine (cbt rfl).trans ?_
      exact cg1 rfl
  · refine (cbt rfl).trans ?_
    exact cg1 rfl
set_option maxRecDepth 100000 in
set_option maxHeartbeats 4000000 in
theorem e33_3 (g : im_M) : x33_r35_r1 g = some (0, c_lat 3 g) := by
  have h : x33_r35_r1 g = x33_r35_r1_1 (c_la 3 1 7 0 g) := by
    have e : c_la 3 1 7 0 g = (bif Op.ifCond.holds .ne ((g 35 3) &&& (1 : Int32)) then g else c_rec (im_w g 35 3 ((g 35 3) ||| (1 : Int32))) (7 : Int32) (3 : Int32) (0 : Int32)) := rfl
    rw [e]
    unfold x33_r35_r1
    cases Op.ifCond.holds .ne ((g 35 3) &&& (1 : Int32))
    · refine (cbf rfl).trans ?_
      refine (ob (x15_eq _ _ _ _)).trans ?_
      exact cg1 rfl
    · refine (cbt rfl).trans ?_
      exact cg1 rfl
  refine h.trans ?_
  rw [e33_3_1, e33_3_2, e33_3_3]
  rfl
set_option maxRecDepth 100000 in
set_option maxHeartbeats 4000000 in
theorem e31_3_0 (g : im_M) (a : Int32) : x31_r35_r1 g a = x31_r35_r1_1 (c_dd 3 0 a (g 35 2) (im_w g 35 2 0)) a (g 35 2) := by
  have e : c_dd 3 0 a (g 35 2) (im_w g 35 2 0) = (bif decide (2 ≤ c_cn 3 0 a (im_w g 35 2 0)) then (bif Op.ifCond.holds .ne ((g 35 2) &&& (1 : Int32)) then im_w (im_w g 35 2 0) 35 2 (((im_w g 35 2 0) 35 2) ||| (1 : Int32)) else c_rec (im_w (im_w g 35 2 0) 35 2 (((im_w g 35 2 0) 35 2) ||| (1 : Int32))) (6 : Int32) (3 : Int32) (0 : Int32)) else (im_w g 35 2 0)) := rfl
  rw [e]
  unfold x31_r35_r1
  refine (ob (e32_3_0 _ _)).trans ?_
  have kd := k_dl _ (k_cn_le a (hb ((im_w g 35 2 0) 36 0) 0) (hb ((im_w g 35 2 0) 36 1) 0) (hb ((im_w g 35 2 0) 36 2) 0) (hb ((im_w g 35 2 0) 36 3) 0))
  have kd2 : Op.if_icmp.holds .lt (Int32.ofNat (c_cn 3 0 a (im_w g 35 2 0))) (2 : Int32) = !(decide (2 ≤ c_cn 3 0 a (im_w g 35 2 0))) := kd
  cases hD : decide (2 ≤ c_cn 3 0 a (im_w g 35 2 0))
  · refine (cbt (kd2.trans (by rw [hD]; rfl))).trans ?_
    exact cg3 rfl rfl rfl
  · refine (cbf (kd2.trans (by rw [hD]; rfl))).trans ?_
    cases Op.ifCond.holds .ne ((g 35 2) &&& (1 : Int32))
    · refine (cbf rfl).trans ?_
      refine (ob (x15_eq _ _ _ _)).trans ?_
      exact cg3 rfl rfl rfl
    · refine (cbt rfl).trans ?_
      exact cg3 rfl rfl rfl
set_option maxRecDepth 100000 in
set_option maxHeartbeats 4000000 in
theorem e31_3_1 (g : im_M) (a y : Int32) : x31_r35_r1_1 g a y = x31_r35_r1_2 (c_dd 3 1 a y g) a y := by
  have e : c_dd 3 1 a y g = (bif decide (2 ≤ c_cn 3 1 a g) then (bif Op.ifCond.holds .ne (y &&& (2 : Int32)) then im_w g 35 2 ((g 35 2) ||| (2 : Int32)) else c_rec (im_w g 35 2 ((g 35 2) ||| (2 : Int32))) (6 : Int32) (3 : Int32) (1 : Int32)) else g) := rfl
  rw [e]
  unfold x31_r35_r1_1
  refine (ob (e32_3_1 _ _)).trans ?_
  have kd := k_dl _ (k_cn_le a (hb (g 36 0) 1) (hb (g 36 1) 1) (hb (g 36 2) 1) (hb (g 36 3) 1))
  have kd2 : Op.if_icmp.holds .lt (Int32.ofNat (c_cn 3 1 a g)) (2 : Int32) = !(decide (2 ≤ c_cn 3 1 a g)) := kd
  cases hD : decide (2 ≤ c_cn 3 1 a g)
  · refine (cbt (kd2.trans (by rw [hD]; rfl))).trans ?_
    exact cg3 rfl rfl rfl
  · refine (cbf (kd2.trans (by rw [hD]; rfl))).trans ?_
    cases Op.ifCond.holds .ne (y &&& (2 : Int32))
    · refine (cbf rfl).trans ?_
      refine (ob (x15_eq _ _ _ _)).trans ?_
      exact cg3 rfl rfl rfl
    · refine (cbt rfl).trans ?_
      exact cg3 rfl rfl rfl
set_option maxRecDepth 100000 in
set_option maxHeartbeats 4000000 in
theorem e31_3_2 (g : im_M) (a y : Int32) : x31_r35_r1_2 g a y = x31_r35_r1_3 (c_dd 3 2 a y g) a y := by
  have e : c_dd 3 2 a y g = (bif decide (2 ≤ c_cn 3 2 a g) then (bif Op.ifCond.holds .ne (y &&& (4 : Int32)) then im_w g 35 2 ((g 35 2) ||| (4 : Int32)) else c_rec (im_w g 35 2 ((g 35 2) ||| (4 : Int32))) (6 : Int32) (3 : Int32) (2 : Int32)) else g) := rfl
  rw [e]
  unfold x31_r35_r1_2
  refine (ob (e32_3_2 _ _)).trans ?_
  have kd := k_dl _ (k_cn_le a (hb (g 36 0) 2) (hb (g 36 1) 2) (hb (g 36 2) 2) (hb (g 36 3) 2))
  have kd2 : Op.if_icmp.holds .lt (Int32.ofNat (c_cn 3 2 a g)) (2 : Int32) = !(decide (2 ≤ c_cn 3 2 a g)) := kd
  cases hD : decide (2 ≤ c_cn 3 2 a g)
  · refine (cbt (kd2.trans (by rw [hD]; rfl))).trans ?_
    exact cg3 rfl rfl rfl
  · refine (cbf (kd2.trans (by rw [hD]; rfl))).trans ?_
    cases Op.ifCond.holds .ne (y &&& (4 : Int32))
    · refine (cbf rfl).trans ?_
      refine (ob (x15_eq _ _ _ _)).trans ?_
      exact cg3 rfl rfl rfl
    · refine (cbt rfl).trans ?_
      exact cg3 rfl rfl rfl
set_option maxRecDepth 100000 in
set_option maxHeartbeats 4000000 in
theorem e31_3 (g : im_M) (a : Int32) : x31_r35_r1 g a = some (0, c_dec 3 a g) := by
  refine ((e31_3_0 g a).trans ((e31_3_1 _ a _).trans (e31_3_2 _ a _))).trans ?_
  show x31_r35_r1_3 (c_dec0 3 a (g 35 2) (im_w g 35 2 0)) a (g 35 2) = _
  have e : c_dec 3 a g = (bif Op.ifCond.holds .eq (c_dec0 3 a (g 35 2) (im_w g 35 2 0) 35 2) then c_dec0 3 a (g 35 2) (im_w g 35 2 0) else c_lat 3 (c_dec0 3 a (g 35 2) (im_w g 35 2 0))) := rfl
  rw [e]
  generalize c_dec0 3 a (g 35 2) (im_w g 35 2 0) = G
  unfold x31_r35_r1_3
  cases Op.ifCond.holds .eq (G 35 2)
  · refine (cbf rfl).trans ?_
    refine (ob (e33_3 G)).trans ?_
    rfl
  · exact (cbt rfl).trans rfl
