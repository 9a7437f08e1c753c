/-! What a channel does, as functions of the memory. -/
def c_msk (p : Nat) : Int32 := match p with
  | 0 => 1
  | 1 => 2
  | _ => 4
def c_nmk (p : Nat) : Int32 := match p with
  | 0 => -2
  | 1 => -3
  | _ => -5
def c_isw (c p : Nat) (g : im_M) (a : Bool) : Bool :=
  Op.if_icmp.holds .lt (g (10 + 5 * c) p) (50 : Int32) || (Op.if_icmp.holds .gt (g (10 + 5 * c) p) (4000 : Int32) || ((a && Op.if_icmp.holds .gt (if 0 ≤ ((g (10 + 5 * c) p) - (g (11 + 5 * c) p)) then ((g (10 + 5 * c) p) - (g (11 + 5 * c) p)) else 0 - ((g (10 + 5 * c) p) - (g (11 + 5 * c) p))) (400 : Int32)) || !(Op.if_icmp.holds .lt (g (12 + 5 * c) p) (13 : Int32))))
def c_judge (c p : Nat) (g : im_M) : im_M :=
  bif c_isw c p g (!(Op.if_icmp.holds .le (g 1 1) (1 : Int32))) then
    (bif Op.ifCond.holds .eq ((g (9 + 5 * c) 6) &&& c_msk p) then c_rec (im_w g (9 + 5 * c) 6 ((g (9 + 5 * c) 6) ||| c_msk p)) 1 (Int32.ofNat c) (Int32.ofNat p) else g)
  else
    (bif Op.ifCond.holds .eq ((g (9 + 5 * c) 6) &&& c_msk p) then g else c_rec (im_w g (9 + 5 * c) 6 ((g (9 + 5 * c) 6) &&& c_nmk p)) 2 (Int32.ofNat c) (Int32.ofNat p))
def c_lim (c p : Nat) (g : im_M) : Int32 := match p with
  | 0 => 3000
  | 1 => 1200
  | _ => k_cv (g (10 + 5 * c) 0).toNatClampNeg - (((if (0 : Int32) < ((2000 : Int32) - (g (10 + 5 * c) 1)) then ((2000 : Int32) - (g (10 + 5 * c) 1)) else (0 : Int32)) + (3 : Int32)) / (4 : Int32))
def c_bey (c p : Nat) (g : im_M) : Bool := bif Nat.beq p 1 then !(Op.if_icmp.holds .ge (g (10 + 5 * c) p) (c_lim c p g)) else !(Op.if_icmp.holds .le (g (10 + 5 * c) p) (c_lim c p g))
def c_ins (c p : Nat) (g : im_M) : Bool := bif Nat.beq p 1 then !(Op.if_icmp.holds .le (g (10 + 5 * c) p) (c_lim c p g + (40 : Int32))) else !(Op.if_icmp.holds .ge (g (10 + 5 * c) p) (c_lim c p g - (40 : Int32)))
def c_mv1 (c p : Nat) (g : im_M) (y d : Int32) : im_M :=
  bif Op.ifCond.holds .ne ((g (9 + 5 * c) 7) &&& c_msk p) then
    (bif c_ins c p g then c_rec (im_w g (9 + 5 * c) 7 ((g (9 + 5 * c) 7) &&& c_nmk p)) 4 (Int32.ofNat c) (Int32.ofNat p) else g)
  else
    (bif Op.if_icmp.holds .lt y d then g else c_rec (im_w g (9 + 5 * c) 7 ((g (9 + 5 * c) 7) ||| c_msk p)) 3 (Int32.ofNat c) (Int32.ofNat p))
def c_move (c p : Nat) (g : im_M) (d : Int32) : im_M :=
  bif Op.ifCond.holds .eq ((g (9 + 5 * c) 6) &&& c_msk p) then
    (bif c_bey c p g then c_mv1 c p (im_w g (13 + 5 * c) p ((g (13 + 5 * c) p) + (1 : Int32))) ((g (13 + 5 * c) p) + (1 : Int32)) d else c_mv1 c p (im_w g (13 + 5 * c) p 0) 0 d)
  else im_w g (13 + 5 * c) p 0
def c_ln1 (c p : Nat) (g : im_M) (d : Int32) : im_M := c_move c p (c_judge c p g) d
def c_lane (c p : Nat) (g : im_M) (d : Int32) : im_M :=
  im_w (c_ln1 c p (im_w g (12 + 5 * c) p (bif Op.ifCond.holds .eq ((g (9 + 5 * c) 5) &&& c_msk p) then (g (12 + 5 * c) p) + (1 : Int32) else 0)) d) (11 + 5 * c) p
    (c_ln1 c p (im_w g (12 + 5 * c) p (bif Op.ifCond.holds .eq ((g (9 + 5 * c) 5) &&& c_msk p) then (g (12 + 5 * c) p) + (1 : Int32) else 0)) d (10 + 5 * c) p)
def c_look (c : Nat) (g : im_M) (d : Int32) : im_M := im_w (c_lane c 2 (c_lane c 1 (c_lane c 0 g d) d) d) (9 + 5 * c) 5 0
theorem c_rec_o (g : im_M) (a b c : Int32) {q : Nat} (h1 : q ≠ 1) (h2 : q ≠ 2) : c_rec g a b c q = g q := by
  unfold c_rec
  rw [im_w_o _ _ _ h1, im_w_o _ _ _ h2, im_w_o _ _ _ h2, im_w_o _ _ _ h2, im_w_o _ _ _ h2]
theorem c_judge_o (c p : Nat) (g : im_M) {q : Nat} (h1 : q ≠ 1) (h2 : q ≠ 2) (h3 : q ≠ 9 + 5 * c) : c_judge c p g q = g q := by
  unfold c_judge
  cases c_isw c p g (!(Op.if_icmp.holds .le (g 1 1) (1 : Int32))) <;> cases Op.ifCond.holds .eq ((g (9 + 5 * c) 6) &&& c_msk p) <;> simp only [cond_true, cond_false, c_rec_o _ _ _ _ h1 h2, im_w_o _ _ _ h3]
theorem c_mv1_o (c p : Nat) (g : im_M) (y d : Int32) {q : Nat} (h1 : q ≠ 1) (h2 : q ≠ 2) (h3 : q ≠ 9 + 5 * c) : c_mv1 c p g y d q = g q := by
  unfold c_mv1
  cases Op.ifCond.holds .ne ((g (9 + 5 * c) 7) &&& c_msk p) <;> cases c_ins c p g <;> cases Op.if_icmp.holds .lt y d <;> simp only [cond_true, cond_false, c_rec_o _ _ _ _ h1 h2, im_w_o _ _ _ h3]
theorem c_move_o (c p : Nat) (g : im_M) (d : Int32) {q : Nat} (h1 : q ≠ 1) (h2 : q ≠ 2) (h3 : q ≠ 9 + 5 * c) (h4 : q ≠ 13 + 5 * c) : c_move c p g d q = g q := by
  unfold c_move
  cases Op.ifCond.holds .eq ((g (9 + 5 * c) 6) &&& c_msk p) <;> cases c_bey c p g <;> simp only [cond_true, cond_false, c_mv1_o _ _ _ _ _ h1 h2 h3, im_w_o _ _ _ h4]
theorem c_ln1_o (c p : Nat) (g : im_M) (d : Int32) {q : Nat} (h1 : q ≠ 1) (h2 : q ≠ 2) (h3 : q ≠ 9 + 5 * c) (h4 : q ≠ 13 + 5 * c) : c_ln1 c p g d q = g q := by
  unfold c_ln1
  rw [c_move_o c p _ d h1 h2 h3 h4, c_judge_o c p g h1 h2 h3]
theorem c_lane_o (c p : Nat) (g : im_M) (d : Int32) {q : Nat} (h1 : q ≠ 1) (h2 : q ≠ 2) (h3 : q ≠ 9 + 5 * c) (h4 : q ≠ 13 + 5 * c) (h5 : q ≠ 11 + 5 * c) (h6 : q ≠ 12 + 5 * c) : c_lane c p g d q = g q := by
  unfold c_lane
  rw [im_w_o _ _ _ h5, c_ln1_o c p _ d h1 h2 h3 h4, im_w_o _ _ _ h6]
theorem c_look_o (c : Nat) (g : im_M) (d : Int32) {q : Nat} (h1 : q ≠ 1) (h2 : q ≠ 2) (h3 : q ≠ 9 + 5 * c) (h4 : q ≠ 13 + 5 * c) (h5 : q ≠ 11 + 5 * c) (h6 : q ≠ 12 + 5 * c) : c_look c g d q = g q := by
  unfold c_look
  rw [im_w_o _ _ _ h3, c_lane_o c 2 _ d h1 h2 h3 h4 h5 h6, c_lane_o c 1 _ d h1 h2 h3 h4 h5 h6, c_lane_o c 0 _ d h1 h2 h3 h4 h5 h6]
