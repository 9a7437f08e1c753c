/-! Channel 2: its printed functions are those of the memory (printed by wip/gen/rel1.py) -/
set_option maxRecDepth 100000 in
set_option maxHeartbeats 4000000 in
theorem e13_2_0 (g : im_M) (a : Bool) : x13_r19_0 g (bi a) = some (bi (c_isw 2 0 g a), g) := by
  have e : c_isw 2 0 g a = (Op.if_icmp.holds .lt (g 20 0) (50 : Int32) || (Op.if_icmp.holds .gt (g 20 0) (4000 : Int32) || ((a && Op.if_icmp.holds .gt (if 0 ≤ ((g 20 0) - (g 21 0)) then ((g 20 0) - (g 21 0)) else 0 - ((g 20 0) - (g 21 0))) (400 : Int32)) || !(Op.if_icmp.holds .lt (g 22 0) (13 : Int32))))) := rfl
  rw [e]
  unfold x13_r19_0 x13_r19_0_1
  rw [bi_eq]
  cases a <;> cases Op.if_icmp.holds .lt (g 20 0) (50 : Int32) <;> cases Op.if_icmp.holds .gt (g 20 0) (4000 : Int32) <;> cases Op.if_icmp.holds .gt (if 0 ≤ ((g 20 0) - (g 21 0)) then ((g 20 0) - (g 21 0)) else 0 - ((g 20 0) - (g 21 0))) (400 : Int32) <;> cases Op.if_icmp.holds .lt (g 22 0) (13 : Int32) <;> rfl
set_option maxRecDepth 100000 in
set_option maxHeartbeats 4000000 in
theorem e12_2_0 (g : im_M) : x12_r19_0_r1 g = some (0, c_judge 2 0 g) := by
  have e : c_judge 2 0 g = (bif c_isw 2 0 g (!(Op.if_icmp.holds .le (g 1 1) (1 : Int32))) then (bif Op.ifCond.holds .eq ((g 19 6) &&& (1 : Int32)) then c_rec (im_w g 19 6 ((g 19 6) ||| (1 : Int32))) (1 : Int32) (2 : Int32) (0 : Int32) else g) else (bif Op.ifCond.holds .eq ((g 19 6) &&& (1 : Int32)) then g else c_rec (im_w g 19 6 ((g 19 6) &&& (-2 : Int32))) (2 : Int32) (2 : Int32) (0 : Int32))) := rfl
  rw [e]
  have h0 : x13_r19_0 g 0 = some (bi (c_isw 2 0 g false), g) := e13_2_0 g false
  have h1 : x13_r19_0 g 1 = some (bi (c_isw 2 0 g true), g) := e13_2_0 g true
  unfold x12_r19_0_r1 x12_r19_0_r1_1 x12_r19_0_r1_2 x12_r19_0_r1_3
  cases Op.ifCond.holds .eq ((g 19 6) &&& (1 : Int32)) <;> cases Op.if_icmp.holds .le (g 1 1) (1 : Int32) <;> simp only [cond_true, cond_false, h0, h1, Option.bind_some, bi_eq, bi_ne, x15_eq, Bool.not_true, Bool.not_false]
  all_goals first | (cases c_isw 2 0 g true <;> rfl) | (cases c_isw 2 0 g false <;> rfl)
theorem e20_2_0 (g : im_M) : x20_r19_0 g = some (c_lim 2 0 g, g) := rfl
set_option maxRecDepth 100000 in
set_option maxHeartbeats 4000000 in
theorem e19_2_0 (g : im_M) : x19_r19_0 g = some (bi (c_bey 2 0 g), g) := by
  have e : c_bey 2 0 g = !(Op.if_icmp.holds .le (g 20 0) (c_lim 2 0 g)) := rfl
  rw [e]
  unfold x19_r19_0 x19_r19_0_1
  rw [e20_2_0 g]
  simp only [Option.bind_some]
  cases Op.if_icmp.holds .le (g 20 0) (c_lim 2 0 g) <;> rfl
set_option maxRecDepth 100000 in
set_option maxHeartbeats 4000000 in
theorem e23_2_0 (g : im_M) : x23_r19_0 g = some (bi (c_ins 2 0 g), g) := by
  have e : c_ins 2 0 g = !(Op.if_icmp.holds .ge (g 20 0) (c_lim 2 0 g - (40 : Int32))) := rfl
  rw [e]
  unfold x23_r19_0 x23_r19_0_1
  rw [e20_2_0 g]
  simp only [Option.bind_some]
  cases Op.if_icmp.holds .ge (g 20 0) (c_lim 2 0 g - (40 : Int32)) <;> rfl
set_option maxRecDepth 100000 in
set_option maxHeartbeats 4000000 in
theorem e18a_2_0 (g : im_M) (d y : Int32) : x18_r19_0_r1_1 g d y = some (0, c_mv1 2 0 (im_w g 23 0 y) y d) := by
  have e : c_mv1 2 0 (im_w g 23 0 y) y d = (bif Op.ifCond.holds .ne ((g 19 7) &&& (1 : Int32)) then (bif c_ins 2 0 (im_w g 23 0 y) then c_rec (im_w (im_w g 23 0 y) 19 7 (((im_w g 23 0 y) 19 7) &&& (-2 : Int32))) (4 : Int32) (2 : Int32) (0 : Int32) else (im_w g 23 0 y)) else (bif Op.if_icmp.holds .lt y d then (im_w g 23 0 y) else c_rec (im_w (im_w g 23 0 y) 19 7 ((g 19 7) ||| (1 : Int32))) (3 : Int32) (2 : Int32) (0 : Int32))) := rfl
  rw [e]
  unfold x18_r19_0_r1_1 x18_r19_0_r1_2
  rw [e23_2_0 (im_w g 23 0 y)]
  simp only [Option.bind_some, bi_eq, x15_eq]
  cases Op.ifCond.holds .ne ((g 19 7) &&& (1 : Int32)) <;> cases c_ins 2 0 (im_w g 23 0 y) <;> cases Op.if_icmp.holds .lt y d <;> rfl
set_option maxRecDepth 100000 in
set_option maxHeartbeats 4000000 in
theorem e18_2_0 (g : im_M) (d : Int32) : x18_r19_0_r1 g d = some (0, c_move 2 0 g d) := by
  have e : c_move 2 0 g d = (bif Op.ifCond.holds .eq ((g 19 6) &&& (1 : Int32)) then (bif c_bey 2 0 g then c_mv1 2 0 (im_w g 23 0 ((g 23 0) + (1 : Int32))) ((g 23 0) + (1 : Int32)) d else c_mv1 2 0 (im_w g 23 0 0) 0 d) else im_w g 23 0 0) := rfl
  rw [e]
  unfold x18_r19_0_r1
  rw [e19_2_0 g]
  simp only [Option.bind_some, bi_eq]
  rw [e18a_2_0 g d ((g 23 0) + (1 : Int32)), e18a_2_0 g d 0]
  cases Op.ifCond.holds .eq ((g 19 6) &&& (1 : Int32)) <;> cases c_bey 2 0 g <;> rfl
set_option maxRecDepth 100000 in
set_option maxHeartbeats 4000000 in
theorem e13_2_1 (g : im_M) (a : Bool) : x13_r19_1 g (bi a) = some (bi (c_isw 2 1 g a), g) := by
  have e : c_isw 2 1 g a = (Op.if_icmp.holds .lt (g 20 1) (50 : Int32) || (Op.if_icmp.holds .gt (g 20 1) (4000 : Int32) || ((a && Op.if_icmp.holds .gt (if 0 ≤ ((g 20 1) - (g 21 1)) then ((g 20 1) - (g 21 1)) else 0 - ((g 20 1) - (g 21 1))) (400 : Int32)) || !(Op.if_icmp.holds .lt (g 22 1) (13 : Int32))))) := rfl
  rw [e]
  unfold x13_r19_1 x13_r19_1_1
  rw [bi_eq]
  cases a <;> cases Op.if_icmp.holds .lt (g 20 1) (50 : Int32) <;> cases Op.if_icmp.holds .gt (g 20 1) (4000 : Int32) <;> cases Op.if_icmp.holds .gt (if 0 ≤ ((g 20 1) - (g 21 1)) then ((g 20 1) - (g 21 1)) else 0 - ((g 20 1) - (g 21 1))) (400 : Int32) <;> cases Op.if_icmp.holds .lt (g 22 1) (13 : Int32) <;> rfl
set_option maxRecDepth 100000 in
set_option maxHeartbeats 4000000 in
theorem e12_2_1 (g : im_M) : x12_r19_1_r1 g = some (0, c_judge 2 1 g) := by
  have e : c_judge 2 1 g = (bif c_isw 2 1 g (!(Op.if_icmp.holds .le (g 1 1) (1 : Int32))) then (bif Op.ifCond.holds .eq ((g 19 6) &&& (2 : Int32)) then c_rec (im_w g 19 6 ((g 19 6) ||| (2 : Int32))) (1 : Int32) (2 : Int32) (1 : Int32) else g) else (bif Op.ifCond.holds .eq ((g 19 6) &&& (2 : Int32)) then g else c_rec (im_w g 19 6 ((g 19 6) &&& (-3 : Int32))) (2 : Int32) (2 : Int32) (1 : Int32))) := rfl
  rw [e]
  have h0 : x13_r19_1 g 0 = some (bi (c_isw 2 1 g false), g) := e13_2_1 g false
  have h1 : x13_r19_1 g 1 = some (bi (c_isw 2 1 g true), g) := e13_2_1 g true
  unfold x12_r19_1_r1 x12_r19_1_r1_1 x12_r19_1_r1_2 x12_r19_1_r1_3
  cases Op.ifCond.holds .eq ((g 19 6) &&& (2 : Int32)) <;> cases Op.if_icmp.holds .le (g 1 1) (1 : Int32) <;> simp only [cond_true, cond_false, h0, h1, Option.bind_some, bi_eq, bi_ne, x15_eq, Bool.not_true, Bool.not_false]
  all_goals first | (cases c_isw 2 1 g true <;> rfl) | (cases c_isw 2 1 g false <;> rfl)
theorem e20_2_1 (g : im_M) : x20_r19_1 g = some (c_lim 2 1 g, g) := rfl
set_option maxRecDepth 100000 in
set_option maxHeartbeats 4000000 in
theorem e19_2_1 (g : im_M) : x19_r19_1 g = some (bi (c_bey 2 1 g), g) := by
  have e : c_bey 2 1 g = !(Op.if_icmp.holds .ge (g 20 1) (c_lim 2 1 g)) := rfl
  rw [e]
  unfold x19_r19_1 x19_r19_1_1
  rw [e20_2_1 g]
  simp only [Option.bind_some]
  cases Op.if_icmp.holds .ge (g 20 1) (c_lim 2 1 g) <;> rfl
set_option maxRecDepth 100000 in
set_option maxHeartbeats 4000000 in
theorem e23_2_1 (g : im_M) : x23_r19_1 g = some (bi (c_ins 2 1 g), g) := by
  have e : c_ins 2 1 g = !(Op.if_icmp.holds .le (g 20 1) (c_lim 2 1 g + (40 : Int32))) := rfl
  rw [e]
  unfold x23_r19_1 x23_r19_1_1
  rw [e20_2_1 g]
  simp only [Option.bind_some]
  cases Op.if_icmp.holds .le (g 20 1) (c_lim 2 1 g + (40 : Int32)) <;> rfl
set_option maxRecDepth 100000 in
set_option maxHeartbeats 4000000 in
theorem e18a_2_1 (g : im_M) (d y : Int32) : x18_r19_1_r1_1 g d y = some (0, c_mv1 2 1 (im_w g 23 1 y) y d) := by
  have e : c_mv1 2 1 (im_w g 23 1 y) y d = (bif Op.ifCond.holds .ne ((g 19 7) &&& (2 : Int32)) then (bif c_ins 2 1 (im_w g 23 1 y) then c_rec (im_w (im_w g 23 1 y) 19 7 (((im_w g 23 1 y) 19 7) &&& (-3 : Int32))) (4 : Int32) (2 : Int32) (1 : Int32) else (im_w g 23 1 y)) else (bif Op.if_icmp.holds .lt y d then (im_w g 23 1 y) else c_rec (im_w (im_w g 23 1 y) 19 7 ((g 19 7) ||| (2 : Int32))) (3 : Int32) (2 : Int32) (1 : Int32))) := rfl
  rw [e]
  unfold x18_r19_1_r1_1 x18_r19_1_r1_2
  rw [e23_2_1 (im_w g 23 1 y)]
  simp only [Option.bind_some, bi_eq, x15_eq]
  cases Op.ifCond.holds .ne ((g 19 7) &&& (2 : Int32)) <;> cases c_ins 2 1 (im_w g 23 1 y) <;> cases Op.if_icmp.holds .lt y d <;> rfl
set_option maxRecDepth 100000 in
set_option maxHeartbeats 4000000 in
theorem e18_2_1 (g : im_M) (d : Int32) : x18_r19_1_r1 g d = some (0, c_move 2 1 g d) := by
  have e : c_move 2 1 g d = (bif Op.ifCond.holds .eq ((g 19 6) &&& (2 : Int32)) then (bif c_bey 2 1 g then c_mv1 2 1 (im_w g 23 1 ((g 23 1) + (1 : Int32))) ((g 23 1) + (1 : Int32)) d else c_mv1 2 1 (im_w g 23 1 0) 0 d) else im_w g 23 1 0) := rfl
  rw [e]
  unfold x18_r19_1_r1
  rw [e19_2_1 g]
  simp only [Option.bind_some, bi_eq]
  rw [e18a_2_1 g d ((g 23 1) + (1 : Int32)), e18a_2_1 g d 0]
  cases Op.ifCond.holds .eq ((g 19 6) &&& (2 : Int32)) <;> cases c_bey 2 1 g <;> rfl
set_option maxRecDepth 100000 in
set_option maxHeartbeats 4000000 in
theorem e13_2_2 (g : im_M) (a : Bool) : x13_r19_2 g (bi a) = some (bi (c_isw 2 2 g a), g) := by
  have e : c_isw 2 2 g a = (Op.if_icmp.holds .lt (g 20 2) (50 : Int32) || (Op.if_icmp.holds .gt (g 20 2) (4000 : Int32) || ((a && Op.if_icmp.holds .gt (if 0 ≤ ((g 20 2) - (g 21 2)) then ((g 20 2) - (g 21 2)) else 0 - ((g 20 2) - (g 21 2))) (400 : Int32)) || !(Op.if_icmp.holds .lt (g 22 2) (13 : Int32))))) := rfl
  rw [e]
  unfold x13_r19_2 x13_r19_2_1
  rw [bi_eq]
  cases a <;> cases Op.if_icmp.holds .lt (g 20 2) (50 : Int32) <;> cases Op.if_icmp.holds .gt (g 20 2) (4000 : Int32) <;> cases Op.if_icmp.holds .gt (if 0 ≤ ((g 20 2) - (g 21 2)) then ((g 20 2) - (g 21 2)) else 0 - ((g 20 2) - (g 21 2))) (400 : Int32) <;> cases Op.if_icmp.holds .lt (g 22 2) (13 : Int32) <;> rfl
set_option maxRecDepth 100000 in
set_option maxHeartbeats 4000000 in
theorem e12_2_2 (g : im_M) : x12_r19_2_r1 g = some (0, c_judge 2 2 g) := by
  have e : c_judge 2 2 g = (bif c_isw 2 2 g (!(Op.if_icmp.holds .le (g 1 1) (1 : Int32))) then (bif Op.ifCond.holds .eq ((g 19 6) &&& (4 : Int32)) then c_rec (im_w g 19 6 ((g 19 6) ||| (4 : Int32))) (1 : Int32) (2 : Int32) (2 : Int32) else g) else (bif Op.ifCond.holds .eq ((g 19 6) &&& (4 : Int32)) then g else c_rec (im_w g 19 6 ((g 19 6) &&& (-5 : Int32))) (2 : Int32) (2 : Int32) (2 : Int32))) := rfl
  rw [e]
  have h0 : x13_r19_2 g 0 = some (bi (c_isw 2 2 g false), g) := e13_2_2 g false
  have h1 : x13_r19_2 g 1 = some (bi (c_isw 2 2 g true), g) := e13_2_2 g true
  unfold x12_r19_2_r1 x12_r19_2_r1_1 x12_r19_2_r1_2 x12_r19_2_r1_3
  cases Op.ifCond.holds .eq ((g 19 6) &&& (4 : Int32)) <;> cases Op.if_icmp.holds .le (g 1 1) (1 : Int32) <;> simp only [cond_true, cond_false, h0, h1, Option.bind_some, bi_eq, bi_ne, x15_eq, Bool.not_true, Bool.not_false]
  all_goals first | (cases c_isw 2 2 g true <;> rfl) | (cases c_isw 2 2 g false <;> rfl)
set_option maxRecDepth 100000 in
set_option maxHeartbeats 4000000 in
theorem e20_2_2 (g : im_M) {x : Nat} (hx : x < 4096) (hg : g 20 0 = Int32.ofNat x) : x20_r19_2 g = some (c_lim 2 2 g, g) := by
  have e : c_lim 2 2 g = k_cv (g 20 0).toNatClampNeg - (((if (0 : Int32) < ((2000 : Int32) - (g 20 1)) then ((2000 : Int32) - (g 20 1)) else (0 : Int32)) + (3 : Int32)) / (4 : Int32)) := rfl
  rw [e]
  unfold x20_r19_2
  rw [hg, Int32.toNatClampNeg_ofNat_of_lt (by omega), x21_eq g hx]
  rfl
set_option maxRecDepth 100000 in
set_option maxHeartbeats 4000000 in
theorem e19_2_2 (g : im_M) {x : Nat} (hx : x < 4096) (hg : g 20 0 = Int32.ofNat x) : x19_r19_2 g = some (bi (c_bey 2 2 g), g) := by
  have e : c_bey 2 2 g = !(Op.if_icmp.holds .le (g 20 2) (c_lim 2 2 g)) := rfl
  rw [e]
  unfold x19_r19_2 x19_r19_2_1
  rw [e20_2_2 g hx hg]
  simp only [Option.bind_some]
  cases Op.if_icmp.holds .le (g 20 2) (c_lim 2 2 g) <;> rfl
set_option maxRecDepth 100000 in
set_option maxHeartbeats 4000000 in
theorem e23_2_2 (g : im_M) {x : Nat} (hx : x < 4096) (hg : g 20 0 = Int32.ofNat x) : x23_r19_2 g = some (bi (c_ins 2 2 g), g) := by
  have e : c_ins 2 2 g = !(Op.if_icmp.holds .ge (g 20 2) (c_lim 2 2 g - (40 : Int32))) := rfl
  rw [e]
  unfold x23_r19_2 x23_r19_2_1
  rw [e20_2_2 g hx hg]
  simp only [Option.bind_some]
  cases Op.if_icmp.holds .ge (g 20 2) (c_lim 2 2 g - (40 : Int32)) <;> rfl
set_option maxRecDepth 100000 in
set_option maxHeartbeats 4000000 in
theorem e18a_2_2 (g : im_M) (d y : Int32) {x : Nat} (hx : x < 4096) (hg : (im_w g 23 2 y) 20 0 = Int32.ofNat x) : x18_r19_2_r1_1 g d y = some (0, c_mv1 2 2 (im_w g 23 2 y) y d) := by
  have e : c_mv1 2 2 (im_w g 23 2 y) y d = (bif Op.ifCond.holds .ne ((g 19 7) &&& (4 : Int32)) then (bif c_ins 2 2 (im_w g 23 2 y) then c_rec (im_w (im_w g 23 2 y) 19 7 (((im_w g 23 2 y) 19 7) &&& (-5 : Int32))) (4 : Int32) (2 : Int32) (2 : Int32) else (im_w g 23 2 y)) else (bif Op.if_icmp.holds .lt y d then (im_w g 23 2 y) else c_rec (im_w (im_w g 23 2 y) 19 7 ((g 19 7) ||| (4 : Int32))) (3 : Int32) (2 : Int32) (2 : Int32))) := rfl
  rw [e]
  unfold x18_r19_2_r1_1 x18_r19_2_r1_2
  rw [e23_2_2 (im_w g 23 2 y) hx hg]
  simp only [Option.bind_some, bi_eq, x15_eq]
  cases Op.ifCond.holds .ne ((g 19 7) &&& (4 : Int32)) <;> cases c_ins 2 2 (im_w g 23 2 y) <;> cases Op.if_icmp.holds .lt y d <;> rfl
set_option maxRecDepth 100000 in
set_option maxHeartbeats 4000000 in
theorem e18_2_2 (g : im_M) (d : Int32) {x : Nat} (hx : x < 4096) (hg : g 20 0 = Int32.ofNat x) : x18_r19_2_r1 g d = some (0, c_move 2 2 g d) := by
  have e : c_move 2 2 g d = (bif Op.ifCond.holds .eq ((g 19 6) &&& (4 : Int32)) then (bif c_bey 2 2 g then c_mv1 2 2 (im_w g 23 2 ((g 23 2) + (1 : Int32))) ((g 23 2) + (1 : Int32)) d else c_mv1 2 2 (im_w g 23 2 0) 0 d) else im_w g 23 2 0) := rfl
  rw [e]
  unfold x18_r19_2_r1
  rw [e19_2_2 g hx hg]
  simp only [Option.bind_some, bi_eq]
  rw [e18a_2_2 g d ((g 23 2) + (1 : Int32)) hx hg, e18a_2_2 g d 0 hx hg]
  cases Op.ifCond.holds .eq ((g 19 6) &&& (4 : Int32)) <;> cases c_bey 2 2 g <;> rfl
set_option maxRecDepth 100000 in
set_option maxHeartbeats 4000000 in
theorem e11_2_3 (g : im_M) (d y : Int32) {x : Nat} (hx : x < 4096) (hg : g 20 0 = Int32.ofNat x) : x11_r19_r1_3 g d y = some (0, im_w (im_w (c_ln1 2 2 (im_w g 22 2 y) d) 21 2 (c_ln1 2 2 (im_w g 22 2 y) d 20 2)) 19 5 0) := by
  unfold x11_r19_r1_3 c_ln1
  rw [e12_2_2]
  simp only [Option.bind_some]
  rw [e18_2_2 _ d hx (by rw [c_judge_o 2 2 _ (by decide) (by decide) (by decide), im_w_o _ _ _ (by decide)]; exact hg)]
  rfl
set_option maxRecDepth 100000 in
set_option maxHeartbeats 4000000 in
theorem e11_2_2 (g : im_M) (d y : Int32) {x : Nat} (hx : x < 4096) (hg : g 20 0 = Int32.ofNat x) : x11_r19_r1_2 g d y = x11_r19_r1_3 (im_w (c_ln1 2 1 (im_w g 22 1 y) d) 21 1 (c_ln1 2 1 (im_w g 22 1 y) d 20 1)) d (bif Op.ifCond.holds .eq ((c_ln1 2 1 (im_w g 22 1 y) d 19 5) &&& (4 : Int32)) then (c_ln1 2 1 (im_w g 22 1 y) d 22 2) + (1 : Int32) else 0) := by
  unfold x11_r19_r1_2 c_ln1
  rw [e12_2_1]
  simp only [Option.bind_some]
  rw [e18_2_1]
  simp only [Option.bind_some]
  cases Op.ifCond.holds .eq ((c_move 2 1 (c_judge 2 1 (im_w g 22 1 y)) d 19 5) &&& (4 : Int32)) <;> rfl
set_option maxRecDepth 100000 in
set_option maxHeartbeats 4000000 in
theorem e11_2_1 (g : im_M) (d y : Int32) {x : Nat} (hx : x < 4096) (hg : g 20 0 = Int32.ofNat x) : x11_r19_r1_1 g d y = x11_r19_r1_2 (im_w (c_ln1 2 0 (im_w g 22 0 y) d) 21 0 (c_ln1 2 0 (im_w g 22 0 y) d 20 0)) d (bif Op.ifCond.holds .eq ((c_ln1 2 0 (im_w g 22 0 y) d 19 5) &&& (2 : Int32)) then (c_ln1 2 0 (im_w g 22 0 y) d 22 1) + (1 : Int32) else 0) := by
  unfold x11_r19_r1_1 c_ln1
  rw [e12_2_0]
  simp only [Option.bind_some]
  rw [e18_2_0]
  simp only [Option.bind_some]
  cases Op.ifCond.holds .eq ((c_move 2 0 (c_judge 2 0 (im_w g 22 0 y)) d 19 5) &&& (2 : Int32)) <;> rfl
set_option maxRecDepth 100000 in
set_option maxHeartbeats 4000000 in
theorem e11_2 (g : im_M) (d : Int32) {x : Nat} (hx : x < 4096) (hg : g 20 0 = Int32.ofNat x) : x11_r19_r1 g d = some (0, c_look 2 g d) := by
  have h : x11_r19_r1 g d = x11_r19_r1_1 g d (bif Op.ifCond.holds .eq ((g 19 5) &&& (1 : Int32)) then (g 22 0) + (1 : Int32) else 0) := by
    unfold x11_r19_r1
    cases Op.ifCond.holds .eq ((g 19 5) &&& (1 : Int32)) <;> rfl
  rw [h, e11_2_1 g d _ hx hg, e11_2_2 _ d _ hx, e11_2_3 _ d _ hx]
  · rfl
  · rw [im_w_o _ _ _ (by decide), c_ln1_o 2 1 _ d (by decide) (by decide) (by decide) (by decide), im_w_o _ _ _ (by decide), im_w_o _ _ _ (by decide), c_ln1_o 2 0 _ d (by decide) (by decide) (by decide) (by decide), im_w_o _ _ _ (by decide)]
    exact hg
  · rw [im_w_o _ _ _ (by decide), c_ln1_o 2 0 _ d (by decide) (by decide) (by decide) (by decide), im_w_o _ _ _ (by decide)]
    exact hg
