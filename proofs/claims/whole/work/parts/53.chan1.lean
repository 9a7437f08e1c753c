/-! Channel 1: its printed functions are those of the memory (printed by wip/gen/rel1.py) -/
set_option maxRecDepth 100000 in
set_option maxHeartbeats 4000000 in
theorem e13_1_0 (g : im_M) (a : Bool) : x13_r14_0 g (bi a) = some (bi (c_isw 1 0 g a), g) := by
  have e : c_isw 1 0 g a = (Op.if_icmp.holds .lt (g 15 0) (50 : Int32) || (Op.if_icmp.holds .gt (g 15 0) (4000 : Int32) || ((a && Op.if_icmp.holds .gt (if 0 ≤ ((g 15 0) - (g 16 0)) then ((g 15 0) - (g 16 0)) else 0 - ((g 15 0) - (g 16 0))) (400 : Int32)) || !(Op.if_icmp.holds .lt (g 17 0) (13 : Int32))))) := rfl
  rw [e]
  unfold x13_r14_0 x13_r14_0_1
  rw [bi_eq]
  cases a <;> cases Op.if_icmp.holds .lt (g 15 0) (50 : Int32) <;> cases Op.if_icmp.holds .gt (g 15 0) (4000 : Int32) <;> cases Op.if_icmp.holds .gt (if 0 ≤ ((g 15 0) - (g 16 0)) then ((g 15 0) - (g 16 0)) else 0 - ((g 15 0) - (g 16 0))) (400 : Int32) <;> cases Op.if_icmp.holds .lt (g 17 0) (13 : Int32) <;> rfl
set_option maxRecDepth 100000 in
set_option maxHeartbeats 4000000 in
theorem e12_1_0 (g : im_M) : x12_r14_0_r1 g = some (0, c_judge 1 0 g) := by
  have e : c_judge 1 0 g = (bif c_isw 1 0 g (!(Op.if_icmp.holds .le (g 1 1) (1 : Int32))) then (bif Op.ifCond.holds .eq ((g 14 6) &&& (1 : Int32)) then c_rec (im_w g 14 6 ((g 14 6) ||| (1 : Int32))) (1 : Int32) (1 : Int32) (0 : Int32) else g) else (bif Op.ifCond.holds .eq ((g 14 6) &&& (1 : Int32)) then g else c_rec (im_w g 14 6 ((g 14 6) &&& (-2 : Int32))) (2 : Int32) (1 : Int32) (0 : Int32))) := rfl
  rw [e]
  have h0 : x13_r14_0 g 0 = some (bi (c_isw 1 0 g false), g) := e13_1_0 g false
  have h1 : x13_r14_0 g 1 = some (bi (c_isw 1 0 g true), g) := e13_1_0 g true
  unfold x12_r14_0_r1 x12_r14_0_r1_1 x12_r14_0_r1_2 x12_r14_0_r1_3
  cases Op.ifCond.holds .eq ((g 14 6) &&& (1 : Int32)) <;> cases Op.if_icmp.holds .le (g 1 1) (1 : Int32) <;> simp only [cond_true, cond_false, h0, h1, Option.bind_some, bi_eq, bi_ne, x15_eq, Bool.not_true, Bool.not_false]
  all_goals first | (cases c_isw 1 0 g true <;> rfl) | (cases c_isw 1 0 g false <;> rfl)
theorem e20_1_0 (g : im_M) : x20_r14_0 g = some (c_lim 1 0 g, g) := rfl
set_option maxRecDepth 100000 in
set_option maxHeartbeats 4000000 in
theorem e19_1_0 (g : im_M) : x19_r14_0 g = some (bi (c_bey 1 0 g), g) := by
  have e : c_bey 1 0 g = !(Op.if_icmp.holds .le (g 15 0) (c_lim 1 0 g)) := rfl
  rw [e]
  unfold x19_r14_0 x19_r14_0_1
  rw [e20_1_0 g]
  simp only [Option.bind_some]
  cases Op.if_icmp.holds .le (g 15 0) (c_lim 1 0 g) <;> rfl
set_option maxRecDepth 100000 in
set_option maxHeartbeats 4000000 in
theorem e23_1_0 (g : im_M) : x23_r14_0 g = some (bi (c_ins 1 0 g), g) := by
  have e : c_ins 1 0 g = !(Op.if_icmp.holds .ge (g 15 0) (c_lim 1 0 g - (40 : Int32))) := rfl
  rw [e]
  unfold x23_r14_0 x23_r14_0_1
  rw [e20_1_0 g]
  simp only [Option.bind_some]
  cases Op.if_icmp.holds .ge (g 15 0) (c_lim 1 0 g - (40 : Int32)) <;> rfl
set_option maxRecDepth 100000 in
set_option maxHeartbeats 4000000 in
theorem e18a_1_0 (g : im_M) (d y : Int32) : x18_r14_0_r1_1 g d y = some (0, c_mv1 1 0 (im_w g 18 0 y) y d) := by
  have e : c_mv1 1 0 (im_w g 18 0 y) y d = (bif Op.ifCond.holds .ne ((g 14 7) &&& (1 : Int32)) then (bif c_ins 1 0 (im_w g 18 0 y) then c_rec (im_w (im_w g 18 0 y) 14 7 (((im_w g 18 0 y) 14 7) &&& (-2 : Int32))) (4 : Int32) (1 : Int32) (0 : Int32) else (im_w g 18 0 y)) else (bif Op.if_icmp.holds .lt y d then (im_w g 18 0 y) else c_rec (im_w (im_w g 18 0 y) 14 7 ((g 14 7) ||| (1 : Int32))) (3 : Int32) (1 : Int32) (0 : Int32))) := rfl
  rw [e]
  unfold x18_r14_0_r1_1 x18_r14_0_r1_2
  rw [e23_1_0 (im_w g 18 0 y)]
  simp only [Option.bind_some, bi_eq, x15_eq]
  cases Op.ifCond.holds .ne ((g 14 7) &&& (1 : Int32)) <;> cases c_ins 1 0 (im_w g 18 0 y) <;> cases Op.if_icmp.holds .lt y d <;> rfl
set_option maxRecDepth 100000 in
set_option maxHeartbeats 4000000 in
theorem e18_1_0 (g : im_M) (d : Int32) : x18_r14_0_r1 g d = some (0, c_move 1 0 g d) := by
  have e : c_move 1 0 g d = (bif Op.ifCond.holds .eq ((g 14 6) &&& (1 : Int32)) then (bif c_bey 1 0 g then c_mv1 1 0 (im_w g 18 0 ((g 18 0) + (1 : Int32))) ((g 18 0) + (1 : Int32)) d else c_mv1 1 0 (im_w g 18 0 0) 0 d) else im_w g 18 0 0) := rfl
  rw [e]
  unfold x18_r14_0_r1
  rw [e19_1_0 g]
  simp only [Option.bind_some, bi_eq]
  rw [e18a_1_0 g d ((g 18 0) + (1 : Int32)), e18a_1_0 g d 0]
  cases Op.ifCond.holds .eq ((g 14 6) &&& (1 : Int32)) <;> cases c_bey 1 0 g <;> rfl
set_option maxRecDepth 100000 in
set_option maxHeartbeats 4000000 in
theorem e13_1_1 (g : im_M) (a : Bool) : x13_r14_1 g (bi a) = some (bi (c_isw 1 1 g a), g) := by
  have e : c_isw 1 1 g a = (Op.if_icmp.holds .lt (g 15 1) (50 : Int32) || (Op.if_icmp.holds .gt (g 15 1) (4000 : Int32) || ((a && Op.if_icmp.holds .gt (if 0 ≤ ((g 15 1) - (g 16 1)) then ((g 15 1) - (g 16 1)) else 0 - ((g 15 1) - (g 16 1))) (400 : Int32)) || !(Op.if_icmp.holds .lt (g 17 1) (13 : Int32))))) := rfl
  rw [e]
  unfold x13_r14_1 x13_r14_1_1
  rw [bi_eq]
  cases a <;> cases Op.if_icmp.holds .lt (g 15 1) (50 : Int32) <;> cases Op.if_icmp.holds .gt (g 15 1) (4000 : Int32) <;> cases Op.if_icmp.holds .gt (if 0 ≤ ((g 15 1) - (g 16 1)) then ((g 15 1) - (g 16 1)) else 0 - ((g 15 1) - (g 16 1))) (400 : Int32) <;> cases Op.if_icmp.holds .lt (g 17 1) (13 : Int32) <;> rfl
set_option maxRecDepth 100000 in
set_option maxHeartbeats 4000000 in
theorem e12_1_1 (g : im_M) : x12_r14_1_r1 g = some (0, c_judge 1 1 g) := by
  have e : c_judge 1 1 g = (bif c_isw 1 1 g (!(Op.if_icmp.holds .le (g 1 1) (1 : Int32))) then (bif Op.ifCond.holds .eq ((g 14 6) &&& (2 : Int32)) then c_rec (im_w g 14 6 ((g 14 6) ||| (2 : Int32))) (1 : Int32) (1 : Int32) (1 : Int32) else g) else (bif Op.ifCond.holds .eq ((g 14 6) &&& (2 : Int32)) then g else c_rec (im_w g 14 6 ((g 14 6) &&& (-3 : Int32))) (2 : Int32) (1 : Int32) (1 : Int32))) := rfl
  rw [e]
  have h0 : x13_r14_1 g 0 = some (bi (c_isw 1 1 g false), g) := e13_1_1 g false
  have h1 : x13_r14_1 g 1 = some (bi (c_isw 1 1 g true), g) := e13_1_1 g true
  unfold x12_r14_1_r1 x12_r14_1_r1_1 x12_r14_1_r1_2 x12_r14_1_r1_3
  cases Op.ifCond.holds .eq ((g 14 6) &&& (2 : Int32)) <;> cases Op.if_icmp.holds .le (g 1 1) (1 : Int32) <;> simp only [cond_true, cond_false, h0, h1, Option.bind_some, bi_eq, bi_ne, x15_eq, Bool.not_true, Bool.not_false]
  all_goals first | (cases c_isw 1 1 g true <;> rfl) | (cases c_isw 1 1 g false <;> rfl)
theorem e20_1_1 (g : im_M) : x20_r14_1 g = some (c_lim 1 1 g, g) := rfl
set_option maxRecDepth 100000 in
set_option maxHeartbeats 4000000 in
theorem e19_1_1 (g : im_M) : x19_r14_1 g = some (bi (c_bey 1 1 g), g) := by
  have e : c_bey 1 1 g = !(Op.if_icmp.holds .ge (g 15 1) (c_lim 1 1 g)) := rfl
  rw [e]
  unfold x19_r14_1 x19_r14_1_1
  rw [e20_1_1 g]
  simp only [Option.bind_some]
  cases Op.if_icmp.holds .ge (g 15 1) (c_lim 1 1 g) <;> rfl
set_option maxRecDepth 100000 in
set_option maxHeartbeats 4000000 in
theorem e23_1_1 (g : im_M) : x23_r14_1 g = some (bi (c_ins 1 1 g), g) := by
  have e : c_ins 1 1 g = !(Op.if_icmp.holds .le (g 15 1) (c_lim 1 1 g + (40 : Int32))) := rfl
  rw [e]
  unfold x23_r14_1 x23_r14_1_1
  rw [e20_1_1 g]
  simp only [Option.bind_some]
  cases Op.if_icmp.holds .le (g 15 1) (c_lim 1 1 g + (40 : Int32)) <;> rfl
set_option maxRecDepth 100000 in
set_option maxHeartbeats 4000000 in
theorem e18a_1_1 (g : im_M) (d y : Int32) : x18_r14_1_r1_1 g d y = some (0, c_mv1 1 1 (im_w g 18 1 y) y d) := by
  have e : c_mv1 1 1 (im_w g 18 1 y) y d = (bif Op.ifCond.holds .ne ((g 14 7) &&& (2 : Int32)) then (bif c_ins 1 1 (im_w g 18 1 y) then c_rec (im_w (im_w g 18 1 y) 14 7 (((im_w g 18 1 y) 14 7) &&& (-3 : Int32))) (4 : Int32) (1 : Int32) (1 : Int32) else (im_w g 18 1 y)) else (bif Op.if_icmp.holds .lt y d then (im_w g 18 1 y) else c_rec (im_w (im_w g 18 1 y) 14 7 ((g 14 7) ||| (2 : Int32))) (3 : Int32) (1 : Int32) (1 : Int32))) := rfl
  rw [e]
  unfold x18_r14_1_r1_1 x18_r14_1_r1_2
  rw [e23_1_1 (im_w g 18 1 y)]
  simp only [Option.bind_some, bi_eq, x15_eq]
  cases Op.ifCond.holds .ne ((g 14 7) &&& (2 : Int32)) <;> cases c_ins 1 1 (im_w g 18 1 y) <;> cases Op.if_icmp.holds .lt y d <;> rfl
set_option maxRecDepth 100000 in
set_option maxHeartbeats 4000000 in
theorem e18_1_1 (g : im_M) (d : Int32) : x18_r14_1_r1 g d = some (0, c_move 1 1 g d) := by
  have e : c_move 1 1 g d = (bif Op.ifCond.holds .eq ((g 14 6) &&& (2 : Int32)) then (bif c_bey 1 1 g then c_mv1 1 1 (im_w g 18 1 ((g 18 1) + (1 : Int32))) ((g 18 1) + (1 : Int32)) d else c_mv1 1 1 (im_w g 18 1 0) 0 d) else im_w g 18 1 0) := rfl
  rw [e]
  unfold x18_r14_1_r1
  rw [e19_1_1 g]
  simp only [Option.bind_some, bi_eq]
  rw [e18a_1_1 g d ((g 18 1) + (1 : Int32)), e18a_1_1 g d 0]
  cases Op.ifCond.holds .eq ((g 14 6) &&& (2 : Int32)) <;> cases c_bey 1 1 g <;> rfl
set_option maxRecDepth 100000 in
set_option maxHeartbeats 4000000 in
theorem e13_1_2 (g : im_M) (a : Bool) : x13_r14_2 g (bi a) = some (bi (c_isw 1 2 g a), g) := by
  have e : c_isw 1 2 g a = (Op.if_icmp.holds .lt (g 15 2) (50 : Int32) || (Op.if_icmp.holds .gt (g 15 2) (4000 : Int32) || ((a && Op.if_icmp.holds .gt (if 0 ≤ ((g 15 2) - (g 16 2)) then ((g 15 2) - (g 16 2)) else 0 - ((g 15 2) - (g 16 2))) (400 : Int32)) || !(Op.if_icmp.holds .lt (g 17 2) (13 : Int32))))) := rfl
  rw [e]
  unfold x13_r14_2 x13_r14_2_1
  rw [bi_eq]
  cases a <;> cases Op.if_icmp.holds .lt (g 15 2) (50 : Int32) <;> cases Op.if_icmp.holds .gt (g 15 2) (4000 : Int32) <;> cases Op.if_icmp.holds .gt (if 0 ≤ ((g 15 2) - (g 16 2)) then ((g 15 2) - (g 16 2)) else 0 - ((g 15 2) - (g 16 2))) (400 : Int32) <;> cases Op.if_icmp.holds .lt (g 17 2) (13 : Int32) <;> rfl
set_option maxRecDepth 100000 in
set_option maxHeartbeats 4000000 in
theorem e12_1_2 (g : im_M) : x12_r14_2_r1 g = some (0, c_judge 1 2 g) := by
  have e : c_judge 1 2 g = (bif c_isw 1 2 g (!(Op.if_icmp.holds .le (g 1 1) (1 : Int32))) then (bif Op.ifCond.holds .eq ((g 14 6) &&& (4 : Int32)) then c_rec (im_w g 14 6 ((g 14 6) ||| (4 : Int32))) (1 : Int32) (1 : Int32) (2 : Int32) else g) else (bif Op.ifCond.holds .eq ((g 14 6) &&& (4 : Int32)) then g else c_rec (im_w g 14 6 ((g 14 6) &&& (-5 : Int32))) (2 : Int32) (1 : Int32) (2 : Int32))) := rfl
  rw [e]
  have h0 : x13_r14_2 g 0 = some (bi (c_isw 1 2 g false), g) := e13_1_2 g false
  have h1 : x13_r14_2 g 1 = some (bi (c_isw 1 2 g true), g) := e13_1_2 g true
  unfold x12_r14_2_r1 x12_r14_2_r1_1 x12_r14_2_r1_2 x12_r14_2_r1_3
  cases Op.ifCond.holds .eq ((g 14 6) &&& (4 : Int32)) <;> cases Op.if_icmp.holds .le (g 1 1) (1 : Int32) <;> simp only [cond_true, cond_false, h0, h1, Option.bind_some, bi_eq, bi_ne, x15_eq, Bool.not_true, Bool.not_false]
  all_goals first | (cases c_isw 1 2 g true <;> rfl) | (cases c_isw 1 2 g false <;> rfl)
set_option maxRecDepth 100000 in
set_option maxHeartbeats 4000000 in
theorem e20_1_2 (g : im_M) {x : Nat} (hx : x < 4096) (hg : g 15 0 = Int32.ofNat x) : x20_r14_2 g = some (c_lim 1 2 g, g) := by
  have e : c_lim 1 2 g = k_cv (g 15 0).toNatClampNeg - (((if (0 : Int32) < ((2000 : Int32) - (g 15 1)) then ((2000 : Int32) - (g 15 1)) else (0 : Int32)) + (3 : Int32)) / (4 : Int32)) := rfl
  rw [e]
  unfold x20_r14_2
  rw [hg, Int32.toNatClampNeg_ofNat_of_lt (by omega), x21_eq g hx]
  rfl
set_option maxRecDepth 100000 in
set_option maxHeartbeats 4000000 in
theorem e19_1_2 (g : im_M) {x : Nat} (hx : x < 4096) (hg : g 15 0 = Int32.ofNat x) : x19_r14_2 g = some (bi (c_bey 1 2 g), g) := by
  have e : c_bey 1 2 g = !(Op.if_icmp.holds .le (g 15 2) (c_lim 1 2 g)) := rfl
  rw [e]
  unfold x19_r14_2 x19_r14_2_1
  rw [e20_1_2 g hx hg]
  simp only [Option.bind_some]
  cases Op.if_icmp.holds .le (g 15 2) (c_lim 1 2 g) <;> rfl
set_option maxRecDepth 100000 in
set_option maxHeartbeats 4000000 in
theorem e23_1_2 (g : im_M) {x : Nat} (hx : x < 4096) (hg : g 15 0 = Int32.ofNat x) : x23_r14_2 g = some (bi (c_ins 1 2 g), g) := by
  have e : c_ins 1 2 g = !(Op.if_icmp.holds .ge (g 15 2) (c_lim 1 2 g - (40 : Int32))) := rfl
  rw [e]
  unfold x23_r14_2 x23_r14_2_1
  rw [e20_1_2 g hx hg]
  simp only [Option.bind_some]
  cases Op.if_icmp.holds .ge (g 15 2) (c_lim 1 2 g - (40 : Int32)) <;> rfl
set_option maxRecDepth 100000 in
set_option maxHeartbeats 4000000 in
theorem e18a_1_2 (g : im_M) (d y : Int32) {x : Nat} (hx : x < 4096) (hg : (im_w g 18 2 y) 15 0 = Int32.ofNat x) : x18_r14_2_r1_1 g d y = some (0, c_mv1 1 2 (im_w g 18 2 y) y d) := by
  have e : c_mv1 1 2 (im_w g 18 2 y) y d = (bif Op.ifCond.holds .ne ((g 14 7) &&& (4 : Int32)) then (bif c_ins 1 2 (im_w g 18 2 y) then c_rec (im_w (im_w g 18 2 y) 14 7 (((im_w g 18 2 y) 14 7) &&& (-5 : Int32))) (4 : Int32) (1 : Int32) (2 : Int32) else (im_w g 18 2 y)) else (bif Op.if_icmp.holds .lt y d then (im_w g 18 2 y) else c_rec (im_w (im_w g 18 2 y) 14 7 ((g 14 7) ||| (4 : Int32))) (3 : Int32) (1 : Int32) (2 : Int32))) := rfl
  rw [e]
  unfold x18_r14_2_r1_1 x18_r14_2_r1_2
  rw [e23_1_2 (im_w g 18 2 y) hx hg]
  simp only [Option.bind_some, bi_eq, x15_eq]
  cases Op.ifCond.holds .ne ((g 14 7) &&& (4 : Int32)) <;> cases c_ins 1 2 (im_w g 18 2 y) <;> cases Op.if_icmp.holds .lt y d <;> rfl
set_option maxRecDepth 100000 in
set_option maxHeartbeats 4000000 in
theorem e18_1_2 (g : im_M) (d : Int32) {x : Nat} (hx : x < 4096) (hg : g 15 0 = Int32.ofNat x) : x18_r14_2_r1 g d = some (0, c_move 1 2 g d) := by
  have e : c_move 1 2 g d = (bif Op.ifCond.holds .eq ((g 14 6) &&& (4 : Int32)) then (bif c_bey 1 2 g then c_mv1 1 2 (im_w g 18 2 ((g 18 2) + (1 : Int32))) ((g 18 2) + (1 : Int32)) d else c_mv1 1 2 (im_w g 18 2 0) 0 d) else im_w g 18 2 0) := rfl
  rw [e]
  unfold x18_r14_2_r1
  rw [e19_1_2 g hx hg]
  simp only [Option.bind_some, bi_eq]
  rw [e18a_1_2 g d ((g 18 2) + (1 : Int32)) hx hg, e18a_1_2 g d 0 hx hg]
  cases Op.ifCond.holds .eq ((g 14 6) &&& (4 : Int32)) <;> cases c_bey 1 2 g <;> rfl
set_option maxRecDepth 100000 in
set_option maxHeartbeats 4000000 in
theorem e11_1_3 (g : im_M) (d y : Int32) {x : Nat} (hx : x < 4096) (hg : g 15 0 = Int32.ofNat x) : x11_r14_r1_3 g d y = some (0, im_w (im_w (c_ln1 1 2 (im_w g 17 2 y) d) 16 2 (c_ln1 1 2 (im_w g 17 2 y) d 15 2)) 14 5 0) := by
  unfold x11_r14_r1_3 c_ln1
  rw [e12_1_2]
  simp only [Option.bind_some]
  rw [e18_1_2 _ d hx (by rw [c_judge_o 1 2 _ (by decide) (by decide) (by decide), im_w_o _ _ _ (by decide)]; exact hg)]
  rfl
set_option maxRecDepth 100000 in
set_option maxHeartbeats 4000000 in
theorem e11_1_2 (g : im_M) (d y : Int32) {x : Nat} (hx : x < 4096) (hg : g 15 0 = Int32.ofNat x) : x11_r14_r1_2 g d y = x11_r14_r1_3 (im_w (c_ln1 1 1 (im_w g 17 1 y) d) 16 1 (c_ln1 1 1 (im_w g 17 1 y) d 15 1)) d (bif Op.ifCond.holds .eq ((c_ln1 1 1 (im_w g 17 1 y) d 14 5) &&& (4 : Int32)) then (c_ln1 1 1 (im_w g 17 1 y) d 17 2) + (1 : Int32) else 0) := by
  unfold x11_r14_r1_2 c_ln1
  rw [e12_1_1]
  simp only [Option.bind_some]
  rw [e18_1_1]
  simp only [Option.bind_some]
  cases Op.ifCond.holds .eq ((c_move 1 1 (c_judge 1 1 (im_w g 17 1 y)) d 14 5) &&& (4 : Int32)) <;> rfl
set_option maxRecDepth 100000 in
set_option maxHeartbeats 4000000 in
theorem e11_1_1 (g : im_M) (d y : Int32) {x : Nat} (hx : x < 4096) (hg : g 15 0 = Int32.ofNat x) : x11_r14_r1_1 g d y = x11_r14_r1_2 (im_w (c_ln1 1 0 (im_w g 17 0 y) d) 16 0 (c_ln1 1 0 (im_w g 17 0 y) d 15 0)) d (bif Op.ifCond.holds .eq ((c_ln1 1 0 (im_w g 17 0 y) d 14 5) &&& (2 : Int32)) then (c_ln1 1 0 (im_w g 17 0 y) d 17 1) + (1 : Int32) else 0) := by
  unfold x11_r14_r1_1 c_ln1
  rw [e12_1_0]
  simp only [Option.bind_some]
  rw [e18_1_0]
  simp only [Option.bind_some]
  cases Op.ifCond.holds .eq ((c_move 1 0 (c_judge 1 0 (im_w g 17 0 y)) d 14 5) &&& (2 : Int32)) <;> rfl
set_option maxRecDepth 100000 in
set_option maxHeartbeats 4000000 in
theorem e11_1 (g : im_M) (d : Int32) {x : Nat} (hx : x < 4096) (hg : g 15 0 = Int32.ofNat x) : x11_r14_r1 g d = some (0, c_look 1 g d) := by
  have h : x11_r14_r1 g d = x11_r14_r1_1 g d (bif Op.ifCond.holds .eq ((g 14 5) &&& (1 : Int32)) then (g 17 0) + (1 : Int32) else 0) := by
    unfold x11_r14_r1
    cases Op.ifCond.holds .eq ((g 14 5) &&& (1 : Int32)) <;> rfl
  rw [h, e11_1_1 g d _ hx hg, e11_1_2 _ d _ hx, e11_1_3 _ d _ hx]
  · rfl
  · rw [im_w_o _ _ _ (by decide), c_ln1_o 1 1 _ d (by decide) (by decide) (by decide) (by decide), im_w_o _ _ _ (by decide), im_w_o _ _ _ (by decide), c_ln1_o 1 0 _ d (by decide) (by decide) (by decide) (by decide), im_w_o _ _ _ (by decide)]
    exact hg
  · rw [im_w_o _ _ _ (by decide), c_ln1_o 1 0 _ d (by decide) (by decide) (by decide) (by decide), im_w_o _ _ _ (by decide)]
    exact hg
