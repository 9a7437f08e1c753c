/-! Channel 0: its printed functions are those of the memory (printed by wip/gen/rel1.py) -/
set_option maxRecDepth 100000 in
set_option maxHeartbeats 4000000 in
theorem e13_0_0 (g : im_M) (a : Bool) : x13_r9_0 g (bi a) = some (bi (c_isw 0 0 g a), g) := by
  have e : c_isw 0 0 g a = (Op.if_icmp.holds .lt (g 10 0) (50 : Int32) || (Op.if_icmp.holds .gt (g 10 0) (4000 : Int32) || ((a && Op.if_icmp.holds .gt (if 0 ≤ ((g 10 0) - (g 11 0)) then ((g 10 0) - (g 11 0)) else 0 - ((g 10 0) - (g 11 0))) (400 : Int32)) || !(Op.if_icmp.holds .lt (g 12 0) (13 : Int32))))) := rfl
  rw [e]
  unfold x13_r9_0 x13_r9_0_1
  rw [bi_eq]
  cases a <;> cases Op.if_icmp.holds .lt (g 10 0) (50 : Int32) <;> cases Op.if_icmp.holds .gt (g 10 0) (4000 : Int32) <;> cases Op.if_icmp.holds .gt (if 0 ≤ ((g 10 0) - (g 11 0)) then ((g 10 0) - (g 11 0)) else 0 - ((g 10 0) - (g 11 0))) (400 : Int32) <;> cases Op.if_icmp.holds .lt (g 12 0) (13 : Int32) <;> rfl
set_option maxRecDepth 100000 in
set_option maxHeartbeats 4000000 in
theorem e12_0_0 (g : im_M) : x12_r9_0_r1 g = some (0, c_judge 0 0 g) := by
  have e : c_judge 0 0 g = (bif c_isw 0 0 g (!(Op.if_icmp.holds .le (g 1 1) (1 : Int32))) then (bif Op.ifCond.holds .eq ((g 9 6) &&& (1 : Int32)) then c_rec (im_w g 9 6 ((g 9 6) ||| (1 : Int32))) (1 : Int32) (0 : Int32) (0 : Int32) else g) else (bif Op.ifCond.holds .eq ((g 9 6) &&& (1 : Int32)) then g else c_rec (im_w g 9 6 ((g 9 6) &&& (-2 : Int32))) (2 : Int32) (0 : Int32) (0 : Int32))) := rfl
  rw [e]
  have h0 : x13_r9_0 g 0 = some (bi (c_isw 0 0 g false), g) := e13_0_0 g false
  have h1 : x13_r9_0 g 1 = some (bi (c_isw 0 0 g true), g) := e13_0_0 g true
  unfold x12_r9_0_r1 x12_r9_0_r1_1 x12_r9_0_r1_2 x12_r9_0_r1_3
  cases Op.ifCond.holds .eq ((g 9 6) &&& (1 : Int32)) <;> cases Op.if_icmp.holds .le (g 1 1) (1 : Int32) <;> simp only [cond_true, cond_false, h0, h1, Option.bind_some, bi_eq, bi_ne, x15_eq, Bool.not_true, Bool.not_false]
  all_goals first | (cases c_isw 0 0 g true <;> rfl) | (cases c_isw 0 0 g false <;> rfl)
theorem e20_0_0 (g : im_M) : x20_r9_0 g = some (c_lim 0 0 g, g) := rfl
set_option maxRecDepth 100000 in
set_option maxHeartbeats 4000000 in
theorem e19_0_0 (g : im_M) : x19_r9_0 g = some (bi (c_bey 0 0 g), g) := by
  have e : c_bey 0 0 g = !(Op.if_icmp.holds .le (g 10 0) (c_lim 0 0 g)) := rfl
  rw [e]
  unfold x19_r9_0 x19_r9_0_1
  rw [e20_0_0 g]
  simp only [Option.bind_some]
  cases Op.if_icmp.holds .le (g 10 0) (c_lim 0 0 g) <;> rfl
set_option maxRecDepth 100000 in
set_option maxHeartbeats 4000000 in
theorem e23_0_0 (g : im_M) : x23_r9_0 g = some (bi (c_ins 0 0 g), g) := by
  have e : c_ins 0 0 g = !(Op.if_icmp.holds .ge (g 10 0) (c_lim 0 0 g - (40 : Int32))) := rfl
  rw [e]
  unfold x23_r9_0 x23_r9_0_1
  rw [e20_0_0 g]
  simp only [Option.bind_some]
  cases Op.if_icmp.holds .ge (g 10 0) (c_lim 0 0 g - (40 : Int32)) <;> rfl
set_option maxRecDepth 100000 in
set_option maxHeartbeats 4000000 in
theorem e18a_0_0 (g : im_M) (d y : Int32) : x18_r9_0_r1_1 g d y = some (0, c_mv1 0 0 (im_w g 13 0 y) y d) := by
  have e : c_mv1 0 0 (im_w g 13 0 y) y d = (bif Op.ifCond.holds .ne ((g 9 7) &&& (1 : Int32)) then (bif c_ins 0 0 (im_w g 13 0 y) then c_rec (im_w (im_w g 13 0 y) 9 7 (((im_w g 13 0 y) 9 7) &&& (-2 : Int32))) (4 : Int32) (0 : Int32) (0 : Int32) else (im_w g 13 0 y)) else (bif Op.if_icmp.holds .lt y d then (im_w g 13 0 y) else c_rec (im_w (im_w g 13 0 y) 9 7 ((g 9 7) ||| (1 : Int32))) (3 : Int32) (0 : Int32) (0 : Int32))) := rfl
  rw [e]
  unfold x18_r9_0_r1_1 x18_r9_0_r1_2
  rw [e23_0_0 (im_w g 13 0 y)]
  simp only [Option.bind_some, bi_eq, x15_eq]
  cases Op.ifCond.holds .ne ((g 9 7) &&& (1 : Int32)) <;> cases c_ins 0 0 (im_w g 13 0 y) <;> cases Op.if_icmp.holds .lt y d <;> rfl
set_option maxRecDepth 100000 in
set_option maxHeartbeats 4000000 in
theorem e18_0_0 (g : im_M) (d : Int32) : x18_r9_0_r1 g d = some (0, c_move 0 0 g d) := by
  have e : c_move 0 0 g d = (bif Op.ifCond.holds .eq ((g 9 6) &&& (1 : Int32)) then (bif c_bey 0 0 g then c_mv1 0 0 (im_w g 13 0 ((g 13 0) + (1 : Int32))) ((g 13 0) + (1 : Int32)) d else c_mv1 0 0 (im_w g 13 0 0) 0 d) else im_w g 13 0 0) := rfl
  rw [e]
  unfold x18_r9_0_r1
  rw [e19_0_0 g]
  simp only [Option.bind_some, bi_eq]
  rw [e18a_0_0 g d ((g 13 0) + (1 : Int32)), e18a_0_0 g d 0]
  cases Op.ifCond.holds .eq ((g 9 6) &&& (1 : Int32)) <;> cases c_bey 0 0 g <;> rfl
set_option maxRecDepth 100000 in
set_option maxHeartbeats 4000000 in
theorem e13_0_1 (g : im_M) (a : Bool) : x13_r9_1 g (bi a) = some (bi (c_isw 0 1 g a), g) := by
  have e : c_isw 0 1 g a = (Op.if_icmp.holds .lt (g 10 1) (50 : Int32) || (Op.if_icmp.holds .gt (g 10 1) (4000 : Int32) || ((a && Op.if_icmp.holds .gt (if 0 ≤ ((g 10 1) - (g 11 1)) then ((g 10 1) - (g 11 1)) else 0 - ((g 10 1) - (g 11 1))) (400 : Int32)) || !(Op.if_icmp.holds .lt (g 12 1) (13 : Int32))))) := rfl
  rw [e]
  unfold x13_r9_1 x13_r9_1_1
  rw [bi_eq]
  cases a <;> cases Op.if_icmp.holds .lt (g 10 1) (50 : Int32) <;> cases Op.if_icmp.holds .gt (g 10 1) (4000 : Int32) <;> cases Op.if_icmp.holds .gt (if 0 ≤ ((g 10 1) - (g 11 1)) then ((g 10 1) - (g 11 1)) else 0 - ((g 10 1) - (g 11 1))) (400 : Int32) <;> cases Op.if_icmp.holds .lt (g 12 1) (13 : Int32) <;> rfl
set_option maxRecDepth 100000 in
set_option maxHeartbeats 4000000 in
theorem e12_0_1 (g : im_M) : x12_r9_1_r1 g = some (0, c_judge 0 1 g) := by
  have e : c_judge 0 1 g = (bif c_isw 0 1 g (!(Op.if_icmp.holds .le (g 1 1) (1 : Int32))) then (bif Op.ifCond.holds .eq ((g 9 6) &&& (2 : Int32)) then c_rec (im_w g 9 6 ((g 9 6) ||| (2 : Int32))) (1 : Int32) (0 : Int32) (1 : Int32) else g) else (bif Op.ifCond.holds .eq ((g 9 6) &&& (2 : Int32)) then g else c_rec (im_w g 9 6 ((g 9 6) &&& (-3 : Int32))) (2 : Int32) (0 : Int32) (1 : Int32))) := rfl
  rw [e]
  have h0 : x13_r9_1 g 0 = some (bi (c_isw 0 1 g false), g) := e13_0_1 g false
  have h1 : x13_r9_1 g 1 = some (bi (c_isw 0 1 g true), g) := e13_0_1 g true
  unfold x12_r9_1_r1 x12_r9_1_r1_1 x12_r9_1_r1_2 x12_r9_1_r1_3
  cases Op.ifCond.holds .eq ((g 9 6) &&& (2 : Int32)) <;> cases Op.if_icmp.holds .le (g 1 1) (1 : Int32) <;> simp only [cond_true, cond_false, h0, h1, Option.bind_some, bi_eq, bi_ne, x15_eq, Bool.not_true, Bool.not_false]
  all_goals first | (cases c_isw 0 1 g true <;> rfl) | (cases c_isw 0 1 g false <;> rfl)
theorem e20_0_1 (g : im_M) : x20_r9_1 g = some (c_lim 0 1 g, g) := rfl
set_option maxRecDepth 100000 in
set_option maxHeartbeats 4000000 in
theorem e19_0_1 (g : im_M) : x19_r9_1 g = some (bi (c_bey 0 1 g), g) := by
  have e : c_bey 0 1 g = !(Op.if_icmp.holds .ge (g 10 1) (c_lim 0 1 g)) := rfl
  rw [e]
  unfold x19_r9_1 x19_r9_1_1
  rw [e20_0_1 g]
  simp only [Option.bind_some]
  cases Op.if_icmp.holds .ge (g 10 1) (c_lim 0 1 g) <;> rfl
set_option maxRecDepth 100000 in
set_option maxHeartbeats 4000000 in
theorem e23_0_1 (g : im_M) : x23_r9_1 g = some (bi (c_ins 0 1 g), g) := by
  have e : c_ins 0 1 g = !(Op.if_icmp.holds .le (g 10 1) (c_lim 0 1 g + (40 : Int32))) := rfl
  rw [e]
  unfold x23_r9_1 x23_r9_1_1
  rw [e20_0_1 g]
  simp only [Option.bind_some]
  cases Op.if_icmp.holds .le (g 10 1) (c_lim 0 1 g + (40 : Int32)) <;> rfl
set_option maxRecDepth 100000 in
set_option maxHeartbeats 4000000 in
theorem e18a_0_1 (g : im_M) (d y : Int32) : x18_r9_1_r1_1 g d y = some (0, c_mv1 0 1 (im_w g 13 1 y) y d) := by
  have e : c_mv1 0 1 (im_w g 13 1 y) y d = (bif Op.ifCond.holds .ne ((g 9 7) &&& (2 : Int32)) then (bif c_ins 0 1 (im_w g 13 1 y) then c_rec (im_w (im_w g 13 1 y) 9 7 (((im_w g 13 1 y) 9 7) &&& (-3 : Int32))) (4 : Int32) (0 : Int32) (1 : Int32) else (im_w g 13 1 y)) else (bif Op.if_icmp.holds .lt y d then (im_w g 13 1 y) else c_rec (im_w (im_w g 13 1 y) 9 7 ((g 9 7) ||| (2 : Int32))) (3 : Int32) (0 : Int32) (1 : Int32))) := rfl
  rw [e]
  unfold x18_r9_1_r1_1 x18_r9_1_r1_2
  rw [e23_0_1 (im_w g 13 1 y)]
  simp only [Option.bind_some, bi_eq, x15_eq]
  cases Op.ifCond.holds .ne ((g 9 7) &&& (2 : Int32)) <;> cases c_ins 0 1 (im_w g 13 1 y) <;> cases Op.if_icmp.holds .lt y d <;> rfl
set_option maxRecDepth 100000 in
set_option maxHeartbeats 4000000 in
theorem e18_0_1 (g : im_M) (d : Int32) : x18_r9_1_r1 g d = some (0, c_move 0 1 g d) := by
  have e : c_move 0 1 g d = (bif Op.ifCond.holds .eq ((g 9 6) &&& (2 : Int32)) then (bif c_bey 0 1 g then c_mv1 0 1 (im_w g 13 1 ((g 13 1) + (1 : Int32))) ((g 13 1) + (1 : Int32)) d else c_mv1 0 1 (im_w g 13 1 0) 0 d) else im_w g 13 1 0) := rfl
  rw [e]
  unfold x18_r9_1_r1
  rw [e19_0_1 g]
  simp only [Option.bind_some, bi_eq]
  rw [e18a_0_1 g d ((g 13 1) + (1 : Int32)), e18a_0_1 g d 0]
  cases Op.ifCond.holds .eq ((g 9 6) &&& (2 : Int32)) <;> cases c_bey 0 1 g <;> rfl
set_option maxRecDepth 100000 in
set_option maxHeartbeats 4000000 in
theorem e13_0_2 (g : im_M) (a : Bool) : x13_r9_2 g (bi a) = some (bi (c_isw 0 2 g a), g) := by
  have e : c_isw 0 2 g a = (Op.if_icmp.holds .lt (g 10 2) (50 : Int32) || (Op.if_icmp.holds .gt (g 10 2) (4000 : Int32) || ((a && Op.if_icmp.holds .gt (if 0 ≤ ((g 10 2) - (g 11 2)) then ((g 10 2) - (g 11 2)) else 0 - ((g 10 2) - (g 11 2))) (400 : Int32)) || !(Op.if_icmp.holds .lt (g 12 2) (13 : Int32))))) := rfl
  rw [e]
  unfold x13_r9_2 x13_r9_2_1
  rw [bi_eq]
  cases a <;> cases Op.if_icmp.holds .lt (g 10 2) (50 : Int32) <;> cases Op.if_icmp.holds .gt (g 10 2) (4000 : Int32) <;> cases Op.if_icmp.holds .gt (if 0 ≤ ((g 10 2) - (g 11 2)) then ((g 10 2) - (g 11 2)) else 0 - ((g 10 2) - (g 11 2))) (400 : Int32) <;> cases Op.if_icmp.holds .lt (g 12 2) (13 : Int32) <;> rfl
set_option maxRecDepth 100000 in
set_option maxHeartbeats 4000000 in
theorem e12_0_2 (g : im_M) : x12_r9_2_r1 g = some (0, c_judge 0 2 g) := by
  have e : c_judge 0 2 g = (bif c_isw 0 2 g (!(Op.if_icmp.holds .le (g 1 1) (1 : Int32))) then (bif Op.ifCond.holds .eq ((g 9 6) &&& (4 : Int32)) then c_rec (im_w g 9 6 ((g 9 6) ||| (4 : Int32))) (1 : Int32) (0 : Int32) (2 : Int32) else g) else (bif Op.ifCond.holds .eq ((g 9 6) &&& (4 : Int32)) then g else c_rec (im_w g 9 6 ((g 9 6) &&& (-5 : Int32))) (2 : Int32) (0 : Int32) (2 : Int32))) := rfl
  rw [e]
  have h0 : x13_r9_2 g 0 = some (bi (c_isw 0 2 g false), g) := e13_0_2 g false
  have h1 : x13_r9_2 g 1 = some (bi (c_isw 0 2 g true), g) := e13_0_2 g true
  unfold x12_r9_2_r1 x12_r9_2_r1_1 x12_r9_2_r1_2 x12_r9_2_r1_3
  cases Op.ifCond.holds .eq ((g 9 6) &&& (4 : Int32)) <;> cases Op.if_icmp.holds .le (g 1 1) (1 : Int32) <;> simp only [cond_true, cond_false, h0, h1, Option.bind_some, bi_eq, bi_ne, x15_eq, Bool.not_true, Bool.not_false]
  all_goals first | (cases c_isw 0 2 g true <;> rfl) | (cases c_isw 0 2 g false <;> rfl)
set_option maxRecDepth 100000 in
set_option maxHeartbeats 4000000 in
theorem e20_0_2 (g : im_M) {x : Nat} (hx : x < 4096) (hg : g 10 0 = Int32.ofNat x) : x20_r9_2 g = some (c_lim 0 2 g, g) := by
  have e : c_lim 0 2 g = k_cv (g 10 0).toNatClampNeg - (((if (0 : Int32) < ((2000 : Int32) - (g 10 1)) then ((2000 : Int32) - (g 10 1)) else (0 : Int32)) + (3 : Int32)) / (4 : Int32)) := rfl
  rw [e]
  unfold x20_r9_2
  rw [hg, Int32.toNatClampNeg_ofNat_of_lt (by omega), x21_eq g hx]
  rfl
set_option maxRecDepth 100000 in
set_option maxHeartbeats 4000000 in
theorem e19_0_2 (g : im_M) {x : Nat} (hx : x < 4096) (hg : g 10 0 = Int32.ofNat x) : x19_r9_2 g = some (bi (c_bey 0 2 g), g) := by
  have e : c_bey 0 2 g = !(Op.if_icmp.holds .le (g 10 2) (c_lim 0 2 g)) := rfl
  rw [e]
  unfold x19_r9_2 x19_r9_2_1
  rw [e20_0_2 g hx hg]
  simp only [Option.bind_some]
  cases Op.if_icmp.holds .le (g 10 2) (c_lim 0 2 g) <;> rfl
set_option maxRecDepth 100000 in
set_option maxHeartbeats 4000000 in
theorem e23_0_2 (g : im_M) {x : Nat} (hx : x < 4096) (hg : g 10 0 = Int32.ofNat x) : x23_r9_2 g = some (bi (c_ins 0 2 g), g) := by
  have e : c_ins 0 2 g = !(Op.if_icmp.holds .ge (g 10 2) (c_lim 0 2 g - (40 : Int32))) := rfl
  rw [e]
  unfold x23_r9_2 x23_r9_2_1
  rw [e20_0_2 g hx hg]
  simp only [Option.bind_some]
  cases Op.if_icmp.holds .ge (g 10 2) (c_lim 0 2 g - (40 : Int32)) <;> rfl
set_option maxRecDepth 100000 in
set_option maxHeartbeats 4000000 in
theorem e18a_0_2 (g : im_M) (d y : Int32) {x : Nat} (hx : x < 4096) (hg : (im_w g 13 2 y) 10 0 = Int32.ofNat x) : x18_r9_2_r1_1 g d y = some (0, c_mv1 0 2 (im_w g 13 2 y) y d) := by
  have e : c_mv1 0 2 (im_w g 13 2 y) y d = (bif Op.ifCond.holds .ne ((g 9 7) &&& (4 : Int32)) then (bif c_ins 0 2 (im_w g 13 2 y) then c_rec (im_w (im_w g 13 2 y) 9 7 (((im_w g 13 2 y) 9 7) &&& (-5 : Int32))) (4 : Int32) (0 : Int32) (2 : Int32) else (im_w g 13 2 y)) else (bif Op.if_icmp.holds .lt y d then (im_w g 13 2 y) else c_rec (im_w (im_w g 13 2 y) 9 7 ((g 9 7) ||| (4 : Int32))) (3 : Int32) (0 : Int32) (2 : Int32))) := rfl
  rw [e]
  unfold x18_r9_2_r1_1 x18_r9_2_r1_2
  rw [e23_0_2 (im_w g 13 2 y) hx hg]
  simp only [Option.bind_some, bi_eq, x15_eq]
  cases Op.ifCond.holds .ne ((g 9 7) &&& (4 : Int32)) <;> cases c_ins 0 2 (im_w g 13 2 y) <;> cases Op.if_icmp.holds .lt y d <;> rfl
set_option maxRecDepth 100000 in
set_option maxHeartbeats 4000000 in
theorem e18_0_2 (g : im_M) (d : Int32) {x : Nat} (hx : x < 4096) (hg : g 10 0 = Int32.ofNat x) : x18_r9_2_r1 g d = some (0, c_move 0 2 g d) := by
  have e : c_move 0 2 g d = (bif Op.ifCond.holds .eq ((g 9 6) &&& (4 : Int32)) then (bif c_bey 0 2 g then c_mv1 0 2 (im_w g 13 2 ((g 13 2) + (1 : Int32))) ((g 13 2) + (1 : Int32)) d else c_mv1 0 2 (im_w g 13 2 0) 0 d) else im_w g 13 2 0) := rfl
  rw [e]
  unfold x18_r9_2_r1
  rw [e19_0_2 g hx hg]
  simp only [Option.bind_some, bi_eq]
  rw [e18a_0_2 g d ((g 13 2) + (1 : Int32)) hx hg, e18a_0_2 g d 0 hx hg]
  cases Op.ifCond.holds .eq ((g 9 6) &&& (4 : Int32)) <;> cases c_bey 0 2 g <;> rfl
set_option maxRecDepth 100000 in
set_option maxHeartbeats 4000000 in
theorem e11_0_3 (g : im_M) (d y : Int32) {x : Nat} (hx : x < 4096) (hg : g 10 0 = Int32.ofNat x) : x11_r9_r1_3 g d y = some (0, im_w (im_w (c_ln1 0 2 (im_w g 12 2 y) d) 11 2 (c_ln1 0 2 (im_w g 12 2 y) d 10 2)) 9 5 0) := by
  unfold x11_r9_r1_3 c_ln1
  rw [e12_0_2]
  simp only [Option.bind_some]
  rw [e18_0_2 _ d hx (by rw [c_judge_o 0 2 _ (by decide) (by decide) (by decide), im_w_o _ _ _ (by decide)]; exact hg)]
  rfl
set_option maxRecDepth 100000 in
set_option maxHeartbeats 4000000 in
theorem e11_0_2 (g : im_M) (d y : Int32) {x : Nat} (hx : x < 4096) (hg : g 10 0 = Int32.ofNat x) : x11_r9_r1_2 g d y = x11_r9_r1_3 (im_w (c_ln1 0 1 (im_w g 12 1 y) d) 11 1 (c_ln1 0 1 (im_w g 12 1 y) d 10 1)) d (bif Op.ifCond.holds .eq ((c_ln1 0 1 (im_w g 12 1 y) d 9 5) &&& (4 : Int32)) then (c_ln1 0 1 (im_w g 12 1 y) d 12 2) + (1 : Int32) else 0) := by
  unfold x11_r9_r1_2 c_ln1
  rw [e12_0_1]
  simp only [Option.bind_some]
  rw [e18_0_1]
  simp only [Option.bind_some]
  cases Op.ifCond.holds .eq ((c_move 0 1 (c_judge 0 1 (im_w g 12 1 y)) d 9 5) &&& (4 : Int32)) <;> rfl
set_option maxRecDepth 100000 in
set_option maxHeartbeats 4000000 in
theorem e11_0_1 (g : im_M) (d y : Int32) {x : Nat} (hx : x < 4096) (hg : g 10 0 = Int32.ofNat x) : x11_r9_r1_1 g d y = x11_r9_r1_2 (im_w (c_ln1 0 0 (im_w g 12 0 y) d) 11 0 (c_ln1 0 0 (im_w g 12 0 y) d 10 0)) d (bif Op.ifCond.holds .eq ((c_ln1 0 0 (im_w g 12 0 y) d 9 5) &&& (2 : Int32)) then (c_ln1 0 0 (im_w g 12 0 y) d 12 1) + (1 : Int32) else 0) := by
  unfold x11_r9_r1_1 c_ln1
  rw [e12_0_0]
  simp only [Option.bind_some]
  rw [e18_0_0]
  simp only [Option.bind_some]
  cases Op.ifCond.holds .eq ((c_move 0 0 (c_judge 0 0 (im_w g 12 0 y)) d 9 5) &&& (2 : Int32)) <;> rfl
set_option maxRecDepth 100000 in
set_option maxHeartbeats 4000000 in
theorem e11_0 (g : im_M) (d : Int32) {x : Nat} (hx : x < 4096) (hg : g 10 0 = Int32.ofNat x) : x11_r9_r1 g d = some (0, c_look 0 g d) := by
  have h : x11_r9_r1 g d = x11_r9_r1_1 g d (bif Op.ifCond.holds .eq ((g 9 5) &&& (1 : Int32)) then (g 12 0) + (1 : Int32) else 0) := by
    unfold x11_r9_r1
    cases Op.ifCond.holds .eq ((g 9 5) &&& (1 : Int32)) <;> rfl
  rw [h, e11_0_1 g d _ hx hg, e11_0_2 _ d _ hx, e11_0_3 _ d _ hx]
  · rfl
  · rw [im_w_o _ _ _ (by decide), c_ln1_o 0 1 _ d (by decide) (by decide) (by decide) (by decide), im_w_o _ _ _ (by decide), im_w_o _ _ _ (by decide), c_ln1_o 0 0 _ d (by decide) (by decide) (by decide) (by decide), im_w_o _ _ _ (by decide)]
    exact hg
  · rw [im_w_o _ _ _ (by decide), c_ln1_o 0 0 _ d (by decide) (by decide) (by decide) (by decide), im_w_o _ _ _ (by decide)]
    exact hg
