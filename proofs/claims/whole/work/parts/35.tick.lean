/-! endTrial, sendFrames, tick, tripped (printed by wip/gen/lay1.py) -/
def x34_r0_5 (g : im_M) (y0 : Int32) (y1 : Int32) : Option (Int32 × im_M) :=
  Option.bind (x15_r1 g y1 (g 8 0) (g 8 1)) (fun q5 =>
    Option.bind (x36_r8 q5.2 y0) (fun q6 =>
      some (0, q6.2)))
set_option maxRecDepth 100000 in
set_option maxHeartbeats 4000000 in
theorem x34_r0_5_ok {L : Nat} {xs : Nat → Int32} {g u mm : im_M} {o : Nat → Int64} {Y : iv_A} {y0 y1 ret : Int32} (h : x34_r0_5 g y0 y1 = some (ret, mm)) : iv_ev (iv_Xs L xs) 34 75 [.ref 3, .int y0, .int (4 : Int32)] [.int y1, .ref 4] (im_H g u o Y) 0 0 (.inl none, im_H mm u o Y) := by
  unfold x34_r0_5 at h
  obtain ⟨v5, g5, hc, h⟩ := iv_bd h
  refine iv_cal (mi' := 34) (pc' := 89) (ls' := [.ref 3, .int y0, .int (4 : Int32)]) (rest := []) (A' := im_H g u o Y) (c' := 0) (s' := 0) (as := [.ref 4, .int y1, .int (g 8 0), .int (g 8 1)]) (v := none) (A'' := im_H g5 u o Y) 7 15 (fun n => rfl) rfl (x15_r1_ok (g := g) (a := y1) (b := (g 8 0)) (c := (g 8 1)) hc) ?_
  show iv_ev (iv_Xs L xs) 34 92 [.ref 3, .int y0, .int (4 : Int32)] [] (im_H g5 u o Y) 0 0 _
  obtain ⟨v6, g6, hc, h⟩ := iv_bd h
  refine iv_cal (mi' := 34) (pc' := 97) (ls' := [.ref 3, .int y0, .int (4 : Int32)]) (rest := []) (A' := im_H g5 u o Y) (c' := 0) (s' := 0) (as := [.ref 11, .int y0]) (v := none) (A'' := im_H g6 u o Y) 4 36 (fun n => rfl) rfl (x36_r8_ok (g := g5) (a := y0) hc) ?_
  show iv_ev (iv_Xs L xs) 34 100 [.ref 3, .int y0, .int (4 : Int32)] [] (im_H g6 u o Y) 0 0 _
  cases h
  exact iv_ret 1 (fun n => rfl)
def x34_r0_4 (g : im_M) (y0 : Int32) (y1 : Int32) : Option (Int32 × im_M) :=
  bif Op.ifCond.holds .eq y1 then
    (x34_r0_5 g y1 (10 : Int32))
  else
    (x34_r0_5 g y1 (9 : Int32))
set_option maxRecDepth 100000 in
set_option maxHeartbeats 4000000 in
theorem x34_r0_4_ok {L : Nat} {xs : Nat → Int32} {g u mm : im_M} {o : Nat → Int64} {Y : iv_A} {y0 y1 ret : Int32} (h : x34_r0_4 g y0 y1 = some (ret, mm)) : iv_ev (iv_Xs L xs) 34 53 [.ref 3, .int y0, .int (3 : Int32)] [.int y1] (im_H g u o Y) 0 0 (.inl none, im_H mm u o Y) := by
  unfold x34_r0_4 at h
  cases hb12 : Op.ifCond.holds .eq y1 with
  | true =>
    have h := iv_bt hb12 h
    refine iv_brt (mi' := 34) (pc' := 73) (ls' := [.ref 3, .int y1, .int (4 : Int32)]) (st' := [.ref 4]) (A' := im_H g u o Y) (c' := 0) (s' := 0) (mi'' := 34) (pc'' := 68) (ls'' := [.ref 3, .int y1, .int (4 : Int32)]) (st'' := [.ref 4]) (A'' := im_H g u o Y) (c'' := 0) (s'' := 0) 10 0 0 hb12 (fun n => rfl) ?_
    refine iv_blk (mi' := 34) (pc' := 75) (ls' := [.ref 3, .int y1, .int (4 : Int32)]) (st' := [.int (10 : Int32), .ref 4]) (A' := im_H g u o Y) (c' := 0) (s' := 0) 1 (fun n => rfl) ?_
    exact x34_r0_5_ok (g := g) (y0 := y1) (y1 := (10 : Int32)) h
  | false =>
    have h := iv_bf hb12 h
    refine iv_brf (mi' := 34) (pc' := 73) (ls' := [.ref 3, .int y1, .int (4 : Int32)]) (st' := [.ref 4]) (A' := im_H g u o Y) (c' := 0) (s' := 0) (mi'' := 34) (pc'' := 68) (ls'' := [.ref 3, .int y1, .int (4 : Int32)]) (st'' := [.ref 4]) (A'' := im_H g u o Y) (c'' := 0) (s'' := 0) 10 0 0 hb12 (fun n => rfl) ?_
    refine iv_blk (mi' := 34) (pc' := 75) (ls' := [.ref 3, .int y1, .int (4 : Int32)]) (st' := [.int (9 : Int32), .ref 4]) (A' := im_H g u o Y) (c' := 0) (s' := 0) 2 (fun n => rfl) ?_
    exact x34_r0_5_ok (g := g) (y0 := y1) (y1 := (9 : Int32)) h
def x34_r0_3 (g : im_M) (y0 : Int32) (y1 : Int32) : Option (Int32 × im_M) :=
  bif Op.ifCond.holds .eq y1 then
    (x34_r0_4 g y1 (0 : Int32))
  else
    (bif iv_in (g 8 0) 4 then
      Option.bind (x35_r8 g (g 8 0)) (fun q4 =>
        bif Op.ifCond.holds .eq (((g 36) ((g 8 0)).toNatClampNeg) &&& q4.1) then
          (x34_r0_4 q4.2 y1 (0 : Int32))
        else
          (x34_r0_4 q4.2 y1 (1 : Int32)))
    else none)
set_option maxRecDepth 100000 in
set_option maxHeartbeats 4000000 in
theorem x34_r0_3_ok {L : Nat} {xs : Nat → Int32} {g u mm : im_M} {o : Nat → Int64} {Y : iv_A} {y0 y1 ret : Int32} (h : x34_r0_3 g y0 y1 = some (ret, mm)) : iv_ev (iv_Xs L xs) 34 53 [.ref 3, .int y0, .int (2 : Int32)] [.int y1] (im_H g u o Y) 0 0 (.inl none, im_H mm u o Y) := by
  unfold x34_r0_3 at h
  cases hb9 : Op.ifCond.holds .eq y1 with
  | true =>
    have h := iv_bt hb9 h
    refine iv_brt (mi' := 34) (pc' := 52) (ls' := [.ref 3, .int y1, .int (3 : Int32)]) (st' := []) (A' := im_H g u o Y) (c' := 0) (s' := 0) (mi'' := 34) (pc'' := 13) (ls'' := [.ref 3, .int y1, .int (3 : Int32)]) (st'' := []) (A'' := im_H g u o Y) (c'' := 0) (s'' := 0) 8 0 0 hb9 (fun n => rfl) ?_
    refine iv_blk (mi' := 34) (pc' := 53) (ls' := [.ref 3, .int y1, .int (3 : Int32)]) (st' := [.int (0 : Int32)]) (A' := im_H g u o Y) (c' := 0) (s' := 0) 1 (fun n => rfl) ?_
    exact x34_r0_4_ok (g := g) (y0 := y1) (y1 := (0 : Int32)) h
  | false =>
    have h := iv_bf hb9 h
    refine iv_brf (mi' := 34) (pc' := 52) (ls' := [.ref 3, .int y1, .int (3 : Int32)]) (st' := []) (A' := im_H g u o Y) (c' := 0) (s' := 0) (mi'' := 34) (pc'' := 13) (ls'' := [.ref 3, .int y1, .int (3 : Int32)]) (st'' := []) (A'' := im_H g u o Y) (c'' := 0) (s'' := 0) 8 0 0 hb9 (fun n => rfl) ?_
    cases hb10 : iv_in (g 8 0) 4 with
    | false => exact (iv_bn hb10 h).elim
    | true =>
      have h := iv_bt hb10 h
      refine iv_chk (mi' := 34) (pc' := 30) (ls' := [.ref 3, .int y1, .int (3 : Int32)]) (st' := [.int ((g 36) ((g 8 0)).toNatClampNeg)]) (A' := im_H g u o Y) (c' := 0) (s' := 0) 9 hb10 (fun n => rfl) ?_
      obtain ⟨v4, g4, hc, h⟩ := iv_bd h
      refine iv_cal (mi' := 34) (pc' := 41) (ls' := [.ref 3, .int y1, .int (3 : Int32)]) (rest := [.int ((g 36) ((g 8 0)).toNatClampNeg)]) (A' := im_H g u o Y) (c' := 0) (s' := 0) (as := [.ref 11, .int (g 8 0)]) (v := some (.int v4)) (A'' := im_H g4 u o Y) 6 35 (fun n => rfl) rfl (x35_r8_ok (g := g) (a := (g 8 0)) hc) ?_
      show iv_ev (iv_Xs L xs) 34 44 [.ref 3, .int y1, .int (3 : Int32)] [.int v4, .int ((g 36) ((g 8 0)).toNatClampNeg)] (im_H g4 u o Y) 0 0 _
      cases hb11 : Op.ifCond.holds .eq (((g 36) ((g 8 0)).toNatClampNeg) &&& v4) with
      | true =>
        have h := iv_bt hb11 h
        refine iv_brt (mi' := 34) (pc' := 52) (ls' := [.ref 3, .int y1, .int (3 : Int32)]) (st' := []) (A' := im_H g4 u o Y) (c' := 0) (s' := 0) (mi'' := 34) (pc'' := 48) (ls'' := [.ref 3, .int y1, .int (3 : Int32)]) (st'' := []) (A'' := im_H g4 u o Y) (c'' := 0) (s'' := 0) 2 0 0 hb11 (fun n => rfl) ?_
        refine iv_blk (mi' := 34) (pc' := 53) (ls' := [.ref 3, .int y1, .int (3 : Int32)]) (st' := [.int (0 : Int32)]) (A' := im_H g4 u o Y) (c' := 0) (s' := 0) 1 (fun n => rfl) ?_
        exact x34_r0_4_ok (g := g4) (y0 := y1) (y1 := (0 : Int32)) h
      | false =>
        have h := iv_bf hb11 h
        refine iv_brf (mi' := 34) (pc' := 52) (ls' := [.ref 3, .int y1, .int (3 : Int32)]) (st' := []) (A' := im_H g4 u o Y) (c' := 0) (s' := 0) (mi'' := 34) (pc'' := 48) (ls'' := [.ref 3, .int y1, .int (3 : Int32)]) (st'' := []) (A'' := im_H g4 u o Y) (c'' := 0) (s'' := 0) 2 0 0 hb11 (fun n => rfl) ?_
        refine iv_blk (mi' := 34) (pc' := 53) (ls' := [.ref 3, .int y1, .int (3 : Int32)]) (st' := [.int (1 : Int32)]) (A' := im_H g4 u o Y) (c' := 0) (s' := 0) 2 (fun n => rfl) ?_
        exact x34_r0_4_ok (g := g4) (y0 := y1) (y1 := (1 : Int32)) h
def x34_r0_2 (g : im_M) (y0 : Int32) (y1 : Int32) : Option (Int32 × im_M) :=
  bif Op.ifCond.holds .eq y1 then
    (x34_r0_3 g y1 (0 : Int32))
  else
    (bif iv_in (g 8 0) 4 then
      Option.bind (x35_r8 g (g 8 0)) (fun q3 =>
        bif Op.ifCond.holds .eq (((g 34) ((g 8 0)).toNatClampNeg) &&& q3.1) then
          (x34_r0_3 q3.2 y1 (0 : Int32))
        else
          (x34_r0_3 q3.2 y1 (1 : Int32)))
    else none)
set_option maxRecDepth 100000 in
set_option maxHeartbeats 4000000 in
theorem x34_r0_2_ok {L : Nat} {xs : Nat → Int32} {g u mm : im_M} {o : Nat → Int64} {Y : iv_A} {y0 y1 ret : Int32} (h : x34_r0_2 g y0 y1 = some (ret, mm)) : iv_ev (iv_Xs L xs) 34 53 [.ref 3, .int y0, .int (1 : Int32)] [.int y1] (im_H g u o Y) 0 0 (.inl none, im_H mm u o Y) := by
  unfold x34_r0_2 at h
  cases hb6 : Op.ifCond.holds .eq y1 with
  | true =>
    have h := iv_bt hb6 h
    refine iv_brt (mi' := 34) (pc' := 52) (ls' := [.ref 3, .int y1, .int (2 : Int32)]) (st' := []) (A' := im_H g u o Y) (c' := 0) (s' := 0) (mi'' := 34) (pc'' := 13) (ls'' := [.ref 3, .int y1, .int (2 : Int32)]) (st'' := []) (A'' := im_H g u o Y) (c'' := 0) (s'' := 0) 8 0 0 hb6 (fun n => rfl) ?_
    refine iv_blk (mi' := 34) (pc' := 53) (ls' := [.ref 3, .int y1, .int (2 : Int32)]) (st' := [.int (0 : Int32)]) (A' := im_H g u o Y) (c' := 0) (s' := 0) 1 (fun n => rfl) ?_
    exact x34_r0_3_ok (g := g) (y0 := y1) (y1 := (0 : Int32)) h
  | false =>
    have h := iv_bf hb6 h
    refine iv_brf (mi' := 34) (pc' := 52) (ls' := [.ref 3, .int y1, .int (2 : Int32)]) (st' := []) (A' := im_H g u o Y) (c' := 0) (s' := 0) (mi'' := 34) (pc'' := 13) (ls'' := [.ref 3, .int y1, .int (2 : Int32)]) (st'' := []) (A'' := im_H g u o Y) (c'' := 0) (s'' := 0) 8 0 0 hb6 (fun n => rfl) ?_
    cases hb7 : iv_in (g 8 0) 4 with
    | false => exact (iv_bn hb7 h).elim
    | true =>
      have h := iv_bt hb7 h
      refine iv_chk (mi' := 34) (pc' := 30) (ls' := [.ref 3, .int y1, .int (2 : Int32)]) (st' := [.int ((g 34) ((g 8 0)).toNatClampNeg)]) (A' := im_H g u o Y) (c' := 0) (s' := 0) 9 hb7 (fun n => rfl) ?_
      obtain ⟨v3, g3, hc, h⟩ := iv_bd h
      refine iv_cal (mi' := 34) (pc' := 41) (ls' := [.ref 3, .int y1, .int (2 : Int32)]) (rest := [.int ((g 34) ((g 8 0)).toNatClampNeg)]) (A' := im_H g u o Y) (c' := 0) (s' := 0) (as := [.ref 11, .int (g 8 0)]) (v := some (.int v3)) (A'' := im_H g3 u o Y) 6 35 (fun n => rfl) rfl (x35_r8_ok (g := g) (a := (g 8 0)) hc) ?_
      show iv_ev (iv_Xs L xs) 34 44 [.ref 3, .int y1, .int (2 : Int32)] [.int v3, .int ((g 34) ((g 8 0)).toNatClampNeg)] (im_H g3 u o Y) 0 0 _
      cases hb8 : Op.ifCond.holds .eq (((g 34) ((g 8 0)).toNatClampNeg) &&& v3) with
      | true =>
        have h := iv_bt hb8 h
        refine iv_brt (mi' := 34) (pc' := 52) (ls' := [.ref 3, .int y1, .int (2 : Int32)]) (st' := []) (A' := im_H g3 u o Y) (c' := 0) (s' := 0) (mi'' := 34) (pc'' := 48) (ls'' := [.ref 3, .int y1, .int (2 : Int32)]) (st'' := []) (A'' := im_H g3 u o Y) (c'' := 0) (s'' := 0) 2 0 0 hb8 (fun n => rfl) ?_
        refine iv_blk (mi' := 34) (pc' := 53) (ls' := [.ref 3, .int y1, .int (2 : Int32)]) (st' := [.int (0 : Int32)]) (A' := im_H g3 u o Y) (c' := 0) (s' := 0) 1 (fun n => rfl) ?_
        exact x34_r0_3_ok (g := g3) (y0 := y1) (y1 := (0 : Int32)) h
      | false =>
        have h := iv_bf hb8 h
        refine iv_brf (mi' := 34) (pc' := 52) (ls' := [.ref 3, .int y1, .int (2 : Int32)]) (st' := []) (A' := im_H g3 u o Y) (c' := 0) (s' := 0) (mi'' := 34) (pc'' := 48) (ls'' := [.ref 3, .int y1, .int (2 : Int32)]) (st'' := []) (A'' := im_H g3 u o Y) (c'' := 0) (s'' := 0) 2 0 0 hb8 (fun n => rfl) ?_
        refine iv_blk (mi' := 34) (pc' := 53) (ls' := [.ref 3, .int y1, .int (2 : Int32)]) (st' := [.int (1 : Int32)]) (A' := im_H g3 u o Y) (c' := 0) (s' := 0) 2 (fun n => rfl) ?_
        exact x34_r0_3_ok (g := g3) (y0 := y1) (y1 := (1 : Int32)) h
def x34_r0_1 (g : im_M) (y0 : Int32) : Option (Int32 × im_M) :=
  bif Op.ifCond.holds .eq y0 then
    (x34_r0_2 g y0 (0 : Int32))
  else
    (bif iv_in (g 8 0) 4 then
      Option.bind (x35_r8 g (g 8 0)) (fun q2 =>
        bif Op.ifCond.holds .eq (((g 32) ((g 8 0)).toNatClampNeg) &&& q2.1) then
          (x34_r0_2 q2.2 y0 (0 : Int32))
        else
          (x34_r0_2 q2.2 y0 (1 : Int32)))
    else none)
set_option maxRecDepth 100000 in
set_option maxHeartbeats 4000000 in
theorem x34_r0_1_ok {L : Nat} {xs : Nat → Int32} {g u mm : im_M} {o : Nat → Int64} {Y : iv_A} {y0 ret : Int32} (h : x34_r0_1 g y0 = some (ret, mm)) : iv_ev (iv_Xs L xs) 34 53 [.ref 3, .int (1 : Int32), .int (0 : Int32)] [.int y0] (im_H g u o Y) 0 0 (.inl none, im_H mm u o Y) := by
  unfold x34_r0_1 at h
  cases hb3 : Op.ifCond.holds .eq y0 with
  | true =>
    have h := iv_bt hb3 h
    refine iv_brt (mi' := 34) (pc' := 52) (ls' := [.ref 3, .int y0, .int (1 : Int32)]) (st' := []) (A' := im_H g u o Y) (c' := 0) (s' := 0) (mi'' := 34) (pc'' := 13) (ls'' := [.ref 3, .int y0, .int (1 : Int32)]) (st'' := []) (A'' := im_H g u o Y) (c'' := 0) (s'' := 0) 8 0 0 hb3 (fun n => rfl) ?_
    refine iv_blk (mi' := 34) (pc' := 53) (ls' := [.ref 3, .int y0, .int (1 : Int32)]) (st' := [.int (0 : Int32)]) (A' := im_H g u o Y) (c' := 0) (s' := 0) 1 (fun n => rfl) ?_
    exact x34_r0_2_ok (g := g) (y0 := y0) (y1 := (0 : Int32)) h
  | false =>
    have h := iv_bf hb3 h
    refine iv_brf (mi' := 34) (pc' := 52) (ls' := [.ref 3, .int y0, .int (1 : Int32)]) (st' := []) (A' := im_H g u o Y) (c' := 0) (s' := 0) (mi'' := 34) (pc'' := 13) (ls'' := [.ref 3, .int y0, .int (1 : Int32)]) (st'' := []) (A'' := im_H g u o Y) (c'' := 0) (s'' := 0) 8 0 0 hb3 (fun n => rfl) ?_
    cases hb4 : iv_in (g 8 0) 4 with
    | false => exact (iv_bn hb4 h).elim
    | true =>
      have h := iv_bt hb4 h
      refine iv_chk (mi' := 34) (pc' := 30) (ls' := [.ref 3, .int y0, .int (1 : Int32)]) (st' := [.int ((g 32) ((g 8 0)).toNatClampNeg)]) (A' := im_H g u o Y) (c' := 0) (s' := 0) 9 hb4 (fun n => rfl) ?_
      obtain ⟨v2, g2, hc, h⟩ := iv_bd h
      refine iv_cal (mi' := 34) (pc' := 41) (ls' := [.ref 3, .int y0, .int (1 : Int32)]) (rest := [.int ((g 32) ((g 8 0)).toNatClampNeg)]) (A' := im_H g u o Y) (c' := 0) (s' := 0) (as := [.ref 11, .int (g 8 0)]) (v := some (.int v2)) (A'' := im_H g2 u o Y) 6 35 (fun n => rfl) rfl (x35_r8_ok (g := g) (a := (g 8 0)) hc) ?_
      show iv_ev (iv_Xs L xs) 34 44 [.ref 3, .int y0, .int (1 : Int32)] [.int v2, .int ((g 32) ((g 8 0)).toNatClampNeg)] (im_H g2 u o Y) 0 0 _
      cases hb5 : Op.ifCond.holds .eq (((g 32) ((g 8 0)).toNatClampNeg) &&& v2) with
      | true =>
        have h := iv_bt hb5 h
        refine iv_brt (mi' := 34) (pc' := 52) (ls' := [.ref 3, .int y0, .int (1 : Int32)]) (st' := []) (A' := im_H g2 u o Y) (c' := 0) (s' := 0) (mi'' := 34) (pc'' := 48) (ls'' := [.ref 3, .int y0, .int (1 : Int32)]) (st'' := []) (A'' := im_H g2 u o Y) (c'' := 0) (s'' := 0) 2 0 0 hb5 (fun n => rfl) ?_
        refine iv_blk (mi' := 34) (pc' := 53) (ls' := [.ref 3, .int y0, .int (1 : Int32)]) (st' := [.int (0 : Int32)]) (A' := im_H g2 u o Y) (c' := 0) (s' := 0) 1 (fun n => rfl) ?_
        exact x34_r0_2_ok (g := g2) (y0 := y0) (y1 := (0 : Int32)) h
      | false =>
        have h := iv_bf hb5 h
        refine iv_brf (mi' := 34) (pc' := 52) (ls' := [.ref 3, .int y0, .int (1 : Int32)]) (st' := []) (A' := im_H g2 u o Y) (c' := 0) (s' := 0) (mi'' := 34) (pc'' := 48) (ls'' := [.ref 3, .int y0, .int (1 : Int32)]) (st'' := []) (A'' := im_H g2 u o Y) (c'' := 0) (s'' := 0) 2 0 0 hb5 (fun n => rfl) ?_
        refine iv_blk (mi' := 34) (pc' := 53) (ls' := [.ref 3, .int y0, .int (1 : Int32)]) (st' := [.int (1 : Int32)]) (A' := im_H g2 u o Y) (c' := 0) (s' := 0) 2 (fun n => rfl) ?_
        exact x34_r0_2_ok (g := g2) (y0 := y0) (y1 := (1 : Int32)) h
def x34_r0 (g : im_M) : Option (Int32 × im_M) :=
  bif iv_in (g 8 0) 4 then
    Option.bind (x35_r8 g (g 8 0)) (fun q1 =>
      bif Op.ifCond.holds .eq (((g 30) ((g 8 0)).toNatClampNeg) &&& q1.1) then
        (x34_r0_1 q1.2 (0 : Int32))
      else
        (x34_r0_1 q1.2 (1 : Int32)))
  else none
set_option maxRecDepth 100000 in
set_option maxHeartbeats 4000000 in
theorem x34_r0_ok {L : Nat} {xs : Nat → Int32} {g u mm : im_M} {o : Nat → Int64} {Y : iv_A} {ret : Int32} (h : x34_r0 g  = some (ret, mm)) : iv_ev (iv_Xs L xs) 34 0 [.ref 3, .retAddr 0, .retAddr 0] [] (im_H g u o Y) 0 0 (.inl none, im_H mm u o Y) := by
  unfold x34_r0 at h
  cases hb1 : iv_in (g 8 0) 4 with
  | false => exact (iv_bn hb1 h).elim
  | true =>
    have h := iv_bt hb1 h
    refine iv_chk (mi' := 34) (pc' := 30) (ls' := [.ref 3, .int (1 : Int32), .int (0 : Int32)]) (st' := [.int ((g 30) ((g 8 0)).toNatClampNeg)]) (A' := im_H g u o Y) (c' := 0) (s' := 0) 18 hb1 (fun n => rfl) ?_
    obtain ⟨v1, g1, hc, h⟩ := iv_bd h
    refine iv_cal (mi' := 34) (pc' := 41) (ls' := [.ref 3, .int (1 : Int32), .int (0 : Int32)]) (rest := [.int ((g 30) ((g 8 0)).toNatClampNeg)]) (A' := im_H g u o Y) (c' := 0) (s' := 0) (as := [.ref 11, .int (g 8 0)]) (v := some (.int v1)) (A'' := im_H g1 u o Y) 6 35 (fun n => rfl) rfl (x35_r8_ok (g := g) (a := (g 8 0)) hc) ?_
    show iv_ev (iv_Xs L xs) 34 44 [.ref 3, .int (1 : Int32), .int (0 : Int32)] [.int v1, .int ((g 30) ((g 8 0)).toNatClampNeg)] (im_H g1 u o Y) 0 0 _
    cases hb2 : Op.ifCond.holds .eq (((g 30) ((g 8 0)).toNatClampNeg) &&& v1) with
    | true =>
      have h := iv_bt hb2 h
      refine iv_brt (mi' := 34) (pc' := 52) (ls' := [.ref 3, .int (1 : Int32), .int (0 : Int32)]) (st' := []) (A' := im_H g1 u o Y) (c' := 0) (s' := 0) (mi'' := 34) (pc'' := 48) (ls'' := [.ref 3, .int (1 : Int32), .int (0 : Int32)]) (st'' := []) (A'' := im_H g1 u o Y) (c'' := 0) (s'' := 0) 2 0 0 hb2 (fun n => rfl) ?_
      refine iv_blk (mi' := 34) (pc' := 53) (ls' := [.ref 3, .int (1 : Int32), .int (0 : Int32)]) (st' := [.int (0 : Int32)]) (A' := im_H g1 u o Y) (c' := 0) (s' := 0) 1 (fun n => rfl) ?_
      exact x34_r0_1_ok (g := g1) (y0 := (0 : Int32)) h
    | false =>
      have h := iv_bf hb2 h
      refine iv_brf (mi' := 34) (pc' := 52) (ls' := [.ref 3, .int (1 : Int32), .int (0 : Int32)]) (st' := []) (A' := im_H g1 u o Y) (c' := 0) (s' := 0) (mi'' := 34) (pc'' := 48) (ls'' := [.ref 3, .int (1 : Int32), .int (0 : Int32)]) (st'' := []) (A'' := im_H g1 u o Y) (c'' := 0) (s'' := 0) 2 0 0 hb2 (fun n => rfl) ?_
      refine iv_blk (mi' := 34) (pc' := 53) (ls' := [.ref 3, .int (1 : Int32), .int (0 : Int32)]) (st' := [.int (1 : Int32)]) (A' := im_H g1 u o Y) (c' := 0) (s' := 0) 2 (fun n => rfl) ?_
      exact x34_r0_1_ok (g := g1) (y0 := (1 : Int32)) h
def x37_r0_1 (g : im_M) (y0 : Int32) (y1 : Int32) : Option (Int32 × im_M) :=
  bif (y1 == 0 || y1 == 1) then
    some (0, (im_w g 8 2 y1))
  else none
set_option maxRecDepth 100000 in
set_option maxHeartbeats 4000000 in
theorem x37_r0_1_ok {L : Nat} {xs : Nat → Int32} {g u mm : im_M} {o : Nat → Int64} {Y : iv_A} {y0 y1 ret : Int32} (h : x37_r0_1 g y0 y1 = some (ret, mm)) : iv_ev (iv_Xs L xs) 37 81 [.ref 3, .int (4 : Int32), .int y0] [.int y1, .ref 11] (im_H g u o Y) 0 0 (.inl none, im_H mm u o Y) := by
  unfold x37_r0_1 at h
  cases hb2 : (y1 == 0 || y1 == 1) with
  | false => exact (iv_bn hb2 h).elim
  | true =>
    have h := iv_bt hb2 h
    refine iv_chk (mi' := 37) (pc' := 84) (ls' := [.ref 3, .int (4 : Int32), .int y0]) (st' := []) (A' := List.set (im_H g u o Y) 8 (.inr (4, List.set [.int (g 8 0), .int (g 8 1), .int (g 8 2), .int (g 8 3), .int (g 8 4)] 2 (.int y1)))) (c' := 0) (s' := 0) 1 (iv_b3 hb2) (fun n => rfl) ?_
    rw [im_f8_2]
    cases h
    exact iv_ret 1 (fun n => rfl)
def x37_r0 (g : im_M) : Option (Int32 × im_M) :=
  Option.bind (x35_r8 g (0 : Int32)) (fun q1 =>
    Option.bind (x28 q1.2 (q1.2 1 1) (((g 9 6) ||| (g 9 7)) ||| q1.1)) (fun q2 =>
      Option.bind (x38_r5_0 q2.2 q2.1) (fun q3 =>
        Option.bind (x35_r8 q3.2 (1 : Int32)) (fun q4 =>
          Option.bind (x28 q4.2 (q4.2 1 1) (((q3.2 14 6) ||| (q3.2 14 7)) ||| q4.1)) (fun q5 =>
            Option.bind (x38_r5_1 q5.2 q5.1) (fun q6 =>
              Option.bind (x35_r8 q6.2 (2 : Int32)) (fun q7 =>
                Option.bind (x28 q7.2 (q7.2 1 1) (((q6.2 19 6) ||| (q6.2 19 7)) ||| q7.1)) (fun q8 =>
                  Option.bind (x38_r5_2 q8.2 q8.1) (fun q9 =>
                    Option.bind (x35_r8 q9.2 (3 : Int32)) (fun q10 =>
                      Option.bind (x28 q10.2 (q10.2 1 1) (((q9.2 24 6) ||| (q9.2 24 7)) ||| q10.1)) (fun q11 =>
                        Option.bind (x38_r5_3 q11.2 q11.1) (fun q12 =>
                          bif Op.if_icmp.holds .eq (q12.2 8 0) (-1 : Int32) then
                            (x37_r0_1 q12.2 (((q9.2 24 6) ||| (q9.2 24 7)) ||| q10.1) (0 : Int32))
                          else
                            (x37_r0_1 q12.2 (((q9.2 24 6) ||| (q9.2 24 7)) ||| q10.1) (1 : Int32))))))))))))))
set_option maxRecDepth 100000 in
set_option maxHeartbeats 4000000 in
theorem x37_r0_ok {L : Nat} {xs : Nat → Int32} {g u mm : im_M} {o : Nat → Int64} {Y : iv_A} {ret : Int32} (h : x37_r0 g  = some (ret, mm)) : iv_ev (iv_Xs L xs) 37 0 [.ref 3, .retAddr 0, .retAddr 0] [] (im_H g u o Y) 0 0 (.inl none, im_H mm u o Y) := by
  unfold x37_r0 at h
  obtain ⟨v1, g1, hc, h⟩ := iv_bd h
  refine iv_cal (mi' := 37) (pc' := 31) (ls' := [.ref 3, .int (0 : Int32), .retAddr 0]) (rest := [.int ((g 9 6) ||| (g 9 7))]) (A' := im_H g u o Y) (c' := 0) (s' := 0) (as := [.ref 11, .int (0 : Int32)]) (v := some (.int v1)) (A'' := im_H g1 u o Y) 20 35 (fun n => rfl) rfl (x35_r8_ok (g := g) (a := (0 : Int32)) hc) ?_
  show iv_ev (iv_Xs L xs) 37 34 [.ref 3, .int (0 : Int32), .retAddr 0] [.int v1, .int ((g 9 6) ||| (g 9 7))] (im_H g1 u o Y) 0 0 _
  obtain ⟨v2, g2, hc, h⟩ := iv_bd h
  refine iv_cal (mi' := 37) (pc' := 49) (ls' := [.ref 3, .int (0 : Int32), .int (((g 9 6) ||| (g 9 7)) ||| v1)]) (rest := [.int (0 : Int32), .ref 8]) (A' := im_H g1 u o Y) (c' := 0) (s' := 0) (as := [.int (g1 1 1), .int (((g 9 6) ||| (g 9 7)) ||| v1)]) (v := some (.int v2)) (A'' := im_H g2 u o Y) 10 28 (fun n => rfl) rfl (x28_ok (g := g1) (a := (g1 1 1)) (b := (((g 9 6) ||| (g 9 7)) ||| v1)) hc) ?_
  show iv_ev (iv_Xs L xs) 37 52 [.ref 3, .int (0 : Int32), .int (((g 9 6) ||| (g 9 7)) ||| v1)] [.int v2, .int (0 : Int32), .ref 8] (im_H g2 u o Y) 0 0 _
  obtain ⟨v3, g3, hc, h⟩ := iv_bd h
  refine iv_cal (mi' := 37) (pc' := 52) (ls' := [.ref 3, .int (0 : Int32), .int (((g 9 6) ||| (g 9 7)) ||| v1)]) (rest := []) (A' := im_H g2 u o Y) (c' := 0) (s' := 0) (as := [.ref 8, .int (0 : Int32), .int v2]) (v := none) (A'' := im_H g3 u o Y) 1 38 (fun n => rfl) rfl (x38_r5_0_ok (g := g2) (a := v2) hc) ?_
  show iv_ev (iv_Xs L xs) 37 55 [.ref 3, .int (0 : Int32), .int (((g 9 6) ||| (g 9 7)) ||| v1)] [] (im_H g3 u o Y) 0 0 _
  obtain ⟨v4, g4, hc, h⟩ := iv_bd h
  refine iv_cal (mi' := 37) (pc' := 31) (ls' := [.ref 3, .int (1 : Int32), .int (((g 9 6) ||| (g 9 7)) ||| v1)]) (rest := [.int ((g3 14 6) ||| (g3 14 7))]) (A' := im_H g3 u o Y) (c' := 0) (s' := 0) (as := [.ref 11, .int (1 : Int32)]) (v := some (.int v4)) (A'' := im_H g4 u o Y) 20 35 (fun n => rfl) rfl (x35_r8_ok (g := g3) (a := (1 : Int32)) hc) ?_
  show iv_ev (iv_Xs L xs) 37 34 [.ref 3, .int (1 : Int32), .int (((g 9 6) ||| (g 9 7)) ||| v1)] [.int v4, .int ((g3 14 6) ||| (g3 14 7))] (im_H g4 u o Y) 0 0 _
  obtain ⟨v5, g5, hc, h⟩ := iv_bd h
  refine iv_cal (mi' := 37) (pc' := 49) (ls' := [.ref 3, .int (1 : Int32), .int (((g3 14 6) ||| (g3 14 7)) ||| v4)]) (rest := [.int (1 : Int32), .ref 8]) (A' := im_H g4 u o Y) (c' := 0) (s' := 0) (as := [.int (g4 1 1), .int (((g3 14 6) ||| (g3 14 7)) ||| v4)]) (v := some (.int v5)) (A'' := im_H g5 u o Y) 10 28 (fun n => rfl) rfl (x28_ok (g := g4) (a := (g4 1 1)) (b := (((g3 14 6) ||| (g3 14 7)) ||| v4)) hc) ?_
  show iv_ev (iv_Xs L xs) 37 52 [.ref 3, .int (1 : Int32), .int (((g3 14 6) ||| (g3 14 7)) ||| v4)] [.int v5, .int (1 : Int32), .ref 8] (im_H g5 u o Y) 0 0 _
  obtain ⟨v6, g6, hc, h⟩ := iv_bd h
  refine iv_cal (mi' := 37) (pc' := 52) (ls' := [.ref 3, .int (1 : Int32), .int (((g3 14 6) ||| (g3 14 7)) ||| v4)]) (rest := []) (A' := im_H g5 u o Y) (c' := 0) (s' := 0) (as := [.ref 8, .int (1 : Int32), .int v5]) (v := none) (A'' := im_H g6 u o Y) 1 38 (fun n => rfl) rfl (x38_r5_1_ok (g := g5) (a := v5) hc) ?_
  show iv_ev (iv_Xs L xs) 37 55 [.ref 3, .int (1 : Int32), .int (((g3 14 6) ||| (g3 14 7)) ||| v4)] [] (im_H g6 u o Y) 0 0 _
  obtain ⟨v7, g7, hc, h⟩ := iv_bd h
  refine iv_cal (mi' := 37) (pc' := 31) (ls' := [.ref 3, .int (2 : Int32), .int (((g3 14 6) ||| (g3 14 7)) ||| v4)]) (rest := [.int ((g6 19 6) ||| (g6 19 7))]) (A' := im_H g6 u o Y) (c' := 0) (s' := 0) (as := [.ref 11, .int (2 : Int32)]) (v := some (.int v7)) (A'' := im_H g7 u o Y) 20 35 (fun n => rfl) rfl (x35_r8_ok (g := g6) (a := (2 : Int32)) hc) ?_
  show iv_ev (iv_Xs L xs) 37 34 [.ref 3, .int (2 : Int32), .int (((g3 14 6) ||| (g3 14 7)) ||| v4)] [.int v7, .int ((g6 19 6) ||| (g6 19 7))] (im_H g7 u o Y) 0 0 _
  obtain ⟨v8, g8, hc, h⟩ := iv_bd h
  refine iv_cal (mi' := 37) (pc' := 49) (ls' := [.ref 3, .int (2 : Int32), .int (((g6 19 6) ||| (g6 19 7)) ||| v7)]) (rest := [.int (2 : Int32), .ref 8]) (A' := im_H g7 u o Y) (c' := 0) (s' := 0) (as := [.int (g7 1 1), .int (((g6 19 6) ||| (g6 19 7)) ||| v7)]) (v := some (.int v8)) (A'' := im_H g8 u o Y) 10 28 (fun n => rfl) rfl (x28_ok (g := g7) (a := (g7 1 1)) (b := (((g6 19 6) ||| (g6 19 7)) ||| v7)) hc) ?_
  show iv_ev (iv_Xs L xs) 37 52 [.ref 3, .int (2 : Int32), .int (((g6 19 6) ||| (g6 19 7)) ||| v7)] [.int v8, .int (2 : Int32), .ref 8] (im_H g8 u o Y) 0 0 _
  obtain ⟨v9, g9, hc, h⟩ := iv_bd h
  refine iv_cal (mi' := 37) (pc' := 52) (ls' := [.ref 3, .int (2 : Int32), .int (((g6 19 6) ||| (g6 19 7)) ||| v7)]) (rest := []) (A' := im_H g8 u o Y) (c' := 0) (s' := 0) (as := [.ref 8, .int (2 : Int32), .int v8]) (v := none) (A'' := im_H g9 u o Y) 1 38 (fun n => rfl) rfl (x38_r5_2_ok (g := g8) (a := v8) hc) ?_
  show iv_ev (iv_Xs L xs) 37 55 [.ref 3, .int (2 : Int32), .int (((g6 19 6) ||| (g6 19 7)) ||| v7)] [] (im_H g9 u o Y) 0 0 _
  obtain ⟨v10, g10, hc, h⟩ := iv_bd h
  refine iv_cal (mi' := 37) (pc' := 31) (ls' := [.ref 3, .int (3 : Int32), .int (((g6 19 6) ||| (g6 19 7)) ||| v7)]) (rest := [.int ((g9 24 6) ||| (g9 24 7))]) (A' := im_H g9 u o Y) (c' := 0) (s' := 0) (as := [.ref 11, .int (3 : Int32)]) (v := some (.int v10)) (A'' := im_H g10 u o Y) 20 35 (fun n => rfl) rfl (x35_r8_ok (g := g9) (a := (3 : Int32)) hc) ?_
  show iv_ev (iv_Xs L xs) 37 34 [.ref 3, .int (3 : Int32), .int (((g6 19 6) ||| (g6 19 7)) ||| v7)] [.int v10, .int ((g9 24 6) ||| (g9 24 7))] (im_H g10 u o Y) 0 0 _
  obtain ⟨v11, g11, hc, h⟩ := iv_bd h
  refine iv_cal (mi' := 37) (pc' := 49) (ls' := [.ref 3, .int (3 : Int32), .int (((g9 24 6) ||| (g9 24 7)) ||| v10)]) (rest := [.int (3 : Int32), .ref 8]) (A' := im_H g10 u o Y) (c' := 0) (s' := 0) (as := [.int (g10 1 1), .int (((g9 24 6) ||| (g9 24 7)) ||| v10)]) (v := some (.int v11)) (A'' := im_H g11 u o Y) 10 28 (fun n => rfl) rfl (x28_ok (g := g10) (a := (g10 1 1)) (b := (((g9 24 6) ||| (g9 24 7)) ||| v10)) hc) ?_
  show iv_ev (iv_Xs L xs) 37 52 [.ref 3, .int (3 : Int32), .int (((g9 24 6) ||| (g9 24 7)) ||| v10)] [.int v11, .int (3 : Int32), .ref 8] (im_H g11 u o Y) 0 0 _
  obtain ⟨v12, g12, hc, h⟩ := iv_bd h
  refine iv_cal (mi' := 37) (pc' := 52) (ls' := [.ref 3, .int (3 : Int32), .int (((g9 24 6) ||| (g9 24 7)) ||| v10)]) (rest := []) (A' := im_H g11 u o Y) (c' := 0) (s' := 0) (as := [.ref 8, .int (3 : Int32), .int v11]) (v := none) (A'' := im_H g12 u o Y) 1 38 (fun n => rfl) rfl (x38_r5_3_ok (g := g11) (a := v11) hc) ?_
  show iv_ev (iv_Xs L xs) 37 55 [.ref 3, .int (3 : Int32), .int (((g9 24 6) ||| (g9 24 7)) ||| v10)] [] (im_H g12 u o Y) 0 0 _
  cases hb1 : Op.if_icmp.holds .eq (g12 8 0) (-1 : Int32) with
  | true =>
    have h := iv_bt hb1 h
    refine iv_brt (mi' := 37) (pc' := 80) (ls' := [.ref 3, .int (4 : Int32), .int (((g9 24 6) ||| (g9 24 7)) ||| v10)]) (st' := [.ref 11]) (A' := im_H g12 u o Y) (c' := 0) (s' := 0) (mi'' := 37) (pc'' := 76) (ls'' := [.ref 3, .int (4 : Int32), .int (((g9 24 6) ||| (g9 24 7)) ||| v10)]) (st'' := [.ref 11]) (A'' := im_H g12 u o Y) (c'' := 0) (s'' := 0) 12 0 0 hb1 (fun n => rfl) ?_
    refine iv_blk (mi' := 37) (pc' := 81) (ls' := [.ref 3, .int (4 : Int32), .int (((g9 24 6) ||| (g9 24 7)) ||| v10)]) (st' := [.int (0 : Int32), .ref 11]) (A' := im_H g12 u o Y) (c' := 0) (s' := 0) 1 (fun n => rfl) ?_
    exact x37_r0_1_ok (g := g12) (y0 := (((g9 24 6) ||| (g9 24 7)) ||| v10)) (y1 := (0 : Int32)) h
  | false =>
    have h := iv_bf hb1 h
    refine iv_brf (mi' := 37) (pc' := 80) (ls' := [.ref 3, .int (4 : Int32), .int (((g9 24 6) ||| (g9 24 7)) ||| v10)]) (st' := [.ref 11]) (A' := im_H g12 u o Y) (c' := 0) (s' := 0) (mi'' := 37) (pc'' := 76) (ls'' := [.ref 3, .int (4 : Int32), .int (((g9 24 6) ||| (g9 24 7)) ||| v10)]) (st'' := [.ref 11]) (A'' := im_H g12 u o Y) (c'' := 0) (s'' := 0) 12 0 0 hb1 (fun n => rfl) ?_
    refine iv_blk (mi' := 37) (pc' := 81) (ls' := [.ref 3, .int (4 : Int32), .int (((g9 24 6) ||| (g9 24 7)) ||| v10)]) (st' := [.int (1 : Int32), .ref 11]) (A' := im_H g12 u o Y) (c' := 0) (s' := 0) 2 (fun n => rfl) ?_
    exact x37_r0_1_ok (g := g12) (y0 := (((g9 24 6) ||| (g9 24 7)) ||| v10)) (y1 := (1 : Int32)) h
def x10_r0_1 (g : im_M) (y0 : Int32) : Option (Int32 × im_M) :=
  Option.bind (x37_r0 g ) (fun q14 =>
    some (((q14.2 1 2) - y0), q14.2))
set_option maxRecDepth 100000 in
set_option maxHeartbeats 4000000 in
theorem x10_r0_1_ok {L : Nat} {xs : Nat → Int32} {g u mm : im_M} {o : Nat → Int64} {Y : iv_A} {y0 ret : Int32} (h : x10_r0_1 g y0 = some (ret, mm)) : iv_ev (iv_Xs L xs) 10 116 [.ref 3, .int y0, .int (4 : Int32)] [] (im_H g u o Y) 0 0 (.inl (some (.int ret)), im_H mm u o Y) := by
  unfold x10_r0_1 at h
  obtain ⟨v14, g14, hc, h⟩ := iv_bd h
  refine iv_cal (mi' := 10) (pc' := 117) (ls' := [.ref 3, .int y0, .int (4 : Int32)]) (rest := []) (A' := im_H g u o Y) (c' := 0) (s' := 0) (as := [.ref 3]) (v := none) (A'' := im_H g14 u o Y) 2 37 (fun n => rfl) rfl (x37_r0_ok (g := g)  hc) ?_
  show iv_ev (iv_Xs L xs) 10 120 [.ref 3, .int y0, .int (4 : Int32)] [] (im_H g14 u o Y) 0 0 _
  cases h
  exact iv_ret 6 (fun n => rfl)
def x10_r0 (g : im_M) : Option (Int32 × im_M) :=
  Option.bind (x11_r9_r1 (im_w g 1 1 ((g 1 1) + (1 : Int32))) (g 0 0)) (fun q1 =>
    Option.bind (x11_r14_r1 q1.2 (q1.2 0 0)) (fun q2 =>
      Option.bind (x11_r19_r1 q2.2 (q2.2 0 0)) (fun q3 =>
        Option.bind (x11_r24_r1 q3.2 (q3.2 0 0)) (fun q4 =>
          Option.bind (x24_r0_r29 q4.2 ) (fun q5 =>
            Option.bind (x31_r29_r1 q5.2 (q5.2 0 6)) (fun q6 =>
              Option.bind (x24_r0_r31 q6.2 ) (fun q7 =>
                Option.bind (x31_r31_r1 q7.2 (q7.2 0 6)) (fun q8 =>
                  Option.bind (x24_r0_r33 q8.2 ) (fun q9 =>
                    Option.bind (x31_r33_r1 q9.2 (q9.2 0 6)) (fun q10 =>
                      Option.bind (x24_r0_r35 q10.2 ) (fun q11 =>
                        Option.bind (x31_r35_r1 q11.2 (q11.2 0 6)) (fun q12 =>
                          bif Op.if_icmp.holds .eq (q12.2 8 0) (-1 : Int32) then
                            (x10_r0_1 q12.2 (g 1 2))
                          else
                            (bif Op.ifCond.holds .eq (q12.2 8 2) then
                              (x10_r0_1 q12.2 (g 1 2))
                            else
                              (Option.bind (x34_r0 q12.2 ) (fun q13 =>
                                x10_r0_1 q13.2 (g 1 2))))))))))))))))
set_option maxRecDepth 100000 in
set_option maxHeartbeats 4000000 in
theorem x10_r0_ok {L : Nat} {xs : Nat → Int32} {g u mm : im_M} {o : Nat → Int64} {Y : iv_A} {ret : Int32} (h : x10_r0 g  = some (ret, mm)) : iv_ev (iv_Xs L xs) 10 0 [.ref 3, .retAddr 0, .retAddr 0] [] (im_H g u o Y) 0 0 (.inl (some (.int ret)), im_H mm u o Y) := by
  unfold x10_r0 at h
  refine iv_blk (mi' := 10) (pc' := 21) (ls' := [.ref 3, .int (g 1 2), .retAddr 0]) (st' := []) (A' := List.set (im_H g u o Y) 1 (.inr (1, List.set [.ref 5, .int (g 1 1), .int (g 1 2)] 1 (.int ((g 1 1) + (1 : Int32)))))) (c' := 0) (s' := 0) 11 (fun n => rfl) ?_
  rw [im_f1_1]
  obtain ⟨v1, g1, hc, h⟩ := iv_bd h
  refine iv_cal (mi' := 10) (pc' := 42) (ls' := [.ref 3, .int (g 1 2), .int (0 : Int32)]) (rest := []) (A' := im_H (im_w g 1 1 ((g 1 1) + (1 : Int32))) u o Y) (c' := 0) (s' := 0) (as := [.ref 12, .int (g 0 0), .ref 4]) (v := none) (A'' := im_H g1 u o Y) 14 11 (fun n => rfl) rfl (x11_r9_r1_ok (g := (im_w g 1 1 ((g 1 1) + (1 : Int32)))) (a := (g 0 0)) hc) ?_
  show iv_ev (iv_Xs L xs) 10 45 [.ref 3, .int (g 1 2), .int (0 : Int32)] [] (im_H g1 u o Y) 0 0 _
  obtain ⟨v2, g2, hc, h⟩ := iv_bd h
  refine iv_cal (mi' := 10) (pc' := 42) (ls' := [.ref 3, .int (g 1 2), .int (1 : Int32)]) (rest := []) (A' := im_H g1 u o Y) (c' := 0) (s' := 0) (as := [.ref 17, .int (g1 0 0), .ref 4]) (v := none) (A'' := im_H g2 u o Y) 14 11 (fun n => rfl) rfl (x11_r14_r1_ok (g := g1) (a := (g1 0 0)) hc) ?_
  show iv_ev (iv_Xs L xs) 10 45 [.ref 3, .int (g 1 2), .int (1 : Int32)] [] (im_H g2 u o Y) 0 0 _
  obtain ⟨v3, g3, hc, h⟩ := iv_bd h
  refine iv_cal (mi' := 10) (pc' := 42) (ls' := [.ref 3, .int (g 1 2), .int (2 : Int32)]) (rest := []) (A' := im_H g2 u o Y) (c' := 0) (s' := 0) (as := [.ref 22, .int (g2 0 0), .ref 4]) (v := none) (A'' := im_H g3 u o Y) 14 11 (fun n => rfl) rfl (x11_r19_r1_ok (g := g2) (a := (g2 0 0)) hc) ?_
  show iv_ev (iv_Xs L xs) 10 45 [.ref 3, .int (g 1 2), .int (2 : Int32)] [] (im_H g3 u o Y) 0 0 _
  obtain ⟨v4, g4, hc, h⟩ := iv_bd h
  refine iv_cal (mi' := 10) (pc' := 42) (ls' := [.ref 3, .int (g 1 2), .int (3 : Int32)]) (rest := []) (A' := im_H g3 u o Y) (c' := 0) (s' := 0) (as := [.ref 27, .int (g3 0 0), .ref 4]) (v := none) (A'' := im_H g4 u o Y) 14 11 (fun n => rfl) rfl (x11_r24_r1_ok (g := g3) (a := (g3 0 0)) hc) ?_
  show iv_ev (iv_Xs L xs) 10 45 [.ref 3, .int (g 1 2), .int (3 : Int32)] [] (im_H g4 u o Y) 0 0 _
  obtain ⟨v5, g5, hc, h⟩ := iv_bd h
  refine iv_cal (mi' := 10) (pc' := 65) (ls' := [.ref 3, .int (g 1 2), .int (0 : Int32)]) (rest := []) (A' := im_H g4 u o Y) (c' := 0) (s' := 0) (as := [.ref 3, .ref 32]) (v := none) (A'' := im_H g5 u o Y) 16 24 (fun n => rfl) rfl (x24_r0_r29_ok (g := g4)  hc) ?_
  show iv_ev (iv_Xs L xs) 10 68 [.ref 3, .int (g 1 2), .int (0 : Int32)] [] (im_H g5 u o Y) 0 0 _
  obtain ⟨v6, g6, hc, h⟩ := iv_bd h
  refine iv_cal (mi' := 10) (pc' := 82) (ls' := [.ref 3, .int (g 1 2), .int (0 : Int32)]) (rest := []) (A' := im_H g5 u o Y) (c' := 0) (s' := 0) (as := [.ref 32, .int (g5 0 6), .ref 4]) (v := none) (A'' := im_H g6 u o Y) 9 31 (fun n => rfl) rfl (x31_r29_r1_ok (g := g5) (a := (g5 0 6)) hc) ?_
  show iv_ev (iv_Xs L xs) 10 85 [.ref 3, .int (g 1 2), .int (0 : Int32)] [] (im_H g6 u o Y) 0 0 _
  obtain ⟨v7, g7, hc, h⟩ := iv_bd h
  refine iv_cal (mi' := 10) (pc' := 65) (ls' := [.ref 3, .int (g 1 2), .int (1 : Int32)]) (rest := []) (A' := im_H g6 u o Y) (c' := 0) (s' := 0) (as := [.ref 3, .ref 34]) (v := none) (A'' := im_H g7 u o Y) 11 24 (fun n => rfl) rfl (x24_r0_r31_ok (g := g6)  hc) ?_
  show iv_ev (iv_Xs L xs) 10 68 [.ref 3, .int (g 1 2), .int (1 : Int32)] [] (im_H g7 u o Y) 0 0 _
  obtain ⟨v8, g8, hc, h⟩ := iv_bd h
  refine iv_cal (mi' := 10) (pc' := 82) (ls' := [.ref 3, .int (g 1 2), .int (1 : Int32)]) (rest := []) (A' := im_H g7 u o Y) (c' := 0) (s' := 0) (as := [.ref 34, .int (g7 0 6), .ref 4]) (v := none) (A'' := im_H g8 u o Y) 9 31 (fun n => rfl) rfl (x31_r31_r1_ok (g := g7) (a := (g7 0 6)) hc) ?_
  show iv_ev (iv_Xs L xs) 10 85 [.ref 3, .int (g 1 2), .int (1 : Int32)] [] (im_H g8 u o Y) 0 0 _
  obtain ⟨v9, g9, hc, h⟩ := iv_bd h
  refine iv_cal (mi' := 10) (pc' := 65) (ls' := [.ref 3, .int (g 1 2), .int (2 : Int32)]) (rest := []) (A' := im_H g8 u o Y) (c' := 0) (s' := 0) (as := [.ref 3, .ref 36]) (v := none) (A'' := im_H g9 u o Y) 11 24 (fun n => rfl) rfl (x24_r0_r33_ok (g := g8)  hc) ?_
  show iv_ev (iv_Xs L xs) 10 68 [.ref 3, .int (g 1 2), .int (2 : Int32)] [] (im_H g9 u o Y) 0 0 _
  obtain ⟨v10, g10, hc, h⟩ := iv_bd h
  refine iv_cal (mi' := 10) (pc' := 82) (ls' := [.ref 3, .int (g 1 2), .int (2 : Int32)]) (rest := []) (A' := im_H g9 u o Y) (c' := 0) (s' := 0) (as := [.ref 36, .int (g9 0 6), .ref 4]) (v := none) (A'' := im_H g10 u o Y) 9 31 (fun n => rfl) rfl (x31_r33_r1_ok (g := g9) (a := (g9 0 6)) hc) ?_
  show iv_ev (iv_Xs L xs) 10 85 [.ref 3, .int (g 1 2), .int (2 : Int32)] [] (im_H g10 u o Y) 0 0 _
  obtain ⟨v11, g11, hc, h⟩ := iv_bd h
  refine iv_cal (mi' := 10) (pc' := 65) (ls' := [.ref 3, .int (g 1 2), .int (3 : Int32)]) (rest := []) (A' := im_H g10 u o Y) (c' := 0) (s' := 0) (as := [.ref 3, .ref 38]) (v := none) (A'' := im_H g11 u o Y) 11 24 (fun n => rfl) rfl (x24_r0_r35_ok (g := g10)  hc) ?_
  show iv_ev (iv_Xs L xs) 10 68 [.ref 3, .int (g 1 2), .int (3 : Int32)] [] (im_H g11 u o Y) 0 0 _
  obtain ⟨v12, g12, hc, h⟩ := iv_bd h
  refine iv_cal (mi' := 10) (pc' := 82) (ls' := [.ref 3, .int (g 1 2), .int (3 : Int32)]) (rest := []) (A' := im_H g11 u o Y) (c' := 0) (s' := 0) (as := [.ref 38, .int (g11 0 6), .ref 4]) (v := none) (A'' := im_H g12 u o Y) 9 31 (fun n => rfl) rfl (x31_r35_r1_ok (g := g11) (a := (g11 0 6)) hc) ?_
  show iv_ev (iv_Xs L xs) 10 85 [.ref 3, .int (g 1 2), .int (3 : Int32)] [] (im_H g12 u o Y) 0 0 _
  cases hb1 : Op.if_icmp.holds .eq (g12 8 0) (-1 : Int32) with
  | true =>
    have h := iv_bt hb1 h
    refine iv_brt (mi' := 10) (pc' := 116) (ls' := [.ref 3, .int (g 1 2), .int (4 : Int32)]) (st' := []) (A' := im_H g12 u o Y) (c' := 0) (s' := 0) (mi'' := 10) (pc'' := 102) (ls'' := [.ref 3, .int (g 1 2), .int (4 : Int32)]) (st'' := []) (A'' := im_H g12 u o Y) (c'' := 0) (s'' := 0) 10 0 0 hb1 (fun n => rfl) ?_
    exact x10_r0_1_ok (g := g12) (y0 := (g 1 2)) h
  | false =>
    have h := iv_bf hb1 h
    refine iv_brf (mi' := 10) (pc' := 116) (ls' := [.ref 3, .int (g 1 2), .int (4 : Int32)]) (st' := []) (A' := im_H g12 u o Y) (c' := 0) (s' := 0) (mi'' := 10) (pc'' := 102) (ls'' := [.ref 3, .int (g 1 2), .int (4 : Int32)]) (st'' := []) (A'' := im_H g12 u o Y) (c'' := 0) (s'' := 0) 10 0 0 hb1 (fun n => rfl) ?_
    cases hb2 : Op.ifCond.holds .eq (g12 8 2) with
    | true =>
      have h := iv_bt hb2 h
      refine iv_brt (mi' := 10) (pc' := 116) (ls' := [.ref 3, .int (g 1 2), .int (4 : Int32)]) (st' := []) (A' := im_H g12 u o Y) (c' := 0) (s' := 0) (mi'' := 10) (pc'' := 112) (ls'' := [.ref 3, .int (g 1 2), .int (4 : Int32)]) (st'' := []) (A'' := im_H g12 u o Y) (c'' := 0) (s'' := 0) 4 0 0 hb2 (fun n => rfl) ?_
      exact x10_r0_1_ok (g := g12) (y0 := (g 1 2)) h
    | false =>
      have h := iv_bf hb2 h
      refine iv_brf (mi' := 10) (pc' := 116) (ls' := [.ref 3, .int (g 1 2), .int (4 : Int32)]) (st' := []) (A' := im_H g12 u o Y) (c' := 0) (s' := 0) (mi'' := 10) (pc'' := 112) (ls'' := [.ref 3, .int (g 1 2), .int (4 : Int32)]) (st'' := []) (A'' := im_H g12 u o Y) (c'' := 0) (s'' := 0) 4 0 0 hb2 (fun n => rfl) ?_
      obtain ⟨v13, g13, hc, h⟩ := iv_bd h
      refine iv_cal (mi' := 10) (pc' := 113) (ls' := [.ref 3, .int (g 1 2), .int (4 : Int32)]) (rest := []) (A' := im_H g12 u o Y) (c' := 0) (s' := 0) (as := [.ref 3]) (v := none) (A'' := im_H g13 u o Y) 2 34 (fun n => rfl) rfl (x34_r0_ok (g := g12)  hc) ?_
      show iv_ev (iv_Xs L xs) 10 116 [.ref 3, .int (g 1 2), .int (4 : Int32)] [] (im_H g13 u o Y) 0 0 _
      exact x10_r0_1_ok (g := g13) (y0 := (g 1 2)) h
def x39_r0_1 (g : im_M) (y0 : Int32) (y1 : Int32) : Option (Int32 × im_M) :=
  bif (y1 == 0 || y1 == 1) then some (y1, g) else none
set_option maxRecDepth 100000 in
set_option maxHeartbeats 4000000 in
theorem x39_r0_1_ok {L : Nat} {xs : Nat → Int32} {g u mm : im_M} {o : Nat → Int64} {Y : iv_A} {y0 y1 ret : Int32} (h : x39_r0_1 g y0 y1 = some (ret, mm)) : iv_ev (iv_Xs L xs) 39 39 [.ref 3, .int y0, .int (4 : Int32)] [.int y1] (im_H g u o Y) 0 0 (.inl (some (.int ret)), im_H mm u o Y) := by
  unfold x39_r0_1 at h
  cases hb2 : (y1 == 0 || y1 == 1) with
  | false => exact (iv_bn hb2 h).elim
  | true =>
    have h := iv_bt hb2 h
    cases h
    exact iv_retc 1 hb2 (fun n => rfl)
def x39_r0 (g : im_M) : Option (Int32 × im_M) :=
  bif Op.if_icmp.holds .lt (((((0 : Int32) + ((g 29 3) &&& (1 : Int32))) + ((g 31 3) &&& (1 : Int32))) + ((g 33 3) &&& (1 : Int32))) + ((g 35 3) &&& (1 : Int32))) (2 : Int32) then
    (x39_r0_1 g (((((0 : Int32) + ((g 29 3) &&& (1 : Int32))) + ((g 31 3) &&& (1 : Int32))) + ((g 33 3) &&& (1 : Int32))) + ((g 35 3) &&& (1 : Int32))) (0 : Int32))
  else
    (x39_r0_1 g (((((0 : Int32) + ((g 29 3) &&& (1 : Int32))) + ((g 31 3) &&& (1 : Int32))) + ((g 33 3) &&& (1 : Int32))) + ((g 35 3) &&& (1 : Int32))) (1 : Int32))
set_option maxRecDepth 100000 in
set_option maxHeartbeats 4000000 in
theorem x39_r0_ok {L : Nat} {xs : Nat → Int32} {g u mm : im_M} {o : Nat → Int64} {Y : iv_A} {ret : Int32} (h : x39_r0 g  = some (ret, mm)) : iv_ev (iv_Xs L xs) 39 0 [.ref 3, .retAddr 0, .retAddr 0] [] (im_H g u o Y) 0 0 (.inl (some (.int ret)), im_H mm u o Y) := by
  unfold x39_r0 at h
  cases hb1 : Op.if_icmp.holds .lt (((((0 : Int32) + ((g 29 3) &&& (1 : Int32))) + ((g 31 3) &&& (1 : Int32))) + ((g 33 3) &&& (1 : Int32))) + ((g 35 3) &&& (1 : Int32))) (2 : Int32) with
  | true =>
    have h := iv_bt hb1 h
    refine iv_brt (mi' := 39) (pc' := 38) (ls' := [.ref 3, .int (((((0 : Int32) + ((g 29 3) &&& (1 : Int32))) + ((g 31 3) &&& (1 : Int32))) + ((g 33 3) &&& (1 : Int32))) + ((g 35 3) &&& (1 : Int32))), .int (4 : Int32)]) (st' := []) (A' := im_H g u o Y) (c' := 0) (s' := 0) (mi'' := 39) (pc'' := 34) (ls'' := [.ref 3, .int (((((0 : Int32) + ((g 29 3) &&& (1 : Int32))) + ((g 31 3) &&& (1 : Int32))) + ((g 33 3) &&& (1 : Int32))) + ((g 35 3) &&& (1 : Int32))), .int (4 : Int32)]) (st'' := []) (A'' := im_H g u o Y) (c'' := 0) (s'' := 0) 70 0 0 hb1 (fun n => rfl) ?_
    refine iv_blk (mi' := 39) (pc' := 39) (ls' := [.ref 3, .int (((((0 : Int32) + ((g 29 3) &&& (1 : Int32))) + ((g 31 3) &&& (1 : Int32))) + ((g 33 3) &&& (1 : Int32))) + ((g 35 3) &&& (1 : Int32))), .int (4 : Int32)]) (st' := [.int (0 : Int32)]) (A' := im_H g u o Y) (c' := 0) (s' := 0) 1 (fun n => rfl) ?_
    exact x39_r0_1_ok (g := g) (y0 := (((((0 : Int32) + ((g 29 3) &&& (1 : Int32))) + ((g 31 3) &&& (1 : Int32))) + ((g 33 3) &&& (1 : Int32))) + ((g 35 3) &&& (1 : Int32)))) (y1 := (0 : Int32)) h
  | false =>
    have h := iv_bf hb1 h
    refine iv_brf (mi' := 39) (pc' := 38) (ls' := [.ref 3, .int (((((0 : Int32) + ((g 29 3) &&& (1 : Int32))) + ((g 31 3) &&& (1 : Int32))) + ((g 33 3) &&& (1 : Int32))) + ((g 35 3) &&& (1 : Int32))), .int (4 : Int32)]) (st' := []) (A' := im_H g u o Y) (c' := 0) (s' := 0) (mi'' := 39) (pc'' := 34) (ls'' := [.ref 3, .int (((((0 : Int32) + ((g 29 3) &&& (1 : Int32))) + ((g 31 3) &&& (1 : Int32))) + ((g 33 3) &&& (1 : Int32))) + ((g 35 3) &&& (1 : Int32))), .int (4 : Int32)]) (st'' := []) (A'' := im_H g u o Y) (c'' := 0) (s'' := 0) 70 0 0 hb1 (fun n => rfl) ?_
    refine iv_blk (mi' := 39) (pc' := 39) (ls' := [.ref 3, .int (((((0 : Int32) + ((g 29 3) &&& (1 : Int32))) + ((g 31 3) &&& (1 : Int32))) + ((g 33 3) &&& (1 : Int32))) + ((g 35 3) &&& (1 : Int32))), .int (4 : Int32)]) (st' := [.int (1 : Int32)]) (A' := im_H g u o Y) (c' := 0) (s' := 0) 2 (fun n => rfl) ?_
    exact x39_r0_1_ok (g := g) (y0 := (((((0 : Int32) + ((g 29 3) &&& (1 : Int32))) + ((g 31 3) &&& (1 : Int32))) + ((g 33 3) &&& (1 : Int32))) + ((g 35 3) &&& (1 : Int32)))) (y1 := (1 : Int32)) h
