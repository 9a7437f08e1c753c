/-! endTrial, sendFrames, tick, tripped (printed by wip/gen/lay1.py) -/
def x34_r0_5 (g : im_M) (y0 : Int32) (y1 : Int32) : Option (Int32 × im_M) :=
  Option.bind (x15_r1 g y1 (g 8 0) (g 8 1)) (fun (_, g5) =>
    Option.bind (x36_r8 g5 y0) (fun (_, g6) =>
      some (0, g6)))
set_option maxRecDepth 100000 in
set_option maxHeartbeats 4000000 in
theorem x34_r0_5_ok {L : Nat} {xs : Nat → Int32} {g u mm : im_M} {o : Nat → Int64} {Y : iv_A} {y0 y1 ret : Int32} (h : x34_r0_5 g y0 y1 = some (ret, mm)) : iv_ev (iv_Xs L xs) 34 75 [.ref 3, .int y0, .int (4 : Int32)] [.int y1, .ref 4] (im_H g u o Y) 0 0 (.inl none, im_H mm u o Y) := by
  unfold x34_r0_5 at h
  cases hc : x15_r1 g y1 (g 8 0) (g 8 1) with
  | none => rw [hc] at h; cases h
  | some q =>
    obtain ⟨v5, g5⟩ := q
    rw [hc] at h
    simp only [Option.bind_some] at h
    refine iv_cal (mi' := 34) (pc' := 89) (ls' := [.ref 3, .int y0, .int (4 : Int32)]) (rest := []) (A' := im_H g u o Y) (c' := 0) (s' := 0) (as := [.ref 4, .int y1, .int (g 8 0), .int (g 8 1)]) (v := none) (A'' := im_H g5 u o Y) 7 15 (fun n => rfl) rfl (x15_r1_ok hc) ?_
    show iv_ev (iv_Xs L xs) 34 92 [.ref 3, .int y0, .int (4 : Int32)] [] (im_H g5 u o Y) 0 0 _
    cases hc : x36_r8 g5 y0 with
    | none => rw [hc] at h; cases h
    | some q =>
      obtain ⟨v6, g6⟩ := q
      rw [hc] at h
      simp only [Option.bind_some] at h
      refine iv_cal (mi' := 34) (pc' := 97) (ls' := [.ref 3, .int y0, .int (4 : Int32)]) (rest := []) (A' := im_H g5 u o Y) (c' := 0) (s' := 0) (as := [.ref 11, .int y0]) (v := none) (A'' := im_H g6 u o Y) 4 36 (fun n => rfl) rfl (x36_r8_ok hc) ?_
      show iv_ev (iv_Xs L xs) 34 100 [.ref 3, .int y0, .int (4 : Int32)] [] (im_H g6 u o Y) 0 0 _
      cases h
      exact iv_ret 1 (fun n => rfl)
def x34_r0_4 (g : im_M) (y0 : Int32) (y1 : Int32) : Option (Int32 × im_M) :=
  bif Op.ifCond.holds .eq y1 then
    (x34_r0_5 g y1 (10 : Int32))
  else
    (x34_r0_5 g y1 (9 : Int32))
set_option maxRecDepth 100000 in
set_option maxHeartbeats 4000000 in
theorem x34_r0_4_ok {L : Nat} {xs : Nat → Int32} {g u mm : im_M} {o : Nat → Int64} {Y : iv_A} {y0 y1 ret : Int32} (h : x34_r0_4 g y0 y1 = some (ret, mm)) : iv_ev (iv_Xs L xs) 34 53 [.ref 3, .int y0, .int (3 : Int32)] [.int y1] (im_H g u o Y) 0 0 (.inl none, im_H mm u o Y) := by
  unfold x34_r0_4 at h
  cases hb12 : Op.ifCond.holds .eq y1 with
  | true =>
    rw [hb12] at h
    simp only [cond_true] at h
    refine iv_brt (mi' := 34) (pc' := 73) (ls' := [.ref 3, .int y1, .int (4 : Int32)]) (st' := [.ref 4]) (A' := im_H g u o Y) (c' := 0) (s' := 0) (mi'' := 34) (pc'' := 68) (ls'' := [.ref 3, .int y1, .int (4 : Int32)]) (st'' := [.ref 4]) (A'' := im_H g u o Y) (c'' := 0) (s'' := 0) 10 0 0 hb12 (fun n => rfl) ?_
    exact iv_blk 1 (fun n => rfl) (x34_r0_5_ok h)
  | false =>
    rw [hb12] at h
    simp only [cond_false] at h
    refine iv_brf (mi' := 34) (pc' := 73) (ls' := [.ref 3, .int y1, .int (4 : Int32)]) (st' := [.ref 4]) (A' := im_H g u o Y) (c' := 0) (s' := 0) (mi'' := 34) (pc'' := 68) (ls'' := [.ref 3, .int y1, .int (4 : Int32)]) (st'' := [.ref 4]) (A'' := im_H g u o Y) (c'' := 0) (s'' := 0) 10 0 0 hb12 (fun n => rfl) ?_
    exact iv_blk 2 (fun n => rfl) (x34_r0_5_ok h)
def x34_r0_3 (g : im_M) (y0 : Int32) (y1 : Int32) : Option (Int32 × im_M) :=
  bif Op.ifCond.holds .eq y1 then
    (x34_r0_4 g y1 (0 : Int32))
  else
    (bif iv_in (g 8 0) 4 then
      Option.bind (x35_r8 g (g 8 0)) (fun (v4, g4) =>
        bif Op.ifCond.holds .eq (((g 36) ((g 8 0)).toNatClampNeg) &&& v4) then
          (x34_r0_4 g4 y1 (0 : Int32))
        else
          (x34_r0_4 g4 y1 (1 : Int32)))
    else none)
set_option maxRecDepth 100000 in
set_option maxHeartbeats 4000000 in
theorem x34_r0_3_ok {L : Nat} {xs : Nat → Int32} {g u mm : im_M} {o : Nat → Int64} {Y : iv_A} {y0 y1 ret : Int32} (h : x34_r0_3 g y0 y1 = some (ret, mm)) : iv_ev (iv_Xs L xs) 34 53 [.ref 3, .int y0, .int (2 : Int32)] [.int y1] (im_H g u o Y) 0 0 (.inl none, im_H mm u o Y) := by
  unfold x34_r0_3 at h
  cases hb9 : Op.ifCond.holds .eq y1 with
  | true =>
    rw [hb9] at h
    simp only [cond_true] at h
    refine iv_brt (mi' := 34) (pc' := 52) (ls' := [.ref 3, .int y1, .int (3 : Int32)]) (st' := []) (A' := im_H g u o Y) (c' := 0) (s' := 0) (mi'' := 34) (pc'' := 13) (ls'' := [.ref 3, .int y1, .int (3 : Int32)]) (st'' := []) (A'' := im_H g u o Y) (c'' := 0) (s'' := 0) 8 0 0 hb9 (fun n => rfl) ?_
    exact iv_blk 1 (fun n => rfl) (x34_r0_4_ok h)
  | false =>
    rw [hb9] at h
    simp only [cond_false] at h
    refine iv_brf (mi' := 34) (pc' := 52) (ls' := [.ref 3, .int y1, .int (3 : Int32)]) (st' := []) (A' := im_H g u o Y) (c' := 0) (s' := 0) (mi'' := 34) (pc'' := 13) (ls'' := [.ref 3, .int y1, .int (3 : Int32)]) (st'' := []) (A'' := im_H g u o Y) (c'' := 0) (s'' := 0) 8 0 0 hb9 (fun n => rfl) ?_
    cases hb10 : iv_in (g 8 0) 4 with
    | false => rw [hb10] at h; cases h
    | true =>
      rw [hb10] at h
      simp only [cond_true] at h
      refine iv_chk (mi' := 34) (pc' := 30) (ls' := [.ref 3, .int y1, .int (3 : Int32)]) (st' := [.int ((g 36) ((g 8 0)).toNatClampNeg)]) (A' := im_H g u o Y) (c' := 0) (s' := 0) 9 hb10 (fun n => rfl) ?_
      cases hc : x35_r8 g (g 8 0) with
      | none => rw [hc] at h; cases h
      | some q =>
        obtain ⟨v4, g4⟩ := q
        rw [hc] at h
        simp only [Option.bind_some] at h
        refine iv_cal (mi' := 34) (pc' := 41) (ls' := [.ref 3, .int y1, .int (3 : Int32)]) (rest := [.int ((g 36) ((g 8 0)).toNatClampNeg)]) (A' := im_H g u o Y) (c' := 0) (s' := 0) (as := [.ref 11, .int (g 8 0)]) (v := some (.int v4)) (A'' := im_H g4 u o Y) 6 35 (fun n => rfl) rfl (x35_r8_ok hc) ?_
        show iv_ev (iv_Xs L xs) 34 44 [.ref 3, .int y1, .int (3 : Int32)] [.int v4, .int ((g 36) ((g 8 0)).toNatClampNeg)] (im_H g4 u o Y) 0 0 _
        cases hb11 : Op.ifCond.holds .eq (((g 36) ((g 8 0)).toNatClampNeg) &&& v4) with
        | true =>
          rw [hb11] at h
          simp only [cond_true] at h
          refine iv_brt (mi' := 34) (pc' := 52) (ls' := [.ref 3, .int y1, .int (3 : Int32)]) (st' := []) (A' := im_H g4 u o Y) (c' := 0) (s' := 0) (mi'' := 34) (pc'' := 48) (ls'' := [.ref 3, .int y1, .int (3 : Int32)]) (st'' := []) (A'' := im_H g4 u o Y) (c'' := 0) (s'' := 0) 2 0 0 hb11 (fun n => rfl) ?_
          exact iv_blk 1 (fun n => rfl) (x34_r0_4_ok h)
        | false =>
          rw [hb11] at h
          simp only [cond_false] at h
          refine iv_brf (mi' := 34) (pc' := 52) (ls' := [.ref 3, .int y1, .int (3 : Int32)]) (st' := []) (A' := im_H g4 u o Y) (c' := 0) (s' := 0) (mi'' := 34) (pc'' := 48) (ls'' := [.ref 3, .int y1, .int (3 : Int32)]) (st'' := []) (A'' := im_H g4 u o Y) (c'' := 0) (s'' := 0) 2 0 0 hb11 (fun n => rfl) ?_
          exact iv_blk 2 (fun n => rfl) (x34_r0_4_ok h)
def x34_r0_2 (g : im_M) (y0 : Int32) (y1 : Int32) : Option (Int32 × im_M) :=
  bif Op.ifCond.holds .eq y1 then
    (x34_r0_3 g y1 (0 : Int32))
  else
    (bif iv_in (g 8 0) 4 then
      Option.bind (x35_r8 g (g 8 0)) (fun (v3, g3) =>
        bif Op.ifCond.holds .eq (((g 34) ((g 8 0)).toNatClampNeg) &&& v3) then
          (x34_r0_3 g3 y1 (0 : Int32))
        else
          (x34_r0_3 g3 y1 (1 : Int32)))
    else none)
set_option maxRecDepth 100000 in
set_option maxHeartbeats 4000000 in
theorem x34_r0_2_ok {L : Nat} {xs : Nat → Int32} {g u mm : im_M} {o : Nat → Int64} {Y : iv_A} {y0 y1 ret : Int32} (h : x34_r0_2 g y0 y1 = some (ret, mm)) : iv_ev (iv_Xs L xs) 34 53 [.ref 3, .int y0, .int (1 : Int32)] [.int y1] (im_H g u o Y) 0 0 (.inl none, im_H mm u o Y) := by
  unfold x34_r0_2 at h
  cases hb6 : Op.ifCond.holds .eq y1 with
  | true =>
    rw [hb6] at h
    simp only [cond_true] at h
    refine iv_brt (mi' := 34) (pc' := 52) (ls' := [.ref 3, .int y1, .int (2 : Int32)]) (st' := []) (A' := im_H g u o Y) (c' := 0) (s' := 0) (mi'' := 34) (pc'' := 13) (ls'' := [.ref 3, .int y1, .int (2 : Int32)]) (st'' := []) (A'' := im_H g u o Y) (c'' := 0) (s'' := 0) 8 0 0 hb6 (fun n => rfl) ?_
    exact iv_blk 1 (fun n => rfl) (x34_r0_3_ok h)
  | false =>
    rw [hb6] at h
    simp only [cond_false] at h
    refine iv_brf (mi' := 34) (pc' := 52) (ls' := [.ref 3, .int y1, .int (2 : Int32)]) (st' := []) (A' := im_H g u o Y) (c' := 0) (s' := 0) (mi'' := 34) (pc'' := 13) (ls'' := [.ref 3, .int y1, .int (2 : Int32)]) (st'' := []) (A'' := im_H g u o Y) (c'' := 0) (s'' := 0) 8 0 0 hb6 (fun n => rfl) ?_
    cases hb7 : iv_in (g 8 0) 4 with
    | false => rw [hb7] at h; cases h
    | true =>
      rw [hb7] at h
      simp only [cond_true] at h
      refine iv_chk (mi' := 34) (pc' := 30) (ls' := [.ref 3, .int y1, .int (2 : Int32)]) (st' := [.int ((g 34) ((g 8 0)).toNatClampNeg)]) (A' := im_H g u o Y) (c' := 0) (s' := 0) 9 hb7 (fun n => rfl) ?_
      cases hc : x35_r8 g (g 8 0) with
      | none => rw [hc] at h; cases h
      | some q =>
        obtain ⟨v3, g3⟩ := q
        rw [hc] at h
        simp only [Option.bind_some] at h
        refine iv_cal (mi' := 34) (pc' := 41) (ls' := [.ref 3, .int y1, .int (2 : Int32)]) (rest := [.int ((g 34) ((g 8 0)).toNatClampNeg)]) (A' := im_H g u o Y) (c' := 0) (s' := 0) (as := [.ref 11, .int (g 8 0)]) (v := some (.int v3)) (A'' := im_H g3 u o Y) 6 35 (fun n => rfl) rfl (x35_r8_ok hc) ?_
        show iv_ev (iv_Xs L xs) 34 44 [.ref 3, .int y1, .int (2 : Int32)] [.int v3, .int ((g 34) ((g 8 0)).toNatClampNeg)] (im_H g3 u o Y) 0 0 _
        cases hb8 : Op.ifCond.holds .eq (((g 34) ((g 8 0)).toNatClampNeg) &&& v3) with
        | true =>
          rw [hb8] at h
          simp only [cond_true] at h
          refine iv_brt (mi' := 34) (pc' := 52) (ls' := [.ref 3, .int y1, .int (2 : Int32)]) (st' := []) (A' := im_H g3 u o Y) (c' := 0) (s' := 0) (mi'' := 34) (pc'' := 48) (ls'' := [.ref 3, .int y1, .int (2 : Int32)]) (st'' := []) (A'' := im_H g3 u o Y) (c'' := 0) (s'' := 0) 2 0 0 hb8 (fun n => rfl) ?_
          exact iv_blk 1 (fun n => rfl) (x34_r0_3_ok h)
        | false =>
          rw [hb8] at h
          simp only [cond_false] at h
          refine iv_brf (mi' := 34) (pc' := 52) (ls' := [.ref 3, .int y1, .int (2 : Int32)]) (st' := []) (A' := im_H g3 u o Y) (c' := 0) (s' := 0) (mi'' := 34) (pc'' := 48) (ls'' := [.ref 3, .int y1, .int (2 : Int32)]) (st'' := []) (A'' := im_H g3 u o Y) (c'' := 0) (s'' := 0) 2 0 0 hb8 (fun n => rfl) ?_
          exact iv_blk 2 (fun n => rfl) (x34_r0_3_ok h)
def x34_r0_1 (g : im_M) (y0 : Int32) : Option (Int32 × im_M) :=
  bif Op.ifCond.holds .eq y0 then
    (x34_r0_2 g y0 (0 : Int32))
  else
    (bif iv_in (g 8 0) 4 then
      Option.bind (x35_r8 g (g 8 0)) (fun (v2, g2) =>
        bif Op.ifCond.holds .eq (((g 32) ((g 8 0)).toNatClampNeg) &&& v2) then
          (x34_r0_2 g2 y0 (0 : Int32))
        else
          (x34_r0_2 g2 y0 (1 : Int32)))
    else none)
set_option maxRecDepth 100000 in
set_option maxHeartbeats 4000000 in
theorem x34_r0_1_ok {L : Nat} {xs : Nat → Int32} {g u mm : im_M} {o : Nat → Int64} {Y : iv_A} {y0 ret : Int32} (h : x34_r0_1 g y0 = some (ret, mm)) : iv_ev (iv_Xs L xs) 34 53 [.ref 3, .int (1 : Int32), .int (0 : Int32)] [.int y0] (im_H g u o Y) 0 0 (.inl none, im_H mm u o Y) := by
  unfold x34_r0_1 at h
  cases hb3 : Op.ifCond.holds .eq y0 with
  | true =>
    rw [hb3] at h
    simp only [cond_true] at h
    refine iv_brt (mi' := 34) (pc' := 52) (ls' := [.ref 3, .int y0, .int (1 : Int32)]) (st' := []) (A' := im_H g u o Y) (c' := 0) (s' := 0) (mi'' := 34) (pc'' := 13) (ls'' := [.ref 3, .int y0, .int (1 : Int32)]) (st'' := []) (A'' := im_H g u o Y) (c'' := 0) (s'' := 0) 8 0 0 hb3 (fun n => rfl) ?_
    exact iv_blk 1 (fun n => rfl) (x34_r0_2_ok h)
  | false =>
    rw [hb3] at h
    simp only [cond_false] at h
    refine iv_brf (mi' := 34) (pc' := 52) (ls' := [.ref 3, .int y0, .int (1 : Int32)]) (st' := []) (A' := im_H g u o Y) (c' := 0) (s' := 0) (mi'' := 34) (pc'' := 13) (ls'' := [.ref 3, .int y0, .int (1 : Int32)]) (st'' := []) (A'' := im_H g u o Y) (c'' := 0) (s'' := 0) 8 0 0 hb3 (fun n => rfl) ?_
    cases hb4 : iv_in (g 8 0) 4 with
    | false => rw [hb4] at h; cases h
    | true =>
      rw [hb4] at h
      simp only [cond_true] at h
      refine iv_chk (mi' := 34) (pc' := 30) (ls' := [.ref 3, .int y0, .int (1 : Int32)]) (st' := [.int ((g 32) ((g 8 0)).toNatClampNeg)]) (A' := im_H g u o Y) (c' := 0) (s' := 0) 9 hb4 (fun n => rfl) ?_
      cases hc : x35_r8 g (g 8 0) with
      | none => rw [hc] at h; cases h
      | some q =>
        obtain ⟨v2, g2⟩ := q
        rw [hc] at h
        simp only [Option.bind_some] at h
        refine iv_cal (mi' := 34) (pc' := 41) (ls' := [.ref 3, .int y0, .int (1 : Int32)]) (rest := [.int ((g 32) ((g 8 0)).toNatClampNeg)]) (A' := im_H g u o Y) (c' := 0) (s' := 0) (as := [.ref 11, .int (g 8 0)]) (v := some (.int v2)) (A'' := im_H g2 u o Y) 6 35 (fun n => rfl) rfl (x35_r8_ok hc) ?_
        show iv_ev (iv_Xs L xs) 34 44 [.ref 3, .int y0, .int (1 : Int32)] [.int v2, .int ((g 32) ((g 8 0)).toNatClampNeg)] (im_H g2 u o Y) 0 0 _
        cases hb5 : Op.ifCond.holds .eq (((g 32) ((g 8 0)).toNatClampNeg) &&& v2) with
        | true =>
          rw [hb5] at h
          simp only [cond_true] at h
          refine iv_brt (mi' := 34) (pc' := 52) (ls' := [.ref 3, .int y0, .int (1 : Int32)]) (st' := []) (A' := im_H g2 u o Y) (c' := 0) (s' := 0) (mi'' := 34) (pc'' := 48) (ls'' := [.ref 3, .int y0, .int (1 : Int32)]) (st'' := []) (A'' := im_H g2 u o Y) (c'' := 0) (s'' := 0) 2 0 0 hb5 (fun n => rfl) ?_
          exact iv_blk 1 (fun n => rfl) (x34_r0_2_ok h)
        | false =>
          rw [hb5] at h
          simp only [cond_false] at h
          refine iv_brf (mi' := 34) (pc' := 52) (ls' := [.ref 3, .int y0, .int (1 : Int32)]) (st' := []) (A' := im_H g2 u o Y) (c' := 0) (s' := 0) (mi'' := 34) (pc'' := 48) (ls'' := [.ref 3, .int y0, .int (1 : Int32)]) (st'' := []) (A'' := im_H g2 u o Y) (c'' := 0) (s'' := 0) 2 0 0 hb5 (fun n => rfl) ?_
          exact iv_blk 2 (fun n => rfl) (x34_r0_2_ok h)
def x34_r0 (g : im_M) : Option (Int32 × im_M) :=
  bif iv_in (g 8 0) 4 then
    Option.bind (x35_r8 g (g 8 0)) (fun (v1, g1) =>
      bif Op.ifCond.holds .eq (((g 30) ((g 8 0)).toNatClampNeg) &&& v1) then
        (x34_r0_1 g1 (0 : Int32))
      else
        (x34_r0_1 g1 (1 : Int32)))
  else none
set_option maxRecDepth 100000 in
set_option maxHeartbeats 4000000 in
theorem x34_r0_ok {L : Nat} {xs : Nat → Int32} {g u mm : im_M} {o : Nat → Int64} {Y : iv_A} {ret : Int32} (h : x34_r0 g  = some (ret, mm)) : iv_ev (iv_Xs L xs) 34 0 [.ref 3, .retAddr 0, .retAddr 0] [] (im_H g u o Y) 0 0 (.inl none, im_H mm u o Y) := by
  unfold x34_r0 at h
  cases hb1 : iv_in (g 8 0) 4 with
  | false => rw [hb1] at h; cases h
  | true =>
    rw [hb1] at h
    simp only [cond_true] at h
    refine iv_chk (mi' := 34) (pc' := 30) (ls' := [.ref 3, .int (1 : Int32), .int (0 : Int32)]) (st' := [.int ((g 30) ((g 8 0)).toNatClampNeg)]) (A' := im_H g u o Y) (c' := 0) (s' := 0) 18 hb1 (fun n => rfl) ?_
    cases hc : x35_r8 g (g 8 0) with
    | none => rw [hc] at h; cases h
    | some q =>
      obtain ⟨v1, g1⟩ := q
      rw [hc] at h
      simp only [Option.bind_some] at h
      refine iv_cal (mi' := 34) (pc' := 41) (ls' := [.ref 3, .int (1 : Int32), .int (0 : Int32)]) (rest := [.int ((g 30) ((g 8 0)).toNatClampNeg)]) (A' := im_H g u o Y) (c' := 0) (s' := 0) (as := [.ref 11, .int (g 8 0)]) (v := some (.int v1)) (A'' := im_H g1 u o Y) 6 35 (fun n => rfl) rfl (x35_r8_ok hc) ?_
      show iv_ev (iv_Xs L xs) 34 44 [.ref 3, .int (1 : Int32), .int (0 : Int32)] [.int v1, .int ((g 30) ((g 8 0)).toNatClampNeg)] (im_H g1 u o Y) 0 0 _
      cases hb2 : Op.ifCond.holds .eq (((g 30) ((g 8 0)).toNatClampNeg) &&& v1) with
      | true =>
        rw [hb2] at h
        simp only [cond_true] at h
        refine iv_brt (mi' := 34) (pc' := 52) (ls' := [.ref 3, .int (1 : Int32), .int (0 : Int32)]) (st' := []) (A' := im_H g1 u o Y) (c' := 0) (s' := 0) (mi'' := 34) (pc'' := 48) (ls'' := [.ref 3, .int (1 : Int32), .int (0 : Int32)]) (st'' := []) (A'' := im_H g1 u o Y) (c'' := 0) (s'' := 0) 2 0 0 hb2 (fun n => rfl) ?_
        exact iv_blk 1 (fun n => rfl) (x34_r0_1_ok h)
      | false =>
        rw [hb2] at h
        simp only [cond_false] at h
        refine iv_brf (mi' := 34) (pc' := 52) (ls' := [.ref 3, .int (1 : Int32), .int (0 : Int32)]) (st' := []) (A' := im_H g1 u o Y) (c' := 0) (s' := 0) (mi'' := 34) (pc'' := 48) (ls'' := [.ref 3, .int (1 : Int32), .int (0 : Int32)]) (st'' := []) (A'' := im_H g1 u o Y) (c'' := 0) (s'' := 0) 2 0 0 hb2 (fun n => rfl) ?_
        exact iv_blk 2 (fun n => rfl) (x34_r0_1_ok h)
def x37_r0_1 (g : im_M) (y0 : Int32) (y1 : Int32) : Option (Int32 × im_M) :=
  bif (y1 == 0 || y1 == 1) then
    some (0, (im_w g 8 2 y1))
  else none
set_option maxRecDepth 100000 in
set_option maxHeartbeats 4000000 in
theorem x37_r0_1_ok {L : Nat} {xs : Nat → Int32} {g u mm : im_M} {o : Nat → Int64} {Y : iv_A} {y0 y1 ret : Int32} (h : x37_r0_1 g y0 y1 = some (ret, mm)) : iv_ev (iv_Xs L xs) 37 81 [.ref 3, .int (4 : Int32), .int y0] [.int y1, .ref 11] (im_H g u o Y) 0 0 (.inl none, im_H mm u o Y) := by
  unfold x37_r0_1 at h
  cases hb2 : (y1 == 0 || y1 == 1) with
  | false => rw [hb2] at h; cases h
  | true =>
    rw [hb2] at h
    simp only [cond_true] at h
    refine iv_chk (mi' := 37) (pc' := 84) (ls' := [.ref 3, .int (4 : Int32), .int y0]) (st' := []) (A' := List.set (im_H g u o Y) 8 (.inr (4, List.set [.int (g 8 0), .int (g 8 1), .int (g 8 2), .int (g 8 3), .int (g 8 4)] 2 (.int y1)))) (c' := 0) (s' := 0) 1 hb2 (fun n => rfl) ?_
    rw [im_f8_2]
    cases h
    exact iv_ret 1 (fun n => rfl)
def x37_r0 (g : im_M) : Option (Int32 × im_M) :=
  Option.bind (x35_r8 g (0 : Int32)) (fun (v1, g1) =>
    Option.bind (x28 g1 (g1 1 1) (((g 9 6) ||| (g 9 7)) ||| v1)) (fun (v2, g2) =>
      Option.bind (x38_r5_0 g2 v2) (fun (_, g3) =>
        Option.bind (x35_r8 g3 (1 : Int32)) (fun (v4, g4) =>
          Option.bind (x28 g4 (g4 1 1) (((g3 14 6) ||| (g3 14 7)) ||| v4)) (fun (v5, g5) =>
            Option.bind (x38_r5_1 g5 v5) (fun (_, g6) =>
              Option.bind (x35_r8 g6 (2 : Int32)) (fun (v7, g7) =>
                Option.bind (x28 g7 (g7 1 1) (((g6 19 6) ||| (g6 19 7)) ||| v7)) (fun (v8, g8) =>
                  Option.bind (x38_r5_2 g8 v8) (fun (_, g9) =>
                    Option.bind (x35_r8 g9 (3 : Int32)) (fun (v10, g10) =>
                      Option.bind (x28 g10 (g10 1 1) (((g9 24 6) ||| (g9 24 7)) ||| v10)) (fun (v11, g11) =>
                        Option.bind (x38_r5_3 g11 v11) (fun (_, g12) =>
                          bif Op.if_icmp.holds .eq (g12 8 0) (-1 : Int32) then
                            (x37_r0_1 g12 (((g9 24 6) ||| (g9 24 7)) ||| v10) (0 : Int32))
                          else
                            (x37_r0_1 g12 (((g9 24 6) ||| (g9 24 7)) ||| v10) (1 : Int32))))))))))))))
set_option maxRecDepth 100000 in
set_option maxHeartbeats 4000000 in
theorem x37_r0_ok {L : Nat} {xs : Nat → Int32} {g u mm : im_M} {o : Nat → Int64} {Y : iv_A} {ret : Int32} (h : x37_r0 g  = some (ret, mm)) : iv_ev (iv_Xs L xs) 37 0 [.ref 3, .retAddr 0, .retAddr 0] [] (im_H g u o Y) 0 0 (.inl none, im_H mm u o Y) := by
  unfold x37_r0 at h
  cases hc : x35_r8 g (0 : Int32) with
  | none => rw [hc] at h; cases h
  | some q =>
    obtain ⟨v1, g1⟩ := q
    rw [hc] at h
    simp only [Option.bind_some] at h
    refine iv_cal (mi' := 37) (pc' := 31) (ls' := [.ref 3, .int (0 : Int32), .retAddr 0]) (rest := [.int ((g 9 6) ||| (g 9 7))]) (A' := im_H g u o Y) (c' := 0) (s' := 0) (as := [.ref 11, .int (0 : Int32)]) (v := some (.int v1)) (A'' := im_H g1 u o Y) 20 35 (fun n => rfl) rfl (x35_r8_ok hc) ?_
    show iv_ev (iv_Xs L xs) 37 34 [.ref 3, .int (0 : Int32), .retAddr 0] [.int v1, .int ((g 9 6) ||| (g 9 7))] (im_H g1 u o Y) 0 0 _
    cases hc : x28 g1 (g1 1 1) (((g 9 6) ||| (g 9 7)) ||| v1) with
    | none => rw [hc] at h; cases h
    | some q =>
      obtain ⟨v2, g2⟩ := q
      rw [hc] at h
      simp only [Option.bind_some] at h
      refine iv_cal (mi' := 37) (pc' := 49) (ls' := [.ref 3, .int (0 : Int32), .int (((g 9 6) ||| (g 9 7)) ||| v1)]) (rest := [.int (0 : Int32), .ref 8]) (A' := im_H g1 u o Y) (c' := 0) (s' := 0) (as := [.int (g1 1 1), .int (((g 9 6) ||| (g 9 7)) ||| v1)]) (v := some (.int v2)) (A'' := im_H g2 u o Y) 10 28 (fun n => rfl) rfl (x28_ok hc) ?_
      show iv_ev (iv_Xs L xs) 37 52 [.ref 3, .int (0 : Int32), .int (((g 9 6) ||| (g 9 7)) ||| v1)] [.int v2, .int (0 : Int32), .ref 8] (im_H g2 u o Y) 0 0 _
      cases hc : x38_r5_0 g2 v2 with
      | none => rw [hc] at h; cases h
      | some q =>
        obtain ⟨v3, g3⟩ := q
        rw [hc] at h
        simp only [Option.bind_some] at h
        refine iv_cal (mi' := 37) (pc' := 52) (ls' := [.ref 3, .int (0 : Int32), .int (((g 9 6) ||| (g 9 7)) ||| v1)]) (rest := []) (A' := im_H g2 u o Y) (c' := 0) (s' := 0) (as := [.ref 8, .int (0 : Int32), .int v2]) (v := none) (A'' := im_H g3 u o Y) 1 38 (fun n => rfl) rfl (x38_r5_0_ok hc) ?_
        show iv_ev (iv_Xs L xs) 37 55 [.ref 3, .int (0 : Int32), .int (((g 9 6) ||| (g 9 7)) ||| v1)] [] (im_H g3 u o Y) 0 0 _
        cases hc : x35_r8 g3 (1 : Int32) with
        | none => rw [hc] at h; cases h
        | some q =>
          obtain ⟨v4, g4⟩ := q
          rw [hc] at h
          simp only [Option.bind_some] at h
          refine iv_cal (mi' := 37) (pc' := 31) (ls' := [.ref 3, .int (1 : Int32), .int (((g 9 6) ||| (g 9 7)) ||| v1)]) (rest := [.int ((g3 14 6) ||| (g3 14 7))]) (A' := im_H g3 u o Y) (c' := 0) (s' := 0) (as := [.ref 11, .int (1 : Int32)]) (v := some (.int v4)) (A'' := im_H g4 u o Y) 20 35 (fun n => rfl) rfl (x35_r8_ok hc) ?_
          show iv_ev (iv_Xs L xs) 37 34 [.ref 3, .int (1 : Int32), .int (((g 9 6) ||| (g 9 7)) ||| v1)] [.int v4, .int ((g3 14 6) ||| (g3 14 7))] (im_H g4 u o Y) 0 0 _
          cases hc : x28 g4 (g4 1 1) (((g3 14 6) ||| (g3 14 7)) ||| v4) with
          | none => rw [hc] at h; cases h
          | some q =>
            obtain ⟨v5, g5⟩ := q
            rw [hc] at h
            simp only [Option.bind_some] at h
            refine iv_cal (mi' := 37) (pc' := 49) (ls' := [.ref 3, .int (1 : Int32), .int (((g3 14 6) ||| (g3 14 7)) ||| v4)]) (rest := [.int (1 : Int32), .ref 8]) (A' := im_H g4 u o Y) (c' := 0) (s' := 0) (as := [.int (g4 1 1), .int (((g3 14 6) ||| (g3 14 7)) ||| v4)]) (v := some (.int v5)) (A'' := im_H g5 u o Y) 10 28 (fun n => rfl) rfl (x28_ok hc) ?_
            show iv_ev (iv_Xs L xs) 37 52 [.ref 3, .int (1 : Int32), .int (((g3 14 6) ||| (g3 14 7)) ||| v4)] [.int v5, .int (1 : Int32), .ref 8] (im_H g5 u o Y) 0 0 _
            cases hc : x38_r5_1 g5 v5 with
            | none => rw [hc] at h; cases h
            | some q =>
              obtain ⟨v6, g6⟩ := q
              rw [hc] at h
              simp only [Option.bind_some] at h
              refine iv_cal (mi' := 37) (pc' := 52) (ls' := [.ref 3, .int (1 : Int32), .int (((g3 14 6) ||| (g3 14 7)) ||| v4)]) (rest := []) (A' := im_H g5 u o Y) (c' := 0) (s' := 0) (as := [.ref 8, .int (1 : Int32), .int v5]) (v := none) (A'' := im_H g6 u o Y) 1 38 (fun n => rfl) rfl (x38_r5_1_ok hc) ?_
              show iv_ev (iv_Xs L xs) 37 55 [.ref 3, .int (1 : Int32), .int (((g3 14 6) ||| (g3 14 7)) ||| v4)] [] (im_H g6 u o Y) 0 0 _
              cases hc : x35_r8 g6 (2 : Int32) with
              | none => rw [hc] at h; cases h
              | some q =>
                obtain ⟨v7, g7⟩ := q
                rw [hc] at h
                simp only [Option.bind_some] at h
                refine iv_cal (mi' := 37) (pc' := 31) (ls' := [.ref 3, .int (2 : Int32), .int (((g3 14 6) ||| (g3 14 7)) ||| v4)]) (rest := [.int ((g6 19 6) ||| (g6 19 7))]) (A' := im_H g6 u o Y) (c' := 0) (s' := 0) (as := [.ref 11, .int (2 : Int32)]) (v := some (.int v7)) (A'' := im_H g7 u o Y) 20 35 (fun n => rfl) rfl (x35_r8_ok hc) ?_
                show iv_ev (iv_Xs L xs) 37 34 [.ref 3, .int (2 : Int32), .int (((g3 14 6) ||| (g3 14 7)) ||| v4)] [.int v7, .int ((g6 19 6) ||| (g6 19 7))] (im_H g7 u o Y) 0 0 _
                cases hc : x28 g7 (g7 1 1) (((g6 19 6) ||| (g6 19 7)) ||| v7) with
                | none => rw [hc] at h; cases h
                | some q =>
                  obtain ⟨v8, g8⟩ := q
                  rw [hc] at h
                  simp only [Option.bind_some] at h
                  refine iv_cal (mi' := 37) (pc' := 49) (ls' := [.ref 3, .int (2 : Int32), .int (((g6 19 6) ||| (g6 19 7)) ||| v7)]) (rest := [.int (2 : Int32), .ref 8]) (A' := im_H g7 u o Y) (c' := 0) (s' := 0) (as := [.int (g7 1 1), .int (((g6 19 6) ||| (g6 19 7)) ||| v7)]) (v := some (.int v8)) (A'' := im_H g8 u o Y) 10 28 (fun n => rfl) rfl (x28_ok hc) ?_
                  show iv_ev (iv_Xs L xs) 37 52 [.ref 3, .int (2 : Int32), .int (((g6 19 6) ||| (g6 19 7)) ||| v7)] [.int v8, .int (2 : Int32), .ref 8] (im_H g8 u o Y) 0 0 _
                  cases hc : x38_r5_2 g8 v8 with
                  | none => rw [hc] at h; cases h
                  | some q =>
                    obtain ⟨v9, g9⟩ := q
                    rw [hc] at h
                    simp only [Option.bind_some] at h
                    refine iv_cal (mi' := 37) (pc' := 52) (ls' := [.ref 3, .int (2 : Int32), .int (((g6 19 6) ||| (g6 19 7)) ||| v7)]) (rest := []) (A' := im_H g8 u o Y) (c' := 0) (s' := 0) (as := [.ref 8, .int (2 : Int32), .int v8]) (v := none) (A'' := im_H g9 u o Y) 1 38 (fun n => rfl) rfl (x38_r5_2_ok hc) ?_
                    show iv_ev (iv_Xs L xs) 37 55 [.ref 3, .int (2 : Int32), .int (((g6 19 6) ||| (g6 19 7)) ||| v7)] [] (im_H g9 u o Y) 0 0 _
                    cases hc : x35_r8 g9 (3 : Int32) with
                    | none => rw [hc] at h; cases h
                    | some q =>
                      obtain ⟨v10, g10⟩ := q
                      rw [hc] at h
                      simp only [Option.bind_some] at h
                      refine iv_cal (mi' := 37) (pc' := 31) (ls' := [.ref 3, .int (3 : Int32), .int (((g6 19 6) ||| (g6 19 7)) ||| v7)]) (rest := [.int ((g9 24 6) ||| (g9 24 7))]) (A' := im_H g9 u o Y) (c' := 0) (s' := 0) (as := [.ref 11, .int (3 : Int32)]) (v := some (.int v10)) (A'' := im_H g10 u o Y) 20 35 (fun n => rfl) rfl (x35_r8_ok hc) ?_
                      show iv_ev (iv_Xs L xs) 37 34 [.ref 3, .int (3 : Int32), .int (((g6 19 6) ||| (g6 19 7)) ||| v7)] [.int v10, .int ((g9 24 6) ||| (g9 24 7))] (im_H g10 u o Y) 0 0 _
                      cases hc : x28 g10 (g10 1 1) (((g9 24 6) ||| (g9 24 7)) ||| v10) with
                      | none => rw [hc] at h; cases h
                      | some q =>
                        obtain ⟨v11, g11⟩ := q
                        rw [hc] at h
                        simp only [Option.bind_some] at h
                        refine iv_cal (mi' := 37) (pc' := 49) (ls' := [.ref 3, .int (3 : Int32), .int (((g9 24 6) ||| (g9 24 7)) ||| v10)]) (rest := [.int (3 : Int32), .ref 8]) (A' := im_H g10 u o Y) (c' := 0) (s' := 0) (as := [.int (g10 1 1), .int (((g9 24 6) ||| (g9 24 7)) ||| v10)]) (v := some (.int v11)) (A'' := im_H g11 u o Y) 10 28 (fun n => rfl) rfl (x28_ok hc) ?_
                        show iv_ev (iv_Xs L xs) 37 52 [.ref 3, .int (3 : Int32), .int (((g9 24 6) ||| (g9 24 7)) ||| v10)] [.int v11, .int (3 : Int32), .ref 8] (im_H g11 u o Y) 0 0 _
                        cases hc : x38_r5_3 g11 v11 with
                        | none => rw [hc] at h; cases h
                        | some q =>
                          obtain ⟨v12, g12⟩ := q
                          rw [hc] at h
                          simp only [Option.bind_some] at h
                          refine iv_cal (mi' := 37) (pc' := 52) (ls' := [.ref 3, .int (3 : Int32), .int (((g9 24 6) ||| (g9 24 7)) ||| v10)]) (rest := []) (A' := im_H g11 u o Y) (c' := 0) (s' := 0) (as := [.ref 8, .int (3 : Int32), .int v11]) (v := none) (A'' := im_H g12 u o Y) 1 38 (fun n => rfl) rfl (x38_r5_3_ok hc) ?_
                          show iv_ev (iv_Xs L xs) 37 55 [.ref 3, .int (3 : Int32), .int (((g9 24 6) ||| (g9 24 7)) ||| v10)] [] (im_H g12 u o Y) 0 0 _
                          cases hb1 : Op.if_icmp.holds .eq (g12 8 0) (-1 : Int32) with
                          | true =>
                            rw [hb1] at h
                            simp only [cond_true] at h
                            refine iv_brt (mi' := 37) (pc' := 80) (ls' := [.ref 3, .int (4 : Int32), .int (((g9 24 6) ||| (g9 24 7)) ||| v10)]) (st' := [.ref 11]) (A' := im_H g12 u o Y) (c' := 0) (s' := 0) (mi'' := 37) (pc'' := 76) (ls'' := [.ref 3, .int (4 : Int32), .int (((g9 24 6) ||| (g9 24 7)) ||| v10)]) (st'' := [.ref 11]) (A'' := im_H g12 u o Y) (c'' := 0) (s'' := 0) 12 0 0 hb1 (fun n => rfl) ?_
                            exact iv_blk 1 (fun n => rfl) (x37_r0_1_ok h)
                          | false =>
                            rw [hb1] at h
                            simp only [cond_false] at h
                            refine iv_brf (mi' := 37) (pc' := 80) (ls' := [.ref 3, .int (4 : Int32), .int (((g9 24 6) ||| (g9 24 7)) ||| v10)]) (st' := [.ref 11]) (A' := im_H g12 u o Y) (c' := 0) (s' := 0) (mi'' := 37) (pc'' := 76) (ls'' := [.ref 3, .int (4 : Int32), .int (((g9 24 6) ||| (g9 24 7)) ||| v10)]) (st'' := [.ref 11]) (A'' := im_H g12 u o Y) (c'' := 0) (s'' := 0) 12 0 0 hb1 (fun n => rfl) ?_
                            exact iv_blk 2 (fun n => rfl) (x37_r0_1_ok h)
def x10_r0_1 (g : im_M) (y0 : Int32) : Option (Int32 × im_M) :=
  Option.bind (x37_r0 g ) (fun (_, g14) =>
    some (((g14 1 2) - y0), g14))
set_option maxRecDepth 100000 in
set_option maxHeartbeats 4000000 in
theorem x10_r0_1_ok {L : Nat} {xs : Nat → Int32} {g u mm : im_M} {o : Nat → Int64} {Y : iv_A} {y0 ret : Int32} (h : x10_r0_1 g y0 = some (ret, mm)) : iv_ev (iv_Xs L xs) 10 116 [.ref 3, .int y0, .int (4 : Int32)] [] (im_H g u o Y) 0 0 (.inl (some (.int ret)), im_H mm u o Y) := by
  unfold x10_r0_1 at h
  cases hc : x37_r0 g  with
  | none => rw [hc] at h; cases h
  | some q =>
    obtain ⟨v14, g14⟩ := q
    rw [hc] at h
    simp only [Option.bind_some] at h
    refine iv_cal (mi' := 10) (pc' := 117) (ls' := [.ref 3, .int y0, .int (4 : Int32)]) (rest := []) (A' := im_H g u o Y) (c' := 0) (s' := 0) (as := [.ref 3]) (v := none) (A'' := im_H g14 u o Y) 2 37 (fun n => rfl) rfl (x37_r0_ok hc) ?_
    show iv_ev (iv_Xs L xs) 10 120 [.ref 3, .int y0, .int (4 : Int32)] [] (im_H g14 u o Y) 0 0 _
    cases h
    exact iv_ret 6 (fun n => rfl)
def x10_r0 (g : im_M) : Option (Int32 × im_M) :=
  Option.bind (x11_r9_r1 (im_w g 1 1 ((g 1 1) + (1 : Int32))) (g 0 0)) (fun (_, g1) =>
    Option.bind (x11_r14_r1 g1 (g1 0 0)) (fun (_, g2) =>
      Option.bind (x11_r19_r1 g2 (g2 0 0)) (fun (_, g3) =>
        Option.bind (x11_r24_r1 g3 (g3 0 0)) (fun (_, g4) =>
          Option.bind (x24_r0_r29 g4 ) (fun (_, g5) =>
            Option.bind (x31_r29_r1 g5 (g5 0 6)) (fun (_, g6) =>
              Option.bind (x24_r0_r31 g6 ) (fun (_, g7) =>
                Option.bind (x31_r31_r1 g7 (g7 0 6)) (fun (_, g8) =>
                  Option.bind (x24_r0_r33 g8 ) (fun (_, g9) =>
                    Option.bind (x31_r33_r1 g9 (g9 0 6)) (fun (_, g10) =>
                      Option.bind (x24_r0_r35 g10 ) (fun (_, g11) =>
                        Option.bind (x31_r35_r1 g11 (g11 0 6)) (fun (_, g12) =>
                          bif Op.if_icmp.holds .eq (g12 8 0) (-1 : Int32) then
                            (x10_r0_1 g12 (g 1 2))
                          else
                            (bif Op.ifCond.holds .eq (g12 8 2) then
                              (x10_r0_1 g12 (g 1 2))
                            else
                              (Option.bind (x34_r0 g12 ) (fun (_, g13) =>
                                x10_r0_1 g13 (g 1 2))))))))))))))))
set_option maxRecDepth 100000 in
set_option maxHeartbeats 4000000 in
theorem x10_r0_ok {L : Nat} {xs : Nat → Int32} {g u mm : im_M} {o : Nat → Int64} {Y : iv_A} {ret : Int32} (h : x10_r0 g  = some (ret, mm)) : iv_ev (iv_Xs L xs) 10 0 [.ref 3, .retAddr 0, .retAddr 0] [] (im_H g u o Y) 0 0 (.inl (some (.int ret)), im_H mm u o Y) := by
  unfold x10_r0 at h
  refine iv_blk (mi' := 10) (pc' := 21) (ls' := [.ref 3, .int (g 1 2), .retAddr 0]) (st' := []) (A' := List.set (im_H g u o Y) 1 (.inr (1, List.set [.ref 5, .int (g 1 1), .int (g 1 2)] 1 (.int ((g 1 1) + (1 : Int32)))))) (c' := 0) (s' := 0) 11 (fun n => rfl) ?_
  rw [im_f1_1]
  cases hc : x11_r9_r1 (im_w g 1 1 ((g 1 1) + (1 : Int32))) (g 0 0) with
  | none => rw [hc] at h; cases h
  | some q =>
    obtain ⟨v1, g1⟩ := q
    rw [hc] at h
    simp only [Option.bind_some] at h
    refine iv_cal (mi' := 10) (pc' := 42) (ls' := [.ref 3, .int (g 1 2), .int (0 : Int32)]) (rest := []) (A' := im_H (im_w g 1 1 ((g 1 1) + (1 : Int32))) u o Y) (c' := 0) (s' := 0) (as := [.ref 12, .int (g 0 0), .ref 4]) (v := none) (A'' := im_H g1 u o Y) 14 11 (fun n => rfl) rfl (x11_r9_r1_ok hc) ?_
    show iv_ev (iv_Xs L xs) 10 45 [.ref 3, .int (g 1 2), .int (0 : Int32)] [] (im_H g1 u o Y) 0 0 _
    cases hc : x11_r14_r1 g1 (g1 0 0) with
    | none => rw [hc] at h; cases h
    | some q =>
      obtain ⟨v2, g2⟩ := q
      rw [hc] at h
      simp only [Option.bind_some] at h
      refine iv_cal (mi' := 10) (pc' := 42) (ls' := [.ref 3, .int (g 1 2), .int (1 : Int32)]) (rest := []) (A' := im_H g1 u o Y) (c' := 0) (s' := 0) (as := [.ref 17, .int (g1 0 0), .ref 4]) (v := none) (A'' := im_H g2 u o Y) 14 11 (fun n => rfl) rfl (x11_r14_r1_ok hc) ?_
      show iv_ev (iv_Xs L xs) 10 45 [.ref 3, .int (g 1 2), .int (1 : Int32)] [] (im_H g2 u o Y) 0 0 _
      cases hc : x11_r19_r1 g2 (g2 0 0) with
      | none => rw [hc] at h; cases h
      | some q =>
        obtain ⟨v3, g3⟩ := q
        rw [hc] at h
        simp only [Option.bind_some] at h
        refine iv_cal (mi' := 10) (pc' := 42) (ls' := [.ref 3, .int (g 1 2), .int (2 : Int32)]) (rest := []) (A' := im_H g2 u o Y) (c' := 0) (s' := 0) (as := [.ref 22, .int (g2 0 0), .ref 4]) (v := none) (A'' := im_H g3 u o Y) 14 11 (fun n => rfl) rfl (x11_r19_r1_ok hc) ?_
        show iv_ev (iv_Xs L xs) 10 45 [.ref 3, .int (g 1 2), .int (2 : Int32)] [] (im_H g3 u o Y) 0 0 _
        cases hc : x11_r24_r1 g3 (g3 0 0) with
        | none => rw [hc] at h; cases h
        | some q =>
          obtain ⟨v4, g4⟩ := q
          rw [hc] at h
          simp only [Option.bind_some] at h
          refine iv_cal (mi' := 10) (pc' := 42) (ls' := [.ref 3, .int (g 1 2), .int (3 : Int32)]) (rest := []) (A' := im_H g3 u o Y) (c' := 0) (s' := 0) (as := [.ref 27, .int (g3 0 0), .ref 4]) (v := none) (A'' := im_H g4 u o Y) 14 11 (fun n => rfl) rfl (x11_r24_r1_ok hc) ?_
          show iv_ev (iv_Xs L xs) 10 45 [.ref 3, .int (g 1 2), .int (3 : Int32)] [] (im_H g4 u o Y) 0 0 _
          cases hc : x24_r0_r29 g4  with
          | none => rw [hc] at h; cases h
          | some q =>
            obtain ⟨v5, g5⟩ := q
            rw [hc] at h
            simp only [Option.bind_some] at h
            refine iv_cal (mi' := 10) (pc' := 65) (ls' := [.ref 3, .int (g 1 2), .int (0 : Int32)]) (rest := []) (A' := im_H g4 u o Y) (c' := 0) (s' := 0) (as := [.ref 3, .ref 32]) (v := none) (A'' := im_H g5 u o Y) 16 24 (fun n => rfl) rfl (x24_r0_r29_ok hc) ?_
            show iv_ev (iv_Xs L xs) 10 68 [.ref 3, .int (g 1 2), .int (0 : Int32)] [] (im_H g5 u o Y) 0 0 _
            cases hc : x31_r29_r1 g5 (g5 0 6) with
            | none => rw [hc] at h; cases h
            | some q =>
              obtain ⟨v6, g6⟩ := q
              rw [hc] at h
              simp only [Option.bind_some] at h
              refine iv_cal (mi' := 10) (pc' := 82) (ls' := [.ref 3, .int (g 1 2), .int (0 : Int32)]) (rest := []) (A' := im_H g5 u o Y) (c' := 0) (s' := 0) (as := [.ref 32, .int (g5 0 6), .ref 4]) (v := none) (A'' := im_H g6 u o Y) 9 31 (fun n => rfl) rfl (x31_r29_r1_ok hc) ?_
              show iv_ev (iv_Xs L xs) 10 85 [.ref 3, .int (g 1 2), .int (0 : Int32)] [] (im_H g6 u o Y) 0 0 _
              cases hc : x24_r0_r31 g6  with
              | none => rw [hc] at h; cases h
              | some q =>
                obtain ⟨v7, g7⟩ := q
                rw [hc] at h
                simp only [Option.bind_some] at h
                refine iv_cal (mi' := 10) (pc' := 65) (ls' := [.ref 3, .int (g 1 2), .int (1 : Int32)]) (rest := []) (A' := im_H g6 u o Y) (c' := 0) (s' := 0) (as := [.ref 3, .ref 34]) (v := none) (A'' := im_H g7 u o Y) 11 24 (fun n => rfl) rfl (x24_r0_r31_ok hc) ?_
                show iv_ev (iv_Xs L xs) 10 68 [.ref 3, .int (g 1 2), .int (1 : Int32)] [] (im_H g7 u o Y) 0 0 _
                cases hc : x31_r31_r1 g7 (g7 0 6) with
                | none => rw [hc] at h; cases h
                | some q =>
                  obtain ⟨v8, g8⟩ := q
                  rw [hc] at h
                  simp only [Option.bind_some] at h
                  refine iv_cal (mi' := 10) (pc' := 82) (ls' := [.ref 3, .int (g 1 2), .int (1 : Int32)]) (rest := []) (A' := im_H g7 u o Y) (c' := 0) (s' := 0) (as := [.ref 34, .int (g7 0 6), .ref 4]) (v := none) (A'' := im_H g8 u o Y) 9 31 (fun n => rfl) rfl (x31_r31_r1_ok hc) ?_
                  show iv_ev (iv_Xs L xs) 10 85 [.ref 3, .int (g 1 2), .int (1 : Int32)] [] (im_H g8 u o Y) 0 0 _
                  cases hc : x24_r0_r33 g8  with
                  | none => rw [hc] at h; cases h
                  | some q =>
                    obtain ⟨v9, g9⟩ := q
                    rw [hc] at h
                    simp only [Option.bind_some] at h
                    refine iv_cal (mi' := 10) (pc' := 65) (ls' := [.ref 3, .int (g 1 2), .int (2 : Int32)]) (rest := []) (A' := im_H g8 u o Y) (c' := 0) (s' := 0) (as := [.ref 3, .ref 36]) (v := none) (A'' := im_H g9 u o Y) 11 24 (fun n => rfl) rfl (x24_r0_r33_ok hc) ?_
                    show iv_ev (iv_Xs L xs) 10 68 [.ref 3, .int (g 1 2), .int (2 : Int32)] [] (im_H g9 u o Y) 0 0 _
                    cases hc : x31_r33_r1 g9 (g9 0 6) with
                    | none => rw [hc] at h; cases h
                    | some q =>
                      obtain ⟨v10, g10⟩ := q
                      rw [hc] at h
                      simp only [Option.bind_some] at h
                      refine iv_cal (mi' := 10) (pc' := 82) (ls' := [.ref 3, .int (g 1 2), .int (2 : Int32)]) (rest := []) (A' := im_H g9 u o Y) (c' := 0) (s' := 0) (as := [.ref 36, .int (g9 0 6), .ref 4]) (v := none) (A'' := im_H g10 u o Y) 9 31 (fun n => rfl) rfl (x31_r33_r1_ok hc) ?_
                      show iv_ev (iv_Xs L xs) 10 85 [.ref 3, .int (g 1 2), .int (2 : Int32)] [] (im_H g10 u o Y) 0 0 _
                      cases hc : x24_r0_r35 g10  with
                      | none => rw [hc] at h; cases h
                      | some q =>
                        obtain ⟨v11, g11⟩ := q
                        rw [hc] at h
                        simp only [Option.bind_some] at h
                        refine iv_cal (mi' := 10) (pc' := 65) (ls' := [.ref 3, .int (g 1 2), .int (3 : Int32)]) (rest := []) (A' := im_H g10 u o Y) (c' := 0) (s' := 0) (as := [.ref 3, .ref 38]) (v := none) (A'' := im_H g11 u o Y) 11 24 (fun n => rfl) rfl (x24_r0_r35_ok hc) ?_
                        show iv_ev (iv_Xs L xs) 10 68 [.ref 3, .int (g 1 2), .int (3 : Int32)] [] (im_H g11 u o Y) 0 0 _
                        cases hc : x31_r35_r1 g11 (g11 0 6) with
                        | none => rw [hc] at h; cases h
                        | some q =>
                          obtain ⟨v12, g12⟩ := q
                          rw [hc] at h
                          simp only [Option.bind_some] at h
                          refine iv_cal (mi' := 10) (pc' := 82) (ls' := [.ref 3, .int (g 1 2), .int (3 : Int32)]) (rest := []) (A' := im_H g11 u o Y) (c' := 0) (s' := 0) (as := [.ref 38, .int (g11 0 6), .ref 4]) (v := none) (A'' := im_H g12 u o Y) 9 31 (fun n => rfl) rfl (x31_r35_r1_ok hc) ?_
                          show iv_ev (iv_Xs L xs) 10 85 [.ref 3, .int (g 1 2), .int (3 : Int32)] [] (im_H g12 u o Y) 0 0 _
                          cases hb1 : Op.if_icmp.holds .eq (g12 8 0) (-1 : Int32) with
                          | true =>
                            rw [hb1] at h
                            simp only [cond_true] at h
                            refine iv_brt (mi' := 10) (pc' := 116) (ls' := [.ref 3, .int (g 1 2), .int (4 : Int32)]) (st' := []) (A' := im_H g12 u o Y) (c' := 0) (s' := 0) (mi'' := 10) (pc'' := 102) (ls'' := [.ref 3, .int (g 1 2), .int (4 : Int32)]) (st'' := []) (A'' := im_H g12 u o Y) (c'' := 0) (s'' := 0) 10 0 0 hb1 (fun n => rfl) ?_
                            exact x10_r0_1_ok h
                          | false =>
                            rw [hb1] at h
                            simp only [cond_false] at h
                            refine iv_brf (mi' := 10) (pc' := 116) (ls' := [.ref 3, .int (g 1 2), .int (4 : Int32)]) (st' := []) (A' := im_H g12 u o Y) (c' := 0) (s' := 0) (mi'' := 10) (pc'' := 102) (ls'' := [.ref 3, .int (g 1 2), .int (4 : Int32)]) (st'' := []) (A'' := im_H g12 u o Y) (c'' := 0) (s'' := 0) 10 0 0 hb1 (fun n => rfl) ?_
                            cases hb2 : Op.ifCond.holds .eq (g12 8 2) with
                            | true =>
                              rw [hb2] at h
                              simp only [cond_true] at h
                              refine iv_brt (mi' := 10) (pc' := 116) (ls' := [.ref 3, .int (g 1 2), .int (4 : Int32)]) (st' := []) (A' := im_H g12 u o Y) (c' := 0) (s' := 0) (mi'' := 10) (pc'' := 112) (ls'' := [.ref 3, .int (g 1 2), .int (4 : Int32)]) (st'' := []) (A'' := im_H g12 u o Y) (c'' := 0) (s'' := 0) 4 0 0 hb2 (fun n => rfl) ?_
                              exact x10_r0_1_ok h
                            | false =>
                              rw [hb2] at h
                              simp only [cond_false] at h
                              refine iv_brf (mi' := 10) (pc' := 116) (ls' := [.ref 3, .int (g 1 2), .int (4 : Int32)]) (st' := []) (A' := im_H g12 u o Y) (c' := 0) (s' := 0) (mi'' := 10) (pc'' := 112) (ls'' := [.ref 3, .int (g 1 2), .int (4 : Int32)]) (st'' := []) (A'' := im_H g12 u o Y) (c'' := 0) (s'' := 0) 4 0 0 hb2 (fun n => rfl) ?_
                              cases hc : x34_r0 g12  with
                              | none => rw [hc] at h; cases h
                              | some q =>
                                obtain ⟨v13, g13⟩ := q
                                rw [hc] at h
                                simp only [Option.bind_some] at h
                                refine iv_cal (mi' := 10) (pc' := 113) (ls' := [.ref 3, .int (g 1 2), .int (4 : Int32)]) (rest := []) (A' := im_H g12 u o Y) (c' := 0) (s' := 0) (as := [.ref 3]) (v := none) (A'' := im_H g13 u o Y) 2 34 (fun n => rfl) rfl (x34_r0_ok hc) ?_
                                show iv_ev (iv_Xs L xs) 10 116 [.ref 3, .int (g 1 2), .int (4 : Int32)] [] (im_H g13 u o Y) 0 0 _
                                exact x10_r0_1_ok h
def x39_r0_1 (g : im_M) (y0 : Int32) (y1 : Int32) : Option (Int32 × im_M) :=
  bif (y1 == 0 || y1 == 1) then some (y1, g) else none
set_option maxRecDepth 100000 in
set_option maxHeartbeats 4000000 in
theorem x39_r0_1_ok {L : Nat} {xs : Nat → Int32} {g u mm : im_M} {o : Nat → Int64} {Y : iv_A} {y0 y1 ret : Int32} (h : x39_r0_1 g y0 y1 = some (ret, mm)) : iv_ev (iv_Xs L xs) 39 39 [.ref 3, .int y0, .int (4 : Int32)] [.int y1] (im_H g u o Y) 0 0 (.inl (some (.int ret)), im_H mm u o Y) := by
  unfold x39_r0_1 at h
  cases hb2 : (y1 == 0 || y1 == 1) with
  | false => rw [hb2] at h; cases h
  | true =>
    rw [hb2] at h
    cases h
    exact iv_retc 1 hb2 (fun n => rfl)
def x39_r0 (g : im_M) : Option (Int32 × im_M) :=
  bif Op.if_icmp.holds .lt (((((0 : Int32) + ((g 29 3) &&& (1 : Int32))) + ((g 31 3) &&& (1 : Int32))) + ((g 33 3) &&& (1 : Int32))) + ((g 35 3) &&& (1 : Int32))) (2 : Int32) then
    (x39_r0_1 g (((((0 : Int32) + ((g 29 3) &&& (1 : Int32))) + ((g 31 3) &&& (1 : Int32))) + ((g 33 3) &&& (1 : Int32))) + ((g 35 3) &&& (1 : Int32))) (0 : Int32))
  else
    (x39_r0_1 g (((((0 : Int32) + ((g 29 3) &&& (1 : Int32))) + ((g 31 3) &&& (1 : Int32))) + ((g 33 3) &&& (1 : Int32))) + ((g 35 3) &&& (1 : Int32))) (1 : Int32))
set_option maxRecDepth 100000 in
set_option maxHeartbeats 4000000 in
theorem x39_r0_ok {L : Nat} {xs : Nat → Int32} {g u mm : im_M} {o : Nat → Int64} {Y : iv_A} {ret : Int32} (h : x39_r0 g  = some (ret, mm)) : iv_ev (iv_Xs L xs) 39 0 [.ref 3, .retAddr 0, .retAddr 0] [] (im_H g u o Y) 0 0 (.inl (some (.int ret)), im_H mm u o Y) := by
  unfold x39_r0 at h
  cases hb1 : Op.if_icmp.holds .lt (((((0 : Int32) + ((g 29 3) &&& (1 : Int32))) + ((g 31 3) &&& (1 : Int32))) + ((g 33 3) &&& (1 : Int32))) + ((g 35 3) &&& (1 : Int32))) (2 : Int32) with
  | true =>
    rw [hb1] at h
    simp only [cond_true] at h
    refine iv_brt (mi' := 39) (pc' := 38) (ls' := [.ref 3, .int (((((0 : Int32) + ((g 29 3) &&& (1 : Int32))) + ((g 31 3) &&& (1 : Int32))) + ((g 33 3) &&& (1 : Int32))) + ((g 35 3) &&& (1 : Int32))), .int (4 : Int32)]) (st' := []) (A' := im_H g u o Y) (c' := 0) (s' := 0) (mi'' := 39) (pc'' := 34) (ls'' := [.ref 3, .int (((((0 : Int32) + ((g 29 3) &&& (1 : Int32))) + ((g 31 3) &&& (1 : Int32))) + ((g 33 3) &&& (1 : Int32))) + ((g 35 3) &&& (1 : Int32))), .int (4 : Int32)]) (st'' := []) (A'' := im_H g u o Y) (c'' := 0) (s'' := 0) 70 0 0 hb1 (fun n => rfl) ?_
    exact iv_blk 1 (fun n => rfl) (x39_r0_1_ok h)
  | false =>
    rw [hb1] at h
    simp only [cond_false] at h
    refine iv_brf (mi' := 39) (pc' := 38) (ls' := [.ref 3, .int (((((0 : Int32) + ((g 29 3) &&& (1 : Int32))) + ((g 31 3) &&& (1 : Int32))) + ((g 33 3) &&& (1 : Int32))) + ((g 35 3) &&& (1 : Int32))), .int (4 : Int32)]) (st' := []) (A' := im_H g u o Y) (c' := 0) (s' := 0) (mi'' := 39) (pc'' := 34) (ls'' := [.ref 3, .int (((((0 : Int32) + ((g 29 3) &&& (1 : Int32))) + ((g 31 3) &&& (1 : Int32))) + ((g 33 3) &&& (1 : Int32))) + ((g 35 3) &&& (1 : Int32))), .int (4 : Int32)]) (st'' := []) (A'' := im_H g u o Y) (c'' := 0) (s'' := 0) 70 0 0 hb1 (fun n => rfl) ?_
    exact iv_blk 2 (fun n => rfl) (x39_r0_1_ok h)
