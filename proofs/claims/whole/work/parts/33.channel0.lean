/-! Channel 0 (printed by wip/gen/lay1.py) -/
def x20_r9_0 (g : im_M) : Option (Int32 × im_M) :=
  some ((3000 : Int32), g)
set_option maxRecDepth 100000 in
set_option maxHeartbeats 4000000 in
theorem x20_r9_0_ok {L : Nat} {xs : Nat → Int32} {g u mm : im_M} {o : Nat → Int64} {Y : iv_A} {ret : Int32} (h : x20_r9_0 g  = some (ret, mm)) : iv_ev (iv_Xs L xs) 20 0 [.ref 12, .int (0 : Int32), .retAddr 0] [] (im_H g u o Y) 0 0 (.inl (some (.int ret)), im_H mm u o Y) := by
  unfold x20_r9_0 at h
  cases h
  exact iv_ret 4 (fun n => rfl)
def x19_r9_0_1 (g : im_M) (y0 : Int32) : Option (Int32 × im_M) :=
  bif (y0 == 0 || y0 == 1) then some (y0, g) else none
set_option maxRecDepth 100000 in
set_option maxHeartbeats 4000000 in
theorem x19_r9_0_1_ok {L : Nat} {xs : Nat → Int32} {g u mm : im_M} {o : Nat → Int64} {Y : iv_A} {y0 ret : Int32} (h : x19_r9_0_1 g y0 = some (ret, mm)) : iv_ev (iv_Xs L xs) 19 46 [.ref 12, .int (0 : Int32)] [.int y0] (im_H g u o Y) 0 0 (.inl (some (.int ret)), im_H mm u o Y) := by
  unfold x19_r9_0_1 at h
  cases hb2 : (y0 == 0 || y0 == 1) with
  | false => rw [hb2] at h; cases h
  | true =>
    rw [hb2] at h
    cases h
    exact iv_retc 1 hb2 (fun n => rfl)
def x19_r9_0 (g : im_M) : Option (Int32 × im_M) :=
  Option.bind (x20_r9_0 g ) (fun (v1, g1) =>
    bif Op.if_icmp.holds .le (g 10 0) v1 then
      (x19_r9_0_1 g1 (0 : Int32))
    else
      (x19_r9_0_1 g1 (1 : Int32)))
set_option maxRecDepth 100000 in
set_option maxHeartbeats 4000000 in
theorem x19_r9_0_ok {L : Nat} {xs : Nat → Int32} {g u mm : im_M} {o : Nat → Int64} {Y : iv_A} {ret : Int32} (h : x19_r9_0 g  = some (ret, mm)) : iv_ev (iv_Xs L xs) 19 0 [.ref 12, .int (0 : Int32)] [] (im_H g u o Y) 0 0 (.inl (some (.int ret)), im_H mm u o Y) := by
  unfold x19_r9_0 at h
  cases hc : x20_r9_0 g  with
  | none => rw [hc] at h; cases h
  | some q =>
    obtain ⟨v1, g1⟩ := q
    rw [hc] at h
    simp only [Option.bind_some] at h
    refine iv_cal (mi' := 19) (pc' := 35) (ls' := [.ref 12, .int (0 : Int32)]) (rest := [.int (g 10 0)]) (A' := im_H g u o Y) (c' := 0) (s' := 0) (as := [.ref 12, .int (0 : Int32)]) (v := some (.int v1)) (A'' := im_H g1 u o Y) 10 20 (fun n => rfl) rfl (x20_r9_0_ok (g := g)  hc) ?_
    show iv_ev (iv_Xs L xs) 19 38 [.ref 12, .int (0 : Int32)] [.int v1, .int (g 10 0)] (im_H g1 u o Y) 0 0 _
    cases hb1 : Op.if_icmp.holds .le (g 10 0) v1 with
    | true =>
      rw [hb1] at h
      simp only [cond_true] at h
      refine iv_brt (mi' := 19) (pc' := 45) (ls' := [.ref 12, .int (0 : Int32)]) (st' := []) (A' := im_H g1 u o Y) (c' := 0) (s' := 0) (mi'' := 19) (pc'' := 41) (ls'' := [.ref 12, .int (0 : Int32)]) (st'' := []) (A'' := im_H g1 u o Y) (c'' := 0) (s'' := 0) 1 0 0 hb1 (fun n => rfl) ?_
      exact iv_blk 1 (fun n => rfl) (x19_r9_0_1_ok (g := g1) (y0 := (0 : Int32)) h)
    | false =>
      rw [hb1] at h
      simp only [cond_false] at h
      refine iv_brf (mi' := 19) (pc' := 45) (ls' := [.ref 12, .int (0 : Int32)]) (st' := []) (A' := im_H g1 u o Y) (c' := 0) (s' := 0) (mi'' := 19) (pc'' := 41) (ls'' := [.ref 12, .int (0 : Int32)]) (st'' := []) (A'' := im_H g1 u o Y) (c'' := 0) (s'' := 0) 1 0 0 hb1 (fun n => rfl) ?_
      exact iv_blk 2 (fun n => rfl) (x19_r9_0_1_ok (g := g1) (y0 := (1 : Int32)) h)
def x23_r9_0_1 (g : im_M) (y0 : Int32) : Option (Int32 × im_M) :=
  bif (y0 == 0 || y0 == 1) then some (y0, g) else none
set_option maxRecDepth 100000 in
set_option maxHeartbeats 4000000 in
theorem x23_r9_0_1_ok {L : Nat} {xs : Nat → Int32} {g u mm : im_M} {o : Nat → Int64} {Y : iv_A} {y0 ret : Int32} (h : x23_r9_0_1 g y0 = some (ret, mm)) : iv_ev (iv_Xs L xs) 23 52 [.ref 12, .int (0 : Int32)] [.int y0] (im_H g u o Y) 0 0 (.inl (some (.int ret)), im_H mm u o Y) := by
  unfold x23_r9_0_1 at h
  cases hb2 : (y0 == 0 || y0 == 1) with
  | false => rw [hb2] at h; cases h
  | true =>
    rw [hb2] at h
    cases h
    exact iv_retc 1 hb2 (fun n => rfl)
def x23_r9_0 (g : im_M) : Option (Int32 × im_M) :=
  Option.bind (x20_r9_0 g ) (fun (v1, g1) =>
    bif Op.if_icmp.holds .ge (g 10 0) (v1 - (40 : Int32)) then
      (x23_r9_0_1 g1 (0 : Int32))
    else
      (x23_r9_0_1 g1 (1 : Int32)))
set_option maxRecDepth 100000 in
set_option maxHeartbeats 4000000 in
theorem x23_r9_0_ok {L : Nat} {xs : Nat → Int32} {g u mm : im_M} {o : Nat → Int64} {Y : iv_A} {ret : Int32} (h : x23_r9_0 g  = some (ret, mm)) : iv_ev (iv_Xs L xs) 23 0 [.ref 12, .int (0 : Int32)] [] (im_H g u o Y) 0 0 (.inl (some (.int ret)), im_H mm u o Y) := by
  unfold x23_r9_0 at h
  cases hc : x20_r9_0 g  with
  | none => rw [hc] at h; cases h
  | some q =>
    obtain ⟨v1, g1⟩ := q
    rw [hc] at h
    simp only [Option.bind_some] at h
    refine iv_cal (mi' := 23) (pc' := 38) (ls' := [.ref 12, .int (0 : Int32)]) (rest := [.int (g 10 0)]) (A' := im_H g u o Y) (c' := 0) (s' := 0) (as := [.ref 12, .int (0 : Int32)]) (v := some (.int v1)) (A'' := im_H g1 u o Y) 10 20 (fun n => rfl) rfl (x20_r9_0_ok (g := g)  hc) ?_
    show iv_ev (iv_Xs L xs) 23 41 [.ref 12, .int (0 : Int32)] [.int v1, .int (g 10 0)] (im_H g1 u o Y) 0 0 _
    cases hb1 : Op.if_icmp.holds .ge (g 10 0) (v1 - (40 : Int32)) with
    | true =>
      rw [hb1] at h
      simp only [cond_true] at h
      refine iv_brt (mi' := 23) (pc' := 51) (ls' := [.ref 12, .int (0 : Int32)]) (st' := []) (A' := im_H g1 u o Y) (c' := 0) (s' := 0) (mi'' := 23) (pc'' := 47) (ls'' := [.ref 12, .int (0 : Int32)]) (st'' := []) (A'' := im_H g1 u o Y) (c'' := 0) (s'' := 0) 3 0 0 hb1 (fun n => rfl) ?_
      exact iv_blk 1 (fun n => rfl) (x23_r9_0_1_ok (g := g1) (y0 := (0 : Int32)) h)
    | false =>
      rw [hb1] at h
      simp only [cond_false] at h
      refine iv_brf (mi' := 23) (pc' := 51) (ls' := [.ref 12, .int (0 : Int32)]) (st' := []) (A' := im_H g1 u o Y) (c' := 0) (s' := 0) (mi'' := 23) (pc'' := 47) (ls'' := [.ref 12, .int (0 : Int32)]) (st'' := []) (A'' := im_H g1 u o Y) (c'' := 0) (s'' := 0) 3 0 0 hb1 (fun n => rfl) ?_
      exact iv_blk 2 (fun n => rfl) (x23_r9_0_1_ok (g := g1) (y0 := (1 : Int32)) h)
def x13_r9_0_1 (g : im_M) (y0 : Int32) (y1 : Int32) (y2 : Int32) : Option (Int32 × im_M) :=
  bif (y2 == 0 || y2 == 1) then some (y2, g) else none
set_option maxRecDepth 100000 in
set_option maxHeartbeats 4000000 in
theorem x13_r9_0_1_ok {L : Nat} {xs : Nat → Int32} {g u mm : im_M} {o : Nat → Int64} {Y : iv_A} {y0 y1 y2 ret : Int32} (h : x13_r9_0_1 g y0 y1 y2 = some (ret, mm)) : iv_ev (iv_Xs L xs) 13 57 [.ref 12, .int (0 : Int32), .int y0, .int y1] [.int y2] (im_H g u o Y) 0 0 (.inl (some (.int ret)), im_H mm u o Y) := by
  unfold x13_r9_0_1 at h
  cases hb7 : (y2 == 0 || y2 == 1) with
  | false => rw [hb7] at h; cases h
  | true =>
    rw [hb7] at h
    cases h
    exact iv_retc 1 hb7 (fun n => rfl)
def x13_r9_0 (g : im_M) (a : Int32) : Option (Int32 × im_M) :=
  bif Op.if_icmp.holds .lt (g 10 0) (50 : Int32) then
    (x13_r9_0_1 g a (g 10 0) (1 : Int32))
  else
    (bif Op.if_icmp.holds .gt (g 10 0) (4000 : Int32) then
      (x13_r9_0_1 g a (g 10 0) (1 : Int32))
    else
      (bif Op.ifCond.holds .eq a then
        (bif Op.if_icmp.holds .lt (g 12 0) (13 : Int32) then
          (x13_r9_0_1 g a (g 10 0) (0 : Int32))
        else
          (x13_r9_0_1 g a (g 10 0) (1 : Int32)))
      else
        (bif Op.if_icmp.holds .gt (if 0 ≤ ((g 10 0) - (g 11 0)) then ((g 10 0) - (g 11 0)) else 0 - ((g 10 0) - (g 11 0))) (400 : Int32) then
          (x13_r9_0_1 g a (g 10 0) (1 : Int32))
        else
          (bif Op.if_icmp.holds .lt (g 12 0) (13 : Int32) then
            (x13_r9_0_1 g a (g 10 0) (0 : Int32))
          else
            (x13_r9_0_1 g a (g 10 0) (1 : Int32))))))
set_option maxRecDepth 100000 in
set_option maxHeartbeats 4000000 in
theorem x13_r9_0_ok {L : Nat} {xs : Nat → Int32} {g u mm : im_M} {o : Nat → Int64} {Y : iv_A} {a ret : Int32} (h : x13_r9_0 g a = some (ret, mm)) : iv_ev (iv_Xs L xs) 13 0 [.ref 12, .int (0 : Int32), .int a, .retAddr 0] [] (im_H g u o Y) 0 0 (.inl (some (.int ret)), im_H mm u o Y) := by
  unfold x13_r9_0 at h
  cases hb1 : Op.if_icmp.holds .lt (g 10 0) (50 : Int32) with
  | true =>
    rw [hb1] at h
    simp only [cond_true] at h
    refine iv_brt (mi' := 13) (pc' := 52) (ls' := [.ref 12, .int (0 : Int32), .int a, .int (g 10 0)]) (st' := []) (A' := im_H g u o Y) (c' := 0) (s' := 0) (mi'' := 13) (pc'' := 13) (ls'' := [.ref 12, .int (0 : Int32), .int a, .int (g 10 0)]) (st'' := []) (A'' := im_H g u o Y) (c'' := 0) (s'' := 0) 8 0 0 hb1 (fun n => rfl) ?_
    exact iv_blk 2 (fun n => rfl) (x13_r9_0_1_ok (g := g) (y0 := a) (y1 := (g 10 0)) (y2 := (1 : Int32)) h)
  | false =>
    rw [hb1] at h
    simp only [cond_false] at h
    refine iv_brf (mi' := 13) (pc' := 52) (ls' := [.ref 12, .int (0 : Int32), .int a, .int (g 10 0)]) (st' := []) (A' := im_H g u o Y) (c' := 0) (s' := 0) (mi'' := 13) (pc'' := 13) (ls'' := [.ref 12, .int (0 : Int32), .int a, .int (g 10 0)]) (st'' := []) (A'' := im_H g u o Y) (c'' := 0) (s'' := 0) 8 0 0 hb1 (fun n => rfl) ?_
    cases hb2 : Op.if_icmp.holds .gt (g 10 0) (4000 : Int32) with
    | true =>
      rw [hb2] at h
      simp only [cond_true] at h
      refine iv_brt (mi' := 13) (pc' := 52) (ls' := [.ref 12, .int (0 : Int32), .int a, .int (g 10 0)]) (st' := []) (A' := im_H g u o Y) (c' := 0) (s' := 0) (mi'' := 13) (pc'' := 20) (ls'' := [.ref 12, .int (0 : Int32), .int a, .int (g 10 0)]) (st'' := []) (A'' := im_H g u o Y) (c'' := 0) (s'' := 0) 3 0 0 hb2 (fun n => rfl) ?_
      exact iv_blk 2 (fun n => rfl) (x13_r9_0_1_ok (g := g) (y0 := a) (y1 := (g 10 0)) (y2 := (1 : Int32)) h)
    | false =>
      rw [hb2] at h
      simp only [cond_false] at h
      refine iv_brf (mi' := 13) (pc' := 52) (ls' := [.ref 12, .int (0 : Int32), .int a, .int (g 10 0)]) (st' := []) (A' := im_H g u o Y) (c' := 0) (s' := 0) (mi'' := 13) (pc'' := 20) (ls'' := [.ref 12, .int (0 : Int32), .int a, .int (g 10 0)]) (st'' := []) (A'' := im_H g u o Y) (c'' := 0) (s'' := 0) 3 0 0 hb2 (fun n => rfl) ?_
      cases hb3 : Op.ifCond.holds .eq a with
      | true =>
        rw [hb3] at h
        simp only [cond_true] at h
        refine iv_brt (mi' := 13) (pc' := 41) (ls' := [.ref 12, .int (0 : Int32), .int a, .int (g 10 0)]) (st' := []) (A' := im_H g u o Y) (c' := 0) (s' := 0) (mi'' := 13) (pc'' := 24) (ls'' := [.ref 12, .int (0 : Int32), .int a, .int (g 10 0)]) (st'' := []) (A'' := im_H g u o Y) (c'' := 0) (s'' := 0) 2 0 0 hb3 (fun n => rfl) ?_
        cases hb4 : Op.if_icmp.holds .lt (g 12 0) (13 : Int32) with
        | true =>
          rw [hb4] at h
          simp only [cond_true] at h
          refine iv_brt (mi' := 13) (pc' := 56) (ls' := [.ref 12, .int (0 : Int32), .int a, .int (g 10 0)]) (st' := []) (A' := im_H g u o Y) (c' := 0) (s' := 0) (mi'' := 13) (pc'' := 52) (ls'' := [.ref 12, .int (0 : Int32), .int a, .int (g 10 0)]) (st'' := []) (A'' := im_H g u o Y) (c'' := 0) (s'' := 0) 6 0 0 hb4 (fun n => rfl) ?_
          exact iv_blk 1 (fun n => rfl) (x13_r9_0_1_ok (g := g) (y0 := a) (y1 := (g 10 0)) (y2 := (0 : Int32)) h)
        | false =>
          rw [hb4] at h
          simp only [cond_false] at h
          refine iv_brf (mi' := 13) (pc' := 56) (ls' := [.ref 12, .int (0 : Int32), .int a, .int (g 10 0)]) (st' := []) (A' := im_H g u o Y) (c' := 0) (s' := 0) (mi'' := 13) (pc'' := 52) (ls'' := [.ref 12, .int (0 : Int32), .int a, .int (g 10 0)]) (st'' := []) (A'' := im_H g u o Y) (c'' := 0) (s'' := 0) 6 0 0 hb4 (fun n => rfl) ?_
          exact iv_blk 2 (fun n => rfl) (x13_r9_0_1_ok (g := g) (y0 := a) (y1 := (g 10 0)) (y2 := (1 : Int32)) h)
      | false =>
        rw [hb3] at h
        simp only [cond_false] at h
        refine iv_brf (mi' := 13) (pc' := 41) (ls' := [.ref 12, .int (0 : Int32), .int a, .int (g 10 0)]) (st' := []) (A' := im_H g u o Y) (c' := 0) (s' := 0) (mi'' := 13) (pc'' := 24) (ls'' := [.ref 12, .int (0 : Int32), .int a, .int (g 10 0)]) (st'' := []) (A'' := im_H g u o Y) (c'' := 0) (s'' := 0) 2 0 0 hb3 (fun n => rfl) ?_
        cases hb5 : Op.if_icmp.holds .gt (if 0 ≤ ((g 10 0) - (g 11 0)) then ((g 10 0) - (g 11 0)) else 0 - ((g 10 0) - (g 11 0))) (400 : Int32) with
        | true =>
          rw [hb5] at h
          simp only [cond_true] at h
          refine iv_brt (mi' := 13) (pc' := 52) (ls' := [.ref 12, .int (0 : Int32), .int a, .int (g 10 0)]) (st' := []) (A' := im_H g u o Y) (c' := 0) (s' := 0) (mi'' := 13) (pc'' := 41) (ls'' := [.ref 12, .int (0 : Int32), .int a, .int (g 10 0)]) (st'' := []) (A'' := im_H g u o Y) (c'' := 0) (s'' := 0) 9 0 0 hb5 (fun n => rfl) ?_
          exact iv_blk 2 (fun n => rfl) (x13_r9_0_1_ok (g := g) (y0 := a) (y1 := (g 10 0)) (y2 := (1 : Int32)) h)
        | false =>
          rw [hb5] at h
          simp only [cond_false] at h
          refine iv_brf (mi' := 13) (pc' := 52) (ls' := [.ref 12, .int (0 : Int32), .int a, .int (g 10 0)]) (st' := []) (A' := im_H g u o Y) (c' := 0) (s' := 0) (mi'' := 13) (pc'' := 41) (ls'' := [.ref 12, .int (0 : Int32), .int a, .int (g 10 0)]) (st'' := []) (A'' := im_H g u o Y) (c'' := 0) (s'' := 0) 9 0 0 hb5 (fun n => rfl) ?_
          cases hb6 : Op.if_icmp.holds .lt (g 12 0) (13 : Int32) with
          | true =>
            rw [hb6] at h
            simp only [cond_true] at h
            refine iv_brt (mi' := 13) (pc' := 56) (ls' := [.ref 12, .int (0 : Int32), .int a, .int (g 10 0)]) (st' := []) (A' := im_H g u o Y) (c' := 0) (s' := 0) (mi'' := 13) (pc'' := 52) (ls'' := [.ref 12, .int (0 : Int32), .int a, .int (g 10 0)]) (st'' := []) (A'' := im_H g u o Y) (c'' := 0) (s'' := 0) 6 0 0 hb6 (fun n => rfl) ?_
            exact iv_blk 1 (fun n => rfl) (x13_r9_0_1_ok (g := g) (y0 := a) (y1 := (g 10 0)) (y2 := (0 : Int32)) h)
          | false =>
            rw [hb6] at h
            simp only [cond_false] at h
            refine iv_brf (mi' := 13) (pc' := 56) (ls' := [.ref 12, .int (0 : Int32), .int a, .int (g 10 0)]) (st' := []) (A' := im_H g u o Y) (c' := 0) (s' := 0) (mi'' := 13) (pc'' := 52) (ls'' := [.ref 12, .int (0 : Int32), .int a, .int (g 10 0)]) (st'' := []) (A'' := im_H g u o Y) (c'' := 0) (s'' := 0) 6 0 0 hb6 (fun n => rfl) ?_
            exact iv_blk 2 (fun n => rfl) (x13_r9_0_1_ok (g := g) (y0 := a) (y1 := (g 10 0)) (y2 := (1 : Int32)) h)
def x12_r9_0_r1_3 (g : im_M) (y0 : Int32) (y1 : Int32) : Option (Int32 × im_M) :=
  some (0, g)
set_option maxRecDepth 100000 in
set_option maxHeartbeats 4000000 in
theorem x12_r9_0_r1_3_ok {L : Nat} {xs : Nat → Int32} {g u mm : im_M} {o : Nat → Int64} {Y : iv_A} {y0 y1 ret : Int32} (h : x12_r9_0_r1_3 g y0 y1 = some (ret, mm)) : iv_ev (iv_Xs L xs) 12 105 [.ref 12, .int (0 : Int32), .ref 4, .int (1 : Int32), .int y0, .int y1] [] (im_H g u o Y) 0 0 (.inl none, im_H mm u o Y) := by
  unfold x12_r9_0_r1_3 at h
  cases h
  exact iv_ret 1 (fun n => rfl)
def x12_r9_0_r1_2 (g : im_M) (y0 : Int32) (y1 : Int32) : Option (Int32 × im_M) :=
  Option.bind (x13_r9_0 g y1) (fun (v1, g1) =>
    bif Op.ifCond.holds .eq v1 then
      (bif Op.ifCond.holds .ne v1 then
        (x12_r9_0_r1_3 g1 y0 v1)
      else
        (bif Op.ifCond.holds .eq y0 then
          (x12_r9_0_r1_3 g1 y0 v1)
        else
          (Option.bind (x15_r1 (im_w g1 9 6 ((g1 9 6) &&& (-2 : Int32))) (2 : Int32) (0 : Int32) (0 : Int32)) (fun (_, g2) =>
            x12_r9_0_r1_3 g2 y0 v1))))
    else
      (bif Op.ifCond.holds .ne y0 then
        (bif Op.ifCond.holds .ne v1 then
          (x12_r9_0_r1_3 g1 y0 v1)
        else
          (bif Op.ifCond.holds .eq y0 then
            (x12_r9_0_r1_3 g1 y0 v1)
          else
            (Option.bind (x15_r1 (im_w g1 9 6 ((g1 9 6) &&& (-2 : Int32))) (2 : Int32) (0 : Int32) (0 : Int32)) (fun (_, g3) =>
              x12_r9_0_r1_3 g3 y0 v1))))
      else
        (Option.bind (x15_r1 (im_w g1 9 6 ((g1 9 6) ||| (1 : Int32))) (1 : Int32) (0 : Int32) (0 : Int32)) (fun (_, g4) =>
          x12_r9_0_r1_3 g4 y0 v1))))
set_option maxRecDepth 100000 in
set_option maxHeartbeats 4000000 in
theorem x12_r9_0_r1_2_ok {L : Nat} {xs : Nat → Int32} {g u mm : im_M} {o : Nat → Int64} {Y : iv_A} {y0 y1 ret : Int32} (h : x12_r9_0_r1_2 g y0 y1 = some (ret, mm)) : iv_ev (iv_Xs L xs) 12 35 [.ref 12, .int (0 : Int32), .ref 4, .int (1 : Int32), .int y0, .retAddr 0] [.int y1, .int (0 : Int32), .ref 12] (im_H g u o Y) 0 0 (.inl none, im_H mm u o Y) := by
  unfold x12_r9_0_r1_2 at h
  cases hc : x13_r9_0 g y1 with
  | none => rw [hc] at h; cases h
  | some q =>
    obtain ⟨v1, g1⟩ := q
    rw [hc] at h
    simp only [Option.bind_some] at h
    refine iv_cal (mi' := 12) (pc' := 35) (ls' := [.ref 12, .int (0 : Int32), .ref 4, .int (1 : Int32), .int y0, .retAddr 0]) (rest := []) (A' := im_H g u o Y) (c' := 0) (s' := 0) (as := [.ref 12, .int (0 : Int32), .int y1]) (v := some (.int v1)) (A'' := im_H g1 u o Y) 1 13 (fun n => rfl) rfl (x13_r9_0_ok (g := g) (a := y1) hc) ?_
    show iv_ev (iv_Xs L xs) 12 38 [.ref 12, .int (0 : Int32), .ref 4, .int (1 : Int32), .int y0, .retAddr 0] [.int v1] (im_H g1 u o Y) 0 0 _
    cases hb3 : Op.ifCond.holds .eq v1 with
    | true =>
      rw [hb3] at h
      simp only [cond_true] at h
      refine iv_brt (mi' := 12) (pc' := 73) (ls' := [.ref 12, .int (0 : Int32), .ref 4, .int (1 : Int32), .int y0, .int v1]) (st' := []) (A' := im_H g1 u o Y) (c' := 0) (s' := 0) (mi'' := 12) (pc'' := 45) (ls'' := [.ref 12, .int (0 : Int32), .ref 4, .int (1 : Int32), .int y0, .int v1]) (st'' := []) (A'' := im_H g1 u o Y) (c'' := 0) (s'' := 0) 3 0 0 hb3 (fun n => rfl) ?_
      cases hb4 : Op.ifCond.holds .ne v1 with
      | true =>
        rw [hb4] at h
        simp only [cond_true] at h
        refine iv_brt (mi' := 12) (pc' := 105) (ls' := [.ref 12, .int (0 : Int32), .ref 4, .int (1 : Int32), .int y0, .int v1]) (st' := []) (A' := im_H g1 u o Y) (c' := 0) (s' := 0) (mi'' := 12) (pc'' := 78) (ls'' := [.ref 12, .int (0 : Int32), .ref 4, .int (1 : Int32), .int y0, .int v1]) (st'' := []) (A'' := im_H g1 u o Y) (c'' := 0) (s'' := 0) 2 0 0 hb4 (fun n => rfl) ?_
        exact x12_r9_0_r1_3_ok (g := g1) (y0 := y0) (y1 := v1) h
      | false =>
        rw [hb4] at h
        simp only [cond_false] at h
        refine iv_brf (mi' := 12) (pc' := 105) (ls' := [.ref 12, .int (0 : Int32), .ref 4, .int (1 : Int32), .int y0, .int v1]) (st' := []) (A' := im_H g1 u o Y) (c' := 0) (s' := 0) (mi'' := 12) (pc'' := 78) (ls'' := [.ref 12, .int (0 : Int32), .ref 4, .int (1 : Int32), .int y0, .int v1]) (st'' := []) (A'' := im_H g1 u o Y) (c'' := 0) (s'' := 0) 2 0 0 hb4 (fun n => rfl) ?_
        cases hb5 : Op.ifCond.holds .eq y0 with
        | true =>
          rw [hb5] at h
          simp only [cond_true] at h
          refine iv_brt (mi' := 12) (pc' := 105) (ls' := [.ref 12, .int (0 : Int32), .ref 4, .int (1 : Int32), .int y0, .int v1]) (st' := []) (A' := im_H g1 u o Y) (c' := 0) (s' := 0) (mi'' := 12) (pc'' := 83) (ls'' := [.ref 12, .int (0 : Int32), .ref 4, .int (1 : Int32), .int y0, .int v1]) (st'' := []) (A'' := im_H g1 u o Y) (c'' := 0) (s'' := 0) 2 0 0 hb5 (fun n => rfl) ?_
          exact x12_r9_0_r1_3_ok (g := g1) (y0 := y0) (y1 := v1) h
        | false =>
          rw [hb5] at h
          simp only [cond_false] at h
          refine iv_brf (mi' := 12) (pc' := 105) (ls' := [.ref 12, .int (0 : Int32), .ref 4, .int (1 : Int32), .int y0, .int v1]) (st' := []) (A' := im_H g1 u o Y) (c' := 0) (s' := 0) (mi'' := 12) (pc'' := 83) (ls'' := [.ref 12, .int (0 : Int32), .ref 4, .int (1 : Int32), .int y0, .int v1]) (st'' := []) (A'' := im_H g1 u o Y) (c'' := 0) (s'' := 0) 2 0 0 hb5 (fun n => rfl) ?_
          refine iv_blk (mi' := 12) (pc' := 95) (ls' := [.ref 12, .int (0 : Int32), .ref 4, .int (1 : Int32), .int y0, .int v1]) (st' := []) (A' := List.set (im_H g1 u o Y) 9 (.inr (0, List.set [.int 0, .ref 13, .ref 14, .ref 15, .ref 16, .int (g1 9 5), .int (g1 9 6), .int (g1 9 7)] 6 (.int ((g1 9 6) &&& (-2 : Int32)))))) (c' := 0) (s' := 0) 8 (fun n => rfl) ?_
          rw [im_f9_6]
          cases hc : x15_r1 (im_w g1 9 6 ((g1 9 6) &&& (-2 : Int32))) (2 : Int32) (0 : Int32) (0 : Int32) with
          | none => rw [hc] at h; cases h
          | some q =>
            obtain ⟨v2, g2⟩ := q
            rw [hc] at h
            simp only [Option.bind_some] at h
            refine iv_cal (mi' := 12) (pc' := 102) (ls' := [.ref 12, .int (0 : Int32), .ref 4, .int (1 : Int32), .int y0, .int v1]) (rest := []) (A' := im_H (im_w g1 9 6 ((g1 9 6) &&& (-2 : Int32))) u o Y) (c' := 0) (s' := 0) (as := [.ref 4, .int (2 : Int32), .int (0 : Int32), .int (0 : Int32)]) (v := none) (A'' := im_H g2 u o Y) 6 15 (fun n => rfl) rfl (x15_r1_ok (g := (im_w g1 9 6 ((g1 9 6) &&& (-2 : Int32)))) (a := (2 : Int32)) (b := (0 : Int32)) (c := (0 : Int32)) hc) ?_
            show iv_ev (iv_Xs L xs) 12 105 [.ref 12, .int (0 : Int32), .ref 4, .int (1 : Int32), .int y0, .int v1] [] (im_H g2 u o Y) 0 0 _
            exact x12_r9_0_r1_3_ok (g := g2) (y0 := y0) (y1 := v1) h
    | false =>
      rw [hb3] at h
      simp only [cond_false] at h
      refine iv_brf (mi' := 12) (pc' := 73) (ls' := [.ref 12, .int (0 : Int32), .ref 4, .int (1 : Int32), .int y0, .int v1]) (st' := []) (A' := im_H g1 u o Y) (c' := 0) (s' := 0) (mi'' := 12) (pc'' := 45) (ls'' := [.ref 12, .int (0 : Int32), .ref 4, .int (1 : Int32), .int y0, .int v1]) (st'' := []) (A'' := im_H g1 u o Y) (c'' := 0) (s'' := 0) 3 0 0 hb3 (fun n => rfl) ?_
      cases hb6 : Op.ifCond.holds .ne y0 with
      | true =>
        rw [hb6] at h
        simp only [cond_true] at h
        refine iv_brt (mi' := 12) (pc' := 73) (ls' := [.ref 12, .int (0 : Int32), .ref 4, .int (1 : Int32), .int y0, .int v1]) (st' := []) (A' := im_H g1 u o Y) (c' := 0) (s' := 0) (mi'' := 12) (pc'' := 50) (ls'' := [.ref 12, .int (0 : Int32), .ref 4, .int (1 : Int32), .int y0, .int v1]) (st'' := []) (A'' := im_H g1 u o Y) (c'' := 0) (s'' := 0) 2 0 0 hb6 (fun n => rfl) ?_
        cases hb7 : Op.ifCond.holds .ne v1 with
        | true =>
          rw [hb7] at h
          simp only [cond_true] at h
          refine iv_brt (mi' := 12) (pc' := 105) (ls' := [.ref 12, .int (0 : Int32), .ref 4, .int (1 : Int32), .int y0, .int v1]) (st' := []) (A' := im_H g1 u o Y) (c' := 0) (s' := 0) (mi'' := 12) (pc'' := 78) (ls'' := [.ref 12, .int (0 : Int32), .ref 4, .int (1 : Int32), .int y0, .int v1]) (st'' := []) (A'' := im_H g1 u o Y) (c'' := 0) (s'' := 0) 2 0 0 hb7 (fun n => rfl) ?_
          exact x12_r9_0_r1_3_ok (g := g1) (y0 := y0) (y1 := v1) h
        | false =>
          rw [hb7] at h
          simp only [cond_false] at h
          refine iv_brf (mi' := 12) (pc' := 105) (ls' := [.ref 12, .int (0 : Int32), .ref 4, .int (1 : Int32), .int y0, .int v1]) (st' := []) (A' := im_H g1 u o Y) (c' := 0) (s' := 0) (mi'' := 12) (pc'' := 78) (ls'' := [.ref 12, .int (0 : Int32), .ref 4, .int (1 : Int32), .int y0, .int v1]) (st'' := []) (A'' := im_H g1 u o Y) (c'' := 0) (s'' := 0) 2 0 0 hb7 (fun n => rfl) ?_
          cases hb8 : Op.ifCond.holds .eq y0 with
          | true =>
            rw [hb8] at h
            simp only [cond_true] at h
            refine iv_brt (mi' := 12) (pc' := 105) (ls' := [.ref 12, .int (0 : Int32), .ref 4, .int (1 : Int32), .int y0, .int v1]) (st' := []) (A' := im_H g1 u o Y) (c' := 0) (s' := 0) (mi'' := 12) (pc'' := 83) (ls'' := [.ref 12, .int (0 : Int32), .ref 4, .int (1 : Int32), .int y0, .int v1]) (st'' := []) (A'' := im_H g1 u o Y) (c'' := 0) (s'' := 0) 2 0 0 hb8 (fun n => rfl) ?_
            exact x12_r9_0_r1_3_ok (g := g1) (y0 := y0) (y1 := v1) h
          | false =>
            rw [hb8] at h
            simp only [cond_false] at h
            refine iv_brf (mi' := 12) (pc' := 105) (ls' := [.ref 12, .int (0 : Int32), .ref 4, .int (1 : Int32), .int y0, .int v1]) (st' := []) (A' := im_H g1 u o Y) (c' := 0) (s' := 0) (mi'' := 12) (pc'' := 83) (ls'' := [.ref 12, .int (0 : Int32), .ref 4, .int (1 : Int32), .int y0, .int v1]) (st'' := []) (A'' := im_H g1 u o Y) (c'' := 0) (s'' := 0) 2 0 0 hb8 (fun n => rfl) ?_
            refine iv_blk (mi' := 12) (pc' := 95) (ls' := [.ref 12, .int (0 : Int32), .ref 4, .int (1 : Int32), .int y0, .int v1]) (st' := []) (A' := List.set (im_H g1 u o Y) 9 (.inr (0, List.set [.int 0, .ref 13, .ref 14, .ref 15, .ref 16, .int (g1 9 5), .int (g1 9 6), .int (g1 9 7)] 6 (.int ((g1 9 6) &&& (-2 : Int32)))))) (c' := 0) (s' := 0) 8 (fun n => rfl) ?_
            rw [im_f9_6]
            cases hc : x15_r1 (im_w g1 9 6 ((g1 9 6) &&& (-2 : Int32))) (2 : Int32) (0 : Int32) (0 : Int32) with
            | none => rw [hc] at h; cases h
            | some q =>
              obtain ⟨v3, g3⟩ := q
              rw [hc] at h
              simp only [Option.bind_some] at h
              refine iv_cal (mi' := 12) (pc' := 102) (ls' := [.ref 12, .int (0 : Int32), .ref 4, .int (1 : Int32), .int y0, .int v1]) (rest := []) (A' := im_H (im_w g1 9 6 ((g1 9 6) &&& (-2 : Int32))) u o Y) (c' := 0) (s' := 0) (as := [.ref 4, .int (2 : Int32), .int (0 : Int32), .int (0 : Int32)]) (v := none) (A'' := im_H g3 u o Y) 6 15 (fun n => rfl) rfl (x15_r1_ok (g := (im_w g1 9 6 ((g1 9 6) &&& (-2 : Int32)))) (a := (2 : Int32)) (b := (0 : Int32)) (c := (0 : Int32)) hc) ?_
              show iv_ev (iv_Xs L xs) 12 105 [.ref 12, .int (0 : Int32), .ref 4, .int (1 : Int32), .int y0, .int v1] [] (im_H g3 u o Y) 0 0 _
              exact x12_r9_0_r1_3_ok (g := g3) (y0 := y0) (y1 := v1) h
      | false =>
        rw [hb6] at h
        simp only [cond_false] at h
        refine iv_brf (mi' := 12) (pc' := 73) (ls' := [.ref 12, .int (0 : Int32), .ref 4, .int (1 : Int32), .int y0, .int v1]) (st' := []) (A' := im_H g1 u o Y) (c' := 0) (s' := 0) (mi'' := 12) (pc'' := 50) (ls'' := [.ref 12, .int (0 : Int32), .ref 4, .int (1 : Int32), .int y0, .int v1]) (st'' := []) (A'' := im_H g1 u o Y) (c'' := 0) (s'' := 0) 2 0 0 hb6 (fun n => rfl) ?_
        refine iv_blk (mi' := 12) (pc' := 60) (ls' := [.ref 12, .int (0 : Int32), .ref 4, .int (1 : Int32), .int y0, .int v1]) (st' := []) (A' := List.set (im_H g1 u o Y) 9 (.inr (0, List.set [.int 0, .ref 13, .ref 14, .ref 15, .ref 16, .int (g1 9 5), .int (g1 9 6), .int (g1 9 7)] 6 (.int ((g1 9 6) ||| (1 : Int32)))))) (c' := 0) (s' := 0) 6 (fun n => rfl) ?_
        rw [im_f9_6]
        cases hc : x15_r1 (im_w g1 9 6 ((g1 9 6) ||| (1 : Int32))) (1 : Int32) (0 : Int32) (0 : Int32) with
        | none => rw [hc] at h; cases h
        | some q =>
          obtain ⟨v4, g4⟩ := q
          rw [hc] at h
          simp only [Option.bind_some] at h
          refine iv_cal (mi' := 12) (pc' := 67) (ls' := [.ref 12, .int (0 : Int32), .ref 4, .int (1 : Int32), .int y0, .int v1]) (rest := []) (A' := im_H (im_w g1 9 6 ((g1 9 6) ||| (1 : Int32))) u o Y) (c' := 0) (s' := 0) (as := [.ref 4, .int (1 : Int32), .int (0 : Int32), .int (0 : Int32)]) (v := none) (A'' := im_H g4 u o Y) 6 15 (fun n => rfl) rfl (x15_r1_ok (g := (im_w g1 9 6 ((g1 9 6) ||| (1 : Int32)))) (a := (1 : Int32)) (b := (0 : Int32)) (c := (0 : Int32)) hc) ?_
          show iv_ev (iv_Xs L xs) 12 70 [.ref 12, .int (0 : Int32), .ref 4, .int (1 : Int32), .int y0, .int v1] [] (im_H g4 u o Y) 0 0 _
          exact iv_blk 1 (fun n => rfl) (x12_r9_0_r1_3_ok (g := g4) (y0 := y0) (y1 := v1) h)
def x12_r9_0_r1_1 (g : im_M) (y0 : Int32) : Option (Int32 × im_M) :=
  bif Op.if_icmp.holds .le (g 1 1) (1 : Int32) then
    (x12_r9_0_r1_2 g y0 (0 : Int32))
  else
    (x12_r9_0_r1_2 g y0 (1 : Int32))
set_option maxRecDepth 100000 in
set_option maxHeartbeats 4000000 in
theorem x12_r9_0_r1_1_ok {L : Nat} {xs : Nat → Int32} {g u mm : im_M} {o : Nat → Int64} {Y : iv_A} {y0 ret : Int32} (h : x12_r9_0_r1_1 g y0 = some (ret, mm)) : iv_ev (iv_Xs L xs) 12 18 [.ref 12, .int (0 : Int32), .ref 4, .int (1 : Int32), .retAddr 0, .retAddr 0] [.int y0] (im_H g u o Y) 0 0 (.inl none, im_H mm u o Y) := by
  unfold x12_r9_0_r1_1 at h
  cases hb2 : Op.if_icmp.holds .le (g 1 1) (1 : Int32) with
  | true =>
    rw [hb2] at h
    simp only [cond_true] at h
    refine iv_brt (mi' := 12) (pc' := 34) (ls' := [.ref 12, .int (0 : Int32), .ref 4, .int (1 : Int32), .int y0, .retAddr 0]) (st' := [.int (0 : Int32), .ref 12]) (A' := im_H g u o Y) (c' := 0) (s' := 0) (mi'' := 12) (pc'' := 30) (ls'' := [.ref 12, .int (0 : Int32), .ref 4, .int (1 : Int32), .int y0, .retAddr 0]) (st'' := [.int (0 : Int32), .ref 12]) (A'' := im_H g u o Y) (c'' := 0) (s'' := 0) 7 0 0 hb2 (fun n => rfl) ?_
    exact iv_blk 1 (fun n => rfl) (x12_r9_0_r1_2_ok (g := g) (y0 := y0) (y1 := (0 : Int32)) h)
  | false =>
    rw [hb2] at h
    simp only [cond_false] at h
    refine iv_brf (mi' := 12) (pc' := 34) (ls' := [.ref 12, .int (0 : Int32), .ref 4, .int (1 : Int32), .int y0, .retAddr 0]) (st' := [.int (0 : Int32), .ref 12]) (A' := im_H g u o Y) (c' := 0) (s' := 0) (mi'' := 12) (pc'' := 30) (ls'' := [.ref 12, .int (0 : Int32), .ref 4, .int (1 : Int32), .int y0, .retAddr 0]) (st'' := [.int (0 : Int32), .ref 12]) (A'' := im_H g u o Y) (c'' := 0) (s'' := 0) 7 0 0 hb2 (fun n => rfl) ?_
    exact iv_blk 2 (fun n => rfl) (x12_r9_0_r1_2_ok (g := g) (y0 := y0) (y1 := (1 : Int32)) h)
def x12_r9_0_r1 (g : im_M) : Option (Int32 × im_M) :=
  bif Op.ifCond.holds .eq ((g 9 6) &&& (1 : Int32)) then
    (x12_r9_0_r1_1 g (0 : Int32))
  else
    (x12_r9_0_r1_1 g (1 : Int32))
set_option maxRecDepth 100000 in
set_option maxHeartbeats 4000000 in
theorem x12_r9_0_r1_ok {L : Nat} {xs : Nat → Int32} {g u mm : im_M} {o : Nat → Int64} {Y : iv_A} {ret : Int32} (h : x12_r9_0_r1 g  = some (ret, mm)) : iv_ev (iv_Xs L xs) 12 0 [.ref 12, .int (0 : Int32), .ref 4, .retAddr 0, .retAddr 0, .retAddr 0] [] (im_H g u o Y) 0 0 (.inl none, im_H mm u o Y) := by
  unfold x12_r9_0_r1 at h
  cases hb1 : Op.ifCond.holds .eq ((g 9 6) &&& (1 : Int32)) with
  | true =>
    rw [hb1] at h
    simp only [cond_true] at h
    refine iv_brt (mi' := 12) (pc' := 17) (ls' := [.ref 12, .int (0 : Int32), .ref 4, .int (1 : Int32), .retAddr 0, .retAddr 0]) (st' := []) (A' := im_H g u o Y) (c' := 0) (s' := 0) (mi'' := 12) (pc'' := 13) (ls'' := [.ref 12, .int (0 : Int32), .ref 4, .int (1 : Int32), .retAddr 0, .retAddr 0]) (st'' := []) (A'' := im_H g u o Y) (c'' := 0) (s'' := 0) 9 0 0 hb1 (fun n => rfl) ?_
    exact iv_blk 1 (fun n => rfl) (x12_r9_0_r1_1_ok (g := g) (y0 := (0 : Int32)) h)
  | false =>
    rw [hb1] at h
    simp only [cond_false] at h
    refine iv_brf (mi' := 12) (pc' := 17) (ls' := [.ref 12, .int (0 : Int32), .ref 4, .int (1 : Int32), .retAddr 0, .retAddr 0]) (st' := []) (A' := im_H g u o Y) (c' := 0) (s' := 0) (mi'' := 12) (pc'' := 13) (ls'' := [.ref 12, .int (0 : Int32), .ref 4, .int (1 : Int32), .retAddr 0, .retAddr 0]) (st'' := []) (A'' := im_H g u o Y) (c'' := 0) (s'' := 0) 9 0 0 hb1 (fun n => rfl) ?_
    exact iv_blk 2 (fun n => rfl) (x12_r9_0_r1_1_ok (g := g) (y0 := (1 : Int32)) h)
def x18_r9_0_r1_2 (g : im_M) (y0 : Int32) : Option (Int32 × im_M) :=
  some (0, g)
set_option maxRecDepth 100000 in
set_option maxHeartbeats 4000000 in
theorem x18_r9_0_r1_2_ok {L : Nat} {xs : Nat → Int32} {g u mm : im_M} {o : Nat → Int64} {Y : iv_A} {y0 ret : Int32} (h : x18_r9_0_r1_2 g y0 = some (ret, mm)) : iv_ev (iv_Xs L xs) 18 124 [.ref 12, .int (0 : Int32), .int y0, .ref 4, .int (1 : Int32)] [] (im_H g u o Y) 0 0 (.inl none, im_H mm u o Y) := by
  unfold x18_r9_0_r1_2 at h
  cases h
  exact iv_ret 1 (fun n => rfl)
def x18_r9_0_r1_1 (g : im_M) (y0 : Int32) (y1 : Int32) : Option (Int32 × im_M) :=
  bif Op.ifCond.holds .ne ((g 9 7) &&& (1 : Int32)) then
    (Option.bind (x23_r9_0 (im_w g 13 0 y1) ) (fun (v2, g2) =>
      bif Op.ifCond.holds .eq v2 then
        (x18_r9_0_r1_2 g2 y0)
      else
        (Option.bind (x15_r1 (im_w g2 9 7 ((g2 9 7) &&& (-2 : Int32))) (4 : Int32) (0 : Int32) (0 : Int32)) (fun (_, g3) =>
          x18_r9_0_r1_2 g3 y0))))
  else
    (bif Op.if_icmp.holds .lt y1 y0 then
      (x18_r9_0_r1_2 (im_w g 13 0 y1) y0)
    else
      (Option.bind (x15_r1 (im_w (im_w g 13 0 y1) 9 7 ((g 9 7) ||| (1 : Int32))) (3 : Int32) (0 : Int32) (0 : Int32)) (fun (_, g4) =>
        x18_r9_0_r1_2 g4 y0)))
set_option maxRecDepth 100000 in
set_option maxHeartbeats 4000000 in
theorem x18_r9_0_r1_1_ok {L : Nat} {xs : Nat → Int32} {g u mm : im_M} {o : Nat → Int64} {Y : iv_A} {y0 y1 ret : Int32} (h : x18_r9_0_r1_1 g y0 y1 = some (ret, mm)) : iv_ev (iv_Xs L xs) 18 48 [.ref 12, .int (0 : Int32), .int y0, .ref 4, .int (1 : Int32)] [.int y1, .int (0 : Int32), .ref 16] (im_H g u o Y) 0 0 (.inl none, im_H mm u o Y) := by
  unfold x18_r9_0_r1_1 at h
  refine iv_blk (mi' := 18) (pc' := 49) (ls' := [.ref 12, .int (0 : Int32), .int y0, .ref 4, .int (1 : Int32)]) (st' := []) (A' := List.set (im_H g u o Y) 13 (.inl (0, 3, .inl (upd (g 13) 0 y1)))) (c' := 0) (s' := 0) 1 (fun n => rfl) ?_
  rw [im_a13]
  cases hb3 : Op.ifCond.holds .ne ((g 9 7) &&& (1 : Int32)) with
  | true =>
    rw [hb3] at h
    simp only [cond_true] at h
    refine iv_brt (mi' := 18) (pc' := 93) (ls' := [.ref 12, .int (0 : Int32), .int y0, .ref 4, .int (1 : Int32)]) (st' := []) (A' := im_H (im_w g 13 0 y1) u o Y) (c' := 0) (s' := 0) (mi'' := 18) (pc'' := 59) (ls'' := [.ref 12, .int (0 : Int32), .int y0, .ref 4, .int (1 : Int32)]) (st'' := []) (A'' := im_H (im_w g 13 0 y1) u o Y) (c'' := 0) (s'' := 0) 5 0 0 hb3 (fun n => rfl) ?_
    cases hc : x23_r9_0 (im_w g 13 0 y1)  with
    | none => rw [hc] at h; cases h
    | some q =>
      obtain ⟨v2, g2⟩ := q
      rw [hc] at h
      simp only [Option.bind_some] at h
      refine iv_cal (mi' := 18) (pc' := 95) (ls' := [.ref 12, .int (0 : Int32), .int y0, .ref 4, .int (1 : Int32)]) (rest := []) (A' := im_H (im_w g 13 0 y1) u o Y) (c' := 0) (s' := 0) (as := [.ref 12, .int (0 : Int32)]) (v := some (.int v2)) (A'' := im_H g2 u o Y) 3 23 (fun n => rfl) rfl (x23_r9_0_ok (g := (im_w g 13 0 y1))  hc) ?_
      show iv_ev (iv_Xs L xs) 18 98 [.ref 12, .int (0 : Int32), .int y0, .ref 4, .int (1 : Int32)] [.int v2] (im_H g2 u o Y) 0 0 _
      cases hb4 : Op.ifCond.holds .eq v2 with
      | true =>
        rw [hb4] at h
        simp only [cond_true] at h
        refine iv_brt (mi' := 18) (pc' := 124) (ls' := [.ref 12, .int (0 : Int32), .int y0, .ref 4, .int (1 : Int32)]) (st' := []) (A' := im_H g2 u o Y) (c' := 0) (s' := 0) (mi'' := 18) (pc'' := 101) (ls'' := [.ref 12, .int (0 : Int32), .int y0, .ref 4, .int (1 : Int32)]) (st'' := []) (A'' := im_H g2 u o Y) (c'' := 0) (s'' := 0) 1 0 0 hb4 (fun n => rfl) ?_
        exact x18_r9_0_r1_2_ok (g := g2) (y0 := y0) h
      | false =>
        rw [hb4] at h
        simp only [cond_false] at h
        refine iv_brf (mi' := 18) (pc' := 124) (ls' := [.ref 12, .int (0 : Int32), .int y0, .ref 4, .int (1 : Int32)]) (st' := []) (A' := im_H g2 u o Y) (c' := 0) (s' := 0) (mi'' := 18) (pc'' := 101) (ls'' := [.ref 12, .int (0 : Int32), .int y0, .ref 4, .int (1 : Int32)]) (st'' := []) (A'' := im_H g2 u o Y) (c'' := 0) (s'' := 0) 1 0 0 hb4 (fun n => rfl) ?_
        refine iv_blk (mi' := 18) (pc' := 114) (ls' := [.ref 12, .int (0 : Int32), .int y0, .ref 4, .int (1 : Int32)]) (st' := []) (A' := List.set (im_H g2 u o Y) 9 (.inr (0, List.set [.int 0, .ref 13, .ref 14, .ref 15, .ref 16, .int (g2 9 5), .int (g2 9 6), .int (g2 9 7)] 7 (.int ((g2 9 7) &&& (-2 : Int32)))))) (c' := 0) (s' := 0) 8 (fun n => rfl) ?_
        rw [im_f9_7]
        cases hc : x15_r1 (im_w g2 9 7 ((g2 9 7) &&& (-2 : Int32))) (4 : Int32) (0 : Int32) (0 : Int32) with
        | none => rw [hc] at h; cases h
        | some q =>
          obtain ⟨v3, g3⟩ := q
          rw [hc] at h
          simp only [Option.bind_some] at h
          refine iv_cal (mi' := 18) (pc' := 121) (ls' := [.ref 12, .int (0 : Int32), .int y0, .ref 4, .int (1 : Int32)]) (rest := []) (A' := im_H (im_w g2 9 7 ((g2 9 7) &&& (-2 : Int32))) u o Y) (c' := 0) (s' := 0) (as := [.ref 4, .int (4 : Int32), .int (0 : Int32), .int (0 : Int32)]) (v := none) (A'' := im_H g3 u o Y) 6 15 (fun n => rfl) rfl (x15_r1_ok (g := (im_w g2 9 7 ((g2 9 7) &&& (-2 : Int32)))) (a := (4 : Int32)) (b := (0 : Int32)) (c := (0 : Int32)) hc) ?_
          show iv_ev (iv_Xs L xs) 18 124 [.ref 12, .int (0 : Int32), .int y0, .ref 4, .int (1 : Int32)] [] (im_H g3 u o Y) 0 0 _
          exact x18_r9_0_r1_2_ok (g := g3) (y0 := y0) h
  | false =>
    rw [hb3] at h
    simp only [cond_false] at h
    refine iv_brf (mi' := 18) (pc' := 93) (ls' := [.ref 12, .int (0 : Int32), .int y0, .ref 4, .int (1 : Int32)]) (st' := []) (A' := im_H (im_w g 13 0 y1) u o Y) (c' := 0) (s' := 0) (mi'' := 18) (pc'' := 59) (ls'' := [.ref 12, .int (0 : Int32), .int y0, .ref 4, .int (1 : Int32)]) (st'' := []) (A'' := im_H (im_w g 13 0 y1) u o Y) (c'' := 0) (s'' := 0) 5 0 0 hb3 (fun n => rfl) ?_
    cases hb5 : Op.if_icmp.holds .lt y1 y0 with
    | true =>
      rw [hb5] at h
      simp only [cond_true] at h
      refine iv_brt (mi' := 18) (pc' := 124) (ls' := [.ref 12, .int (0 : Int32), .int y0, .ref 4, .int (1 : Int32)]) (st' := []) (A' := im_H (im_w g 13 0 y1) u o Y) (c' := 0) (s' := 0) (mi'' := 18) (pc'' := 69) (ls'' := [.ref 12, .int (0 : Int32), .int y0, .ref 4, .int (1 : Int32)]) (st'' := []) (A'' := im_H (im_w g 13 0 y1) u o Y) (c'' := 0) (s'' := 0) 6 0 0 hb5 (fun n => rfl) ?_
      exact x18_r9_0_r1_2_ok (g := (im_w g 13 0 y1)) (y0 := y0) h
    | false =>
      rw [hb5] at h
      simp only [cond_false] at h
      refine iv_brf (mi' := 18) (pc' := 124) (ls' := [.ref 12, .int (0 : Int32), .int y0, .ref 4, .int (1 : Int32)]) (st' := []) (A' := im_H (im_w g 13 0 y1) u o Y) (c' := 0) (s' := 0) (mi'' := 18) (pc'' := 69) (ls'' := [.ref 12, .int (0 : Int32), .int y0, .ref 4, .int (1 : Int32)]) (st'' := []) (A'' := im_H (im_w g 13 0 y1) u o Y) (c'' := 0) (s'' := 0) 6 0 0 hb5 (fun n => rfl) ?_
      refine iv_blk (mi' := 18) (pc' := 80) (ls' := [.ref 12, .int (0 : Int32), .int y0, .ref 4, .int (1 : Int32)]) (st' := []) (A' := List.set (im_H (im_w g 13 0 y1) u o Y) 9 (.inr (0, List.set [.int 0, .ref 13, .ref 14, .ref 15, .ref 16, .int ((im_w g 13 0 y1) 9 5), .int ((im_w g 13 0 y1) 9 6), .int ((im_w g 13 0 y1) 9 7)] 7 (.int ((g 9 7) ||| (1 : Int32)))))) (c' := 0) (s' := 0) 6 (fun n => rfl) ?_
      rw [im_f9_7]
      cases hc : x15_r1 (im_w (im_w g 13 0 y1) 9 7 ((g 9 7) ||| (1 : Int32))) (3 : Int32) (0 : Int32) (0 : Int32) with
      | none => rw [hc] at h; cases h
      | some q =>
        obtain ⟨v4, g4⟩ := q
        rw [hc] at h
        simp only [Option.bind_some] at h
        refine iv_cal (mi' := 18) (pc' := 87) (ls' := [.ref 12, .int (0 : Int32), .int y0, .ref 4, .int (1 : Int32)]) (rest := []) (A' := im_H (im_w (im_w g 13 0 y1) 9 7 ((g 9 7) ||| (1 : Int32))) u o Y) (c' := 0) (s' := 0) (as := [.ref 4, .int (3 : Int32), .int (0 : Int32), .int (0 : Int32)]) (v := none) (A'' := im_H g4 u o Y) 6 15 (fun n => rfl) rfl (x15_r1_ok (g := (im_w (im_w g 13 0 y1) 9 7 ((g 9 7) ||| (1 : Int32)))) (a := (3 : Int32)) (b := (0 : Int32)) (c := (0 : Int32)) hc) ?_
        show iv_ev (iv_Xs L xs) 18 90 [.ref 12, .int (0 : Int32), .int y0, .ref 4, .int (1 : Int32)] [] (im_H g4 u o Y) 0 0 _
        exact iv_blk 1 (fun n => rfl) (x18_r9_0_r1_2_ok (g := g4) (y0 := y0) h)
def x18_r9_0_r1 (g : im_M) (a : Int32) : Option (Int32 × im_M) :=
  bif Op.ifCond.holds .eq ((g 9 6) &&& (1 : Int32)) then
    (Option.bind (x19_r9_0 g ) (fun (v1, g1) =>
      bif Op.ifCond.holds .eq v1 then
        (x18_r9_0_r1_1 g1 a (0 : Int32))
      else
        (x18_r9_0_r1_1 g1 a ((g1 13 0) + (1 : Int32)))))
  else
    (some (0, (im_w g 13 0 (0 : Int32))))
set_option maxRecDepth 100000 in
set_option maxHeartbeats 4000000 in
theorem x18_r9_0_r1_ok {L : Nat} {xs : Nat → Int32} {g u mm : im_M} {o : Nat → Int64} {Y : iv_A} {a ret : Int32} (h : x18_r9_0_r1 g a = some (ret, mm)) : iv_ev (iv_Xs L xs) 18 0 [.ref 12, .int (0 : Int32), .int a, .ref 4, .retAddr 0] [] (im_H g u o Y) 0 0 (.inl none, im_H mm u o Y) := by
  unfold x18_r9_0_r1 at h
  cases hb1 : Op.ifCond.holds .eq ((g 9 6) &&& (1 : Int32)) with
  | true =>
    rw [hb1] at h
    simp only [cond_true] at h
    refine iv_brt (mi' := 18) (pc' := 23) (ls' := [.ref 12, .int (0 : Int32), .int a, .ref 4, .int (1 : Int32)]) (st' := []) (A' := im_H g u o Y) (c' := 0) (s' := 0) (mi'' := 18) (pc'' := 15) (ls'' := [.ref 12, .int (0 : Int32), .int a, .ref 4, .int (1 : Int32)]) (st'' := []) (A'' := im_H g u o Y) (c'' := 0) (s'' := 0) 9 0 0 hb1 (fun n => rfl) ?_
    cases hc : x19_r9_0 g  with
    | none => rw [hc] at h; cases h
    | some q =>
      obtain ⟨v1, g1⟩ := q
      rw [hc] at h
      simp only [Option.bind_some] at h
      refine iv_cal (mi' := 18) (pc' := 30) (ls' := [.ref 12, .int (0 : Int32), .int a, .ref 4, .int (1 : Int32)]) (rest := [.int (0 : Int32), .ref 16]) (A' := im_H g u o Y) (c' := 0) (s' := 0) (as := [.ref 12, .int (0 : Int32)]) (v := some (.int v1)) (A'' := im_H g1 u o Y) 6 19 (fun n => rfl) rfl (x19_r9_0_ok (g := g)  hc) ?_
      show iv_ev (iv_Xs L xs) 18 33 [.ref 12, .int (0 : Int32), .int a, .ref 4, .int (1 : Int32)] [.int v1, .int (0 : Int32), .ref 16] (im_H g1 u o Y) 0 0 _
      cases hb2 : Op.ifCond.holds .eq v1 with
      | true =>
        rw [hb2] at h
        simp only [cond_true] at h
        refine iv_brt (mi' := 18) (pc' := 47) (ls' := [.ref 12, .int (0 : Int32), .int a, .ref 4, .int (1 : Int32)]) (st' := [.int (0 : Int32), .ref 16]) (A' := im_H g1 u o Y) (c' := 0) (s' := 0) (mi'' := 18) (pc'' := 36) (ls'' := [.ref 12, .int (0 : Int32), .int a, .ref 4, .int (1 : Int32)]) (st'' := [.int (0 : Int32), .ref 16]) (A'' := im_H g1 u o Y) (c'' := 0) (s'' := 0) 1 0 0 hb2 (fun n => rfl) ?_
        exact iv_blk 1 (fun n => rfl) (x18_r9_0_r1_1_ok (g := g1) (y0 := a) (y1 := (0 : Int32)) h)
      | false =>
        rw [hb2] at h
        simp only [cond_false] at h
        refine iv_brf (mi' := 18) (pc' := 47) (ls' := [.ref 12, .int (0 : Int32), .int a, .ref 4, .int (1 : Int32)]) (st' := [.int (0 : Int32), .ref 16]) (A' := im_H g1 u o Y) (c' := 0) (s' := 0) (mi'' := 18) (pc'' := 36) (ls'' := [.ref 12, .int (0 : Int32), .int a, .ref 4, .int (1 : Int32)]) (st'' := [.int (0 : Int32), .ref 16]) (A'' := im_H g1 u o Y) (c'' := 0) (s'' := 0) 1 0 0 hb2 (fun n => rfl) ?_
        exact iv_blk 7 (fun n => rfl) (x18_r9_0_r1_1_ok (g := g1) (y0 := a) (y1 := ((g1 13 0) + (1 : Int32))) h)
  | false =>
    rw [hb1] at h
    simp only [cond_false] at h
    refine iv_brf (mi' := 18) (pc' := 23) (ls' := [.ref 12, .int (0 : Int32), .int a, .ref 4, .int (1 : Int32)]) (st' := []) (A' := im_H g u o Y) (c' := 0) (s' := 0) (mi'' := 18) (pc'' := 15) (ls'' := [.ref 12, .int (0 : Int32), .int a, .ref 4, .int (1 : Int32)]) (st'' := []) (A'' := im_H g u o Y) (c'' := 0) (s'' := 0) 9 0 0 hb1 (fun n => rfl) ?_
    refine iv_blk (mi' := 18) (pc' := 22) (ls' := [.ref 12, .int (0 : Int32), .int a, .ref 4, .int (1 : Int32)]) (st' := []) (A' := List.set (im_H g u o Y) 13 (.inl (0, 3, .inl (upd (g 13) 0 (0 : Int32))))) (c' := 0) (s' := 0) 5 (fun n => rfl) ?_
    rw [im_a13]
    cases h
    exact iv_ret 1 (fun n => rfl)
def x50_r9_0 (g : im_M) (a : Int32) : Option (Int32 × im_M) :=
  some (0, (im_w (im_w g 10 0 a) 9 5 ((g 9 5) ||| (1 : Int32))))
set_option maxRecDepth 100000 in
set_option maxHeartbeats 4000000 in
theorem x50_r9_0_ok {L : Nat} {xs : Nat → Int32} {g u mm : im_M} {o : Nat → Int64} {Y : iv_A} {a ret : Int32} (h : x50_r9_0 g a = some (ret, mm)) : iv_ev (iv_Xs L xs) 50 0 [.ref 12, .int (0 : Int32), .int a] [] (im_H g u o Y) 0 0 (.inl none, im_H mm u o Y) := by
  unfold x50_r9_0 at h
  refine iv_blk (mi' := 50) (pc' := 7) (ls' := [.ref 12, .int (0 : Int32), .int a]) (st' := []) (A' := List.set (im_H g u o Y) 10 (.inl (0, 3, .inl (upd (g 10) 0 a)))) (c' := 0) (s' := 0) 5 (fun n => rfl) ?_
  rw [im_a10]
  refine iv_blk (mi' := 50) (pc' := 19) (ls' := [.ref 12, .int (0 : Int32), .int a]) (st' := []) (A' := List.set (im_H (im_w g 10 0 a) u o Y) 9 (.inr (0, List.set [.int 0, .ref 13, .ref 14, .ref 15, .ref 16, .int ((im_w g 10 0 a) 9 5), .int ((im_w g 10 0 a) 9 6), .int ((im_w g 10 0 a) 9 7)] 5 (.int ((g 9 5) ||| (1 : Int32)))))) (c' := 0) (s' := 0) 8 (fun n => rfl) ?_
  rw [im_f9_5]
  cases h
  exact iv_ret 1 (fun n => rfl)
def x20_r9_1 (g : im_M) : Option (Int32 × im_M) :=
  some ((1200 : Int32), g)
set_option maxRecDepth 100000 in
set_option maxHeartbeats 4000000 in
theorem x20_r9_1_ok {L : Nat} {xs : Nat → Int32} {g u mm : im_M} {o : Nat → Int64} {Y : iv_A} {ret : Int32} (h : x20_r9_1 g  = some (ret, mm)) : iv_ev (iv_Xs L xs) 20 0 [.ref 12, .int (1 : Int32), .retAddr 0] [] (im_H g u o Y) 0 0 (.inl (some (.int ret)), im_H mm u o Y) := by
  unfold x20_r9_1 at h
  cases h
  exact iv_ret 7 (fun n => rfl)
def x19_r9_1_1 (g : im_M) (y0 : Int32) : Option (Int32 × im_M) :=
  bif (y0 == 0 || y0 == 1) then some (y0, g) else none
set_option maxRecDepth 100000 in
set_option maxHeartbeats 4000000 in
theorem x19_r9_1_1_ok {L : Nat} {xs : Nat → Int32} {g u mm : im_M} {o : Nat → Int64} {Y : iv_A} {y0 ret : Int32} (h : x19_r9_1_1 g y0 = some (ret, mm)) : iv_ev (iv_Xs L xs) 19 46 [.ref 12, .int (1 : Int32)] [.int y0] (im_H g u o Y) 0 0 (.inl (some (.int ret)), im_H mm u o Y) := by
  unfold x19_r9_1_1 at h
  cases hb2 : (y0 == 0 || y0 == 1) with
  | false => rw [hb2] at h; cases h
  | true =>
    rw [hb2] at h
    cases h
    exact iv_retc 1 hb2 (fun n => rfl)
def x19_r9_1 (g : im_M) : Option (Int32 × im_M) :=
  Option.bind (x20_r9_1 g ) (fun (v1, g1) =>
    bif Op.if_icmp.holds .ge (g 10 1) v1 then
      (x19_r9_1_1 g1 (0 : Int32))
    else
      (x19_r9_1_1 g1 (1 : Int32)))
set_option maxRecDepth 100000 in
set_option maxHeartbeats 4000000 in
theorem x19_r9_1_ok {L : Nat} {xs : Nat → Int32} {g u mm : im_M} {o : Nat → Int64} {Y : iv_A} {ret : Int32} (h : x19_r9_1 g  = some (ret, mm)) : iv_ev (iv_Xs L xs) 19 0 [.ref 12, .int (1 : Int32)] [] (im_H g u o Y) 0 0 (.inl (some (.int ret)), im_H mm u o Y) := by
  unfold x19_r9_1 at h
  cases hc : x20_r9_1 g  with
  | none => rw [hc] at h; cases h
  | some q =>
    obtain ⟨v1, g1⟩ := q
    rw [hc] at h
    simp only [Option.bind_some] at h
    refine iv_cal (mi' := 19) (pc' := 13) (ls' := [.ref 12, .int (1 : Int32)]) (rest := [.int (g 10 1)]) (A' := im_H g u o Y) (c' := 0) (s' := 0) (as := [.ref 12, .int (1 : Int32)]) (v := some (.int v1)) (A'' := im_H g1 u o Y) 10 20 (fun n => rfl) rfl (x20_r9_1_ok (g := g)  hc) ?_
    show iv_ev (iv_Xs L xs) 19 16 [.ref 12, .int (1 : Int32)] [.int v1, .int (g 10 1)] (im_H g1 u o Y) 0 0 _
    cases hb1 : Op.if_icmp.holds .ge (g 10 1) v1 with
    | true =>
      rw [hb1] at h
      simp only [cond_true] at h
      refine iv_brt (mi' := 19) (pc' := 23) (ls' := [.ref 12, .int (1 : Int32)]) (st' := []) (A' := im_H g1 u o Y) (c' := 0) (s' := 0) (mi'' := 19) (pc'' := 19) (ls'' := [.ref 12, .int (1 : Int32)]) (st'' := []) (A'' := im_H g1 u o Y) (c'' := 0) (s'' := 0) 1 0 0 hb1 (fun n => rfl) ?_
      exact iv_blk 2 (fun n => rfl) (x19_r9_1_1_ok (g := g1) (y0 := (0 : Int32)) h)
    | false =>
      rw [hb1] at h
      simp only [cond_false] at h
      refine iv_brf (mi' := 19) (pc' := 23) (ls' := [.ref 12, .int (1 : Int32)]) (st' := []) (A' := im_H g1 u o Y) (c' := 0) (s' := 0) (mi'' := 19) (pc'' := 19) (ls'' := [.ref 12, .int (1 : Int32)]) (st'' := []) (A'' := im_H g1 u o Y) (c'' := 0) (s'' := 0) 1 0 0 hb1 (fun n => rfl) ?_
      exact iv_blk 2 (fun n => rfl) (x19_r9_1_1_ok (g := g1) (y0 := (1 : Int32)) h)
def x23_r9_1_1 (g : im_M) (y0 : Int32) : Option (Int32 × im_M) :=
  bif (y0 == 0 || y0 == 1) then some (y0, g) else none
set_option maxRecDepth 100000 in
set_option maxHeartbeats 4000000 in
theorem x23_r9_1_1_ok {L : Nat} {xs : Nat → Int32} {g u mm : im_M} {o : Nat → Int64} {Y : iv_A} {y0 ret : Int32} (h : x23_r9_1_1 g y0 = some (ret, mm)) : iv_ev (iv_Xs L xs) 23 52 [.ref 12, .int (1 : Int32)] [.int y0] (im_H g u o Y) 0 0 (.inl (some (.int ret)), im_H mm u o Y) := by
  unfold x23_r9_1_1 at h
  cases hb2 : (y0 == 0 || y0 == 1) with
  | false => rw [hb2] at h; cases h
  | true =>
    rw [hb2] at h
    cases h
    exact iv_retc 1 hb2 (fun n => rfl)
def x23_r9_1 (g : im_M) : Option (Int32 × im_M) :=
  Option.bind (x20_r9_1 g ) (fun (v1, g1) =>
    bif Op.if_icmp.holds .le (g 10 1) (v1 + (40 : Int32)) then
      (x23_r9_1_1 g1 (0 : Int32))
    else
      (x23_r9_1_1 g1 (1 : Int32)))
set_option maxRecDepth 100000 in
set_option maxHeartbeats 4000000 in
theorem x23_r9_1_ok {L : Nat} {xs : Nat → Int32} {g u mm : im_M} {o : Nat → Int64} {Y : iv_A} {ret : Int32} (h : x23_r9_1 g  = some (ret, mm)) : iv_ev (iv_Xs L xs) 23 0 [.ref 12, .int (1 : Int32)] [] (im_H g u o Y) 0 0 (.inl (some (.int ret)), im_H mm u o Y) := by
  unfold x23_r9_1 at h
  cases hc : x20_r9_1 g  with
  | none => rw [hc] at h; cases h
  | some q =>
    obtain ⟨v1, g1⟩ := q
    rw [hc] at h
    simp only [Option.bind_some] at h
    refine iv_cal (mi' := 23) (pc' := 13) (ls' := [.ref 12, .int (1 : Int32)]) (rest := [.int (g 10 1)]) (A' := im_H g u o Y) (c' := 0) (s' := 0) (as := [.ref 12, .int (1 : Int32)]) (v := some (.int v1)) (A'' := im_H g1 u o Y) 10 20 (fun n => rfl) rfl (x20_r9_1_ok (g := g)  hc) ?_
    show iv_ev (iv_Xs L xs) 23 16 [.ref 12, .int (1 : Int32)] [.int v1, .int (g 10 1)] (im_H g1 u o Y) 0 0 _
    cases hb1 : Op.if_icmp.holds .le (g 10 1) (v1 + (40 : Int32)) with
    | true =>
      rw [hb1] at h
      simp only [cond_true] at h
      refine iv_brt (mi' := 23) (pc' := 26) (ls' := [.ref 12, .int (1 : Int32)]) (st' := []) (A' := im_H g1 u o Y) (c' := 0) (s' := 0) (mi'' := 23) (pc'' := 22) (ls'' := [.ref 12, .int (1 : Int32)]) (st'' := []) (A'' := im_H g1 u o Y) (c'' := 0) (s'' := 0) 3 0 0 hb1 (fun n => rfl) ?_
      exact iv_blk 2 (fun n => rfl) (x23_r9_1_1_ok (g := g1) (y0 := (0 : Int32)) h)
    | false =>
      rw [hb1] at h
      simp only [cond_false] at h
      refine iv_brf (mi' := 23) (pc' := 26) (ls' := [.ref 12, .int (1 : Int32)]) (st' := []) (A' := im_H g1 u o Y) (c' := 0) (s' := 0) (mi'' := 23) (pc'' := 22) (ls'' := [.ref 12, .int (1 : Int32)]) (st'' := []) (A'' := im_H g1 u o Y) (c'' := 0) (s'' := 0) 3 0 0 hb1 (fun n => rfl) ?_
      exact iv_blk 2 (fun n => rfl) (x23_r9_1_1_ok (g := g1) (y0 := (1 : Int32)) h)
def x13_r9_1_1 (g : im_M) (y0 : Int32) (y1 : Int32) (y2 : Int32) : Option (Int32 × im_M) :=
  bif (y2 == 0 || y2 == 1) then some (y2, g) else none
set_option maxRecDepth 100000 in
set_option maxHeartbeats 4000000 in
theorem x13_r9_1_1_ok {L : Nat} {xs : Nat → Int32} {g u mm : im_M} {o : Nat → Int64} {Y : iv_A} {y0 y1 y2 ret : Int32} (h : x13_r9_1_1 g y0 y1 y2 = some (ret, mm)) : iv_ev (iv_Xs L xs) 13 57 [.ref 12, .int (1 : Int32), .int y0, .int y1] [.int y2] (im_H g u o Y) 0 0 (.inl (some (.int ret)), im_H mm u o Y) := by
  unfold x13_r9_1_1 at h
  cases hb7 : (y2 == 0 || y2 == 1) with
  | false => rw [hb7] at h; cases h
  | true =>
    rw [hb7] at h
    cases h
    exact iv_retc 1 hb7 (fun n => rfl)
def x13_r9_1 (g : im_M) (a : Int32) : Option (Int32 × im_M) :=
  bif Op.if_icmp.holds .lt (g 10 1) (50 : Int32) then
    (x13_r9_1_1 g a (g 10 1) (1 : Int32))
  else
    (bif Op.if_icmp.holds .gt (g 10 1) (4000 : Int32) then
      (x13_r9_1_1 g a (g 10 1) (1 : Int32))
    else
      (bif Op.ifCond.holds .eq a then
        (bif Op.if_icmp.holds .lt (g 12 1) (13 : Int32) then
          (x13_r9_1_1 g a (g 10 1) (0 : Int32))
        else
          (x13_r9_1_1 g a (g 10 1) (1 : Int32)))
      else
        (bif Op.if_icmp.holds .gt (if 0 ≤ ((g 10 1) - (g 11 1)) then ((g 10 1) - (g 11 1)) else 0 - ((g 10 1) - (g 11 1))) (400 : Int32) then
          (x13_r9_1_1 g a (g 10 1) (1 : Int32))
        else
          (bif Op.if_icmp.holds .lt (g 12 1) (13 : Int32) then
            (x13_r9_1_1 g a (g 10 1) (0 : Int32))
          else
            (x13_r9_1_1 g a (g 10 1) (1 : Int32))))))
set_option maxRecDepth 100000 in
set_option maxHeartbeats 4000000 in
theorem x13_r9_1_ok {L : Nat} {xs : Nat → Int32} {g u mm : im_M} {o : Nat → Int64} {Y : iv_A} {a ret : Int32} (h : x13_r9_1 g a = some (ret, mm)) : iv_ev (iv_Xs L xs) 13 0 [.ref 12, .int (1 : Int32), .int a, .retAddr 0] [] (im_H g u o Y) 0 0 (.inl (some (.int ret)), im_H mm u o Y) := by
  unfold x13_r9_1 at h
  cases hb1 : Op.if_icmp.holds .lt (g 10 1) (50 : Int32) with
  | true =>
    rw [hb1] at h
    simp only [cond_true] at h
    refine iv_brt (mi' := 13) (pc' := 52) (ls' := [.ref 12, .int (1 : Int32), .int a, .int (g 10 1)]) (st' := []) (A' := im_H g u o Y) (c' := 0) (s' := 0) (mi'' := 13) (pc'' := 13) (ls'' := [.ref 12, .int (1 : Int32), .int a, .int (g 10 1)]) (st'' := []) (A'' := im_H g u o Y) (c'' := 0) (s'' := 0) 8 0 0 hb1 (fun n => rfl) ?_
    exact iv_blk 2 (fun n => rfl) (x13_r9_1_1_ok (g := g) (y0 := a) (y1 := (g 10 1)) (y2 := (1 : Int32)) h)
  | false =>
    rw [hb1] at h
    simp only [cond_false] at h
    refine iv_brf (mi' := 13) (pc' := 52) (ls' := [.ref 12, .int (1 : Int32), .int a, .int (g 10 1)]) (st' := []) (A' := im_H g u o Y) (c' := 0) (s' := 0) (mi'' := 13) (pc'' := 13) (ls'' := [.ref 12, .int (1 : Int32), .int a, .int (g 10 1)]) (st'' := []) (A'' := im_H g u o Y) (c'' := 0) (s'' := 0) 8 0 0 hb1 (fun n => rfl) ?_
    cases hb2 : Op.if_icmp.holds .gt (g 10 1) (4000 : Int32) with
    | true =>
      rw [hb2] at h
      simp only [cond_true] at h
      refine iv_brt (mi' := 13) (pc' := 52) (ls' := [.ref 12, .int (1 : Int32), .int a, .int (g 10 1)]) (st' := []) (A' := im_H g u o Y) (c' := 0) (s' := 0) (mi'' := 13) (pc'' := 20) (ls'' := [.ref 12, .int (1 : Int32), .int a, .int (g 10 1)]) (st'' := []) (A'' := im_H g u o Y) (c'' := 0) (s'' := 0) 3 0 0 hb2 (fun n => rfl) ?_
      exact iv_blk 2 (fun n => rfl) (x13_r9_1_1_ok (g := g) (y0 := a) (y1 := (g 10 1)) (y2 := (1 : Int32)) h)
    | false =>
      rw [hb2] at h
      simp only [cond_false] at h
      refine iv_brf (mi' := 13) (pc' := 52) (ls' := [.ref 12, .int (1 : Int32), .int a, .int (g 10 1)]) (st' := []) (A' := im_H g u o Y) (c' := 0) (s' := 0) (mi'' := 13) (pc'' := 20) (ls'' := [.ref 12, .int (1 : Int32), .int a, .int (g 10 1)]) (st'' := []) (A'' := im_H g u o Y) (c'' := 0) (s'' := 0) 3 0 0 hb2 (fun n => rfl) ?_
      cases hb3 : Op.ifCond.holds .eq a with
      | true =>
        rw [hb3] at h
        simp only [cond_true] at h
        refine iv_brt (mi' := 13) (pc' := 41) (ls' := [.ref 12, .int (1 : Int32), .int a, .int (g 10 1)]) (st' := []) (A' := im_H g u o Y) (c' := 0) (s' := 0) (mi'' := 13) (pc'' := 24) (ls'' := [.ref 12, .int (1 : Int32), .int a, .int (g 10 1)]) (st'' := []) (A'' := im_H g u o Y) (c'' := 0) (s'' := 0) 2 0 0 hb3 (fun n => rfl) ?_
        cases hb4 : Op.if_icmp.holds .lt (g 12 1) (13 : Int32) with
        | true =>
          rw [hb4] at h
          simp only [cond_true] at h
          refine iv_brt (mi' := 13) (pc' := 56) (ls' := [.ref 12, .int (1 : Int32), .int a, .int (g 10 1)]) (st' := []) (A' := im_H g u o Y) (c' := 0) (s' := 0) (mi'' := 13) (pc'' := 52) (ls'' := [.ref 12, .int (1 : Int32), .int a, .int (g 10 1)]) (st'' := []) (A'' := im_H g u o Y) (c'' := 0) (s'' := 0) 6 0 0 hb4 (fun n => rfl) ?_
          exact iv_blk 1 (fun n => rfl) (x13_r9_1_1_ok (g := g) (y0 := a) (y1 := (g 10 1)) (y2 := (0 : Int32)) h)
        | false =>
          rw [hb4] at h
          simp only [cond_false] at h
          refine iv_brf (mi' := 13) (pc' := 56) (ls' := [.ref 12, .int (1 : Int32), .int a, .int (g 10 1)]) (st' := []) (A' := im_H g u o Y) (c' := 0) (s' := 0) (mi'' := 13) (pc'' := 52) (ls'' := [.ref 12, .int (1 : Int32), .int a, .int (g 10 1)]) (st'' := []) (A'' := im_H g u o Y) (c'' := 0) (s'' := 0) 6 0 0 hb4 (fun n => rfl) ?_
          exact iv_blk 2 (fun n => rfl) (x13_r9_1_1_ok (g := g) (y0 := a) (y1 := (g 10 1)) (y2 := (1 : Int32)) h)
      | false =>
        rw [hb3] at h
        simp only [cond_false] at h
        refine iv_brf (mi' := 13) (pc' := 41) (ls' := [.ref 12, .int (1 : Int32), .int a, .int (g 10 1)]) (st' := []) (A' := im_H g u o Y) (c' := 0) (s' := 0) (mi'' := 13) (pc'' := 24) (ls'' := [.ref 12, .int (1 : Int32), .int a, .int (g 10 1)]) (st'' := []) (A'' := im_H g u o Y) (c'' := 0) (s'' := 0) 2 0 0 hb3 (fun n => rfl) ?_
        cases hb5 : Op.if_icmp.holds .gt (if 0 ≤ ((g 10 1) - (g 11 1)) then ((g 10 1) - (g 11 1)) else 0 - ((g 10 1) - (g 11 1))) (400 : Int32) with
        | true =>
          rw [hb5] at h
          simp only [cond_true] at h
          refine iv_brt (mi' := 13) (pc' := 52) (ls' := [.ref 12, .int (1 : Int32), .int a, .int (g 10 1)]) (st' := []) (A' := im_H g u o Y) (c' := 0) (s' := 0) (mi'' := 13) (pc'' := 41) (ls'' := [.ref 12, .int (1 : Int32), .int a, .int (g 10 1)]) (st'' := []) (A'' := im_H g u o Y) (c'' := 0) (s'' := 0) 9 0 0 hb5 (fun n => rfl) ?_
          exact iv_blk 2 (fun n => rfl) (x13_r9_1_1_ok (g := g) (y0 := a) (y1 := (g 10 1)) (y2 := (1 : Int32)) h)
        | false =>
          rw [hb5] at h
          simp only [cond_false] at h
          refine iv_brf (mi' := 13) (pc' := 52) (ls' := [.ref 12, .int (1 : Int32), .int a, .int (g 10 1)]) (st' := []) (A' := im_H g u o Y) (c' := 0) (s' := 0) (mi'' := 13) (pc'' := 41) (ls'' := [.ref 12, .int (1 : Int32), .int a, .int (g 10 1)]) (st'' := []) (A'' := im_H g u o Y) (c'' := 0) (s'' := 0) 9 0 0 hb5 (fun n => rfl) ?_
          cases hb6 : Op.if_icmp.holds .lt (g 12 1) (13 : Int32) with
          | true =>
            rw [hb6] at h
            simp only [cond_true] at h
            refine iv_brt (mi' := 13) (pc' := 56) (ls' := [.ref 12, .int (1 : Int32), .int a, .int (g 10 1)]) (st' := []) (A' := im_H g u o Y) (c' := 0) (s' := 0) (mi'' := 13) (pc'' := 52) (ls'' := [.ref 12, .int (1 : Int32), .int a, .int (g 10 1)]) (st'' := []) (A'' := im_H g u o Y) (c'' := 0) (s'' := 0) 6 0 0 hb6 (fun n => rfl) ?_
            exact iv_blk 1 (fun n => rfl) (x13_r9_1_1_ok (g := g) (y0 := a) (y1 := (g 10 1)) (y2 := (0 : Int32)) h)
          | false =>
            rw [hb6] at h
            simp only [cond_false] at h
            refine iv_brf (mi' := 13) (pc' := 56) (ls' := [.ref 12, .int (1 : Int32), .int a, .int (g 10 1)]) (st' := []) (A' := im_H g u o Y) (c' := 0) (s' := 0) (mi'' := 13) (pc'' := 52) (ls'' := [.ref 12, .int (1 : Int32), .int a, .int (g 10 1)]) (st'' := []) (A'' := im_H g u o Y) (c'' := 0) (s'' := 0) 6 0 0 hb6 (fun n => rfl) ?_
            exact iv_blk 2 (fun n => rfl) (x13_r9_1_1_ok (g := g) (y0 := a) (y1 := (g 10 1)) (y2 := (1 : Int32)) h)
def x12_r9_1_r1_3 (g : im_M) (y0 : Int32) (y1 : Int32) : Option (Int32 × im_M) :=
  some (0, g)
set_option maxRecDepth 100000 in
set_option maxHeartbeats 4000000 in
theorem x12_r9_1_r1_3_ok {L : Nat} {xs : Nat → Int32} {g u mm : im_M} {o : Nat → Int64} {Y : iv_A} {y0 y1 ret : Int32} (h : x12_r9_1_r1_3 g y0 y1 = some (ret, mm)) : iv_ev (iv_Xs L xs) 12 105 [.ref 12, .int (1 : Int32), .ref 4, .int (2 : Int32), .int y0, .int y1] [] (im_H g u o Y) 0 0 (.inl none, im_H mm u o Y) := by
  unfold x12_r9_1_r1_3 at h
  cases h
  exact iv_ret 1 (fun n => rfl)
def x12_r9_1_r1_2 (g : im_M) (y0 : Int32) (y1 : Int32) : Option (Int32 × im_M) :=
  Option.bind (x13_r9_1 g y1) (fun (v1, g1) =>
    bif Op.ifCond.holds .eq v1 then
      (bif Op.ifCond.holds .ne v1 then
        (x12_r9_1_r1_3 g1 y0 v1)
      else
        (bif Op.ifCond.holds .eq y0 then
          (x12_r9_1_r1_3 g1 y0 v1)
        else
          (Option.bind (x15_r1 (im_w g1 9 6 ((g1 9 6) &&& (-3 : Int32))) (2 : Int32) (0 : Int32) (1 : Int32)) (fun (_, g2) =>
            x12_r9_1_r1_3 g2 y0 v1))))
    else
      (bif Op.ifCond.holds .ne y0 then
        (bif Op.ifCond.holds .ne v1 then
          (x12_r9_1_r1_3 g1 y0 v1)
        else
          (bif Op.ifCond.holds .eq y0 then
            (x12_r9_1_r1_3 g1 y0 v1)
          else
            (Option.bind (x15_r1 (im_w g1 9 6 ((g1 9 6) &&& (-3 : Int32))) (2 : Int32) (0 : Int32) (1 : Int32)) (fun (_, g3) =>
              x12_r9_1_r1_3 g3 y0 v1))))
      else
        (Option.bind (x15_r1 (im_w g1 9 6 ((g1 9 6) ||| (2 : Int32))) (1 : Int32) (0 : Int32) (1 : Int32)) (fun (_, g4) =>
          x12_r9_1_r1_3 g4 y0 v1))))
set_option maxRecDepth 100000 in
set_option maxHeartbeats 4000000 in
theorem x12_r9_1_r1_2_ok {L : Nat} {xs : Nat → Int32} {g u mm : im_M} {o : Nat → Int64} {Y : iv_A} {y0 y1 ret : Int32} (h : x12_r9_1_r1_2 g y0 y1 = some (ret, mm)) : iv_ev (iv_Xs L xs) 12 35 [.ref 12, .int (1 : Int32), .ref 4, .int (2 : Int32), .int y0, .retAddr 0] [.int y1, .int (1 : Int32), .ref 12] (im_H g u o Y) 0 0 (.inl none, im_H mm u o Y) := by
  unfold x12_r9_1_r1_2 at h
  cases hc : x13_r9_1 g y1 with
  | none => rw [hc] at h; cases h
  | some q =>
    obtain ⟨v1, g1⟩ := q
    rw [hc] at h
    simp only [Option.bind_some] at h
    refine iv_cal (mi' := 12) (pc' := 35) (ls' := [.ref 12, .int (1 : Int32), .ref 4, .int (2 : Int32), .int y0, .retAddr 0]) (rest := []) (A' := im_H g u o Y) (c' := 0) (s' := 0) (as := [.ref 12, .int (1 : Int32), .int y1]) (v := some (.int v1)) (A'' := im_H g1 u o Y) 1 13 (fun n => rfl) rfl (x13_r9_1_ok (g := g) (a := y1) hc) ?_
    show iv_ev (iv_Xs L xs) 12 38 [.ref 12, .int (1 : Int32), .ref 4, .int (2 : Int32), .int y0, .retAddr 0] [.int v1] (im_H g1 u o Y) 0 0 _
    cases hb3 : Op.ifCond.holds .eq v1 with
    | true =>
      rw [hb3] at h
      simp only [cond_true] at h
      refine iv_brt (mi' := 12) (pc' := 73) (ls' := [.ref 12, .int (1 : Int32), .ref 4, .int (2 : Int32), .int y0, .int v1]) (st' := []) (A' := im_H g1 u o Y) (c' := 0) (s' := 0) (mi'' := 12) (pc'' := 45) (ls'' := [.ref 12, .int (1 : Int32), .ref 4, .int (2 : Int32), .int y0, .int v1]) (st'' := []) (A'' := im_H g1 u o Y) (c'' := 0) (s'' := 0) 3 0 0 hb3 (fun n => rfl) ?_
      cases hb4 : Op.ifCond.holds .ne v1 with
      | true =>
        rw [hb4] at h
        simp only [cond_true] at h
        refine iv_brt (mi' := 12) (pc' := 105) (ls' := [.ref 12, .int (1 : Int32), .ref 4, .int (2 : Int32), .int y0, .int v1]) (st' := []) (A' := im_H g1 u o Y) (c' := 0) (s' := 0) (mi'' := 12) (pc'' := 78) (ls'' := [.ref 12, .int (1 : Int32), .ref 4, .int (2 : Int32), .int y0, .int v1]) (st'' := []) (A'' := im_H g1 u o Y) (c'' := 0) (s'' := 0) 2 0 0 hb4 (fun n => rfl) ?_
        exact x12_r9_1_r1_3_ok (g := g1) (y0 := y0) (y1 := v1) h
      | false =>
        rw [hb4] at h
        simp only [cond_false] at h
        refine iv_brf (mi' := 12) (pc' := 105) (ls' := [.ref 12, .int (1 : Int32), .ref 4, .int (2 : Int32), .int y0, .int v1]) (st' := []) (A' := im_H g1 u o Y) (c' := 0) (s' := 0) (mi'' := 12) (pc'' := 78) (ls'' := [.ref 12, .int (1 : Int32), .ref 4, .int (2 : Int32), .int y0, .int v1]) (st'' := []) (A'' := im_H g1 u o Y) (c'' := 0) (s'' := 0) 2 0 0 hb4 (fun n => rfl) ?_
        cases hb5 : Op.ifCond.holds .eq y0 with
        | true =>
          rw [hb5] at h
          simp only [cond_true] at h
          refine iv_brt (mi' := 12) (pc' := 105) (ls' := [.ref 12, .int (1 : Int32), .ref 4, .int (2 : Int32), .int y0, .int v1]) (st' := []) (A' := im_H g1 u o Y) (c' := 0) (s' := 0) (mi'' := 12) (pc'' := 83) (ls'' := [.ref 12, .int (1 : Int32), .ref 4, .int (2 : Int32), .int y0, .int v1]) (st'' := []) (A'' := im_H g1 u o Y) (c'' := 0) (s'' := 0) 2 0 0 hb5 (fun n => rfl) ?_
          exact x12_r9_1_r1_3_ok (g := g1) (y0 := y0) (y1 := v1) h
        | false =>
          rw [hb5] at h
          simp only [cond_false] at h
          refine iv_brf (mi' := 12) (pc' := 105) (ls' := [.ref 12, .int (1 : Int32), .ref 4, .int (2 : Int32), .int y0, .int v1]) (st' := []) (A' := im_H g1 u o Y) (c' := 0) (s' := 0) (mi'' := 12) (pc'' := 83) (ls'' := [.ref 12, .int (1 : Int32), .ref 4, .int (2 : Int32), .int y0, .int v1]) (st'' := []) (A'' := im_H g1 u o Y) (c'' := 0) (s'' := 0) 2 0 0 hb5 (fun n => rfl) ?_
          refine iv_blk (mi' := 12) (pc' := 95) (ls' := [.ref 12, .int (1 : Int32), .ref 4, .int (2 : Int32), .int y0, .int v1]) (st' := []) (A' := List.set (im_H g1 u o Y) 9 (.inr (0, List.set [.int 0, .ref 13, .ref 14, .ref 15, .ref 16, .int (g1 9 5), .int (g1 9 6), .int (g1 9 7)] 6 (.int ((g1 9 6) &&& (-3 : Int32)))))) (c' := 0) (s' := 0) 8 (fun n => rfl) ?_
          rw [im_f9_6]
          cases hc : x15_r1 (im_w g1 9 6 ((g1 9 6) &&& (-3 : Int32))) (2 : Int32) (0 : Int32) (1 : Int32) with
          | none => rw [hc] at h; cases h
          | some q =>
            obtain ⟨v2, g2⟩ := q
            rw [hc] at h
            simp only [Option.bind_some] at h
            refine iv_cal (mi' := 12) (pc' := 102) (ls' := [.ref 12, .int (1 : Int32), .ref 4, .int (2 : Int32), .int y0, .int v1]) (rest := []) (A' := im_H (im_w g1 9 6 ((g1 9 6) &&& (-3 : Int32))) u o Y) (c' := 0) (s' := 0) (as := [.ref 4, .int (2 : Int32), .int (0 : Int32), .int (1 : Int32)]) (v := none) (A'' := im_H g2 u o Y) 6 15 (fun n => rfl) rfl (x15_r1_ok (g := (im_w g1 9 6 ((g1 9 6) &&& (-3 : Int32)))) (a := (2 : Int32)) (b := (0 : Int32)) (c := (1 : Int32)) hc) ?_
            show iv_ev (iv_Xs L xs) 12 105 [.ref 12, .int (1 : Int32), .ref 4, .int (2 : Int32), .int y0, .int v1] [] (im_H g2 u o Y) 0 0 _
            exact x12_r9_1_r1_3_ok (g := g2) (y0 := y0) (y1 := v1) h
    | false =>
      rw [hb3] at h
      simp only [cond_false] at h
      refine iv_brf (mi' := 12) (pc' := 73) (ls' := [.ref 12, .int (1 : Int32), .ref 4, .int (2 : Int32), .int y0, .int v1]) (st' := []) (A' := im_H g1 u o Y) (c' := 0) (s' := 0) (mi'' := 12) (pc'' := 45) (ls'' := [.ref 12, .int (1 : Int32), .ref 4, .int (2 : Int32), .int y0, .int v1]) (st'' := []) (A'' := im_H g1 u o Y) (c'' := 0) (s'' := 0) 3 0 0 hb3 (fun n => rfl) ?_
      cases hb6 : Op.ifCond.holds .ne y0 with
      | true =>
        rw [hb6] at h
        simp only [cond_true] at h
        refine iv_brt (mi' := 12) (pc' := 73) (ls' := [.ref 12, .int (1 : Int32), .ref 4, .int (2 : Int32), .int y0, .int v1]) (st' := []) (A' := im_H g1 u o Y) (c' := 0) (s' := 0) (mi'' := 12) (pc'' := 50) (ls'' := [.ref 12, .int (1 : Int32), .ref 4, .int (2 : Int32), .int y0, .int v1]) (st'' := []) (A'' := im_H g1 u o Y) (c'' := 0) (s'' := 0) 2 0 0 hb6 (fun n => rfl) ?_
        cases hb7 : Op.ifCond.holds .ne v1 with
        | true =>
          rw [hb7] at h
          simp only [cond_true] at h
          refine iv_brt (mi' := 12) (pc' := 105) (ls' := [.ref 12, .int (1 : Int32), .ref 4, .int (2 : Int32), .int y0, .int v1]) (st' := []) (A' := im_H g1 u o Y) (c' := 0) (s' := 0) (mi'' := 12) (pc'' := 78) (ls'' := [.ref 12, .int (1 : Int32), .ref 4, .int (2 : Int32), .int y0, .int v1]) (st'' := []) (A'' := im_H g1 u o Y) (c'' := 0) (s'' := 0) 2 0 0 hb7 (fun n => rfl) ?_
          exact x12_r9_1_r1_3_ok (g := g1) (y0 := y0) (y1 := v1) h
        | false =>
          rw [hb7] at h
          simp only [cond_false] at h
          refine iv_brf (mi' := 12) (pc' := 105) (ls' := [.ref 12, .int (1 : Int32), .ref 4, .int (2 : Int32), .int y0, .int v1]) (st' := []) (A' := im_H g1 u o Y) (c' := 0) (s' := 0) (mi'' := 12) (pc'' := 78) (ls'' := [.ref 12, .int (1 : Int32), .ref 4, .int (2 : Int32), .int y0, .int v1]) (st'' := []) (A'' := im_H g1 u o Y) (c'' := 0) (s'' := 0) 2 0 0 hb7 (fun n => rfl) ?_
          cases hb8 : Op.ifCond.holds .eq y0 with
          | true =>
            rw [hb8] at h
            simp only [cond_true] at h
            refine iv_brt (mi' := 12) (pc' := 105) (ls' := [.ref 12, .int (1 : Int32), .ref 4, .int (2 : Int32), .int y0, .int v1]) (st' := []) (A' := im_H g1 u o Y) (c' := 0) (s' := 0) (mi'' := 12) (pc'' := 83) (ls'' := [.ref 12, .int (1 : Int32), .ref 4, .int (2 : Int32), .int y0, .int v1]) (st'' := []) (A'' := im_H g1 u o Y) (c'' := 0) (s'' := 0) 2 0 0 hb8 (fun n => rfl) ?_
            exact x12_r9_1_r1_3_ok (g := g1) (y0 := y0) (y1 := v1) h
          | false =>
            rw [hb8] at h
            simp only [cond_false] at h
            refine iv_brf (mi' := 12) (pc' := 105) (ls' := [.ref 12, .int (1 : Int32), .ref 4, .int (2 : Int32), .int y0, .int v1]) (st' := []) (A' := im_H g1 u o Y) (c' := 0) (s' := 0) (mi'' := 12) (pc'' := 83) (ls'' := [.ref 12, .int (1 : Int32), .ref 4, .int (2 : Int32), .int y0, .int v1]) (st'' := []) (A'' := im_H g1 u o Y) (c'' := 0) (s'' := 0) 2 0 0 hb8 (fun n => rfl) ?_
            refine iv_blk (mi' := 12) (pc' := 95) (ls' := [.ref 12, .int (1 : Int32), .ref 4, .int (2 : Int32), .int y0, .int v1]) (st' := []) (A' := List.set (im_H g1 u o Y) 9 (.inr (0, List.set [.int 0, .ref 13, .ref 14, .ref 15, .ref 16, .int (g1 9 5), .int (g1 9 6), .int (g1 9 7)] 6 (.int ((g1 9 6) &&& (-3 : Int32)))))) (c' := 0) (s' := 0) 8 (fun n => rfl) ?_
            rw [im_f9_6]
            cases hc : x15_r1 (im_w g1 9 6 ((g1 9 6) &&& (-3 : Int32))) (2 : Int32) (0 : Int32) (1 : Int32) with
            | none => rw [hc] at h; cases h
            | some q =>
              obtain ⟨v3, g3⟩ := q
              rw [hc] at h
              simp only [Option.bind_some] at h
              refine iv_cal (mi' := 12) (pc' := 102) (ls' := [.ref 12, .int (1 : Int32), .ref 4, .int (2 : Int32), .int y0, .int v1]) (rest := []) (A' := im_H (im_w g1 9 6 ((g1 9 6) &&& (-3 : Int32))) u o Y) (c' := 0) (s' := 0) (as := [.ref 4, .int (2 : Int32), .int (0 : Int32), .int (1 : Int32)]) (v := none) (A'' := im_H g3 u o Y) 6 15 (fun n => rfl) rfl (x15_r1_ok (g := (im_w g1 9 6 ((g1 9 6) &&& (-3 : Int32)))) (a := (2 : Int32)) (b := (0 : Int32)) (c := (1 : Int32)) hc) ?_
              show iv_ev (iv_Xs L xs) 12 105 [.ref 12, .int (1 : Int32), .ref 4, .int (2 : Int32), .int y0, .int v1] [] (im_H g3 u o Y) 0 0 _
              exact x12_r9_1_r1_3_ok (g := g3) (y0 := y0) (y1 := v1) h
      | false =>
        rw [hb6] at h
        simp only [cond_false] at h
        refine iv_brf (mi' := 12) (pc' := 73) (ls' := [.ref 12, .int (1 : Int32), .ref 4, .int (2 : Int32), .int y0, .int v1]) (st' := []) (A' := im_H g1 u o Y) (c' := 0) (s' := 0) (mi'' := 12) (pc'' := 50) (ls'' := [.ref 12, .int (1 : Int32), .ref 4, .int (2 : Int32), .int y0, .int v1]) (st'' := []) (A'' := im_H g1 u o Y) (c'' := 0) (s'' := 0) 2 0 0 hb6 (fun n => rfl) ?_
        refine iv_blk (mi' := 12) (pc' := 60) (ls' := [.ref 12, .int (1 : Int32), .ref 4, .int (2 : Int32), .int y0, .int v1]) (st' := []) (A' := List.set (im_H g1 u o Y) 9 (.inr (0, List.set [.int 0, .ref 13, .ref 14, .ref 15, .ref 16, .int (g1 9 5), .int (g1 9 6), .int (g1 9 7)] 6 (.int ((g1 9 6) ||| (2 : Int32)))))) (c' := 0) (s' := 0) 6 (fun n => rfl) ?_
        rw [im_f9_6]
        cases hc : x15_r1 (im_w g1 9 6 ((g1 9 6) ||| (2 : Int32))) (1 : Int32) (0 : Int32) (1 : Int32) with
        | none => rw [hc] at h; cases h
        | some q =>
          obtain ⟨v4, g4⟩ := q
          rw [hc] at h
          simp only [Option.bind_some] at h
          refine iv_cal (mi' := 12) (pc' := 67) (ls' := [.ref 12, .int (1 : Int32), .ref 4, .int (2 : Int32), .int y0, .int v1]) (rest := []) (A' := im_H (im_w g1 9 6 ((g1 9 6) ||| (2 : Int32))) u o Y) (c' := 0) (s' := 0) (as := [.ref 4, .int (1 : Int32), .int (0 : Int32), .int (1 : Int32)]) (v := none) (A'' := im_H g4 u o Y) 6 15 (fun n => rfl) rfl (x15_r1_ok (g := (im_w g1 9 6 ((g1 9 6) ||| (2 : Int32)))) (a := (1 : Int32)) (b := (0 : Int32)) (c := (1 : Int32)) hc) ?_
          show iv_ev (iv_Xs L xs) 12 70 [.ref 12, .int (1 : Int32), .ref 4, .int (2 : Int32), .int y0, .int v1] [] (im_H g4 u o Y) 0 0 _
          exact iv_blk 1 (fun n => rfl) (x12_r9_1_r1_3_ok (g := g4) (y0 := y0) (y1 := v1) h)
def x12_r9_1_r1_1 (g : im_M) (y0 : Int32) : Option (Int32 × im_M) :=
  bif Op.if_icmp.holds .le (g 1 1) (1 : Int32) then
    (x12_r9_1_r1_2 g y0 (0 : Int32))
  else
    (x12_r9_1_r1_2 g y0 (1 : Int32))
set_option maxRecDepth 100000 in
set_option maxHeartbeats 4000000 in
theorem x12_r9_1_r1_1_ok {L : Nat} {xs : Nat → Int32} {g u mm : im_M} {o : Nat → Int64} {Y : iv_A} {y0 ret : Int32} (h : x12_r9_1_r1_1 g y0 = some (ret, mm)) : iv_ev (iv_Xs L xs) 12 18 [.ref 12, .int (1 : Int32), .ref 4, .int (2 : Int32), .retAddr 0, .retAddr 0] [.int y0] (im_H g u o Y) 0 0 (.inl none, im_H mm u o Y) := by
  unfold x12_r9_1_r1_1 at h
  cases hb2 : Op.if_icmp.holds .le (g 1 1) (1 : Int32) with
  | true =>
    rw [hb2] at h
    simp only [cond_true] at h
    refine iv_brt (mi' := 12) (pc' := 34) (ls' := [.ref 12, .int (1 : Int32), .ref 4, .int (2 : Int32), .int y0, .retAddr 0]) (st' := [.int (1 : Int32), .ref 12]) (A' := im_H g u o Y) (c' := 0) (s' := 0) (mi'' := 12) (pc'' := 30) (ls'' := [.ref 12, .int (1 : Int32), .ref 4, .int (2 : Int32), .int y0, .retAddr 0]) (st'' := [.int (1 : Int32), .ref 12]) (A'' := im_H g u o Y) (c'' := 0) (s'' := 0) 7 0 0 hb2 (fun n => rfl) ?_
    exact iv_blk 1 (fun n => rfl) (x12_r9_1_r1_2_ok (g := g) (y0 := y0) (y1 := (0 : Int32)) h)
  | false =>
    rw [hb2] at h
    simp only [cond_false] at h
    refine iv_brf (mi' := 12) (pc' := 34) (ls' := [.ref 12, .int (1 : Int32), .ref 4, .int (2 : Int32), .int y0, .retAddr 0]) (st' := [.int (1 : Int32), .ref 12]) (A' := im_H g u o Y) (c' := 0) (s' := 0) (mi'' := 12) (pc'' := 30) (ls'' := [.ref 12, .int (1 : Int32), .ref 4, .int (2 : Int32), .int y0, .retAddr 0]) (st'' := [.int (1 : Int32), .ref 12]) (A'' := im_H g u o Y) (c'' := 0) (s'' := 0) 7 0 0 hb2 (fun n => rfl) ?_
    exact iv_blk 2 (fun n => rfl) (x12_r9_1_r1_2_ok (g := g) (y0 := y0) (y1 := (1 : Int32)) h)
def x12_r9_1_r1 (g : im_M) : Option (Int32 × im_M) :=
  bif Op.ifCond.holds .eq ((g 9 6) &&& (2 : Int32)) then
    (x12_r9_1_r1_1 g (0 : Int32))
  else
    (x12_r9_1_r1_1 g (1 : Int32))
set_option maxRecDepth 100000 in
set_option maxHeartbeats 4000000 in
theorem x12_r9_1_r1_ok {L : Nat} {xs : Nat → Int32} {g u mm : im_M} {o : Nat → Int64} {Y : iv_A} {ret : Int32} (h : x12_r9_1_r1 g  = some (ret, mm)) : iv_ev (iv_Xs L xs) 12 0 [.ref 12, .int (1 : Int32), .ref 4, .retAddr 0, .retAddr 0, .retAddr 0] [] (im_H g u o Y) 0 0 (.inl none, im_H mm u o Y) := by
  unfold x12_r9_1_r1 at h
  cases hb1 : Op.ifCond.holds .eq ((g 9 6) &&& (2 : Int32)) with
  | true =>
    rw [hb1] at h
    simp only [cond_true] at h
    refine iv_brt (mi' := 12) (pc' := 17) (ls' := [.ref 12, .int (1 : Int32), .ref 4, .int (2 : Int32), .retAddr 0, .retAddr 0]) (st' := []) (A' := im_H g u o Y) (c' := 0) (s' := 0) (mi'' := 12) (pc'' := 13) (ls'' := [.ref 12, .int (1 : Int32), .ref 4, .int (2 : Int32), .retAddr 0, .retAddr 0]) (st'' := []) (A'' := im_H g u o Y) (c'' := 0) (s'' := 0) 9 0 0 hb1 (fun n => rfl) ?_
    exact iv_blk 1 (fun n => rfl) (x12_r9_1_r1_1_ok (g := g) (y0 := (0 : Int32)) h)
  | false =>
    rw [hb1] at h
    simp only [cond_false] at h
    refine iv_brf (mi' := 12) (pc' := 17) (ls' := [.ref 12, .int (1 : Int32), .ref 4, .int (2 : Int32), .retAddr 0, .retAddr 0]) (st' := []) (A' := im_H g u o Y) (c' := 0) (s' := 0) (mi'' := 12) (pc'' := 13) (ls'' := [.ref 12, .int (1 : Int32), .ref 4, .int (2 : Int32), .retAddr 0, .retAddr 0]) (st'' := []) (A'' := im_H g u o Y) (c'' := 0) (s'' := 0) 9 0 0 hb1 (fun n => rfl) ?_
    exact iv_blk 2 (fun n => rfl) (x12_r9_1_r1_1_ok (g := g) (y0 := (1 : Int32)) h)
def x18_r9_1_r1_2 (g : im_M) (y0 : Int32) : Option (Int32 × im_M) :=
  some (0, g)
set_option maxRecDepth 100000 in
set_option maxHeartbeats 4000000 in
theorem x18_r9_1_r1_2_ok {L : Nat} {xs : Nat → Int32} {g u mm : im_M} {o : Nat → Int64} {Y : iv_A} {y0 ret : Int32} (h : x18_r9_1_r1_2 g y0 = some (ret, mm)) : iv_ev (iv_Xs L xs) 18 124 [.ref 12, .int (1 : Int32), .int y0, .ref 4, .int (2 : Int32)] [] (im_H g u o Y) 0 0 (.inl none, im_H mm u o Y) := by
  unfold x18_r9_1_r1_2 at h
  cases h
  exact iv_ret 1 (fun n => rfl)
def x18_r9_1_r1_1 (g : im_M) (y0 : Int32) (y1 : Int32) : Option (Int32 × im_M) :=
  bif Op.ifCond.holds .ne ((g 9 7) &&& (2 : Int32)) then
    (Option.bind (x23_r9_1 (im_w g 13 1 y1) ) (fun (v2, g2) =>
      bif Op.ifCond.holds .eq v2 then
        (x18_r9_1_r1_2 g2 y0)
      else
        (Option.bind (x15_r1 (im_w g2 9 7 ((g2 9 7) &&& (-3 : Int32))) (4 : Int32) (0 : Int32) (1 : Int32)) (fun (_, g3) =>
          x18_r9_1_r1_2 g3 y0))))
  else
    (bif Op.if_icmp.holds .lt y1 y0 then
      (x18_r9_1_r1_2 (im_w g 13 1 y1) y0)
    else
      (Option.bind (x15_r1 (im_w (im_w g 13 1 y1) 9 7 ((g 9 7) ||| (2 : Int32))) (3 : Int32) (0 : Int32) (1 : Int32)) (fun (_, g4) =>
        x18_r9_1_r1_2 g4 y0)))
set_option maxRecDepth 100000 in
set_option maxHeartbeats 4000000 in
theorem x18_r9_1_r1_1_ok {L : Nat} {xs : Nat → Int32} {g u mm : im_M} {o : Nat → Int64} {Y : iv_A} {y0 y1 ret : Int32} (h : x18_r9_1_r1_1 g y0 y1 = some (ret, mm)) : iv_ev (iv_Xs L xs) 18 48 [.ref 12, .int (1 : Int32), .int y0, .ref 4, .int (2 : Int32)] [.int y1, .int (1 : Int32), .ref 16] (im_H g u o Y) 0 0 (.inl none, im_H mm u o Y) := by
  unfold x18_r9_1_r1_1 at h
  refine iv_blk (mi' := 18) (pc' := 49) (ls' := [.ref 12, .int (1 : Int32), .int y0, .ref 4, .int (2 : Int32)]) (st' := []) (A' := List.set (im_H g u o Y) 13 (.inl (0, 3, .inl (upd (g 13) 1 y1)))) (c' := 0) (s' := 0) 1 (fun n => rfl) ?_
  rw [im_a13]
  cases hb3 : Op.ifCond.holds .ne ((g 9 7) &&& (2 : Int32)) with
  | true =>
    rw [hb3] at h
    simp only [cond_true] at h
    refine iv_brt (mi' := 18) (pc' := 93) (ls' := [.ref 12, .int (1 : Int32), .int y0, .ref 4, .int (2 : Int32)]) (st' := []) (A' := im_H (im_w g 13 1 y1) u o Y) (c' := 0) (s' := 0) (mi'' := 18) (pc'' := 59) (ls'' := [.ref 12, .int (1 : Int32), .int y0, .ref 4, .int (2 : Int32)]) (st'' := []) (A'' := im_H (im_w g 13 1 y1) u o Y) (c'' := 0) (s'' := 0) 5 0 0 hb3 (fun n => rfl) ?_
    cases hc : x23_r9_1 (im_w g 13 1 y1)  with
    | none => rw [hc] at h; cases h
    | some q =>
      obtain ⟨v2, g2⟩ := q
      rw [hc] at h
      simp only [Option.bind_some] at h
      refine iv_cal (mi' := 18) (pc' := 95) (ls' := [.ref 12, .int (1 : Int32), .int y0, .ref 4, .int (2 : Int32)]) (rest := []) (A' := im_H (im_w g 13 1 y1) u o Y) (c' := 0) (s' := 0) (as := [.ref 12, .int (1 : Int32)]) (v := some (.int v2)) (A'' := im_H g2 u o Y) 3 23 (fun n => rfl) rfl (x23_r9_1_ok (g := (im_w g 13 1 y1))  hc) ?_
      show iv_ev (iv_Xs L xs) 18 98 [.ref 12, .int (1 : Int32), .int y0, .ref 4, .int (2 : Int32)] [.int v2] (im_H g2 u o Y) 0 0 _
      cases hb4 : Op.ifCond.holds .eq v2 with
      | true =>
        rw [hb4] at h
        simp only [cond_true] at h
        refine iv_brt (mi' := 18) (pc' := 124) (ls' := [.ref 12, .int (1 : Int32), .int y0, .ref 4, .int (2 : Int32)]) (st' := []) (A' := im_H g2 u o Y) (c' := 0) (s' := 0) (mi'' := 18) (pc'' := 101) (ls'' := [.ref 12, .int (1 : Int32), .int y0, .ref 4, .int (2 : Int32)]) (st'' := []) (A'' := im_H g2 u o Y) (c'' := 0) (s'' := 0) 1 0 0 hb4 (fun n => rfl) ?_
        exact x18_r9_1_r1_2_ok (g := g2) (y0 := y0) h
      | false =>
        rw [hb4] at h
        simp only [cond_false] at h
        refine iv_brf (mi' := 18) (pc' := 124) (ls' := [.ref 12, .int (1 : Int32), .int y0, .ref 4, .int (2 : Int32)]) (st' := []) (A' := im_H g2 u o Y) (c' := 0) (s' := 0) (mi'' := 18) (pc'' := 101) (ls'' := [.ref 12, .int (1 : Int32), .int y0, .ref 4, .int (2 : Int32)]) (st'' := []) (A'' := im_H g2 u o Y) (c'' := 0) (s'' := 0) 1 0 0 hb4 (fun n => rfl) ?_
        refine iv_blk (mi' := 18) (pc' := 114) (ls' := [.ref 12, .int (1 : Int32), .int y0, .ref 4, .int (2 : Int32)]) (st' := []) (A' := List.set (im_H g2 u o Y) 9 (.inr (0, List.set [.int 0, .ref 13, .ref 14, .ref 15, .ref 16, .int (g2 9 5), .int (g2 9 6), .int (g2 9 7)] 7 (.int ((g2 9 7) &&& (-3 : Int32)))))) (c' := 0) (s' := 0) 8 (fun n => rfl) ?_
        rw [im_f9_7]
        cases hc : x15_r1 (im_w g2 9 7 ((g2 9 7) &&& (-3 : Int32))) (4 : Int32) (0 : Int32) (1 : Int32) with
        | none => rw [hc] at h; cases h
        | some q =>
          obtain ⟨v3, g3⟩ := q
          rw [hc] at h
          simp only [Option.bind_some] at h
          refine iv_cal (mi' := 18) (pc' := 121) (ls' := [.ref 12, .int (1 : Int32), .int y0, .ref 4, .int (2 : Int32)]) (rest := []) (A' := im_H (im_w g2 9 7 ((g2 9 7) &&& (-3 : Int32))) u o Y) (c' := 0) (s' := 0) (as := [.ref 4, .int (4 : Int32), .int (0 : Int32), .int (1 : Int32)]) (v := none) (A'' := im_H g3 u o Y) 6 15 (fun n => rfl) rfl (x15_r1_ok (g := (im_w g2 9 7 ((g2 9 7) &&& (-3 : Int32)))) (a := (4 : Int32)) (b := (0 : Int32)) (c := (1 : Int32)) hc) ?_
          show iv_ev (iv_Xs L xs) 18 124 [.ref 12, .int (1 : Int32), .int y0, .ref 4, .int (2 : Int32)] [] (im_H g3 u o Y) 0 0 _
          exact x18_r9_1_r1_2_ok (g := g3) (y0 := y0) h
  | false =>
    rw [hb3] at h
    simp only [cond_false] at h
    refine iv_brf (mi' := 18) (pc' := 93) (ls' := [.ref 12, .int (1 : Int32), .int y0, .ref 4, .int (2 : Int32)]) (st' := []) (A' := im_H (im_w g 13 1 y1) u o Y) (c' := 0) (s' := 0) (mi'' := 18) (pc'' := 59) (ls'' := [.ref 12, .int (1 : Int32), .int y0, .ref 4, .int (2 : Int32)]) (st'' := []) (A'' := im_H (im_w g 13 1 y1) u o Y) (c'' := 0) (s'' := 0) 5 0 0 hb3 (fun n => rfl) ?_
    cases hb5 : Op.if_icmp.holds .lt y1 y0 with
    | true =>
      rw [hb5] at h
      simp only [cond_true] at h
      refine iv_brt (mi' := 18) (pc' := 124) (ls' := [.ref 12, .int (1 : Int32), .int y0, .ref 4, .int (2 : Int32)]) (st' := []) (A' := im_H (im_w g 13 1 y1) u o Y) (c' := 0) (s' := 0) (mi'' := 18) (pc'' := 69) (ls'' := [.ref 12, .int (1 : Int32), .int y0, .ref 4, .int (2 : Int32)]) (st'' := []) (A'' := im_H (im_w g 13 1 y1) u o Y) (c'' := 0) (s'' := 0) 6 0 0 hb5 (fun n => rfl) ?_
      exact x18_r9_1_r1_2_ok (g := (im_w g 13 1 y1)) (y0 := y0) h
    | false =>
      rw [hb5] at h
      simp only [cond_false] at h
      refine iv_brf (mi' := 18) (pc' := 124) (ls' := [.ref 12, .int (1 : Int32), .int y0, .ref 4, .int (2 : Int32)]) (st' := []) (A' := im_H (im_w g 13 1 y1) u o Y) (c' := 0) (s' := 0) (mi'' := 18) (pc'' := 69) (ls'' := [.ref 12, .int (1 : Int32), .int y0, .ref 4, .int (2 : Int32)]) (st'' := []) (A'' := im_H (im_w g 13 1 y1) u o Y) (c'' := 0) (s'' := 0) 6 0 0 hb5 (fun n => rfl) ?_
      refine iv_blk (mi' := 18) (pc' := 80) (ls' := [.ref 12, .int (1 : Int32), .int y0, .ref 4, .int (2 : Int32)]) (st' := []) (A' := List.set (im_H (im_w g 13 1 y1) u o Y) 9 (.inr (0, List.set [.int 0, .ref 13, .ref 14, .ref 15, .ref 16, .int ((im_w g 13 1 y1) 9 5), .int ((im_w g 13 1 y1) 9 6), .int ((im_w g 13 1 y1) 9 7)] 7 (.int ((g 9 7) ||| (2 : Int32)))))) (c' := 0) (s' := 0) 6 (fun n => rfl) ?_
      rw [im_f9_7]
      cases hc : x15_r1 (im_w (im_w g 13 1 y1) 9 7 ((g 9 7) ||| (2 : Int32))) (3 : Int32) (0 : Int32) (1 : Int32) with
      | none => rw [hc] at h; cases h
      | some q =>
        obtain ⟨v4, g4⟩ := q
        rw [hc] at h
        simp only [Option.bind_some] at h
        refine iv_cal (mi' := 18) (pc' := 87) (ls' := [.ref 12, .int (1 : Int32), .int y0, .ref 4, .int (2 : Int32)]) (rest := []) (A' := im_H (im_w (im_w g 13 1 y1) 9 7 ((g 9 7) ||| (2 : Int32))) u o Y) (c' := 0) (s' := 0) (as := [.ref 4, .int (3 : Int32), .int (0 : Int32), .int (1 : Int32)]) (v := none) (A'' := im_H g4 u o Y) 6 15 (fun n => rfl) rfl (x15_r1_ok (g := (im_w (im_w g 13 1 y1) 9 7 ((g 9 7) ||| (2 : Int32)))) (a := (3 : Int32)) (b := (0 : Int32)) (c := (1 : Int32)) hc) ?_
        show iv_ev (iv_Xs L xs) 18 90 [.ref 12, .int (1 : Int32), .int y0, .ref 4, .int (2 : Int32)] [] (im_H g4 u o Y) 0 0 _
        exact iv_blk 1 (fun n => rfl) (x18_r9_1_r1_2_ok (g := g4) (y0 := y0) h)
def x18_r9_1_r1 (g : im_M) (a : Int32) : Option (Int32 × im_M) :=
  bif Op.ifCond.holds .eq ((g 9 6) &&& (2 : Int32)) then
    (Option.bind (x19_r9_1 g ) (fun (v1, g1) =>
      bif Op.ifCond.holds .eq v1 then
        (x18_r9_1_r1_1 g1 a (0 : Int32))
      else
        (x18_r9_1_r1_1 g1 a ((g1 13 1) + (1 : Int32)))))
  else
    (some (0, (im_w g 13 1 (0 : Int32))))
set_option maxRecDepth 100000 in
set_option maxHeartbeats 4000000 in
theorem x18_r9_1_r1_ok {L : Nat} {xs : Nat → Int32} {g u mm : im_M} {o : Nat → Int64} {Y : iv_A} {a ret : Int32} (h : x18_r9_1_r1 g a = some (ret, mm)) : iv_ev (iv_Xs L xs) 18 0 [.ref 12, .int (1 : Int32), .int a, .ref 4, .retAddr 0] [] (im_H g u o Y) 0 0 (.inl none, im_H mm u o Y) := by
  unfold x18_r9_1_r1 at h
  cases hb1 : Op.ifCond.holds .eq ((g 9 6) &&& (2 : Int32)) with
  | true =>
    rw [hb1] at h
    simp only [cond_true] at h
    refine iv_brt (mi' := 18) (pc' := 23) (ls' := [.ref 12, .int (1 : Int32), .int a, .ref 4, .int (2 : Int32)]) (st' := []) (A' := im_H g u o Y) (c' := 0) (s' := 0) (mi'' := 18) (pc'' := 15) (ls'' := [.ref 12, .int (1 : Int32), .int a, .ref 4, .int (2 : Int32)]) (st'' := []) (A'' := im_H g u o Y) (c'' := 0) (s'' := 0) 9 0 0 hb1 (fun n => rfl) ?_
    cases hc : x19_r9_1 g  with
    | none => rw [hc] at h; cases h
    | some q =>
      obtain ⟨v1, g1⟩ := q
      rw [hc] at h
      simp only [Option.bind_some] at h
      refine iv_cal (mi' := 18) (pc' := 30) (ls' := [.ref 12, .int (1 : Int32), .int a, .ref 4, .int (2 : Int32)]) (rest := [.int (1 : Int32), .ref 16]) (A' := im_H g u o Y) (c' := 0) (s' := 0) (as := [.ref 12, .int (1 : Int32)]) (v := some (.int v1)) (A'' := im_H g1 u o Y) 6 19 (fun n => rfl) rfl (x19_r9_1_ok (g := g)  hc) ?_
      show iv_ev (iv_Xs L xs) 18 33 [.ref 12, .int (1 : Int32), .int a, .ref 4, .int (2 : Int32)] [.int v1, .int (1 : Int32), .ref 16] (im_H g1 u o Y) 0 0 _
      cases hb2 : Op.ifCond.holds .eq v1 with
      | true =>
        rw [hb2] at h
        simp only [cond_true] at h
        refine iv_brt (mi' := 18) (pc' := 47) (ls' := [.ref 12, .int (1 : Int32), .int a, .ref 4, .int (2 : Int32)]) (st' := [.int (1 : Int32), .ref 16]) (A' := im_H g1 u o Y) (c' := 0) (s' := 0) (mi'' := 18) (pc'' := 36) (ls'' := [.ref 12, .int (1 : Int32), .int a, .ref 4, .int (2 : Int32)]) (st'' := [.int (1 : Int32), .ref 16]) (A'' := im_H g1 u o Y) (c'' := 0) (s'' := 0) 1 0 0 hb2 (fun n => rfl) ?_
        exact iv_blk 1 (fun n => rfl) (x18_r9_1_r1_1_ok (g := g1) (y0 := a) (y1 := (0 : Int32)) h)
      | false =>
        rw [hb2] at h
        simp only [cond_false] at h
        refine iv_brf (mi' := 18) (pc' := 47) (ls' := [.ref 12, .int (1 : Int32), .int a, .ref 4, .int (2 : Int32)]) (st' := [.int (1 : Int32), .ref 16]) (A' := im_H g1 u o Y) (c' := 0) (s' := 0) (mi'' := 18) (pc'' := 36) (ls'' := [.ref 12, .int (1 : Int32), .int a, .ref 4, .int (2 : Int32)]) (st'' := [.int (1 : Int32), .ref 16]) (A'' := im_H g1 u o Y) (c'' := 0) (s'' := 0) 1 0 0 hb2 (fun n => rfl) ?_
        exact iv_blk 7 (fun n => rfl) (x18_r9_1_r1_1_ok (g := g1) (y0 := a) (y1 := ((g1 13 1) + (1 : Int32))) h)
  | false =>
    rw [hb1] at h
    simp only [cond_false] at h
    refine iv_brf (mi' := 18) (pc' := 23) (ls' := [.ref 12, .int (1 : Int32), .int a, .ref 4, .int (2 : Int32)]) (st' := []) (A' := im_H g u o Y) (c' := 0) (s' := 0) (mi'' := 18) (pc'' := 15) (ls'' := [.ref 12, .int (1 : Int32), .int a, .ref 4, .int (2 : Int32)]) (st'' := []) (A'' := im_H g u o Y) (c'' := 0) (s'' := 0) 9 0 0 hb1 (fun n => rfl) ?_
    refine iv_blk (mi' := 18) (pc' := 22) (ls' := [.ref 12, .int (1 : Int32), .int a, .ref 4, .int (2 : Int32)]) (st' := []) (A' := List.set (im_H g u o Y) 13 (.inl (0, 3, .inl (upd (g 13) 1 (0 : Int32))))) (c' := 0) (s' := 0) 5 (fun n => rfl) ?_
    rw [im_a13]
    cases h
    exact iv_ret 1 (fun n => rfl)
def x50_r9_1 (g : im_M) (a : Int32) : Option (Int32 × im_M) :=
  some (0, (im_w (im_w g 10 1 a) 9 5 ((g 9 5) ||| (2 : Int32))))
set_option maxRecDepth 100000 in
set_option maxHeartbeats 4000000 in
theorem x50_r9_1_ok {L : Nat} {xs : Nat → Int32} {g u mm : im_M} {o : Nat → Int64} {Y : iv_A} {a ret : Int32} (h : x50_r9_1 g a = some (ret, mm)) : iv_ev (iv_Xs L xs) 50 0 [.ref 12, .int (1 : Int32), .int a] [] (im_H g u o Y) 0 0 (.inl none, im_H mm u o Y) := by
  unfold x50_r9_1 at h
  refine iv_blk (mi' := 50) (pc' := 7) (ls' := [.ref 12, .int (1 : Int32), .int a]) (st' := []) (A' := List.set (im_H g u o Y) 10 (.inl (0, 3, .inl (upd (g 10) 1 a)))) (c' := 0) (s' := 0) 5 (fun n => rfl) ?_
  rw [im_a10]
  refine iv_blk (mi' := 50) (pc' := 19) (ls' := [.ref 12, .int (1 : Int32), .int a]) (st' := []) (A' := List.set (im_H (im_w g 10 1 a) u o Y) 9 (.inr (0, List.set [.int 0, .ref 13, .ref 14, .ref 15, .ref 16, .int ((im_w g 10 1 a) 9 5), .int ((im_w g 10 1 a) 9 6), .int ((im_w g 10 1 a) 9 7)] 5 (.int ((g 9 5) ||| (2 : Int32)))))) (c' := 0) (s' := 0) 8 (fun n => rfl) ?_
  rw [im_f9_5]
  cases h
  exact iv_ret 1 (fun n => rfl)
def x20_r9_2 (g : im_M) : Option (Int32 × im_M) :=
  Option.bind (x21 g (g 10 0)) (fun (v1, g1) =>
    some ((v1 - (((if (0 : Int32) < ((2000 : Int32) - (g 10 1)) then ((2000 : Int32) - (g 10 1)) else (0 : Int32)) + (3 : Int32)) / (4 : Int32))), g1))
set_option maxRecDepth 100000 in
set_option maxHeartbeats 4000000 in
theorem x20_r9_2_ok {L : Nat} {xs : Nat → Int32} {g u mm : im_M} {o : Nat → Int64} {Y : iv_A} {ret : Int32} (h : x20_r9_2 g  = some (ret, mm)) : iv_ev (iv_Xs L xs) 20 0 [.ref 12, .int (2 : Int32), .retAddr 0] [] (im_H g u o Y) 0 0 (.inl (some (.int ret)), im_H mm u o Y) := by
  unfold x20_r9_2 at h
  cases hc : x21 g (g 10 0) with
  | none => rw [hc] at h; cases h
  | some q =>
    obtain ⟨v1, g1⟩ := q
    rw [hc] at h
    simp only [Option.bind_some] at h
    refine iv_cal (mi' := 20) (pc' := 38) (ls' := [.ref 12, .int (2 : Int32), .int (if (0 : Int32) < ((2000 : Int32) - (g 10 1)) then ((2000 : Int32) - (g 10 1)) else (0 : Int32))]) (rest := []) (A' := im_H g u o Y) (c' := 0) (s' := 0) (as := [.int (g 10 0)]) (v := some (.int v1)) (A'' := im_H g1 u o Y) 19 21 (fun n => rfl) rfl (x21_ok (g := g) (a := (g 10 0)) hc) ?_
    show iv_ev (iv_Xs L xs) 20 41 [.ref 12, .int (2 : Int32), .int (if (0 : Int32) < ((2000 : Int32) - (g 10 1)) then ((2000 : Int32) - (g 10 1)) else (0 : Int32))] [.int v1] (im_H g1 u o Y) 0 0 _
    cases h
    exact iv_ret 7 (fun n => rfl)
def x19_r9_2_1 (g : im_M) (y0 : Int32) : Option (Int32 × im_M) :=
  bif (y0 == 0 || y0 == 1) then some (y0, g) else none
set_option maxRecDepth 100000 in
set_option maxHeartbeats 4000000 in
theorem x19_r9_2_1_ok {L : Nat} {xs : Nat → Int32} {g u mm : im_M} {o : Nat → Int64} {Y : iv_A} {y0 ret : Int32} (h : x19_r9_2_1 g y0 = some (ret, mm)) : iv_ev (iv_Xs L xs) 19 46 [.ref 12, .int (2 : Int32)] [.int y0] (im_H g u o Y) 0 0 (.inl (some (.int ret)), im_H mm u o Y) := by
  unfold x19_r9_2_1 at h
  cases hb2 : (y0 == 0 || y0 == 1) with
  | false => rw [hb2] at h; cases h
  | true =>
    rw [hb2] at h
    cases h
    exact iv_retc 1 hb2 (fun n => rfl)
def x19_r9_2 (g : im_M) : Option (Int32 × im_M) :=
  Option.bind (x20_r9_2 g ) (fun (v1, g1) =>
    bif Op.if_icmp.holds .le (g 10 2) v1 then
      (x19_r9_2_1 g1 (0 : Int32))
    else
      (x19_r9_2_1 g1 (1 : Int32)))
set_option maxRecDepth 100000 in
set_option maxHeartbeats 4000000 in
theorem x19_r9_2_ok {L : Nat} {xs : Nat → Int32} {g u mm : im_M} {o : Nat → Int64} {Y : iv_A} {ret : Int32} (h : x19_r9_2 g  = some (ret, mm)) : iv_ev (iv_Xs L xs) 19 0 [.ref 12, .int (2 : Int32)] [] (im_H g u o Y) 0 0 (.inl (some (.int ret)), im_H mm u o Y) := by
  unfold x19_r9_2 at h
  cases hc : x20_r9_2 g  with
  | none => rw [hc] at h; cases h
  | some q =>
    obtain ⟨v1, g1⟩ := q
    rw [hc] at h
    simp only [Option.bind_some] at h
    refine iv_cal (mi' := 19) (pc' := 35) (ls' := [.ref 12, .int (2 : Int32)]) (rest := [.int (g 10 2)]) (A' := im_H g u o Y) (c' := 0) (s' := 0) (as := [.ref 12, .int (2 : Int32)]) (v := some (.int v1)) (A'' := im_H g1 u o Y) 10 20 (fun n => rfl) rfl (x20_r9_2_ok (g := g)  hc) ?_
    show iv_ev (iv_Xs L xs) 19 38 [.ref 12, .int (2 : Int32)] [.int v1, .int (g 10 2)] (im_H g1 u o Y) 0 0 _
    cases hb1 : Op.if_icmp.holds .le (g 10 2) v1 with
    | true =>
      rw [hb1] at h
      simp only [cond_true] at h
      refine iv_brt (mi' := 19) (pc' := 45) (ls' := [.ref 12, .int (2 : Int32)]) (st' := []) (A' := im_H g1 u o Y) (c' := 0) (s' := 0) (mi'' := 19) (pc'' := 41) (ls'' := [.ref 12, .int (2 : Int32)]) (st'' := []) (A'' := im_H g1 u o Y) (c'' := 0) (s'' := 0) 1 0 0 hb1 (fun n => rfl) ?_
      exact iv_blk 1 (fun n => rfl) (x19_r9_2_1_ok (g := g1) (y0 := (0 : Int32)) h)
    | false =>
      rw [hb1] at h
      simp only [cond_false] at h
      refine iv_brf (mi' := 19) (pc' := 45) (ls' := [.ref 12, .int (2 : Int32)]) (st' := []) (A' := im_H g1 u o Y) (c' := 0) (s' := 0) (mi'' := 19) (pc'' := 41) (ls'' := [.ref 12, .int (2 : Int32)]) (st'' := []) (A'' := im_H g1 u o Y) (c'' := 0) (s'' := 0) 1 0 0 hb1 (fun n => rfl) ?_
      exact iv_blk 2 (fun n => rfl) (x19_r9_2_1_ok (g := g1) (y0 := (1 : Int32)) h)
def x23_r9_2_1 (g : im_M) (y0 : Int32) : Option (Int32 × im_M) :=
  bif (y0 == 0 || y0 == 1) then some (y0, g) else none
set_option maxRecDepth 100000 in
set_option maxHeartbeats 4000000 in
theorem x23_r9_2_1_ok {L : Nat} {xs : Nat → Int32} {g u mm : im_M} {o : Nat → Int64} {Y : iv_A} {y0 ret : Int32} (h : x23_r9_2_1 g y0 = some (ret, mm)) : iv_ev (iv_Xs L xs) 23 52 [.ref 12, .int (2 : Int32)] [.int y0] (im_H g u o Y) 0 0 (.inl (some (.int ret)), im_H mm u o Y) := by
  unfold x23_r9_2_1 at h
  cases hb2 : (y0 == 0 || y0 == 1) with
  | false => rw [hb2] at h; cases h
  | true =>
    rw [hb2] at h
    cases h
    exact iv_retc 1 hb2 (fun n => rfl)
def x23_r9_2 (g : im_M) : Option (Int32 × im_M) :=
  Option.bind (x20_r9_2 g ) (fun (v1, g1) =>
    bif Op.if_icmp.holds .ge (g 10 2) (v1 - (40 : Int32)) then
      (x23_r9_2_1 g1 (0 : Int32))
    else
      (x23_r9_2_1 g1 (1 : Int32)))
set_option maxRecDepth 100000 in
set_option maxHeartbeats 4000000 in
theorem x23_r9_2_ok {L : Nat} {xs : Nat → Int32} {g u mm : im_M} {o : Nat → Int64} {Y : iv_A} {ret : Int32} (h : x23_r9_2 g  = some (ret, mm)) : iv_ev (iv_Xs L xs) 23 0 [.ref 12, .int (2 : Int32)] [] (im_H g u o Y) 0 0 (.inl (some (.int ret)), im_H mm u o Y) := by
  unfold x23_r9_2 at h
  cases hc : x20_r9_2 g  with
  | none => rw [hc] at h; cases h
  | some q =>
    obtain ⟨v1, g1⟩ := q
    rw [hc] at h
    simp only [Option.bind_some] at h
    refine iv_cal (mi' := 23) (pc' := 38) (ls' := [.ref 12, .int (2 : Int32)]) (rest := [.int (g 10 2)]) (A' := im_H g u o Y) (c' := 0) (s' := 0) (as := [.ref 12, .int (2 : Int32)]) (v := some (.int v1)) (A'' := im_H g1 u o Y) 10 20 (fun n => rfl) rfl (x20_r9_2_ok (g := g)  hc) ?_
    show iv_ev (iv_Xs L xs) 23 41 [.ref 12, .int (2 : Int32)] [.int v1, .int (g 10 2)] (im_H g1 u o Y) 0 0 _
    cases hb1 : Op.if_icmp.holds .ge (g 10 2) (v1 - (40 : Int32)) with
    | true =>
      rw [hb1] at h
      simp only [cond_true] at h
      refine iv_brt (mi' := 23) (pc' := 51) (ls' := [.ref 12, .int (2 : Int32)]) (st' := []) (A' := im_H g1 u o Y) (c' := 0) (s' := 0) (mi'' := 23) (pc'' := 47) (ls'' := [.ref 12, .int (2 : Int32)]) (st'' := []) (A'' := im_H g1 u o Y) (c'' := 0) (s'' := 0) 3 0 0 hb1 (fun n => rfl) ?_
      exact iv_blk 1 (fun n => rfl) (x23_r9_2_1_ok (g := g1) (y0 := (0 : Int32)) h)
    | false =>
      rw [hb1] at h
      simp only [cond_false] at h
      refine iv_brf (mi' := 23) (pc' := 51) (ls' := [.ref 12, .int (2 : Int32)]) (st' := []) (A' := im_H g1 u o Y) (c' := 0) (s' := 0) (mi'' := 23) (pc'' := 47) (ls'' := [.ref 12, .int (2 : Int32)]) (st'' := []) (A'' := im_H g1 u o Y) (c'' := 0) (s'' := 0) 3 0 0 hb1 (fun n => rfl) ?_
      exact iv_blk 2 (fun n => rfl) (x23_r9_2_1_ok (g := g1) (y0 := (1 : Int32)) h)
def x13_r9_2_1 (g : im_M) (y0 : Int32) (y1 : Int32) (y2 : Int32) : Option (Int32 × im_M) :=
  bif (y2 == 0 || y2 == 1) then some (y2, g) else none
set_option maxRecDepth 100000 in
set_option maxHeartbeats 4000000 in
theorem x13_r9_2_1_ok {L : Nat} {xs : Nat → Int32} {g u mm : im_M} {o : Nat → Int64} {Y : iv_A} {y0 y1 y2 ret : Int32} (h : x13_r9_2_1 g y0 y1 y2 = some (ret, mm)) : iv_ev (iv_Xs L xs) 13 57 [.ref 12, .int (2 : Int32), .int y0, .int y1] [.int y2] (im_H g u o Y) 0 0 (.inl (some (.int ret)), im_H mm u o Y) := by
  unfold x13_r9_2_1 at h
  cases hb7 : (y2 == 0 || y2 == 1) with
  | false => rw [hb7] at h; cases h
  | true =>
    rw [hb7] at h
    cases h
    exact iv_retc 1 hb7 (fun n => rfl)
def x13_r9_2 (g : im_M) (a : Int32) : Option (Int32 × im_M) :=
  bif Op.if_icmp.holds .lt (g 10 2) (50 : Int32) then
    (x13_r9_2_1 g a (g 10 2) (1 : Int32))
  else
    (bif Op.if_icmp.holds .gt (g 10 2) (4000 : Int32) then
      (x13_r9_2_1 g a (g 10 2) (1 : Int32))
    else
      (bif Op.ifCond.holds .eq a then
        (bif Op.if_icmp.holds .lt (g 12 2) (13 : Int32) then
          (x13_r9_2_1 g a (g 10 2) (0 : Int32))
        else
          (x13_r9_2_1 g a (g 10 2) (1 : Int32)))
      else
        (bif Op.if_icmp.holds .gt (if 0 ≤ ((g 10 2) - (g 11 2)) then ((g 10 2) - (g 11 2)) else 0 - ((g 10 2) - (g 11 2))) (400 : Int32) then
          (x13_r9_2_1 g a (g 10 2) (1 : Int32))
        else
          (bif Op.if_icmp.holds .lt (g 12 2) (13 : Int32) then
            (x13_r9_2_1 g a (g 10 2) (0 : Int32))
          else
            (x13_r9_2_1 g a (g 10 2) (1 : Int32))))))
set_option maxRecDepth 100000 in
set_option maxHeartbeats 4000000 in
theorem x13_r9_2_ok {L : Nat} {xs : Nat → Int32} {g u mm : im_M} {o : Nat → Int64} {Y : iv_A} {a ret : Int32} (h : x13_r9_2 g a = some (ret, mm)) : iv_ev (iv_Xs L xs) 13 0 [.ref 12, .int (2 : Int32), .int a, .retAddr 0] [] (im_H g u o Y) 0 0 (.inl (some (.int ret)), im_H mm u o Y) := by
  unfold x13_r9_2 at h
  cases hb1 : Op.if_icmp.holds .lt (g 10 2) (50 : Int32) with
  | true =>
    rw [hb1] at h
    simp only [cond_true] at h
    refine iv_brt (mi' := 13) (pc' := 52) (ls' := [.ref 12, .int (2 : Int32), .int a, .int (g 10 2)]) (st' := []) (A' := im_H g u o Y) (c' := 0) (s' := 0) (mi'' := 13) (pc'' := 13) (ls'' := [.ref 12, .int (2 : Int32), .int a, .int (g 10 2)]) (st'' := []) (A'' := im_H g u o Y) (c'' := 0) (s'' := 0) 8 0 0 hb1 (fun n => rfl) ?_
    exact iv_blk 2 (fun n => rfl) (x13_r9_2_1_ok (g := g) (y0 := a) (y1 := (g 10 2)) (y2 := (1 : Int32)) h)
  | false =>
    rw [hb1] at h
    simp only [cond_false] at h
    refine iv_brf (mi' := 13) (pc' := 52) (ls' := [.ref 12, .int (2 : Int32), .int a, .int (g 10 2)]) (st' := []) (A' := im_H g u o Y) (c' := 0) (s' := 0) (mi'' := 13) (pc'' := 13) (ls'' := [.ref 12, .int (2 : Int32), .int a, .int (g 10 2)]) (st'' := []) (A'' := im_H g u o Y) (c'' := 0) (s'' := 0) 8 0 0 hb1 (fun n => rfl) ?_
    cases hb2 : Op.if_icmp.holds .gt (g 10 2) (4000 : Int32) with
    | true =>
      rw [hb2] at h
      simp only [cond_true] at h
      refine iv_brt (mi' := 13) (pc' := 52) (ls' := [.ref 12, .int (2 : Int32), .int a, .int (g 10 2)]) (st' := []) (A' := im_H g u o Y) (c' := 0) (s' := 0) (mi'' := 13) (pc'' := 20) (ls'' := [.ref 12, .int (2 : Int32), .int a, .int (g 10 2)]) (st'' := []) (A'' := im_H g u o Y) (c'' := 0) (s'' := 0) 3 0 0 hb2 (fun n => rfl) ?_
      exact iv_blk 2 (fun n => rfl) (x13_r9_2_1_ok (g := g) (y0 := a) (y1 := (g 10 2)) (y2 := (1 : Int32)) h)
    | false =>
      rw [hb2] at h
      simp only [cond_false] at h
      refine iv_brf (mi' := 13) (pc' := 52) (ls' := [.ref 12, .int (2 : Int32), .int a, .int (g 10 2)]) (st' := []) (A' := im_H g u o Y) (c' := 0) (s' := 0) (mi'' := 13) (pc'' := 20) (ls'' := [.ref 12, .int (2 : Int32), .int a, .int (g 10 2)]) (st'' := []) (A'' := im_H g u o Y) (c'' := 0) (s'' := 0) 3 0 0 hb2 (fun n => rfl) ?_
      cases hb3 : Op.ifCond.holds .eq a with
      | true =>
        rw [hb3] at h
        simp only [cond_true] at h
        refine iv_brt (mi' := 13) (pc' := 41) (ls' := [.ref 12, .int (2 : Int32), .int a, .int (g 10 2)]) (st' := []) (A' := im_H g u o Y) (c' := 0) (s' := 0) (mi'' := 13) (pc'' := 24) (ls'' := [.ref 12, .int (2 : Int32), .int a, .int (g 10 2)]) (st'' := []) (A'' := im_H g u o Y) (c'' := 0) (s'' := 0) 2 0 0 hb3 (fun n => rfl) ?_
        cases hb4 : Op.if_icmp.holds .lt (g 12 2) (13 : Int32) with
        | true =>
          rw [hb4] at h
          simp only [cond_true] at h
          refine iv_brt (mi' := 13) (pc' := 56) (ls' := [.ref 12, .int (2 : Int32), .int a, .int (g 10 2)]) (st' := []) (A' := im_H g u o Y) (c' := 0) (s' := 0) (mi'' := 13) (pc'' := 52) (ls'' := [.ref 12, .int (2 : Int32), .int a, .int (g 10 2)]) (st'' := []) (A'' := im_H g u o Y) (c'' := 0) (s'' := 0) 6 0 0 hb4 (fun n => rfl) ?_
          exact iv_blk 1 (fun n => rfl) (x13_r9_2_1_ok (g := g) (y0 := a) (y1 := (g 10 2)) (y2 := (0 : Int32)) h)
        | false =>
          rw [hb4] at h
          simp only [cond_false] at h
          refine iv_brf (mi' := 13) (pc' := 56) (ls' := [.ref 12, .int (2 : Int32), .int a, .int (g 10 2)]) (st' := []) (A' := im_H g u o Y) (c' := 0) (s' := 0) (mi'' := 13) (pc'' := 52) (ls'' := [.ref 12, .int (2 : Int32), .int a, .int (g 10 2)]) (st'' := []) (A'' := im_H g u o Y) (c'' := 0) (s'' := 0) 6 0 0 hb4 (fun n => rfl) ?_
          exact iv_blk 2 (fun n => rfl) (x13_r9_2_1_ok (g := g) (y0 := a) (y1 := (g 10 2)) (y2 := (1 : Int32)) h)
      | false =>
        rw [hb3] at h
        simp only [cond_false] at h
        refine iv_brf (mi' := 13) (pc' := 41) (ls' := [.ref 12, .int (2 : Int32), .int a, .int (g 10 2)]) (st' := []) (A' := im_H g u o Y) (c' := 0) (s' := 0) (mi'' := 13) (pc'' := 24) (ls'' := [.ref 12, .int (2 : Int32), .int a, .int (g 10 2)]) (st'' := []) (A'' := im_H g u o Y) (c'' := 0) (s'' := 0) 2 0 0 hb3 (fun n => rfl) ?_
        cases hb5 : Op.if_icmp.holds .gt (if 0 ≤ ((g 10 2) - (g 11 2)) then ((g 10 2) - (g 11 2)) else 0 - ((g 10 2) - (g 11 2))) (400 : Int32) with
        | true =>
          rw [hb5] at h
          simp only [cond_true] at h
          refine iv_brt (mi' := 13) (pc' := 52) (ls' := [.ref 12, .int (2 : Int32), .int a, .int (g 10 2)]) (st' := []) (A' := im_H g u o Y) (c' := 0) (s' := 0) (mi'' := 13) (pc'' := 41) (ls'' := [.ref 12, .int (2 : Int32), .int a, .int (g 10 2)]) (st'' := []) (A'' := im_H g u o Y) (c'' := 0) (s'' := 0) 9 0 0 hb5 (fun n => rfl) ?_
          exact iv_blk 2 (fun n => rfl) (x13_r9_2_1_ok (g := g) (y0 := a) (y1 := (g 10 2)) (y2 := (1 : Int32)) h)
        | false =>
          rw [hb5] at h
          simp only [cond_false] at h
          refine iv_brf (mi' := 13) (pc' := 52) (ls' := [.ref 12, .int (2 : Int32), .int a, .int (g 10 2)]) (st' := []) (A' := im_H g u o Y) (c' := 0) (s' := 0) (mi'' := 13) (pc'' := 41) (ls'' := [.ref 12, .int (2 : Int32), .int a, .int (g 10 2)]) (st'' := []) (A'' := im_H g u o Y) (c'' := 0) (s'' := 0) 9 0 0 hb5 (fun n => rfl) ?_
          cases hb6 : Op.if_icmp.holds .lt (g 12 2) (13 : Int32) with
          | true =>
            rw [hb6] at h
            simp only [cond_true] at h
            refine iv_brt (mi' := 13) (pc' := 56) (ls' := [.ref 12, .int (2 : Int32), .int a, .int (g 10 2)]) (st' := []) (A' := im_H g u o Y) (c' := 0) (s' := 0) (mi'' := 13) (pc'' := 52) (ls'' := [.ref 12, .int (2 : Int32), .int a, .int (g 10 2)]) (st'' := []) (A'' := im_H g u o Y) (c'' := 0) (s'' := 0) 6 0 0 hb6 (fun n => rfl) ?_
            exact iv_blk 1 (fun n => rfl) (x13_r9_2_1_ok (g := g) (y0 := a) (y1 := (g 10 2)) (y2 := (0 : Int32)) h)
          | false =>
            rw [hb6] at h
            simp only [cond_false] at h
            refine iv_brf (mi' := 13) (pc' := 56) (ls' := [.ref 12, .int (2 : Int32), .int a, .int (g 10 2)]) (st' := []) (A' := im_H g u o Y) (c' := 0) (s' := 0) (mi'' := 13) (pc'' := 52) (ls'' := [.ref 12, .int (2 : Int32), .int a, .int (g 10 2)]) (st'' := []) (A'' := im_H g u o Y) (c'' := 0) (s'' := 0) 6 0 0 hb6 (fun n => rfl) ?_
            exact iv_blk 2 (fun n => rfl) (x13_r9_2_1_ok (g := g) (y0 := a) (y1 := (g 10 2)) (y2 := (1 : Int32)) h)
def x12_r9_2_r1_3 (g : im_M) (y0 : Int32) (y1 : Int32) : Option (Int32 × im_M) :=
  some (0, g)
set_option maxRecDepth 100000 in
set_option maxHeartbeats 4000000 in
theorem x12_r9_2_r1_3_ok {L : Nat} {xs : Nat → Int32} {g u mm : im_M} {o : Nat → Int64} {Y : iv_A} {y0 y1 ret : Int32} (h : x12_r9_2_r1_3 g y0 y1 = some (ret, mm)) : iv_ev (iv_Xs L xs) 12 105 [.ref 12, .int (2 : Int32), .ref 4, .int (4 : Int32), .int y0, .int y1] [] (im_H g u o Y) 0 0 (.inl none, im_H mm u o Y) := by
  unfold x12_r9_2_r1_3 at h
  cases h
  exact iv_ret 1 (fun n => rfl)
def x12_r9_2_r1_2 (g : im_M) (y0 : Int32) (y1 : Int32) : Option (Int32 × im_M) :=
  Option.bind (x13_r9_2 g y1) (fun (v1, g1) =>
    bif Op.ifCond.holds .eq v1 then
      (bif Op.ifCond.holds .ne v1 then
        (x12_r9_2_r1_3 g1 y0 v1)
      else
        (bif Op.ifCond.holds .eq y0 then
          (x12_r9_2_r1_3 g1 y0 v1)
        else
          (Option.bind (x15_r1 (im_w g1 9 6 ((g1 9 6) &&& (-5 : Int32))) (2 : Int32) (0 : Int32) (2 : Int32)) (fun (_, g2) =>
            x12_r9_2_r1_3 g2 y0 v1))))
    else
      (bif Op.ifCond.holds .ne y0 then
        (bif Op.ifCond.holds .ne v1 then
          (x12_r9_2_r1_3 g1 y0 v1)
        else
          (bif Op.ifCond.holds .eq y0 then
            (x12_r9_2_r1_3 g1 y0 v1)
          else
            (Option.bind (x15_r1 (im_w g1 9 6 ((g1 9 6) &&& (-5 : Int32))) (2 : Int32) (0 : Int32) (2 : Int32)) (fun (_, g3) =>
              x12_r9_2_r1_3 g3 y0 v1))))
      else
        (Option.bind (x15_r1 (im_w g1 9 6 ((g1 9 6) ||| (4 : Int32))) (1 : Int32) (0 : Int32) (2 : Int32)) (fun (_, g4) =>
          x12_r9_2_r1_3 g4 y0 v1))))
set_option maxRecDepth 100000 in
set_option maxHeartbeats 4000000 in
theorem x12_r9_2_r1_2_ok {L : Nat} {xs : Nat → Int32} {g u mm : im_M} {o : Nat → Int64} {Y : iv_A} {y0 y1 ret : Int32} (h : x12_r9_2_r1_2 g y0 y1 = some (ret, mm)) : iv_ev (iv_Xs L xs) 12 35 [.ref 12, .int (2 : Int32), .ref 4, .int (4 : Int32), .int y0, .retAddr 0] [.int y1, .int (2 : Int32), .ref 12] (im_H g u o Y) 0 0 (.inl none, im_H mm u o Y) := by
  unfold x12_r9_2_r1_2 at h
  cases hc : x13_r9_2 g y1 with
  | none => rw [hc] at h; cases h
  | some q =>
    obtain ⟨v1, g1⟩ := q
    rw [hc] at h
    simp only [Option.bind_some] at h
    refine iv_cal (mi' := 12) (pc' := 35) (ls' := [.ref 12, .int (2 : Int32), .ref 4, .int (4 : Int32), .int y0, .retAddr 0]) (rest := []) (A' := im_H g u o Y) (c' := 0) (s' := 0) (as := [.ref 12, .int (2 : Int32), .int y1]) (v := some (.int v1)) (A'' := im_H g1 u o Y) 1 13 (fun n => rfl) rfl (x13_r9_2_ok (g := g) (a := y1) hc) ?_
    show iv_ev (iv_Xs L xs) 12 38 [.ref 12, .int (2 : Int32), .ref 4, .int (4 : Int32), .int y0, .retAddr 0] [.int v1] (im_H g1 u o Y) 0 0 _
    cases hb3 : Op.ifCond.holds .eq v1 with
    | true =>
      rw [hb3] at h
      simp only [cond_true] at h
      refine iv_brt (mi' := 12) (pc' := 73) (ls' := [.ref 12, .int (2 : Int32), .ref 4, .int (4 : Int32), .int y0, .int v1]) (st' := []) (A' := im_H g1 u o Y) (c' := 0) (s' := 0) (mi'' := 12) (pc'' := 45) (ls'' := [.ref 12, .int (2 : Int32), .ref 4, .int (4 : Int32), .int y0, .int v1]) (st'' := []) (A'' := im_H g1 u o Y) (c'' := 0) (s'' := 0) 3 0 0 hb3 (fun n => rfl) ?_
      cases hb4 : Op.ifCond.holds .ne v1 with
      | true =>
        rw [hb4] at h
        simp only [cond_true] at h
        refine iv_brt (mi' := 12) (pc' := 105) (ls' := [.ref 12, .int (2 : Int32), .ref 4, .int (4 : Int32), .int y0, .int v1]) (st' := []) (A' := im_H g1 u o Y) (c' := 0) (s' := 0) (mi'' := 12) (pc'' := 78) (ls'' := [.ref 12, .int (2 : Int32), .ref 4, .int (4 : Int32), .int y0, .int v1]) (st'' := []) (A'' := im_H g1 u o Y) (c'' := 0) (s'' := 0) 2 0 0 hb4 (fun n => rfl) ?_
        exact x12_r9_2_r1_3_ok (g := g1) (y0 := y0) (y1 := v1) h
      | false =>
        rw [hb4] at h
        simp only [cond_false] at h
        refine iv_brf (mi' := 12) (pc' := 105) (ls' := [.ref 12, .int (2 : Int32), .ref 4, .int (4 : Int32), .int y0, .int v1]) (st' := []) (A' := im_H g1 u o Y) (c' := 0) (s' := 0) (mi'' := 12) (pc'' := 78) (ls'' := [.ref 12, .int (2 : Int32), .ref 4, .int (4 : Int32), .int y0, .int v1]) (st'' := []) (A'' := im_H g1 u o Y) (c'' := 0) (s'' := 0) 2 0 0 hb4 (fun n => rfl) ?_
        cases hb5 : Op.ifCond.holds .eq y0 with
        | true =>
          rw [hb5] at h
          simp only [cond_true] at h
          refine iv_brt (mi' := 12) (pc' := 105) (ls' := [.ref 12, .int (2 : Int32), .ref 4, .int (4 : Int32), .int y0, .int v1]) (st' := []) (A' := im_H g1 u o Y) (c' := 0) (s' := 0) (mi'' := 12) (pc'' := 83) (ls'' := [.ref 12, .int (2 : Int32), .ref 4, .int (4 : Int32), .int y0, .int v1]) (st'' := []) (A'' := im_H g1 u o Y) (c'' := 0) (s'' := 0) 2 0 0 hb5 (fun n => rfl) ?_
          exact x12_r9_2_r1_3_ok (g := g1) (y0 := y0) (y1 := v1) h
        | false =>
          rw [hb5] at h
          simp only [cond_false] at h
          refine iv_brf (mi' := 12) (pc' := 105) (ls' := [.ref 12, .int (2 : Int32), .ref 4, .int (4 : Int32), .int y0, .int v1]) (st' := []) (A' := im_H g1 u o Y) (c' := 0) (s' := 0) (mi'' := 12) (pc'' := 83) (ls'' := [.ref 12, .int (2 : Int32), .ref 4, .int (4 : Int32), .int y0, .int v1]) (st'' := []) (A'' := im_H g1 u o Y) (c'' := 0) (s'' := 0) 2 0 0 hb5 (fun n => rfl) ?_
          refine iv_blk (mi' := 12) (pc' := 95) (ls' := [.ref 12, .int (2 : Int32), .ref 4, .int (4 : Int32), .int y0, .int v1]) (st' := []) (A' := List.set (im_H g1 u o Y) 9 (.inr (0, List.set [.int 0, .ref 13, .ref 14, .ref 15, .ref 16, .int (g1 9 5), .int (g1 9 6), .int (g1 9 7)] 6 (.int ((g1 9 6) &&& (-5 : Int32)))))) (c' := 0) (s' := 0) 8 (fun n => rfl) ?_
          rw [im_f9_6]
          cases hc : x15_r1 (im_w g1 9 6 ((g1 9 6) &&& (-5 : Int32))) (2 : Int32) (0 : Int32) (2 : Int32) with
          | none => rw [hc] at h; cases h
          | some q =>
            obtain ⟨v2, g2⟩ := q
            rw [hc] at h
            simp only [Option.bind_some] at h
            refine iv_cal (mi' := 12) (pc' := 102) (ls' := [.ref 12, .int (2 : Int32), .ref 4, .int (4 : Int32), .int y0, .int v1]) (rest := []) (A' := im_H (im_w g1 9 6 ((g1 9 6) &&& (-5 : Int32))) u o Y) (c' := 0) (s' := 0) (as := [.ref 4, .int (2 : Int32), .int (0 : Int32), .int (2 : Int32)]) (v := none) (A'' := im_H g2 u o Y) 6 15 (fun n => rfl) rfl (x15_r1_ok (g := (im_w g1 9 6 ((g1 9 6) &&& (-5 : Int32)))) (a := (2 : Int32)) (b := (0 : Int32)) (c := (2 : Int32)) hc) ?_
            show iv_ev (iv_Xs L xs) 12 105 [.ref 12, .int (2 : Int32), .ref 4, .int (4 : Int32), .int y0, .int v1] [] (im_H g2 u o Y) 0 0 _
            exact x12_r9_2_r1_3_ok (g := g2) (y0 := y0) (y1 := v1) h
    | false =>
      rw [hb3] at h
      simp only [cond_false] at h
      refine iv_brf (mi' := 12) (pc' := 73) (ls' := [.ref 12, .int (2 : Int32), .ref 4, .int (4 : Int32), .int y0, .int v1]) (st' := []) (A' := im_H g1 u o Y) (c' := 0) (s' := 0) (mi'' := 12) (pc'' := 45) (ls'' := [.ref 12, .int (2 : Int32), .ref 4, .int (4 : Int32), .int y0, .int v1]) (st'' := []) (A'' := im_H g1 u o Y) (c'' := 0) (s'' := 0) 3 0 0 hb3 (fun n => rfl) ?_
      cases hb6 : Op.ifCond.holds .ne y0 with
      | true =>
        rw [hb6] at h
        simp only [cond_true] at h
        refine iv_brt (mi' := 12) (pc' := 73) (ls' := [.ref 12, .int (2 : Int32), .ref 4, .int (4 : Int32), .int y0, .int v1]) (st' := []) (A' := im_H g1 u o Y) (c' := 0) (s' := 0) (mi'' := 12) (pc'' := 50) (ls'' := [.ref 12, .int (2 : Int32), .ref 4, .int (4 : Int32), .int y0, .int v1]) (st'' := []) (A'' := im_H g1 u o Y) (c'' := 0) (s'' := 0) 2 0 0 hb6 (fun n => rfl) ?_
        cases hb7 : Op.ifCond.holds .ne v1 with
        | true =>
          rw [hb7] at h
          simp only [cond_true] at h
          refine iv_brt (mi' := 12) (pc' := 105) (ls' := [.ref 12, .int (2 : Int32), .ref 4, .int (4 : Int32), .int y0, .int v1]) (st' := []) (A' := im_H g1 u o Y) (c' := 0) (s' := 0) (mi'' := 12) (pc'' := 78) (ls'' := [.ref 12, .int (2 : Int32), .ref 4, .int (4 : Int32), .int y0, .int v1]) (st'' := []) (A'' := im_H g1 u o Y) (c'' := 0) (s'' := 0) 2 0 0 hb7 (fun n => rfl) ?_
          exact x12_r9_2_r1_3_ok (g := g1) (y0 := y0) (y1 := v1) h
        | false =>
          rw [hb7] at h
          simp only [cond_false] at h
          refine iv_brf (mi' := 12) (pc' := 105) (ls' := [.ref 12, .int (2 : Int32), .ref 4, .int (4 : Int32), .int y0, .int v1]) (st' := []) (A' := im_H g1 u o Y) (c' := 0) (s' := 0) (mi'' := 12) (pc'' := 78) (ls'' := [.ref 12, .int (2 : Int32), .ref 4, .int (4 : Int32), .int y0, .int v1]) (st'' := []) (A'' := im_H g1 u o Y) (c'' := 0) (s'' := 0) 2 0 0 hb7 (fun n => rfl) ?_
          cases hb8 : Op.ifCond.holds .eq y0 with
          | true =>
            rw [hb8] at h
            simp only [cond_true] at h
            refine iv_brt (mi' := 12) (pc' := 105) (ls' := [.ref 12, .int (2 : Int32), .ref 4, .int (4 : Int32), .int y0, .int v1]) (st' := []) (A' := im_H g1 u o Y) (c' := 0) (s' := 0) (mi'' := 12) (pc'' := 83) (ls'' := [.ref 12, .int (2 : Int32), .ref 4, .int (4 : Int32), .int y0, .int v1]) (st'' := []) (A'' := im_H g1 u o Y) (c'' := 0) (s'' := 0) 2 0 0 hb8 (fun n => rfl) ?_
            exact x12_r9_2_r1_3_ok (g := g1) (y0 := y0) (y1 := v1) h
          | false =>
            rw [hb8] at h
            simp only [cond_false] at h
            refine iv_brf (mi' := 12) (pc' := 105) (ls' := [.ref 12, .int (2 : Int32), .ref 4, .int (4 : Int32), .int y0, .int v1]) (st' := []) (A' := im_H g1 u o Y) (c' := 0) (s' := 0) (mi'' := 12) (pc'' := 83) (ls'' := [.ref 12, .int (2 : Int32), .ref 4, .int (4 : Int32), .int y0, .int v1]) (st'' := []) (A'' := im_H g1 u o Y) (c'' := 0) (s'' := 0) 2 0 0 hb8 (fun n => rfl) ?_
            refine iv_blk (mi' := 12) (pc' := 95) (ls' := [.ref 12, .int (2 : Int32), .ref 4, .int (4 : Int32), .int y0, .int v1]) (st' := []) (A' := List.set (im_H g1 u o Y) 9 (.inr (0, List.set [.int 0, .ref 13, .ref 14, .ref 15, .ref 16, .int (g1 9 5), .int (g1 9 6), .int (g1 9 7)] 6 (.int ((g1 9 6) &&& (-5 : Int32)))))) (c' := 0) (s' := 0) 8 (fun n => rfl) ?_
            rw [im_f9_6]
            cases hc : x15_r1 (im_w g1 9 6 ((g1 9 6) &&& (-5 : Int32))) (2 : Int32) (0 : Int32) (2 : Int32) with
            | none => rw [hc] at h; cases h
            | some q =>
              obtain ⟨v3, g3⟩ := q
              rw [hc] at h
              simp only [Option.bind_some] at h
              refine iv_cal (mi' := 12) (pc' := 102) (ls' := [.ref 12, .int (2 : Int32), .ref 4, .int (4 : Int32), .int y0, .int v1]) (rest := []) (A' := im_H (im_w g1 9 6 ((g1 9 6) &&& (-5 : Int32))) u o Y) (c' := 0) (s' := 0) (as := [.ref 4, .int (2 : Int32), .int (0 : Int32), .int (2 : Int32)]) (v := none) (A'' := im_H g3 u o Y) 6 15 (fun n => rfl) rfl (x15_r1_ok (g := (im_w g1 9 6 ((g1 9 6) &&& (-5 : Int32)))) (a := (2 : Int32)) (b := (0 : Int32)) (c := (2 : Int32)) hc) ?_
              show iv_ev (iv_Xs L xs) 12 105 [.ref 12, .int (2 : Int32), .ref 4, .int (4 : Int32), .int y0, .int v1] [] (im_H g3 u o Y) 0 0 _
              exact x12_r9_2_r1_3_ok (g := g3) (y0 := y0) (y1 := v1) h
      | false =>
        rw [hb6] at h
        simp only [cond_false] at h
        refine iv_brf (mi' := 12) (pc' := 73) (ls' := [.ref 12, .int (2 : Int32), .ref 4, .int (4 : Int32), .int y0, .int v1]) (st' := []) (A' := im_H g1 u o Y) (c' := 0) (s' := 0) (mi'' := 12) (pc'' := 50) (ls'' := [.ref 12, .int (2 : Int32), .ref 4, .int (4 : Int32), .int y0, .int v1]) (st'' := []) (A'' := im_H g1 u o Y) (c'' := 0) (s'' := 0) 2 0 0 hb6 (fun n => rfl) ?_
        refine iv_blk (mi' := 12) (pc' := 60) (ls' := [.ref 12, .int (2 : Int32), .ref 4, .int (4 : Int32), .int y0, .int v1]) (st' := []) (A' := List.set (im_H g1 u o Y) 9 (.inr (0, List.set [.int 0, .ref 13, .ref 14, .ref 15, .ref 16, .int (g1 9 5), .int (g1 9 6), .int (g1 9 7)] 6 (.int ((g1 9 6) ||| (4 : Int32)))))) (c' := 0) (s' := 0) 6 (fun n => rfl) ?_
        rw [im_f9_6]
        cases hc : x15_r1 (im_w g1 9 6 ((g1 9 6) ||| (4 : Int32))) (1 : Int32) (0 : Int32) (2 : Int32) with
        | none => rw [hc] at h; cases h
        | some q =>
          obtain ⟨v4, g4⟩ := q
          rw [hc] at h
          simp only [Option.bind_some] at h
          refine iv_cal (mi' := 12) (pc' := 67) (ls' := [.ref 12, .int (2 : Int32), .ref 4, .int (4 : Int32), .int y0, .int v1]) (rest := []) (A' := im_H (im_w g1 9 6 ((g1 9 6) ||| (4 : Int32))) u o Y) (c' := 0) (s' := 0) (as := [.ref 4, .int (1 : Int32), .int (0 : Int32), .int (2 : Int32)]) (v := none) (A'' := im_H g4 u o Y) 6 15 (fun n => rfl) rfl (x15_r1_ok (g := (im_w g1 9 6 ((g1 9 6) ||| (4 : Int32)))) (a := (1 : Int32)) (b := (0 : Int32)) (c := (2 : Int32)) hc) ?_
          show iv_ev (iv_Xs L xs) 12 70 [.ref 12, .int (2 : Int32), .ref 4, .int (4 : Int32), .int y0, .int v1] [] (im_H g4 u o Y) 0 0 _
          exact iv_blk 1 (fun n => rfl) (x12_r9_2_r1_3_ok (g := g4) (y0 := y0) (y1 := v1) h)
def x12_r9_2_r1_1 (g : im_M) (y0 : Int32) : Option (Int32 × im_M) :=
  bif Op.if_icmp.holds .le (g 1 1) (1 : Int32) then
    (x12_r9_2_r1_2 g y0 (0 : Int32))
  else
    (x12_r9_2_r1_2 g y0 (1 : Int32))
set_option maxRecDepth 100000 in
set_option maxHeartbeats 4000000 in
theorem x12_r9_2_r1_1_ok {L : Nat} {xs : Nat → Int32} {g u mm : im_M} {o : Nat → Int64} {Y : iv_A} {y0 ret : Int32} (h : x12_r9_2_r1_1 g y0 = some (ret, mm)) : iv_ev (iv_Xs L xs) 12 18 [.ref 12, .int (2 : Int32), .ref 4, .int (4 : Int32), .retAddr 0, .retAddr 0] [.int y0] (im_H g u o Y) 0 0 (.inl none, im_H mm u o Y) := by
  unfold x12_r9_2_r1_1 at h
  cases hb2 : Op.if_icmp.holds .le (g 1 1) (1 : Int32) with
  | true =>
    rw [hb2] at h
    simp only [cond_true] at h
    refine iv_brt (mi' := 12) (pc' := 34) (ls' := [.ref 12, .int (2 : Int32), .ref 4, .int (4 : Int32), .int y0, .retAddr 0]) (st' := [.int (2 : Int32), .ref 12]) (A' := im_H g u o Y) (c' := 0) (s' := 0) (mi'' := 12) (pc'' := 30) (ls'' := [.ref 12, .int (2 : Int32), .ref 4, .int (4 : Int32), .int y0, .retAddr 0]) (st'' := [.int (2 : Int32), .ref 12]) (A'' := im_H g u o Y) (c'' := 0) (s'' := 0) 7 0 0 hb2 (fun n => rfl) ?_
    exact iv_blk 1 (fun n => rfl) (x12_r9_2_r1_2_ok (g := g) (y0 := y0) (y1 := (0 : Int32)) h)
  | false =>
    rw [hb2] at h
    simp only [cond_false] at h
    refine iv_brf (mi' := 12) (pc' := 34) (ls' := [.ref 12, .int (2 : Int32), .ref 4, .int (4 : Int32), .int y0, .retAddr 0]) (st' := [.int (2 : Int32), .ref 12]) (A' := im_H g u o Y) (c' := 0) (s' := 0) (mi'' := 12) (pc'' := 30) (ls'' := [.ref 12, .int (2 : Int32), .ref 4, .int (4 : Int32), .int y0, .retAddr 0]) (st'' := [.int (2 : Int32), .ref 12]) (A'' := im_H g u o Y) (c'' := 0) (s'' := 0) 7 0 0 hb2 (fun n => rfl) ?_
    exact iv_blk 2 (fun n => rfl) (x12_r9_2_r1_2_ok (g := g) (y0 := y0) (y1 := (1 : Int32)) h)
def x12_r9_2_r1 (g : im_M) : Option (Int32 × im_M) :=
  bif Op.ifCond.holds .eq ((g 9 6) &&& (4 : Int32)) then
    (x12_r9_2_r1_1 g (0 : Int32))
  else
    (x12_r9_2_r1_1 g (1 : Int32))
set_option maxRecDepth 100000 in
set_option maxHeartbeats 4000000 in
theorem x12_r9_2_r1_ok {L : Nat} {xs : Nat → Int32} {g u mm : im_M} {o : Nat → Int64} {Y : iv_A} {ret : Int32} (h : x12_r9_2_r1 g  = some (ret, mm)) : iv_ev (iv_Xs L xs) 12 0 [.ref 12, .int (2 : Int32), .ref 4, .retAddr 0, .retAddr 0, .retAddr 0] [] (im_H g u o Y) 0 0 (.inl none, im_H mm u o Y) := by
  unfold x12_r9_2_r1 at h
  cases hb1 : Op.ifCond.holds .eq ((g 9 6) &&& (4 : Int32)) with
  | true =>
    rw [hb1] at h
    simp only [cond_true] at h
    refine iv_brt (mi' := 12) (pc' := 17) (ls' := [.ref 12, .int (2 : Int32), .ref 4, .int (4 : Int32), .retAddr 0, .retAddr 0]) (st' := []) (A' := im_H g u o Y) (c' := 0) (s' := 0) (mi'' := 12) (pc'' := 13) (ls'' := [.ref 12, .int (2 : Int32), .ref 4, .int (4 : Int32), .retAddr 0, .retAddr 0]) (st'' := []) (A'' := im_H g u o Y) (c'' := 0) (s'' := 0) 9 0 0 hb1 (fun n => rfl) ?_
    exact iv_blk 1 (fun n => rfl) (x12_r9_2_r1_1_ok (g := g) (y0 := (0 : Int32)) h)
  | false =>
    rw [hb1] at h
    simp only [cond_false] at h
    refine iv_brf (mi' := 12) (pc' := 17) (ls' := [.ref 12, .int (2 : Int32), .ref 4, .int (4 : Int32), .retAddr 0, .retAddr 0]) (st' := []) (A' := im_H g u o Y) (c' := 0) (s' := 0) (mi'' := 12) (pc'' := 13) (ls'' := [.ref 12, .int (2 : Int32), .ref 4, .int (4 : Int32), .retAddr 0, .retAddr 0]) (st'' := []) (A'' := im_H g u o Y) (c'' := 0) (s'' := 0) 9 0 0 hb1 (fun n => rfl) ?_
    exact iv_blk 2 (fun n => rfl) (x12_r9_2_r1_1_ok (g := g) (y0 := (1 : Int32)) h)
def x18_r9_2_r1_2 (g : im_M) (y0 : Int32) : Option (Int32 × im_M) :=
  some (0, g)
set_option maxRecDepth 100000 in
set_option maxHeartbeats 4000000 in
theorem x18_r9_2_r1_2_ok {L : Nat} {xs : Nat → Int32} {g u mm : im_M} {o : Nat → Int64} {Y : iv_A} {y0 ret : Int32} (h : x18_r9_2_r1_2 g y0 = some (ret, mm)) : iv_ev (iv_Xs L xs) 18 124 [.ref 12, .int (2 : Int32), .int y0, .ref 4, .int (4 : Int32)] [] (im_H g u o Y) 0 0 (.inl none, im_H mm u o Y) := by
  unfold x18_r9_2_r1_2 at h
  cases h
  exact iv_ret 1 (fun n => rfl)
def x18_r9_2_r1_1 (g : im_M) (y0 : Int32) (y1 : Int32) : Option (Int32 × im_M) :=
  bif Op.ifCond.holds .ne ((g 9 7) &&& (4 : Int32)) then
    (Option.bind (x23_r9_2 (im_w g 13 2 y1) ) (fun (v2, g2) =>
      bif Op.ifCond.holds .eq v2 then
        (x18_r9_2_r1_2 g2 y0)
      else
        (Option.bind (x15_r1 (im_w g2 9 7 ((g2 9 7) &&& (-5 : Int32))) (4 : Int32) (0 : Int32) (2 : Int32)) (fun (_, g3) =>
          x18_r9_2_r1_2 g3 y0))))
  else
    (bif Op.if_icmp.holds .lt y1 y0 then
      (x18_r9_2_r1_2 (im_w g 13 2 y1) y0)
    else
      (Option.bind (x15_r1 (im_w (im_w g 13 2 y1) 9 7 ((g 9 7) ||| (4 : Int32))) (3 : Int32) (0 : Int32) (2 : Int32)) (fun (_, g4) =>
        x18_r9_2_r1_2 g4 y0)))
set_option maxRecDepth 100000 in
set_option maxHeartbeats 4000000 in
theorem x18_r9_2_r1_1_ok {L : Nat} {xs : Nat → Int32} {g u mm : im_M} {o : Nat → Int64} {Y : iv_A} {y0 y1 ret : Int32} (h : x18_r9_2_r1_1 g y0 y1 = some (ret, mm)) : iv_ev (iv_Xs L xs) 18 48 [.ref 12, .int (2 : Int32), .int y0, .ref 4, .int (4 : Int32)] [.int y1, .int (2 : Int32), .ref 16] (im_H g u o Y) 0 0 (.inl none, im_H mm u o Y) := by
  unfold x18_r9_2_r1_1 at h
  refine iv_blk (mi' := 18) (pc' := 49) (ls' := [.ref 12, .int (2 : Int32), .int y0, .ref 4, .int (4 : Int32)]) (st' := []) (A' := List.set (im_H g u o Y) 13 (.inl (0, 3, .inl (upd (g 13) 2 y1)))) (c' := 0) (s' := 0) 1 (fun n => rfl) ?_
  rw [im_a13]
  cases hb3 : Op.ifCond.holds .ne ((g 9 7) &&& (4 : Int32)) with
  | true =>
    rw [hb3] at h
    simp only [cond_true] at h
    refine iv_brt (mi' := 18) (pc' := 93) (ls' := [.ref 12, .int (2 : Int32), .int y0, .ref 4, .int (4 : Int32)]) (st' := []) (A' := im_H (im_w g 13 2 y1) u o Y) (c' := 0) (s' := 0) (mi'' := 18) (pc'' := 59) (ls'' := [.ref 12, .int (2 : Int32), .int y0, .ref 4, .int (4 : Int32)]) (st'' := []) (A'' := im_H (im_w g 13 2 y1) u o Y) (c'' := 0) (s'' := 0) 5 0 0 hb3 (fun n => rfl) ?_
    cases hc : x23_r9_2 (im_w g 13 2 y1)  with
    | none => rw [hc] at h; cases h
    | some q =>
      obtain ⟨v2, g2⟩ := q
      rw [hc] at h
      simp only [Option.bind_some] at h
      refine iv_cal (mi' := 18) (pc' := 95) (ls' := [.ref 12, .int (2 : Int32), .int y0, .ref 4, .int (4 : Int32)]) (rest := []) (A' := im_H (im_w g 13 2 y1) u o Y) (c' := 0) (s' := 0) (as := [.ref 12, .int (2 : Int32)]) (v := some (.int v2)) (A'' := im_H g2 u o Y) 3 23 (fun n => rfl) rfl (x23_r9_2_ok (g := (im_w g 13 2 y1))  hc) ?_
      show iv_ev (iv_Xs L xs) 18 98 [.ref 12, .int (2 : Int32), .int y0, .ref 4, .int (4 : Int32)] [.int v2] (im_H g2 u o Y) 0 0 _
      cases hb4 : Op.ifCond.holds .eq v2 with
      | true =>
        rw [hb4] at h
        simp only [cond_true] at h
        refine iv_brt (mi' := 18) (pc' := 124) (ls' := [.ref 12, .int (2 : Int32), .int y0, .ref 4, .int (4 : Int32)]) (st' := []) (A' := im_H g2 u o Y) (c' := 0) (s' := 0) (mi'' := 18) (pc'' := 101) (ls'' := [.ref 12, .int (2 : Int32), .int y0, .ref 4, .int (4 : Int32)]) (st'' := []) (A'' := im_H g2 u o Y) (c'' := 0) (s'' := 0) 1 0 0 hb4 (fun n => rfl) ?_
        exact x18_r9_2_r1_2_ok (g := g2) (y0 := y0) h
      | false =>
        rw [hb4] at h
        simp only [cond_false] at h
        refine iv_brf (mi' := 18) (pc' := 124) (ls' := [.ref 12, .int (2 : Int32), .int y0, .ref 4, .int (4 : Int32)]) (st' := []) (A' := im_H g2 u o Y) (c' := 0) (s' := 0) (mi'' := 18) (pc'' := 101) (ls'' := [.ref 12, .int (2 : Int32), .int y0, .ref 4, .int (4 : Int32)]) (st'' := []) (A'' := im_H g2 u o Y) (c'' := 0) (s'' := 0) 1 0 0 hb4 (fun n => rfl) ?_
        refine iv_blk (mi' := 18) (pc' := 114) (ls' := [.ref 12, .int (2 : Int32), .int y0, .ref 4, .int (4 : Int32)]) (st' := []) (A' := List.set (im_H g2 u o Y) 9 (.inr (0, List.set [.int 0, .ref 13, .ref 14, .ref 15, .ref 16, .int (g2 9 5), .int (g2 9 6), .int (g2 9 7)] 7 (.int ((g2 9 7) &&& (-5 : Int32)))))) (c' := 0) (s' := 0) 8 (fun n => rfl) ?_
        rw [im_f9_7]
        cases hc : x15_r1 (im_w g2 9 7 ((g2 9 7) &&& (-5 : Int32))) (4 : Int32) (0 : Int32) (2 : Int32) with
        | none => rw [hc] at h; cases h
        | some q =>
          obtain ⟨v3, g3⟩ := q
          rw [hc] at h
          simp only [Option.bind_some] at h
          refine iv_cal (mi' := 18) (pc' := 121) (ls' := [.ref 12, .int (2 : Int32), .int y0, .ref 4, .int (4 : Int32)]) (rest := []) (A' := im_H (im_w g2 9 7 ((g2 9 7) &&& (-5 : Int32))) u o Y) (c' := 0) (s' := 0) (as := [.ref 4, .int (4 : Int32), .int (0 : Int32), .int (2 : Int32)]) (v := none) (A'' := im_H g3 u o Y) 6 15 (fun n => rfl) rfl (x15_r1_ok (g := (im_w g2 9 7 ((g2 9 7) &&& (-5 : Int32)))) (a := (4 : Int32)) (b := (0 : Int32)) (c := (2 : Int32)) hc) ?_
          show iv_ev (iv_Xs L xs) 18 124 [.ref 12, .int (2 : Int32), .int y0, .ref 4, .int (4 : Int32)] [] (im_H g3 u o Y) 0 0 _
          exact x18_r9_2_r1_2_ok (g := g3) (y0 := y0) h
  | false =>
    rw [hb3] at h
    simp only [cond_false] at h
    refine iv_brf (mi' := 18) (pc' := 93) (ls' := [.ref 12, .int (2 : Int32), .int y0, .ref 4, .int (4 : Int32)]) (st' := []) (A' := im_H (im_w g 13 2 y1) u o Y) (c' := 0) (s' := 0) (mi'' := 18) (pc'' := 59) (ls'' := [.ref 12, .int (2 : Int32), .int y0, .ref 4, .int (4 : Int32)]) (st'' := []) (A'' := im_H (im_w g 13 2 y1) u o Y) (c'' := 0) (s'' := 0) 5 0 0 hb3 (fun n => rfl) ?_
    cases hb5 : Op.if_icmp.holds .lt y1 y0 with
    | true =>
      rw [hb5] at h
      simp only [cond_true] at h
      refine iv_brt (mi' := 18) (pc' := 124) (ls' := [.ref 12, .int (2 : Int32), .int y0, .ref 4, .int (4 : Int32)]) (st' := []) (A' := im_H (im_w g 13 2 y1) u o Y) (c' := 0) (s' := 0) (mi'' := 18) (pc'' := 69) (ls'' := [.ref 12, .int (2 : Int32), .int y0, .ref 4, .int (4 : Int32)]) (st'' := []) (A'' := im_H (im_w g 13 2 y1) u o Y) (c'' := 0) (s'' := 0) 6 0 0 hb5 (fun n => rfl) ?_
      exact x18_r9_2_r1_2_ok (g := (im_w g 13 2 y1)) (y0 := y0) h
    | false =>
      rw [hb5] at h
      simp only [cond_false] at h
      refine iv_brf (mi' := 18) (pc' := 124) (ls' := [.ref 12, .int (2 : Int32), .int y0, .ref 4, .int (4 : Int32)]) (st' := []) (A' := im_H (im_w g 13 2 y1) u o Y) (c' := 0) (s' := 0) (mi'' := 18) (pc'' := 69) (ls'' := [.ref 12, .int (2 : Int32), .int y0, .ref 4, .int (4 : Int32)]) (st'' := []) (A'' := im_H (im_w g 13 2 y1) u o Y) (c'' := 0) (s'' := 0) 6 0 0 hb5 (fun n => rfl) ?_
      refine iv_blk (mi' := 18) (pc' := 80) (ls' := [.ref 12, .int (2 : Int32), .int y0, .ref 4, .int (4 : Int32)]) (st' := []) (A' := List.set (im_H (im_w g 13 2 y1) u o Y) 9 (.inr (0, List.set [.int 0, .ref 13, .ref 14, .ref 15, .ref 16, .int ((im_w g 13 2 y1) 9 5), .int ((im_w g 13 2 y1) 9 6), .int ((im_w g 13 2 y1) 9 7)] 7 (.int ((g 9 7) ||| (4 : Int32)))))) (c' := 0) (s' := 0) 6 (fun n => rfl) ?_
      rw [im_f9_7]
      cases hc : x15_r1 (im_w (im_w g 13 2 y1) 9 7 ((g 9 7) ||| (4 : Int32))) (3 : Int32) (0 : Int32) (2 : Int32) with
      | none => rw [hc] at h; cases h
      | some q =>
        obtain ⟨v4, g4⟩ := q
        rw [hc] at h
        simp only [Option.bind_some] at h
        refine iv_cal (mi' := 18) (pc' := 87) (ls' := [.ref 12, .int (2 : Int32), .int y0, .ref 4, .int (4 : Int32)]) (rest := []) (A' := im_H (im_w (im_w g 13 2 y1) 9 7 ((g 9 7) ||| (4 : Int32))) u o Y) (c' := 0) (s' := 0) (as := [.ref 4, .int (3 : Int32), .int (0 : Int32), .int (2 : Int32)]) (v := none) (A'' := im_H g4 u o Y) 6 15 (fun n => rfl) rfl (x15_r1_ok (g := (im_w (im_w g 13 2 y1) 9 7 ((g 9 7) ||| (4 : Int32)))) (a := (3 : Int32)) (b := (0 : Int32)) (c := (2 : Int32)) hc) ?_
        show iv_ev (iv_Xs L xs) 18 90 [.ref 12, .int (2 : Int32), .int y0, .ref 4, .int (4 : Int32)] [] (im_H g4 u o Y) 0 0 _
        exact iv_blk 1 (fun n => rfl) (x18_r9_2_r1_2_ok (g := g4) (y0 := y0) h)
def x18_r9_2_r1 (g : im_M) (a : Int32) : Option (Int32 × im_M) :=
  bif Op.ifCond.holds .eq ((g 9 6) &&& (4 : Int32)) then
    (Option.bind (x19_r9_2 g ) (fun (v1, g1) =>
      bif Op.ifCond.holds .eq v1 then
        (x18_r9_2_r1_1 g1 a (0 : Int32))
      else
        (x18_r9_2_r1_1 g1 a ((g1 13 2) + (1 : Int32)))))
  else
    (some (0, (im_w g 13 2 (0 : Int32))))
set_option maxRecDepth 100000 in
set_option maxHeartbeats 4000000 in
theorem x18_r9_2_r1_ok {L : Nat} {xs : Nat → Int32} {g u mm : im_M} {o : Nat → Int64} {Y : iv_A} {a ret : Int32} (h : x18_r9_2_r1 g a = some (ret, mm)) : iv_ev (iv_Xs L xs) 18 0 [.ref 12, .int (2 : Int32), .int a, .ref 4, .retAddr 0] [] (im_H g u o Y) 0 0 (.inl none, im_H mm u o Y) := by
  unfold x18_r9_2_r1 at h
  cases hb1 : Op.ifCond.holds .eq ((g 9 6) &&& (4 : Int32)) with
  | true =>
    rw [hb1] at h
    simp only [cond_true] at h
    refine iv_brt (mi' := 18) (pc' := 23) (ls' := [.ref 12, .int (2 : Int32), .int a, .ref 4, .int (4 : Int32)]) (st' := []) (A' := im_H g u o Y) (c' := 0) (s' := 0) (mi'' := 18) (pc'' := 15) (ls'' := [.ref 12, .int (2 : Int32), .int a, .ref 4, .int (4 : Int32)]) (st'' := []) (A'' := im_H g u o Y) (c'' := 0) (s'' := 0) 9 0 0 hb1 (fun n => rfl) ?_
    cases hc : x19_r9_2 g  with
    | none => rw [hc] at h; cases h
    | some q =>
      obtain ⟨v1, g1⟩ := q
      rw [hc] at h
      simp only [Option.bind_some] at h
      refine iv_cal (mi' := 18) (pc' := 30) (ls' := [.ref 12, .int (2 : Int32), .int a, .ref 4, .int (4 : Int32)]) (rest := [.int (2 : Int32), .ref 16]) (A' := im_H g u o Y) (c' := 0) (s' := 0) (as := [.ref 12, .int (2 : Int32)]) (v := some (.int v1)) (A'' := im_H g1 u o Y) 6 19 (fun n => rfl) rfl (x19_r9_2_ok (g := g)  hc) ?_
      show iv_ev (iv_Xs L xs) 18 33 [.ref 12, .int (2 : Int32), .int a, .ref 4, .int (4 : Int32)] [.int v1, .int (2 : Int32), .ref 16] (im_H g1 u o Y) 0 0 _
      cases hb2 : Op.ifCond.holds .eq v1 with
      | true =>
        rw [hb2] at h
        simp only [cond_true] at h
        refine iv_brt (mi' := 18) (pc' := 47) (ls' := [.ref 12, .int (2 : Int32), .int a, .ref 4, .int (4 : Int32)]) (st' := [.int (2 : Int32), .ref 16]) (A' := im_H g1 u o Y) (c' := 0) (s' := 0) (mi'' := 18) (pc'' := 36) (ls'' := [.ref 12, .int (2 : Int32), .int a, .ref 4, .int (4 : Int32)]) (st'' := [.int (2 : Int32), .ref 16]) (A'' := im_H g1 u o Y) (c'' := 0) (s'' := 0) 1 0 0 hb2 (fun n => rfl) ?_
        exact iv_blk 1 (fun n => rfl) (x18_r9_2_r1_1_ok (g := g1) (y0 := a) (y1 := (0 : Int32)) h)
      | false =>
        rw [hb2] at h
        simp only [cond_false] at h
        refine iv_brf (mi' := 18) (pc' := 47) (ls' := [.ref 12, .int (2 : Int32), .int a, .ref 4, .int (4 : Int32)]) (st' := [.int (2 : Int32), .ref 16]) (A' := im_H g1 u o Y) (c' := 0) (s' := 0) (mi'' := 18) (pc'' := 36) (ls'' := [.ref 12, .int (2 : Int32), .int a, .ref 4, .int (4 : Int32)]) (st'' := [.int (2 : Int32), .ref 16]) (A'' := im_H g1 u o Y) (c'' := 0) (s'' := 0) 1 0 0 hb2 (fun n => rfl) ?_
        exact iv_blk 7 (fun n => rfl) (x18_r9_2_r1_1_ok (g := g1) (y0 := a) (y1 := ((g1 13 2) + (1 : Int32))) h)
  | false =>
    rw [hb1] at h
    simp only [cond_false] at h
    refine iv_brf (mi' := 18) (pc' := 23) (ls' := [.ref 12, .int (2 : Int32), .int a, .ref 4, .int (4 : Int32)]) (st' := []) (A' := im_H g u o Y) (c' := 0) (s' := 0) (mi'' := 18) (pc'' := 15) (ls'' := [.ref 12, .int (2 : Int32), .int a, .ref 4, .int (4 : Int32)]) (st'' := []) (A'' := im_H g u o Y) (c'' := 0) (s'' := 0) 9 0 0 hb1 (fun n => rfl) ?_
    refine iv_blk (mi' := 18) (pc' := 22) (ls' := [.ref 12, .int (2 : Int32), .int a, .ref 4, .int (4 : Int32)]) (st' := []) (A' := List.set (im_H g u o Y) 13 (.inl (0, 3, .inl (upd (g 13) 2 (0 : Int32))))) (c' := 0) (s' := 0) 5 (fun n => rfl) ?_
    rw [im_a13]
    cases h
    exact iv_ret 1 (fun n => rfl)
def x50_r9_2 (g : im_M) (a : Int32) : Option (Int32 × im_M) :=
  some (0, (im_w (im_w g 10 2 a) 9 5 ((g 9 5) ||| (4 : Int32))))
set_option maxRecDepth 100000 in
set_option maxHeartbeats 4000000 in
theorem x50_r9_2_ok {L : Nat} {xs : Nat → Int32} {g u mm : im_M} {o : Nat → Int64} {Y : iv_A} {a ret : Int32} (h : x50_r9_2 g a = some (ret, mm)) : iv_ev (iv_Xs L xs) 50 0 [.ref 12, .int (2 : Int32), .int a] [] (im_H g u o Y) 0 0 (.inl none, im_H mm u o Y) := by
  unfold x50_r9_2 at h
  refine iv_blk (mi' := 50) (pc' := 7) (ls' := [.ref 12, .int (2 : Int32), .int a]) (st' := []) (A' := List.set (im_H g u o Y) 10 (.inl (0, 3, .inl (upd (g 10) 2 a)))) (c' := 0) (s' := 0) 5 (fun n => rfl) ?_
  rw [im_a10]
  refine iv_blk (mi' := 50) (pc' := 19) (ls' := [.ref 12, .int (2 : Int32), .int a]) (st' := []) (A' := List.set (im_H (im_w g 10 2 a) u o Y) 9 (.inr (0, List.set [.int 0, .ref 13, .ref 14, .ref 15, .ref 16, .int ((im_w g 10 2 a) 9 5), .int ((im_w g 10 2 a) 9 6), .int ((im_w g 10 2 a) 9 7)] 5 (.int ((g 9 5) ||| (4 : Int32)))))) (c' := 0) (s' := 0) 8 (fun n => rfl) ?_
  rw [im_f9_5]
  cases h
  exact iv_ret 1 (fun n => rfl)
def x11_r9_r1_3 (g : im_M) (y0 : Int32) (y1 : Int32) : Option (Int32 × im_M) :=
  Option.bind (x12_r9_2_r1 (im_w g 12 2 y1) ) (fun (_, g5) =>
    Option.bind (x18_r9_2_r1 g5 y0) (fun (_, g6) =>
      some (0, (im_w (im_w g6 11 2 (g6 10 2)) 9 5 (0 : Int32)))))
set_option maxRecDepth 100000 in
set_option maxHeartbeats 4000000 in
theorem x11_r9_r1_3_ok {L : Nat} {xs : Nat → Int32} {g u mm : im_M} {o : Nat → Int64} {Y : iv_A} {y0 y1 ret : Int32} (h : x11_r9_r1_3 g y0 y1 = some (ret, mm)) : iv_ev (iv_Xs L xs) 11 35 [.ref 12, .int y0, .ref 4, .int (2 : Int32)] [.int y1, .int (2 : Int32), .ref 15] (im_H g u o Y) 0 0 (.inl none, im_H mm u o Y) := by
  unfold x11_r9_r1_3 at h
  refine iv_blk (mi' := 11) (pc' := 36) (ls' := [.ref 12, .int y0, .ref 4, .int (2 : Int32)]) (st' := []) (A' := List.set (im_H g u o Y) 12 (.inl (0, 3, .inl (upd (g 12) 2 y1)))) (c' := 0) (s' := 0) 1 (fun n => rfl) ?_
  rw [im_a12]
  cases hc : x12_r9_2_r1 (im_w g 12 2 y1)  with
  | none => rw [hc] at h; cases h
  | some q =>
    obtain ⟨v5, g5⟩ := q
    rw [hc] at h
    simp only [Option.bind_some] at h
    refine iv_cal (mi' := 11) (pc' := 39) (ls' := [.ref 12, .int y0, .ref 4, .int (2 : Int32)]) (rest := []) (A' := im_H (im_w g 12 2 y1) u o Y) (c' := 0) (s' := 0) (as := [.ref 12, .int (2 : Int32), .ref 4]) (v := none) (A'' := im_H g5 u o Y) 4 12 (fun n => rfl) rfl (x12_r9_2_r1_ok (g := (im_w g 12 2 y1))  hc) ?_
    show iv_ev (iv_Xs L xs) 11 42 [.ref 12, .int y0, .ref 4, .int (2 : Int32)] [] (im_H g5 u o Y) 0 0 _
    cases hc : x18_r9_2_r1 g5 y0 with
    | none => rw [hc] at h; cases h
    | some q =>
      obtain ⟨v6, g6⟩ := q
      rw [hc] at h
      simp only [Option.bind_some] at h
      refine iv_cal (mi' := 11) (pc' := 46) (ls' := [.ref 12, .int y0, .ref 4, .int (2 : Int32)]) (rest := []) (A' := im_H g5 u o Y) (c' := 0) (s' := 0) (as := [.ref 12, .int (2 : Int32), .int y0, .ref 4]) (v := none) (A'' := im_H g6 u o Y) 5 18 (fun n => rfl) rfl (x18_r9_2_r1_ok (g := g5) (a := y0) hc) ?_
      show iv_ev (iv_Xs L xs) 11 49 [.ref 12, .int y0, .ref 4, .int (2 : Int32)] [] (im_H g6 u o Y) 0 0 _
      refine iv_blk (mi' := 11) (pc' := 61) (ls' := [.ref 12, .int y0, .ref 4, .int (2 : Int32)]) (st' := []) (A' := List.set (im_H g6 u o Y) 11 (.inl (0, 3, .inl (upd (g6 11) 2 (g6 10 2))))) (c' := 0) (s' := 0) 8 (fun n => rfl) ?_
      rw [im_a11]
      refine iv_blk (mi' := 11) (pc' := 72) (ls' := [.ref 12, .int y0, .ref 4, .int (3 : Int32)]) (st' := []) (A' := List.set (im_H (im_w g6 11 2 (g6 10 2)) u o Y) 9 (.inr (0, List.set [.int 0, .ref 13, .ref 14, .ref 15, .ref 16, .int ((im_w g6 11 2 (g6 10 2)) 9 5), .int ((im_w g6 11 2 (g6 10 2)) 9 6), .int ((im_w g6 11 2 (g6 10 2)) 9 7)] 5 (.int (0 : Int32))))) (c' := 0) (s' := 0) 8 (fun n => rfl) ?_
      rw [im_f9_5]
      cases h
      exact iv_ret 1 (fun n => rfl)
def x11_r9_r1_2 (g : im_M) (y0 : Int32) (y1 : Int32) : Option (Int32 × im_M) :=
  Option.bind (x12_r9_1_r1 (im_w g 12 1 y1) ) (fun (_, g3) =>
    Option.bind (x18_r9_1_r1 g3 y0) (fun (_, g4) =>
      bif Op.ifCond.holds .eq ((g4 9 5) &&& (4 : Int32)) then
        (x11_r9_r1_3 (im_w g4 11 1 (g4 10 1)) y0 ((g4 12 2) + (1 : Int32)))
      else
        (x11_r9_r1_3 (im_w g4 11 1 (g4 10 1)) y0 (0 : Int32))))
set_option maxRecDepth 100000 in
set_option maxHeartbeats 4000000 in
theorem x11_r9_r1_2_ok {L : Nat} {xs : Nat → Int32} {g u mm : im_M} {o : Nat → Int64} {Y : iv_A} {y0 y1 ret : Int32} (h : x11_r9_r1_2 g y0 y1 = some (ret, mm)) : iv_ev (iv_Xs L xs) 11 35 [.ref 12, .int y0, .ref 4, .int (1 : Int32)] [.int y1, .int (1 : Int32), .ref 15] (im_H g u o Y) 0 0 (.inl none, im_H mm u o Y) := by
  unfold x11_r9_r1_2 at h
  refine iv_blk (mi' := 11) (pc' := 36) (ls' := [.ref 12, .int y0, .ref 4, .int (1 : Int32)]) (st' := []) (A' := List.set (im_H g u o Y) 12 (.inl (0, 3, .inl (upd (g 12) 1 y1)))) (c' := 0) (s' := 0) 1 (fun n => rfl) ?_
  rw [im_a12]
  cases hc : x12_r9_1_r1 (im_w g 12 1 y1)  with
  | none => rw [hc] at h; cases h
  | some q =>
    obtain ⟨v3, g3⟩ := q
    rw [hc] at h
    simp only [Option.bind_some] at h
    refine iv_cal (mi' := 11) (pc' := 39) (ls' := [.ref 12, .int y0, .ref 4, .int (1 : Int32)]) (rest := []) (A' := im_H (im_w g 12 1 y1) u o Y) (c' := 0) (s' := 0) (as := [.ref 12, .int (1 : Int32), .ref 4]) (v := none) (A'' := im_H g3 u o Y) 4 12 (fun n => rfl) rfl (x12_r9_1_r1_ok (g := (im_w g 12 1 y1))  hc) ?_
    show iv_ev (iv_Xs L xs) 11 42 [.ref 12, .int y0, .ref 4, .int (1 : Int32)] [] (im_H g3 u o Y) 0 0 _
    cases hc : x18_r9_1_r1 g3 y0 with
    | none => rw [hc] at h; cases h
    | some q =>
      obtain ⟨v4, g4⟩ := q
      rw [hc] at h
      simp only [Option.bind_some] at h
      refine iv_cal (mi' := 11) (pc' := 46) (ls' := [.ref 12, .int y0, .ref 4, .int (1 : Int32)]) (rest := []) (A' := im_H g3 u o Y) (c' := 0) (s' := 0) (as := [.ref 12, .int (1 : Int32), .int y0, .ref 4]) (v := none) (A'' := im_H g4 u o Y) 5 18 (fun n => rfl) rfl (x18_r9_1_r1_ok (g := g3) (a := y0) hc) ?_
      show iv_ev (iv_Xs L xs) 11 49 [.ref 12, .int y0, .ref 4, .int (1 : Int32)] [] (im_H g4 u o Y) 0 0 _
      refine iv_blk (mi' := 11) (pc' := 61) (ls' := [.ref 12, .int y0, .ref 4, .int (1 : Int32)]) (st' := []) (A' := List.set (im_H g4 u o Y) 11 (.inl (0, 3, .inl (upd (g4 11) 1 (g4 10 1))))) (c' := 0) (s' := 0) 8 (fun n => rfl) ?_
      rw [im_a11]
      cases hb3 : Op.ifCond.holds .eq ((g4 9 5) &&& (4 : Int32)) with
      | true =>
        rw [hb3] at h
        simp only [cond_true] at h
        refine iv_brt (mi' := 11) (pc' := 27) (ls' := [.ref 12, .int y0, .ref 4, .int (2 : Int32)]) (st' := [.int (2 : Int32), .ref 15]) (A' := im_H (im_w g4 11 1 (g4 10 1)) u o Y) (c' := 0) (s' := 0) (mi'' := 11) (pc'' := 23) (ls'' := [.ref 12, .int y0, .ref 4, .int (2 : Int32)]) (st'' := [.int (2 : Int32), .ref 15]) (A'' := im_H (im_w g4 11 1 (g4 10 1)) u o Y) (c'' := 0) (s'' := 0) 15 0 0 hb3 (fun n => rfl) ?_
        exact iv_blk 6 (fun n => rfl) (x11_r9_r1_3_ok (g := (im_w g4 11 1 (g4 10 1))) (y0 := y0) (y1 := ((g4 12 2) + (1 : Int32))) h)
      | false =>
        rw [hb3] at h
        simp only [cond_false] at h
        refine iv_brf (mi' := 11) (pc' := 27) (ls' := [.ref 12, .int y0, .ref 4, .int (2 : Int32)]) (st' := [.int (2 : Int32), .ref 15]) (A' := im_H (im_w g4 11 1 (g4 10 1)) u o Y) (c' := 0) (s' := 0) (mi'' := 11) (pc'' := 23) (ls'' := [.ref 12, .int y0, .ref 4, .int (2 : Int32)]) (st'' := [.int (2 : Int32), .ref 15]) (A'' := im_H (im_w g4 11 1 (g4 10 1)) u o Y) (c'' := 0) (s'' := 0) 15 0 0 hb3 (fun n => rfl) ?_
        exact iv_blk 2 (fun n => rfl) (x11_r9_r1_3_ok (g := (im_w g4 11 1 (g4 10 1))) (y0 := y0) (y1 := (0 : Int32)) h)
def x11_r9_r1_1 (g : im_M) (y0 : Int32) (y1 : Int32) : Option (Int32 × im_M) :=
  Option.bind (x12_r9_0_r1 (im_w g 12 0 y1) ) (fun (_, g1) =>
    Option.bind (x18_r9_0_r1 g1 y0) (fun (_, g2) =>
      bif Op.ifCond.holds .eq ((g2 9 5) &&& (2 : Int32)) then
        (x11_r9_r1_2 (im_w g2 11 0 (g2 10 0)) y0 ((g2 12 1) + (1 : Int32)))
      else
        (x11_r9_r1_2 (im_w g2 11 0 (g2 10 0)) y0 (0 : Int32))))
set_option maxRecDepth 100000 in
set_option maxHeartbeats 4000000 in
theorem x11_r9_r1_1_ok {L : Nat} {xs : Nat → Int32} {g u mm : im_M} {o : Nat → Int64} {Y : iv_A} {y0 y1 ret : Int32} (h : x11_r9_r1_1 g y0 y1 = some (ret, mm)) : iv_ev (iv_Xs L xs) 11 35 [.ref 12, .int y0, .ref 4, .int (0 : Int32)] [.int y1, .int (0 : Int32), .ref 15] (im_H g u o Y) 0 0 (.inl none, im_H mm u o Y) := by
  unfold x11_r9_r1_1 at h
  refine iv_blk (mi' := 11) (pc' := 36) (ls' := [.ref 12, .int y0, .ref 4, .int (0 : Int32)]) (st' := []) (A' := List.set (im_H g u o Y) 12 (.inl (0, 3, .inl (upd (g 12) 0 y1)))) (c' := 0) (s' := 0) 1 (fun n => rfl) ?_
  rw [im_a12]
  cases hc : x12_r9_0_r1 (im_w g 12 0 y1)  with
  | none => rw [hc] at h; cases h
  | some q =>
    obtain ⟨v1, g1⟩ := q
    rw [hc] at h
    simp only [Option.bind_some] at h
    refine iv_cal (mi' := 11) (pc' := 39) (ls' := [.ref 12, .int y0, .ref 4, .int (0 : Int32)]) (rest := []) (A' := im_H (im_w g 12 0 y1) u o Y) (c' := 0) (s' := 0) (as := [.ref 12, .int (0 : Int32), .ref 4]) (v := none) (A'' := im_H g1 u o Y) 4 12 (fun n => rfl) rfl (x12_r9_0_r1_ok (g := (im_w g 12 0 y1))  hc) ?_
    show iv_ev (iv_Xs L xs) 11 42 [.ref 12, .int y0, .ref 4, .int (0 : Int32)] [] (im_H g1 u o Y) 0 0 _
    cases hc : x18_r9_0_r1 g1 y0 with
    | none => rw [hc] at h; cases h
    | some q =>
      obtain ⟨v2, g2⟩ := q
      rw [hc] at h
      simp only [Option.bind_some] at h
      refine iv_cal (mi' := 11) (pc' := 46) (ls' := [.ref 12, .int y0, .ref 4, .int (0 : Int32)]) (rest := []) (A' := im_H g1 u o Y) (c' := 0) (s' := 0) (as := [.ref 12, .int (0 : Int32), .int y0, .ref 4]) (v := none) (A'' := im_H g2 u o Y) 5 18 (fun n => rfl) rfl (x18_r9_0_r1_ok (g := g1) (a := y0) hc) ?_
      show iv_ev (iv_Xs L xs) 11 49 [.ref 12, .int y0, .ref 4, .int (0 : Int32)] [] (im_H g2 u o Y) 0 0 _
      refine iv_blk (mi' := 11) (pc' := 61) (ls' := [.ref 12, .int y0, .ref 4, .int (0 : Int32)]) (st' := []) (A' := List.set (im_H g2 u o Y) 11 (.inl (0, 3, .inl (upd (g2 11) 0 (g2 10 0))))) (c' := 0) (s' := 0) 8 (fun n => rfl) ?_
      rw [im_a11]
      cases hb2 : Op.ifCond.holds .eq ((g2 9 5) &&& (2 : Int32)) with
      | true =>
        rw [hb2] at h
        simp only [cond_true] at h
        refine iv_brt (mi' := 11) (pc' := 27) (ls' := [.ref 12, .int y0, .ref 4, .int (1 : Int32)]) (st' := [.int (1 : Int32), .ref 15]) (A' := im_H (im_w g2 11 0 (g2 10 0)) u o Y) (c' := 0) (s' := 0) (mi'' := 11) (pc'' := 23) (ls'' := [.ref 12, .int y0, .ref 4, .int (1 : Int32)]) (st'' := [.int (1 : Int32), .ref 15]) (A'' := im_H (im_w g2 11 0 (g2 10 0)) u o Y) (c'' := 0) (s'' := 0) 15 0 0 hb2 (fun n => rfl) ?_
        exact iv_blk 6 (fun n => rfl) (x11_r9_r1_2_ok (g := (im_w g2 11 0 (g2 10 0))) (y0 := y0) (y1 := ((g2 12 1) + (1 : Int32))) h)
      | false =>
        rw [hb2] at h
        simp only [cond_false] at h
        refine iv_brf (mi' := 11) (pc' := 27) (ls' := [.ref 12, .int y0, .ref 4, .int (1 : Int32)]) (st' := [.int (1 : Int32), .ref 15]) (A' := im_H (im_w g2 11 0 (g2 10 0)) u o Y) (c' := 0) (s' := 0) (mi'' := 11) (pc'' := 23) (ls'' := [.ref 12, .int y0, .ref 4, .int (1 : Int32)]) (st'' := [.int (1 : Int32), .ref 15]) (A'' := im_H (im_w g2 11 0 (g2 10 0)) u o Y) (c'' := 0) (s'' := 0) 15 0 0 hb2 (fun n => rfl) ?_
        exact iv_blk 2 (fun n => rfl) (x11_r9_r1_2_ok (g := (im_w g2 11 0 (g2 10 0))) (y0 := y0) (y1 := (0 : Int32)) h)
def x11_r9_r1 (g : im_M) (a : Int32) : Option (Int32 × im_M) :=
  bif Op.ifCond.holds .eq ((g 9 5) &&& (1 : Int32)) then
    (x11_r9_r1_1 g a ((g 12 0) + (1 : Int32)))
  else
    (x11_r9_r1_1 g a (0 : Int32))
set_option maxRecDepth 100000 in
set_option maxHeartbeats 4000000 in
theorem x11_r9_r1_ok {L : Nat} {xs : Nat → Int32} {g u mm : im_M} {o : Nat → Int64} {Y : iv_A} {a ret : Int32} (h : x11_r9_r1 g a = some (ret, mm)) : iv_ev (iv_Xs L xs) 11 0 [.ref 12, .int a, .ref 4, .retAddr 0] [] (im_H g u o Y) 0 0 (.inl none, im_H mm u o Y) := by
  unfold x11_r9_r1 at h
  cases hb1 : Op.ifCond.holds .eq ((g 9 5) &&& (1 : Int32)) with
  | true =>
    rw [hb1] at h
    simp only [cond_true] at h
    refine iv_brt (mi' := 11) (pc' := 27) (ls' := [.ref 12, .int a, .ref 4, .int (0 : Int32)]) (st' := [.int (0 : Int32), .ref 15]) (A' := im_H g u o Y) (c' := 0) (s' := 0) (mi'' := 11) (pc'' := 23) (ls'' := [.ref 12, .int a, .ref 4, .int (0 : Int32)]) (st'' := [.int (0 : Int32), .ref 15]) (A'' := im_H g u o Y) (c'' := 0) (s'' := 0) 15 0 0 hb1 (fun n => rfl) ?_
    exact iv_blk 6 (fun n => rfl) (x11_r9_r1_1_ok (g := g) (y0 := a) (y1 := ((g 12 0) + (1 : Int32))) h)
  | false =>
    rw [hb1] at h
    simp only [cond_false] at h
    refine iv_brf (mi' := 11) (pc' := 27) (ls' := [.ref 12, .int a, .ref 4, .int (0 : Int32)]) (st' := [.int (0 : Int32), .ref 15]) (A' := im_H g u o Y) (c' := 0) (s' := 0) (mi'' := 11) (pc'' := 23) (ls'' := [.ref 12, .int a, .ref 4, .int (0 : Int32)]) (st'' := [.int (0 : Int32), .ref 15]) (A'' := im_H g u o Y) (c'' := 0) (s'' := 0) 15 0 0 hb1 (fun n => rfl) ?_
    exact iv_blk 2 (fun n => rfl) (x11_r9_r1_1_ok (g := g) (y0 := a) (y1 := (0 : Int32)) h)
