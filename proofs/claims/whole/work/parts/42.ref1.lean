/-! the reference: isWrong, limitOf, isSet (printed by wip/gen/lay1.py) -/
theorem iv_dec95_89 {L : Nat} {xs : Nat → Int32} {g u : im_M} {o : Nat → Int64} {Y : iv_A} {ls : List Value} (n : Nat) : iv_run (iv_Xs L xs) (n + 1) 95 89 ls [] (im_H g u o Y) 0 0 = iv_inc ls 4 (-1) fun ls => iv_run (iv_Xs L xs) n 95 92 ls [] (im_H g u o Y) 0 0 := rfl
def x92_r37_2 (u : im_M) (y0 : Int32) (y1 : Int32) (y2 : Int32) (y3 : Int32) : Option (Int32 × im_M) :=
  bif (y3 == 0 || y3 == 1) then some (y3, u) else none
set_option maxRecDepth 100000 in
set_option maxHeartbeats 4000000 in
theorem x92_r37_2_ok {L : Nat} {xs : Nat → Int32} {g u mm : im_M} {o : Nat → Int64} {Y : iv_A} {y0 y1 y2 y3 ret : Int32} (h : x92_r37_2 u y0 y1 y2 y3 = some (ret, mm)) : iv_ev (iv_Xs L xs) 92 86 [.ref 40, .int y0, .int y1, .int y2] [.int y3] (im_H g u o Y) 0 0 (.inl (some (.int ret)), im_H g mm o Y) := by
  unfold x92_r37_2 at h
  cases hb11 : (y3 == 0 || y3 == 1) with
  | false => exact (iv_bn hb11 h).elim
  | true =>
    have h := iv_bt hb11 h
    cases h
    exact iv_retc 1 hb11 (fun n => rfl)
def x92_r37_1 (u : im_M) (y0 : Int32) (y1 : Int32) (y2 : Int32) : Option (Int32 × im_M) :=
  bif Op.if_icmp.holds .lt y1 (50 : Int32) then
    (x92_r37_2 u y0 y1 y2 (1 : Int32))
  else
    (bif Op.if_icmp.holds .gt y1 (4000 : Int32) then
      (x92_r37_2 u y0 y1 y2 (1 : Int32))
    else
      (bif Op.if_icmp.holds .le (u 37 2) (1 : Int32) then
        (bif iv_in y0 12 then
          bif Op.if_icmp.holds .le ((u 37 2) - ((u 41) (y0).toNatClampNeg)) (12 : Int32) then
            (x92_r37_2 u y0 y1 y2 (0 : Int32))
          else
            (x92_r37_2 u y0 y1 y2 (1 : Int32))
        else none)
      else
        (bif Op.if_icmp.holds .gt y2 (400 : Int32) then
          (x92_r37_2 u y0 y1 y2 (1 : Int32))
        else
          (bif iv_in y0 12 then
            bif Op.if_icmp.holds .le ((u 37 2) - ((u 41) (y0).toNatClampNeg)) (12 : Int32) then
              (x92_r37_2 u y0 y1 y2 (0 : Int32))
            else
              (x92_r37_2 u y0 y1 y2 (1 : Int32))
          else none))))
set_option maxRecDepth 100000 in
set_option maxHeartbeats 4000000 in
theorem x92_r37_1_ok {L : Nat} {xs : Nat → Int32} {g u mm : im_M} {o : Nat → Int64} {Y : iv_A} {y0 y1 y2 ret : Int32} (h : x92_r37_1 u y0 y1 y2 = some (ret, mm)) : iv_ev (iv_Xs L xs) 92 36 [.ref 40, .int y0, .int y1, .retAddr 0] [.int y2] (im_H g u o Y) 0 0 (.inl (some (.int ret)), im_H g mm o Y) := by
  unfold x92_r37_1 at h
  cases hb3 : Op.if_icmp.holds .lt y1 (50 : Int32) with
  | true =>
    have h := iv_bt hb3 h
    refine iv_brt (mi' := 92) (pc' := 81) (ls' := [.ref 40, .int y0, .int y1, .int y2]) (st' := []) (A' := im_H g u o Y) (c' := 0) (s' := 0) (mi'' := 92) (pc'' := 43) (ls'' := [.ref 40, .int y0, .int y1, .int y2]) (st'' := []) (A'' := im_H g u o Y) (c'' := 0) (s'' := 0) 4 0 0 hb3 (fun n => rfl) ?_
    refine iv_blk (mi' := 92) (pc' := 86) (ls' := [.ref 40, .int y0, .int y1, .int y2]) (st' := [.int (1 : Int32)]) (A' := im_H g u o Y) (c' := 0) (s' := 0) 2 (fun n => rfl) ?_
    exact x92_r37_2_ok (u := u) (y0 := y0) (y1 := y1) (y2 := y2) (y3 := (1 : Int32)) h
  | false =>
    have h := iv_bf hb3 h
    refine iv_brf (mi' := 92) (pc' := 81) (ls' := [.ref 40, .int y0, .int y1, .int y2]) (st' := []) (A' := im_H g u o Y) (c' := 0) (s' := 0) (mi'' := 92) (pc'' := 43) (ls'' := [.ref 40, .int y0, .int y1, .int y2]) (st'' := []) (A'' := im_H g u o Y) (c'' := 0) (s'' := 0) 4 0 0 hb3 (fun n => rfl) ?_
    cases hb4 : Op.if_icmp.holds .gt y1 (4000 : Int32) with
    | true =>
      have h := iv_bt hb4 h
      refine iv_brt (mi' := 92) (pc' := 81) (ls' := [.ref 40, .int y0, .int y1, .int y2]) (st' := []) (A' := im_H g u o Y) (c' := 0) (s' := 0) (mi'' := 92) (pc'' := 50) (ls'' := [.ref 40, .int y0, .int y1, .int y2]) (st'' := []) (A'' := im_H g u o Y) (c'' := 0) (s'' := 0) 3 0 0 hb4 (fun n => rfl) ?_
      refine iv_blk (mi' := 92) (pc' := 86) (ls' := [.ref 40, .int y0, .int y1, .int y2]) (st' := [.int (1 : Int32)]) (A' := im_H g u o Y) (c' := 0) (s' := 0) 2 (fun n => rfl) ?_
      exact x92_r37_2_ok (u := u) (y0 := y0) (y1 := y1) (y2 := y2) (y3 := (1 : Int32)) h
    | false =>
      have h := iv_bf hb4 h
      refine iv_brf (mi' := 92) (pc' := 81) (ls' := [.ref 40, .int y0, .int y1, .int y2]) (st' := []) (A' := im_H g u o Y) (c' := 0) (s' := 0) (mi'' := 92) (pc'' := 50) (ls'' := [.ref 40, .int y0, .int y1, .int y2]) (st'' := []) (A'' := im_H g u o Y) (c'' := 0) (s'' := 0) 3 0 0 hb4 (fun n => rfl) ?_
      cases hb5 : Op.if_icmp.holds .le (u 37 2) (1 : Int32) with
      | true =>
        have h := iv_bt hb5 h
        refine iv_brt (mi' := 92) (pc' := 65) (ls' := [.ref 40, .int y0, .int y1, .int y2]) (st' := []) (A' := im_H g u o Y) (c' := 0) (s' := 0) (mi'' := 92) (pc'' := 58) (ls'' := [.ref 40, .int y0, .int y1, .int y2]) (st'' := []) (A'' := im_H g u o Y) (c'' := 0) (s'' := 0) 4 0 0 hb5 (fun n => rfl) ?_
        cases hb6 : iv_in y0 12 with
        | false => exact (iv_bn hb6 h).elim
        | true =>
          have h := iv_bt hb6 h
          refine iv_chk (mi' := 92) (pc' := 75) (ls' := [.ref 40, .int y0, .int y1, .int y2]) (st' := [.int ((u 41) (y0).toNatClampNeg), .int (u 37 2)]) (A' := im_H g u o Y) (c' := 0) (s' := 0) 6 hb6 (fun n => rfl) ?_
          cases hb7 : Op.if_icmp.holds .le ((u 37 2) - ((u 41) (y0).toNatClampNeg)) (12 : Int32) with
          | true =>
            have h := iv_bt hb7 h
            refine iv_brt (mi' := 92) (pc' := 85) (ls' := [.ref 40, .int y0, .int y1, .int y2]) (st' := []) (A' := im_H g u o Y) (c' := 0) (s' := 0) (mi'' := 92) (pc'' := 81) (ls'' := [.ref 40, .int y0, .int y1, .int y2]) (st'' := []) (A'' := im_H g u o Y) (c'' := 0) (s'' := 0) 3 0 0 hb7 (fun n => rfl) ?_
            refine iv_blk (mi' := 92) (pc' := 86) (ls' := [.ref 40, .int y0, .int y1, .int y2]) (st' := [.int (0 : Int32)]) (A' := im_H g u o Y) (c' := 0) (s' := 0) 1 (fun n => rfl) ?_
            exact x92_r37_2_ok (u := u) (y0 := y0) (y1 := y1) (y2 := y2) (y3 := (0 : Int32)) h
          | false =>
            have h := iv_bf hb7 h
            refine iv_brf (mi' := 92) (pc' := 85) (ls' := [.ref 40, .int y0, .int y1, .int y2]) (st' := []) (A' := im_H g u o Y) (c' := 0) (s' := 0) (mi'' := 92) (pc'' := 81) (ls'' := [.ref 40, .int y0, .int y1, .int y2]) (st'' := []) (A'' := im_H g u o Y) (c'' := 0) (s'' := 0) 3 0 0 hb7 (fun n => rfl) ?_
            refine iv_blk (mi' := 92) (pc' := 86) (ls' := [.ref 40, .int y0, .int y1, .int y2]) (st' := [.int (1 : Int32)]) (A' := im_H g u o Y) (c' := 0) (s' := 0) 2 (fun n => rfl) ?_
            exact x92_r37_2_ok (u := u) (y0 := y0) (y1 := y1) (y2 := y2) (y3 := (1 : Int32)) h
      | false =>
        have h := iv_bf hb5 h
        refine iv_brf (mi' := 92) (pc' := 65) (ls' := [.ref 40, .int y0, .int y1, .int y2]) (st' := []) (A' := im_H g u o Y) (c' := 0) (s' := 0) (mi'' := 92) (pc'' := 58) (ls'' := [.ref 40, .int y0, .int y1, .int y2]) (st'' := []) (A'' := im_H g u o Y) (c'' := 0) (s'' := 0) 4 0 0 hb5 (fun n => rfl) ?_
        cases hb8 : Op.if_icmp.holds .gt y2 (400 : Int32) with
        | true =>
          have h := iv_bt hb8 h
          refine iv_brt (mi' := 92) (pc' := 81) (ls' := [.ref 40, .int y0, .int y1, .int y2]) (st' := []) (A' := im_H g u o Y) (c' := 0) (s' := 0) (mi'' := 92) (pc'' := 65) (ls'' := [.ref 40, .int y0, .int y1, .int y2]) (st'' := []) (A'' := im_H g u o Y) (c'' := 0) (s'' := 0) 3 0 0 hb8 (fun n => rfl) ?_
          refine iv_blk (mi' := 92) (pc' := 86) (ls' := [.ref 40, .int y0, .int y1, .int y2]) (st' := [.int (1 : Int32)]) (A' := im_H g u o Y) (c' := 0) (s' := 0) 2 (fun n => rfl) ?_
          exact x92_r37_2_ok (u := u) (y0 := y0) (y1 := y1) (y2 := y2) (y3 := (1 : Int32)) h
        | false =>
          have h := iv_bf hb8 h
          refine iv_brf (mi' := 92) (pc' := 81) (ls' := [.ref 40, .int y0, .int y1, .int y2]) (st' := []) (A' := im_H g u o Y) (c' := 0) (s' := 0) (mi'' := 92) (pc'' := 65) (ls'' := [.ref 40, .int y0, .int y1, .int y2]) (st'' := []) (A'' := im_H g u o Y) (c'' := 0) (s'' := 0) 3 0 0 hb8 (fun n => rfl) ?_
          cases hb9 : iv_in y0 12 with
          | false => exact (iv_bn hb9 h).elim
          | true =>
            have h := iv_bt hb9 h
            refine iv_chk (mi' := 92) (pc' := 75) (ls' := [.ref 40, .int y0, .int y1, .int y2]) (st' := [.int ((u 41) (y0).toNatClampNeg), .int (u 37 2)]) (A' := im_H g u o Y) (c' := 0) (s' := 0) 6 hb9 (fun n => rfl) ?_
            cases hb10 : Op.if_icmp.holds .le ((u 37 2) - ((u 41) (y0).toNatClampNeg)) (12 : Int32) with
            | true =>
              have h := iv_bt hb10 h
              refine iv_brt (mi' := 92) (pc' := 85) (ls' := [.ref 40, .int y0, .int y1, .int y2]) (st' := []) (A' := im_H g u o Y) (c' := 0) (s' := 0) (mi'' := 92) (pc'' := 81) (ls'' := [.ref 40, .int y0, .int y1, .int y2]) (st'' := []) (A'' := im_H g u o Y) (c'' := 0) (s'' := 0) 3 0 0 hb10 (fun n => rfl) ?_
              refine iv_blk (mi' := 92) (pc' := 86) (ls' := [.ref 40, .int y0, .int y1, .int y2]) (st' := [.int (0 : Int32)]) (A' := im_H g u o Y) (c' := 0) (s' := 0) 1 (fun n => rfl) ?_
              exact x92_r37_2_ok (u := u) (y0 := y0) (y1 := y1) (y2 := y2) (y3 := (0 : Int32)) h
            | false =>
              have h := iv_bf hb10 h
              refine iv_brf (mi' := 92) (pc' := 85) (ls' := [.ref 40, .int y0, .int y1, .int y2]) (st' := []) (A' := im_H g u o Y) (c' := 0) (s' := 0) (mi'' := 92) (pc'' := 81) (ls'' := [.ref 40, .int y0, .int y1, .int y2]) (st'' := []) (A'' := im_H g u o Y) (c'' := 0) (s'' := 0) 3 0 0 hb10 (fun n => rfl) ?_
              refine iv_blk (mi' := 92) (pc' := 86) (ls' := [.ref 40, .int y0, .int y1, .int y2]) (st' := [.int (1 : Int32)]) (A' := im_H g u o Y) (c' := 0) (s' := 0) 2 (fun n => rfl) ?_
              exact x92_r37_2_ok (u := u) (y0 := y0) (y1 := y1) (y2 := y2) (y3 := (1 : Int32)) h
def x92_r37 (u : im_M) (a : Int32) : Option (Int32 × im_M) :=
  bif iv_in a 12 then
    bif Op.if_icmp.holds .ge ((u 38) (a).toNatClampNeg) ((u 39) (a).toNatClampNeg) then
      (x92_r37_1 u a ((u 38) (a).toNatClampNeg) (((u 38) (a).toNatClampNeg) - ((u 39) (a).toNatClampNeg)))
    else
      (x92_r37_1 u a ((u 38) (a).toNatClampNeg) (((u 39) (a).toNatClampNeg) - ((u 38) (a).toNatClampNeg)))
  else none
set_option maxRecDepth 100000 in
set_option maxHeartbeats 4000000 in
theorem x92_r37_ok {L : Nat} {xs : Nat → Int32} {g u mm : im_M} {o : Nat → Int64} {Y : iv_A} {a ret : Int32} (h : x92_r37 u a = some (ret, mm)) : iv_ev (iv_Xs L xs) 92 0 [.ref 40, .int a, .retAddr 0, .retAddr 0] [] (im_H g u o Y) 0 0 (.inl (some (.int ret)), im_H g mm o Y) := by
  unfold x92_r37 at h
  cases hb1 : iv_in a 12 with
  | false => exact (iv_bn hb1 h).elim
  | true =>
    have h := iv_bt hb1 h
    refine iv_chk (mi' := 92) (pc' := 6) (ls' := [.ref 40, .int a, .retAddr 0, .retAddr 0]) (st' := [.int ((u 38) (a).toNatClampNeg)]) (A' := im_H g u o Y) (c' := 0) (s' := 0) 4 hb1 (fun n => rfl) ?_
    refine iv_chk (mi' := 92) (pc' := 14) (ls' := [.ref 40, .int a, .int ((u 38) (a).toNatClampNeg), .retAddr 0]) (st' := [.int ((u 39) (a).toNatClampNeg), .int ((u 38) (a).toNatClampNeg)]) (A' := im_H g u o Y) (c' := 0) (s' := 0) 6 hb1 (fun n => rfl) ?_
    cases hb2 : Op.if_icmp.holds .ge ((u 38) (a).toNatClampNeg) ((u 39) (a).toNatClampNeg) with
    | true =>
      have h := iv_bt hb2 h
      refine iv_brt (mi' := 92) (pc' := 28) (ls' := [.ref 40, .int a, .int ((u 38) (a).toNatClampNeg), .retAddr 0]) (st' := []) (A' := im_H g u o Y) (c' := 0) (s' := 0) (mi'' := 92) (pc'' := 17) (ls'' := [.ref 40, .int a, .int ((u 38) (a).toNatClampNeg), .retAddr 0]) (st'' := []) (A'' := im_H g u o Y) (c'' := 0) (s'' := 0) 1 0 0 hb2 (fun n => rfl) ?_
      refine iv_chk (mi' := 92) (pc' := 35) (ls' := [.ref 40, .int a, .int ((u 38) (a).toNatClampNeg), .retAddr 0]) (st' := [.int ((u 39) (a).toNatClampNeg), .int ((u 38) (a).toNatClampNeg)]) (A' := im_H g u o Y) (c' := 0) (s' := 0) 5 hb1 (fun n => rfl) ?_
      refine iv_blk (mi' := 92) (pc' := 36) (ls' := [.ref 40, .int a, .int ((u 38) (a).toNatClampNeg), .retAddr 0]) (st' := [.int (((u 38) (a).toNatClampNeg) - ((u 39) (a).toNatClampNeg))]) (A' := im_H g u o Y) (c' := 0) (s' := 0) 1 (fun n => rfl) ?_
      exact x92_r37_1_ok (u := u) (y0 := a) (y1 := ((u 38) (a).toNatClampNeg)) (y2 := (((u 38) (a).toNatClampNeg) - ((u 39) (a).toNatClampNeg))) h
    | false =>
      have h := iv_bf hb2 h
      refine iv_brf (mi' := 92) (pc' := 28) (ls' := [.ref 40, .int a, .int ((u 38) (a).toNatClampNeg), .retAddr 0]) (st' := []) (A' := im_H g u o Y) (c' := 0) (s' := 0) (mi'' := 92) (pc'' := 17) (ls'' := [.ref 40, .int a, .int ((u 38) (a).toNatClampNeg), .retAddr 0]) (st'' := []) (A'' := im_H g u o Y) (c'' := 0) (s'' := 0) 1 0 0 hb2 (fun n => rfl) ?_
      refine iv_chk (mi' := 92) (pc' := 23) (ls' := [.ref 40, .int a, .int ((u 38) (a).toNatClampNeg), .retAddr 0]) (st' := [.int ((u 39) (a).toNatClampNeg)]) (A' := im_H g u o Y) (c' := 0) (s' := 0) 4 hb1 (fun n => rfl) ?_
      refine iv_blk (mi' := 92) (pc' := 36) (ls' := [.ref 40, .int a, .int ((u 38) (a).toNatClampNeg), .retAddr 0]) (st' := [.int (((u 39) (a).toNatClampNeg) - ((u 38) (a).toNatClampNeg))]) (A' := im_H g u o Y) (c' := 0) (s' := 0) 3 (fun n => rfl) ?_
      exact x92_r37_1_ok (u := u) (y0 := a) (y1 := ((u 38) (a).toNatClampNeg)) (y2 := (((u 39) (a).toNatClampNeg) - ((u 38) (a).toNatClampNeg))) h
def x88_r37_1 (fu : Nat) (u : im_M) (y0 : Int32) (y1 : Int32) (y2 : Int32) (y3 : Int32) (y4 : Int32) : Option (Int32 × im_M) := match fu with
  | 0 => none
  | fu + 1 =>
  bif Op.if_icmp.holds .ge (y3 + ((4 : Int32) * y4)) (2000 : Int32) then
    (some ((y2 - y4), u))
  else
    (x88_r37_1 fu u y0 y1 y2 y3 (y4 + (1 : Int32)))
set_option maxRecDepth 100000 in
set_option maxHeartbeats 4000000 in
theorem x88_r37_1_ok {L : Nat} {xs : Nat → Int32} {fu : Nat} {g u mm : im_M} {o : Nat → Int64} {Y : iv_A} {y0 y1 y2 y3 y4 ret : Int32} (h : x88_r37_1 fu u y0 y1 y2 y3 y4 = some (ret, mm)) : iv_ev (iv_Xs L xs) 88 50 [.ref 40, .int y0, .int y1, .int y2, .int y3, .int y4] [] (im_H g u o Y) 0 0 (.inl (some (.int ret)), im_H g mm o Y) := by
  induction fu generalizing u y0 y1 y2 y3 y4 with
  | zero => cases h
  | succ fu ih =>
    unfold x88_r37_1 at h
    cases hb5 : Op.if_icmp.holds .ge (y3 + ((4 : Int32) * y4)) (2000 : Int32) with
    | true =>
      have h := iv_bt hb5 h
      refine iv_brt (mi' := 88) (pc' := 69) (ls' := [.ref 40, .int y0, .int y1, .int y2, .int y3, .int y4]) (st' := []) (A' := im_H g u o Y) (c' := 0) (s' := 0) (mi'' := 88) (pc'' := 63) (ls'' := [.ref 40, .int y0, .int y1, .int y2, .int y3, .int y4]) (st'' := []) (A'' := im_H g u o Y) (c'' := 0) (s'' := 0) 7 0 0 hb5 (fun n => rfl) ?_
      cases h
      exact iv_ret 4 (fun n => rfl)
    | false =>
      have h := iv_bf hb5 h
      refine iv_brf (mi' := 88) (pc' := 69) (ls' := [.ref 40, .int y0, .int y1, .int y2, .int y3, .int y4]) (st' := []) (A' := im_H g u o Y) (c' := 0) (s' := 0) (mi'' := 88) (pc'' := 63) (ls'' := [.ref 40, .int y0, .int y1, .int y2, .int y3, .int y4]) (st'' := []) (A'' := im_H g u o Y) (c'' := 0) (s'' := 0) 7 0 0 hb5 (fun n => rfl) ?_
      refine iv_blk (mi' := 88) (pc' := 50) (ls' := [.ref 40, .int y0, .int y1, .int y2, .int y3, .int (y4 + (1 : Int32))]) (st' := []) (A' := im_H g u o Y) (c' := 0) (s' := 0) 2 (fun n => rfl) ?_
      exact ih (u := u) (y0 := y0) (y1 := y1) (y2 := y2) (y3 := y3) (y4 := (y4 + (1 : Int32))) h
def x88_r37_2 (u : im_M) (y0 : Int32) (y1 : Int32) (y2 : Int32) : Option (Int32 × im_M) :=
  some (y2, u)
set_option maxRecDepth 100000 in
set_option maxHeartbeats 4000000 in
theorem x88_r37_2_ok {L : Nat} {xs : Nat → Int32} {g u mm : im_M} {o : Nat → Int64} {Y : iv_A} {y0 y1 y2 ret : Int32} (h : x88_r37_2 u y0 y1 y2 = some (ret, mm)) : iv_ev (iv_Xs L xs) 88 18 [.ref 40, .int y0, .int y1, .retAddr 0, .retAddr 0, .retAddr 0] [.int y2] (im_H g u o Y) 0 0 (.inl (some (.int ret)), im_H g mm o Y) := by
  unfold x88_r37_2 at h
  cases h
  exact iv_ret 1 (fun n => rfl)
def x88_r37 (u : im_M) (a : Int32) (b : Int32) : Option (Int32 × im_M) :=
  bif Op.if_icmp.holds .ge b (2 : Int32) then
    (bif iv_in ((3 : Int32) * a) 12 then
      Option.bind (x89 u ((u 38) (((3 : Int32) * a)).toNatClampNeg)) (fun q1 =>
        bif iv_in (((3 : Int32) * a) + (1 : Int32)) 12 then
          x88_r37_1 600 q1.2 a b (q1.1 / (1000 : Int32)) ((q1.2 38) ((((3 : Int32) * a) + (1 : Int32))).toNatClampNeg) (0 : Int32)
        else none)
    else none)
  else
    (bif Op.ifCond.holds .ne b then
      (x88_r37_2 u a b (1200 : Int32))
    else
      (x88_r37_2 u a b (3000 : Int32)))
set_option maxRecDepth 100000 in
set_option maxHeartbeats 4000000 in
theorem x88_r37_ok {L : Nat} {xs : Nat → Int32} {g u mm : im_M} {o : Nat → Int64} {Y : iv_A} {a b ret : Int32} (h : x88_r37 u a b = some (ret, mm)) : iv_ev (iv_Xs L xs) 88 0 [.ref 40, .int a, .int b, .retAddr 0, .retAddr 0, .retAddr 0] [] (im_H g u o Y) 0 0 (.inl (some (.int ret)), im_H g mm o Y) := by
  unfold x88_r37 at h
  cases hb1 : Op.if_icmp.holds .ge b (2 : Int32) with
  | true =>
    have h := iv_bt hb1 h
    refine iv_brt (mi' := 88) (pc' := 19) (ls' := [.ref 40, .int a, .int b, .retAddr 0, .retAddr 0, .retAddr 0]) (st' := []) (A' := im_H g u o Y) (c' := 0) (s' := 0) (mi'' := 88) (pc'' := 5) (ls'' := [.ref 40, .int a, .int b, .retAddr 0, .retAddr 0, .retAddr 0]) (st'' := []) (A'' := im_H g u o Y) (c'' := 0) (s'' := 0) 3 0 0 hb1 (fun n => rfl) ?_
    cases hb2 : iv_in ((3 : Int32) * a) 12 with
    | false => exact (iv_bn hb2 h).elim
    | true =>
      have h := iv_bt hb2 h
      refine iv_chk (mi' := 88) (pc' := 27) (ls' := [.ref 40, .int a, .int b, .retAddr 0, .retAddr 0, .retAddr 0]) (st' := [.int ((u 38) (((3 : Int32) * a)).toNatClampNeg)]) (A' := im_H g u o Y) (c' := 0) (s' := 0) 6 hb2 (fun n => rfl) ?_
      obtain ⟨v1, g1, hc, h⟩ := iv_bd h
      refine iv_cal (mi' := 88) (pc' := 27) (ls' := [.ref 40, .int a, .int b, .retAddr 0, .retAddr 0, .retAddr 0]) (rest := []) (A' := im_H g u o Y) (c' := 0) (s' := 0) (as := [.int ((u 38) (((3 : Int32) * a)).toNatClampNeg)]) (v := some (.int v1)) (A'' := im_H g g1 o Y) 1 89 (fun n => rfl) rfl (x89_ok (u := u) (a := ((u 38) (((3 : Int32) * a)).toNatClampNeg)) hc) ?_
      show iv_ev (iv_Xs L xs) 88 30 [.ref 40, .int a, .int b, .retAddr 0, .retAddr 0, .retAddr 0] [.int v1] (im_H g g1 o Y) 0 0 _
      cases hb3 : iv_in (((3 : Int32) * a) + (1 : Int32)) 12 with
      | false => exact (iv_bn hb3 h).elim
      | true =>
        have h := iv_bt hb3 h
        refine iv_chk (mi' := 88) (pc' := 45) (ls' := [.ref 40, .int a, .int b, .int (v1 / (1000 : Int32)), .retAddr 0, .retAddr 0]) (st' := [.int ((g1 38) ((((3 : Int32) * a) + (1 : Int32))).toNatClampNeg)]) (A' := im_H g g1 o Y) (c' := 0) (s' := 0) 11 hb3 (fun n => rfl) ?_
        refine iv_blk (mi' := 88) (pc' := 50) (ls' := [.ref 40, .int a, .int b, .int (v1 / (1000 : Int32)), .int ((g1 38) ((((3 : Int32) * a) + (1 : Int32))).toNatClampNeg), .int (0 : Int32)]) (st' := []) (A' := im_H g g1 o Y) (c' := 0) (s' := 0) 3 (fun n => rfl) ?_
        exact x88_r37_1_ok (u := g1) (y0 := a) (y1 := b) (y2 := (v1 / (1000 : Int32))) (y3 := ((g1 38) ((((3 : Int32) * a) + (1 : Int32))).toNatClampNeg)) (y4 := (0 : Int32)) h
  | false =>
    have h := iv_bf hb1 h
    refine iv_brf (mi' := 88) (pc' := 19) (ls' := [.ref 40, .int a, .int b, .retAddr 0, .retAddr 0, .retAddr 0]) (st' := []) (A' := im_H g u o Y) (c' := 0) (s' := 0) (mi'' := 88) (pc'' := 5) (ls'' := [.ref 40, .int a, .int b, .retAddr 0, .retAddr 0, .retAddr 0]) (st'' := []) (A'' := im_H g u o Y) (c'' := 0) (s'' := 0) 3 0 0 hb1 (fun n => rfl) ?_
    cases hb4 : Op.ifCond.holds .ne b with
    | true =>
      have h := iv_bt hb4 h
      refine iv_brt (mi' := 88) (pc' := 15) (ls' := [.ref 40, .int a, .int b, .retAddr 0, .retAddr 0, .retAddr 0]) (st' := []) (A' := im_H g u o Y) (c' := 0) (s' := 0) (mi'' := 88) (pc'' := 9) (ls'' := [.ref 40, .int a, .int b, .retAddr 0, .retAddr 0, .retAddr 0]) (st'' := []) (A'' := im_H g u o Y) (c'' := 0) (s'' := 0) 2 0 0 hb4 (fun n => rfl) ?_
      refine iv_blk (mi' := 88) (pc' := 18) (ls' := [.ref 40, .int a, .int b, .retAddr 0, .retAddr 0, .retAddr 0]) (st' := [.int (1200 : Int32)]) (A' := im_H g u o Y) (c' := 0) (s' := 0) 1 (fun n => rfl) ?_
      exact x88_r37_2_ok (u := u) (y0 := a) (y1 := b) (y2 := (1200 : Int32)) h
    | false =>
      have h := iv_bf hb4 h
      refine iv_brf (mi' := 88) (pc' := 15) (ls' := [.ref 40, .int a, .int b, .retAddr 0, .retAddr 0, .retAddr 0]) (st' := []) (A' := im_H g u o Y) (c' := 0) (s' := 0) (mi'' := 88) (pc'' := 9) (ls'' := [.ref 40, .int a, .int b, .retAddr 0, .retAddr 0, .retAddr 0]) (st'' := []) (A'' := im_H g u o Y) (c'' := 0) (s'' := 0) 2 0 0 hb4 (fun n => rfl) ?_
      refine iv_blk (mi' := 88) (pc' := 18) (ls' := [.ref 40, .int a, .int b, .retAddr 0, .retAddr 0, .retAddr 0]) (st' := [.int (3000 : Int32)]) (A' := im_H g u o Y) (c' := 0) (s' := 0) 2 (fun n => rfl) ?_
      exact x88_r37_2_ok (u := u) (y0 := a) (y1 := b) (y2 := (3000 : Int32)) h
def x95_r37_1 (fu : Nat) (u : im_M) (y0 : Int32) (y1 : Int32) (y2 : Int32) (y3 : Int32) : Option (Int32 × im_M) := match fu with
  | 0 => none
  | fu + 1 =>
  bif Op.ifCond.holds .le y3 then
    (some ((0 : Int32), u))
  else
    (bif iv_in y3 520 then
      Option.bind (x93 u ((u 42) (y3).toNatClampNeg) y0) (fun q1 =>
        bif Op.ifCond.holds .ne q1.1 then
          (bif Op.if_icmp.holds .ne (0 : Int32) (q1.2 37 0) then
            (x95_r37_1 fu q1.2 y0 y1 (0 : Int32) (y3 + Int32.ofInt (-1)))
          else
            (some ((1 : Int32), q1.2)))
        else
          (Option.bind (x93 q1.2 ((q1.2 44) (y3).toNatClampNeg) y0) (fun q2 =>
            bif Op.ifCond.holds .eq q2.1 then
              (Option.bind (x93 q2.2 ((q2.2 43) (y3).toNatClampNeg) y0) (fun q3 =>
                bif Op.ifCond.holds .eq q3.1 then
                  (bif Op.if_icmp.holds .ne (0 : Int32) (q3.2 37 0) then
                    (x95_r37_1 fu q3.2 y0 y1 (0 : Int32) (y3 + Int32.ofInt (-1)))
                  else
                    (some ((1 : Int32), q3.2)))
                else
                  (bif Op.if_icmp.holds .ne (y2 + (1 : Int32)) (q3.2 37 0) then
                    (x95_r37_1 fu q3.2 y0 y1 (y2 + (1 : Int32)) (y3 + Int32.ofInt (-1)))
                  else
                    (some ((1 : Int32), q3.2)))))
            else
              (some ((0 : Int32), q2.2)))))
    else none)
set_option maxRecDepth 100000 in
set_option maxHeartbeats 4000000 in
theorem x95_r37_1_ok {L : Nat} {xs : Nat → Int32} {fu : Nat} {g u mm : im_M} {o : Nat → Int64} {Y : iv_A} {l5 : Value} {y0 y1 y2 y3 ret : Int32} (h : x95_r37_1 fu u y0 y1 y2 y3 = some (ret, mm)) : iv_ev (iv_Xs L xs) 95 5 [.ref 40, .int y0, .int y1, .int y2, .int y3, l5] [] (im_H g u o Y) 0 0 (.inl (some (.int ret)), im_H g mm o Y) := by
  induction fu generalizing u y0 y1 y2 y3 l5 with
  | zero => cases h
  | succ fu ih =>
    unfold x95_r37_1 at h
    cases hb1 : Op.ifCond.holds .le y3 with
    | true =>
      have h := iv_bt hb1 h
      refine iv_brt (mi' := 95) (pc' := 95) (ls' := [.ref 40, .int y0, .int y1, .int y2, .int y3, l5]) (st' := []) (A' := im_H g u o Y) (c' := 0) (s' := 0) (mi'' := 95) (pc'' := 10) (ls'' := [.ref 40, .int y0, .int y1, .int y2, .int y3, l5]) (st'' := []) (A'' := im_H g u o Y) (c'' := 0) (s'' := 0) 2 0 0 hb1 (fun n => rfl) ?_
      cases h
      exact iv_ret 2 (fun n => rfl)
    | false =>
      have h := iv_bf hb1 h
      refine iv_brf (mi' := 95) (pc' := 95) (ls' := [.ref 40, .int y0, .int y1, .int y2, .int y3, l5]) (st' := []) (A' := im_H g u o Y) (c' := 0) (s' := 0) (mi'' := 95) (pc'' := 10) (ls'' := [.ref 40, .int y0, .int y1, .int y2, .int y3, l5]) (st'' := []) (A'' := im_H g u o Y) (c'' := 0) (s'' := 0) 2 0 0 hb1 (fun n => rfl) ?_
      cases hb2 : iv_in y3 520 with
      | false => exact (iv_bn hb2 h).elim
      | true =>
        have h := iv_bt hb2 h
        refine iv_chk (mi' := 95) (pc' := 17) (ls' := [.ref 40, .int y0, .int y1, .int y2, .int y3, l5]) (st' := [.int ((u 42) (y3).toNatClampNeg)]) (A' := im_H g u o Y) (c' := 0) (s' := 0) 4 hb2 (fun n => rfl) ?_
        obtain ⟨v1, g1, hc, h⟩ := iv_bd h
        refine iv_cal (mi' := 95) (pc' := 18) (ls' := [.ref 40, .int y0, .int y1, .int y2, .int y3, l5]) (rest := []) (A' := im_H g u o Y) (c' := 0) (s' := 0) (as := [.int ((u 42) (y3).toNatClampNeg), .int y0]) (v := some (.int v1)) (A'' := im_H g g1 o Y) 2 93 (fun n => rfl) rfl (x93_ok (u := u) (a := ((u 42) (y3).toNatClampNeg)) (b := y0) hc) ?_
        show iv_ev (iv_Xs L xs) 95 21 [.ref 40, .int y0, .int y1, .int y2, .int y3, l5] [.int v1] (im_H g g1 o Y) 0 0 _
        cases hb3 : Op.ifCond.holds .ne v1 with
        | true =>
          have h := iv_bt hb3 h
          refine iv_brt (mi' := 95) (pc' := 28) (ls' := [.ref 40, .int y0, .int y1, .int y2, .int y3, l5]) (st' := []) (A' := im_H g g1 o Y) (c' := 0) (s' := 0) (mi'' := 95) (pc'' := 24) (ls'' := [.ref 40, .int y0, .int y1, .int y2, .int y3, l5]) (st'' := []) (A'' := im_H g g1 o Y) (c'' := 0) (s'' := 0) 1 0 0 hb3 (fun n => rfl) ?_
          refine iv_blk (mi' := 95) (pc' := 52) (ls' := [.ref 40, .int y0, .int y1, .int y2, .int y3, .int (0 : Int32)]) (st' := []) (A' := im_H g g1 o Y) (c' := 0) (s' := 0) 4 (fun n => rfl) ?_
          refine iv_blk (mi' := 95) (pc' := 77) (ls' := [.ref 40, .int y0, .int y1, .int y2, .int y3, .int (0 : Int32)]) (st' := []) (A' := im_H g g1 o Y) (c' := 0) (s' := 0) 2 (fun n => rfl) ?_
          cases hb4 : Op.if_icmp.holds .ne (0 : Int32) (g1 37 0) with
          | true =>
            have h := iv_bt hb4 h
            refine iv_brt (mi' := 95) (pc' := 89) (ls' := [.ref 40, .int y0, .int y1, .int (0 : Int32), .int y3, .int (0 : Int32)]) (st' := []) (A' := im_H g g1 o Y) (c' := 0) (s' := 0) (mi'' := 95) (pc'' := 87) (ls'' := [.ref 40, .int y0, .int y1, .int (0 : Int32), .int y3, .int (0 : Int32)]) (st'' := []) (A'' := im_H g g1 o Y) (c'' := 0) (s'' := 0) 6 0 0 hb4 (fun n => rfl) ?_
            refine iv_blk (mi' := 95) (pc' := 92) (ls' := [.ref 40, .int y0, .int y1, .int (0 : Int32), .int (y3 + Int32.ofInt (-1)), .int (0 : Int32)]) (st' := []) (A' := im_H g g1 o Y) (c' := 0) (s' := 0) 1 (fun n => (iv_dec95_89 n).trans rfl) ?_
            refine iv_blk (mi' := 95) (pc' := 5) (ls' := [.ref 40, .int y0, .int y1, .int (0 : Int32), .int (y3 + Int32.ofInt (-1)), .int (0 : Int32)]) (st' := []) (A' := im_H g g1 o Y) (c' := 0) (s' := 0) 1 (fun n => rfl) ?_
            exact ih (u := g1) (y0 := y0) (y1 := y1) (y2 := (0 : Int32)) (y3 := (y3 + Int32.ofInt (-1))) h
          | false =>
            have h := iv_bf hb4 h
            refine iv_brf (mi' := 95) (pc' := 89) (ls' := [.ref 40, .int y0, .int y1, .int (0 : Int32), .int y3, .int (0 : Int32)]) (st' := []) (A' := im_H g g1 o Y) (c' := 0) (s' := 0) (mi'' := 95) (pc'' := 87) (ls'' := [.ref 40, .int y0, .int y1, .int (0 : Int32), .int y3, .int (0 : Int32)]) (st'' := []) (A'' := im_H g g1 o Y) (c'' := 0) (s'' := 0) 6 0 0 hb4 (fun n => rfl) ?_
            cases h
            exact iv_ret 2 (fun n => rfl)
        | false =>
          have h := iv_bf hb3 h
          refine iv_brf (mi' := 95) (pc' := 28) (ls' := [.ref 40, .int y0, .int y1, .int y2, .int y3, l5]) (st' := []) (A' := im_H g g1 o Y) (c' := 0) (s' := 0) (mi'' := 95) (pc'' := 24) (ls'' := [.ref 40, .int y0, .int y1, .int y2, .int y3, l5]) (st'' := []) (A'' := im_H g g1 o Y) (c'' := 0) (s'' := 0) 1 0 0 hb3 (fun n => rfl) ?_
          refine iv_blk (mi' := 95) (pc' := 36) (ls' := [.ref 40, .int y0, .int y1, .int y2, .int y3, .int (1 : Int32)]) (st' := []) (A' := im_H g g1 o Y) (c' := 0) (s' := 0) 5 (fun n => rfl) ?_
          refine iv_chk (mi' := 95) (pc' := 43) (ls' := [.ref 40, .int y0, .int y1, .int y2, .int y3, .int (1 : Int32)]) (st' := [.int ((g1 44) (y3).toNatClampNeg)]) (A' := im_H g g1 o Y) (c' := 0) (s' := 0) 4 hb2 (fun n => rfl) ?_
          obtain ⟨v2, g2, hc, h⟩ := iv_bd h
          refine iv_cal (mi' := 95) (pc' := 44) (ls' := [.ref 40, .int y0, .int y1, .int y2, .int y3, .int (1 : Int32)]) (rest := []) (A' := im_H g g1 o Y) (c' := 0) (s' := 0) (as := [.int ((g1 44) (y3).toNatClampNeg), .int y0]) (v := some (.int v2)) (A'' := im_H g g2 o Y) 2 93 (fun n => rfl) rfl (x93_ok (u := g1) (a := ((g1 44) (y3).toNatClampNeg)) (b := y0) hc) ?_
          show iv_ev (iv_Xs L xs) 95 47 [.ref 40, .int y0, .int y1, .int y2, .int y3, .int (1 : Int32)] [.int v2] (im_H g g2 o Y) 0 0 _
          cases hb5 : Op.ifCond.holds .eq v2 with
          | true =>
            have h := iv_bt hb5 h
            refine iv_brt (mi' := 95) (pc' := 52) (ls' := [.ref 40, .int y0, .int y1, .int y2, .int y3, .int (1 : Int32)]) (st' := []) (A' := im_H g g2 o Y) (c' := 0) (s' := 0) (mi'' := 95) (pc'' := 50) (ls'' := [.ref 40, .int y0, .int y1, .int y2, .int y3, .int (1 : Int32)]) (st'' := []) (A'' := im_H g g2 o Y) (c'' := 0) (s'' := 0) 1 0 0 hb5 (fun n => rfl) ?_
            refine iv_blk (mi' := 95) (pc' := 57) (ls' := [.ref 40, .int y0, .int y1, .int y2, .int y3, .int (1 : Int32)]) (st' := []) (A' := im_H g g2 o Y) (c' := 0) (s' := 0) 2 (fun n => rfl) ?_
            refine iv_chk (mi' := 95) (pc' := 64) (ls' := [.ref 40, .int y0, .int y1, .int y2, .int y3, .int (1 : Int32)]) (st' := [.int ((g2 43) (y3).toNatClampNeg)]) (A' := im_H g g2 o Y) (c' := 0) (s' := 0) 4 hb2 (fun n => rfl) ?_
            obtain ⟨v3, g3, hc, h⟩ := iv_bd h
            refine iv_cal (mi' := 95) (pc' := 65) (ls' := [.ref 40, .int y0, .int y1, .int y2, .int y3, .int (1 : Int32)]) (rest := []) (A' := im_H g g2 o Y) (c' := 0) (s' := 0) (as := [.int ((g2 43) (y3).toNatClampNeg), .int y0]) (v := some (.int v3)) (A'' := im_H g g3 o Y) 2 93 (fun n => rfl) rfl (x93_ok (u := g2) (a := ((g2 43) (y3).toNatClampNeg)) (b := y0) hc) ?_
            show iv_ev (iv_Xs L xs) 95 68 [.ref 40, .int y0, .int y1, .int y2, .int y3, .int (1 : Int32)] [.int v3] (im_H g g3 o Y) 0 0 _
            cases hb6 : Op.ifCond.holds .eq v3 with
            | true =>
              have h := iv_bt hb6 h
              refine iv_brt (mi' := 95) (pc' := 77) (ls' := [.ref 40, .int y0, .int y1, .int y2, .int y3, .int (1 : Int32)]) (st' := []) (A' := im_H g g3 o Y) (c' := 0) (s' := 0) (mi'' := 95) (pc'' := 71) (ls'' := [.ref 40, .int y0, .int y1, .int y2, .int y3, .int (1 : Int32)]) (st'' := []) (A'' := im_H g g3 o Y) (c'' := 0) (s'' := 0) 1 0 0 hb6 (fun n => rfl) ?_
              cases hb7 : Op.if_icmp.holds .ne (0 : Int32) (g3 37 0) with
              | true =>
                have h := iv_bt hb7 h
                refine iv_brt (mi' := 95) (pc' := 89) (ls' := [.ref 40, .int y0, .int y1, .int (0 : Int32), .int y3, .int (1 : Int32)]) (st' := []) (A' := im_H g g3 o Y) (c' := 0) (s' := 0) (mi'' := 95) (pc'' := 87) (ls'' := [.ref 40, .int y0, .int y1, .int (0 : Int32), .int y3, .int (1 : Int32)]) (st'' := []) (A'' := im_H g g3 o Y) (c'' := 0) (s'' := 0) 6 0 0 hb7 (fun n => rfl) ?_
                refine iv_blk (mi' := 95) (pc' := 92) (ls' := [.ref 40, .int y0, .int y1, .int (0 : Int32), .int (y3 + Int32.ofInt (-1)), .int (1 : Int32)]) (st' := []) (A' := im_H g g3 o Y) (c' := 0) (s' := 0) 1 (fun n => (iv_dec95_89 n).trans rfl) ?_
                refine iv_blk (mi' := 95) (pc' := 5) (ls' := [.ref 40, .int y0, .int y1, .int (0 : Int32), .int (y3 + Int32.ofInt (-1)), .int (1 : Int32)]) (st' := []) (A' := im_H g g3 o Y) (c' := 0) (s' := 0) 1 (fun n => rfl) ?_
                exact ih (u := g3) (y0 := y0) (y1 := y1) (y2 := (0 : Int32)) (y3 := (y3 + Int32.ofInt (-1))) h
              | false =>
                have h := iv_bf hb7 h
                refine iv_brf (mi' := 95) (pc' := 89) (ls' := [.ref 40, .int y0, .int y1, .int (0 : Int32), .int y3, .int (1 : Int32)]) (st' := []) (A' := im_H g g3 o Y) (c' := 0) (s' := 0) (mi'' := 95) (pc'' := 87) (ls'' := [.ref 40, .int y0, .int y1, .int (0 : Int32), .int y3, .int (1 : Int32)]) (st'' := []) (A'' := im_H g g3 o Y) (c'' := 0) (s'' := 0) 6 0 0 hb7 (fun n => rfl) ?_
                cases h
                exact iv_ret 2 (fun n => rfl)
            | false =>
              have h := iv_bf hb6 h
              refine iv_brf (mi' := 95) (pc' := 77) (ls' := [.ref 40, .int y0, .int y1, .int y2, .int y3, .int (1 : Int32)]) (st' := []) (A' := im_H g g3 o Y) (c' := 0) (s' := 0) (mi'' := 95) (pc'' := 71) (ls'' := [.ref 40, .int y0, .int y1, .int y2, .int y3, .int (1 : Int32)]) (st'' := []) (A'' := im_H g g3 o Y) (c'' := 0) (s'' := 0) 1 0 0 hb6 (fun n => rfl) ?_
              cases hb8 : Op.if_icmp.holds .ne (y2 + (1 : Int32)) (g3 37 0) with
              | true =>
                have h := iv_bt hb8 h
                refine iv_brt (mi' := 95) (pc' := 89) (ls' := [.ref 40, .int y0, .int y1, .int (y2 + (1 : Int32)), .int y3, .int (1 : Int32)]) (st' := []) (A' := im_H g g3 o Y) (c' := 0) (s' := 0) (mi'' := 95) (pc'' := 87) (ls'' := [.ref 40, .int y0, .int y1, .int (y2 + (1 : Int32)), .int y3, .int (1 : Int32)]) (st'' := []) (A'' := im_H g g3 o Y) (c'' := 0) (s'' := 0) 9 0 0 hb8 (fun n => rfl) ?_
                refine iv_blk (mi' := 95) (pc' := 92) (ls' := [.ref 40, .int y0, .int y1, .int (y2 + (1 : Int32)), .int (y3 + Int32.ofInt (-1)), .int (1 : Int32)]) (st' := []) (A' := im_H g g3 o Y) (c' := 0) (s' := 0) 1 (fun n => (iv_dec95_89 n).trans rfl) ?_
                refine iv_blk (mi' := 95) (pc' := 5) (ls' := [.ref 40, .int y0, .int y1, .int (y2 + (1 : Int32)), .int (y3 + Int32.ofInt (-1)), .int (1 : Int32)]) (st' := []) (A' := im_H g g3 o Y) (c' := 0) (s' := 0) 1 (fun n => rfl) ?_
                exact ih (u := g3) (y0 := y0) (y1 := y1) (y2 := (y2 + (1 : Int32))) (y3 := (y3 + Int32.ofInt (-1))) h
              | false =>
                have h := iv_bf hb8 h
                refine iv_brf (mi' := 95) (pc' := 89) (ls' := [.ref 40, .int y0, .int y1, .int (y2 + (1 : Int32)), .int y3, .int (1 : Int32)]) (st' := []) (A' := im_H g g3 o Y) (c' := 0) (s' := 0) (mi'' := 95) (pc'' := 87) (ls'' := [.ref 40, .int y0, .int y1, .int (y2 + (1 : Int32)), .int y3, .int (1 : Int32)]) (st'' := []) (A'' := im_H g g3 o Y) (c'' := 0) (s'' := 0) 9 0 0 hb8 (fun n => rfl) ?_
                cases h
                exact iv_ret 2 (fun n => rfl)
          | false =>
            have h := iv_bf hb5 h
            refine iv_brf (mi' := 95) (pc' := 52) (ls' := [.ref 40, .int y0, .int y1, .int y2, .int y3, .int (1 : Int32)]) (st' := []) (A' := im_H g g2 o Y) (c' := 0) (s' := 0) (mi'' := 95) (pc'' := 50) (ls'' := [.ref 40, .int y0, .int y1, .int y2, .int y3, .int (1 : Int32)]) (st'' := []) (A'' := im_H g g2 o Y) (c'' := 0) (s'' := 0) 1 0 0 hb5 (fun n => rfl) ?_
            cases h
            exact iv_ret 2 (fun n => rfl)
def x95_r37 (u : im_M) (a : Int32) (b : Int32) : Option (Int32 × im_M) :=
  x95_r37_1 520 u a b (0 : Int32) b
set_option maxRecDepth 100000 in
set_option maxHeartbeats 4000000 in
theorem x95_r37_ok {L : Nat} {xs : Nat → Int32} {g u mm : im_M} {o : Nat → Int64} {Y : iv_A} {a b ret : Int32} (h : x95_r37 u a b = some (ret, mm)) : iv_ev (iv_Xs L xs) 95 0 [.ref 40, .int a, .int b, .retAddr 0, .retAddr 0, .retAddr 0] [] (im_H g u o Y) 0 0 (.inl (some (.int ret)), im_H g mm o Y) := by
  unfold x95_r37 at h
  refine iv_blk (mi' := 95) (pc' := 5) (ls' := [.ref 40, .int a, .int b, .int (0 : Int32), .int b, .retAddr 0]) (st' := []) (A' := im_H g u o Y) (c' := 0) (s' := 0) 4 (fun n => rfl) ?_
  exact x95_r37_1_ok (u := u) (y0 := a) (y1 := b) (y2 := (0 : Int32)) (y3 := b) h
