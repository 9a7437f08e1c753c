/-! the reference: leaves (printed by wip/gen/lay1.py) -/
def x84_r37 (u : im_M) : Option (Int32 × im_M) :=
  some ((u 37 1), u)
set_option maxRecDepth 100000 in
set_option maxHeartbeats 4000000 in
theorem x84_r37_ok {L : Nat} {xs : Nat → Int32} {g u mm : im_M} {o : Nat → Int64} {Y : iv_A} {ret : Int32} (h : x84_r37 u  = some (ret, mm)) : iv_ev (iv_Xs L xs) 84 0 [.ref 40] [] (im_H g u o Y) 0 0 (.inl (some (.int ret)), im_H g mm o Y) := by
  unfold x84_r37 at h
  cases h
  exact iv_ret 3 (fun n => rfl)
def x86_1 (u : im_M) (y0 : Int32) (y1 : Int32) (y2 : Int32) : Option (Int32 × im_M) :=
  bif (y2 == 0 || y2 == 1) then some (y2, u) else none
set_option maxRecDepth 100000 in
set_option maxHeartbeats 4000000 in
theorem x86_1_ok {L : Nat} {xs : Nat → Int32} {g u mm : im_M} {o : Nat → Int64} {Y : iv_A} {y0 y1 y2 ret : Int32} (h : x86_1 u y0 y1 y2 = some (ret, mm)) : iv_ev (iv_Xs L xs) 86 14 [.int y0, .int y1] [.int y2] (im_H g u o Y) 0 0 (.inl (some (.int ret)), im_H g mm o Y) := by
  unfold x86_1 at h
  cases hb3 : (y2 == 0 || y2 == 1) with
  | false => exact (iv_bn hb3 h).elim
  | true =>
    have h := iv_bt hb3 h
    cases h
    exact iv_retc 1 hb3 (fun n => rfl)
def x86 (u : im_M) (a : Int32) (b : Int32) : Option (Int32 × im_M) :=
  bif Op.ifCond.holds .lt a then
    (x86_1 u a b (0 : Int32))
  else
    (bif Op.if_icmp.holds .gt a b then
      (x86_1 u a b (0 : Int32))
    else
      (x86_1 u a b (1 : Int32)))
set_option maxRecDepth 100000 in
set_option maxHeartbeats 4000000 in
theorem x86_ok {L : Nat} {xs : Nat → Int32} {g u mm : im_M} {o : Nat → Int64} {Y : iv_A} {a b ret : Int32} (h : x86 u a b = some (ret, mm)) : iv_ev (iv_Xs L xs) 86 0 [.int a, .int b] [] (im_H g u o Y) 0 0 (.inl (some (.int ret)), im_H g mm o Y) := by
  unfold x86 at h
  cases hb1 : Op.ifCond.holds .lt a with
  | true =>
    have h := iv_bt hb1 h
    refine iv_brt (mi' := 86) (pc' := 13) (ls' := [.int a, .int b]) (st' := []) (A' := im_H g u o Y) (c' := 0) (s' := 0) (mi'' := 86) (pc'' := 4) (ls'' := [.int a, .int b]) (st'' := []) (A'' := im_H g u o Y) (c'' := 0) (s'' := 0) 2 0 0 hb1 (fun n => rfl) ?_
    refine iv_blk (mi' := 86) (pc' := 14) (ls' := [.int a, .int b]) (st' := [.int (0 : Int32)]) (A' := im_H g u o Y) (c' := 0) (s' := 0) 1 (fun n => rfl) ?_
    exact x86_1_ok (u := u) (y0 := a) (y1 := b) (y2 := (0 : Int32)) h
  | false =>
    have h := iv_bf hb1 h
    refine iv_brf (mi' := 86) (pc' := 13) (ls' := [.int a, .int b]) (st' := []) (A' := im_H g u o Y) (c' := 0) (s' := 0) (mi'' := 86) (pc'' := 4) (ls'' := [.int a, .int b]) (st'' := []) (A'' := im_H g u o Y) (c'' := 0) (s'' := 0) 2 0 0 hb1 (fun n => rfl) ?_
    cases hb2 : Op.if_icmp.holds .gt a b with
    | true =>
      have h := iv_bt hb2 h
      refine iv_brt (mi' := 86) (pc' := 13) (ls' := [.int a, .int b]) (st' := []) (A' := im_H g u o Y) (c' := 0) (s' := 0) (mi'' := 86) (pc'' := 9) (ls'' := [.int a, .int b]) (st'' := []) (A'' := im_H g u o Y) (c'' := 0) (s'' := 0) 3 0 0 hb2 (fun n => rfl) ?_
      refine iv_blk (mi' := 86) (pc' := 14) (ls' := [.int a, .int b]) (st' := [.int (0 : Int32)]) (A' := im_H g u o Y) (c' := 0) (s' := 0) 1 (fun n => rfl) ?_
      exact x86_1_ok (u := u) (y0 := a) (y1 := b) (y2 := (0 : Int32)) h
    | false =>
      have h := iv_bf hb2 h
      refine iv_brf (mi' := 86) (pc' := 13) (ls' := [.int a, .int b]) (st' := []) (A' := im_H g u o Y) (c' := 0) (s' := 0) (mi'' := 86) (pc'' := 9) (ls'' := [.int a, .int b]) (st'' := []) (A'' := im_H g u o Y) (c'' := 0) (s'' := 0) 3 0 0 hb2 (fun n => rfl) ?_
      refine iv_blk (mi' := 86) (pc' := 14) (ls' := [.int a, .int b]) (st' := [.int (1 : Int32)]) (A' := im_H g u o Y) (c' := 0) (s' := 0) 2 (fun n => rfl) ?_
      exact x86_1_ok (u := u) (y0 := a) (y1 := b) (y2 := (1 : Int32)) h
def x93_1 (u : im_M) (y0 : Int32) (y1 : Int32) (y2 : Int32) : Option (Int32 × im_M) :=
  bif (y2 == 0 || y2 == 1) then some (y2, u) else none
set_option maxRecDepth 100000 in
set_option maxHeartbeats 4000000 in
theorem x93_1_ok {L : Nat} {xs : Nat → Int32} {g u mm : im_M} {o : Nat → Int64} {Y : iv_A} {y0 y1 y2 ret : Int32} (h : x93_1 u y0 y1 y2 = some (ret, mm)) : iv_ev (iv_Xs L xs) 93 14 [.int y0, .int y1] [.int y2] (im_H g u o Y) 0 0 (.inl (some (.int ret)), im_H g mm o Y) := by
  unfold x93_1 at h
  cases hb2 : (y2 == 0 || y2 == 1) with
  | false => exact (iv_bn hb2 h).elim
  | true =>
    have h := iv_bt hb2 h
    cases h
    exact iv_retc 1 hb2 (fun n => rfl)
def x93 (u : im_M) (a : Int32) (b : Int32) : Option (Int32 × im_M) :=
  bif Op.if_icmp.holds .ne ((a >>> (b &&& 31)) &&& (1 : Int32)) (1 : Int32) then
    (x93_1 u a b (0 : Int32))
  else
    (x93_1 u a b (1 : Int32))
set_option maxRecDepth 100000 in
set_option maxHeartbeats 4000000 in
theorem x93_ok {L : Nat} {xs : Nat → Int32} {g u mm : im_M} {o : Nat → Int64} {Y : iv_A} {a b ret : Int32} (h : x93 u a b = some (ret, mm)) : iv_ev (iv_Xs L xs) 93 0 [.int a, .int b] [] (im_H g u o Y) 0 0 (.inl (some (.int ret)), im_H g mm o Y) := by
  unfold x93 at h
  cases hb1 : Op.if_icmp.holds .ne ((a >>> (b &&& 31)) &&& (1 : Int32)) (1 : Int32) with
  | true =>
    have h := iv_bt hb1 h
    refine iv_brt (mi' := 93) (pc' := 13) (ls' := [.int a, .int b]) (st' := []) (A' := im_H g u o Y) (c' := 0) (s' := 0) (mi'' := 93) (pc'' := 9) (ls'' := [.int a, .int b]) (st'' := []) (A'' := im_H g u o Y) (c'' := 0) (s'' := 0) 7 0 0 hb1 (fun n => rfl) ?_
    refine iv_blk (mi' := 93) (pc' := 14) (ls' := [.int a, .int b]) (st' := [.int (0 : Int32)]) (A' := im_H g u o Y) (c' := 0) (s' := 0) 1 (fun n => rfl) ?_
    exact x93_1_ok (u := u) (y0 := a) (y1 := b) (y2 := (0 : Int32)) h
  | false =>
    have h := iv_bf hb1 h
    refine iv_brf (mi' := 93) (pc' := 13) (ls' := [.int a, .int b]) (st' := []) (A' := im_H g u o Y) (c' := 0) (s' := 0) (mi'' := 93) (pc'' := 9) (ls'' := [.int a, .int b]) (st'' := []) (A'' := im_H g u o Y) (c'' := 0) (s'' := 0) 7 0 0 hb1 (fun n => rfl) ?_
    refine iv_blk (mi' := 93) (pc' := 14) (ls' := [.int a, .int b]) (st' := [.int (1 : Int32)]) (A' := im_H g u o Y) (c' := 0) (s' := 0) 2 (fun n => rfl) ?_
    exact x93_1_ok (u := u) (y0 := a) (y1 := b) (y2 := (1 : Int32)) h
def x89_2 (u : im_M) (y0 : Int32) (y1 : Int32) (y2 : Int32) (y3 : Int32) : Option (Int32 × im_M) :=
  some (((y2 * ((1000 : Int32) - (y0 - y0 / (1000 : Int32) * (1000 : Int32)))) + (y3 * (y0 - y0 / (1000 : Int32) * (1000 : Int32)))), u)
set_option maxRecDepth 100000 in
set_option maxHeartbeats 4000000 in
theorem x89_2_ok {L : Nat} {xs : Nat → Int32} {g u mm : im_M} {o : Nat → Int64} {Y : iv_A} {y0 y1 y2 y3 ret : Int32} (h : x89_2 u y0 y1 y2 y3 = some (ret, mm)) : iv_ev (iv_Xs L xs) 89 98 [.int y0, .int y1, .int y2, .retAddr 0, .retAddr 0] [.int y3] (im_H g u o Y) 0 0 (.inl (some (.int ret)), im_H g mm o Y) := by
  unfold x89_2 at h
  cases h
  exact iv_ret 15 (fun n => rfl)
def x89_1 (u : im_M) (y0 : Int32) (y1 : Int32) (y2 : Int32) : Option (Int32 × im_M) :=
  bif Op.ifCond.holds .ne y1 then
    (bif Op.if_icmp.holds .ne y1 (1 : Int32) then
      (bif Op.if_icmp.holds .ne y1 (2 : Int32) then
        (x89_2 u y0 y1 y2 (1500 : Int32))
      else
        (x89_2 u y0 y1 y2 (2200 : Int32)))
    else
      (x89_2 u y0 y1 y2 (2900 : Int32)))
  else
    (x89_2 u y0 y1 y2 (3300 : Int32))
set_option maxRecDepth 100000 in
set_option maxHeartbeats 4000000 in
theorem x89_1_ok {L : Nat} {xs : Nat → Int32} {g u mm : im_M} {o : Nat → Int64} {Y : iv_A} {y0 y1 y2 ret : Int32} (h : x89_1 u y0 y1 y2 = some (ret, mm)) : iv_ev (iv_Xs L xs) 89 62 [.int y0, .int y1, .retAddr 0, .retAddr 0, .retAddr 0] [.int y2] (im_H g u o Y) 0 0 (.inl (some (.int ret)), im_H g mm o Y) := by
  unfold x89_1 at h
  cases hb6 : Op.ifCond.holds .ne y1 with
  | true =>
    have h := iv_bt hb6 h
    refine iv_brt (mi' := 89) (pc' := 73) (ls' := [.int y0, .int y1, .int y2, .retAddr 0, .retAddr 0]) (st' := []) (A' := im_H g u o Y) (c' := 0) (s' := 0) (mi'' := 89) (pc'' := 67) (ls'' := [.int y0, .int y1, .int y2, .retAddr 0, .retAddr 0]) (st'' := []) (A'' := im_H g u o Y) (c'' := 0) (s'' := 0) 3 0 0 hb6 (fun n => rfl) ?_
    cases hb7 : Op.if_icmp.holds .ne y1 (1 : Int32) with
    | true =>
      have h := iv_bt hb7 h
      refine iv_brt (mi' := 89) (pc' := 84) (ls' := [.int y0, .int y1, .int y2, .retAddr 0, .retAddr 0]) (st' := []) (A' := im_H g u o Y) (c' := 0) (s' := 0) (mi'' := 89) (pc'' := 78) (ls'' := [.int y0, .int y1, .int y2, .retAddr 0, .retAddr 0]) (st'' := []) (A'' := im_H g u o Y) (c'' := 0) (s'' := 0) 3 0 0 hb7 (fun n => rfl) ?_
      cases hb8 : Op.if_icmp.holds .ne y1 (2 : Int32) with
      | true =>
        have h := iv_bt hb8 h
        refine iv_brt (mi' := 89) (pc' := 95) (ls' := [.int y0, .int y1, .int y2, .retAddr 0, .retAddr 0]) (st' := []) (A' := im_H g u o Y) (c' := 0) (s' := 0) (mi'' := 89) (pc'' := 89) (ls'' := [.int y0, .int y1, .int y2, .retAddr 0, .retAddr 0]) (st'' := []) (A'' := im_H g u o Y) (c'' := 0) (s'' := 0) 3 0 0 hb8 (fun n => rfl) ?_
        refine iv_blk (mi' := 89) (pc' := 98) (ls' := [.int y0, .int y1, .int y2, .retAddr 0, .retAddr 0]) (st' := [.int (1500 : Int32)]) (A' := im_H g u o Y) (c' := 0) (s' := 0) 1 (fun n => rfl) ?_
        exact x89_2_ok (u := u) (y0 := y0) (y1 := y1) (y2 := y2) (y3 := (1500 : Int32)) h
      | false =>
        have h := iv_bf hb8 h
        refine iv_brf (mi' := 89) (pc' := 95) (ls' := [.int y0, .int y1, .int y2, .retAddr 0, .retAddr 0]) (st' := []) (A' := im_H g u o Y) (c' := 0) (s' := 0) (mi'' := 89) (pc'' := 89) (ls'' := [.int y0, .int y1, .int y2, .retAddr 0, .retAddr 0]) (st'' := []) (A'' := im_H g u o Y) (c'' := 0) (s'' := 0) 3 0 0 hb8 (fun n => rfl) ?_
        refine iv_blk (mi' := 89) (pc' := 98) (ls' := [.int y0, .int y1, .int y2, .retAddr 0, .retAddr 0]) (st' := [.int (2200 : Int32)]) (A' := im_H g u o Y) (c' := 0) (s' := 0) 2 (fun n => rfl) ?_
        exact x89_2_ok (u := u) (y0 := y0) (y1 := y1) (y2 := y2) (y3 := (2200 : Int32)) h
    | false =>
      have h := iv_bf hb7 h
      refine iv_brf (mi' := 89) (pc' := 84) (ls' := [.int y0, .int y1, .int y2, .retAddr 0, .retAddr 0]) (st' := []) (A' := im_H g u o Y) (c' := 0) (s' := 0) (mi'' := 89) (pc'' := 78) (ls'' := [.int y0, .int y1, .int y2, .retAddr 0, .retAddr 0]) (st'' := []) (A'' := im_H g u o Y) (c'' := 0) (s'' := 0) 3 0 0 hb7 (fun n => rfl) ?_
      refine iv_blk (mi' := 89) (pc' := 98) (ls' := [.int y0, .int y1, .int y2, .retAddr 0, .retAddr 0]) (st' := [.int (2900 : Int32)]) (A' := im_H g u o Y) (c' := 0) (s' := 0) 2 (fun n => rfl) ?_
      exact x89_2_ok (u := u) (y0 := y0) (y1 := y1) (y2 := y2) (y3 := (2900 : Int32)) h
  | false =>
    have h := iv_bf hb6 h
    refine iv_brf (mi' := 89) (pc' := 73) (ls' := [.int y0, .int y1, .int y2, .retAddr 0, .retAddr 0]) (st' := []) (A' := im_H g u o Y) (c' := 0) (s' := 0) (mi'' := 89) (pc'' := 67) (ls'' := [.int y0, .int y1, .int y2, .retAddr 0, .retAddr 0]) (st'' := []) (A'' := im_H g u o Y) (c'' := 0) (s'' := 0) 3 0 0 hb6 (fun n => rfl) ?_
    refine iv_blk (mi' := 89) (pc' := 98) (ls' := [.int y0, .int y1, .int y2, .retAddr 0, .retAddr 0]) (st' := [.int (3300 : Int32)]) (A' := im_H g u o Y) (c' := 0) (s' := 0) 2 (fun n => rfl) ?_
    exact x89_2_ok (u := u) (y0 := y0) (y1 := y1) (y2 := y2) (y3 := (3300 : Int32)) h
def x89 (u : im_M) (a : Int32) : Option (Int32 × im_M) :=
  bif Op.if_icmp.holds .le a (4000 : Int32) then
    (bif Op.ifCond.holds .ne (a / (1000 : Int32)) then
      (bif Op.if_icmp.holds .ne (a / (1000 : Int32)) (1 : Int32) then
        (bif Op.if_icmp.holds .ne (a / (1000 : Int32)) (2 : Int32) then
          (bif Op.if_icmp.holds .ne (a / (1000 : Int32)) (3 : Int32) then
            (x89_1 u a (a / (1000 : Int32)) (1500 : Int32))
          else
            (x89_1 u a (a / (1000 : Int32)) (2200 : Int32)))
        else
          (x89_1 u a (a / (1000 : Int32)) (2900 : Int32)))
      else
        (x89_1 u a (a / (1000 : Int32)) (3300 : Int32)))
    else
      (x89_1 u a (a / (1000 : Int32)) (3600 : Int32)))
  else
    (some ((1500000 : Int32), u))
set_option maxRecDepth 100000 in
set_option maxHeartbeats 4000000 in
theorem x89_ok {L : Nat} {xs : Nat → Int32} {g u mm : im_M} {o : Nat → Int64} {Y : iv_A} {a ret : Int32} (h : x89 u a = some (ret, mm)) : iv_ev (iv_Xs L xs) 89 0 [.int a, .retAddr 0, .retAddr 0, .retAddr 0, .retAddr 0] [] (im_H g u o Y) 0 0 (.inl (some (.int ret)), im_H g mm o Y) := by
  unfold x89 at h
  cases hb1 : Op.if_icmp.holds .le a (4000 : Int32) with
  | true =>
    have h := iv_bt hb1 h
    refine iv_brt (mi' := 89) (pc' := 10) (ls' := [.int a, .retAddr 0, .retAddr 0, .retAddr 0, .retAddr 0]) (st' := []) (A' := im_H g u o Y) (c' := 0) (s' := 0) (mi'' := 89) (pc'' := 7) (ls'' := [.int a, .retAddr 0, .retAddr 0, .retAddr 0, .retAddr 0]) (st'' := []) (A'' := im_H g u o Y) (c'' := 0) (s'' := 0) 3 0 0 hb1 (fun n => rfl) ?_
    cases hb2 : Op.ifCond.holds .ne (a / (1000 : Int32)) with
    | true =>
      have h := iv_bt hb2 h
      refine iv_brt (mi' := 89) (pc' := 26) (ls' := [.int a, .int (a / (1000 : Int32)), .retAddr 0, .retAddr 0, .retAddr 0]) (st' := []) (A' := im_H g u o Y) (c' := 0) (s' := 0) (mi'' := 89) (pc'' := 20) (ls'' := [.int a, .int (a / (1000 : Int32)), .retAddr 0, .retAddr 0, .retAddr 0]) (st'' := []) (A'' := im_H g u o Y) (c'' := 0) (s'' := 0) 6 0 0 hb2 (fun n => rfl) ?_
      cases hb3 : Op.if_icmp.holds .ne (a / (1000 : Int32)) (1 : Int32) with
      | true =>
        have h := iv_bt hb3 h
        refine iv_brt (mi' := 89) (pc' := 37) (ls' := [.int a, .int (a / (1000 : Int32)), .retAddr 0, .retAddr 0, .retAddr 0]) (st' := []) (A' := im_H g u o Y) (c' := 0) (s' := 0) (mi'' := 89) (pc'' := 31) (ls'' := [.int a, .int (a / (1000 : Int32)), .retAddr 0, .retAddr 0, .retAddr 0]) (st'' := []) (A'' := im_H g u o Y) (c'' := 0) (s'' := 0) 3 0 0 hb3 (fun n => rfl) ?_
        cases hb4 : Op.if_icmp.holds .ne (a / (1000 : Int32)) (2 : Int32) with
        | true =>
          have h := iv_bt hb4 h
          refine iv_brt (mi' := 89) (pc' := 48) (ls' := [.int a, .int (a / (1000 : Int32)), .retAddr 0, .retAddr 0, .retAddr 0]) (st' := []) (A' := im_H g u o Y) (c' := 0) (s' := 0) (mi'' := 89) (pc'' := 42) (ls'' := [.int a, .int (a / (1000 : Int32)), .retAddr 0, .retAddr 0, .retAddr 0]) (st'' := []) (A'' := im_H g u o Y) (c'' := 0) (s'' := 0) 3 0 0 hb4 (fun n => rfl) ?_
          cases hb5 : Op.if_icmp.holds .ne (a / (1000 : Int32)) (3 : Int32) with
          | true =>
            have h := iv_bt hb5 h
            refine iv_brt (mi' := 89) (pc' := 59) (ls' := [.int a, .int (a / (1000 : Int32)), .retAddr 0, .retAddr 0, .retAddr 0]) (st' := []) (A' := im_H g u o Y) (c' := 0) (s' := 0) (mi'' := 89) (pc'' := 53) (ls'' := [.int a, .int (a / (1000 : Int32)), .retAddr 0, .retAddr 0, .retAddr 0]) (st'' := []) (A'' := im_H g u o Y) (c'' := 0) (s'' := 0) 3 0 0 hb5 (fun n => rfl) ?_
            refine iv_blk (mi' := 89) (pc' := 62) (ls' := [.int a, .int (a / (1000 : Int32)), .retAddr 0, .retAddr 0, .retAddr 0]) (st' := [.int (1500 : Int32)]) (A' := im_H g u o Y) (c' := 0) (s' := 0) 1 (fun n => rfl) ?_
            exact x89_1_ok (u := u) (y0 := a) (y1 := (a / (1000 : Int32))) (y2 := (1500 : Int32)) h
          | false =>
            have h := iv_bf hb5 h
            refine iv_brf (mi' := 89) (pc' := 59) (ls' := [.int a, .int (a / (1000 : Int32)), .retAddr 0, .retAddr 0, .retAddr 0]) (st' := []) (A' := im_H g u o Y) (c' := 0) (s' := 0) (mi'' := 89) (pc'' := 53) (ls'' := [.int a, .int (a / (1000 : Int32)), .retAddr 0, .retAddr 0, .retAddr 0]) (st'' := []) (A'' := im_H g u o Y) (c'' := 0) (s'' := 0) 3 0 0 hb5 (fun n => rfl) ?_
            refine iv_blk (mi' := 89) (pc' := 62) (ls' := [.int a, .int (a / (1000 : Int32)), .retAddr 0, .retAddr 0, .retAddr 0]) (st' := [.int (2200 : Int32)]) (A' := im_H g u o Y) (c' := 0) (s' := 0) 2 (fun n => rfl) ?_
            exact x89_1_ok (u := u) (y0 := a) (y1 := (a / (1000 : Int32))) (y2 := (2200 : Int32)) h
        | false =>
          have h := iv_bf hb4 h
          refine iv_brf (mi' := 89) (pc' := 48) (ls' := [.int a, .int (a / (1000 : Int32)), .retAddr 0, .retAddr 0, .retAddr 0]) (st' := []) (A' := im_H g u o Y) (c' := 0) (s' := 0) (mi'' := 89) (pc'' := 42) (ls'' := [.int a, .int (a / (1000 : Int32)), .retAddr 0, .retAddr 0, .retAddr 0]) (st'' := []) (A'' := im_H g u o Y) (c'' := 0) (s'' := 0) 3 0 0 hb4 (fun n => rfl) ?_
          refine iv_blk (mi' := 89) (pc' := 62) (ls' := [.int a, .int (a / (1000 : Int32)), .retAddr 0, .retAddr 0, .retAddr 0]) (st' := [.int (2900 : Int32)]) (A' := im_H g u o Y) (c' := 0) (s' := 0) 2 (fun n => rfl) ?_
          exact x89_1_ok (u := u) (y0 := a) (y1 := (a / (1000 : Int32))) (y2 := (2900 : Int32)) h
      | false =>
        have h := iv_bf hb3 h
        refine iv_brf (mi' := 89) (pc' := 37) (ls' := [.int a, .int (a / (1000 : Int32)), .retAddr 0, .retAddr 0, .retAddr 0]) (st' := []) (A' := im_H g u o Y) (c' := 0) (s' := 0) (mi'' := 89) (pc'' := 31) (ls'' := [.int a, .int (a / (1000 : Int32)), .retAddr 0, .retAddr 0, .retAddr 0]) (st'' := []) (A'' := im_H g u o Y) (c'' := 0) (s'' := 0) 3 0 0 hb3 (fun n => rfl) ?_
        refine iv_blk (mi' := 89) (pc' := 62) (ls' := [.int a, .int (a / (1000 : Int32)), .retAddr 0, .retAddr 0, .retAddr 0]) (st' := [.int (3300 : Int32)]) (A' := im_H g u o Y) (c' := 0) (s' := 0) 2 (fun n => rfl) ?_
        exact x89_1_ok (u := u) (y0 := a) (y1 := (a / (1000 : Int32))) (y2 := (3300 : Int32)) h
    | false =>
      have h := iv_bf hb2 h
      refine iv_brf (mi' := 89) (pc' := 26) (ls' := [.int a, .int (a / (1000 : Int32)), .retAddr 0, .retAddr 0, .retAddr 0]) (st' := []) (A' := im_H g u o Y) (c' := 0) (s' := 0) (mi'' := 89) (pc'' := 20) (ls'' := [.int a, .int (a / (1000 : Int32)), .retAddr 0, .retAddr 0, .retAddr 0]) (st'' := []) (A'' := im_H g u o Y) (c'' := 0) (s'' := 0) 6 0 0 hb2 (fun n => rfl) ?_
      refine iv_blk (mi' := 89) (pc' := 62) (ls' := [.int a, .int (a / (1000 : Int32)), .retAddr 0, .retAddr 0, .retAddr 0]) (st' := [.int (3600 : Int32)]) (A' := im_H g u o Y) (c' := 0) (s' := 0) 2 (fun n => rfl) ?_
      exact x89_1_ok (u := u) (y0 := a) (y1 := (a / (1000 : Int32))) (y2 := (3600 : Int32)) h
  | false =>
    have h := iv_bf hb1 h
    refine iv_brf (mi' := 89) (pc' := 10) (ls' := [.int a, .retAddr 0, .retAddr 0, .retAddr 0, .retAddr 0]) (st' := []) (A' := im_H g u o Y) (c' := 0) (s' := 0) (mi'' := 89) (pc'' := 7) (ls'' := [.int a, .retAddr 0, .retAddr 0, .retAddr 0, .retAddr 0]) (st'' := []) (A'' := im_H g u o Y) (c'' := 0) (s'' := 0) 3 0 0 hb1 (fun n => rfl) ?_
    cases h
    exact iv_ret 2 (fun n => rfl)
def x101_r37 (u : im_M) (a : Int32) : Option (Int32 × im_M) :=
  bif iv_in (u 37 2) 520 then
    some (((((u 42) ((u 37 2)).toNatClampNeg) >>> (((3 : Int32) * a) &&& 31)) &&& (7 : Int32)), u)
  else none
set_option maxRecDepth 100000 in
set_option maxHeartbeats 4000000 in
theorem x101_r37_ok {L : Nat} {xs : Nat → Int32} {g u mm : im_M} {o : Nat → Int64} {Y : iv_A} {a ret : Int32} (h : x101_r37 u a = some (ret, mm)) : iv_ev (iv_Xs L xs) 101 0 [.ref 40, .int a] [] (im_H g u o Y) 0 0 (.inl (some (.int ret)), im_H g mm o Y) := by
  unfold x101_r37 at h
  cases hb1 : iv_in (u 37 2) 520 with
  | false => exact (iv_bn hb1 h).elim
  | true =>
    have h := iv_bt hb1 h
    refine iv_chk (mi' := 101) (pc' := 9) (ls' := [.ref 40, .int a]) (st' := [.int ((u 42) ((u 37 2)).toNatClampNeg)]) (A' := im_H g u o Y) (c' := 0) (s' := 0) 5 hb1 (fun n => rfl) ?_
    cases h
    exact iv_ret 7 (fun n => rfl)
def x94_r37 (u : im_M) (a : Int32) (b : Int32) (c : Int32) : Option (Int32 × im_M) :=
  bif iv_in ((u 37 22) - (u 37 22) / (40 : Int32) * (40 : Int32)) 40 then
    some (0, (im_w (im_w (im_w (im_w (im_w u 54 (((u 37 22) - (u 37 22) / (40 : Int32) * (40 : Int32))).toNatClampNeg (u 37 2)) 55 (((u 37 22) - (u 37 22) / (40 : Int32) * (40 : Int32))).toNatClampNeg a) 56 (((u 37 22) - (u 37 22) / (40 : Int32) * (40 : Int32))).toNatClampNeg b) 57 (((u 37 22) - (u 37 22) / (40 : Int32) * (40 : Int32))).toNatClampNeg c) 37 22 ((u 37 22) + (1 : Int32))))
  else none
set_option maxRecDepth 100000 in
set_option maxHeartbeats 4000000 in
theorem x94_r37_ok {L : Nat} {xs : Nat → Int32} {g u mm : im_M} {o : Nat → Int64} {Y : iv_A} {a b c ret : Int32} (h : x94_r37 u a b c = some (ret, mm)) : iv_ev (iv_Xs L xs) 94 0 [.ref 40, .int a, .int b, .int c, .retAddr 0] [] (im_H g u o Y) 0 0 (.inl none, im_H g mm o Y) := by
  unfold x94_r37 at h
  cases hb1 : iv_in ((u 37 22) - (u 37 22) / (40 : Int32) * (40 : Int32)) 40 with
  | false => exact (iv_bn hb1 h).elim
  | true =>
    have h := iv_bt hb1 h
    refine iv_chk (mi' := 94) (pc' := 20) (ls' := [.ref 40, .int a, .int b, .int c, .int ((u 37 22) - (u 37 22) / (40 : Int32) * (40 : Int32))]) (st' := []) (A' := List.set (im_H g u o Y) 54 (.inl (0, 40, .inl (upd (u 54) (((u 37 22) - (u 37 22) / (40 : Int32) * (40 : Int32))).toNatClampNeg (u 37 2))))) (c' := 0) (s' := 0) 11 hb1 (fun n => rfl) ?_
    rw [im_a54]
    refine iv_chk (mi' := 94) (pc' := 28) (ls' := [.ref 40, .int a, .int b, .int c, .int ((u 37 22) - (u 37 22) / (40 : Int32) * (40 : Int32))]) (st' := []) (A' := List.set (im_H g (im_w u 54 (((u 37 22) - (u 37 22) / (40 : Int32) * (40 : Int32))).toNatClampNeg (u 37 2)) o Y) 55 (.inl (0, 40, .inl (upd ((im_w u 54 (((u 37 22) - (u 37 22) / (40 : Int32) * (40 : Int32))).toNatClampNeg (u 37 2)) 55) (((u 37 22) - (u 37 22) / (40 : Int32) * (40 : Int32))).toNatClampNeg a)))) (c' := 0) (s' := 0) 5 hb1 (fun n => rfl) ?_
    rw [im_a55]
    refine iv_chk (mi' := 94) (pc' := 36) (ls' := [.ref 40, .int a, .int b, .int c, .int ((u 37 22) - (u 37 22) / (40 : Int32) * (40 : Int32))]) (st' := []) (A' := List.set (im_H g (im_w (im_w u 54 (((u 37 22) - (u 37 22) / (40 : Int32) * (40 : Int32))).toNatClampNeg (u 37 2)) 55 (((u 37 22) - (u 37 22) / (40 : Int32) * (40 : Int32))).toNatClampNeg a) o Y) 56 (.inl (0, 40, .inl (upd ((im_w (im_w u 54 (((u 37 22) - (u 37 22) / (40 : Int32) * (40 : Int32))).toNatClampNeg (u 37 2)) 55 (((u 37 22) - (u 37 22) / (40 : Int32) * (40 : Int32))).toNatClampNeg a) 56) (((u 37 22) - (u 37 22) / (40 : Int32) * (40 : Int32))).toNatClampNeg b)))) (c' := 0) (s' := 0) 5 hb1 (fun n => rfl) ?_
    rw [im_a56]
    refine iv_chk (mi' := 94) (pc' := 44) (ls' := [.ref 40, .int a, .int b, .int c, .int ((u 37 22) - (u 37 22) / (40 : Int32) * (40 : Int32))]) (st' := []) (A' := List.set (im_H g (im_w (im_w (im_w u 54 (((u 37 22) - (u 37 22) / (40 : Int32) * (40 : Int32))).toNatClampNeg (u 37 2)) 55 (((u 37 22) - (u 37 22) / (40 : Int32) * (40 : Int32))).toNatClampNeg a) 56 (((u 37 22) - (u 37 22) / (40 : Int32) * (40 : Int32))).toNatClampNeg b) o Y) 57 (.inl (0, 40, .inl (upd ((im_w (im_w (im_w u 54 (((u 37 22) - (u 37 22) / (40 : Int32) * (40 : Int32))).toNatClampNeg (u 37 2)) 55 (((u 37 22) - (u 37 22) / (40 : Int32) * (40 : Int32))).toNatClampNeg a) 56 (((u 37 22) - (u 37 22) / (40 : Int32) * (40 : Int32))).toNatClampNeg b) 57) (((u 37 22) - (u 37 22) / (40 : Int32) * (40 : Int32))).toNatClampNeg c)))) (c' := 0) (s' := 0) 5 hb1 (fun n => rfl) ?_
    rw [im_a57]
    refine iv_blk (mi' := 94) (pc' := 54) (ls' := [.ref 40, .int a, .int b, .int c, .int ((u 37 22) - (u 37 22) / (40 : Int32) * (40 : Int32))]) (st' := []) (A' := List.set (im_H g (im_w (im_w (im_w (im_w u 54 (((u 37 22) - (u 37 22) / (40 : Int32) * (40 : Int32))).toNatClampNeg (u 37 2)) 55 (((u 37 22) - (u 37 22) / (40 : Int32) * (40 : Int32))).toNatClampNeg a) 56 (((u 37 22) - (u 37 22) / (40 : Int32) * (40 : Int32))).toNatClampNeg b) 57 (((u 37 22) - (u 37 22) / (40 : Int32) * (40 : Int32))).toNatClampNeg c) o Y) 37 (.inr (6, List.set [.int ((im_w (im_w (im_w (im_w u 54 (((u 37 22) - (u 37 22) / (40 : Int32) * (40 : Int32))).toNatClampNeg (u 37 2)) 55 (((u 37 22) - (u 37 22) / (40 : Int32) * (40 : Int32))).toNatClampNeg a) 56 (((u 37 22) - (u 37 22) / (40 : Int32) * (40 : Int32))).toNatClampNeg b) 57 (((u 37 22) - (u 37 22) / (40 : Int32) * (40 : Int32))).toNatClampNeg c) 37 0), .int ((im_w (im_w (im_w (im_w u 54 (((u 37 22) - (u 37 22) / (40 : Int32) * (40 : Int32))).toNatClampNeg (u 37 2)) 55 (((u 37 22) - (u 37 22) / (40 : Int32) * (40 : Int32))).toNatClampNeg a) 56 (((u 37 22) - (u 37 22) / (40 : Int32) * (40 : Int32))).toNatClampNeg b) 57 (((u 37 22) - (u 37 22) / (40 : Int32) * (40 : Int32))).toNatClampNeg c) 37 1), .int ((im_w (im_w (im_w (im_w u 54 (((u 37 22) - (u 37 22) / (40 : Int32) * (40 : Int32))).toNatClampNeg (u 37 2)) 55 (((u 37 22) - (u 37 22) / (40 : Int32) * (40 : Int32))).toNatClampNeg a) 56 (((u 37 22) - (u 37 22) / (40 : Int32) * (40 : Int32))).toNatClampNeg b) 57 (((u 37 22) - (u 37 22) / (40 : Int32) * (40 : Int32))).toNatClampNeg c) 37 2), .ref 41, .ref 42, .ref 43, .ref 44, .ref 45, .ref 46, .ref 47, .ref 48, .ref 49, .ref 50, .ref 51, .ref 52, .ref 53, .ref 54, .ref 55, .ref 56, .int ((im_w (im_w (im_w (im_w u 54 (((u 37 22) - (u 37 22) / (40 : Int32) * (40 : Int32))).toNatClampNeg (u 37 2)) 55 (((u 37 22) - (u 37 22) / (40 : Int32) * (40 : Int32))).toNatClampNeg a) 56 (((u 37 22) - (u 37 22) / (40 : Int32) * (40 : Int32))).toNatClampNeg b) 57 (((u 37 22) - (u 37 22) / (40 : Int32) * (40 : Int32))).toNatClampNeg c) 37 19), .int ((im_w (im_w (im_w (im_w u 54 (((u 37 22) - (u 37 22) / (40 : Int32) * (40 : Int32))).toNatClampNeg (u 37 2)) 55 (((u 37 22) - (u 37 22) / (40 : Int32) * (40 : Int32))).toNatClampNeg a) 56 (((u 37 22) - (u 37 22) / (40 : Int32) * (40 : Int32))).toNatClampNeg b) 57 (((u 37 22) - (u 37 22) / (40 : Int32) * (40 : Int32))).toNatClampNeg c) 37 20), .int ((im_w (im_w (im_w (im_w u 54 (((u 37 22) - (u 37 22) / (40 : Int32) * (40 : Int32))).toNatClampNeg (u 37 2)) 55 (((u 37 22) - (u 37 22) / (40 : Int32) * (40 : Int32))).toNatClampNeg a) 56 (((u 37 22) - (u 37 22) / (40 : Int32) * (40 : Int32))).toNatClampNeg b) 57 (((u 37 22) - (u 37 22) / (40 : Int32) * (40 : Int32))).toNatClampNeg c) 37 21), .int ((im_w (im_w (im_w (im_w u 54 (((u 37 22) - (u 37 22) / (40 : Int32) * (40 : Int32))).toNatClampNeg (u 37 2)) 55 (((u 37 22) - (u 37 22) / (40 : Int32) * (40 : Int32))).toNatClampNeg a) 56 (((u 37 22) - (u 37 22) / (40 : Int32) * (40 : Int32))).toNatClampNeg b) 57 (((u 37 22) - (u 37 22) / (40 : Int32) * (40 : Int32))).toNatClampNeg c) 37 22), .ref 57, .ref 58, .ref 59, .ref 60, .int ((im_w (im_w (im_w (im_w u 54 (((u 37 22) - (u 37 22) / (40 : Int32) * (40 : Int32))).toNatClampNeg (u 37 2)) 55 (((u 37 22) - (u 37 22) / (40 : Int32) * (40 : Int32))).toNatClampNeg a) 56 (((u 37 22) - (u 37 22) / (40 : Int32) * (40 : Int32))).toNatClampNeg b) 57 (((u 37 22) - (u 37 22) / (40 : Int32) * (40 : Int32))).toNatClampNeg c) 37 27), .int ((im_w (im_w (im_w (im_w u 54 (((u 37 22) - (u 37 22) / (40 : Int32) * (40 : Int32))).toNatClampNeg (u 37 2)) 55 (((u 37 22) - (u 37 22) / (40 : Int32) * (40 : Int32))).toNatClampNeg a) 56 (((u 37 22) - (u 37 22) / (40 : Int32) * (40 : Int32))).toNatClampNeg b) 57 (((u 37 22) - (u 37 22) / (40 : Int32) * (40 : Int32))).toNatClampNeg c) 37 28), .int ((im_w (im_w (im_w (im_w u 54 (((u 37 22) - (u 37 22) / (40 : Int32) * (40 : Int32))).toNatClampNeg (u 37 2)) 55 (((u 37 22) - (u 37 22) / (40 : Int32) * (40 : Int32))).toNatClampNeg a) 56 (((u 37 22) - (u 37 22) / (40 : Int32) * (40 : Int32))).toNatClampNeg b) 57 (((u 37 22) - (u 37 22) / (40 : Int32) * (40 : Int32))).toNatClampNeg c) 37 29)] 22 (.int ((u 37 22) + (1 : Int32)))))) (c' := 0) (s' := 0) 6 (fun n => rfl) ?_
    rw [im_f37_22]
    cases h
    exact iv_ret 1 (fun n => rfl)
def x97_16 (u : im_M) (y0 : Int32) (y1 : Int32) (y2 : Int32) (y3 : Int32) : Option (Int32 × im_M) :=
  some (y3, u)
set_option maxRecDepth 100000 in
set_option maxHeartbeats 4000000 in
theorem x97_16_ok {L : Nat} {xs : Nat → Int32} {g u mm : im_M} {o : Nat → Int64} {Y : iv_A} {y0 y1 y2 y3 ret : Int32} (h : x97_16 u y0 y1 y2 y3 = some (ret, mm)) : iv_ev (iv_Xs L xs) 97 43 [.int y0, .int y1, .int y2, .int (8 : Int32)] [.int y3] (im_H g u o Y) 0 0 (.inl (some (.int ret)), im_H g mm o Y) := by
  unfold x97_16 at h
  cases h
  exact iv_ret 8 (fun n => rfl)
def x97_15 (u : im_M) (y0 : Int32) (y1 : Int32) (y2 : Int32) (y3 : Int32) : Option (Int32 × im_M) :=
  Option.bind (x93 u y3 (8 : Int32)) (fun q16 =>
    bif Op.ifCond.holds .eq q16.1 then
      (x97_16 q16.2 y0 y1 y3 y3)
    else
      (x97_16 q16.2 y0 y1 y3 (y3 ^^^ (263 : Int32))))
set_option maxRecDepth 100000 in
set_option maxHeartbeats 4000000 in
theorem x97_15_ok {L : Nat} {xs : Nat → Int32} {g u mm : im_M} {o : Nat → Int64} {Y : iv_A} {y0 y1 y2 y3 ret : Int32} (h : x97_15 u y0 y1 y2 y3 = some (ret, mm)) : iv_ev (iv_Xs L xs) 97 43 [.int y0, .int y1, .int y2, .int (9 : Int32)] [.int y3] (im_H g u o Y) 0 0 (.inl (some (.int ret)), im_H g mm o Y) := by
  unfold x97_15 at h
  obtain ⟨v16, g16, hc, h⟩ := iv_bd h
  refine iv_cal (mi' := 97) (pc' := 23) (ls' := [.int y0, .int y1, .int y3, .int (8 : Int32)]) (rest := []) (A' := im_H g u o Y) (c' := 0) (s' := 0) (as := [.int y3, .int (8 : Int32)]) (v := some (.int v16)) (A'' := im_H g g16 o Y) 9 93 (fun n => rfl) rfl (x93_ok (u := u) (a := y3) (b := (8 : Int32)) hc) ?_
  show iv_ev (iv_Xs L xs) 97 26 [.int y0, .int y1, .int y3, .int (8 : Int32)] [.int v16] (im_H g g16 o Y) 0 0 _
  cases hb16 : Op.ifCond.holds .eq v16 with
  | true =>
    have h := iv_bt hb16 h
    refine iv_brt (mi' := 97) (pc' := 42) (ls' := [.int y0, .int y1, .int y3, .int (8 : Int32)]) (st' := []) (A' := im_H g g16 o Y) (c' := 0) (s' := 0) (mi'' := 97) (pc'' := 29) (ls'' := [.int y0, .int y1, .int y3, .int (8 : Int32)]) (st'' := []) (A'' := im_H g g16 o Y) (c'' := 0) (s'' := 0) 1 0 0 hb16 (fun n => rfl) ?_
    refine iv_blk (mi' := 97) (pc' := 43) (ls' := [.int y0, .int y1, .int y3, .int (8 : Int32)]) (st' := [.int y3]) (A' := im_H g g16 o Y) (c' := 0) (s' := 0) 1 (fun n => rfl) ?_
    exact x97_16_ok (u := g16) (y0 := y0) (y1 := y1) (y2 := y3) (y3 := y3) h
  | false =>
    have h := iv_bf hb16 h
    refine iv_brf (mi' := 97) (pc' := 42) (ls' := [.int y0, .int y1, .int y3, .int (8 : Int32)]) (st' := []) (A' := im_H g g16 o Y) (c' := 0) (s' := 0) (mi'' := 97) (pc'' := 29) (ls'' := [.int y0, .int y1, .int y3, .int (8 : Int32)]) (st'' := []) (A'' := im_H g g16 o Y) (c'' := 0) (s'' := 0) 1 0 0 hb16 (fun n => rfl) ?_
    refine iv_blk (mi' := 97) (pc' := 43) (ls' := [.int y0, .int y1, .int y3, .int (8 : Int32)]) (st' := [.int (y3 ^^^ (263 : Int32))]) (A' := im_H g g16 o Y) (c' := 0) (s' := 0) 8 (fun n => rfl) ?_
    exact x97_16_ok (u := g16) (y0 := y0) (y1 := y1) (y2 := y3) (y3 := (y3 ^^^ (263 : Int32))) h
def x97_14 (u : im_M) (y0 : Int32) (y1 : Int32) (y2 : Int32) (y3 : Int32) : Option (Int32 × im_M) :=
  Option.bind (x93 u y3 (9 : Int32)) (fun q15 =>
    bif Op.ifCond.holds .eq q15.1 then
      (x97_15 q15.2 y0 y1 y3 y3)
    else
      (x97_15 q15.2 y0 y1 y3 (y3 ^^^ (526 : Int32))))
set_option maxRecDepth 100000 in
set_option maxHeartbeats 4000000 in
theorem x97_14_ok {L : Nat} {xs : Nat → Int32} {g u mm : im_M} {o : Nat → Int64} {Y : iv_A} {y0 y1 y2 y3 ret : Int32} (h : x97_14 u y0 y1 y2 y3 = some (ret, mm)) : iv_ev (iv_Xs L xs) 97 43 [.int y0, .int y1, .int y2, .int (10 : Int32)] [.int y3] (im_H g u o Y) 0 0 (.inl (some (.int ret)), im_H g mm o Y) := by
  unfold x97_14 at h
  obtain ⟨v15, g15, hc, h⟩ := iv_bd h
  refine iv_cal (mi' := 97) (pc' := 23) (ls' := [.int y0, .int y1, .int y3, .int (9 : Int32)]) (rest := []) (A' := im_H g u o Y) (c' := 0) (s' := 0) (as := [.int y3, .int (9 : Int32)]) (v := some (.int v15)) (A'' := im_H g g15 o Y) 9 93 (fun n => rfl) rfl (x93_ok (u := u) (a := y3) (b := (9 : Int32)) hc) ?_
  show iv_ev (iv_Xs L xs) 97 26 [.int y0, .int y1, .int y3, .int (9 : Int32)] [.int v15] (im_H g g15 o Y) 0 0 _
  cases hb15 : Op.ifCond.holds .eq v15 with
  | true =>
    have h := iv_bt hb15 h
    refine iv_brt (mi' := 97) (pc' := 42) (ls' := [.int y0, .int y1, .int y3, .int (9 : Int32)]) (st' := []) (A' := im_H g g15 o Y) (c' := 0) (s' := 0) (mi'' := 97) (pc'' := 29) (ls'' := [.int y0, .int y1, .int y3, .int (9 : Int32)]) (st'' := []) (A'' := im_H g g15 o Y) (c'' := 0) (s'' := 0) 1 0 0 hb15 (fun n => rfl) ?_
    refine iv_blk (mi' := 97) (pc' := 43) (ls' := [.int y0, .int y1, .int y3, .int (9 : Int32)]) (st' := [.int y3]) (A' := im_H g g15 o Y) (c' := 0) (s' := 0) 1 (fun n => rfl) ?_
    exact x97_15_ok (u := g15) (y0 := y0) (y1 := y1) (y2 := y3) (y3 := y3) h
  | false =>
    have h := iv_bf hb15 h
    refine iv_brf (mi' := 97) (pc' := 42) (ls' := [.int y0, .int y1, .int y3, .int (9 : Int32)]) (st' := []) (A' := im_H g g15 o Y) (c' := 0) (s' := 0) (mi'' := 97) (pc'' := 29) (ls'' := [.int y0, .int y1, .int y3, .int (9 : Int32)]) (st'' := []) (A'' := im_H g g15 o Y) (c'' := 0) (s'' := 0) 1 0 0 hb15 (fun n => rfl) ?_
    refine iv_blk (mi' := 97) (pc' := 43) (ls' := [.int y0, .int y1, .int y3, .int (9 : Int32)]) (st' := [.int (y3 ^^^ (526 : Int32))]) (A' := im_H g g15 o Y) (c' := 0) (s' := 0) 8 (fun n => rfl) ?_
    exact x97_15_ok (u := g15) (y0 := y0) (y1 := y1) (y2 := y3) (y3 := (y3 ^^^ (526 : Int32))) h
def x97_13 (u : im_M) (y0 : Int32) (y1 : Int32) (y2 : Int32) (y3 : Int32) : Option (Int32 × im_M) :=
  Option.bind (x93 u y3 (10 : Int32)) (fun q14 =>
    bif Op.ifCond.holds .eq q14.1 then
      (x97_14 q14.2 y0 y1 y3 y3)
    else
      (x97_14 q14.2 y0 y1 y3 (y3 ^^^ (1052 : Int32))))
set_option maxRecDepth 100000 in
set_option maxHeartbeats 4000000 in
theorem x97_13_ok {L : Nat} {xs : Nat → Int32} {g u mm : im_M} {o : Nat → Int64} {Y : iv_A} {y0 y1 y2 y3 ret : Int32} (h : x97_13 u y0 y1 y2 y3 = some (ret, mm)) : iv_ev (iv_Xs L xs) 97 43 [.int y0, .int y1, .int y2, .int (11 : Int32)] [.int y3] (im_H g u o Y) 0 0 (.inl (some (.int ret)), im_H g mm o Y) := by
  unfold x97_13 at h
  obtain ⟨v14, g14, hc, h⟩ := iv_bd h
  refine iv_cal (mi' := 97) (pc' := 23) (ls' := [.int y0, .int y1, .int y3, .int (10 : Int32)]) (rest := []) (A' := im_H g u o Y) (c' := 0) (s' := 0) (as := [.int y3, .int (10 : Int32)]) (v := some (.int v14)) (A'' := im_H g g14 o Y) 9 93 (fun n => rfl) rfl (x93_ok (u := u) (a := y3) (b := (10 : Int32)) hc) ?_
  show iv_ev (iv_Xs L xs) 97 26 [.int y0, .int y1, .int y3, .int (10 : Int32)] [.int v14] (im_H g g14 o Y) 0 0 _
  cases hb14 : Op.ifCond.holds .eq v14 with
  | true =>
    have h := iv_bt hb14 h
    refine iv_brt (mi' := 97) (pc' := 42) (ls' := [.int y0, .int y1, .int y3, .int (10 : Int32)]) (st' := []) (A' := im_H g g14 o Y) (c' := 0) (s' := 0) (mi'' := 97) (pc'' := 29) (ls'' := [.int y0, .int y1, .int y3, .int (10 : Int32)]) (st'' := []) (A'' := im_H g g14 o Y) (c'' := 0) (s'' := 0) 1 0 0 hb14 (fun n => rfl) ?_
    refine iv_blk (mi' := 97) (pc' := 43) (ls' := [.int y0, .int y1, .int y3, .int (10 : Int32)]) (st' := [.int y3]) (A' := im_H g g14 o Y) (c' := 0) (s' := 0) 1 (fun n => rfl) ?_
    exact x97_14_ok (u := g14) (y0 := y0) (y1 := y1) (y2 := y3) (y3 := y3) h
  | false =>
    have h := iv_bf hb14 h
    refine iv_brf (mi' := 97) (pc' := 42) (ls' := [.int y0, .int y1, .int y3, .int (10 : Int32)]) (st' := []) (A' := im_H g g14 o Y) (c' := 0) (s' := 0) (mi'' := 97) (pc'' := 29) (ls'' := [.int y0, .int y1, .int y3, .int (10 : Int32)]) (st'' := []) (A'' := im_H g g14 o Y) (c'' := 0) (s'' := 0) 1 0 0 hb14 (fun n => rfl) ?_
    refine iv_blk (mi' := 97) (pc' := 43) (ls' := [.int y0, .int y1, .int y3, .int (10 : Int32)]) (st' := [.int (y3 ^^^ (1052 : Int32))]) (A' := im_H g g14 o Y) (c' := 0) (s' := 0) 8 (fun n => rfl) ?_
    exact x97_14_ok (u := g14) (y0 := y0) (y1 := y1) (y2 := y3) (y3 := (y3 ^^^ (1052 : Int32))) h
def x97_12 (u : im_M) (y0 : Int32) (y1 : Int32) (y2 : Int32) (y3 : Int32) : Option (Int32 × im_M) :=
  Option.bind (x93 u y3 (11 : Int32)) (fun q13 =>
    bif Op.ifCond.holds .eq q13.1 then
      (x97_13 q13.2 y0 y1 y3 y3)
    else
      (x97_13 q13.2 y0 y1 y3 (y3 ^^^ (2104 : Int32))))
set_option maxRecDepth 100000 in
set_option maxHeartbeats 4000000 in
theorem x97_12_ok {L : Nat} {xs : Nat → Int32} {g u mm : im_M} {o : Nat → Int64} {Y : iv_A} {y0 y1 y2 y3 ret : Int32} (h : x97_12 u y0 y1 y2 y3 = some (ret, mm)) : iv_ev (iv_Xs L xs) 97 43 [.int y0, .int y1, .int y2, .int (12 : Int32)] [.int y3] (im_H g u o Y) 0 0 (.inl (some (.int ret)), im_H g mm o Y) := by
  unfold x97_12 at h
  obtain ⟨v13, g13, hc, h⟩ := iv_bd h
  refine iv_cal (mi' := 97) (pc' := 23) (ls' := [.int y0, .int y1, .int y3, .int (11 : Int32)]) (rest := []) (A' := im_H g u o Y) (c' := 0) (s' := 0) (as := [.int y3, .int (11 : Int32)]) (v := some (.int v13)) (A'' := im_H g g13 o Y) 9 93 (fun n => rfl) rfl (x93_ok (u := u) (a := y3) (b := (11 : Int32)) hc) ?_
  show iv_ev (iv_Xs L xs) 97 26 [.int y0, .int y1, .int y3, .int (11 : Int32)] [.int v13] (im_H g g13 o Y) 0 0 _
  cases hb13 : Op.ifCond.holds .eq v13 with
  | true =>
    have h := iv_bt hb13 h
    refine iv_brt (mi' := 97) (pc' := 42) (ls' := [.int y0, .int y1, .int y3, .int (11 : Int32)]) (st' := []) (A' := im_H g g13 o Y) (c' := 0) (s' := 0) (mi'' := 97) (pc'' := 29) (ls'' := [.int y0, .int y1, .int y3, .int (11 : Int32)]) (st'' := []) (A'' := im_H g g13 o Y) (c'' := 0) (s'' := 0) 1 0 0 hb13 (fun n => rfl) ?_
    refine iv_blk (mi' := 97) (pc' := 43) (ls' := [.int y0, .int y1, .int y3, .int (11 : Int32)]) (st' := [.int y3]) (A' := im_H g g13 o Y) (c' := 0) (s' := 0) 1 (fun n => rfl) ?_
    exact x97_13_ok (u := g13) (y0 := y0) (y1 := y1) (y2 := y3) (y3 := y3) h
  | false =>
    have h := iv_bf hb13 h
    refine iv_brf (mi' := 97) (pc' := 42) (ls' := [.int y0, .int y1, .int y3, .int (11 : Int32)]) (st' := []) (A' := im_H g g13 o Y) (c' := 0) (s' := 0) (mi'' := 97) (pc'' := 29) (ls'' := [.int y0, .int y1, .int y3, .int (11 : Int32)]) (st'' := []) (A'' := im_H g g13 o Y) (c'' := 0) (s'' := 0) 1 0 0 hb13 (fun n => rfl) ?_
    refine iv_blk (mi' := 97) (pc' := 43) (ls' := [.int y0, .int y1, .int y3, .int (11 : Int32)]) (st' := [.int (y3 ^^^ (2104 : Int32))]) (A' := im_H g g13 o Y) (c' := 0) (s' := 0) 8 (fun n => rfl) ?_
    exact x97_13_ok (u := g13) (y0 := y0) (y1 := y1) (y2 := y3) (y3 := (y3 ^^^ (2104 : Int32))) h
def x97_11 (u : im_M) (y0 : Int32) (y1 : Int32) (y2 : Int32) (y3 : Int32) : Option (Int32 × im_M) :=
  Option.bind (x93 u y3 (12 : Int32)) (fun q12 =>
    bif Op.ifCond.holds .eq q12.1 then
      (x97_12 q12.2 y0 y1 y3 y3)
    else
      (x97_12 q12.2 y0 y1 y3 (y3 ^^^ (4208 : Int32))))
set_option maxRecDepth 100000 in
set_option maxHeartbeats 4000000 in
theorem x97_11_ok {L : Nat} {xs : Nat → Int32} {g u mm : im_M} {o : Nat → Int64} {Y : iv_A} {y0 y1 y2 y3 ret : Int32} (h : x97_11 u y0 y1 y2 y3 = some (ret, mm)) : iv_ev (iv_Xs L xs) 97 43 [.int y0, .int y1, .int y2, .int (13 : Int32)] [.int y3] (im_H g u o Y) 0 0 (.inl (some (.int ret)), im_H g mm o Y) := by
  unfold x97_11 at h
  obtain ⟨v12, g12, hc, h⟩ := iv_bd h
  refine iv_cal (mi' := 97) (pc' := 23) (ls' := [.int y0, .int y1, .int y3, .int (12 : Int32)]) (rest := []) (A' := im_H g u o Y) (c' := 0) (s' := 0) (as := [.int y3, .int (12 : Int32)]) (v := some (.int v12)) (A'' := im_H g g12 o Y) 9 93 (fun n => rfl) rfl (x93_ok (u := u) (a := y3) (b := (12 : Int32)) hc) ?_
  show iv_ev (iv_Xs L xs) 97 26 [.int y0, .int y1, .int y3, .int (12 : Int32)] [.int v12] (im_H g g12 o Y) 0 0 _
  cases hb12 : Op.ifCond.holds .eq v12 with
  | true =>
    have h := iv_bt hb12 h
    refine iv_brt (mi' := 97) (pc' := 42) (ls' := [.int y0, .int y1, .int y3, .int (12 : Int32)]) (st' := []) (A' := im_H g g12 o Y) (c' := 0) (s' := 0) (mi'' := 97) (pc'' := 29) (ls'' := [.int y0, .int y1, .int y3, .int (12 : Int32)]) (st'' := []) (A'' := im_H g g12 o Y) (c'' := 0) (s'' := 0) 1 0 0 hb12 (fun n => rfl) ?_
    refine iv_blk (mi' := 97) (pc' := 43) (ls' := [.int y0, .int y1, .int y3, .int (12 : Int32)]) (st' := [.int y3]) (A' := im_H g g12 o Y) (c' := 0) (s' := 0) 1 (fun n => rfl) ?_
    exact x97_12_ok (u := g12) (y0 := y0) (y1 := y1) (y2 := y3) (y3 := y3) h
  | false =>
    have h := iv_bf hb12 h
    refine iv_brf (mi' := 97) (pc' := 42) (ls' := [.int y0, .int y1, .int y3, .int (12 : Int32)]) (st' := []) (A' := im_H g g12 o Y) (c' := 0) (s' := 0) (mi'' := 97) (pc'' := 29) (ls'' := [.int y0, .int y1, .int y3, .int (12 : Int32)]) (st'' := []) (A'' := im_H g g12 o Y) (c'' := 0) (s'' := 0) 1 0 0 hb12 (fun n => rfl) ?_
    refine iv_blk (mi' := 97) (pc' := 43) (ls' := [.int y0, .int y1, .int y3, .int (12 : Int32)]) (st' := [.int (y3 ^^^ (4208 : Int32))]) (A' := im_H g g12 o Y) (c' := 0) (s' := 0) 8 (fun n => rfl) ?_
    exact x97_12_ok (u := g12) (y0 := y0) (y1 := y1) (y2 := y3) (y3 := (y3 ^^^ (4208 : Int32))) h
def x97_10 (u : im_M) (y0 : Int32) (y1 : Int32) (y2 : Int32) (y3 : Int32) : Option (Int32 × im_M) :=
  Option.bind (x93 u y3 (13 : Int32)) (fun q11 =>
    bif Op.ifCond.holds .eq q11.1 then
      (x97_11 q11.2 y0 y1 y3 y3)
    else
      (x97_11 q11.2 y0 y1 y3 (y3 ^^^ (8416 : Int32))))
set_option maxRecDepth 100000 in
set_option maxHeartbeats 4000000 in
theorem x97_10_ok {L : Nat} {xs : Nat → Int32} {g u mm : im_M} {o : Nat → Int64} {Y : iv_A} {y0 y1 y2 y3 ret : Int32} (h : x97_10 u y0 y1 y2 y3 = some (ret, mm)) : iv_ev (iv_Xs L xs) 97 43 [.int y0, .int y1, .int y2, .int (14 : Int32)] [.int y3] (im_H g u o Y) 0 0 (.inl (some (.int ret)), im_H g mm o Y) := by
  unfold x97_10 at h
  obtain ⟨v11, g11, hc, h⟩ := iv_bd h
  refine iv_cal (mi' := 97) (pc' := 23) (ls' := [.int y0, .int y1, .int y3, .int (13 : Int32)]) (rest := []) (A' := im_H g u o Y) (c' := 0) (s' := 0) (as := [.int y3, .int (13 : Int32)]) (v := some (.int v11)) (A'' := im_H g g11 o Y) 9 93 (fun n => rfl) rfl (x93_ok (u := u) (a := y3) (b := (13 : Int32)) hc) ?_
  show iv_ev (iv_Xs L xs) 97 26 [.int y0, .int y1, .int y3, .int (13 : Int32)] [.int v11] (im_H g g11 o Y) 0 0 _
  cases hb11 : Op.ifCond.holds .eq v11 with
  | true =>
    have h := iv_bt hb11 h
    refine iv_brt (mi' := 97) (pc' := 42) (ls' := [.int y0, .int y1, .int y3, .int (13 : Int32)]) (st' := []) (A' := im_H g g11 o Y) (c' := 0) (s' := 0) (mi'' := 97) (pc'' := 29) (ls'' := [.int y0, .int y1, .int y3, .int (13 : Int32)]) (st'' := []) (A'' := im_H g g11 o Y) (c'' := 0) (s'' := 0) 1 0 0 hb11 (fun n => rfl) ?_
    refine iv_blk (mi' := 97) (pc' := 43) (ls' := [.int y0, .int y1, .int y3, .int (13 : Int32)]) (st' := [.int y3]) (A' := im_H g g11 o Y) (c' := 0) (s' := 0) 1 (fun n => rfl) ?_
    exact x97_11_ok (u := g11) (y0 := y0) (y1 := y1) (y2 := y3) (y3 := y3) h
  | false =>
    have h := iv_bf hb11 h
    refine iv_brf (mi' := 97) (pc' := 42) (ls' := [.int y0, .int y1, .int y3, .int (13 : Int32)]) (st' := []) (A' := im_H g g11 o Y) (c' := 0) (s' := 0) (mi'' := 97) (pc'' := 29) (ls'' := [.int y0, .int y1, .int y3, .int (13 : Int32)]) (st'' := []) (A'' := im_H g g11 o Y) (c'' := 0) (s'' := 0) 1 0 0 hb11 (fun n => rfl) ?_
    refine iv_blk (mi' := 97) (pc' := 43) (ls' := [.int y0, .int y1, .int y3, .int (13 : Int32)]) (st' := [.int (y3 ^^^ (8416 : Int32))]) (A' := im_H g g11 o Y) (c' := 0) (s' := 0) 8 (fun n => rfl) ?_
    exact x97_11_ok (u := g11) (y0 := y0) (y1 := y1) (y2 := y3) (y3 := (y3 ^^^ (8416 : Int32))) h
def x97_9 (u : im_M) (y0 : Int32) (y1 : Int32) (y2 : Int32) (y3 : Int32) : Option (Int32 × im_M) :=
  Option.bind (x93 u y3 (14 : Int32)) (fun q10 =>
    bif Op.ifCond.holds .eq q10.1 then
      (x97_10 q10.2 y0 y1 y3 y3)
    else
      (x97_10 q10.2 y0 y1 y3 (y3 ^^^ (16832 : Int32))))
set_option maxRecDepth 100000 in
set_option maxHeartbeats 4000000 in
theorem x97_9_ok {L : Nat} {xs : Nat → Int32} {g u mm : im_M} {o : Nat → Int64} {Y : iv_A} {y0 y1 y2 y3 ret : Int32} (h : x97_9 u y0 y1 y2 y3 = some (ret, mm)) : iv_ev (iv_Xs L xs) 97 43 [.int y0, .int y1, .int y2, .int (15 : Int32)] [.int y3] (im_H g u o Y) 0 0 (.inl (some (.int ret)), im_H g mm o Y) := by
  unfold x97_9 at h
  obtain ⟨v10, g10, hc, h⟩ := iv_bd h
  refine iv_cal (mi' := 97) (pc' := 23) (ls' := [.int y0, .int y1, .int y3, .int (14 : Int32)]) (rest := []) (A' := im_H g u o Y) (c' := 0) (s' := 0) (as := [.int y3, .int (14 : Int32)]) (v := some (.int v10)) (A'' := im_H g g10 o Y) 9 93 (fun n => rfl) rfl (x93_ok (u := u) (a := y3) (b := (14 : Int32)) hc) ?_
  show iv_ev (iv_Xs L xs) 97 26 [.int y0, .int y1, .int y3, .int (14 : Int32)] [.int v10] (im_H g g10 o Y) 0 0 _
  cases hb10 : Op.ifCond.holds .eq v10 with
  | true =>
    have h := iv_bt hb10 h
    refine iv_brt (mi' := 97) (pc' := 42) (ls' := [.int y0, .int y1, .int y3, .int (14 : Int32)]) (st' := []) (A' := im_H g g10 o Y) (c' := 0) (s' := 0) (mi'' := 97) (pc'' := 29) (ls'' := [.int y0, .int y1, .int y3, .int (14 : Int32)]) (st'' := []) (A'' := im_H g g10 o Y) (c'' := 0) (s'' := 0) 1 0 0 hb10 (fun n => rfl) ?_
    refine iv_blk (mi' := 97) (pc' := 43) (ls' := [.int y0, .int y1, .int y3, .int (14 : Int32)]) (st' := [.int y3]) (A' := im_H g g10 o Y) (c' := 0) (s' := 0) 1 (fun n => rfl) ?_
    exact x97_10_ok (u := g10) (y0 := y0) (y1 := y1) (y2 := y3) (y3 := y3) h
  | false =>
    have h := iv_bf hb10 h
    refine iv_brf (mi' := 97) (pc' := 42) (ls' := [.int y0, .int y1, .int y3, .int (14 : Int32)]) (st' := []) (A' := im_H g g10 o Y) (c' := 0) (s' := 0) (mi'' := 97) (pc'' := 29) (ls'' := [.int y0, .int y1, .int y3, .int (14 : Int32)]) (st'' := []) (A'' := im_H g g10 o Y) (c'' := 0) (s'' := 0) 1 0 0 hb10 (fun n => rfl) ?_
    refine iv_blk (mi' := 97) (pc' := 43) (ls' := [.int y0, .int y1, .int y3, .int (14 : Int32)]) (st' := [.int (y3 ^^^ (16832 : Int32))]) (A' := im_H g g10 o Y) (c' := 0) (s' := 0) 8 (fun n => rfl) ?_
    exact x97_10_ok (u := g10) (y0 := y0) (y1 := y1) (y2 := y3) (y3 := (y3 ^^^ (16832 : Int32))) h
def x97_8 (u : im_M) (y0 : Int32) (y1 : Int32) (y2 : Int32) (y3 : Int32) : Option (Int32 × im_M) :=
  Option.bind (x93 u y3 (15 : Int32)) (fun q9 =>
    bif Op.ifCond.holds .eq q9.1 then
      (x97_9 q9.2 y0 y1 y3 y3)
    else
      (x97_9 q9.2 y0 y1 y3 (y3 ^^^ (33664 : Int32))))
set_option maxRecDepth 100000 in
set_option maxHeartbeats 4000000 in
theorem x97_8_ok {L : Nat} {xs : Nat → Int32} {g u mm : im_M} {o : Nat → Int64} {Y : iv_A} {y0 y1 y2 y3 ret : Int32} (h : x97_8 u y0 y1 y2 y3 = some (ret, mm)) : iv_ev (iv_Xs L xs) 97 43 [.int y0, .int y1, .int y2, .int (16 : Int32)] [.int y3] (im_H g u o Y) 0 0 (.inl (some (.int ret)), im_H g mm o Y) := by
  unfold x97_8 at h
  obtain ⟨v9, g9, hc, h⟩ := iv_bd h
  refine iv_cal (mi' := 97) (pc' := 23) (ls' := [.int y0, .int y1, .int y3, .int (15 : Int32)]) (rest := []) (A' := im_H g u o Y) (c' := 0) (s' := 0) (as := [.int y3, .int (15 : Int32)]) (v := some (.int v9)) (A'' := im_H g g9 o Y) 9 93 (fun n => rfl) rfl (x93_ok (u := u) (a := y3) (b := (15 : Int32)) hc) ?_
  show iv_ev (iv_Xs L xs) 97 26 [.int y0, .int y1, .int y3, .int (15 : Int32)] [.int v9] (im_H g g9 o Y) 0 0 _
  cases hb9 : Op.ifCond.holds .eq v9 with
  | true =>
    have h := iv_bt hb9 h
    refine iv_brt (mi' := 97) (pc' := 42) (ls' := [.int y0, .int y1, .int y3, .int (15 : Int32)]) (st' := []) (A' := im_H g g9 o Y) (c' := 0) (s' := 0) (mi'' := 97) (pc'' := 29) (ls'' := [.int y0, .int y1, .int y3, .int (15 : Int32)]) (st'' := []) (A'' := im_H g g9 o Y) (c'' := 0) (s'' := 0) 1 0 0 hb9 (fun n => rfl) ?_
    refine iv_blk (mi' := 97) (pc' := 43) (ls' := [.int y0, .int y1, .int y3, .int (15 : Int32)]) (st' := [.int y3]) (A' := im_H g g9 o Y) (c' := 0) (s' := 0) 1 (fun n => rfl) ?_
    exact x97_9_ok (u := g9) (y0 := y0) (y1 := y1) (y2 := y3) (y3 := y3) h
  | false =>
    have h := iv_bf hb9 h
    refine iv_brf (mi' := 97) (pc' := 42) (ls' := [.int y0, .int y1, .int y3, .int (15 : Int32)]) (st' := []) (A' := im_H g g9 o Y) (c' := 0) (s' := 0) (mi'' := 97) (pc'' := 29) (ls'' := [.int y0, .int y1, .int y3, .int (15 : Int32)]) (st'' := []) (A'' := im_H g g9 o Y) (c'' := 0) (s'' := 0) 1 0 0 hb9 (fun n => rfl) ?_
    refine iv_blk (mi' := 97) (pc' := 43) (ls' := [.int y0, .int y1, .int y3, .int (15 : Int32)]) (st' := [.int (y3 ^^^ (33664 : Int32))]) (A' := im_H g g9 o Y) (c' := 0) (s' := 0) 8 (fun n => rfl) ?_
    exact x97_9_ok (u := g9) (y0 := y0) (y1 := y1) (y2 := y3) (y3 := (y3 ^^^ (33664 : Int32))) h
def x97_7 (u : im_M) (y0 : Int32) (y1 : Int32) (y2 : Int32) (y3 : Int32) : Option (Int32 × im_M) :=
  Option.bind (x93 u y3 (16 : Int32)) (fun q8 =>
    bif Op.ifCond.holds .eq q8.1 then
      (x97_8 q8.2 y0 y1 y3 y3)
    else
      (x97_8 q8.2 y0 y1 y3 (y3 ^^^ (67328 : Int32))))
set_option maxRecDepth 100000 in
set_option maxHeartbeats 4000000 in
theorem x97_7_ok {L : Nat} {xs : Nat → Int32} {g u mm : im_M} {o : Nat → Int64} {Y : iv_A} {y0 y1 y2 y3 ret : Int32} (h : x97_7 u y0 y1 y2 y3 = some (ret, mm)) : iv_ev (iv_Xs L xs) 97 43 [.int y0, .int y1, .int y2, .int (17 : Int32)] [.int y3] (im_H g u o Y) 0 0 (.inl (some (.int ret)), im_H g mm o Y) := by
  unfold x97_7 at h
  obtain ⟨v8, g8, hc, h⟩ := iv_bd h
  refine iv_cal (mi' := 97) (pc' := 23) (ls' := [.int y0, .int y1, .int y3, .int (16 : Int32)]) (rest := []) (A' := im_H g u o Y) (c' := 0) (s' := 0) (as := [.int y3, .int (16 : Int32)]) (v := some (.int v8)) (A'' := im_H g g8 o Y) 9 93 (fun n => rfl) rfl (x93_ok (u := u) (a := y3) (b := (16 : Int32)) hc) ?_
  show iv_ev (iv_Xs L xs) 97 26 [.int y0, .int y1, .int y3, .int (16 : Int32)] [.int v8] (im_H g g8 o Y) 0 0 _
  cases hb8 : Op.ifCond.holds .eq v8 with
  | true =>
    have h := iv_bt hb8 h
    refine iv_brt (mi' := 97) (pc' := 42) (ls' := [.int y0, .int y1, .int y3, .int (16 : Int32)]) (st' := []) (A' := im_H g g8 o Y) (c' := 0) (s' := 0) (mi'' := 97) (pc'' := 29) (ls'' := [.int y0, .int y1, .int y3, .int (16 : Int32)]) (st'' := []) (A'' := im_H g g8 o Y) (c'' := 0) (s'' := 0) 1 0 0 hb8 (fun n => rfl) ?_
    refine iv_blk (mi' := 97) (pc' := 43) (ls' := [.int y0, .int y1, .int y3, .int (16 : Int32)]) (st' := [.int y3]) (A' := im_H g g8 o Y) (c' := 0) (s' := 0) 1 (fun n => rfl) ?_
    exact x97_8_ok (u := g8) (y0 := y0) (y1 := y1) (y2 := y3) (y3 := y3) h
  | false =>
    have h := iv_bf hb8 h
    refine iv_brf (mi' := 97) (pc' := 42) (ls' := [.int y0, .int y1, .int y3, .int (16 : Int32)]) (st' := []) (A' := im_H g g8 o Y) (c' := 0) (s' := 0) (mi'' := 97) (pc'' := 29) (ls'' := [.int y0, .int y1, .int y3, .int (16 : Int32)]) (st'' := []) (A'' := im_H g g8 o Y) (c'' := 0) (s'' := 0) 1 0 0 hb8 (fun n => rfl) ?_
    refine iv_blk (mi' := 97) (pc' := 43) (ls' := [.int y0, .int y1, .int y3, .int (16 : Int32)]) (st' := [.int (y3 ^^^ (67328 : Int32))]) (A' := im_H g g8 o Y) (c' := 0) (s' := 0) 8 (fun n => rfl) ?_
    exact x97_8_ok (u := g8) (y0 := y0) (y1 := y1) (y2 := y3) (y3 := (y3 ^^^ (67328 : Int32))) h
def x97_6 (u : im_M) (y0 : Int32) (y1 : Int32) (y2 : Int32) (y3 : Int32) : Option (Int32 × im_M) :=
  Option.bind (x93 u y3 (17 : Int32)) (fun q7 =>
    bif Op.ifCond.holds .eq q7.1 then
      (x97_7 q7.2 y0 y1 y3 y3)
    else
      (x97_7 q7.2 y0 y1 y3 (y3 ^^^ (134656 : Int32))))
set_option maxRecDepth 100000 in
set_option maxHeartbeats 4000000 in
theorem x97_6_ok {L : Nat} {xs : Nat → Int32} {g u mm : im_M} {o : Nat → Int64} {Y : iv_A} {y0 y1 y2 y3 ret : Int32} (h : x97_6 u y0 y1 y2 y3 = some (ret, mm)) : iv_ev (iv_Xs L xs) 97 43 [.int y0, .int y1, .int y2, .int (18 : Int32)] [.int y3] (im_H g u o Y) 0 0 (.inl (some (.int ret)), im_H g mm o Y) := by
  unfold x97_6 at h
  obtain ⟨v7, g7, hc, h⟩ := iv_bd h
  refine iv_cal (mi' := 97) (pc' := 23) (ls' := [.int y0, .int y1, .int y3, .int (17 : Int32)]) (rest := []) (A' := im_H g u o Y) (c' := 0) (s' := 0) (as := [.int y3, .int (17 : Int32)]) (v := some (.int v7)) (A'' := im_H g g7 o Y) 9 93 (fun n => rfl) rfl (x93_ok (u := u) (a := y3) (b := (17 : Int32)) hc) ?_
  show iv_ev (iv_Xs L xs) 97 26 [.int y0, .int y1, .int y3, .int (17 : Int32)] [.int v7] (im_H g g7 o Y) 0 0 _
  cases hb7 : Op.ifCond.holds .eq v7 with
  | true =>
    have h := iv_bt hb7 h
    refine iv_brt (mi' := 97) (pc' := 42) (ls' := [.int y0, .int y1, .int y3, .int (17 : Int32)]) (st' := []) (A' := im_H g g7 o Y) (c' := 0) (s' := 0) (mi'' := 97) (pc'' := 29) (ls'' := [.int y0, .int y1, .int y3, .int (17 : Int32)]) (st'' := []) (A'' := im_H g g7 o Y) (c'' := 0) (s'' := 0) 1 0 0 hb7 (fun n => rfl) ?_
    refine iv_blk (mi' := 97) (pc' := 43) (ls' := [.int y0, .int y1, .int y3, .int (17 : Int32)]) (st' := [.int y3]) (A' := im_H g g7 o Y) (c' := 0) (s' := 0) 1 (fun n => rfl) ?_
    exact x97_7_ok (u := g7) (y0 := y0) (y1 := y1) (y2 := y3) (y3 := y3) h
  | false =>
    have h := iv_bf hb7 h
    refine iv_brf (mi' := 97) (pc' := 42) (ls' := [.int y0, .int y1, .int y3, .int (17 : Int32)]) (st' := []) (A' := im_H g g7 o Y) (c' := 0) (s' := 0) (mi'' := 97) (pc'' := 29) (ls'' := [.int y0, .int y1, .int y3, .int (17 : Int32)]) (st'' := []) (A'' := im_H g g7 o Y) (c'' := 0) (s'' := 0) 1 0 0 hb7 (fun n => rfl) ?_
    refine iv_blk (mi' := 97) (pc' := 43) (ls' := [.int y0, .int y1, .int y3, .int (17 : Int32)]) (st' := [.int (y3 ^^^ (134656 : Int32))]) (A' := im_H g g7 o Y) (c' := 0) (s' := 0) 8 (fun n => rfl) ?_
    exact x97_7_ok (u := g7) (y0 := y0) (y1 := y1) (y2 := y3) (y3 := (y3 ^^^ (134656 : Int32))) h
def x97_5 (u : im_M) (y0 : Int32) (y1 : Int32) (y2 : Int32) (y3 : Int32) : Option (Int32 × im_M) :=
  Option.bind (x93 u y3 (18 : Int32)) (fun q6 =>
    bif Op.ifCond.holds .eq q6.1 then
      (x97_6 q6.2 y0 y1 y3 y3)
    else
      (x97_6 q6.2 y0 y1 y3 (y3 ^^^ (269312 : Int32))))
set_option maxRecDepth 100000 in
set_option maxHeartbeats 4000000 in
theorem x97_5_ok {L : Nat} {xs : Nat → Int32} {g u mm : im_M} {o : Nat → Int64} {Y : iv_A} {y0 y1 y2 y3 ret : Int32} (h : x97_5 u y0 y1 y2 y3 = some (ret, mm)) : iv_ev (iv_Xs L xs) 97 43 [.int y0, .int y1, .int y2, .int (19 : Int32)] [.int y3] (im_H g u o Y) 0 0 (.inl (some (.int ret)), im_H g mm o Y) := by
  unfold x97_5 at h
  obtain ⟨v6, g6, hc, h⟩ := iv_bd h
  refine iv_cal (mi' := 97) (pc' := 23) (ls' := [.int y0, .int y1, .int y3, .int (18 : Int32)]) (rest := []) (A' := im_H g u o Y) (c' := 0) (s' := 0) (as := [.int y3, .int (18 : Int32)]) (v := some (.int v6)) (A'' := im_H g g6 o Y) 9 93 (fun n => rfl) rfl (x93_ok (u := u) (a := y3) (b := (18 : Int32)) hc) ?_
  show iv_ev (iv_Xs L xs) 97 26 [.int y0, .int y1, .int y3, .int (18 : Int32)] [.int v6] (im_H g g6 o Y) 0 0 _
  cases hb6 : Op.ifCond.holds .eq v6 with
  | true =>
    have h := iv_bt hb6 h
    refine iv_brt (mi' := 97) (pc' := 42) (ls' := [.int y0, .int y1, .int y3, .int (18 : Int32)]) (st' := []) (A' := im_H g g6 o Y) (c' := 0) (s' := 0) (mi'' := 97) (pc'' := 29) (ls'' := [.int y0, .int y1, .int y3, .int (18 : Int32)]) (st'' := []) (A'' := im_H g g6 o Y) (c'' := 0) (s'' := 0) 1 0 0 hb6 (fun n => rfl) ?_
    refine iv_blk (mi' := 97) (pc' := 43) (ls' := [.int y0, .int y1, .int y3, .int (18 : Int32)]) (st' := [.int y3]) (A' := im_H g g6 o Y) (c' := 0) (s' := 0) 1 (fun n => rfl) ?_
    exact x97_6_ok (u := g6) (y0 := y0) (y1 := y1) (y2 := y3) (y3 := y3) h
  | false =>
    have h := iv_bf hb6 h
    refine iv_brf (mi' := 97) (pc' := 42) (ls' := [.int y0, .int y1, .int y3, .int (18 : Int32)]) (st' := []) (A' := im_H g g6 o Y) (c' := 0) (s' := 0) (mi'' := 97) (pc'' := 29) (ls'' := [.int y0, .int y1, .int y3, .int (18 : Int32)]) (st'' := []) (A'' := im_H g g6 o Y) (c'' := 0) (s'' := 0) 1 0 0 hb6 (fun n => rfl) ?_
    refine iv_blk (mi' := 97) (pc' := 43) (ls' := [.int y0, .int y1, .int y3, .int (18 : Int32)]) (st' := [.int (y3 ^^^ (269312 : Int32))]) (A' := im_H g g6 o Y) (c' := 0) (s' := 0) 8 (fun n => rfl) ?_
    exact x97_6_ok (u := g6) (y0 := y0) (y1 := y1) (y2 := y3) (y3 := (y3 ^^^ (269312 : Int32))) h
def x97_4 (u : im_M) (y0 : Int32) (y1 : Int32) (y2 : Int32) (y3 : Int32) : Option (Int32 × im_M) :=
  Option.bind (x93 u y3 (19 : Int32)) (fun q5 =>
    bif Op.ifCond.holds .eq q5.1 then
      (x97_5 q5.2 y0 y1 y3 y3)
    else
      (x97_5 q5.2 y0 y1 y3 (y3 ^^^ (538624 : Int32))))
set_option maxRecDepth 100000 in
set_option maxHeartbeats 4000000 in
theorem x97_4_ok {L : Nat} {xs : Nat → Int32} {g u mm : im_M} {o : Nat → Int64} {Y : iv_A} {y0 y1 y2 y3 ret : Int32} (h : x97_4 u y0 y1 y2 y3 = some (ret, mm)) : iv_ev (iv_Xs L xs) 97 43 [.int y0, .int y1, .int y2, .int (20 : Int32)] [.int y3] (im_H g u o Y) 0 0 (.inl (some (.int ret)), im_H g mm o Y) := by
  unfold x97_4 at h
  obtain ⟨v5, g5, hc, h⟩ := iv_bd h
  refine iv_cal (mi' := 97) (pc' := 23) (ls' := [.int y0, .int y1, .int y3, .int (19 : Int32)]) (rest := []) (A' := im_H g u o Y) (c' := 0) (s' := 0) (as := [.int y3, .int (19 : Int32)]) (v := some (.int v5)) (A'' := im_H g g5 o Y) 9 93 (fun n => rfl) rfl (x93_ok (u := u) (a := y3) (b := (19 : Int32)) hc) ?_
  show iv_ev (iv_Xs L xs) 97 26 [.int y0, .int y1, .int y3, .int (19 : Int32)] [.int v5] (im_H g g5 o Y) 0 0 _
  cases hb5 : Op.ifCond.holds .eq v5 with
  | true =>
    have h := iv_bt hb5 h
    refine iv_brt (mi' := 97) (pc' := 42) (ls' := [.int y0, .int y1, .int y3, .int (19 : Int32)]) (st' := []) (A' := im_H g g5 o Y) (c' := 0) (s' := 0) (mi'' := 97) (pc'' := 29) (ls'' := [.int y0, .int y1, .int y3, .int (19 : Int32)]) (st'' := []) (A'' := im_H g g5 o Y) (c'' := 0) (s'' := 0) 1 0 0 hb5 (fun n => rfl) ?_
    refine iv_blk (mi' := 97) (pc' := 43) (ls' := [.int y0, .int y1, .int y3, .int (19 : Int32)]) (st' := [.int y3]) (A' := im_H g g5 o Y) (c' := 0) (s' := 0) 1 (fun n => rfl) ?_
    exact x97_5_ok (u := g5) (y0 := y0) (y1 := y1) (y2 := y3) (y3 := y3) h
  | false =>
    have h := iv_bf hb5 h
    refine iv_brf (mi' := 97) (pc' := 42) (ls' := [.int y0, .int y1, .int y3, .int (19 : Int32)]) (st' := []) (A' := im_H g g5 o Y) (c' := 0) (s' := 0) (mi'' := 97) (pc'' := 29) (ls'' := [.int y0, .int y1, .int y3, .int (19 : Int32)]) (st'' := []) (A'' := im_H g g5 o Y) (c'' := 0) (s'' := 0) 1 0 0 hb5 (fun n => rfl) ?_
    refine iv_blk (mi' := 97) (pc' := 43) (ls' := [.int y0, .int y1, .int y3, .int (19 : Int32)]) (st' := [.int (y3 ^^^ (538624 : Int32))]) (A' := im_H g g5 o Y) (c' := 0) (s' := 0) 8 (fun n => rfl) ?_
    exact x97_5_ok (u := g5) (y0 := y0) (y1 := y1) (y2 := y3) (y3 := (y3 ^^^ (538624 : Int32))) h
def x97_3 (u : im_M) (y0 : Int32) (y1 : Int32) (y2 : Int32) (y3 : Int32) : Option (Int32 × im_M) :=
  Option.bind (x93 u y3 (20 : Int32)) (fun q4 =>
    bif Op.ifCond.holds .eq q4.1 then
      (x97_4 q4.2 y0 y1 y3 y3)
    else
      (x97_4 q4.2 y0 y1 y3 (y3 ^^^ (1077248 : Int32))))
set_option maxRecDepth 100000 in
set_option maxHeartbeats 4000000 in
theorem x97_3_ok {L : Nat} {xs : Nat → Int32} {g u mm : im_M} {o : Nat → Int64} {Y : iv_A} {y0 y1 y2 y3 ret : Int32} (h : x97_3 u y0 y1 y2 y3 = some (ret, mm)) : iv_ev (iv_Xs L xs) 97 43 [.int y0, .int y1, .int y2, .int (21 : Int32)] [.int y3] (im_H g u o Y) 0 0 (.inl (some (.int ret)), im_H g mm o Y) := by
  unfold x97_3 at h
  obtain ⟨v4, g4, hc, h⟩ := iv_bd h
  refine iv_cal (mi' := 97) (pc' := 23) (ls' := [.int y0, .int y1, .int y3, .int (20 : Int32)]) (rest := []) (A' := im_H g u o Y) (c' := 0) (s' := 0) (as := [.int y3, .int (20 : Int32)]) (v := some (.int v4)) (A'' := im_H g g4 o Y) 9 93 (fun n => rfl) rfl (x93_ok (u := u) (a := y3) (b := (20 : Int32)) hc) ?_
  show iv_ev (iv_Xs L xs) 97 26 [.int y0, .int y1, .int y3, .int (20 : Int32)] [.int v4] (im_H g g4 o Y) 0 0 _
  cases hb4 : Op.ifCond.holds .eq v4 with
  | true =>
    have h := iv_bt hb4 h
    refine iv_brt (mi' := 97) (pc' := 42) (ls' := [.int y0, .int y1, .int y3, .int (20 : Int32)]) (st' := []) (A' := im_H g g4 o Y) (c' := 0) (s' := 0) (mi'' := 97) (pc'' := 29) (ls'' := [.int y0, .int y1, .int y3, .int (20 : Int32)]) (st'' := []) (A'' := im_H g g4 o Y) (c'' := 0) (s'' := 0) 1 0 0 hb4 (fun n => rfl) ?_
    refine iv_blk (mi' := 97) (pc' := 43) (ls' := [.int y0, .int y1, .int y3, .int (20 : Int32)]) (st' := [.int y3]) (A' := im_H g g4 o Y) (c' := 0) (s' := 0) 1 (fun n => rfl) ?_
    exact x97_4_ok (u := g4) (y0 := y0) (y1 := y1) (y2 := y3) (y3 := y3) h
  | false =>
    have h := iv_bf hb4 h
    refine iv_brf (mi' := 97) (pc' := 42) (ls' := [.int y0, .int y1, .int y3, .int (20 : Int32)]) (st' := []) (A' := im_H g g4 o Y) (c' := 0) (s' := 0) (mi'' := 97) (pc'' := 29) (ls'' := [.int y0, .int y1, .int y3, .int (20 : Int32)]) (st'' := []) (A'' := im_H g g4 o Y) (c'' := 0) (s'' := 0) 1 0 0 hb4 (fun n => rfl) ?_
    refine iv_blk (mi' := 97) (pc' := 43) (ls' := [.int y0, .int y1, .int y3, .int (20 : Int32)]) (st' := [.int (y3 ^^^ (1077248 : Int32))]) (A' := im_H g g4 o Y) (c' := 0) (s' := 0) 8 (fun n => rfl) ?_
    exact x97_4_ok (u := g4) (y0 := y0) (y1 := y1) (y2 := y3) (y3 := (y3 ^^^ (1077248 : Int32))) h
def x97_2 (u : im_M) (y0 : Int32) (y1 : Int32) (y2 : Int32) (y3 : Int32) : Option (Int32 × im_M) :=
  Option.bind (x93 u y3 (21 : Int32)) (fun q3 =>
    bif Op.ifCond.holds .eq q3.1 then
      (x97_3 q3.2 y0 y1 y3 y3)
    else
      (x97_3 q3.2 y0 y1 y3 (y3 ^^^ (2154496 : Int32))))
set_option maxRecDepth 100000 in
set_option maxHeartbeats 4000000 in
theorem x97_2_ok {L : Nat} {xs : Nat → Int32} {g u mm : im_M} {o : Nat → Int64} {Y : iv_A} {y0 y1 y2 y3 ret : Int32} (h : x97_2 u y0 y1 y2 y3 = some (ret, mm)) : iv_ev (iv_Xs L xs) 97 43 [.int y0, .int y1, .int y2, .int (22 : Int32)] [.int y3] (im_H g u o Y) 0 0 (.inl (some (.int ret)), im_H g mm o Y) := by
  unfold x97_2 at h
  obtain ⟨v3, g3, hc, h⟩ := iv_bd h
  refine iv_cal (mi' := 97) (pc' := 23) (ls' := [.int y0, .int y1, .int y3, .int (21 : Int32)]) (rest := []) (A' := im_H g u o Y) (c' := 0) (s' := 0) (as := [.int y3, .int (21 : Int32)]) (v := some (.int v3)) (A'' := im_H g g3 o Y) 9 93 (fun n => rfl) rfl (x93_ok (u := u) (a := y3) (b := (21 : Int32)) hc) ?_
  show iv_ev (iv_Xs L xs) 97 26 [.int y0, .int y1, .int y3, .int (21 : Int32)] [.int v3] (im_H g g3 o Y) 0 0 _
  cases hb3 : Op.ifCond.holds .eq v3 with
  | true =>
    have h := iv_bt hb3 h
    refine iv_brt (mi' := 97) (pc' := 42) (ls' := [.int y0, .int y1, .int y3, .int (21 : Int32)]) (st' := []) (A' := im_H g g3 o Y) (c' := 0) (s' := 0) (mi'' := 97) (pc'' := 29) (ls'' := [.int y0, .int y1, .int y3, .int (21 : Int32)]) (st'' := []) (A'' := im_H g g3 o Y) (c'' := 0) (s'' := 0) 1 0 0 hb3 (fun n => rfl) ?_
    refine iv_blk (mi' := 97) (pc' := 43) (ls' := [.int y0, .int y1, .int y3, .int (21 : Int32)]) (st' := [.int y3]) (A' := im_H g g3 o Y) (c' := 0) (s' := 0) 1 (fun n => rfl) ?_
    exact x97_3_ok (u := g3) (y0 := y0) (y1 := y1) (y2 := y3) (y3 := y3) h
  | false =>
    have h := iv_bf hb3 h
    refine iv_brf (mi' := 97) (pc' := 42) (ls' := [.int y0, .int y1, .int y3, .int (21 : Int32)]) (st' := []) (A' := im_H g g3 o Y) (c' := 0) (s' := 0) (mi'' := 97) (pc'' := 29) (ls'' := [.int y0, .int y1, .int y3, .int (21 : Int32)]) (st'' := []) (A'' := im_H g g3 o Y) (c'' := 0) (s'' := 0) 1 0 0 hb3 (fun n => rfl) ?_
    refine iv_blk (mi' := 97) (pc' := 43) (ls' := [.int y0, .int y1, .int y3, .int (21 : Int32)]) (st' := [.int (y3 ^^^ (2154496 : Int32))]) (A' := im_H g g3 o Y) (c' := 0) (s' := 0) 8 (fun n => rfl) ?_
    exact x97_3_ok (u := g3) (y0 := y0) (y1 := y1) (y2 := y3) (y3 := (y3 ^^^ (2154496 : Int32))) h
def x97_1 (u : im_M) (y0 : Int32) (y1 : Int32) (y2 : Int32) (y3 : Int32) : Option (Int32 × im_M) :=
  Option.bind (x93 u y3 (22 : Int32)) (fun q2 =>
    bif Op.ifCond.holds .eq q2.1 then
      (x97_2 q2.2 y0 y1 y3 y3)
    else
      (x97_2 q2.2 y0 y1 y3 (y3 ^^^ (4308992 : Int32))))
set_option maxRecDepth 100000 in
set_option maxHeartbeats 4000000 in
theorem x97_1_ok {L : Nat} {xs : Nat → Int32} {g u mm : im_M} {o : Nat → Int64} {Y : iv_A} {y0 y1 y2 y3 ret : Int32} (h : x97_1 u y0 y1 y2 y3 = some (ret, mm)) : iv_ev (iv_Xs L xs) 97 43 [.int y0, .int y1, .int y2, .int (23 : Int32)] [.int y3] (im_H g u o Y) 0 0 (.inl (some (.int ret)), im_H g mm o Y) := by
  unfold x97_1 at h
  obtain ⟨v2, g2, hc, h⟩ := iv_bd h
  refine iv_cal (mi' := 97) (pc' := 23) (ls' := [.int y0, .int y1, .int y3, .int (22 : Int32)]) (rest := []) (A' := im_H g u o Y) (c' := 0) (s' := 0) (as := [.int y3, .int (22 : Int32)]) (v := some (.int v2)) (A'' := im_H g g2 o Y) 9 93 (fun n => rfl) rfl (x93_ok (u := u) (a := y3) (b := (22 : Int32)) hc) ?_
  show iv_ev (iv_Xs L xs) 97 26 [.int y0, .int y1, .int y3, .int (22 : Int32)] [.int v2] (im_H g g2 o Y) 0 0 _
  cases hb2 : Op.ifCond.holds .eq v2 with
  | true =>
    have h := iv_bt hb2 h
    refine iv_brt (mi' := 97) (pc' := 42) (ls' := [.int y0, .int y1, .int y3, .int (22 : Int32)]) (st' := []) (A' := im_H g g2 o Y) (c' := 0) (s' := 0) (mi'' := 97) (pc'' := 29) (ls'' := [.int y0, .int y1, .int y3, .int (22 : Int32)]) (st'' := []) (A'' := im_H g g2 o Y) (c'' := 0) (s'' := 0) 1 0 0 hb2 (fun n => rfl) ?_
    refine iv_blk (mi' := 97) (pc' := 43) (ls' := [.int y0, .int y1, .int y3, .int (22 : Int32)]) (st' := [.int y3]) (A' := im_H g g2 o Y) (c' := 0) (s' := 0) 1 (fun n => rfl) ?_
    exact x97_2_ok (u := g2) (y0 := y0) (y1 := y1) (y2 := y3) (y3 := y3) h
  | false =>
    have h := iv_bf hb2 h
    refine iv_brf (mi' := 97) (pc' := 42) (ls' := [.int y0, .int y1, .int y3, .int (22 : Int32)]) (st' := []) (A' := im_H g g2 o Y) (c' := 0) (s' := 0) (mi'' := 97) (pc'' := 29) (ls'' := [.int y0, .int y1, .int y3, .int (22 : Int32)]) (st'' := []) (A'' := im_H g g2 o Y) (c'' := 0) (s'' := 0) 1 0 0 hb2 (fun n => rfl) ?_
    refine iv_blk (mi' := 97) (pc' := 43) (ls' := [.int y0, .int y1, .int y3, .int (22 : Int32)]) (st' := [.int (y3 ^^^ (4308992 : Int32))]) (A' := im_H g g2 o Y) (c' := 0) (s' := 0) 8 (fun n => rfl) ?_
    exact x97_2_ok (u := g2) (y0 := y0) (y1 := y1) (y2 := y3) (y3 := (y3 ^^^ (4308992 : Int32))) h
def x97 (u : im_M) (a : Int32) (b : Int32) : Option (Int32 × im_M) :=
  Option.bind (x93 u ((((256 : Int32) * a) + b) * (256 : Int32)) (23 : Int32)) (fun q1 =>
    bif Op.ifCond.holds .eq q1.1 then
      (x97_1 q1.2 a b ((((256 : Int32) * a) + b) * (256 : Int32)) ((((256 : Int32) * a) + b) * (256 : Int32)))
    else
      (x97_1 q1.2 a b ((((256 : Int32) * a) + b) * (256 : Int32)) (((((256 : Int32) * a) + b) * (256 : Int32)) ^^^ (8617984 : Int32))))
set_option maxRecDepth 100000 in
set_option maxHeartbeats 4000000 in
theorem x97_ok {L : Nat} {xs : Nat → Int32} {g u mm : im_M} {o : Nat → Int64} {Y : iv_A} {a b ret : Int32} (h : x97 u a b = some (ret, mm)) : iv_ev (iv_Xs L xs) 97 0 [.int a, .int b, .retAddr 0, .retAddr 0] [] (im_H g u o Y) 0 0 (.inl (some (.int ret)), im_H g mm o Y) := by
  unfold x97 at h
  obtain ⟨v1, g1, hc, h⟩ := iv_bd h
  refine iv_cal (mi' := 97) (pc' := 23) (ls' := [.int a, .int b, .int ((((256 : Int32) * a) + b) * (256 : Int32)), .int (23 : Int32)]) (rest := []) (A' := im_H g u o Y) (c' := 0) (s' := 0) (as := [.int ((((256 : Int32) * a) + b) * (256 : Int32)), .int (23 : Int32)]) (v := some (.int v1)) (A'' := im_H g g1 o Y) 16 93 (fun n => rfl) rfl (x93_ok (u := u) (a := ((((256 : Int32) * a) + b) * (256 : Int32))) (b := (23 : Int32)) hc) ?_
  show iv_ev (iv_Xs L xs) 97 26 [.int a, .int b, .int ((((256 : Int32) * a) + b) * (256 : Int32)), .int (23 : Int32)] [.int v1] (im_H g g1 o Y) 0 0 _
  cases hb1 : Op.ifCond.holds .eq v1 with
  | true =>
    have h := iv_bt hb1 h
    refine iv_brt (mi' := 97) (pc' := 42) (ls' := [.int a, .int b, .int ((((256 : Int32) * a) + b) * (256 : Int32)), .int (23 : Int32)]) (st' := []) (A' := im_H g g1 o Y) (c' := 0) (s' := 0) (mi'' := 97) (pc'' := 29) (ls'' := [.int a, .int b, .int ((((256 : Int32) * a) + b) * (256 : Int32)), .int (23 : Int32)]) (st'' := []) (A'' := im_H g g1 o Y) (c'' := 0) (s'' := 0) 1 0 0 hb1 (fun n => rfl) ?_
    refine iv_blk (mi' := 97) (pc' := 43) (ls' := [.int a, .int b, .int ((((256 : Int32) * a) + b) * (256 : Int32)), .int (23 : Int32)]) (st' := [.int ((((256 : Int32) * a) + b) * (256 : Int32))]) (A' := im_H g g1 o Y) (c' := 0) (s' := 0) 1 (fun n => rfl) ?_
    exact x97_1_ok (u := g1) (y0 := a) (y1 := b) (y2 := ((((256 : Int32) * a) + b) * (256 : Int32))) (y3 := ((((256 : Int32) * a) + b) * (256 : Int32))) h
  | false =>
    have h := iv_bf hb1 h
    refine iv_brf (mi' := 97) (pc' := 42) (ls' := [.int a, .int b, .int ((((256 : Int32) * a) + b) * (256 : Int32)), .int (23 : Int32)]) (st' := []) (A' := im_H g g1 o Y) (c' := 0) (s' := 0) (mi'' := 97) (pc'' := 29) (ls'' := [.int a, .int b, .int ((((256 : Int32) * a) + b) * (256 : Int32)), .int (23 : Int32)]) (st'' := []) (A'' := im_H g g1 o Y) (c'' := 0) (s'' := 0) 1 0 0 hb1 (fun n => rfl) ?_
    refine iv_blk (mi' := 97) (pc' := 43) (ls' := [.int a, .int b, .int ((((256 : Int32) * a) + b) * (256 : Int32)), .int (23 : Int32)]) (st' := [.int (((((256 : Int32) * a) + b) * (256 : Int32)) ^^^ (8617984 : Int32))]) (A' := im_H g g1 o Y) (c' := 0) (s' := 0) 8 (fun n => rfl) ?_
    exact x97_1_ok (u := g1) (y0 := a) (y1 := b) (y2 := ((((256 : Int32) * a) + b) * (256 : Int32))) (y3 := (((((256 : Int32) * a) + b) * (256 : Int32)) ^^^ (8617984 : Int32))) h
