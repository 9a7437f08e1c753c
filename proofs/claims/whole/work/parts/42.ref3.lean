/-! the reference: figure (printed by wip/gen/lay1.py) -/
def x114_r37_0_1 (u : im_M) (y0 : Int32) : Option (Int32 × im_M) :=
  some ((u 37 2), (im_w u 37 1 y0))
set_option maxRecDepth 100000 in
set_option maxHeartbeats 4000000 in
theorem x114_r37_0_1_ok {L : Nat} {xs : Nat → Int32} {g u mm : im_M} {o : Nat → Int64} {Y : iv_A} {y0 ret : Int32} (h : x114_r37_0_1 u y0 = some (ret, mm)) : iv_ev (iv_Xs L xs) 114 15 [.ref 40, .int (0 : Int32)] [.int y0, .ref 40] (im_H g u o Y) 0 0 (.inl (some (.int ret)), im_H g mm o Y) := by
  unfold x114_r37_0_1 at h
  refine iv_blk (mi' := 114) (pc' := 18) (ls' := [.ref 40, .int (0 : Int32)]) (st' := []) (A' := List.set (im_H g u o Y) 37 (.inr (6, List.set [.int (u 37 0), .int (u 37 1), .int (u 37 2), .ref 41, .ref 42, .ref 43, .ref 44, .ref 45, .ref 46, .ref 47, .ref 48, .ref 49, .ref 50, .ref 51, .ref 52, .ref 53, .ref 54, .ref 55, .ref 56, .int (u 37 19), .int (u 37 20), .int (u 37 21), .int (u 37 22), .ref 57, .ref 58, .ref 59, .ref 60, .int (u 37 27), .int (u 37 28), .int (u 37 29)] 1 (.int y0)))) (c' := 0) (s' := 0) 1 (fun n => rfl) ?_
  rw [im_f37_1]
  cases h
  exact iv_ret 5 (fun n => rfl)
def x114_r37_0 (u : im_M) : Option (Int32 × im_M) :=
  Option.bind (x86 u (0 : Int32) (6 : Int32)) (fun q1 =>
    bif Op.ifCond.holds .eq q1.1 then
      (x114_r37_0_1 q1.2 (1 : Int32))
    else
      (x114_r37_0_1 q1.2 (0 : Int32)))
set_option maxRecDepth 100000 in
set_option maxHeartbeats 4000000 in
theorem x114_r37_0_ok {L : Nat} {xs : Nat → Int32} {g u mm : im_M} {o : Nat → Int64} {Y : iv_A} {ret : Int32} (h : x114_r37_0 u  = some (ret, mm)) : iv_ev (iv_Xs L xs) 114 0 [.ref 40, .int (0 : Int32)] [] (im_H g u o Y) 0 0 (.inl (some (.int ret)), im_H g mm o Y) := by
  unfold x114_r37_0 at h
  obtain ⟨v1, g1, hc, h⟩ := iv_bd h
  refine iv_cal (mi' := 114) (pc' := 4) (ls' := [.ref 40, .int (0 : Int32)]) (rest := [.ref 40]) (A' := im_H g u o Y) (c' := 0) (s' := 0) (as := [.int (0 : Int32), .int (6 : Int32)]) (v := some (.int v1)) (A'' := im_H g g1 o Y) 4 86 (fun n => rfl) rfl (x86_ok (u := u) (a := (0 : Int32)) (b := (6 : Int32)) hc) ?_
  show iv_ev (iv_Xs L xs) 114 7 [.ref 40, .int (0 : Int32)] [.int v1, .ref 40] (im_H g g1 o Y) 0 0 _
  cases hb1 : Op.ifCond.holds .eq v1 with
  | true =>
    have h := iv_bt hb1 h
    refine iv_brt (mi' := 114) (pc' := 14) (ls' := [.ref 40, .int (0 : Int32)]) (st' := [.ref 40]) (A' := im_H g g1 o Y) (c' := 0) (s' := 0) (mi'' := 114) (pc'' := 10) (ls'' := [.ref 40, .int (0 : Int32)]) (st'' := [.ref 40]) (A'' := im_H g g1 o Y) (c'' := 0) (s'' := 0) 1 0 0 hb1 (fun n => rfl) ?_
    refine iv_blk (mi' := 114) (pc' := 15) (ls' := [.ref 40, .int (0 : Int32)]) (st' := [.int (1 : Int32), .ref 40]) (A' := im_H g g1 o Y) (c' := 0) (s' := 0) 1 (fun n => rfl) ?_
    exact x114_r37_0_1_ok (u := g1) (y0 := (1 : Int32)) h
  | false =>
    have h := iv_bf hb1 h
    refine iv_brf (mi' := 114) (pc' := 14) (ls' := [.ref 40, .int (0 : Int32)]) (st' := [.ref 40]) (A' := im_H g g1 o Y) (c' := 0) (s' := 0) (mi'' := 114) (pc'' := 10) (ls'' := [.ref 40, .int (0 : Int32)]) (st'' := [.ref 40]) (A'' := im_H g g1 o Y) (c'' := 0) (s'' := 0) 1 0 0 hb1 (fun n => rfl) ?_
    refine iv_blk (mi' := 114) (pc' := 15) (ls' := [.ref 40, .int (0 : Int32)]) (st' := [.int (0 : Int32), .ref 40]) (A' := im_H g g1 o Y) (c' := 0) (s' := 0) 2 (fun n => rfl) ?_
    exact x114_r37_0_1_ok (u := g1) (y0 := (0 : Int32)) h
def x114_r37_1_1 (u : im_M) (y0 : Int32) : Option (Int32 × im_M) :=
  some ((u 37 22), (im_w u 37 1 y0))
set_option maxRecDepth 100000 in
set_option maxHeartbeats 4000000 in
theorem x114_r37_1_1_ok {L : Nat} {xs : Nat → Int32} {g u mm : im_M} {o : Nat → Int64} {Y : iv_A} {y0 ret : Int32} (h : x114_r37_1_1 u y0 = some (ret, mm)) : iv_ev (iv_Xs L xs) 114 15 [.ref 40, .int (1 : Int32)] [.int y0, .ref 40] (im_H g u o Y) 0 0 (.inl (some (.int ret)), im_H g mm o Y) := by
  unfold x114_r37_1_1 at h
  refine iv_blk (mi' := 114) (pc' := 18) (ls' := [.ref 40, .int (1 : Int32)]) (st' := []) (A' := List.set (im_H g u o Y) 37 (.inr (6, List.set [.int (u 37 0), .int (u 37 1), .int (u 37 2), .ref 41, .ref 42, .ref 43, .ref 44, .ref 45, .ref 46, .ref 47, .ref 48, .ref 49, .ref 50, .ref 51, .ref 52, .ref 53, .ref 54, .ref 55, .ref 56, .int (u 37 19), .int (u 37 20), .int (u 37 21), .int (u 37 22), .ref 57, .ref 58, .ref 59, .ref 60, .int (u 37 27), .int (u 37 28), .int (u 37 29)] 1 (.int y0)))) (c' := 0) (s' := 0) 1 (fun n => rfl) ?_
  rw [im_f37_1]
  cases h
  exact iv_ret 5 (fun n => rfl)
def x114_r37_1 (u : im_M) : Option (Int32 × im_M) :=
  Option.bind (x86 u (1 : Int32) (6 : Int32)) (fun q1 =>
    bif Op.ifCond.holds .eq q1.1 then
      (x114_r37_1_1 q1.2 (1 : Int32))
    else
      (x114_r37_1_1 q1.2 (0 : Int32)))
set_option maxRecDepth 100000 in
set_option maxHeartbeats 4000000 in
theorem x114_r37_1_ok {L : Nat} {xs : Nat → Int32} {g u mm : im_M} {o : Nat → Int64} {Y : iv_A} {ret : Int32} (h : x114_r37_1 u  = some (ret, mm)) : iv_ev (iv_Xs L xs) 114 0 [.ref 40, .int (1 : Int32)] [] (im_H g u o Y) 0 0 (.inl (some (.int ret)), im_H g mm o Y) := by
  unfold x114_r37_1 at h
  obtain ⟨v1, g1, hc, h⟩ := iv_bd h
  refine iv_cal (mi' := 114) (pc' := 4) (ls' := [.ref 40, .int (1 : Int32)]) (rest := [.ref 40]) (A' := im_H g u o Y) (c' := 0) (s' := 0) (as := [.int (1 : Int32), .int (6 : Int32)]) (v := some (.int v1)) (A'' := im_H g g1 o Y) 4 86 (fun n => rfl) rfl (x86_ok (u := u) (a := (1 : Int32)) (b := (6 : Int32)) hc) ?_
  show iv_ev (iv_Xs L xs) 114 7 [.ref 40, .int (1 : Int32)] [.int v1, .ref 40] (im_H g g1 o Y) 0 0 _
  cases hb1 : Op.ifCond.holds .eq v1 with
  | true =>
    have h := iv_bt hb1 h
    refine iv_brt (mi' := 114) (pc' := 14) (ls' := [.ref 40, .int (1 : Int32)]) (st' := [.ref 40]) (A' := im_H g g1 o Y) (c' := 0) (s' := 0) (mi'' := 114) (pc'' := 10) (ls'' := [.ref 40, .int (1 : Int32)]) (st'' := [.ref 40]) (A'' := im_H g g1 o Y) (c'' := 0) (s'' := 0) 1 0 0 hb1 (fun n => rfl) ?_
    refine iv_blk (mi' := 114) (pc' := 15) (ls' := [.ref 40, .int (1 : Int32)]) (st' := [.int (1 : Int32), .ref 40]) (A' := im_H g g1 o Y) (c' := 0) (s' := 0) 1 (fun n => rfl) ?_
    exact x114_r37_1_1_ok (u := g1) (y0 := (1 : Int32)) h
  | false =>
    have h := iv_bf hb1 h
    refine iv_brf (mi' := 114) (pc' := 14) (ls' := [.ref 40, .int (1 : Int32)]) (st' := [.ref 40]) (A' := im_H g g1 o Y) (c' := 0) (s' := 0) (mi'' := 114) (pc'' := 10) (ls'' := [.ref 40, .int (1 : Int32)]) (st'' := [.ref 40]) (A'' := im_H g g1 o Y) (c'' := 0) (s'' := 0) 1 0 0 hb1 (fun n => rfl) ?_
    refine iv_blk (mi' := 114) (pc' := 15) (ls' := [.ref 40, .int (1 : Int32)]) (st' := [.int (0 : Int32), .ref 40]) (A' := im_H g g1 o Y) (c' := 0) (s' := 0) 2 (fun n => rfl) ?_
    exact x114_r37_1_1_ok (u := g1) (y0 := (0 : Int32)) h
def x114_r37_2_1 (u : im_M) (y0 : Int32) : Option (Int32 × im_M) :=
  some ((u 37 27), (im_w u 37 1 y0))
set_option maxRecDepth 100000 in
set_option maxHeartbeats 4000000 in
theorem x114_r37_2_1_ok {L : Nat} {xs : Nat → Int32} {g u mm : im_M} {o : Nat → Int64} {Y : iv_A} {y0 ret : Int32} (h : x114_r37_2_1 u y0 = some (ret, mm)) : iv_ev (iv_Xs L xs) 114 15 [.ref 40, .int (2 : Int32)] [.int y0, .ref 40] (im_H g u o Y) 0 0 (.inl (some (.int ret)), im_H g mm o Y) := by
  unfold x114_r37_2_1 at h
  refine iv_blk (mi' := 114) (pc' := 18) (ls' := [.ref 40, .int (2 : Int32)]) (st' := []) (A' := List.set (im_H g u o Y) 37 (.inr (6, List.set [.int (u 37 0), .int (u 37 1), .int (u 37 2), .ref 41, .ref 42, .ref 43, .ref 44, .ref 45, .ref 46, .ref 47, .ref 48, .ref 49, .ref 50, .ref 51, .ref 52, .ref 53, .ref 54, .ref 55, .ref 56, .int (u 37 19), .int (u 37 20), .int (u 37 21), .int (u 37 22), .ref 57, .ref 58, .ref 59, .ref 60, .int (u 37 27), .int (u 37 28), .int (u 37 29)] 1 (.int y0)))) (c' := 0) (s' := 0) 1 (fun n => rfl) ?_
  rw [im_f37_1]
  cases h
  exact iv_ret 5 (fun n => rfl)
def x114_r37_2 (u : im_M) : Option (Int32 × im_M) :=
  Option.bind (x86 u (2 : Int32) (6 : Int32)) (fun q1 =>
    bif Op.ifCond.holds .eq q1.1 then
      (x114_r37_2_1 q1.2 (1 : Int32))
    else
      (x114_r37_2_1 q1.2 (0 : Int32)))
set_option maxRecDepth 100000 in
set_option maxHeartbeats 4000000 in
theorem x114_r37_2_ok {L : Nat} {xs : Nat → Int32} {g u mm : im_M} {o : Nat → Int64} {Y : iv_A} {ret : Int32} (h : x114_r37_2 u  = some (ret, mm)) : iv_ev (iv_Xs L xs) 114 0 [.ref 40, .int (2 : Int32)] [] (im_H g u o Y) 0 0 (.inl (some (.int ret)), im_H g mm o Y) := by
  unfold x114_r37_2 at h
  obtain ⟨v1, g1, hc, h⟩ := iv_bd h
  refine iv_cal (mi' := 114) (pc' := 4) (ls' := [.ref 40, .int (2 : Int32)]) (rest := [.ref 40]) (A' := im_H g u o Y) (c' := 0) (s' := 0) (as := [.int (2 : Int32), .int (6 : Int32)]) (v := some (.int v1)) (A'' := im_H g g1 o Y) 4 86 (fun n => rfl) rfl (x86_ok (u := u) (a := (2 : Int32)) (b := (6 : Int32)) hc) ?_
  show iv_ev (iv_Xs L xs) 114 7 [.ref 40, .int (2 : Int32)] [.int v1, .ref 40] (im_H g g1 o Y) 0 0 _
  cases hb1 : Op.ifCond.holds .eq v1 with
  | true =>
    have h := iv_bt hb1 h
    refine iv_brt (mi' := 114) (pc' := 14) (ls' := [.ref 40, .int (2 : Int32)]) (st' := [.ref 40]) (A' := im_H g g1 o Y) (c' := 0) (s' := 0) (mi'' := 114) (pc'' := 10) (ls'' := [.ref 40, .int (2 : Int32)]) (st'' := [.ref 40]) (A'' := im_H g g1 o Y) (c'' := 0) (s'' := 0) 1 0 0 hb1 (fun n => rfl) ?_
    refine iv_blk (mi' := 114) (pc' := 15) (ls' := [.ref 40, .int (2 : Int32)]) (st' := [.int (1 : Int32), .ref 40]) (A' := im_H g g1 o Y) (c' := 0) (s' := 0) 1 (fun n => rfl) ?_
    exact x114_r37_2_1_ok (u := g1) (y0 := (1 : Int32)) h
  | false =>
    have h := iv_bf hb1 h
    refine iv_brf (mi' := 114) (pc' := 14) (ls' := [.ref 40, .int (2 : Int32)]) (st' := [.ref 40]) (A' := im_H g g1 o Y) (c' := 0) (s' := 0) (mi'' := 114) (pc'' := 10) (ls'' := [.ref 40, .int (2 : Int32)]) (st'' := [.ref 40]) (A'' := im_H g g1 o Y) (c'' := 0) (s'' := 0) 1 0 0 hb1 (fun n => rfl) ?_
    refine iv_blk (mi' := 114) (pc' := 15) (ls' := [.ref 40, .int (2 : Int32)]) (st' := [.int (0 : Int32), .ref 40]) (A' := im_H g g1 o Y) (c' := 0) (s' := 0) 2 (fun n => rfl) ?_
    exact x114_r37_2_1_ok (u := g1) (y0 := (0 : Int32)) h
def x114_r37_3_1 (u : im_M) (y0 : Int32) : Option (Int32 × im_M) :=
  some ((u 37 28), (im_w u 37 1 y0))
set_option maxRecDepth 100000 in
set_option maxHeartbeats 4000000 in
theorem x114_r37_3_1_ok {L : Nat} {xs : Nat → Int32} {g u mm : im_M} {o : Nat → Int64} {Y : iv_A} {y0 ret : Int32} (h : x114_r37_3_1 u y0 = some (ret, mm)) : iv_ev (iv_Xs L xs) 114 15 [.ref 40, .int (3 : Int32)] [.int y0, .ref 40] (im_H g u o Y) 0 0 (.inl (some (.int ret)), im_H g mm o Y) := by
  unfold x114_r37_3_1 at h
  refine iv_blk (mi' := 114) (pc' := 18) (ls' := [.ref 40, .int (3 : Int32)]) (st' := []) (A' := List.set (im_H g u o Y) 37 (.inr (6, List.set [.int (u 37 0), .int (u 37 1), .int (u 37 2), .ref 41, .ref 42, .ref 43, .ref 44, .ref 45, .ref 46, .ref 47, .ref 48, .ref 49, .ref 50, .ref 51, .ref 52, .ref 53, .ref 54, .ref 55, .ref 56, .int (u 37 19), .int (u 37 20), .int (u 37 21), .int (u 37 22), .ref 57, .ref 58, .ref 59, .ref 60, .int (u 37 27), .int (u 37 28), .int (u 37 29)] 1 (.int y0)))) (c' := 0) (s' := 0) 1 (fun n => rfl) ?_
  rw [im_f37_1]
  cases h
  exact iv_ret 5 (fun n => rfl)
def x114_r37_3 (u : im_M) : Option (Int32 × im_M) :=
  Option.bind (x86 u (3 : Int32) (6 : Int32)) (fun q1 =>
    bif Op.ifCond.holds .eq q1.1 then
      (x114_r37_3_1 q1.2 (1 : Int32))
    else
      (x114_r37_3_1 q1.2 (0 : Int32)))
set_option maxRecDepth 100000 in
set_option maxHeartbeats 4000000 in
theorem x114_r37_3_ok {L : Nat} {xs : Nat → Int32} {g u mm : im_M} {o : Nat → Int64} {Y : iv_A} {ret : Int32} (h : x114_r37_3 u  = some (ret, mm)) : iv_ev (iv_Xs L xs) 114 0 [.ref 40, .int (3 : Int32)] [] (im_H g u o Y) 0 0 (.inl (some (.int ret)), im_H g mm o Y) := by
  unfold x114_r37_3 at h
  obtain ⟨v1, g1, hc, h⟩ := iv_bd h
  refine iv_cal (mi' := 114) (pc' := 4) (ls' := [.ref 40, .int (3 : Int32)]) (rest := [.ref 40]) (A' := im_H g u o Y) (c' := 0) (s' := 0) (as := [.int (3 : Int32), .int (6 : Int32)]) (v := some (.int v1)) (A'' := im_H g g1 o Y) 4 86 (fun n => rfl) rfl (x86_ok (u := u) (a := (3 : Int32)) (b := (6 : Int32)) hc) ?_
  show iv_ev (iv_Xs L xs) 114 7 [.ref 40, .int (3 : Int32)] [.int v1, .ref 40] (im_H g g1 o Y) 0 0 _
  cases hb1 : Op.ifCond.holds .eq v1 with
  | true =>
    have h := iv_bt hb1 h
    refine iv_brt (mi' := 114) (pc' := 14) (ls' := [.ref 40, .int (3 : Int32)]) (st' := [.ref 40]) (A' := im_H g g1 o Y) (c' := 0) (s' := 0) (mi'' := 114) (pc'' := 10) (ls'' := [.ref 40, .int (3 : Int32)]) (st'' := [.ref 40]) (A'' := im_H g g1 o Y) (c'' := 0) (s'' := 0) 1 0 0 hb1 (fun n => rfl) ?_
    refine iv_blk (mi' := 114) (pc' := 15) (ls' := [.ref 40, .int (3 : Int32)]) (st' := [.int (1 : Int32), .ref 40]) (A' := im_H g g1 o Y) (c' := 0) (s' := 0) 1 (fun n => rfl) ?_
    exact x114_r37_3_1_ok (u := g1) (y0 := (1 : Int32)) h
  | false =>
    have h := iv_bf hb1 h
    refine iv_brf (mi' := 114) (pc' := 14) (ls' := [.ref 40, .int (3 : Int32)]) (st' := [.ref 40]) (A' := im_H g g1 o Y) (c' := 0) (s' := 0) (mi'' := 114) (pc'' := 10) (ls'' := [.ref 40, .int (3 : Int32)]) (st'' := [.ref 40]) (A'' := im_H g g1 o Y) (c'' := 0) (s'' := 0) 1 0 0 hb1 (fun n => rfl) ?_
    refine iv_blk (mi' := 114) (pc' := 15) (ls' := [.ref 40, .int (3 : Int32)]) (st' := [.int (0 : Int32), .ref 40]) (A' := im_H g g1 o Y) (c' := 0) (s' := 0) 2 (fun n => rfl) ?_
    exact x114_r37_3_1_ok (u := g1) (y0 := (0 : Int32)) h
def x114_r37_4_1 (u : im_M) (y0 : Int32) : Option (Int32 × im_M) :=
  some ((u 37 29), (im_w u 37 1 y0))
set_option maxRecDepth 100000 in
set_option maxHeartbeats 4000000 in
theorem x114_r37_4_1_ok {L : Nat} {xs : Nat → Int32} {g u mm : im_M} {o : Nat → Int64} {Y : iv_A} {y0 ret : Int32} (h : x114_r37_4_1 u y0 = some (ret, mm)) : iv_ev (iv_Xs L xs) 114 15 [.ref 40, .int (4 : Int32)] [.int y0, .ref 40] (im_H g u o Y) 0 0 (.inl (some (.int ret)), im_H g mm o Y) := by
  unfold x114_r37_4_1 at h
  refine iv_blk (mi' := 114) (pc' := 18) (ls' := [.ref 40, .int (4 : Int32)]) (st' := []) (A' := List.set (im_H g u o Y) 37 (.inr (6, List.set [.int (u 37 0), .int (u 37 1), .int (u 37 2), .ref 41, .ref 42, .ref 43, .ref 44, .ref 45, .ref 46, .ref 47, .ref 48, .ref 49, .ref 50, .ref 51, .ref 52, .ref 53, .ref 54, .ref 55, .ref 56, .int (u 37 19), .int (u 37 20), .int (u 37 21), .int (u 37 22), .ref 57, .ref 58, .ref 59, .ref 60, .int (u 37 27), .int (u 37 28), .int (u 37 29)] 1 (.int y0)))) (c' := 0) (s' := 0) 1 (fun n => rfl) ?_
  rw [im_f37_1]
  cases h
  exact iv_ret 5 (fun n => rfl)
def x114_r37_4 (u : im_M) : Option (Int32 × im_M) :=
  Option.bind (x86 u (4 : Int32) (6 : Int32)) (fun q1 =>
    bif Op.ifCond.holds .eq q1.1 then
      (x114_r37_4_1 q1.2 (1 : Int32))
    else
      (x114_r37_4_1 q1.2 (0 : Int32)))
set_option maxRecDepth 100000 in
set_option maxHeartbeats 4000000 in
theorem x114_r37_4_ok {L : Nat} {xs : Nat → Int32} {g u mm : im_M} {o : Nat → Int64} {Y : iv_A} {ret : Int32} (h : x114_r37_4 u  = some (ret, mm)) : iv_ev (iv_Xs L xs) 114 0 [.ref 40, .int (4 : Int32)] [] (im_H g u o Y) 0 0 (.inl (some (.int ret)), im_H g mm o Y) := by
  unfold x114_r37_4 at h
  obtain ⟨v1, g1, hc, h⟩ := iv_bd h
  refine iv_cal (mi' := 114) (pc' := 4) (ls' := [.ref 40, .int (4 : Int32)]) (rest := [.ref 40]) (A' := im_H g u o Y) (c' := 0) (s' := 0) (as := [.int (4 : Int32), .int (6 : Int32)]) (v := some (.int v1)) (A'' := im_H g g1 o Y) 4 86 (fun n => rfl) rfl (x86_ok (u := u) (a := (4 : Int32)) (b := (6 : Int32)) hc) ?_
  show iv_ev (iv_Xs L xs) 114 7 [.ref 40, .int (4 : Int32)] [.int v1, .ref 40] (im_H g g1 o Y) 0 0 _
  cases hb1 : Op.ifCond.holds .eq v1 with
  | true =>
    have h := iv_bt hb1 h
    refine iv_brt (mi' := 114) (pc' := 14) (ls' := [.ref 40, .int (4 : Int32)]) (st' := [.ref 40]) (A' := im_H g g1 o Y) (c' := 0) (s' := 0) (mi'' := 114) (pc'' := 10) (ls'' := [.ref 40, .int (4 : Int32)]) (st'' := [.ref 40]) (A'' := im_H g g1 o Y) (c'' := 0) (s'' := 0) 1 0 0 hb1 (fun n => rfl) ?_
    refine iv_blk (mi' := 114) (pc' := 15) (ls' := [.ref 40, .int (4 : Int32)]) (st' := [.int (1 : Int32), .ref 40]) (A' := im_H g g1 o Y) (c' := 0) (s' := 0) 1 (fun n => rfl) ?_
    exact x114_r37_4_1_ok (u := g1) (y0 := (1 : Int32)) h
  | false =>
    have h := iv_bf hb1 h
    refine iv_brf (mi' := 114) (pc' := 14) (ls' := [.ref 40, .int (4 : Int32)]) (st' := [.ref 40]) (A' := im_H g g1 o Y) (c' := 0) (s' := 0) (mi'' := 114) (pc'' := 10) (ls'' := [.ref 40, .int (4 : Int32)]) (st'' := [.ref 40]) (A'' := im_H g g1 o Y) (c'' := 0) (s'' := 0) 1 0 0 hb1 (fun n => rfl) ?_
    refine iv_blk (mi' := 114) (pc' := 15) (ls' := [.ref 40, .int (4 : Int32)]) (st' := [.int (0 : Int32), .ref 40]) (A' := im_H g g1 o Y) (c' := 0) (s' := 0) 2 (fun n => rfl) ?_
    exact x114_r37_4_1_ok (u := g1) (y0 := (0 : Int32)) h
def x114_r37_5_1 (u : im_M) (y0 : Int32) : Option (Int32 × im_M) :=
  some ((u 37 19), (im_w u 37 1 y0))
set_option maxRecDepth 100000 in
set_option maxHeartbeats 4000000 in
theorem x114_r37_5_1_ok {L : Nat} {xs : Nat → Int32} {g u mm : im_M} {o : Nat → Int64} {Y : iv_A} {y0 ret : Int32} (h : x114_r37_5_1 u y0 = some (ret, mm)) : iv_ev (iv_Xs L xs) 114 15 [.ref 40, .int (5 : Int32)] [.int y0, .ref 40] (im_H g u o Y) 0 0 (.inl (some (.int ret)), im_H g mm o Y) := by
  unfold x114_r37_5_1 at h
  refine iv_blk (mi' := 114) (pc' := 18) (ls' := [.ref 40, .int (5 : Int32)]) (st' := []) (A' := List.set (im_H g u o Y) 37 (.inr (6, List.set [.int (u 37 0), .int (u 37 1), .int (u 37 2), .ref 41, .ref 42, .ref 43, .ref 44, .ref 45, .ref 46, .ref 47, .ref 48, .ref 49, .ref 50, .ref 51, .ref 52, .ref 53, .ref 54, .ref 55, .ref 56, .int (u 37 19), .int (u 37 20), .int (u 37 21), .int (u 37 22), .ref 57, .ref 58, .ref 59, .ref 60, .int (u 37 27), .int (u 37 28), .int (u 37 29)] 1 (.int y0)))) (c' := 0) (s' := 0) 1 (fun n => rfl) ?_
  rw [im_f37_1]
  cases h
  exact iv_ret 5 (fun n => rfl)
def x114_r37_5 (u : im_M) : Option (Int32 × im_M) :=
  Option.bind (x86 u (5 : Int32) (6 : Int32)) (fun q1 =>
    bif Op.ifCond.holds .eq q1.1 then
      (x114_r37_5_1 q1.2 (1 : Int32))
    else
      (x114_r37_5_1 q1.2 (0 : Int32)))
set_option maxRecDepth 100000 in
set_option maxHeartbeats 4000000 in
theorem x114_r37_5_ok {L : Nat} {xs : Nat → Int32} {g u mm : im_M} {o : Nat → Int64} {Y : iv_A} {ret : Int32} (h : x114_r37_5 u  = some (ret, mm)) : iv_ev (iv_Xs L xs) 114 0 [.ref 40, .int (5 : Int32)] [] (im_H g u o Y) 0 0 (.inl (some (.int ret)), im_H g mm o Y) := by
  unfold x114_r37_5 at h
  obtain ⟨v1, g1, hc, h⟩ := iv_bd h
  refine iv_cal (mi' := 114) (pc' := 4) (ls' := [.ref 40, .int (5 : Int32)]) (rest := [.ref 40]) (A' := im_H g u o Y) (c' := 0) (s' := 0) (as := [.int (5 : Int32), .int (6 : Int32)]) (v := some (.int v1)) (A'' := im_H g g1 o Y) 4 86 (fun n => rfl) rfl (x86_ok (u := u) (a := (5 : Int32)) (b := (6 : Int32)) hc) ?_
  show iv_ev (iv_Xs L xs) 114 7 [.ref 40, .int (5 : Int32)] [.int v1, .ref 40] (im_H g g1 o Y) 0 0 _
  cases hb1 : Op.ifCond.holds .eq v1 with
  | true =>
    have h := iv_bt hb1 h
    refine iv_brt (mi' := 114) (pc' := 14) (ls' := [.ref 40, .int (5 : Int32)]) (st' := [.ref 40]) (A' := im_H g g1 o Y) (c' := 0) (s' := 0) (mi'' := 114) (pc'' := 10) (ls'' := [.ref 40, .int (5 : Int32)]) (st'' := [.ref 40]) (A'' := im_H g g1 o Y) (c'' := 0) (s'' := 0) 1 0 0 hb1 (fun n => rfl) ?_
    refine iv_blk (mi' := 114) (pc' := 15) (ls' := [.ref 40, .int (5 : Int32)]) (st' := [.int (1 : Int32), .ref 40]) (A' := im_H g g1 o Y) (c' := 0) (s' := 0) 1 (fun n => rfl) ?_
    exact x114_r37_5_1_ok (u := g1) (y0 := (1 : Int32)) h
  | false =>
    have h := iv_bf hb1 h
    refine iv_brf (mi' := 114) (pc' := 14) (ls' := [.ref 40, .int (5 : Int32)]) (st' := [.ref 40]) (A' := im_H g g1 o Y) (c' := 0) (s' := 0) (mi'' := 114) (pc'' := 10) (ls'' := [.ref 40, .int (5 : Int32)]) (st'' := [.ref 40]) (A'' := im_H g g1 o Y) (c'' := 0) (s'' := 0) 1 0 0 hb1 (fun n => rfl) ?_
    refine iv_blk (mi' := 114) (pc' := 15) (ls' := [.ref 40, .int (5 : Int32)]) (st' := [.int (0 : Int32), .ref 40]) (A' := im_H g g1 o Y) (c' := 0) (s' := 0) 2 (fun n => rfl) ?_
    exact x114_r37_5_1_ok (u := g1) (y0 := (0 : Int32)) h
def x114_r37_6_2 (u : im_M) (y0 : Int32) : Option (Int32 × im_M) :=
  some (y0, u)
set_option maxRecDepth 100000 in
set_option maxHeartbeats 4000000 in
theorem x114_r37_6_2_ok {L : Nat} {xs : Nat → Int32} {g u mm : im_M} {o : Nat → Int64} {Y : iv_A} {y0 ret : Int32} (h : x114_r37_6_2 u y0 = some (ret, mm)) : iv_ev (iv_Xs L xs) 114 107 [.ref 40, .int (6 : Int32)] [.int y0] (im_H g u o Y) 0 0 (.inl (some (.int ret)), im_H g mm o Y) := by
  unfold x114_r37_6_2 at h
  cases h
  exact iv_ret 1 (fun n => rfl)
def x114_r37_6_1 (u : im_M) (y0 : Int32) : Option (Int32 × im_M) :=
  bif Op.ifCond.holds .ge (u 37 20) then
    (x114_r37_6_2 (im_w u 37 1 y0) ((u 37 20) / (3 : Int32)))
  else
    (x114_r37_6_2 (im_w u 37 1 y0) (-1 : Int32))
set_option maxRecDepth 100000 in
set_option maxHeartbeats 4000000 in
theorem x114_r37_6_1_ok {L : Nat} {xs : Nat → Int32} {g u mm : im_M} {o : Nat → Int64} {Y : iv_A} {y0 ret : Int32} (h : x114_r37_6_1 u y0 = some (ret, mm)) : iv_ev (iv_Xs L xs) 114 15 [.ref 40, .int (6 : Int32)] [.int y0, .ref 40] (im_H g u o Y) 0 0 (.inl (some (.int ret)), im_H g mm o Y) := by
  unfold x114_r37_6_1 at h
  refine iv_blk (mi' := 114) (pc' := 18) (ls' := [.ref 40, .int (6 : Int32)]) (st' := []) (A' := List.set (im_H g u o Y) 37 (.inr (6, List.set [.int (u 37 0), .int (u 37 1), .int (u 37 2), .ref 41, .ref 42, .ref 43, .ref 44, .ref 45, .ref 46, .ref 47, .ref 48, .ref 49, .ref 50, .ref 51, .ref 52, .ref 53, .ref 54, .ref 55, .ref 56, .int (u 37 19), .int (u 37 20), .int (u 37 21), .int (u 37 22), .ref 57, .ref 58, .ref 59, .ref 60, .int (u 37 27), .int (u 37 28), .int (u 37 29)] 1 (.int y0)))) (c' := 0) (s' := 0) 1 (fun n => rfl) ?_
  rw [im_f37_1]
  cases hb2 : Op.ifCond.holds .ge (u 37 20) with
  | true =>
    have h := iv_bt hb2 h
    refine iv_brt (mi' := 114) (pc' := 101) (ls' := [.ref 40, .int (6 : Int32)]) (st' := []) (A' := im_H g (im_w u 37 1 y0) o Y) (c' := 0) (s' := 0) (mi'' := 114) (pc'' := 97) (ls'' := [.ref 40, .int (6 : Int32)]) (st'' := []) (A'' := im_H g (im_w u 37 1 y0) o Y) (c'' := 0) (s'' := 0) 5 0 0 hb2 (fun n => rfl) ?_
    refine iv_blk (mi' := 114) (pc' := 107) (ls' := [.ref 40, .int (6 : Int32)]) (st' := [.int ((u 37 20) / (3 : Int32))]) (A' := im_H g (im_w u 37 1 y0) o Y) (c' := 0) (s' := 0) 4 (fun n => rfl) ?_
    exact x114_r37_6_2_ok (u := (im_w u 37 1 y0)) (y0 := ((u 37 20) / (3 : Int32))) h
  | false =>
    have h := iv_bf hb2 h
    refine iv_brf (mi' := 114) (pc' := 101) (ls' := [.ref 40, .int (6 : Int32)]) (st' := []) (A' := im_H g (im_w u 37 1 y0) o Y) (c' := 0) (s' := 0) (mi'' := 114) (pc'' := 97) (ls'' := [.ref 40, .int (6 : Int32)]) (st'' := []) (A'' := im_H g (im_w u 37 1 y0) o Y) (c'' := 0) (s'' := 0) 5 0 0 hb2 (fun n => rfl) ?_
    refine iv_blk (mi' := 114) (pc' := 107) (ls' := [.ref 40, .int (6 : Int32)]) (st' := [.int (-1 : Int32)]) (A' := im_H g (im_w u 37 1 y0) o Y) (c' := 0) (s' := 0) 2 (fun n => rfl) ?_
    exact x114_r37_6_2_ok (u := (im_w u 37 1 y0)) (y0 := (-1 : Int32)) h
def x114_r37_6 (u : im_M) : Option (Int32 × im_M) :=
  Option.bind (x86 u (6 : Int32) (6 : Int32)) (fun q1 =>
    bif Op.ifCond.holds .eq q1.1 then
      (x114_r37_6_1 q1.2 (1 : Int32))
    else
      (x114_r37_6_1 q1.2 (0 : Int32)))
set_option maxRecDepth 100000 in
set_option maxHeartbeats 4000000 in
theorem x114_r37_6_ok {L : Nat} {xs : Nat → Int32} {g u mm : im_M} {o : Nat → Int64} {Y : iv_A} {ret : Int32} (h : x114_r37_6 u  = some (ret, mm)) : iv_ev (iv_Xs L xs) 114 0 [.ref 40, .int (6 : Int32)] [] (im_H g u o Y) 0 0 (.inl (some (.int ret)), im_H g mm o Y) := by
  unfold x114_r37_6 at h
  obtain ⟨v1, g1, hc, h⟩ := iv_bd h
  refine iv_cal (mi' := 114) (pc' := 4) (ls' := [.ref 40, .int (6 : Int32)]) (rest := [.ref 40]) (A' := im_H g u o Y) (c' := 0) (s' := 0) (as := [.int (6 : Int32), .int (6 : Int32)]) (v := some (.int v1)) (A'' := im_H g g1 o Y) 4 86 (fun n => rfl) rfl (x86_ok (u := u) (a := (6 : Int32)) (b := (6 : Int32)) hc) ?_
  show iv_ev (iv_Xs L xs) 114 7 [.ref 40, .int (6 : Int32)] [.int v1, .ref 40] (im_H g g1 o Y) 0 0 _
  cases hb1 : Op.ifCond.holds .eq v1 with
  | true =>
    have h := iv_bt hb1 h
    refine iv_brt (mi' := 114) (pc' := 14) (ls' := [.ref 40, .int (6 : Int32)]) (st' := [.ref 40]) (A' := im_H g g1 o Y) (c' := 0) (s' := 0) (mi'' := 114) (pc'' := 10) (ls'' := [.ref 40, .int (6 : Int32)]) (st'' := [.ref 40]) (A'' := im_H g g1 o Y) (c'' := 0) (s'' := 0) 1 0 0 hb1 (fun n => rfl) ?_
    refine iv_blk (mi' := 114) (pc' := 15) (ls' := [.ref 40, .int (6 : Int32)]) (st' := [.int (1 : Int32), .ref 40]) (A' := im_H g g1 o Y) (c' := 0) (s' := 0) 1 (fun n => rfl) ?_
    exact x114_r37_6_1_ok (u := g1) (y0 := (1 : Int32)) h
  | false =>
    have h := iv_bf hb1 h
    refine iv_brf (mi' := 114) (pc' := 14) (ls' := [.ref 40, .int (6 : Int32)]) (st' := [.ref 40]) (A' := im_H g g1 o Y) (c' := 0) (s' := 0) (mi'' := 114) (pc'' := 10) (ls'' := [.ref 40, .int (6 : Int32)]) (st'' := [.ref 40]) (A'' := im_H g g1 o Y) (c'' := 0) (s'' := 0) 1 0 0 hb1 (fun n => rfl) ?_
    refine iv_blk (mi' := 114) (pc' := 15) (ls' := [.ref 40, .int (6 : Int32)]) (st' := [.int (0 : Int32), .ref 40]) (A' := im_H g g1 o Y) (c' := 0) (s' := 0) 2 (fun n => rfl) ?_
    exact x114_r37_6_1_ok (u := g1) (y0 := (0 : Int32)) h
