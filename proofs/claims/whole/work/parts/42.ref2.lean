/-! the reference: the calls but tick and figure (printed by wip/gen/lay1.py) -/
def x85_r37_2 (u : im_M) (y0 : Int32) (y1 : Int32) (y2 : Int32) : Option (Int32 × im_M) :=
  some (0, u)
set_option maxRecDepth 100000 in
set_option maxHeartbeats 4000000 in
theorem x85_r37_2_ok {L : Nat} {xs : Nat → Int32} {g u mm : im_M} {o : Nat → Int64} {Y : iv_A} {y0 y1 y2 ret : Int32} (h : x85_r37_2 u y0 y1 y2 = some (ret, mm)) : iv_ev (iv_Xs L xs) 85 64 [.ref 40, .int y0, .int y1, .int y2] [] (im_H g u o Y) 0 0 (.inl none, im_H g mm o Y) := by
  unfold x85_r37_2 at h
  cases h
  exact iv_ret 1 (fun n => rfl)
def x85_r37_1 (u : im_M) (y0 : Int32) (y1 : Int32) (y2 : Int32) (y3 : Int32) : Option (Int32 × im_M) :=
  bif Op.ifCond.holds .ne y3 then
    (x85_r37_2 (im_w u 37 1 y3) y0 y1 y2)
  else
    (bif iv_in (((3 : Int32) * y0) + y1) 12 then
      x85_r37_2 (im_w (im_w (im_w u 37 1 y3) 38 ((((3 : Int32) * y0) + y1)).toNatClampNeg y2) 40 ((((3 : Int32) * y0) + y1)).toNatClampNeg (1 : Int32)) y0 y1 y2
    else none)
set_option maxRecDepth 100000 in
set_option maxHeartbeats 4000000 in
theorem x85_r37_1_ok {L : Nat} {xs : Nat → Int32} {g u mm : im_M} {o : Nat → Int64} {Y : iv_A} {y0 y1 y2 y3 ret : Int32} (h : x85_r37_1 u y0 y1 y2 y3 = some (ret, mm)) : iv_ev (iv_Xs L xs) 85 32 [.ref 40, .int y0, .int y1, .int y2] [.int y3, .ref 40] (im_H g u o Y) 0 0 (.inl none, im_H g mm o Y) := by
  unfold x85_r37_1 at h
  refine iv_blk (mi' := 85) (pc' := 35) (ls' := [.ref 40, .int y0, .int y1, .int y2]) (st' := []) (A' := List.set (im_H g u o Y) 37 (.inr (6, List.set [.int (u 37 0), .int (u 37 1), .int (u 37 2), .ref 41, .ref 42, .ref 43, .ref 44, .ref 45, .ref 46, .ref 47, .ref 48, .ref 49, .ref 50, .ref 51, .ref 52, .ref 53, .ref 54, .ref 55, .ref 56, .int (u 37 19), .int (u 37 20), .int (u 37 21), .int (u 37 22), .ref 57, .ref 58, .ref 59, .ref 60, .int (u 37 27), .int (u 37 28), .int (u 37 29)] 1 (.int y3)))) (c' := 0) (s' := 0) 1 (fun n => rfl) ?_
  rw [im_f37_1]
  cases hb4 : Op.ifCond.holds .ne y3 with
  | true =>
    have h := iv_bt hb4 h
    refine iv_brt (mi' := 85) (pc' := 64) (ls' := [.ref 40, .int y0, .int y1, .int y2]) (st' := []) (A' := im_H g (im_w u 37 1 y3) o Y) (c' := 0) (s' := 0) (mi'' := 85) (pc'' := 42) (ls'' := [.ref 40, .int y0, .int y1, .int y2]) (st'' := []) (A'' := im_H g (im_w u 37 1 y3) o Y) (c'' := 0) (s'' := 0) 3 0 0 hb4 (fun n => rfl) ?_
    exact x85_r37_2_ok (u := (im_w u 37 1 y3)) (y0 := y0) (y1 := y1) (y2 := y2) h
  | false =>
    have h := iv_bf hb4 h
    refine iv_brf (mi' := 85) (pc' := 64) (ls' := [.ref 40, .int y0, .int y1, .int y2]) (st' := []) (A' := im_H g (im_w u 37 1 y3) o Y) (c' := 0) (s' := 0) (mi'' := 85) (pc'' := 42) (ls'' := [.ref 40, .int y0, .int y1, .int y2]) (st'' := []) (A'' := im_H g (im_w u 37 1 y3) o Y) (c'' := 0) (s'' := 0) 3 0 0 hb4 (fun n => rfl) ?_
    cases hb5 : iv_in (((3 : Int32) * y0) + y1) 12 with
    | false => exact (iv_bn hb5 h).elim
    | true =>
      have h := iv_bt hb5 h
      refine iv_chk (mi' := 85) (pc' := 53) (ls' := [.ref 40, .int y0, .int y1, .int y2]) (st' := []) (A' := List.set (im_H g (im_w u 37 1 y3) o Y) 38 (.inl (0, 12, .inl (upd ((im_w u 37 1 y3) 38) ((((3 : Int32) * y0) + y1)).toNatClampNeg y2)))) (c' := 0) (s' := 0) 9 hb5 (fun n => rfl) ?_
      rw [im_a38]
      refine iv_chk (mi' := 85) (pc' := 64) (ls' := [.ref 40, .int y0, .int y1, .int y2]) (st' := []) (A' := List.set (im_H g (im_w (im_w u 37 1 y3) 38 ((((3 : Int32) * y0) + y1)).toNatClampNeg y2) o Y) 40 (.inl (1, 12, .inl (upd ((im_w (im_w u 37 1 y3) 38 ((((3 : Int32) * y0) + y1)).toNatClampNeg y2) 40) ((((3 : Int32) * y0) + y1)).toNatClampNeg (1 : Int32))))) (c' := 0) (s' := 0) 9 hb5 (fun n => rfl) ?_
      rw [im_a40]
      exact x85_r37_2_ok (u := (im_w (im_w (im_w u 37 1 y3) 38 ((((3 : Int32) * y0) + y1)).toNatClampNeg y2) 40 ((((3 : Int32) * y0) + y1)).toNatClampNeg (1 : Int32))) (y0 := y0) (y1 := y1) (y2 := y2) h
def x85_r37 (u : im_M) (a : Int32) (b : Int32) (c : Int32) : Option (Int32 × im_M) :=
  Option.bind (x86 u a (3 : Int32)) (fun q1 =>
    bif Op.ifCond.holds .eq q1.1 then
      (x85_r37_1 q1.2 a b c (1 : Int32))
    else
      (Option.bind (x86 q1.2 b (2 : Int32)) (fun q2 =>
        bif Op.ifCond.holds .eq q2.1 then
          (x85_r37_1 q2.2 a b c (1 : Int32))
        else
          (Option.bind (x86 q2.2 c (4095 : Int32)) (fun q3 =>
            bif Op.ifCond.holds .eq q3.1 then
              (x85_r37_1 q3.2 a b c (1 : Int32))
            else
              (x85_r37_1 q3.2 a b c (0 : Int32)))))))
set_option maxRecDepth 100000 in
set_option maxHeartbeats 4000000 in
theorem x85_r37_ok {L : Nat} {xs : Nat → Int32} {g u mm : im_M} {o : Nat → Int64} {Y : iv_A} {a b c ret : Int32} (h : x85_r37 u a b c = some (ret, mm)) : iv_ev (iv_Xs L xs) 85 0 [.ref 40, .int a, .int b, .int c] [] (im_H g u o Y) 0 0 (.inl none, im_H g mm o Y) := by
  unfold x85_r37 at h
  obtain ⟨v1, g1, hc, h⟩ := iv_bd h
  refine iv_cal (mi' := 85) (pc' := 3) (ls' := [.ref 40, .int a, .int b, .int c]) (rest := [.ref 40]) (A' := im_H g u o Y) (c' := 0) (s' := 0) (as := [.int a, .int (3 : Int32)]) (v := some (.int v1)) (A'' := im_H g g1 o Y) 4 86 (fun n => rfl) rfl (x86_ok (u := u) (a := a) (b := (3 : Int32)) hc) ?_
  show iv_ev (iv_Xs L xs) 85 6 [.ref 40, .int a, .int b, .int c] [.int v1, .ref 40] (im_H g g1 o Y) 0 0 _
  cases hb1 : Op.ifCond.holds .eq v1 with
  | true =>
    have h := iv_bt hb1 h
    refine iv_brt (mi' := 85) (pc' := 31) (ls' := [.ref 40, .int a, .int b, .int c]) (st' := [.ref 40]) (A' := im_H g g1 o Y) (c' := 0) (s' := 0) (mi'' := 85) (pc'' := 9) (ls'' := [.ref 40, .int a, .int b, .int c]) (st'' := [.ref 40]) (A'' := im_H g g1 o Y) (c'' := 0) (s'' := 0) 1 0 0 hb1 (fun n => rfl) ?_
    refine iv_blk (mi' := 85) (pc' := 32) (ls' := [.ref 40, .int a, .int b, .int c]) (st' := [.int (1 : Int32), .ref 40]) (A' := im_H g g1 o Y) (c' := 0) (s' := 0) 1 (fun n => rfl) ?_
    exact x85_r37_1_ok (u := g1) (y0 := a) (y1 := b) (y2 := c) (y3 := (1 : Int32)) h
  | false =>
    have h := iv_bf hb1 h
    refine iv_brf (mi' := 85) (pc' := 31) (ls' := [.ref 40, .int a, .int b, .int c]) (st' := [.ref 40]) (A' := im_H g g1 o Y) (c' := 0) (s' := 0) (mi'' := 85) (pc'' := 9) (ls'' := [.ref 40, .int a, .int b, .int c]) (st'' := [.ref 40]) (A'' := im_H g g1 o Y) (c'' := 0) (s'' := 0) 1 0 0 hb1 (fun n => rfl) ?_
    obtain ⟨v2, g2, hc, h⟩ := iv_bd h
    refine iv_cal (mi' := 85) (pc' := 11) (ls' := [.ref 40, .int a, .int b, .int c]) (rest := [.ref 40]) (A' := im_H g g1 o Y) (c' := 0) (s' := 0) (as := [.int b, .int (2 : Int32)]) (v := some (.int v2)) (A'' := im_H g g2 o Y) 3 86 (fun n => rfl) rfl (x86_ok (u := g1) (a := b) (b := (2 : Int32)) hc) ?_
    show iv_ev (iv_Xs L xs) 85 14 [.ref 40, .int a, .int b, .int c] [.int v2, .ref 40] (im_H g g2 o Y) 0 0 _
    cases hb2 : Op.ifCond.holds .eq v2 with
    | true =>
      have h := iv_bt hb2 h
      refine iv_brt (mi' := 85) (pc' := 31) (ls' := [.ref 40, .int a, .int b, .int c]) (st' := [.ref 40]) (A' := im_H g g2 o Y) (c' := 0) (s' := 0) (mi'' := 85) (pc'' := 17) (ls'' := [.ref 40, .int a, .int b, .int c]) (st'' := [.ref 40]) (A'' := im_H g g2 o Y) (c'' := 0) (s'' := 0) 1 0 0 hb2 (fun n => rfl) ?_
      refine iv_blk (mi' := 85) (pc' := 32) (ls' := [.ref 40, .int a, .int b, .int c]) (st' := [.int (1 : Int32), .ref 40]) (A' := im_H g g2 o Y) (c' := 0) (s' := 0) 1 (fun n => rfl) ?_
      exact x85_r37_1_ok (u := g2) (y0 := a) (y1 := b) (y2 := c) (y3 := (1 : Int32)) h
    | false =>
      have h := iv_bf hb2 h
      refine iv_brf (mi' := 85) (pc' := 31) (ls' := [.ref 40, .int a, .int b, .int c]) (st' := [.ref 40]) (A' := im_H g g2 o Y) (c' := 0) (s' := 0) (mi'' := 85) (pc'' := 17) (ls'' := [.ref 40, .int a, .int b, .int c]) (st'' := [.ref 40]) (A'' := im_H g g2 o Y) (c'' := 0) (s'' := 0) 1 0 0 hb2 (fun n => rfl) ?_
      obtain ⟨v3, g3, hc, h⟩ := iv_bd h
      refine iv_cal (mi' := 85) (pc' := 21) (ls' := [.ref 40, .int a, .int b, .int c]) (rest := [.ref 40]) (A' := im_H g g2 o Y) (c' := 0) (s' := 0) (as := [.int c, .int (4095 : Int32)]) (v := some (.int v3)) (A'' := im_H g g3 o Y) 3 86 (fun n => rfl) rfl (x86_ok (u := g2) (a := c) (b := (4095 : Int32)) hc) ?_
      show iv_ev (iv_Xs L xs) 85 24 [.ref 40, .int a, .int b, .int c] [.int v3, .ref 40] (im_H g g3 o Y) 0 0 _
      cases hb3 : Op.ifCond.holds .eq v3 with
      | true =>
        have h := iv_bt hb3 h
        refine iv_brt (mi' := 85) (pc' := 31) (ls' := [.ref 40, .int a, .int b, .int c]) (st' := [.ref 40]) (A' := im_H g g3 o Y) (c' := 0) (s' := 0) (mi'' := 85) (pc'' := 27) (ls'' := [.ref 40, .int a, .int b, .int c]) (st'' := [.ref 40]) (A'' := im_H g g3 o Y) (c'' := 0) (s'' := 0) 1 0 0 hb3 (fun n => rfl) ?_
        refine iv_blk (mi' := 85) (pc' := 32) (ls' := [.ref 40, .int a, .int b, .int c]) (st' := [.int (1 : Int32), .ref 40]) (A' := im_H g g3 o Y) (c' := 0) (s' := 0) 1 (fun n => rfl) ?_
        exact x85_r37_1_ok (u := g3) (y0 := a) (y1 := b) (y2 := c) (y3 := (1 : Int32)) h
      | false =>
        have h := iv_bf hb3 h
        refine iv_brf (mi' := 85) (pc' := 31) (ls' := [.ref 40, .int a, .int b, .int c]) (st' := [.ref 40]) (A' := im_H g g3 o Y) (c' := 0) (s' := 0) (mi'' := 85) (pc'' := 27) (ls'' := [.ref 40, .int a, .int b, .int c]) (st'' := [.ref 40]) (A'' := im_H g g3 o Y) (c'' := 0) (s'' := 0) 1 0 0 hb3 (fun n => rfl) ?_
        refine iv_blk (mi' := 85) (pc' := 32) (ls' := [.ref 40, .int a, .int b, .int c]) (st' := [.int (0 : Int32), .ref 40]) (A' := im_H g g3 o Y) (c' := 0) (s' := 0) 2 (fun n => rfl) ?_
        exact x85_r37_1_ok (u := g3) (y0 := a) (y1 := b) (y2 := c) (y3 := (0 : Int32)) h
def x87_r37_2 (u : im_M) (y0 : Int32) (y1 : Int32) (y2 : Int32) : Option (Int32 × im_M) :=
  some (y2, u)
set_option maxRecDepth 100000 in
set_option maxHeartbeats 4000000 in
theorem x87_r37_2_ok {L : Nat} {xs : Nat → Int32} {g u mm : im_M} {o : Nat → Int64} {Y : iv_A} {y0 y1 y2 ret : Int32} (h : x87_r37_2 u y0 y1 y2 = some (ret, mm)) : iv_ev (iv_Xs L xs) 87 42 [.ref 40, .int y0, .int y1] [.int y2] (im_H g u o Y) 0 0 (.inl (some (.int ret)), im_H g mm o Y) := by
  unfold x87_r37_2 at h
  cases h
  exact iv_ret 1 (fun n => rfl)
def x87_r37_1 (u : im_M) (y0 : Int32) (y1 : Int32) (y2 : Int32) : Option (Int32 × im_M) :=
  bif Op.ifCond.holds .ne y2 then
    (x87_r37_2 (im_w u 37 1 y2) y0 y1 (0 : Int32))
  else
    (Option.bind (x88_r37 (im_w u 37 1 y2) y0 y1) (fun q3 =>
      x87_r37_2 q3.2 y0 y1 q3.1))
set_option maxRecDepth 100000 in
set_option maxHeartbeats 4000000 in
theorem x87_r37_1_ok {L : Nat} {xs : Nat → Int32} {g u mm : im_M} {o : Nat → Int64} {Y : iv_A} {y0 y1 y2 ret : Int32} (h : x87_r37_1 u y0 y1 y2 = some (ret, mm)) : iv_ev (iv_Xs L xs) 87 22 [.ref 40, .int y0, .int y1] [.int y2, .ref 40] (im_H g u o Y) 0 0 (.inl (some (.int ret)), im_H g mm o Y) := by
  unfold x87_r37_1 at h
  refine iv_blk (mi' := 87) (pc' := 25) (ls' := [.ref 40, .int y0, .int y1]) (st' := []) (A' := List.set (im_H g u o Y) 37 (.inr (6, List.set [.int (u 37 0), .int (u 37 1), .int (u 37 2), .ref 41, .ref 42, .ref 43, .ref 44, .ref 45, .ref 46, .ref 47, .ref 48, .ref 49, .ref 50, .ref 51, .ref 52, .ref 53, .ref 54, .ref 55, .ref 56, .int (u 37 19), .int (u 37 20), .int (u 37 21), .int (u 37 22), .ref 57, .ref 58, .ref 59, .ref 60, .int (u 37 27), .int (u 37 28), .int (u 37 29)] 1 (.int y2)))) (c' := 0) (s' := 0) 1 (fun n => rfl) ?_
  rw [im_f37_1]
  cases hb3 : Op.ifCond.holds .ne y2 with
  | true =>
    have h := iv_bt hb3 h
    refine iv_brt (mi' := 87) (pc' := 41) (ls' := [.ref 40, .int y0, .int y1]) (st' := []) (A' := im_H g (im_w u 37 1 y2) o Y) (c' := 0) (s' := 0) (mi'' := 87) (pc'' := 32) (ls'' := [.ref 40, .int y0, .int y1]) (st'' := []) (A'' := im_H g (im_w u 37 1 y2) o Y) (c'' := 0) (s'' := 0) 3 0 0 hb3 (fun n => rfl) ?_
    refine iv_blk (mi' := 87) (pc' := 42) (ls' := [.ref 40, .int y0, .int y1]) (st' := [.int (0 : Int32)]) (A' := im_H g (im_w u 37 1 y2) o Y) (c' := 0) (s' := 0) 1 (fun n => rfl) ?_
    exact x87_r37_2_ok (u := (im_w u 37 1 y2)) (y0 := y0) (y1 := y1) (y2 := (0 : Int32)) h
  | false =>
    have h := iv_bf hb3 h
    refine iv_brf (mi' := 87) (pc' := 41) (ls' := [.ref 40, .int y0, .int y1]) (st' := []) (A' := im_H g (im_w u 37 1 y2) o Y) (c' := 0) (s' := 0) (mi'' := 87) (pc'' := 32) (ls'' := [.ref 40, .int y0, .int y1]) (st'' := []) (A'' := im_H g (im_w u 37 1 y2) o Y) (c'' := 0) (s'' := 0) 3 0 0 hb3 (fun n => rfl) ?_
    obtain ⟨v3, g3, hc, h⟩ := iv_bd h
    refine iv_cal (mi' := 87) (pc' := 35) (ls' := [.ref 40, .int y0, .int y1]) (rest := []) (A' := im_H g (im_w u 37 1 y2) o Y) (c' := 0) (s' := 0) (as := [.ref 40, .int y0, .int y1]) (v := some (.int v3)) (A'' := im_H g g3 o Y) 4 88 (fun n => rfl) rfl (x88_r37_ok (u := (im_w u 37 1 y2)) (a := y0) (b := y1) hc) ?_
    show iv_ev (iv_Xs L xs) 87 38 [.ref 40, .int y0, .int y1] [.int v3] (im_H g g3 o Y) 0 0 _
    refine iv_blk (mi' := 87) (pc' := 42) (ls' := [.ref 40, .int y0, .int y1]) (st' := [.int v3]) (A' := im_H g g3 o Y) (c' := 0) (s' := 0) 1 (fun n => rfl) ?_
    exact x87_r37_2_ok (u := g3) (y0 := y0) (y1 := y1) (y2 := v3) h
def x87_r37 (u : im_M) (a : Int32) (b : Int32) : Option (Int32 × im_M) :=
  Option.bind (x86 u a (3 : Int32)) (fun q1 =>
    bif Op.ifCond.holds .eq q1.1 then
      (x87_r37_1 q1.2 a b (1 : Int32))
    else
      (Option.bind (x86 q1.2 b (2 : Int32)) (fun q2 =>
        bif Op.ifCond.holds .eq q2.1 then
          (x87_r37_1 q2.2 a b (1 : Int32))
        else
          (x87_r37_1 q2.2 a b (0 : Int32)))))
set_option maxRecDepth 100000 in
set_option maxHeartbeats 4000000 in
theorem x87_r37_ok {L : Nat} {xs : Nat → Int32} {g u mm : im_M} {o : Nat → Int64} {Y : iv_A} {a b ret : Int32} (h : x87_r37 u a b = some (ret, mm)) : iv_ev (iv_Xs L xs) 87 0 [.ref 40, .int a, .int b] [] (im_H g u o Y) 0 0 (.inl (some (.int ret)), im_H g mm o Y) := by
  unfold x87_r37 at h
  obtain ⟨v1, g1, hc, h⟩ := iv_bd h
  refine iv_cal (mi' := 87) (pc' := 3) (ls' := [.ref 40, .int a, .int b]) (rest := [.ref 40]) (A' := im_H g u o Y) (c' := 0) (s' := 0) (as := [.int a, .int (3 : Int32)]) (v := some (.int v1)) (A'' := im_H g g1 o Y) 4 86 (fun n => rfl) rfl (x86_ok (u := u) (a := a) (b := (3 : Int32)) hc) ?_
  show iv_ev (iv_Xs L xs) 87 6 [.ref 40, .int a, .int b] [.int v1, .ref 40] (im_H g g1 o Y) 0 0 _
  cases hb1 : Op.ifCond.holds .eq v1 with
  | true =>
    have h := iv_bt hb1 h
    refine iv_brt (mi' := 87) (pc' := 21) (ls' := [.ref 40, .int a, .int b]) (st' := [.ref 40]) (A' := im_H g g1 o Y) (c' := 0) (s' := 0) (mi'' := 87) (pc'' := 9) (ls'' := [.ref 40, .int a, .int b]) (st'' := [.ref 40]) (A'' := im_H g g1 o Y) (c'' := 0) (s'' := 0) 1 0 0 hb1 (fun n => rfl) ?_
    refine iv_blk (mi' := 87) (pc' := 22) (ls' := [.ref 40, .int a, .int b]) (st' := [.int (1 : Int32), .ref 40]) (A' := im_H g g1 o Y) (c' := 0) (s' := 0) 1 (fun n => rfl) ?_
    exact x87_r37_1_ok (u := g1) (y0 := a) (y1 := b) (y2 := (1 : Int32)) h
  | false =>
    have h := iv_bf hb1 h
    refine iv_brf (mi' := 87) (pc' := 21) (ls' := [.ref 40, .int a, .int b]) (st' := [.ref 40]) (A' := im_H g g1 o Y) (c' := 0) (s' := 0) (mi'' := 87) (pc'' := 9) (ls'' := [.ref 40, .int a, .int b]) (st'' := [.ref 40]) (A'' := im_H g g1 o Y) (c'' := 0) (s'' := 0) 1 0 0 hb1 (fun n => rfl) ?_
    obtain ⟨v2, g2, hc, h⟩ := iv_bd h
    refine iv_cal (mi' := 87) (pc' := 11) (ls' := [.ref 40, .int a, .int b]) (rest := [.ref 40]) (A' := im_H g g1 o Y) (c' := 0) (s' := 0) (as := [.int b, .int (2 : Int32)]) (v := some (.int v2)) (A'' := im_H g g2 o Y) 3 86 (fun n => rfl) rfl (x86_ok (u := g1) (a := b) (b := (2 : Int32)) hc) ?_
    show iv_ev (iv_Xs L xs) 87 14 [.ref 40, .int a, .int b] [.int v2, .ref 40] (im_H g g2 o Y) 0 0 _
    cases hb2 : Op.ifCond.holds .eq v2 with
    | true =>
      have h := iv_bt hb2 h
      refine iv_brt (mi' := 87) (pc' := 21) (ls' := [.ref 40, .int a, .int b]) (st' := [.ref 40]) (A' := im_H g g2 o Y) (c' := 0) (s' := 0) (mi'' := 87) (pc'' := 17) (ls'' := [.ref 40, .int a, .int b]) (st'' := [.ref 40]) (A'' := im_H g g2 o Y) (c'' := 0) (s'' := 0) 1 0 0 hb2 (fun n => rfl) ?_
      refine iv_blk (mi' := 87) (pc' := 22) (ls' := [.ref 40, .int a, .int b]) (st' := [.int (1 : Int32), .ref 40]) (A' := im_H g g2 o Y) (c' := 0) (s' := 0) 1 (fun n => rfl) ?_
      exact x87_r37_1_ok (u := g2) (y0 := a) (y1 := b) (y2 := (1 : Int32)) h
    | false =>
      have h := iv_bf hb2 h
      refine iv_brf (mi' := 87) (pc' := 21) (ls' := [.ref 40, .int a, .int b]) (st' := [.ref 40]) (A' := im_H g g2 o Y) (c' := 0) (s' := 0) (mi'' := 87) (pc'' := 17) (ls'' := [.ref 40, .int a, .int b]) (st'' := [.ref 40]) (A'' := im_H g g2 o Y) (c'' := 0) (s'' := 0) 1 0 0 hb2 (fun n => rfl) ?_
      refine iv_blk (mi' := 87) (pc' := 22) (ls' := [.ref 40, .int a, .int b]) (st' := [.int (0 : Int32), .ref 40]) (A' := im_H g g2 o Y) (c' := 0) (s' := 0) 2 (fun n => rfl) ?_
      exact x87_r37_1_ok (u := g2) (y0 := a) (y1 := b) (y2 := (0 : Int32)) h
def x100_r37_3 (u : im_M) (y0 : Int32) (y1 : Int32) (y2 : Int32) (y3 : Int32) : Option (Int32 × im_M) :=
  some ((y3 ||| y2), u)
set_option maxRecDepth 100000 in
set_option maxHeartbeats 4000000 in
theorem x100_r37_3_ok {L : Nat} {xs : Nat → Int32} {g u mm : im_M} {o : Nat → Int64} {Y : iv_A} {y0 y1 y2 y3 ret : Int32} (h : x100_r37_3 u y0 y1 y2 y3 = some (ret, mm)) : iv_ev (iv_Xs L xs) 100 33 [.ref 40, .int y0, .int y1, .int (2 : Int32)] [.int y2, .int y3] (im_H g u o Y) 0 0 (.inl (some (.int ret)), im_H g mm o Y) := by
  unfold x100_r37_3 at h
  cases h
  exact iv_ret 9 (fun n => rfl)
def x100_r37_2 (u : im_M) (y0 : Int32) (y1 : Int32) (y2 : Int32) (y3 : Int32) : Option (Int32 × im_M) :=
  Option.bind (x95_r37 u (((3 : Int32) * y0) + (2 : Int32)) (u 37 2)) (fun q3 =>
    bif Op.ifCond.holds .eq q3.1 then
      (x100_r37_3 q3.2 y0 (y3 ||| y2) (0 : Int32) (y3 ||| y2))
    else
      (x100_r37_3 q3.2 y0 (y3 ||| y2) (4 : Int32) (y3 ||| y2)))
set_option maxRecDepth 100000 in
set_option maxHeartbeats 4000000 in
theorem x100_r37_2_ok {L : Nat} {xs : Nat → Int32} {g u mm : im_M} {o : Nat → Int64} {Y : iv_A} {y0 y1 y2 y3 ret : Int32} (h : x100_r37_2 u y0 y1 y2 y3 = some (ret, mm)) : iv_ev (iv_Xs L xs) 100 33 [.ref 40, .int y0, .int y1, .int (1 : Int32)] [.int y2, .int y3] (im_H g u o Y) 0 0 (.inl (some (.int ret)), im_H g mm o Y) := by
  unfold x100_r37_2 at h
  obtain ⟨v3, g3, hc, h⟩ := iv_bd h
  refine iv_cal (mi' := 100) (pc' := 20) (ls' := [.ref 40, .int y0, .int (y3 ||| y2), .int (2 : Int32)]) (rest := [.int (y3 ||| y2)]) (A' := im_H g u o Y) (c' := 0) (s' := 0) (as := [.ref 40, .int (((3 : Int32) * y0) + (2 : Int32)), .int (u 37 2)]) (v := some (.int v3)) (A'' := im_H g g3 o Y) 17 95 (fun n => rfl) rfl (x95_r37_ok (u := u) (a := (((3 : Int32) * y0) + (2 : Int32))) (b := (u 37 2)) hc) ?_
  show iv_ev (iv_Xs L xs) 100 23 [.ref 40, .int y0, .int (y3 ||| y2), .int (2 : Int32)] [.int v3, .int (y3 ||| y2)] (im_H g g3 o Y) 0 0 _
  cases hb3 : Op.ifCond.holds .eq v3 with
  | true =>
    have h := iv_bt hb3 h
    refine iv_brt (mi' := 100) (pc' := 32) (ls' := [.ref 40, .int y0, .int (y3 ||| y2), .int (2 : Int32)]) (st' := [.int (y3 ||| y2)]) (A' := im_H g g3 o Y) (c' := 0) (s' := 0) (mi'' := 100) (pc'' := 26) (ls'' := [.ref 40, .int y0, .int (y3 ||| y2), .int (2 : Int32)]) (st'' := [.int (y3 ||| y2)]) (A'' := im_H g g3 o Y) (c'' := 0) (s'' := 0) 1 0 0 hb3 (fun n => rfl) ?_
    refine iv_blk (mi' := 100) (pc' := 33) (ls' := [.ref 40, .int y0, .int (y3 ||| y2), .int (2 : Int32)]) (st' := [.int (0 : Int32), .int (y3 ||| y2)]) (A' := im_H g g3 o Y) (c' := 0) (s' := 0) 1 (fun n => rfl) ?_
    exact x100_r37_3_ok (u := g3) (y0 := y0) (y1 := (y3 ||| y2)) (y2 := (0 : Int32)) (y3 := (y3 ||| y2)) h
  | false =>
    have h := iv_bf hb3 h
    refine iv_brf (mi' := 100) (pc' := 32) (ls' := [.ref 40, .int y0, .int (y3 ||| y2), .int (2 : Int32)]) (st' := [.int (y3 ||| y2)]) (A' := im_H g g3 o Y) (c' := 0) (s' := 0) (mi'' := 100) (pc'' := 26) (ls'' := [.ref 40, .int y0, .int (y3 ||| y2), .int (2 : Int32)]) (st'' := [.int (y3 ||| y2)]) (A'' := im_H g g3 o Y) (c'' := 0) (s'' := 0) 1 0 0 hb3 (fun n => rfl) ?_
    refine iv_blk (mi' := 100) (pc' := 33) (ls' := [.ref 40, .int y0, .int (y3 ||| y2), .int (2 : Int32)]) (st' := [.int (4 : Int32), .int (y3 ||| y2)]) (A' := im_H g g3 o Y) (c' := 0) (s' := 0) 4 (fun n => rfl) ?_
    exact x100_r37_3_ok (u := g3) (y0 := y0) (y1 := (y3 ||| y2)) (y2 := (4 : Int32)) (y3 := (y3 ||| y2)) h
def x100_r37_1 (u : im_M) (y0 : Int32) (y1 : Int32) : Option (Int32 × im_M) :=
  Option.bind (x95_r37 u (((3 : Int32) * y0) + (1 : Int32)) (u 37 2)) (fun q2 =>
    bif Op.ifCond.holds .eq q2.1 then
      (x100_r37_2 q2.2 y0 ((0 : Int32) ||| y1) (0 : Int32) ((0 : Int32) ||| y1))
    else
      (x100_r37_2 q2.2 y0 ((0 : Int32) ||| y1) (2 : Int32) ((0 : Int32) ||| y1)))
set_option maxRecDepth 100000 in
set_option maxHeartbeats 4000000 in
theorem x100_r37_1_ok {L : Nat} {xs : Nat → Int32} {g u mm : im_M} {o : Nat → Int64} {Y : iv_A} {y0 y1 ret : Int32} (h : x100_r37_1 u y0 y1 = some (ret, mm)) : iv_ev (iv_Xs L xs) 100 33 [.ref 40, .int y0, .int (0 : Int32), .int (0 : Int32)] [.int y1, .int (0 : Int32)] (im_H g u o Y) 0 0 (.inl (some (.int ret)), im_H g mm o Y) := by
  unfold x100_r37_1 at h
  obtain ⟨v2, g2, hc, h⟩ := iv_bd h
  refine iv_cal (mi' := 100) (pc' := 20) (ls' := [.ref 40, .int y0, .int ((0 : Int32) ||| y1), .int (1 : Int32)]) (rest := [.int ((0 : Int32) ||| y1)]) (A' := im_H g u o Y) (c' := 0) (s' := 0) (as := [.ref 40, .int (((3 : Int32) * y0) + (1 : Int32)), .int (u 37 2)]) (v := some (.int v2)) (A'' := im_H g g2 o Y) 17 95 (fun n => rfl) rfl (x95_r37_ok (u := u) (a := (((3 : Int32) * y0) + (1 : Int32))) (b := (u 37 2)) hc) ?_
  show iv_ev (iv_Xs L xs) 100 23 [.ref 40, .int y0, .int ((0 : Int32) ||| y1), .int (1 : Int32)] [.int v2, .int ((0 : Int32) ||| y1)] (im_H g g2 o Y) 0 0 _
  cases hb2 : Op.ifCond.holds .eq v2 with
  | true =>
    have h := iv_bt hb2 h
    refine iv_brt (mi' := 100) (pc' := 32) (ls' := [.ref 40, .int y0, .int ((0 : Int32) ||| y1), .int (1 : Int32)]) (st' := [.int ((0 : Int32) ||| y1)]) (A' := im_H g g2 o Y) (c' := 0) (s' := 0) (mi'' := 100) (pc'' := 26) (ls'' := [.ref 40, .int y0, .int ((0 : Int32) ||| y1), .int (1 : Int32)]) (st'' := [.int ((0 : Int32) ||| y1)]) (A'' := im_H g g2 o Y) (c'' := 0) (s'' := 0) 1 0 0 hb2 (fun n => rfl) ?_
    refine iv_blk (mi' := 100) (pc' := 33) (ls' := [.ref 40, .int y0, .int ((0 : Int32) ||| y1), .int (1 : Int32)]) (st' := [.int (0 : Int32), .int ((0 : Int32) ||| y1)]) (A' := im_H g g2 o Y) (c' := 0) (s' := 0) 1 (fun n => rfl) ?_
    exact x100_r37_2_ok (u := g2) (y0 := y0) (y1 := ((0 : Int32) ||| y1)) (y2 := (0 : Int32)) (y3 := ((0 : Int32) ||| y1)) h
  | false =>
    have h := iv_bf hb2 h
    refine iv_brf (mi' := 100) (pc' := 32) (ls' := [.ref 40, .int y0, .int ((0 : Int32) ||| y1), .int (1 : Int32)]) (st' := [.int ((0 : Int32) ||| y1)]) (A' := im_H g g2 o Y) (c' := 0) (s' := 0) (mi'' := 100) (pc'' := 26) (ls'' := [.ref 40, .int y0, .int ((0 : Int32) ||| y1), .int (1 : Int32)]) (st'' := [.int ((0 : Int32) ||| y1)]) (A'' := im_H g g2 o Y) (c'' := 0) (s'' := 0) 1 0 0 hb2 (fun n => rfl) ?_
    refine iv_blk (mi' := 100) (pc' := 33) (ls' := [.ref 40, .int y0, .int ((0 : Int32) ||| y1), .int (1 : Int32)]) (st' := [.int (2 : Int32), .int ((0 : Int32) ||| y1)]) (A' := im_H g g2 o Y) (c' := 0) (s' := 0) 4 (fun n => rfl) ?_
    exact x100_r37_2_ok (u := g2) (y0 := y0) (y1 := ((0 : Int32) ||| y1)) (y2 := (2 : Int32)) (y3 := ((0 : Int32) ||| y1)) h
def x100_r37 (u : im_M) (a : Int32) : Option (Int32 × im_M) :=
  Option.bind (x95_r37 u (((3 : Int32) * a) + (0 : Int32)) (u 37 2)) (fun q1 =>
    bif Op.ifCond.holds .eq q1.1 then
      (x100_r37_1 q1.2 a (0 : Int32))
    else
      (x100_r37_1 q1.2 a (1 : Int32)))
set_option maxRecDepth 100000 in
set_option maxHeartbeats 4000000 in
theorem x100_r37_ok {L : Nat} {xs : Nat → Int32} {g u mm : im_M} {o : Nat → Int64} {Y : iv_A} {a ret : Int32} (h : x100_r37 u a = some (ret, mm)) : iv_ev (iv_Xs L xs) 100 0 [.ref 40, .int a, .retAddr 0, .retAddr 0] [] (im_H g u o Y) 0 0 (.inl (some (.int ret)), im_H g mm o Y) := by
  unfold x100_r37 at h
  obtain ⟨v1, g1, hc, h⟩ := iv_bd h
  refine iv_cal (mi' := 100) (pc' := 20) (ls' := [.ref 40, .int a, .int (0 : Int32), .int (0 : Int32)]) (rest := [.int (0 : Int32)]) (A' := im_H g u o Y) (c' := 0) (s' := 0) (as := [.ref 40, .int (((3 : Int32) * a) + (0 : Int32)), .int (u 37 2)]) (v := some (.int v1)) (A'' := im_H g g1 o Y) 17 95 (fun n => rfl) rfl (x95_r37_ok (u := u) (a := (((3 : Int32) * a) + (0 : Int32))) (b := (u 37 2)) hc) ?_
  show iv_ev (iv_Xs L xs) 100 23 [.ref 40, .int a, .int (0 : Int32), .int (0 : Int32)] [.int v1, .int (0 : Int32)] (im_H g g1 o Y) 0 0 _
  cases hb1 : Op.ifCond.holds .eq v1 with
  | true =>
    have h := iv_bt hb1 h
    refine iv_brt (mi' := 100) (pc' := 32) (ls' := [.ref 40, .int a, .int (0 : Int32), .int (0 : Int32)]) (st' := [.int (0 : Int32)]) (A' := im_H g g1 o Y) (c' := 0) (s' := 0) (mi'' := 100) (pc'' := 26) (ls'' := [.ref 40, .int a, .int (0 : Int32), .int (0 : Int32)]) (st'' := [.int (0 : Int32)]) (A'' := im_H g g1 o Y) (c'' := 0) (s'' := 0) 1 0 0 hb1 (fun n => rfl) ?_
    refine iv_blk (mi' := 100) (pc' := 33) (ls' := [.ref 40, .int a, .int (0 : Int32), .int (0 : Int32)]) (st' := [.int (0 : Int32), .int (0 : Int32)]) (A' := im_H g g1 o Y) (c' := 0) (s' := 0) 1 (fun n => rfl) ?_
    exact x100_r37_1_ok (u := g1) (y0 := a) (y1 := (0 : Int32)) h
  | false =>
    have h := iv_bf hb1 h
    refine iv_brf (mi' := 100) (pc' := 32) (ls' := [.ref 40, .int a, .int (0 : Int32), .int (0 : Int32)]) (st' := [.int (0 : Int32)]) (A' := im_H g g1 o Y) (c' := 0) (s' := 0) (mi'' := 100) (pc'' := 26) (ls'' := [.ref 40, .int a, .int (0 : Int32), .int (0 : Int32)]) (st'' := [.int (0 : Int32)]) (A'' := im_H g g1 o Y) (c'' := 0) (s'' := 0) 1 0 0 hb1 (fun n => rfl) ?_
    refine iv_blk (mi' := 100) (pc' := 33) (ls' := [.ref 40, .int a, .int (0 : Int32), .int (0 : Int32)]) (st' := [.int (1 : Int32), .int (0 : Int32)]) (A' := im_H g g1 o Y) (c' := 0) (s' := 0) 4 (fun n => rfl) ?_
    exact x100_r37_1_ok (u := g1) (y0 := a) (y1 := (1 : Int32)) h
def x103_r37_2 (u : im_M) (y0 : Int32) : Option (Int32 × im_M) :=
  some (0, u)
set_option maxRecDepth 100000 in
set_option maxHeartbeats 4000000 in
theorem x103_r37_2_ok {L : Nat} {xs : Nat → Int32} {g u mm : im_M} {o : Nat → Int64} {Y : iv_A} {y0 ret : Int32} (h : x103_r37_2 u y0 = some (ret, mm)) : iv_ev (iv_Xs L xs) 103 65 [.ref 40, .int y0] [] (im_H g u o Y) 0 0 (.inl none, im_H g mm o Y) := by
  unfold x103_r37_2 at h
  cases h
  exact iv_ret 1 (fun n => rfl)
def x103_r37_1 (u : im_M) (y0 : Int32) (y1 : Int32) : Option (Int32 × im_M) :=
  bif Op.ifCond.holds .ne y1 then
    (x103_r37_2 (im_w u 37 1 y1) y0)
  else
    (Option.bind (x94_r37 (im_w (im_w u 37 1 y1) 37 19 y0) (11 : Int32) y0 (0 : Int32)) (fun q2 =>
      x103_r37_2 q2.2 y0))
set_option maxRecDepth 100000 in
set_option maxHeartbeats 4000000 in
theorem x103_r37_1_ok {L : Nat} {xs : Nat → Int32} {g u mm : im_M} {o : Nat → Int64} {Y : iv_A} {y0 y1 ret : Int32} (h : x103_r37_1 u y0 y1 = some (ret, mm)) : iv_ev (iv_Xs L xs) 103 42 [.ref 40, .int y0] [.int y1, .ref 40] (im_H g u o Y) 0 0 (.inl none, im_H g mm o Y) := by
  unfold x103_r37_1 at h
  refine iv_blk (mi' := 103) (pc' := 45) (ls' := [.ref 40, .int y0]) (st' := []) (A' := List.set (im_H g u o Y) 37 (.inr (6, List.set [.int (u 37 0), .int (u 37 1), .int (u 37 2), .ref 41, .ref 42, .ref 43, .ref 44, .ref 45, .ref 46, .ref 47, .ref 48, .ref 49, .ref 50, .ref 51, .ref 52, .ref 53, .ref 54, .ref 55, .ref 56, .int (u 37 19), .int (u 37 20), .int (u 37 21), .int (u 37 22), .ref 57, .ref 58, .ref 59, .ref 60, .int (u 37 27), .int (u 37 28), .int (u 37 29)] 1 (.int y1)))) (c' := 0) (s' := 0) 1 (fun n => rfl) ?_
  rw [im_f37_1]
  cases hb5 : Op.ifCond.holds .ne y1 with
  | true =>
    have h := iv_bt hb5 h
    refine iv_brt (mi' := 103) (pc' := 65) (ls' := [.ref 40, .int y0]) (st' := []) (A' := im_H g (im_w u 37 1 y1) o Y) (c' := 0) (s' := 0) (mi'' := 103) (pc'' := 52) (ls'' := [.ref 40, .int y0]) (st'' := []) (A'' := im_H g (im_w u 37 1 y1) o Y) (c'' := 0) (s'' := 0) 3 0 0 hb5 (fun n => rfl) ?_
    exact x103_r37_2_ok (u := (im_w u 37 1 y1)) (y0 := y0) h
  | false =>
    have h := iv_bf hb5 h
    refine iv_brf (mi' := 103) (pc' := 65) (ls' := [.ref 40, .int y0]) (st' := []) (A' := im_H g (im_w u 37 1 y1) o Y) (c' := 0) (s' := 0) (mi'' := 103) (pc'' := 52) (ls'' := [.ref 40, .int y0]) (st'' := []) (A'' := im_H g (im_w u 37 1 y1) o Y) (c'' := 0) (s'' := 0) 3 0 0 hb5 (fun n => rfl) ?_
    refine iv_blk (mi' := 103) (pc' := 57) (ls' := [.ref 40, .int y0]) (st' := []) (A' := List.set (im_H g (im_w u 37 1 y1) o Y) 37 (.inr (6, List.set [.int ((im_w u 37 1 y1) 37 0), .int ((im_w u 37 1 y1) 37 1), .int ((im_w u 37 1 y1) 37 2), .ref 41, .ref 42, .ref 43, .ref 44, .ref 45, .ref 46, .ref 47, .ref 48, .ref 49, .ref 50, .ref 51, .ref 52, .ref 53, .ref 54, .ref 55, .ref 56, .int ((im_w u 37 1 y1) 37 19), .int ((im_w u 37 1 y1) 37 20), .int ((im_w u 37 1 y1) 37 21), .int ((im_w u 37 1 y1) 37 22), .ref 57, .ref 58, .ref 59, .ref 60, .int ((im_w u 37 1 y1) 37 27), .int ((im_w u 37 1 y1) 37 28), .int ((im_w u 37 1 y1) 37 29)] 19 (.int y0)))) (c' := 0) (s' := 0) 3 (fun n => rfl) ?_
    rw [im_f37_19]
    obtain ⟨v2, g2, hc, h⟩ := iv_bd h
    refine iv_cal (mi' := 103) (pc' := 62) (ls' := [.ref 40, .int y0]) (rest := []) (A' := im_H g (im_w (im_w u 37 1 y1) 37 19 y0) o Y) (c' := 0) (s' := 0) (as := [.ref 40, .int (11 : Int32), .int y0, .int (0 : Int32)]) (v := none) (A'' := im_H g g2 o Y) 5 94 (fun n => rfl) rfl (x94_r37_ok (u := (im_w (im_w u 37 1 y1) 37 19 y0)) (a := (11 : Int32)) (b := y0) (c := (0 : Int32)) hc) ?_
    show iv_ev (iv_Xs L xs) 103 65 [.ref 40, .int y0] [] (im_H g g2 o Y) 0 0 _
    exact x103_r37_2_ok (u := g2) (y0 := y0) h
def x103_r37 (u : im_M) (a : Int32) : Option (Int32 × im_M) :=
  Option.bind (x86 u a (3 : Int32)) (fun q1 =>
    bif Op.ifCond.holds .ne q1.1 then
      (bif Op.ifCond.holds .ge (q1.2 37 19) then
        (x103_r37_1 q1.2 a (2 : Int32))
      else
        (bif Op.ifCond.holds .lt (q1.2 37 20) then
          (x103_r37_1 q1.2 a (0 : Int32))
        else
          (bif Op.if_icmp.holds .ne ((q1.2 37 20) / (3 : Int32)) a then
            (x103_r37_1 q1.2 a (0 : Int32))
          else
            (x103_r37_1 q1.2 a (2 : Int32)))))
    else
      (x103_r37_1 q1.2 a (1 : Int32)))
set_option maxRecDepth 100000 in
set_option maxHeartbeats 4000000 in
theorem x103_r37_ok {L : Nat} {xs : Nat → Int32} {g u mm : im_M} {o : Nat → Int64} {Y : iv_A} {a ret : Int32} (h : x103_r37 u a = some (ret, mm)) : iv_ev (iv_Xs L xs) 103 0 [.ref 40, .int a] [] (im_H g u o Y) 0 0 (.inl none, im_H g mm o Y) := by
  unfold x103_r37 at h
  obtain ⟨v1, g1, hc, h⟩ := iv_bd h
  refine iv_cal (mi' := 103) (pc' := 3) (ls' := [.ref 40, .int a]) (rest := [.ref 40]) (A' := im_H g u o Y) (c' := 0) (s' := 0) (as := [.int a, .int (3 : Int32)]) (v := some (.int v1)) (A'' := im_H g g1 o Y) 4 86 (fun n => rfl) rfl (x86_ok (u := u) (a := a) (b := (3 : Int32)) hc) ?_
  show iv_ev (iv_Xs L xs) 103 6 [.ref 40, .int a] [.int v1, .ref 40] (im_H g g1 o Y) 0 0 _
  cases hb1 : Op.ifCond.holds .ne v1 with
  | true =>
    have h := iv_bt hb1 h
    refine iv_brt (mi' := 103) (pc' := 13) (ls' := [.ref 40, .int a]) (st' := [.ref 40]) (A' := im_H g g1 o Y) (c' := 0) (s' := 0) (mi'' := 103) (pc'' := 9) (ls'' := [.ref 40, .int a]) (st'' := [.ref 40]) (A'' := im_H g g1 o Y) (c'' := 0) (s'' := 0) 1 0 0 hb1 (fun n => rfl) ?_
    cases hb2 : Op.ifCond.holds .ge (g1 37 19) with
    | true =>
      have h := iv_bt hb2 h
      refine iv_brt (mi' := 103) (pc' := 37) (ls' := [.ref 40, .int a]) (st' := [.ref 40]) (A' := im_H g g1 o Y) (c' := 0) (s' := 0) (mi'' := 103) (pc'' := 20) (ls'' := [.ref 40, .int a]) (st'' := [.ref 40]) (A'' := im_H g g1 o Y) (c'' := 0) (s'' := 0) 3 0 0 hb2 (fun n => rfl) ?_
      refine iv_blk (mi' := 103) (pc' := 42) (ls' := [.ref 40, .int a]) (st' := [.int (2 : Int32), .ref 40]) (A' := im_H g g1 o Y) (c' := 0) (s' := 0) 2 (fun n => rfl) ?_
      exact x103_r37_1_ok (u := g1) (y0 := a) (y1 := (2 : Int32)) h
    | false =>
      have h := iv_bf hb2 h
      refine iv_brf (mi' := 103) (pc' := 37) (ls' := [.ref 40, .int a]) (st' := [.ref 40]) (A' := im_H g g1 o Y) (c' := 0) (s' := 0) (mi'' := 103) (pc'' := 20) (ls'' := [.ref 40, .int a]) (st'' := [.ref 40]) (A'' := im_H g g1 o Y) (c'' := 0) (s'' := 0) 3 0 0 hb2 (fun n => rfl) ?_
      cases hb3 : Op.ifCond.holds .lt (g1 37 20) with
      | true =>
        have h := iv_bt hb3 h
        refine iv_brt (mi' := 103) (pc' := 41) (ls' := [.ref 40, .int a]) (st' := [.ref 40]) (A' := im_H g g1 o Y) (c' := 0) (s' := 0) (mi'' := 103) (pc'' := 27) (ls'' := [.ref 40, .int a]) (st'' := [.ref 40]) (A'' := im_H g g1 o Y) (c'' := 0) (s'' := 0) 3 0 0 hb3 (fun n => rfl) ?_
        refine iv_blk (mi' := 103) (pc' := 42) (ls' := [.ref 40, .int a]) (st' := [.int (0 : Int32), .ref 40]) (A' := im_H g g1 o Y) (c' := 0) (s' := 0) 1 (fun n => rfl) ?_
        exact x103_r37_1_ok (u := g1) (y0 := a) (y1 := (0 : Int32)) h
      | false =>
        have h := iv_bf hb3 h
        refine iv_brf (mi' := 103) (pc' := 41) (ls' := [.ref 40, .int a]) (st' := [.ref 40]) (A' := im_H g g1 o Y) (c' := 0) (s' := 0) (mi'' := 103) (pc'' := 27) (ls'' := [.ref 40, .int a]) (st'' := [.ref 40]) (A'' := im_H g g1 o Y) (c'' := 0) (s'' := 0) 3 0 0 hb3 (fun n => rfl) ?_
        cases hb4 : Op.if_icmp.holds .ne ((g1 37 20) / (3 : Int32)) a with
        | true =>
          have h := iv_bt hb4 h
          refine iv_brt (mi' := 103) (pc' := 41) (ls' := [.ref 40, .int a]) (st' := [.ref 40]) (A' := im_H g g1 o Y) (c' := 0) (s' := 0) (mi'' := 103) (pc'' := 37) (ls'' := [.ref 40, .int a]) (st'' := [.ref 40]) (A'' := im_H g g1 o Y) (c'' := 0) (s'' := 0) 6 0 0 hb4 (fun n => rfl) ?_
          refine iv_blk (mi' := 103) (pc' := 42) (ls' := [.ref 40, .int a]) (st' := [.int (0 : Int32), .ref 40]) (A' := im_H g g1 o Y) (c' := 0) (s' := 0) 1 (fun n => rfl) ?_
          exact x103_r37_1_ok (u := g1) (y0 := a) (y1 := (0 : Int32)) h
        | false =>
          have h := iv_bf hb4 h
          refine iv_brf (mi' := 103) (pc' := 41) (ls' := [.ref 40, .int a]) (st' := [.ref 40]) (A' := im_H g g1 o Y) (c' := 0) (s' := 0) (mi'' := 103) (pc'' := 37) (ls'' := [.ref 40, .int a]) (st'' := [.ref 40]) (A'' := im_H g g1 o Y) (c'' := 0) (s'' := 0) 6 0 0 hb4 (fun n => rfl) ?_
          refine iv_blk (mi' := 103) (pc' := 42) (ls' := [.ref 40, .int a]) (st' := [.int (2 : Int32), .ref 40]) (A' := im_H g g1 o Y) (c' := 0) (s' := 0) 2 (fun n => rfl) ?_
          exact x103_r37_1_ok (u := g1) (y0 := a) (y1 := (2 : Int32)) h
  | false =>
    have h := iv_bf hb1 h
    refine iv_brf (mi' := 103) (pc' := 13) (ls' := [.ref 40, .int a]) (st' := [.ref 40]) (A' := im_H g g1 o Y) (c' := 0) (s' := 0) (mi'' := 103) (pc'' := 9) (ls'' := [.ref 40, .int a]) (st'' := [.ref 40]) (A'' := im_H g g1 o Y) (c'' := 0) (s'' := 0) 1 0 0 hb1 (fun n => rfl) ?_
    refine iv_blk (mi' := 103) (pc' := 42) (ls' := [.ref 40, .int a]) (st' := [.int (1 : Int32), .ref 40]) (A' := im_H g g1 o Y) (c' := 0) (s' := 0) 2 (fun n => rfl) ?_
    exact x103_r37_1_ok (u := g1) (y0 := a) (y1 := (1 : Int32)) h
def x104_r37_2 (u : im_M) : Option (Int32 × im_M) :=
  some (0, u)
set_option maxRecDepth 100000 in
set_option maxHeartbeats 4000000 in
theorem x104_r37_2_ok {L : Nat} {xs : Nat → Int32} {g u mm : im_M} {o : Nat → Int64} {Y : iv_A} {ret : Int32} (h : x104_r37_2 u  = some (ret, mm)) : iv_ev (iv_Xs L xs) 104 39 [.ref 40] [] (im_H g u o Y) 0 0 (.inl none, im_H g mm o Y) := by
  unfold x104_r37_2 at h
  cases h
  exact iv_ret 1 (fun n => rfl)
def x104_r37_1 (u : im_M) (y0 : Int32) : Option (Int32 × im_M) :=
  bif Op.ifCond.holds .ne y0 then
    (x104_r37_2 (im_w u 37 1 y0) )
  else
    (Option.bind (x94_r37 (im_w u 37 1 y0) (12 : Int32) (u 37 19) (0 : Int32)) (fun q1 =>
      x104_r37_2 (im_w q1.2 37 19 (-1 : Int32)) ))
set_option maxRecDepth 100000 in
set_option maxHeartbeats 4000000 in
theorem x104_r37_1_ok {L : Nat} {xs : Nat → Int32} {g u mm : im_M} {o : Nat → Int64} {Y : iv_A} {y0 ret : Int32} (h : x104_r37_1 u y0 = some (ret, mm)) : iv_ev (iv_Xs L xs) 104 13 [.ref 40] [.int y0, .ref 40] (im_H g u o Y) 0 0 (.inl none, im_H g mm o Y) := by
  unfold x104_r37_1 at h
  refine iv_blk (mi' := 104) (pc' := 16) (ls' := [.ref 40]) (st' := []) (A' := List.set (im_H g u o Y) 37 (.inr (6, List.set [.int (u 37 0), .int (u 37 1), .int (u 37 2), .ref 41, .ref 42, .ref 43, .ref 44, .ref 45, .ref 46, .ref 47, .ref 48, .ref 49, .ref 50, .ref 51, .ref 52, .ref 53, .ref 54, .ref 55, .ref 56, .int (u 37 19), .int (u 37 20), .int (u 37 21), .int (u 37 22), .ref 57, .ref 58, .ref 59, .ref 60, .int (u 37 27), .int (u 37 28), .int (u 37 29)] 1 (.int y0)))) (c' := 0) (s' := 0) 1 (fun n => rfl) ?_
  rw [im_f37_1]
  cases hb2 : Op.ifCond.holds .ne y0 with
  | true =>
    have h := iv_bt hb2 h
    refine iv_brt (mi' := 104) (pc' := 39) (ls' := [.ref 40]) (st' := []) (A' := im_H g (im_w u 37 1 y0) o Y) (c' := 0) (s' := 0) (mi'' := 104) (pc'' := 23) (ls'' := [.ref 40]) (st'' := []) (A'' := im_H g (im_w u 37 1 y0) o Y) (c'' := 0) (s'' := 0) 3 0 0 hb2 (fun n => rfl) ?_
    exact x104_r37_2_ok (u := (im_w u 37 1 y0))  h
  | false =>
    have h := iv_bf hb2 h
    refine iv_brf (mi' := 104) (pc' := 39) (ls' := [.ref 40]) (st' := []) (A' := im_H g (im_w u 37 1 y0) o Y) (c' := 0) (s' := 0) (mi'' := 104) (pc'' := 23) (ls'' := [.ref 40]) (st'' := []) (A'' := im_H g (im_w u 37 1 y0) o Y) (c'' := 0) (s'' := 0) 3 0 0 hb2 (fun n => rfl) ?_
    obtain ⟨v1, g1, hc, h⟩ := iv_bd h
    refine iv_cal (mi' := 104) (pc' := 31) (ls' := [.ref 40]) (rest := []) (A' := im_H g (im_w u 37 1 y0) o Y) (c' := 0) (s' := 0) (as := [.ref 40, .int (12 : Int32), .int (u 37 19), .int (0 : Int32)]) (v := none) (A'' := im_H g g1 o Y) 6 94 (fun n => rfl) rfl (x94_r37_ok (u := (im_w u 37 1 y0)) (a := (12 : Int32)) (b := (u 37 19)) (c := (0 : Int32)) hc) ?_
    show iv_ev (iv_Xs L xs) 104 34 [.ref 40] [] (im_H g g1 o Y) 0 0 _
    refine iv_blk (mi' := 104) (pc' := 39) (ls' := [.ref 40]) (st' := []) (A' := List.set (im_H g g1 o Y) 37 (.inr (6, List.set [.int (g1 37 0), .int (g1 37 1), .int (g1 37 2), .ref 41, .ref 42, .ref 43, .ref 44, .ref 45, .ref 46, .ref 47, .ref 48, .ref 49, .ref 50, .ref 51, .ref 52, .ref 53, .ref 54, .ref 55, .ref 56, .int (g1 37 19), .int (g1 37 20), .int (g1 37 21), .int (g1 37 22), .ref 57, .ref 58, .ref 59, .ref 60, .int (g1 37 27), .int (g1 37 28), .int (g1 37 29)] 19 (.int (-1 : Int32))))) (c' := 0) (s' := 0) 3 (fun n => rfl) ?_
    rw [im_f37_19]
    exact x104_r37_2_ok (u := (im_w g1 37 19 (-1 : Int32)))  h
def x104_r37 (u : im_M) : Option (Int32 × im_M) :=
  bif Op.ifCond.holds .ge (u 37 19) then
    (x104_r37_1 u (0 : Int32))
  else
    (x104_r37_1 u (1 : Int32))
set_option maxRecDepth 100000 in
set_option maxHeartbeats 4000000 in
theorem x104_r37_ok {L : Nat} {xs : Nat → Int32} {g u mm : im_M} {o : Nat → Int64} {Y : iv_A} {ret : Int32} (h : x104_r37 u  = some (ret, mm)) : iv_ev (iv_Xs L xs) 104 0 [.ref 40] [] (im_H g u o Y) 0 0 (.inl none, im_H g mm o Y) := by
  unfold x104_r37 at h
  cases hb1 : Op.ifCond.holds .ge (u 37 19) with
  | true =>
    have h := iv_bt hb1 h
    refine iv_brt (mi' := 104) (pc' := 12) (ls' := [.ref 40]) (st' := [.ref 40]) (A' := im_H g u o Y) (c' := 0) (s' := 0) (mi'' := 104) (pc'' := 8) (ls'' := [.ref 40]) (st'' := [.ref 40]) (A'' := im_H g u o Y) (c'' := 0) (s'' := 0) 4 0 0 hb1 (fun n => rfl) ?_
    refine iv_blk (mi' := 104) (pc' := 13) (ls' := [.ref 40]) (st' := [.int (0 : Int32), .ref 40]) (A' := im_H g u o Y) (c' := 0) (s' := 0) 1 (fun n => rfl) ?_
    exact x104_r37_1_ok (u := u) (y0 := (0 : Int32)) h
  | false =>
    have h := iv_bf hb1 h
    refine iv_brf (mi' := 104) (pc' := 12) (ls' := [.ref 40]) (st' := [.ref 40]) (A' := im_H g u o Y) (c' := 0) (s' := 0) (mi'' := 104) (pc'' := 8) (ls'' := [.ref 40]) (st'' := [.ref 40]) (A'' := im_H g u o Y) (c'' := 0) (s'' := 0) 4 0 0 hb1 (fun n => rfl) ?_
    refine iv_blk (mi' := 104) (pc' := 13) (ls' := [.ref 40]) (st' := [.int (1 : Int32), .ref 40]) (A' := im_H g u o Y) (c' := 0) (s' := 0) 2 (fun n => rfl) ?_
    exact x104_r37_1_ok (u := u) (y0 := (1 : Int32)) h
def x105_r37_2 (u : im_M) (y0 : Int32) (y1 : Int32) : Option (Int32 × im_M) :=
  some (0, u)
set_option maxRecDepth 100000 in
set_option maxHeartbeats 4000000 in
theorem x105_r37_2_ok {L : Nat} {xs : Nat → Int32} {g u mm : im_M} {o : Nat → Int64} {Y : iv_A} {y0 y1 ret : Int32} (h : x105_r37_2 u y0 y1 = some (ret, mm)) : iv_ev (iv_Xs L xs) 105 65 [.ref 40, .int y0, .int y1] [] (im_H g u o Y) 0 0 (.inl none, im_H g mm o Y) := by
  unfold x105_r37_2 at h
  cases h
  exact iv_ret 1 (fun n => rfl)
def x105_r37_1 (u : im_M) (y0 : Int32) (y1 : Int32) (y2 : Int32) : Option (Int32 × im_M) :=
  bif Op.ifCond.holds .ne y2 then
    (x105_r37_2 (im_w u 37 1 y2) y0 y1)
  else
    (x105_r37_2 (im_w (im_w (im_w u 37 1 y2) 37 20 (((3 : Int32) * y0) + y1)) 37 21 (0 : Int32)) y0 y1)
set_option maxRecDepth 100000 in
set_option maxHeartbeats 4000000 in
theorem x105_r37_1_ok {L : Nat} {xs : Nat → Int32} {g u mm : im_M} {o : Nat → Int64} {Y : iv_A} {y0 y1 y2 ret : Int32} (h : x105_r37_1 u y0 y1 y2 = some (ret, mm)) : iv_ev (iv_Xs L xs) 105 41 [.ref 40, .int y0, .int y1] [.int y2, .ref 40] (im_H g u o Y) 0 0 (.inl none, im_H g mm o Y) := by
  unfold x105_r37_1 at h
  refine iv_blk (mi' := 105) (pc' := 44) (ls' := [.ref 40, .int y0, .int y1]) (st' := []) (A' := List.set (im_H g u o Y) 37 (.inr (6, List.set [.int (u 37 0), .int (u 37 1), .int (u 37 2), .ref 41, .ref 42, .ref 43, .ref 44, .ref 45, .ref 46, .ref 47, .ref 48, .ref 49, .ref 50, .ref 51, .ref 52, .ref 53, .ref 54, .ref 55, .ref 56, .int (u 37 19), .int (u 37 20), .int (u 37 21), .int (u 37 22), .ref 57, .ref 58, .ref 59, .ref 60, .int (u 37 27), .int (u 37 28), .int (u 37 29)] 1 (.int y2)))) (c' := 0) (s' := 0) 1 (fun n => rfl) ?_
  rw [im_f37_1]
  cases hb5 : Op.ifCond.holds .ne y2 with
  | true =>
    have h := iv_bt hb5 h
    refine iv_brt (mi' := 105) (pc' := 65) (ls' := [.ref 40, .int y0, .int y1]) (st' := []) (A' := im_H g (im_w u 37 1 y2) o Y) (c' := 0) (s' := 0) (mi'' := 105) (pc'' := 51) (ls'' := [.ref 40, .int y0, .int y1]) (st'' := []) (A'' := im_H g (im_w u 37 1 y2) o Y) (c'' := 0) (s'' := 0) 3 0 0 hb5 (fun n => rfl) ?_
    exact x105_r37_2_ok (u := (im_w u 37 1 y2)) (y0 := y0) (y1 := y1) h
  | false =>
    have h := iv_bf hb5 h
    refine iv_brf (mi' := 105) (pc' := 65) (ls' := [.ref 40, .int y0, .int y1]) (st' := []) (A' := im_H g (im_w u 37 1 y2) o Y) (c' := 0) (s' := 0) (mi'' := 105) (pc'' := 51) (ls'' := [.ref 40, .int y0, .int y1]) (st'' := []) (A'' := im_H g (im_w u 37 1 y2) o Y) (c'' := 0) (s'' := 0) 3 0 0 hb5 (fun n => rfl) ?_
    refine iv_blk (mi' := 105) (pc' := 60) (ls' := [.ref 40, .int y0, .int y1]) (st' := []) (A' := List.set (im_H g (im_w u 37 1 y2) o Y) 37 (.inr (6, List.set [.int ((im_w u 37 1 y2) 37 0), .int ((im_w u 37 1 y2) 37 1), .int ((im_w u 37 1 y2) 37 2), .ref 41, .ref 42, .ref 43, .ref 44, .ref 45, .ref 46, .ref 47, .ref 48, .ref 49, .ref 50, .ref 51, .ref 52, .ref 53, .ref 54, .ref 55, .ref 56, .int ((im_w u 37 1 y2) 37 19), .int ((im_w u 37 1 y2) 37 20), .int ((im_w u 37 1 y2) 37 21), .int ((im_w u 37 1 y2) 37 22), .ref 57, .ref 58, .ref 59, .ref 60, .int ((im_w u 37 1 y2) 37 27), .int ((im_w u 37 1 y2) 37 28), .int ((im_w u 37 1 y2) 37 29)] 20 (.int (((3 : Int32) * y0) + y1))))) (c' := 0) (s' := 0) 7 (fun n => rfl) ?_
    rw [im_f37_20]
    refine iv_blk (mi' := 105) (pc' := 65) (ls' := [.ref 40, .int y0, .int y1]) (st' := []) (A' := List.set (im_H g (im_w (im_w u 37 1 y2) 37 20 (((3 : Int32) * y0) + y1)) o Y) 37 (.inr (6, List.set [.int ((im_w (im_w u 37 1 y2) 37 20 (((3 : Int32) * y0) + y1)) 37 0), .int ((im_w (im_w u 37 1 y2) 37 20 (((3 : Int32) * y0) + y1)) 37 1), .int ((im_w (im_w u 37 1 y2) 37 20 (((3 : Int32) * y0) + y1)) 37 2), .ref 41, .ref 42, .ref 43, .ref 44, .ref 45, .ref 46, .ref 47, .ref 48, .ref 49, .ref 50, .ref 51, .ref 52, .ref 53, .ref 54, .ref 55, .ref 56, .int ((im_w (im_w u 37 1 y2) 37 20 (((3 : Int32) * y0) + y1)) 37 19), .int ((im_w (im_w u 37 1 y2) 37 20 (((3 : Int32) * y0) + y1)) 37 20), .int ((im_w (im_w u 37 1 y2) 37 20 (((3 : Int32) * y0) + y1)) 37 21), .int ((im_w (im_w u 37 1 y2) 37 20 (((3 : Int32) * y0) + y1)) 37 22), .ref 57, .ref 58, .ref 59, .ref 60, .int ((im_w (im_w u 37 1 y2) 37 20 (((3 : Int32) * y0) + y1)) 37 27), .int ((im_w (im_w u 37 1 y2) 37 20 (((3 : Int32) * y0) + y1)) 37 28), .int ((im_w (im_w u 37 1 y2) 37 20 (((3 : Int32) * y0) + y1)) 37 29)] 21 (.int (0 : Int32))))) (c' := 0) (s' := 0) 3 (fun n => rfl) ?_
    rw [im_f37_21]
    exact x105_r37_2_ok (u := (im_w (im_w (im_w u 37 1 y2) 37 20 (((3 : Int32) * y0) + y1)) 37 21 (0 : Int32))) (y0 := y0) (y1 := y1) h
def x105_r37 (u : im_M) (a : Int32) (b : Int32) : Option (Int32 × im_M) :=
  Option.bind (x86 u a (3 : Int32)) (fun q1 =>
    bif Op.ifCond.holds .eq q1.1 then
      (x105_r37_1 q1.2 a b (1 : Int32))
    else
      (Option.bind (x86 q1.2 b (2 : Int32)) (fun q2 =>
        bif Op.ifCond.holds .ne q2.1 then
          (bif Op.ifCond.holds .ge (q2.2 37 20) then
            (x105_r37_1 q2.2 a b (2 : Int32))
          else
            (bif Op.if_icmp.holds .ne (q2.2 37 19) a then
              (x105_r37_1 q2.2 a b (0 : Int32))
            else
              (x105_r37_1 q2.2 a b (2 : Int32))))
        else
          (x105_r37_1 q2.2 a b (1 : Int32)))))
set_option maxRecDepth 100000 in
set_option maxHeartbeats 4000000 in
theorem x105_r37_ok {L : Nat} {xs : Nat → Int32} {g u mm : im_M} {o : Nat → Int64} {Y : iv_A} {a b ret : Int32} (h : x105_r37 u a b = some (ret, mm)) : iv_ev (iv_Xs L xs) 105 0 [.ref 40, .int a, .int b] [] (im_H g u o Y) 0 0 (.inl none, im_H g mm o Y) := by
  unfold x105_r37 at h
  obtain ⟨v1, g1, hc, h⟩ := iv_bd h
  refine iv_cal (mi' := 105) (pc' := 3) (ls' := [.ref 40, .int a, .int b]) (rest := [.ref 40]) (A' := im_H g u o Y) (c' := 0) (s' := 0) (as := [.int a, .int (3 : Int32)]) (v := some (.int v1)) (A'' := im_H g g1 o Y) 4 86 (fun n => rfl) rfl (x86_ok (u := u) (a := a) (b := (3 : Int32)) hc) ?_
  show iv_ev (iv_Xs L xs) 105 6 [.ref 40, .int a, .int b] [.int v1, .ref 40] (im_H g g1 o Y) 0 0 _
  cases hb1 : Op.ifCond.holds .eq v1 with
  | true =>
    have h := iv_bt hb1 h
    refine iv_brt (mi' := 105) (pc' := 17) (ls' := [.ref 40, .int a, .int b]) (st' := [.ref 40]) (A' := im_H g g1 o Y) (c' := 0) (s' := 0) (mi'' := 105) (pc'' := 9) (ls'' := [.ref 40, .int a, .int b]) (st'' := [.ref 40]) (A'' := im_H g g1 o Y) (c'' := 0) (s'' := 0) 1 0 0 hb1 (fun n => rfl) ?_
    refine iv_blk (mi' := 105) (pc' := 41) (ls' := [.ref 40, .int a, .int b]) (st' := [.int (1 : Int32), .ref 40]) (A' := im_H g g1 o Y) (c' := 0) (s' := 0) 2 (fun n => rfl) ?_
    exact x105_r37_1_ok (u := g1) (y0 := a) (y1 := b) (y2 := (1 : Int32)) h
  | false =>
    have h := iv_bf hb1 h
    refine iv_brf (mi' := 105) (pc' := 17) (ls' := [.ref 40, .int a, .int b]) (st' := [.ref 40]) (A' := im_H g g1 o Y) (c' := 0) (s' := 0) (mi'' := 105) (pc'' := 9) (ls'' := [.ref 40, .int a, .int b]) (st'' := [.ref 40]) (A'' := im_H g g1 o Y) (c'' := 0) (s'' := 0) 1 0 0 hb1 (fun n => rfl) ?_
    obtain ⟨v2, g2, hc, h⟩ := iv_bd h
    refine iv_cal (mi' := 105) (pc' := 11) (ls' := [.ref 40, .int a, .int b]) (rest := [.ref 40]) (A' := im_H g g1 o Y) (c' := 0) (s' := 0) (as := [.int b, .int (2 : Int32)]) (v := some (.int v2)) (A'' := im_H g g2 o Y) 3 86 (fun n => rfl) rfl (x86_ok (u := g1) (a := b) (b := (2 : Int32)) hc) ?_
    show iv_ev (iv_Xs L xs) 105 14 [.ref 40, .int a, .int b] [.int v2, .ref 40] (im_H g g2 o Y) 0 0 _
    cases hb2 : Op.ifCond.holds .ne v2 with
    | true =>
      have h := iv_bt hb2 h
      refine iv_brt (mi' := 105) (pc' := 21) (ls' := [.ref 40, .int a, .int b]) (st' := [.ref 40]) (A' := im_H g g2 o Y) (c' := 0) (s' := 0) (mi'' := 105) (pc'' := 17) (ls'' := [.ref 40, .int a, .int b]) (st'' := [.ref 40]) (A'' := im_H g g2 o Y) (c'' := 0) (s'' := 0) 1 0 0 hb2 (fun n => rfl) ?_
      cases hb3 : Op.ifCond.holds .ge (g2 37 20) with
      | true =>
        have h := iv_bt hb3 h
        refine iv_brt (mi' := 105) (pc' := 36) (ls' := [.ref 40, .int a, .int b]) (st' := [.ref 40]) (A' := im_H g g2 o Y) (c' := 0) (s' := 0) (mi'' := 105) (pc'' := 28) (ls'' := [.ref 40, .int a, .int b]) (st'' := [.ref 40]) (A'' := im_H g g2 o Y) (c'' := 0) (s'' := 0) 3 0 0 hb3 (fun n => rfl) ?_
        refine iv_blk (mi' := 105) (pc' := 41) (ls' := [.ref 40, .int a, .int b]) (st' := [.int (2 : Int32), .ref 40]) (A' := im_H g g2 o Y) (c' := 0) (s' := 0) 2 (fun n => rfl) ?_
        exact x105_r37_1_ok (u := g2) (y0 := a) (y1 := b) (y2 := (2 : Int32)) h
      | false =>
        have h := iv_bf hb3 h
        refine iv_brf (mi' := 105) (pc' := 36) (ls' := [.ref 40, .int a, .int b]) (st' := [.ref 40]) (A' := im_H g g2 o Y) (c' := 0) (s' := 0) (mi'' := 105) (pc'' := 28) (ls'' := [.ref 40, .int a, .int b]) (st'' := [.ref 40]) (A'' := im_H g g2 o Y) (c'' := 0) (s'' := 0) 3 0 0 hb3 (fun n => rfl) ?_
        cases hb4 : Op.if_icmp.holds .ne (g2 37 19) a with
        | true =>
          have h := iv_bt hb4 h
          refine iv_brt (mi' := 105) (pc' := 40) (ls' := [.ref 40, .int a, .int b]) (st' := [.ref 40]) (A' := im_H g g2 o Y) (c' := 0) (s' := 0) (mi'' := 105) (pc'' := 36) (ls'' := [.ref 40, .int a, .int b]) (st'' := [.ref 40]) (A'' := im_H g g2 o Y) (c'' := 0) (s'' := 0) 4 0 0 hb4 (fun n => rfl) ?_
          refine iv_blk (mi' := 105) (pc' := 41) (ls' := [.ref 40, .int a, .int b]) (st' := [.int (0 : Int32), .ref 40]) (A' := im_H g g2 o Y) (c' := 0) (s' := 0) 1 (fun n => rfl) ?_
          exact x105_r37_1_ok (u := g2) (y0 := a) (y1 := b) (y2 := (0 : Int32)) h
        | false =>
          have h := iv_bf hb4 h
          refine iv_brf (mi' := 105) (pc' := 40) (ls' := [.ref 40, .int a, .int b]) (st' := [.ref 40]) (A' := im_H g g2 o Y) (c' := 0) (s' := 0) (mi'' := 105) (pc'' := 36) (ls'' := [.ref 40, .int a, .int b]) (st'' := [.ref 40]) (A'' := im_H g g2 o Y) (c'' := 0) (s'' := 0) 4 0 0 hb4 (fun n => rfl) ?_
          refine iv_blk (mi' := 105) (pc' := 41) (ls' := [.ref 40, .int a, .int b]) (st' := [.int (2 : Int32), .ref 40]) (A' := im_H g g2 o Y) (c' := 0) (s' := 0) 2 (fun n => rfl) ?_
          exact x105_r37_1_ok (u := g2) (y0 := a) (y1 := b) (y2 := (2 : Int32)) h
    | false =>
      have h := iv_bf hb2 h
      refine iv_brf (mi' := 105) (pc' := 21) (ls' := [.ref 40, .int a, .int b]) (st' := [.ref 40]) (A' := im_H g g2 o Y) (c' := 0) (s' := 0) (mi'' := 105) (pc'' := 17) (ls'' := [.ref 40, .int a, .int b]) (st'' := [.ref 40]) (A'' := im_H g g2 o Y) (c'' := 0) (s'' := 0) 1 0 0 hb2 (fun n => rfl) ?_
      refine iv_blk (mi' := 105) (pc' := 41) (ls' := [.ref 40, .int a, .int b]) (st' := [.int (1 : Int32), .ref 40]) (A' := im_H g g2 o Y) (c' := 0) (s' := 0) 2 (fun n => rfl) ?_
      exact x105_r37_1_ok (u := g2) (y0 := a) (y1 := b) (y2 := (1 : Int32)) h
def x106_r37_2 (u : im_M) (y0 : Int32) : Option (Int32 × im_M) :=
  some (0, u)
set_option maxRecDepth 100000 in
set_option maxHeartbeats 4000000 in
theorem x106_r37_2_ok {L : Nat} {xs : Nat → Int32} {g u mm : im_M} {o : Nat → Int64} {Y : iv_A} {y0 ret : Int32} (h : x106_r37_2 u y0 = some (ret, mm)) : iv_ev (iv_Xs L xs) 106 66 [.ref 40, .int y0] [] (im_H g u o Y) 0 0 (.inl none, im_H g mm o Y) := by
  unfold x106_r37_2 at h
  cases h
  exact iv_ret 1 (fun n => rfl)
def x106_r37_1 (u : im_M) (y0 : Int32) (y1 : Int32) : Option (Int32 × im_M) :=
  bif Op.ifCond.holds .ne y1 then
    (x106_r37_2 (im_w u 37 1 y1) y0)
  else
    (bif iv_in y0 4 then
      Option.bind (x94_r37 (im_w u 37 1 y1) (13 : Int32) y0 ((u 53) (y0).toNatClampNeg)) (fun q2 =>
        x106_r37_2 (im_w q2.2 53 (y0).toNatClampNeg (0 : Int32)) y0)
    else none)
set_option maxRecDepth 100000 in
set_option maxHeartbeats 4000000 in
theorem x106_r37_1_ok {L : Nat} {xs : Nat → Int32} {g u mm : im_M} {o : Nat → Int64} {Y : iv_A} {y0 y1 ret : Int32} (h : x106_r37_1 u y0 y1 = some (ret, mm)) : iv_ev (iv_Xs L xs) 106 36 [.ref 40, .int y0] [.int y1, .ref 40] (im_H g u o Y) 0 0 (.inl none, im_H g mm o Y) := by
  unfold x106_r37_1 at h
  refine iv_blk (mi' := 106) (pc' := 39) (ls' := [.ref 40, .int y0]) (st' := []) (A' := List.set (im_H g u o Y) 37 (.inr (6, List.set [.int (u 37 0), .int (u 37 1), .int (u 37 2), .ref 41, .ref 42, .ref 43, .ref 44, .ref 45, .ref 46, .ref 47, .ref 48, .ref 49, .ref 50, .ref 51, .ref 52, .ref 53, .ref 54, .ref 55, .ref 56, .int (u 37 19), .int (u 37 20), .int (u 37 21), .int (u 37 22), .ref 57, .ref 58, .ref 59, .ref 60, .int (u 37 27), .int (u 37 28), .int (u 37 29)] 1 (.int y1)))) (c' := 0) (s' := 0) 1 (fun n => rfl) ?_
  rw [im_f37_1]
  cases hb5 : Op.ifCond.holds .ne y1 with
  | true =>
    have h := iv_bt hb5 h
    refine iv_brt (mi' := 106) (pc' := 66) (ls' := [.ref 40, .int y0]) (st' := []) (A' := im_H g (im_w u 37 1 y1) o Y) (c' := 0) (s' := 0) (mi'' := 106) (pc'' := 46) (ls'' := [.ref 40, .int y0]) (st'' := []) (A'' := im_H g (im_w u 37 1 y1) o Y) (c'' := 0) (s'' := 0) 3 0 0 hb5 (fun n => rfl) ?_
    exact x106_r37_2_ok (u := (im_w u 37 1 y1)) (y0 := y0) h
  | false =>
    have h := iv_bf hb5 h
    refine iv_brf (mi' := 106) (pc' := 66) (ls' := [.ref 40, .int y0]) (st' := []) (A' := im_H g (im_w u 37 1 y1) o Y) (c' := 0) (s' := 0) (mi'' := 106) (pc'' := 46) (ls'' := [.ref 40, .int y0]) (st'' := []) (A'' := im_H g (im_w u 37 1 y1) o Y) (c'' := 0) (s'' := 0) 3 0 0 hb5 (fun n => rfl) ?_
    cases hb6 : iv_in y0 4 with
    | false => exact (iv_bn hb6 h).elim
    | true =>
      have h := iv_bt hb6 h
      refine iv_chk (mi' := 106) (pc' := 56) (ls' := [.ref 40, .int y0]) (st' := [.int ((u 53) (y0).toNatClampNeg), .int y0, .int (13 : Int32), .ref 40]) (A' := im_H g (im_w u 37 1 y1) o Y) (c' := 0) (s' := 0) 7 hb6 (fun n => rfl) ?_
      obtain ⟨v2, g2, hc, h⟩ := iv_bd h
      refine iv_cal (mi' := 106) (pc' := 56) (ls' := [.ref 40, .int y0]) (rest := []) (A' := im_H g (im_w u 37 1 y1) o Y) (c' := 0) (s' := 0) (as := [.ref 40, .int (13 : Int32), .int y0, .int ((u 53) (y0).toNatClampNeg)]) (v := none) (A'' := im_H g g2 o Y) 1 94 (fun n => rfl) rfl (x94_r37_ok (u := (im_w u 37 1 y1)) (a := (13 : Int32)) (b := y0) (c := ((u 53) (y0).toNatClampNeg)) hc) ?_
      show iv_ev (iv_Xs L xs) 106 59 [.ref 40, .int y0] [] (im_H g g2 o Y) 0 0 _
      refine iv_chk (mi' := 106) (pc' := 66) (ls' := [.ref 40, .int y0]) (st' := []) (A' := List.set (im_H g g2 o Y) 53 (.inl (0, 4, .inl (upd (g2 53) (y0).toNatClampNeg (0 : Int32))))) (c' := 0) (s' := 0) 5 hb6 (fun n => rfl) ?_
      rw [im_a53]
      exact x106_r37_2_ok (u := (im_w g2 53 (y0).toNatClampNeg (0 : Int32))) (y0 := y0) h
def x106_r37 (u : im_M) (a : Int32) : Option (Int32 × im_M) :=
  Option.bind (x86 u a (3 : Int32)) (fun q1 =>
    bif Op.ifCond.holds .ne q1.1 then
      (bif iv_in a 4 then
        bif Op.ifCond.holds .eq ((q1.2 53) (a).toNatClampNeg) then
          (x106_r37_1 q1.2 a (2 : Int32))
        else
          (bif Op.ifCond.holds .eq ((q1.2 52) (a).toNatClampNeg) then
            (x106_r37_1 q1.2 a (0 : Int32))
          else
            (x106_r37_1 q1.2 a (2 : Int32)))
      else none)
    else
      (x106_r37_1 q1.2 a (1 : Int32)))
set_option maxRecDepth 100000 in
set_option maxHeartbeats 4000000 in
theorem x106_r37_ok {L : Nat} {xs : Nat → Int32} {g u mm : im_M} {o : Nat → Int64} {Y : iv_A} {a ret : Int32} (h : x106_r37 u a = some (ret, mm)) : iv_ev (iv_Xs L xs) 106 0 [.ref 40, .int a] [] (im_H g u o Y) 0 0 (.inl none, im_H g mm o Y) := by
  unfold x106_r37 at h
  obtain ⟨v1, g1, hc, h⟩ := iv_bd h
  refine iv_cal (mi' := 106) (pc' := 3) (ls' := [.ref 40, .int a]) (rest := [.ref 40]) (A' := im_H g u o Y) (c' := 0) (s' := 0) (as := [.int a, .int (3 : Int32)]) (v := some (.int v1)) (A'' := im_H g g1 o Y) 4 86 (fun n => rfl) rfl (x86_ok (u := u) (a := a) (b := (3 : Int32)) hc) ?_
  show iv_ev (iv_Xs L xs) 106 6 [.ref 40, .int a] [.int v1, .ref 40] (im_H g g1 o Y) 0 0 _
  cases hb1 : Op.ifCond.holds .ne v1 with
  | true =>
    have h := iv_bt hb1 h
    refine iv_brt (mi' := 106) (pc' := 13) (ls' := [.ref 40, .int a]) (st' := [.ref 40]) (A' := im_H g g1 o Y) (c' := 0) (s' := 0) (mi'' := 106) (pc'' := 9) (ls'' := [.ref 40, .int a]) (st'' := [.ref 40]) (A'' := im_H g g1 o Y) (c'' := 0) (s'' := 0) 1 0 0 hb1 (fun n => rfl) ?_
    cases hb2 : iv_in a 4 with
    | false => exact (iv_bn hb2 h).elim
    | true =>
      have h := iv_bt hb2 h
      refine iv_chk (mi' := 106) (pc' := 19) (ls' := [.ref 40, .int a]) (st' := [.int ((g1 53) (a).toNatClampNeg), .ref 40]) (A' := im_H g g1 o Y) (c' := 0) (s' := 0) 4 hb2 (fun n => rfl) ?_
      cases hb3 : Op.ifCond.holds .eq ((g1 53) (a).toNatClampNeg) with
      | true =>
        have h := iv_bt hb3 h
        refine iv_brt (mi' := 106) (pc' := 31) (ls' := [.ref 40, .int a]) (st' := [.ref 40]) (A' := im_H g g1 o Y) (c' := 0) (s' := 0) (mi'' := 106) (pc'' := 22) (ls'' := [.ref 40, .int a]) (st'' := [.ref 40]) (A'' := im_H g g1 o Y) (c'' := 0) (s'' := 0) 1 0 0 hb3 (fun n => rfl) ?_
        refine iv_blk (mi' := 106) (pc' := 36) (ls' := [.ref 40, .int a]) (st' := [.int (2 : Int32), .ref 40]) (A' := im_H g g1 o Y) (c' := 0) (s' := 0) 2 (fun n => rfl) ?_
        exact x106_r37_1_ok (u := g1) (y0 := a) (y1 := (2 : Int32)) h
      | false =>
        have h := iv_bf hb3 h
        refine iv_brf (mi' := 106) (pc' := 31) (ls' := [.ref 40, .int a]) (st' := [.ref 40]) (A' := im_H g g1 o Y) (c' := 0) (s' := 0) (mi'' := 106) (pc'' := 22) (ls'' := [.ref 40, .int a]) (st'' := [.ref 40]) (A'' := im_H g g1 o Y) (c'' := 0) (s'' := 0) 1 0 0 hb3 (fun n => rfl) ?_
        refine iv_chk (mi' := 106) (pc' := 28) (ls' := [.ref 40, .int a]) (st' := [.int ((g1 52) (a).toNatClampNeg), .ref 40]) (A' := im_H g g1 o Y) (c' := 0) (s' := 0) 4 hb2 (fun n => rfl) ?_
        cases hb4 : Op.ifCond.holds .eq ((g1 52) (a).toNatClampNeg) with
        | true =>
          have h := iv_bt hb4 h
          refine iv_brt (mi' := 106) (pc' := 35) (ls' := [.ref 40, .int a]) (st' := [.ref 40]) (A' := im_H g g1 o Y) (c' := 0) (s' := 0) (mi'' := 106) (pc'' := 31) (ls'' := [.ref 40, .int a]) (st'' := [.ref 40]) (A'' := im_H g g1 o Y) (c'' := 0) (s'' := 0) 1 0 0 hb4 (fun n => rfl) ?_
          refine iv_blk (mi' := 106) (pc' := 36) (ls' := [.ref 40, .int a]) (st' := [.int (0 : Int32), .ref 40]) (A' := im_H g g1 o Y) (c' := 0) (s' := 0) 1 (fun n => rfl) ?_
          exact x106_r37_1_ok (u := g1) (y0 := a) (y1 := (0 : Int32)) h
        | false =>
          have h := iv_bf hb4 h
          refine iv_brf (mi' := 106) (pc' := 35) (ls' := [.ref 40, .int a]) (st' := [.ref 40]) (A' := im_H g g1 o Y) (c' := 0) (s' := 0) (mi'' := 106) (pc'' := 31) (ls'' := [.ref 40, .int a]) (st'' := [.ref 40]) (A'' := im_H g g1 o Y) (c'' := 0) (s'' := 0) 1 0 0 hb4 (fun n => rfl) ?_
          refine iv_blk (mi' := 106) (pc' := 36) (ls' := [.ref 40, .int a]) (st' := [.int (2 : Int32), .ref 40]) (A' := im_H g g1 o Y) (c' := 0) (s' := 0) 2 (fun n => rfl) ?_
          exact x106_r37_1_ok (u := g1) (y0 := a) (y1 := (2 : Int32)) h
  | false =>
    have h := iv_bf hb1 h
    refine iv_brf (mi' := 106) (pc' := 13) (ls' := [.ref 40, .int a]) (st' := [.ref 40]) (A' := im_H g g1 o Y) (c' := 0) (s' := 0) (mi'' := 106) (pc'' := 9) (ls'' := [.ref 40, .int a]) (st'' := [.ref 40]) (A'' := im_H g g1 o Y) (c'' := 0) (s'' := 0) 1 0 0 hb1 (fun n => rfl) ?_
    refine iv_blk (mi' := 106) (pc' := 36) (ls' := [.ref 40, .int a]) (st' := [.int (1 : Int32), .ref 40]) (A' := im_H g g1 o Y) (c' := 0) (s' := 0) 2 (fun n => rfl) ?_
    exact x106_r37_1_ok (u := g1) (y0 := a) (y1 := (1 : Int32)) h
def x107_r37_2 (u : im_M) (y0 : Int32) (y1 : Int32) (y2 : Int32) : Option (Int32 × im_M) :=
  some (0, u)
set_option maxRecDepth 100000 in
set_option maxHeartbeats 4000000 in
theorem x107_r37_2_ok {L : Nat} {xs : Nat → Int32} {g u mm : im_M} {o : Nat → Int64} {Y : iv_A} {y0 y1 y2 ret : Int32} (h : x107_r37_2 u y0 y1 y2 = some (ret, mm)) : iv_ev (iv_Xs L xs) 107 54 [.ref 40, .int y0, .int y1, .int y2] [] (im_H g u o Y) 0 0 (.inl none, im_H g mm o Y) := by
  unfold x107_r37_2 at h
  cases h
  exact iv_ret 1 (fun n => rfl)
def x107_r37_1 (u : im_M) (y0 : Int32) (y1 : Int32) (y2 : Int32) (y3 : Int32) : Option (Int32 × im_M) :=
  bif Op.ifCond.holds .ne y3 then
    (x107_r37_2 (im_w u 37 1 y3) y0 y1 y2)
  else
    (bif iv_in (((4 : Int32) * y1) + y0) 16 then
      x107_r37_2 (im_w (im_w (im_w u 37 1 y3) 48 ((((4 : Int32) * y1) + y0)).toNatClampNeg (1 : Int32)) 49 ((((4 : Int32) * y1) + y0)).toNatClampNeg y2) y0 y1 y2
    else none)
set_option maxRecDepth 100000 in
set_option maxHeartbeats 4000000 in
theorem x107_r37_1_ok {L : Nat} {xs : Nat → Int32} {g u mm : im_M} {o : Nat → Int64} {Y : iv_A} {y0 y1 y2 y3 ret : Int32} (h : x107_r37_1 u y0 y1 y2 y3 = some (ret, mm)) : iv_ev (iv_Xs L xs) 107 22 [.ref 40, .int y0, .int y1, .int y2] [.int y3, .ref 40] (im_H g u o Y) 0 0 (.inl none, im_H g mm o Y) := by
  unfold x107_r37_1 at h
  refine iv_blk (mi' := 107) (pc' := 25) (ls' := [.ref 40, .int y0, .int y1, .int y2]) (st' := []) (A' := List.set (im_H g u o Y) 37 (.inr (6, List.set [.int (u 37 0), .int (u 37 1), .int (u 37 2), .ref 41, .ref 42, .ref 43, .ref 44, .ref 45, .ref 46, .ref 47, .ref 48, .ref 49, .ref 50, .ref 51, .ref 52, .ref 53, .ref 54, .ref 55, .ref 56, .int (u 37 19), .int (u 37 20), .int (u 37 21), .int (u 37 22), .ref 57, .ref 58, .ref 59, .ref 60, .int (u 37 27), .int (u 37 28), .int (u 37 29)] 1 (.int y3)))) (c' := 0) (s' := 0) 1 (fun n => rfl) ?_
  rw [im_f37_1]
  cases hb3 : Op.ifCond.holds .ne y3 with
  | true =>
    have h := iv_bt hb3 h
    refine iv_brt (mi' := 107) (pc' := 54) (ls' := [.ref 40, .int y0, .int y1, .int y2]) (st' := []) (A' := im_H g (im_w u 37 1 y3) o Y) (c' := 0) (s' := 0) (mi'' := 107) (pc'' := 32) (ls'' := [.ref 40, .int y0, .int y1, .int y2]) (st'' := []) (A'' := im_H g (im_w u 37 1 y3) o Y) (c'' := 0) (s'' := 0) 3 0 0 hb3 (fun n => rfl) ?_
    exact x107_r37_2_ok (u := (im_w u 37 1 y3)) (y0 := y0) (y1 := y1) (y2 := y2) h
  | false =>
    have h := iv_bf hb3 h
    refine iv_brf (mi' := 107) (pc' := 54) (ls' := [.ref 40, .int y0, .int y1, .int y2]) (st' := []) (A' := im_H g (im_w u 37 1 y3) o Y) (c' := 0) (s' := 0) (mi'' := 107) (pc'' := 32) (ls'' := [.ref 40, .int y0, .int y1, .int y2]) (st'' := []) (A'' := im_H g (im_w u 37 1 y3) o Y) (c'' := 0) (s'' := 0) 3 0 0 hb3 (fun n => rfl) ?_
    cases hb4 : iv_in (((4 : Int32) * y1) + y0) 16 with
    | false => exact (iv_bn hb4 h).elim
    | true =>
      have h := iv_bt hb4 h
      refine iv_chk (mi' := 107) (pc' := 43) (ls' := [.ref 40, .int y0, .int y1, .int y2]) (st' := []) (A' := List.set (im_H g (im_w u 37 1 y3) o Y) 48 (.inl (1, 16, .inl (upd ((im_w u 37 1 y3) 48) ((((4 : Int32) * y1) + y0)).toNatClampNeg (1 : Int32))))) (c' := 0) (s' := 0) 9 hb4 (fun n => rfl) ?_
      rw [im_a48]
      refine iv_chk (mi' := 107) (pc' := 54) (ls' := [.ref 40, .int y0, .int y1, .int y2]) (st' := []) (A' := List.set (im_H g (im_w (im_w u 37 1 y3) 48 ((((4 : Int32) * y1) + y0)).toNatClampNeg (1 : Int32)) o Y) 49 (.inl (0, 16, .inl (upd ((im_w (im_w u 37 1 y3) 48 ((((4 : Int32) * y1) + y0)).toNatClampNeg (1 : Int32)) 49) ((((4 : Int32) * y1) + y0)).toNatClampNeg y2)))) (c' := 0) (s' := 0) 9 hb4 (fun n => rfl) ?_
      rw [im_a49]
      exact x107_r37_2_ok (u := (im_w (im_w (im_w u 37 1 y3) 48 ((((4 : Int32) * y1) + y0)).toNatClampNeg (1 : Int32)) 49 ((((4 : Int32) * y1) + y0)).toNatClampNeg y2)) (y0 := y0) (y1 := y1) (y2 := y2) h
def x107_r37 (u : im_M) (a : Int32) (b : Int32) (c : Int32) : Option (Int32 × im_M) :=
  Option.bind (x86 u a (3 : Int32)) (fun q1 =>
    bif Op.ifCond.holds .eq q1.1 then
      (x107_r37_1 q1.2 a b c (1 : Int32))
    else
      (Option.bind (x86 q1.2 b (3 : Int32)) (fun q2 =>
        bif Op.ifCond.holds .eq q2.1 then
          (x107_r37_1 q2.2 a b c (1 : Int32))
        else
          (x107_r37_1 q2.2 a b c (0 : Int32)))))
set_option maxRecDepth 100000 in
set_option maxHeartbeats 4000000 in
theorem x107_r37_ok {L : Nat} {xs : Nat → Int32} {g u mm : im_M} {o : Nat → Int64} {Y : iv_A} {a b c ret : Int32} (h : x107_r37 u a b c = some (ret, mm)) : iv_ev (iv_Xs L xs) 107 0 [.ref 40, .int a, .int b, .int c] [] (im_H g u o Y) 0 0 (.inl none, im_H g mm o Y) := by
  unfold x107_r37 at h
  obtain ⟨v1, g1, hc, h⟩ := iv_bd h
  refine iv_cal (mi' := 107) (pc' := 3) (ls' := [.ref 40, .int a, .int b, .int c]) (rest := [.ref 40]) (A' := im_H g u o Y) (c' := 0) (s' := 0) (as := [.int a, .int (3 : Int32)]) (v := some (.int v1)) (A'' := im_H g g1 o Y) 4 86 (fun n => rfl) rfl (x86_ok (u := u) (a := a) (b := (3 : Int32)) hc) ?_
  show iv_ev (iv_Xs L xs) 107 6 [.ref 40, .int a, .int b, .int c] [.int v1, .ref 40] (im_H g g1 o Y) 0 0 _
  cases hb1 : Op.ifCond.holds .eq v1 with
  | true =>
    have h := iv_bt hb1 h
    refine iv_brt (mi' := 107) (pc' := 21) (ls' := [.ref 40, .int a, .int b, .int c]) (st' := [.ref 40]) (A' := im_H g g1 o Y) (c' := 0) (s' := 0) (mi'' := 107) (pc'' := 9) (ls'' := [.ref 40, .int a, .int b, .int c]) (st'' := [.ref 40]) (A'' := im_H g g1 o Y) (c'' := 0) (s'' := 0) 1 0 0 hb1 (fun n => rfl) ?_
    refine iv_blk (mi' := 107) (pc' := 22) (ls' := [.ref 40, .int a, .int b, .int c]) (st' := [.int (1 : Int32), .ref 40]) (A' := im_H g g1 o Y) (c' := 0) (s' := 0) 1 (fun n => rfl) ?_
    exact x107_r37_1_ok (u := g1) (y0 := a) (y1 := b) (y2 := c) (y3 := (1 : Int32)) h
  | false =>
    have h := iv_bf hb1 h
    refine iv_brf (mi' := 107) (pc' := 21) (ls' := [.ref 40, .int a, .int b, .int c]) (st' := [.ref 40]) (A' := im_H g g1 o Y) (c' := 0) (s' := 0) (mi'' := 107) (pc'' := 9) (ls'' := [.ref 40, .int a, .int b, .int c]) (st'' := [.ref 40]) (A'' := im_H g g1 o Y) (c'' := 0) (s'' := 0) 1 0 0 hb1 (fun n => rfl) ?_
    obtain ⟨v2, g2, hc, h⟩ := iv_bd h
    refine iv_cal (mi' := 107) (pc' := 11) (ls' := [.ref 40, .int a, .int b, .int c]) (rest := [.ref 40]) (A' := im_H g g1 o Y) (c' := 0) (s' := 0) (as := [.int b, .int (3 : Int32)]) (v := some (.int v2)) (A'' := im_H g g2 o Y) 3 86 (fun n => rfl) rfl (x86_ok (u := g1) (a := b) (b := (3 : Int32)) hc) ?_
    show iv_ev (iv_Xs L xs) 107 14 [.ref 40, .int a, .int b, .int c] [.int v2, .ref 40] (im_H g g2 o Y) 0 0 _
    cases hb2 : Op.ifCond.holds .eq v2 with
    | true =>
      have h := iv_bt hb2 h
      refine iv_brt (mi' := 107) (pc' := 21) (ls' := [.ref 40, .int a, .int b, .int c]) (st' := [.ref 40]) (A' := im_H g g2 o Y) (c' := 0) (s' := 0) (mi'' := 107) (pc'' := 17) (ls'' := [.ref 40, .int a, .int b, .int c]) (st'' := [.ref 40]) (A'' := im_H g g2 o Y) (c'' := 0) (s'' := 0) 1 0 0 hb2 (fun n => rfl) ?_
      refine iv_blk (mi' := 107) (pc' := 22) (ls' := [.ref 40, .int a, .int b, .int c]) (st' := [.int (1 : Int32), .ref 40]) (A' := im_H g g2 o Y) (c' := 0) (s' := 0) 1 (fun n => rfl) ?_
      exact x107_r37_1_ok (u := g2) (y0 := a) (y1 := b) (y2 := c) (y3 := (1 : Int32)) h
    | false =>
      have h := iv_bf hb2 h
      refine iv_brf (mi' := 107) (pc' := 21) (ls' := [.ref 40, .int a, .int b, .int c]) (st' := [.ref 40]) (A' := im_H g g2 o Y) (c' := 0) (s' := 0) (mi'' := 107) (pc'' := 17) (ls'' := [.ref 40, .int a, .int b, .int c]) (st'' := [.ref 40]) (A'' := im_H g g2 o Y) (c'' := 0) (s'' := 0) 1 0 0 hb2 (fun n => rfl) ?_
      refine iv_blk (mi' := 107) (pc' := 22) (ls' := [.ref 40, .int a, .int b, .int c]) (st' := [.int (0 : Int32), .ref 40]) (A' := im_H g g2 o Y) (c' := 0) (s' := 0) 2 (fun n => rfl) ?_
      exact x107_r37_1_ok (u := g2) (y0 := a) (y1 := b) (y2 := c) (y3 := (0 : Int32)) h
def x108_r37_2 (u : im_M) (y0 : Int32) (y1 : Int32) (y2 : Int32) (y3 : Int32) (y4 : Int32) : Option (Int32 × im_M) :=
  some (y4, u)
set_option maxRecDepth 100000 in
set_option maxHeartbeats 4000000 in
theorem x108_r37_2_ok {L : Nat} {xs : Nat → Int32} {g u mm : im_M} {o : Nat → Int64} {Y : iv_A} {y0 y1 y2 y3 y4 ret : Int32} (h : x108_r37_2 u y0 y1 y2 y3 y4 = some (ret, mm)) : iv_ev (iv_Xs L xs) 108 69 [.ref 40, .int y0, .int y1, .int y2, .int y3] [.int y4] (im_H g u o Y) 0 0 (.inl (some (.int ret)), im_H g mm o Y) := by
  unfold x108_r37_2 at h
  cases h
  exact iv_ret 1 (fun n => rfl)
def x108_r37_1 (u : im_M) (y0 : Int32) (y1 : Int32) (y2 : Int32) : Option (Int32 × im_M) :=
  bif Op.ifCond.holds .le y2 then
    (Option.bind (x100_r37 (im_w u 37 1 y2) y0) (fun q3 =>
      Option.bind (x101_r37 q3.2 y0) (fun q4 =>
        bif Op.ifCond.holds .ne y1 then
          (bif Op.if_icmp.holds .ne y1 (1 : Int32) then
            (x108_r37_2 q4.2 y0 y1 q3.1 q4.1 q3.1)
          else
            (x108_r37_2 q4.2 y0 y1 q3.1 q4.1 q4.1))
        else
          (x108_r37_2 q4.2 y0 y1 q3.1 q4.1 (q3.1 ||| q4.1)))))
  else
    (some ((0 : Int32), (im_w u 37 1 y2)))
set_option maxRecDepth 100000 in
set_option maxHeartbeats 4000000 in
theorem x108_r37_1_ok {L : Nat} {xs : Nat → Int32} {g u mm : im_M} {o : Nat → Int64} {Y : iv_A} {y0 y1 y2 ret : Int32} (h : x108_r37_1 u y0 y1 y2 = some (ret, mm)) : iv_ev (iv_Xs L xs) 108 22 [.ref 40, .int y0, .int y1, .retAddr 0, .retAddr 0] [.int y2, .ref 40] (im_H g u o Y) 0 0 (.inl (some (.int ret)), im_H g mm o Y) := by
  unfold x108_r37_1 at h
  refine iv_blk (mi' := 108) (pc' := 25) (ls' := [.ref 40, .int y0, .int y1, .retAddr 0, .retAddr 0]) (st' := []) (A' := List.set (im_H g u o Y) 37 (.inr (6, List.set [.int (u 37 0), .int (u 37 1), .int (u 37 2), .ref 41, .ref 42, .ref 43, .ref 44, .ref 45, .ref 46, .ref 47, .ref 48, .ref 49, .ref 50, .ref 51, .ref 52, .ref 53, .ref 54, .ref 55, .ref 56, .int (u 37 19), .int (u 37 20), .int (u 37 21), .int (u 37 22), .ref 57, .ref 58, .ref 59, .ref 60, .int (u 37 27), .int (u 37 28), .int (u 37 29)] 1 (.int y2)))) (c' := 0) (s' := 0) 1 (fun n => rfl) ?_
  rw [im_f37_1]
  cases hb3 : Op.ifCond.holds .le y2 with
  | true =>
    have h := iv_bt hb3 h
    refine iv_brt (mi' := 108) (pc' := 34) (ls' := [.ref 40, .int y0, .int y1, .retAddr 0, .retAddr 0]) (st' := []) (A' := im_H g (im_w u 37 1 y2) o Y) (c' := 0) (s' := 0) (mi'' := 108) (pc'' := 32) (ls'' := [.ref 40, .int y0, .int y1, .retAddr 0, .retAddr 0]) (st'' := []) (A'' := im_H g (im_w u 37 1 y2) o Y) (c'' := 0) (s'' := 0) 3 0 0 hb3 (fun n => rfl) ?_
    obtain ⟨v3, g3, hc, h⟩ := iv_bd h
    refine iv_cal (mi' := 108) (pc' := 36) (ls' := [.ref 40, .int y0, .int y1, .retAddr 0, .retAddr 0]) (rest := []) (A' := im_H g (im_w u 37 1 y2) o Y) (c' := 0) (s' := 0) (as := [.ref 40, .int y0]) (v := some (.int v3)) (A'' := im_H g g3 o Y) 3 100 (fun n => rfl) rfl (x100_r37_ok (u := (im_w u 37 1 y2)) (a := y0) hc) ?_
    show iv_ev (iv_Xs L xs) 108 39 [.ref 40, .int y0, .int y1, .retAddr 0, .retAddr 0] [.int v3] (im_H g g3 o Y) 0 0 _
    obtain ⟨v4, g4, hc, h⟩ := iv_bd h
    refine iv_cal (mi' := 108) (pc' := 42) (ls' := [.ref 40, .int y0, .int y1, .int v3, .retAddr 0]) (rest := []) (A' := im_H g g3 o Y) (c' := 0) (s' := 0) (as := [.ref 40, .int y0]) (v := some (.int v4)) (A'' := im_H g g4 o Y) 4 101 (fun n => rfl) rfl (x101_r37_ok (u := g3) (a := y0) hc) ?_
    show iv_ev (iv_Xs L xs) 108 45 [.ref 40, .int y0, .int y1, .int v3, .retAddr 0] [.int v4] (im_H g g4 o Y) 0 0 _
    cases hb4 : Op.ifCond.holds .ne y1 with
    | true =>
      have h := iv_bt hb4 h
      refine iv_brt (mi' := 108) (pc' := 58) (ls' := [.ref 40, .int y0, .int y1, .int v3, .int v4]) (st' := []) (A' := im_H g g4 o Y) (c' := 0) (s' := 0) (mi'' := 108) (pc'' := 51) (ls'' := [.ref 40, .int y0, .int y1, .int v3, .int v4]) (st'' := []) (A'' := im_H g g4 o Y) (c'' := 0) (s'' := 0) 3 0 0 hb4 (fun n => rfl) ?_
      cases hb5 : Op.if_icmp.holds .ne y1 (1 : Int32) with
      | true =>
        have h := iv_bt hb5 h
        refine iv_brt (mi' := 108) (pc' := 68) (ls' := [.ref 40, .int y0, .int y1, .int v3, .int v4]) (st' := []) (A' := im_H g g4 o Y) (c' := 0) (s' := 0) (mi'' := 108) (pc'' := 63) (ls'' := [.ref 40, .int y0, .int y1, .int v3, .int v4]) (st'' := []) (A'' := im_H g g4 o Y) (c'' := 0) (s'' := 0) 3 0 0 hb5 (fun n => rfl) ?_
        refine iv_blk (mi' := 108) (pc' := 69) (ls' := [.ref 40, .int y0, .int y1, .int v3, .int v4]) (st' := [.int v3]) (A' := im_H g g4 o Y) (c' := 0) (s' := 0) 1 (fun n => rfl) ?_
        exact x108_r37_2_ok (u := g4) (y0 := y0) (y1 := y1) (y2 := v3) (y3 := v4) (y4 := v3) h
      | false =>
        have h := iv_bf hb5 h
        refine iv_brf (mi' := 108) (pc' := 68) (ls' := [.ref 40, .int y0, .int y1, .int v3, .int v4]) (st' := []) (A' := im_H g g4 o Y) (c' := 0) (s' := 0) (mi'' := 108) (pc'' := 63) (ls'' := [.ref 40, .int y0, .int y1, .int v3, .int v4]) (st'' := []) (A'' := im_H g g4 o Y) (c'' := 0) (s'' := 0) 3 0 0 hb5 (fun n => rfl) ?_
        refine iv_blk (mi' := 108) (pc' := 69) (ls' := [.ref 40, .int y0, .int y1, .int v3, .int v4]) (st' := [.int v4]) (A' := im_H g g4 o Y) (c' := 0) (s' := 0) 2 (fun n => rfl) ?_
        exact x108_r37_2_ok (u := g4) (y0 := y0) (y1 := y1) (y2 := v3) (y3 := v4) (y4 := v4) h
    | false =>
      have h := iv_bf hb4 h
      refine iv_brf (mi' := 108) (pc' := 58) (ls' := [.ref 40, .int y0, .int y1, .int v3, .int v4]) (st' := []) (A' := im_H g g4 o Y) (c' := 0) (s' := 0) (mi'' := 108) (pc'' := 51) (ls'' := [.ref 40, .int y0, .int y1, .int v3, .int v4]) (st'' := []) (A'' := im_H g g4 o Y) (c'' := 0) (s'' := 0) 3 0 0 hb4 (fun n => rfl) ?_
      refine iv_blk (mi' := 108) (pc' := 69) (ls' := [.ref 40, .int y0, .int y1, .int v3, .int v4]) (st' := [.int (v3 ||| v4)]) (A' := im_H g g4 o Y) (c' := 0) (s' := 0) 4 (fun n => rfl) ?_
      exact x108_r37_2_ok (u := g4) (y0 := y0) (y1 := y1) (y2 := v3) (y3 := v4) (y4 := (v3 ||| v4)) h
  | false =>
    have h := iv_bf hb3 h
    refine iv_brf (mi' := 108) (pc' := 34) (ls' := [.ref 40, .int y0, .int y1, .retAddr 0, .retAddr 0]) (st' := []) (A' := im_H g (im_w u 37 1 y2) o Y) (c' := 0) (s' := 0) (mi'' := 108) (pc'' := 32) (ls'' := [.ref 40, .int y0, .int y1, .retAddr 0, .retAddr 0]) (st'' := []) (A'' := im_H g (im_w u 37 1 y2) o Y) (c'' := 0) (s'' := 0) 3 0 0 hb3 (fun n => rfl) ?_
    cases h
    exact iv_ret 2 (fun n => rfl)
def x108_r37 (u : im_M) (a : Int32) (b : Int32) : Option (Int32 × im_M) :=
  Option.bind (x86 u a (3 : Int32)) (fun q1 =>
    bif Op.ifCond.holds .eq q1.1 then
      (x108_r37_1 q1.2 a b (1 : Int32))
    else
      (Option.bind (x86 q1.2 b (2 : Int32)) (fun q2 =>
        bif Op.ifCond.holds .eq q2.1 then
          (x108_r37_1 q2.2 a b (1 : Int32))
        else
          (x108_r37_1 q2.2 a b (0 : Int32)))))
set_option maxRecDepth 100000 in
set_option maxHeartbeats 4000000 in
theorem x108_r37_ok {L : Nat} {xs : Nat → Int32} {g u mm : im_M} {o : Nat → Int64} {Y : iv_A} {a b ret : Int32} (h : x108_r37 u a b = some (ret, mm)) : iv_ev (iv_Xs L xs) 108 0 [.ref 40, .int a, .int b, .retAddr 0, .retAddr 0] [] (im_H g u o Y) 0 0 (.inl (some (.int ret)), im_H g mm o Y) := by
  unfold x108_r37 at h
  obtain ⟨v1, g1, hc, h⟩ := iv_bd h
  refine iv_cal (mi' := 108) (pc' := 3) (ls' := [.ref 40, .int a, .int b, .retAddr 0, .retAddr 0]) (rest := [.ref 40]) (A' := im_H g u o Y) (c' := 0) (s' := 0) (as := [.int a, .int (3 : Int32)]) (v := some (.int v1)) (A'' := im_H g g1 o Y) 4 86 (fun n => rfl) rfl (x86_ok (u := u) (a := a) (b := (3 : Int32)) hc) ?_
  show iv_ev (iv_Xs L xs) 108 6 [.ref 40, .int a, .int b, .retAddr 0, .retAddr 0] [.int v1, .ref 40] (im_H g g1 o Y) 0 0 _
  cases hb1 : Op.ifCond.holds .eq v1 with
  | true =>
    have h := iv_bt hb1 h
    refine iv_brt (mi' := 108) (pc' := 21) (ls' := [.ref 40, .int a, .int b, .retAddr 0, .retAddr 0]) (st' := [.ref 40]) (A' := im_H g g1 o Y) (c' := 0) (s' := 0) (mi'' := 108) (pc'' := 9) (ls'' := [.ref 40, .int a, .int b, .retAddr 0, .retAddr 0]) (st'' := [.ref 40]) (A'' := im_H g g1 o Y) (c'' := 0) (s'' := 0) 1 0 0 hb1 (fun n => rfl) ?_
    refine iv_blk (mi' := 108) (pc' := 22) (ls' := [.ref 40, .int a, .int b, .retAddr 0, .retAddr 0]) (st' := [.int (1 : Int32), .ref 40]) (A' := im_H g g1 o Y) (c' := 0) (s' := 0) 1 (fun n => rfl) ?_
    exact x108_r37_1_ok (u := g1) (y0 := a) (y1 := b) (y2 := (1 : Int32)) h
  | false =>
    have h := iv_bf hb1 h
    refine iv_brf (mi' := 108) (pc' := 21) (ls' := [.ref 40, .int a, .int b, .retAddr 0, .retAddr 0]) (st' := [.ref 40]) (A' := im_H g g1 o Y) (c' := 0) (s' := 0) (mi'' := 108) (pc'' := 9) (ls'' := [.ref 40, .int a, .int b, .retAddr 0, .retAddr 0]) (st'' := [.ref 40]) (A'' := im_H g g1 o Y) (c'' := 0) (s'' := 0) 1 0 0 hb1 (fun n => rfl) ?_
    obtain ⟨v2, g2, hc, h⟩ := iv_bd h
    refine iv_cal (mi' := 108) (pc' := 11) (ls' := [.ref 40, .int a, .int b, .retAddr 0, .retAddr 0]) (rest := [.ref 40]) (A' := im_H g g1 o Y) (c' := 0) (s' := 0) (as := [.int b, .int (2 : Int32)]) (v := some (.int v2)) (A'' := im_H g g2 o Y) 3 86 (fun n => rfl) rfl (x86_ok (u := g1) (a := b) (b := (2 : Int32)) hc) ?_
    show iv_ev (iv_Xs L xs) 108 14 [.ref 40, .int a, .int b, .retAddr 0, .retAddr 0] [.int v2, .ref 40] (im_H g g2 o Y) 0 0 _
    cases hb2 : Op.ifCond.holds .eq v2 with
    | true =>
      have h := iv_bt hb2 h
      refine iv_brt (mi' := 108) (pc' := 21) (ls' := [.ref 40, .int a, .int b, .retAddr 0, .retAddr 0]) (st' := [.ref 40]) (A' := im_H g g2 o Y) (c' := 0) (s' := 0) (mi'' := 108) (pc'' := 17) (ls'' := [.ref 40, .int a, .int b, .retAddr 0, .retAddr 0]) (st'' := [.ref 40]) (A'' := im_H g g2 o Y) (c'' := 0) (s'' := 0) 1 0 0 hb2 (fun n => rfl) ?_
      refine iv_blk (mi' := 108) (pc' := 22) (ls' := [.ref 40, .int a, .int b, .retAddr 0, .retAddr 0]) (st' := [.int (1 : Int32), .ref 40]) (A' := im_H g g2 o Y) (c' := 0) (s' := 0) 1 (fun n => rfl) ?_
      exact x108_r37_1_ok (u := g2) (y0 := a) (y1 := b) (y2 := (1 : Int32)) h
    | false =>
      have h := iv_bf hb2 h
      refine iv_brf (mi' := 108) (pc' := 21) (ls' := [.ref 40, .int a, .int b, .retAddr 0, .retAddr 0]) (st' := [.ref 40]) (A' := im_H g g2 o Y) (c' := 0) (s' := 0) (mi'' := 108) (pc'' := 17) (ls'' := [.ref 40, .int a, .int b, .retAddr 0, .retAddr 0]) (st'' := [.ref 40]) (A'' := im_H g g2 o Y) (c'' := 0) (s'' := 0) 1 0 0 hb2 (fun n => rfl) ?_
      refine iv_blk (mi' := 108) (pc' := 22) (ls' := [.ref 40, .int a, .int b, .retAddr 0, .retAddr 0]) (st' := [.int (0 : Int32), .ref 40]) (A' := im_H g g2 o Y) (c' := 0) (s' := 0) 2 (fun n => rfl) ?_
      exact x108_r37_1_ok (u := g2) (y0 := a) (y1 := b) (y2 := (0 : Int32)) h
def x109_r37_2 (u : im_M) (y0 : Int32) (y1 : Int32) (y2 : Int32) : Option (Int32 × im_M) :=
  some (y2, u)
set_option maxRecDepth 100000 in
set_option maxHeartbeats 4000000 in
theorem x109_r37_2_ok {L : Nat} {xs : Nat → Int32} {g u mm : im_M} {o : Nat → Int64} {Y : iv_A} {y0 y1 y2 ret : Int32} (h : x109_r37_2 u y0 y1 y2 = some (ret, mm)) : iv_ev (iv_Xs L xs) 109 46 [.ref 40, .int y0, .int y1] [.int y2] (im_H g u o Y) 0 0 (.inl (some (.int ret)), im_H g mm o Y) := by
  unfold x109_r37_2 at h
  cases h
  exact iv_ret 1 (fun n => rfl)
def x109_r37_1 (u : im_M) (y0 : Int32) (y1 : Int32) (y2 : Int32) : Option (Int32 × im_M) :=
  bif Op.ifCond.holds .ne y2 then
    (x109_r37_2 (im_w u 37 1 y2) y0 y1 (0 : Int32))
  else
    (bif iv_in (((4 : Int32) * y0) + y1) 16 then
      x109_r37_2 (im_w u 37 1 y2) y0 y1 ((u 50) ((((4 : Int32) * y0) + y1)).toNatClampNeg)
    else none)
set_option maxRecDepth 100000 in
set_option maxHeartbeats 4000000 in
theorem x109_r37_1_ok {L : Nat} {xs : Nat → Int32} {g u mm : im_M} {o : Nat → Int64} {Y : iv_A} {y0 y1 y2 ret : Int32} (h : x109_r37_1 u y0 y1 y2 = some (ret, mm)) : iv_ev (iv_Xs L xs) 109 22 [.ref 40, .int y0, .int y1] [.int y2, .ref 40] (im_H g u o Y) 0 0 (.inl (some (.int ret)), im_H g mm o Y) := by
  unfold x109_r37_1 at h
  refine iv_blk (mi' := 109) (pc' := 25) (ls' := [.ref 40, .int y0, .int y1]) (st' := []) (A' := List.set (im_H g u o Y) 37 (.inr (6, List.set [.int (u 37 0), .int (u 37 1), .int (u 37 2), .ref 41, .ref 42, .ref 43, .ref 44, .ref 45, .ref 46, .ref 47, .ref 48, .ref 49, .ref 50, .ref 51, .ref 52, .ref 53, .ref 54, .ref 55, .ref 56, .int (u 37 19), .int (u 37 20), .int (u 37 21), .int (u 37 22), .ref 57, .ref 58, .ref 59, .ref 60, .int (u 37 27), .int (u 37 28), .int (u 37 29)] 1 (.int y2)))) (c' := 0) (s' := 0) 1 (fun n => rfl) ?_
  rw [im_f37_1]
  cases hb3 : Op.ifCond.holds .ne y2 with
  | true =>
    have h := iv_bt hb3 h
    refine iv_brt (mi' := 109) (pc' := 45) (ls' := [.ref 40, .int y0, .int y1]) (st' := []) (A' := im_H g (im_w u 37 1 y2) o Y) (c' := 0) (s' := 0) (mi'' := 109) (pc'' := 32) (ls'' := [.ref 40, .int y0, .int y1]) (st'' := []) (A'' := im_H g (im_w u 37 1 y2) o Y) (c'' := 0) (s'' := 0) 3 0 0 hb3 (fun n => rfl) ?_
    refine iv_blk (mi' := 109) (pc' := 46) (ls' := [.ref 40, .int y0, .int y1]) (st' := [.int (0 : Int32)]) (A' := im_H g (im_w u 37 1 y2) o Y) (c' := 0) (s' := 0) 1 (fun n => rfl) ?_
    exact x109_r37_2_ok (u := (im_w u 37 1 y2)) (y0 := y0) (y1 := y1) (y2 := (0 : Int32)) h
  | false =>
    have h := iv_bf hb3 h
    refine iv_brf (mi' := 109) (pc' := 45) (ls' := [.ref 40, .int y0, .int y1]) (st' := []) (A' := im_H g (im_w u 37 1 y2) o Y) (c' := 0) (s' := 0) (mi'' := 109) (pc'' := 32) (ls'' := [.ref 40, .int y0, .int y1]) (st'' := []) (A'' := im_H g (im_w u 37 1 y2) o Y) (c'' := 0) (s'' := 0) 3 0 0 hb3 (fun n => rfl) ?_
    cases hb4 : iv_in (((4 : Int32) * y0) + y1) 16 with
    | false => exact (iv_bn hb4 h).elim
    | true =>
      have h := iv_bt hb4 h
      refine iv_chk (mi' := 109) (pc' := 42) (ls' := [.ref 40, .int y0, .int y1]) (st' := [.int ((u 50) ((((4 : Int32) * y0) + y1)).toNatClampNeg)]) (A' := im_H g (im_w u 37 1 y2) o Y) (c' := 0) (s' := 0) 8 hb4 (fun n => rfl) ?_
      refine iv_blk (mi' := 109) (pc' := 46) (ls' := [.ref 40, .int y0, .int y1]) (st' := [.int ((u 50) ((((4 : Int32) * y0) + y1)).toNatClampNeg)]) (A' := im_H g (im_w u 37 1 y2) o Y) (c' := 0) (s' := 0) 1 (fun n => rfl) ?_
      exact x109_r37_2_ok (u := (im_w u 37 1 y2)) (y0 := y0) (y1 := y1) (y2 := ((u 50) ((((4 : Int32) * y0) + y1)).toNatClampNeg)) h
def x109_r37 (u : im_M) (a : Int32) (b : Int32) : Option (Int32 × im_M) :=
  Option.bind (x86 u a (3 : Int32)) (fun q1 =>
    bif Op.ifCond.holds .eq q1.1 then
      (x109_r37_1 q1.2 a b (1 : Int32))
    else
      (Option.bind (x86 q1.2 b (3 : Int32)) (fun q2 =>
        bif Op.ifCond.holds .eq q2.1 then
          (x109_r37_1 q2.2 a b (1 : Int32))
        else
          (x109_r37_1 q2.2 a b (0 : Int32)))))
set_option maxRecDepth 100000 in
set_option maxHeartbeats 4000000 in
theorem x109_r37_ok {L : Nat} {xs : Nat → Int32} {g u mm : im_M} {o : Nat → Int64} {Y : iv_A} {a b ret : Int32} (h : x109_r37 u a b = some (ret, mm)) : iv_ev (iv_Xs L xs) 109 0 [.ref 40, .int a, .int b] [] (im_H g u o Y) 0 0 (.inl (some (.int ret)), im_H g mm o Y) := by
  unfold x109_r37 at h
  obtain ⟨v1, g1, hc, h⟩ := iv_bd h
  refine iv_cal (mi' := 109) (pc' := 3) (ls' := [.ref 40, .int a, .int b]) (rest := [.ref 40]) (A' := im_H g u o Y) (c' := 0) (s' := 0) (as := [.int a, .int (3 : Int32)]) (v := some (.int v1)) (A'' := im_H g g1 o Y) 4 86 (fun n => rfl) rfl (x86_ok (u := u) (a := a) (b := (3 : Int32)) hc) ?_
  show iv_ev (iv_Xs L xs) 109 6 [.ref 40, .int a, .int b] [.int v1, .ref 40] (im_H g g1 o Y) 0 0 _
  cases hb1 : Op.ifCond.holds .eq v1 with
  | true =>
    have h := iv_bt hb1 h
    refine iv_brt (mi' := 109) (pc' := 21) (ls' := [.ref 40, .int a, .int b]) (st' := [.ref 40]) (A' := im_H g g1 o Y) (c' := 0) (s' := 0) (mi'' := 109) (pc'' := 9) (ls'' := [.ref 40, .int a, .int b]) (st'' := [.ref 40]) (A'' := im_H g g1 o Y) (c'' := 0) (s'' := 0) 1 0 0 hb1 (fun n => rfl) ?_
    refine iv_blk (mi' := 109) (pc' := 22) (ls' := [.ref 40, .int a, .int b]) (st' := [.int (1 : Int32), .ref 40]) (A' := im_H g g1 o Y) (c' := 0) (s' := 0) 1 (fun n => rfl) ?_
    exact x109_r37_1_ok (u := g1) (y0 := a) (y1 := b) (y2 := (1 : Int32)) h
  | false =>
    have h := iv_bf hb1 h
    refine iv_brf (mi' := 109) (pc' := 21) (ls' := [.ref 40, .int a, .int b]) (st' := [.ref 40]) (A' := im_H g g1 o Y) (c' := 0) (s' := 0) (mi'' := 109) (pc'' := 9) (ls'' := [.ref 40, .int a, .int b]) (st'' := [.ref 40]) (A'' := im_H g g1 o Y) (c'' := 0) (s'' := 0) 1 0 0 hb1 (fun n => rfl) ?_
    obtain ⟨v2, g2, hc, h⟩ := iv_bd h
    refine iv_cal (mi' := 109) (pc' := 11) (ls' := [.ref 40, .int a, .int b]) (rest := [.ref 40]) (A' := im_H g g1 o Y) (c' := 0) (s' := 0) (as := [.int b, .int (3 : Int32)]) (v := some (.int v2)) (A'' := im_H g g2 o Y) 3 86 (fun n => rfl) rfl (x86_ok (u := g1) (a := b) (b := (3 : Int32)) hc) ?_
    show iv_ev (iv_Xs L xs) 109 14 [.ref 40, .int a, .int b] [.int v2, .ref 40] (im_H g g2 o Y) 0 0 _
    cases hb2 : Op.ifCond.holds .eq v2 with
    | true =>
      have h := iv_bt hb2 h
      refine iv_brt (mi' := 109) (pc' := 21) (ls' := [.ref 40, .int a, .int b]) (st' := [.ref 40]) (A' := im_H g g2 o Y) (c' := 0) (s' := 0) (mi'' := 109) (pc'' := 17) (ls'' := [.ref 40, .int a, .int b]) (st'' := [.ref 40]) (A'' := im_H g g2 o Y) (c'' := 0) (s'' := 0) 1 0 0 hb2 (fun n => rfl) ?_
      refine iv_blk (mi' := 109) (pc' := 22) (ls' := [.ref 40, .int a, .int b]) (st' := [.int (1 : Int32), .ref 40]) (A' := im_H g g2 o Y) (c' := 0) (s' := 0) 1 (fun n => rfl) ?_
      exact x109_r37_1_ok (u := g2) (y0 := a) (y1 := b) (y2 := (1 : Int32)) h
    | false =>
      have h := iv_bf hb2 h
      refine iv_brf (mi' := 109) (pc' := 21) (ls' := [.ref 40, .int a, .int b]) (st' := [.ref 40]) (A' := im_H g g2 o Y) (c' := 0) (s' := 0) (mi'' := 109) (pc'' := 17) (ls'' := [.ref 40, .int a, .int b]) (st'' := [.ref 40]) (A'' := im_H g g2 o Y) (c'' := 0) (s'' := 0) 1 0 0 hb2 (fun n => rfl) ?_
      refine iv_blk (mi' := 109) (pc' := 22) (ls' := [.ref 40, .int a, .int b]) (st' := [.int (0 : Int32), .ref 40]) (A' := im_H g g2 o Y) (c' := 0) (s' := 0) 2 (fun n => rfl) ?_
      exact x109_r37_1_ok (u := g2) (y0 := a) (y1 := b) (y2 := (0 : Int32)) h
def x110_r37_2 (u : im_M) (y0 : Int32) (y1 : Int32) : Option (Int32 × im_M) :=
  some (y1, u)
set_option maxRecDepth 100000 in
set_option maxHeartbeats 4000000 in
theorem x110_r37_2_ok {L : Nat} {xs : Nat → Int32} {g u mm : im_M} {o : Nat → Int64} {Y : iv_A} {y0 y1 ret : Int32} (h : x110_r37_2 u y0 y1 = some (ret, mm)) : iv_ev (iv_Xs L xs) 110 34 [.ref 40, .int y0] [.int y1] (im_H g u o Y) 0 0 (.inl (some (.int ret)), im_H g mm o Y) := by
  unfold x110_r37_2 at h
  cases h
  exact iv_ret 1 (fun n => rfl)
def x110_r37_1 (u : im_M) (y0 : Int32) (y1 : Int32) : Option (Int32 × im_M) :=
  bif Op.ifCond.holds .ne y1 then
    (x110_r37_2 (im_w u 37 1 y1) y0 (0 : Int32))
  else
    (bif iv_in y0 4 then
      x110_r37_2 (im_w u 37 1 y1) y0 ((u 52) (y0).toNatClampNeg)
    else none)
set_option maxRecDepth 100000 in
set_option maxHeartbeats 4000000 in
theorem x110_r37_1_ok {L : Nat} {xs : Nat → Int32} {g u mm : im_M} {o : Nat → Int64} {Y : iv_A} {y0 y1 ret : Int32} (h : x110_r37_1 u y0 y1 = some (ret, mm)) : iv_ev (iv_Xs L xs) 110 14 [.ref 40, .int y0] [.int y1, .ref 40] (im_H g u o Y) 0 0 (.inl (some (.int ret)), im_H g mm o Y) := by
  unfold x110_r37_1 at h
  refine iv_blk (mi' := 110) (pc' := 17) (ls' := [.ref 40, .int y0]) (st' := []) (A' := List.set (im_H g u o Y) 37 (.inr (6, List.set [.int (u 37 0), .int (u 37 1), .int (u 37 2), .ref 41, .ref 42, .ref 43, .ref 44, .ref 45, .ref 46, .ref 47, .ref 48, .ref 49, .ref 50, .ref 51, .ref 52, .ref 53, .ref 54, .ref 55, .ref 56, .int (u 37 19), .int (u 37 20), .int (u 37 21), .int (u 37 22), .ref 57, .ref 58, .ref 59, .ref 60, .int (u 37 27), .int (u 37 28), .int (u 37 29)] 1 (.int y1)))) (c' := 0) (s' := 0) 1 (fun n => rfl) ?_
  rw [im_f37_1]
  cases hb2 : Op.ifCond.holds .ne y1 with
  | true =>
    have h := iv_bt hb2 h
    refine iv_brt (mi' := 110) (pc' := 33) (ls' := [.ref 40, .int y0]) (st' := []) (A' := im_H g (im_w u 37 1 y1) o Y) (c' := 0) (s' := 0) (mi'' := 110) (pc'' := 24) (ls'' := [.ref 40, .int y0]) (st'' := []) (A'' := im_H g (im_w u 37 1 y1) o Y) (c'' := 0) (s'' := 0) 3 0 0 hb2 (fun n => rfl) ?_
    refine iv_blk (mi' := 110) (pc' := 34) (ls' := [.ref 40, .int y0]) (st' := [.int (0 : Int32)]) (A' := im_H g (im_w u 37 1 y1) o Y) (c' := 0) (s' := 0) 1 (fun n => rfl) ?_
    exact x110_r37_2_ok (u := (im_w u 37 1 y1)) (y0 := y0) (y1 := (0 : Int32)) h
  | false =>
    have h := iv_bf hb2 h
    refine iv_brf (mi' := 110) (pc' := 33) (ls' := [.ref 40, .int y0]) (st' := []) (A' := im_H g (im_w u 37 1 y1) o Y) (c' := 0) (s' := 0) (mi'' := 110) (pc'' := 24) (ls'' := [.ref 40, .int y0]) (st'' := []) (A'' := im_H g (im_w u 37 1 y1) o Y) (c'' := 0) (s'' := 0) 3 0 0 hb2 (fun n => rfl) ?_
    cases hb3 : iv_in y0 4 with
    | false => exact (iv_bn hb3 h).elim
    | true =>
      have h := iv_bt hb3 h
      refine iv_chk (mi' := 110) (pc' := 30) (ls' := [.ref 40, .int y0]) (st' := [.int ((u 52) (y0).toNatClampNeg)]) (A' := im_H g (im_w u 37 1 y1) o Y) (c' := 0) (s' := 0) 4 hb3 (fun n => rfl) ?_
      refine iv_blk (mi' := 110) (pc' := 34) (ls' := [.ref 40, .int y0]) (st' := [.int ((u 52) (y0).toNatClampNeg)]) (A' := im_H g (im_w u 37 1 y1) o Y) (c' := 0) (s' := 0) 1 (fun n => rfl) ?_
      exact x110_r37_2_ok (u := (im_w u 37 1 y1)) (y0 := y0) (y1 := ((u 52) (y0).toNatClampNeg)) h
def x110_r37 (u : im_M) (a : Int32) : Option (Int32 × im_M) :=
  Option.bind (x86 u a (3 : Int32)) (fun q1 =>
    bif Op.ifCond.holds .eq q1.1 then
      (x110_r37_1 q1.2 a (1 : Int32))
    else
      (x110_r37_1 q1.2 a (0 : Int32)))
set_option maxRecDepth 100000 in
set_option maxHeartbeats 4000000 in
theorem x110_r37_ok {L : Nat} {xs : Nat → Int32} {g u mm : im_M} {o : Nat → Int64} {Y : iv_A} {a ret : Int32} (h : x110_r37 u a = some (ret, mm)) : iv_ev (iv_Xs L xs) 110 0 [.ref 40, .int a] [] (im_H g u o Y) 0 0 (.inl (some (.int ret)), im_H g mm o Y) := by
  unfold x110_r37 at h
  obtain ⟨v1, g1, hc, h⟩ := iv_bd h
  refine iv_cal (mi' := 110) (pc' := 3) (ls' := [.ref 40, .int a]) (rest := [.ref 40]) (A' := im_H g u o Y) (c' := 0) (s' := 0) (as := [.int a, .int (3 : Int32)]) (v := some (.int v1)) (A'' := im_H g g1 o Y) 4 86 (fun n => rfl) rfl (x86_ok (u := u) (a := a) (b := (3 : Int32)) hc) ?_
  show iv_ev (iv_Xs L xs) 110 6 [.ref 40, .int a] [.int v1, .ref 40] (im_H g g1 o Y) 0 0 _
  cases hb1 : Op.ifCond.holds .eq v1 with
  | true =>
    have h := iv_bt hb1 h
    refine iv_brt (mi' := 110) (pc' := 13) (ls' := [.ref 40, .int a]) (st' := [.ref 40]) (A' := im_H g g1 o Y) (c' := 0) (s' := 0) (mi'' := 110) (pc'' := 9) (ls'' := [.ref 40, .int a]) (st'' := [.ref 40]) (A'' := im_H g g1 o Y) (c'' := 0) (s'' := 0) 1 0 0 hb1 (fun n => rfl) ?_
    refine iv_blk (mi' := 110) (pc' := 14) (ls' := [.ref 40, .int a]) (st' := [.int (1 : Int32), .ref 40]) (A' := im_H g g1 o Y) (c' := 0) (s' := 0) 1 (fun n => rfl) ?_
    exact x110_r37_1_ok (u := g1) (y0 := a) (y1 := (1 : Int32)) h
  | false =>
    have h := iv_bf hb1 h
    refine iv_brf (mi' := 110) (pc' := 13) (ls' := [.ref 40, .int a]) (st' := [.ref 40]) (A' := im_H g g1 o Y) (c' := 0) (s' := 0) (mi'' := 110) (pc'' := 9) (ls'' := [.ref 40, .int a]) (st'' := [.ref 40]) (A'' := im_H g g1 o Y) (c'' := 0) (s'' := 0) 1 0 0 hb1 (fun n => rfl) ?_
    refine iv_blk (mi' := 110) (pc' := 14) (ls' := [.ref 40, .int a]) (st' := [.int (0 : Int32), .ref 40]) (A' := im_H g g1 o Y) (c' := 0) (s' := 0) 2 (fun n => rfl) ?_
    exact x110_r37_1_ok (u := g1) (y0 := a) (y1 := (0 : Int32)) h
def x111_r37_2 (u : im_M) (y0 : Int32) (y1 : Int32) : Option (Int32 × im_M) :=
  some (y1, u)
set_option maxRecDepth 100000 in
set_option maxHeartbeats 4000000 in
theorem x111_r37_2_ok {L : Nat} {xs : Nat → Int32} {g u mm : im_M} {o : Nat → Int64} {Y : iv_A} {y0 y1 ret : Int32} (h : x111_r37_2 u y0 y1 = some (ret, mm)) : iv_ev (iv_Xs L xs) 111 34 [.ref 40, .int y0] [.int y1] (im_H g u o Y) 0 0 (.inl (some (.int ret)), im_H g mm o Y) := by
  unfold x111_r37_2 at h
  cases h
  exact iv_ret 1 (fun n => rfl)
def x111_r37_1 (u : im_M) (y0 : Int32) (y1 : Int32) : Option (Int32 × im_M) :=
  bif Op.ifCond.holds .ne y1 then
    (x111_r37_2 (im_w u 37 1 y1) y0 (0 : Int32))
  else
    (bif iv_in y0 4 then
      x111_r37_2 (im_w u 37 1 y1) y0 ((u 53) (y0).toNatClampNeg)
    else none)
set_option maxRecDepth 100000 in
set_option maxHeartbeats 4000000 in
theorem x111_r37_1_ok {L : Nat} {xs : Nat → Int32} {g u mm : im_M} {o : Nat → Int64} {Y : iv_A} {y0 y1 ret : Int32} (h : x111_r37_1 u y0 y1 = some (ret, mm)) : iv_ev (iv_Xs L xs) 111 14 [.ref 40, .int y0] [.int y1, .ref 40] (im_H g u o Y) 0 0 (.inl (some (.int ret)), im_H g mm o Y) := by
  unfold x111_r37_1 at h
  refine iv_blk (mi' := 111) (pc' := 17) (ls' := [.ref 40, .int y0]) (st' := []) (A' := List.set (im_H g u o Y) 37 (.inr (6, List.set [.int (u 37 0), .int (u 37 1), .int (u 37 2), .ref 41, .ref 42, .ref 43, .ref 44, .ref 45, .ref 46, .ref 47, .ref 48, .ref 49, .ref 50, .ref 51, .ref 52, .ref 53, .ref 54, .ref 55, .ref 56, .int (u 37 19), .int (u 37 20), .int (u 37 21), .int (u 37 22), .ref 57, .ref 58, .ref 59, .ref 60, .int (u 37 27), .int (u 37 28), .int (u 37 29)] 1 (.int y1)))) (c' := 0) (s' := 0) 1 (fun n => rfl) ?_
  rw [im_f37_1]
  cases hb2 : Op.ifCond.holds .ne y1 with
  | true =>
    have h := iv_bt hb2 h
    refine iv_brt (mi' := 111) (pc' := 33) (ls' := [.ref 40, .int y0]) (st' := []) (A' := im_H g (im_w u 37 1 y1) o Y) (c' := 0) (s' := 0) (mi'' := 111) (pc'' := 24) (ls'' := [.ref 40, .int y0]) (st'' := []) (A'' := im_H g (im_w u 37 1 y1) o Y) (c'' := 0) (s'' := 0) 3 0 0 hb2 (fun n => rfl) ?_
    refine iv_blk (mi' := 111) (pc' := 34) (ls' := [.ref 40, .int y0]) (st' := [.int (0 : Int32)]) (A' := im_H g (im_w u 37 1 y1) o Y) (c' := 0) (s' := 0) 1 (fun n => rfl) ?_
    exact x111_r37_2_ok (u := (im_w u 37 1 y1)) (y0 := y0) (y1 := (0 : Int32)) h
  | false =>
    have h := iv_bf hb2 h
    refine iv_brf (mi' := 111) (pc' := 33) (ls' := [.ref 40, .int y0]) (st' := []) (A' := im_H g (im_w u 37 1 y1) o Y) (c' := 0) (s' := 0) (mi'' := 111) (pc'' := 24) (ls'' := [.ref 40, .int y0]) (st'' := []) (A'' := im_H g (im_w u 37 1 y1) o Y) (c'' := 0) (s'' := 0) 3 0 0 hb2 (fun n => rfl) ?_
    cases hb3 : iv_in y0 4 with
    | false => exact (iv_bn hb3 h).elim
    | true =>
      have h := iv_bt hb3 h
      refine iv_chk (mi' := 111) (pc' := 30) (ls' := [.ref 40, .int y0]) (st' := [.int ((u 53) (y0).toNatClampNeg)]) (A' := im_H g (im_w u 37 1 y1) o Y) (c' := 0) (s' := 0) 4 hb3 (fun n => rfl) ?_
      refine iv_blk (mi' := 111) (pc' := 34) (ls' := [.ref 40, .int y0]) (st' := [.int ((u 53) (y0).toNatClampNeg)]) (A' := im_H g (im_w u 37 1 y1) o Y) (c' := 0) (s' := 0) 1 (fun n => rfl) ?_
      exact x111_r37_2_ok (u := (im_w u 37 1 y1)) (y0 := y0) (y1 := ((u 53) (y0).toNatClampNeg)) h
def x111_r37 (u : im_M) (a : Int32) : Option (Int32 × im_M) :=
  Option.bind (x86 u a (3 : Int32)) (fun q1 =>
    bif Op.ifCond.holds .eq q1.1 then
      (x111_r37_1 q1.2 a (1 : Int32))
    else
      (x111_r37_1 q1.2 a (0 : Int32)))
set_option maxRecDepth 100000 in
set_option maxHeartbeats 4000000 in
theorem x111_r37_ok {L : Nat} {xs : Nat → Int32} {g u mm : im_M} {o : Nat → Int64} {Y : iv_A} {a ret : Int32} (h : x111_r37 u a = some (ret, mm)) : iv_ev (iv_Xs L xs) 111 0 [.ref 40, .int a] [] (im_H g u o Y) 0 0 (.inl (some (.int ret)), im_H g mm o Y) := by
  unfold x111_r37 at h
  obtain ⟨v1, g1, hc, h⟩ := iv_bd h
  refine iv_cal (mi' := 111) (pc' := 3) (ls' := [.ref 40, .int a]) (rest := [.ref 40]) (A' := im_H g u o Y) (c' := 0) (s' := 0) (as := [.int a, .int (3 : Int32)]) (v := some (.int v1)) (A'' := im_H g g1 o Y) 4 86 (fun n => rfl) rfl (x86_ok (u := u) (a := a) (b := (3 : Int32)) hc) ?_
  show iv_ev (iv_Xs L xs) 111 6 [.ref 40, .int a] [.int v1, .ref 40] (im_H g g1 o Y) 0 0 _
  cases hb1 : Op.ifCond.holds .eq v1 with
  | true =>
    have h := iv_bt hb1 h
    refine iv_brt (mi' := 111) (pc' := 13) (ls' := [.ref 40, .int a]) (st' := [.ref 40]) (A' := im_H g g1 o Y) (c' := 0) (s' := 0) (mi'' := 111) (pc'' := 9) (ls'' := [.ref 40, .int a]) (st'' := [.ref 40]) (A'' := im_H g g1 o Y) (c'' := 0) (s'' := 0) 1 0 0 hb1 (fun n => rfl) ?_
    refine iv_blk (mi' := 111) (pc' := 14) (ls' := [.ref 40, .int a]) (st' := [.int (1 : Int32), .ref 40]) (A' := im_H g g1 o Y) (c' := 0) (s' := 0) 1 (fun n => rfl) ?_
    exact x111_r37_1_ok (u := g1) (y0 := a) (y1 := (1 : Int32)) h
  | false =>
    have h := iv_bf hb1 h
    refine iv_brf (mi' := 111) (pc' := 13) (ls' := [.ref 40, .int a]) (st' := [.ref 40]) (A' := im_H g g1 o Y) (c' := 0) (s' := 0) (mi'' := 111) (pc'' := 9) (ls'' := [.ref 40, .int a]) (st'' := [.ref 40]) (A'' := im_H g g1 o Y) (c'' := 0) (s'' := 0) 1 0 0 hb1 (fun n => rfl) ?_
    refine iv_blk (mi' := 111) (pc' := 14) (ls' := [.ref 40, .int a]) (st' := [.int (0 : Int32), .ref 40]) (A' := im_H g g1 o Y) (c' := 0) (s' := 0) 2 (fun n => rfl) ?_
    exact x111_r37_1_ok (u := g1) (y0 := a) (y1 := (0 : Int32)) h
def x112_r37_1 (u : im_M) (y0 : Int32) (y1 : Int32) : Option (Int32 × im_M) :=
  bif (y1 == 0 || y1 == 1) then some (y1, u) else none
set_option maxRecDepth 100000 in
set_option maxHeartbeats 4000000 in
theorem x112_r37_1_ok {L : Nat} {xs : Nat → Int32} {g u mm : im_M} {o : Nat → Int64} {Y : iv_A} {y0 y1 ret : Int32} (h : x112_r37_1 u y0 y1 = some (ret, mm)) : iv_ev (iv_Xs L xs) 112 41 [.ref 40, .int y0, .int (4 : Int32)] [.int y1] (im_H g u o Y) 0 0 (.inl (some (.int ret)), im_H g mm o Y) := by
  unfold x112_r37_1 at h
  cases hb2 : (y1 == 0 || y1 == 1) with
  | false => exact (iv_bn hb2 h).elim
  | true =>
    have h := iv_bt hb2 h
    cases h
    exact iv_retc 1 hb2 (fun n => rfl)
def x112_r37 (u : im_M) : Option (Int32 × im_M) :=
  bif Op.if_icmp.holds .le (((((0 : Int32) + ((u 53 0) &&& (1 : Int32))) + ((u 53 1) &&& (1 : Int32))) + ((u 53 2) &&& (1 : Int32))) + ((u 53 3) &&& (1 : Int32))) (1 : Int32) then
    (x112_r37_1 (im_w u 37 1 (0 : Int32)) (((((0 : Int32) + ((u 53 0) &&& (1 : Int32))) + ((u 53 1) &&& (1 : Int32))) + ((u 53 2) &&& (1 : Int32))) + ((u 53 3) &&& (1 : Int32))) (0 : Int32))
  else
    (x112_r37_1 (im_w u 37 1 (0 : Int32)) (((((0 : Int32) + ((u 53 0) &&& (1 : Int32))) + ((u 53 1) &&& (1 : Int32))) + ((u 53 2) &&& (1 : Int32))) + ((u 53 3) &&& (1 : Int32))) (1 : Int32))
set_option maxRecDepth 100000 in
set_option maxHeartbeats 4000000 in
theorem x112_r37_ok {L : Nat} {xs : Nat → Int32} {g u mm : im_M} {o : Nat → Int64} {Y : iv_A} {ret : Int32} (h : x112_r37 u  = some (ret, mm)) : iv_ev (iv_Xs L xs) 112 0 [.ref 40, .retAddr 0, .retAddr 0] [] (im_H g u o Y) 0 0 (.inl (some (.int ret)), im_H g mm o Y) := by
  unfold x112_r37 at h
  refine iv_blk (mi' := 112) (pc' := 5) (ls' := [.ref 40, .retAddr 0, .retAddr 0]) (st' := []) (A' := List.set (im_H g u o Y) 37 (.inr (6, List.set [.int (u 37 0), .int (u 37 1), .int (u 37 2), .ref 41, .ref 42, .ref 43, .ref 44, .ref 45, .ref 46, .ref 47, .ref 48, .ref 49, .ref 50, .ref 51, .ref 52, .ref 53, .ref 54, .ref 55, .ref 56, .int (u 37 19), .int (u 37 20), .int (u 37 21), .int (u 37 22), .ref 57, .ref 58, .ref 59, .ref 60, .int (u 37 27), .int (u 37 28), .int (u 37 29)] 1 (.int (0 : Int32))))) (c' := 0) (s' := 0) 3 (fun n => rfl) ?_
  rw [im_f37_1]
  cases hb1 : Op.if_icmp.holds .le (((((0 : Int32) + ((u 53 0) &&& (1 : Int32))) + ((u 53 1) &&& (1 : Int32))) + ((u 53 2) &&& (1 : Int32))) + ((u 53 3) &&& (1 : Int32))) (1 : Int32) with
  | true =>
    have h := iv_bt hb1 h
    refine iv_brt (mi' := 112) (pc' := 40) (ls' := [.ref 40, .int (((((0 : Int32) + ((u 53 0) &&& (1 : Int32))) + ((u 53 1) &&& (1 : Int32))) + ((u 53 2) &&& (1 : Int32))) + ((u 53 3) &&& (1 : Int32))), .int (4 : Int32)]) (st' := []) (A' := im_H g (im_w u 37 1 (0 : Int32)) o Y) (c' := 0) (s' := 0) (mi'' := 112) (pc'' := 36) (ls'' := [.ref 40, .int (((((0 : Int32) + ((u 53 0) &&& (1 : Int32))) + ((u 53 1) &&& (1 : Int32))) + ((u 53 2) &&& (1 : Int32))) + ((u 53 3) &&& (1 : Int32))), .int (4 : Int32)]) (st'' := []) (A'' := im_H g (im_w u 37 1 (0 : Int32)) o Y) (c'' := 0) (s'' := 0) 66 0 0 hb1 (fun n => rfl) ?_
    refine iv_blk (mi' := 112) (pc' := 41) (ls' := [.ref 40, .int (((((0 : Int32) + ((u 53 0) &&& (1 : Int32))) + ((u 53 1) &&& (1 : Int32))) + ((u 53 2) &&& (1 : Int32))) + ((u 53 3) &&& (1 : Int32))), .int (4 : Int32)]) (st' := [.int (0 : Int32)]) (A' := im_H g (im_w u 37 1 (0 : Int32)) o Y) (c' := 0) (s' := 0) 1 (fun n => rfl) ?_
    exact x112_r37_1_ok (u := (im_w u 37 1 (0 : Int32))) (y0 := (((((0 : Int32) + ((u 53 0) &&& (1 : Int32))) + ((u 53 1) &&& (1 : Int32))) + ((u 53 2) &&& (1 : Int32))) + ((u 53 3) &&& (1 : Int32)))) (y1 := (0 : Int32)) h
  | false =>
    have h := iv_bf hb1 h
    refine iv_brf (mi' := 112) (pc' := 40) (ls' := [.ref 40, .int (((((0 : Int32) + ((u 53 0) &&& (1 : Int32))) + ((u 53 1) &&& (1 : Int32))) + ((u 53 2) &&& (1 : Int32))) + ((u 53 3) &&& (1 : Int32))), .int (4 : Int32)]) (st' := []) (A' := im_H g (im_w u 37 1 (0 : Int32)) o Y) (c' := 0) (s' := 0) (mi'' := 112) (pc'' := 36) (ls'' := [.ref 40, .int (((((0 : Int32) + ((u 53 0) &&& (1 : Int32))) + ((u 53 1) &&& (1 : Int32))) + ((u 53 2) &&& (1 : Int32))) + ((u 53 3) &&& (1 : Int32))), .int (4 : Int32)]) (st'' := []) (A'' := im_H g (im_w u 37 1 (0 : Int32)) o Y) (c'' := 0) (s'' := 0) 66 0 0 hb1 (fun n => rfl) ?_
    refine iv_blk (mi' := 112) (pc' := 41) (ls' := [.ref 40, .int (((((0 : Int32) + ((u 53 0) &&& (1 : Int32))) + ((u 53 1) &&& (1 : Int32))) + ((u 53 2) &&& (1 : Int32))) + ((u 53 3) &&& (1 : Int32))), .int (4 : Int32)]) (st' := [.int (1 : Int32)]) (A' := im_H g (im_w u 37 1 (0 : Int32)) o Y) (c' := 0) (s' := 0) 2 (fun n => rfl) ?_
    exact x112_r37_1_ok (u := (im_w u 37 1 (0 : Int32))) (y0 := (((((0 : Int32) + ((u 53 0) &&& (1 : Int32))) + ((u 53 1) &&& (1 : Int32))) + ((u 53 2) &&& (1 : Int32))) + ((u 53 3) &&& (1 : Int32)))) (y1 := (1 : Int32)) h
def x113_r37_2 (u : im_M) (y0 : Int32) (y1 : Int32) (y2 : Int32) (y3 : Int32) : Option (Int32 × im_M) :=
  some (y3, u)
set_option maxRecDepth 100000 in
set_option maxHeartbeats 4000000 in
theorem x113_r37_2_ok {L : Nat} {xs : Nat → Int32} {g u mm : im_M} {o : Nat → Int64} {Y : iv_A} {y0 y1 y2 y3 ret : Int32} (h : x113_r37_2 u y0 y1 y2 y3 = some (ret, mm)) : iv_ev (iv_Xs L xs) 113 105 [.ref 40, .int y0, .int y1, .int y2] [.int y3] (im_H g u o Y) 0 0 (.inl (some (.int ret)), im_H g mm o Y) := by
  unfold x113_r37_2 at h
  cases h
  exact iv_ret 1 (fun n => rfl)
def x113_r37_1 (u : im_M) (y0 : Int32) (y1 : Int32) (y2 : Int32) : Option (Int32 × im_M) :=
  bif Op.ifCond.holds .le y2 then
    (bif Op.ifCond.holds .ne y1 then
      (bif Op.if_icmp.holds .ne y1 (1 : Int32) then
        (bif Op.if_icmp.holds .ne y1 (2 : Int32) then
          (bif iv_in (y0 - y0 / (40 : Int32) * (40 : Int32)) 40 then
            x113_r37_2 (im_w u 37 1 y2) y0 y1 (y0 - y0 / (40 : Int32) * (40 : Int32)) ((u 57) ((y0 - y0 / (40 : Int32) * (40 : Int32))).toNatClampNeg)
          else none)
        else
          (bif iv_in (y0 - y0 / (40 : Int32) * (40 : Int32)) 40 then
            x113_r37_2 (im_w u 37 1 y2) y0 y1 (y0 - y0 / (40 : Int32) * (40 : Int32)) ((u 56) ((y0 - y0 / (40 : Int32) * (40 : Int32))).toNatClampNeg)
          else none))
      else
        (bif iv_in (y0 - y0 / (40 : Int32) * (40 : Int32)) 40 then
          x113_r37_2 (im_w u 37 1 y2) y0 y1 (y0 - y0 / (40 : Int32) * (40 : Int32)) ((u 55) ((y0 - y0 / (40 : Int32) * (40 : Int32))).toNatClampNeg)
        else none))
    else
      (bif iv_in (y0 - y0 / (40 : Int32) * (40 : Int32)) 40 then
        x113_r37_2 (im_w u 37 1 y2) y0 y1 (y0 - y0 / (40 : Int32) * (40 : Int32)) ((u 54) ((y0 - y0 / (40 : Int32) * (40 : Int32))).toNatClampNeg)
      else none))
  else
    (some ((0 : Int32), (im_w u 37 1 y2)))
set_option maxRecDepth 100000 in
set_option maxHeartbeats 4000000 in
theorem x113_r37_1_ok {L : Nat} {xs : Nat → Int32} {g u mm : im_M} {o : Nat → Int64} {Y : iv_A} {y0 y1 y2 ret : Int32} (h : x113_r37_1 u y0 y1 y2 = some (ret, mm)) : iv_ev (iv_Xs L xs) 113 41 [.ref 40, .int y0, .int y1, .retAddr 0] [.int y2, .ref 40] (im_H g u o Y) 0 0 (.inl (some (.int ret)), im_H g mm o Y) := by
  unfold x113_r37_1 at h
  refine iv_blk (mi' := 113) (pc' := 44) (ls' := [.ref 40, .int y0, .int y1, .retAddr 0]) (st' := []) (A' := List.set (im_H g u o Y) 37 (.inr (6, List.set [.int (u 37 0), .int (u 37 1), .int (u 37 2), .ref 41, .ref 42, .ref 43, .ref 44, .ref 45, .ref 46, .ref 47, .ref 48, .ref 49, .ref 50, .ref 51, .ref 52, .ref 53, .ref 54, .ref 55, .ref 56, .int (u 37 19), .int (u 37 20), .int (u 37 21), .int (u 37 22), .ref 57, .ref 58, .ref 59, .ref 60, .int (u 37 27), .int (u 37 28), .int (u 37 29)] 1 (.int y2)))) (c' := 0) (s' := 0) 1 (fun n => rfl) ?_
  rw [im_f37_1]
  cases hb5 : Op.ifCond.holds .le y2 with
  | true =>
    have h := iv_bt hb5 h
    refine iv_brt (mi' := 113) (pc' := 53) (ls' := [.ref 40, .int y0, .int y1, .retAddr 0]) (st' := []) (A' := im_H g (im_w u 37 1 y2) o Y) (c' := 0) (s' := 0) (mi'' := 113) (pc'' := 51) (ls'' := [.ref 40, .int y0, .int y1, .retAddr 0]) (st'' := []) (A'' := im_H g (im_w u 37 1 y2) o Y) (c'' := 0) (s'' := 0) 3 0 0 hb5 (fun n => rfl) ?_
    cases hb6 : Op.ifCond.holds .ne y1 with
    | true =>
      have h := iv_bt hb6 h
      refine iv_brt (mi' := 113) (pc' := 71) (ls' := [.ref 40, .int y0, .int y1, .int (y0 - y0 / (40 : Int32) * (40 : Int32))]) (st' := []) (A' := im_H g (im_w u 37 1 y2) o Y) (c' := 0) (s' := 0) (mi'' := 113) (pc'' := 62) (ls'' := [.ref 40, .int y0, .int y1, .int (y0 - y0 / (40 : Int32) * (40 : Int32))]) (st'' := []) (A'' := im_H g (im_w u 37 1 y2) o Y) (c'' := 0) (s'' := 0) 6 0 0 hb6 (fun n => rfl) ?_
      cases hb7 : Op.if_icmp.holds .ne y1 (1 : Int32) with
      | true =>
        have h := iv_bt hb7 h
        refine iv_brt (mi' := 113) (pc' := 85) (ls' := [.ref 40, .int y0, .int y1, .int (y0 - y0 / (40 : Int32) * (40 : Int32))]) (st' := []) (A' := im_H g (im_w u 37 1 y2) o Y) (c' := 0) (s' := 0) (mi'' := 113) (pc'' := 76) (ls'' := [.ref 40, .int y0, .int y1, .int (y0 - y0 / (40 : Int32) * (40 : Int32))]) (st'' := []) (A'' := im_H g (im_w u 37 1 y2) o Y) (c'' := 0) (s'' := 0) 3 0 0 hb7 (fun n => rfl) ?_
        cases hb8 : Op.if_icmp.holds .ne y1 (2 : Int32) with
        | true =>
          have h := iv_bt hb8 h
          refine iv_brt (mi' := 113) (pc' := 99) (ls' := [.ref 40, .int y0, .int y1, .int (y0 - y0 / (40 : Int32) * (40 : Int32))]) (st' := []) (A' := im_H g (im_w u 37 1 y2) o Y) (c' := 0) (s' := 0) (mi'' := 113) (pc'' := 90) (ls'' := [.ref 40, .int y0, .int y1, .int (y0 - y0 / (40 : Int32) * (40 : Int32))]) (st'' := []) (A'' := im_H g (im_w u 37 1 y2) o Y) (c'' := 0) (s'' := 0) 3 0 0 hb8 (fun n => rfl) ?_
          cases hb9 : iv_in (y0 - y0 / (40 : Int32) * (40 : Int32)) 40 with
          | false => exact (iv_bn hb9 h).elim
          | true =>
            have h := iv_bt hb9 h
            refine iv_chk (mi' := 113) (pc' := 105) (ls' := [.ref 40, .int y0, .int y1, .int (y0 - y0 / (40 : Int32) * (40 : Int32))]) (st' := [.int ((u 57) ((y0 - y0 / (40 : Int32) * (40 : Int32))).toNatClampNeg)]) (A' := im_H g (im_w u 37 1 y2) o Y) (c' := 0) (s' := 0) 4 hb9 (fun n => rfl) ?_
            exact x113_r37_2_ok (u := (im_w u 37 1 y2)) (y0 := y0) (y1 := y1) (y2 := (y0 - y0 / (40 : Int32) * (40 : Int32))) (y3 := ((u 57) ((y0 - y0 / (40 : Int32) * (40 : Int32))).toNatClampNeg)) h
        | false =>
          have h := iv_bf hb8 h
          refine iv_brf (mi' := 113) (pc' := 99) (ls' := [.ref 40, .int y0, .int y1, .int (y0 - y0 / (40 : Int32) * (40 : Int32))]) (st' := []) (A' := im_H g (im_w u 37 1 y2) o Y) (c' := 0) (s' := 0) (mi'' := 113) (pc'' := 90) (ls'' := [.ref 40, .int y0, .int y1, .int (y0 - y0 / (40 : Int32) * (40 : Int32))]) (st'' := []) (A'' := im_H g (im_w u 37 1 y2) o Y) (c'' := 0) (s'' := 0) 3 0 0 hb8 (fun n => rfl) ?_
          cases hb10 : iv_in (y0 - y0 / (40 : Int32) * (40 : Int32)) 40 with
          | false => exact (iv_bn hb10 h).elim
          | true =>
            have h := iv_bt hb10 h
            refine iv_chk (mi' := 113) (pc' := 96) (ls' := [.ref 40, .int y0, .int y1, .int (y0 - y0 / (40 : Int32) * (40 : Int32))]) (st' := [.int ((u 56) ((y0 - y0 / (40 : Int32) * (40 : Int32))).toNatClampNeg)]) (A' := im_H g (im_w u 37 1 y2) o Y) (c' := 0) (s' := 0) 4 hb10 (fun n => rfl) ?_
            refine iv_blk (mi' := 113) (pc' := 105) (ls' := [.ref 40, .int y0, .int y1, .int (y0 - y0 / (40 : Int32) * (40 : Int32))]) (st' := [.int ((u 56) ((y0 - y0 / (40 : Int32) * (40 : Int32))).toNatClampNeg)]) (A' := im_H g (im_w u 37 1 y2) o Y) (c' := 0) (s' := 0) 1 (fun n => rfl) ?_
            exact x113_r37_2_ok (u := (im_w u 37 1 y2)) (y0 := y0) (y1 := y1) (y2 := (y0 - y0 / (40 : Int32) * (40 : Int32))) (y3 := ((u 56) ((y0 - y0 / (40 : Int32) * (40 : Int32))).toNatClampNeg)) h
      | false =>
        have h := iv_bf hb7 h
        refine iv_brf (mi' := 113) (pc' := 85) (ls' := [.ref 40, .int y0, .int y1, .int (y0 - y0 / (40 : Int32) * (40 : Int32))]) (st' := []) (A' := im_H g (im_w u 37 1 y2) o Y) (c' := 0) (s' := 0) (mi'' := 113) (pc'' := 76) (ls'' := [.ref 40, .int y0, .int y1, .int (y0 - y0 / (40 : Int32) * (40 : Int32))]) (st'' := []) (A'' := im_H g (im_w u 37 1 y2) o Y) (c'' := 0) (s'' := 0) 3 0 0 hb7 (fun n => rfl) ?_
        cases hb11 : iv_in (y0 - y0 / (40 : Int32) * (40 : Int32)) 40 with
        | false => exact (iv_bn hb11 h).elim
        | true =>
          have h := iv_bt hb11 h
          refine iv_chk (mi' := 113) (pc' := 82) (ls' := [.ref 40, .int y0, .int y1, .int (y0 - y0 / (40 : Int32) * (40 : Int32))]) (st' := [.int ((u 55) ((y0 - y0 / (40 : Int32) * (40 : Int32))).toNatClampNeg)]) (A' := im_H g (im_w u 37 1 y2) o Y) (c' := 0) (s' := 0) 4 hb11 (fun n => rfl) ?_
          refine iv_blk (mi' := 113) (pc' := 105) (ls' := [.ref 40, .int y0, .int y1, .int (y0 - y0 / (40 : Int32) * (40 : Int32))]) (st' := [.int ((u 55) ((y0 - y0 / (40 : Int32) * (40 : Int32))).toNatClampNeg)]) (A' := im_H g (im_w u 37 1 y2) o Y) (c' := 0) (s' := 0) 1 (fun n => rfl) ?_
          exact x113_r37_2_ok (u := (im_w u 37 1 y2)) (y0 := y0) (y1 := y1) (y2 := (y0 - y0 / (40 : Int32) * (40 : Int32))) (y3 := ((u 55) ((y0 - y0 / (40 : Int32) * (40 : Int32))).toNatClampNeg)) h
    | false =>
      have h := iv_bf hb6 h
      refine iv_brf (mi' := 113) (pc' := 71) (ls' := [.ref 40, .int y0, .int y1, .int (y0 - y0 / (40 : Int32) * (40 : Int32))]) (st' := []) (A' := im_H g (im_w u 37 1 y2) o Y) (c' := 0) (s' := 0) (mi'' := 113) (pc'' := 62) (ls'' := [.ref 40, .int y0, .int y1, .int (y0 - y0 / (40 : Int32) * (40 : Int32))]) (st'' := []) (A'' := im_H g (im_w u 37 1 y2) o Y) (c'' := 0) (s'' := 0) 6 0 0 hb6 (fun n => rfl) ?_
      cases hb12 : iv_in (y0 - y0 / (40 : Int32) * (40 : Int32)) 40 with
      | false => exact (iv_bn hb12 h).elim
      | true =>
        have h := iv_bt hb12 h
        refine iv_chk (mi' := 113) (pc' := 68) (ls' := [.ref 40, .int y0, .int y1, .int (y0 - y0 / (40 : Int32) * (40 : Int32))]) (st' := [.int ((u 54) ((y0 - y0 / (40 : Int32) * (40 : Int32))).toNatClampNeg)]) (A' := im_H g (im_w u 37 1 y2) o Y) (c' := 0) (s' := 0) 4 hb12 (fun n => rfl) ?_
        refine iv_blk (mi' := 113) (pc' := 105) (ls' := [.ref 40, .int y0, .int y1, .int (y0 - y0 / (40 : Int32) * (40 : Int32))]) (st' := [.int ((u 54) ((y0 - y0 / (40 : Int32) * (40 : Int32))).toNatClampNeg)]) (A' := im_H g (im_w u 37 1 y2) o Y) (c' := 0) (s' := 0) 1 (fun n => rfl) ?_
        exact x113_r37_2_ok (u := (im_w u 37 1 y2)) (y0 := y0) (y1 := y1) (y2 := (y0 - y0 / (40 : Int32) * (40 : Int32))) (y3 := ((u 54) ((y0 - y0 / (40 : Int32) * (40 : Int32))).toNatClampNeg)) h
  | false =>
    have h := iv_bf hb5 h
    refine iv_brf (mi' := 113) (pc' := 53) (ls' := [.ref 40, .int y0, .int y1, .retAddr 0]) (st' := []) (A' := im_H g (im_w u 37 1 y2) o Y) (c' := 0) (s' := 0) (mi'' := 113) (pc'' := 51) (ls'' := [.ref 40, .int y0, .int y1, .retAddr 0]) (st'' := []) (A'' := im_H g (im_w u 37 1 y2) o Y) (c'' := 0) (s'' := 0) 3 0 0 hb5 (fun n => rfl) ?_
    cases h
    exact iv_ret 2 (fun n => rfl)
def x113_r37 (u : im_M) (a : Int32) (b : Int32) : Option (Int32 × im_M) :=
  bif Op.ifCond.holds .lt a then
    (x113_r37_1 u a b (1 : Int32))
  else
    (bif Op.if_icmp.holds .ge a (u 37 22) then
      (x113_r37_1 u a b (1 : Int32))
    else
      (bif Op.if_icmp.holds .ge a ((u 37 22) - (40 : Int32)) then
        (Option.bind (x86 u b (3 : Int32)) (fun q1 =>
          bif Op.ifCond.holds .eq q1.1 then
            (x113_r37_1 q1.2 a b (2 : Int32))
          else
            (x113_r37_1 q1.2 a b (0 : Int32))))
      else
        (x113_r37_1 u a b (1 : Int32))))
set_option maxRecDepth 100000 in
set_option maxHeartbeats 4000000 in
theorem x113_r37_ok {L : Nat} {xs : Nat → Int32} {g u mm : im_M} {o : Nat → Int64} {Y : iv_A} {a b ret : Int32} (h : x113_r37 u a b = some (ret, mm)) : iv_ev (iv_Xs L xs) 113 0 [.ref 40, .int a, .int b, .retAddr 0] [] (im_H g u o Y) 0 0 (.inl (some (.int ret)), im_H g mm o Y) := by
  unfold x113_r37 at h
  cases hb1 : Op.ifCond.holds .lt a with
  | true =>
    have h := iv_bt hb1 h
    refine iv_brt (mi' := 113) (pc' := 24) (ls' := [.ref 40, .int a, .int b, .retAddr 0]) (st' := [.ref 40]) (A' := im_H g u o Y) (c' := 0) (s' := 0) (mi'' := 113) (pc'' := 5) (ls'' := [.ref 40, .int a, .int b, .retAddr 0]) (st'' := [.ref 40]) (A'' := im_H g u o Y) (c'' := 0) (s'' := 0) 3 0 0 hb1 (fun n => rfl) ?_
    refine iv_blk (mi' := 113) (pc' := 41) (ls' := [.ref 40, .int a, .int b, .retAddr 0]) (st' := [.int (1 : Int32), .ref 40]) (A' := im_H g u o Y) (c' := 0) (s' := 0) 2 (fun n => rfl) ?_
    exact x113_r37_1_ok (u := u) (y0 := a) (y1 := b) (y2 := (1 : Int32)) h
  | false =>
    have h := iv_bf hb1 h
    refine iv_brf (mi' := 113) (pc' := 24) (ls' := [.ref 40, .int a, .int b, .retAddr 0]) (st' := [.ref 40]) (A' := im_H g u o Y) (c' := 0) (s' := 0) (mi'' := 113) (pc'' := 5) (ls'' := [.ref 40, .int a, .int b, .retAddr 0]) (st'' := [.ref 40]) (A'' := im_H g u o Y) (c'' := 0) (s'' := 0) 3 0 0 hb1 (fun n => rfl) ?_
    cases hb2 : Op.if_icmp.holds .ge a (u 37 22) with
    | true =>
      have h := iv_bt hb2 h
      refine iv_brt (mi' := 113) (pc' := 24) (ls' := [.ref 40, .int a, .int b, .retAddr 0]) (st' := [.ref 40]) (A' := im_H g u o Y) (c' := 0) (s' := 0) (mi'' := 113) (pc'' := 13) (ls'' := [.ref 40, .int a, .int b, .retAddr 0]) (st'' := [.ref 40]) (A'' := im_H g u o Y) (c'' := 0) (s'' := 0) 4 0 0 hb2 (fun n => rfl) ?_
      refine iv_blk (mi' := 113) (pc' := 41) (ls' := [.ref 40, .int a, .int b, .retAddr 0]) (st' := [.int (1 : Int32), .ref 40]) (A' := im_H g u o Y) (c' := 0) (s' := 0) 2 (fun n => rfl) ?_
      exact x113_r37_1_ok (u := u) (y0 := a) (y1 := b) (y2 := (1 : Int32)) h
    | false =>
      have h := iv_bf hb2 h
      refine iv_brf (mi' := 113) (pc' := 24) (ls' := [.ref 40, .int a, .int b, .retAddr 0]) (st' := [.ref 40]) (A' := im_H g u o Y) (c' := 0) (s' := 0) (mi'' := 113) (pc'' := 13) (ls'' := [.ref 40, .int a, .int b, .retAddr 0]) (st'' := [.ref 40]) (A'' := im_H g u o Y) (c'' := 0) (s'' := 0) 4 0 0 hb2 (fun n => rfl) ?_
      cases hb3 : Op.if_icmp.holds .ge a ((u 37 22) - (40 : Int32)) with
      | true =>
        have h := iv_bt hb3 h
        refine iv_brt (mi' := 113) (pc' := 28) (ls' := [.ref 40, .int a, .int b, .retAddr 0]) (st' := [.ref 40]) (A' := im_H g u o Y) (c' := 0) (s' := 0) (mi'' := 113) (pc'' := 24) (ls'' := [.ref 40, .int a, .int b, .retAddr 0]) (st'' := [.ref 40]) (A'' := im_H g u o Y) (c'' := 0) (s'' := 0) 6 0 0 hb3 (fun n => rfl) ?_
        obtain ⟨v1, g1, hc, h⟩ := iv_bd h
        refine iv_cal (mi' := 113) (pc' := 30) (ls' := [.ref 40, .int a, .int b, .retAddr 0]) (rest := [.ref 40]) (A' := im_H g u o Y) (c' := 0) (s' := 0) (as := [.int b, .int (3 : Int32)]) (v := some (.int v1)) (A'' := im_H g g1 o Y) 3 86 (fun n => rfl) rfl (x86_ok (u := u) (a := b) (b := (3 : Int32)) hc) ?_
        show iv_ev (iv_Xs L xs) 113 33 [.ref 40, .int a, .int b, .retAddr 0] [.int v1, .ref 40] (im_H g g1 o Y) 0 0 _
        cases hb4 : Op.ifCond.holds .eq v1 with
        | true =>
          have h := iv_bt hb4 h
          refine iv_brt (mi' := 113) (pc' := 40) (ls' := [.ref 40, .int a, .int b, .retAddr 0]) (st' := [.ref 40]) (A' := im_H g g1 o Y) (c' := 0) (s' := 0) (mi'' := 113) (pc'' := 36) (ls'' := [.ref 40, .int a, .int b, .retAddr 0]) (st'' := [.ref 40]) (A'' := im_H g g1 o Y) (c'' := 0) (s'' := 0) 1 0 0 hb4 (fun n => rfl) ?_
          refine iv_blk (mi' := 113) (pc' := 41) (ls' := [.ref 40, .int a, .int b, .retAddr 0]) (st' := [.int (2 : Int32), .ref 40]) (A' := im_H g g1 o Y) (c' := 0) (s' := 0) 1 (fun n => rfl) ?_
          exact x113_r37_1_ok (u := g1) (y0 := a) (y1 := b) (y2 := (2 : Int32)) h
        | false =>
          have h := iv_bf hb4 h
          refine iv_brf (mi' := 113) (pc' := 40) (ls' := [.ref 40, .int a, .int b, .retAddr 0]) (st' := [.ref 40]) (A' := im_H g g1 o Y) (c' := 0) (s' := 0) (mi'' := 113) (pc'' := 36) (ls'' := [.ref 40, .int a, .int b, .retAddr 0]) (st'' := [.ref 40]) (A'' := im_H g g1 o Y) (c'' := 0) (s'' := 0) 1 0 0 hb4 (fun n => rfl) ?_
          refine iv_blk (mi' := 113) (pc' := 41) (ls' := [.ref 40, .int a, .int b, .retAddr 0]) (st' := [.int (0 : Int32), .ref 40]) (A' := im_H g g1 o Y) (c' := 0) (s' := 0) 2 (fun n => rfl) ?_
          exact x113_r37_1_ok (u := g1) (y0 := a) (y1 := b) (y2 := (0 : Int32)) h
      | false =>
        have h := iv_bf hb3 h
        refine iv_brf (mi' := 113) (pc' := 28) (ls' := [.ref 40, .int a, .int b, .retAddr 0]) (st' := [.ref 40]) (A' := im_H g u o Y) (c' := 0) (s' := 0) (mi'' := 113) (pc'' := 24) (ls'' := [.ref 40, .int a, .int b, .retAddr 0]) (st'' := [.ref 40]) (A'' := im_H g u o Y) (c'' := 0) (s'' := 0) 6 0 0 hb3 (fun n => rfl) ?_
        refine iv_blk (mi' := 113) (pc' := 41) (ls' := [.ref 40, .int a, .int b, .retAddr 0]) (st' := [.int (1 : Int32), .ref 40]) (A' := im_H g u o Y) (c' := 0) (s' := 0) 2 (fun n => rfl) ?_
        exact x113_r37_1_ok (u := u) (y0 := a) (y1 := b) (y2 := (1 : Int32)) h
