/-! the reference: hear, emit, vote, endTest (printed by wip/gen/lay1.py) -/
def x96_r37_3 (u : im_M) (y0 : Int32) (y1 : Int32) (y2 : Int32) (y3 : Int32) : Option (Int32 × im_M) :=
  some (0, u)
set_option maxRecDepth 100000 in
set_option maxHeartbeats 4000000 in
theorem x96_r37_3_ok {L : Nat} {xs : Nat → Int32} {g u mm : im_M} {o : Nat → Int64} {Y : iv_A} {y0 y1 y2 y3 ret : Int32} (h : x96_r37_3 u y0 y1 y2 y3 = some (ret, mm)) : iv_ev (iv_Xs L xs) 96 139 [.ref 40, .int y0, .int y1, .int y2, .int y3] [] (im_H g u o Y) 0 0 (.inl none, im_H g mm o Y) := by
  unfold x96_r37_3 at h
  cases h
  exact iv_ret 1 (fun n => rfl)
def x96_r37_2 (u : im_M) (y0 : Int32) (y1 : Int32) (y2 : Int32) (y3 : Int32) (y4 : Int32) (y5 : Int32) : Option (Int32 × im_M) :=
  bif iv_in y5 16 then
    bif iv_in y2 16 then
      bif Op.ifCond.holds .ne ((u 51) (y2).toNatClampNeg) then
        (x96_r37_3 (im_w u 50 (y5).toNatClampNeg y4) y0 y1 y2 y3)
      else
        (Option.bind (x94_r37 (im_w (im_w u 50 (y5).toNatClampNeg y4) 37 27 ((u 37 27) + (1 : Int32))) (5 : Int32) y0 y1) (fun q2 =>
          x96_r37_3 q2.2 y0 y1 y2 y3))
    else none
  else none
set_option maxRecDepth 100000 in
set_option maxHeartbeats 4000000 in
theorem x96_r37_2_ok {L : Nat} {xs : Nat → Int32} {g u mm : im_M} {o : Nat → Int64} {Y : iv_A} {y0 y1 y2 y3 y4 y5 ret : Int32} (h : x96_r37_2 u y0 y1 y2 y3 y4 y5 = some (ret, mm)) : iv_ev (iv_Xs L xs) 96 112 [.ref 40, .int y0, .int y1, .int y2, .int y3] [.int y4, .int y5, .ref 53] (im_H g u o Y) 0 0 (.inl none, im_H g mm o Y) := by
  unfold x96_r37_2 at h
  cases hb9 : iv_in y5 16 with
  | false => exact (iv_bn hb9 h).elim
  | true =>
    have h := iv_bt hb9 h
    refine iv_chk (mi' := 96) (pc' := 113) (ls' := [.ref 40, .int y0, .int y1, .int y2, .int y3]) (st' := []) (A' := List.set (im_H g u o Y) 50 (.inl (0, 16, .inl (upd (u 50) (y5).toNatClampNeg y4)))) (c' := 0) (s' := 0) 1 hb9 (fun n => rfl) ?_
    rw [im_a50]
    cases hb10 : iv_in y2 16 with
    | false => exact (iv_bn hb10 h).elim
    | true =>
      have h := iv_bt hb10 h
      refine iv_chk (mi' := 96) (pc' := 119) (ls' := [.ref 40, .int y0, .int y1, .int y2, .int y3]) (st' := [.int ((u 51) (y2).toNatClampNeg)]) (A' := im_H g (im_w u 50 (y5).toNatClampNeg y4) o Y) (c' := 0) (s' := 0) 4 hb10 (fun n => rfl) ?_
      cases hb11 : Op.ifCond.holds .ne ((u 51) (y2).toNatClampNeg) with
      | true =>
        have h := iv_bt hb11 h
        refine iv_brt (mi' := 96) (pc' := 139) (ls' := [.ref 40, .int y0, .int y1, .int y2, .int y3]) (st' := []) (A' := im_H g (im_w u 50 (y5).toNatClampNeg y4) o Y) (c' := 0) (s' := 0) (mi'' := 96) (pc'' := 122) (ls'' := [.ref 40, .int y0, .int y1, .int y2, .int y3]) (st'' := []) (A'' := im_H g (im_w u 50 (y5).toNatClampNeg y4) o Y) (c'' := 0) (s'' := 0) 1 0 0 hb11 (fun n => rfl) ?_
        exact x96_r37_3_ok (u := (im_w u 50 (y5).toNatClampNeg y4)) (y0 := y0) (y1 := y1) (y2 := y2) (y3 := y3) h
      | false =>
        have h := iv_bf hb11 h
        refine iv_brf (mi' := 96) (pc' := 139) (ls' := [.ref 40, .int y0, .int y1, .int y2, .int y3]) (st' := []) (A' := im_H g (im_w u 50 (y5).toNatClampNeg y4) o Y) (c' := 0) (s' := 0) (mi'' := 96) (pc'' := 122) (ls'' := [.ref 40, .int y0, .int y1, .int y2, .int y3]) (st'' := []) (A'' := im_H g (im_w u 50 (y5).toNatClampNeg y4) o Y) (c'' := 0) (s'' := 0) 1 0 0 hb11 (fun n => rfl) ?_
        refine iv_blk (mi' := 96) (pc' := 132) (ls' := [.ref 40, .int y0, .int y1, .int y2, .int y3]) (st' := []) (A' := List.set (im_H g (im_w u 50 (y5).toNatClampNeg y4) o Y) 37 (.inr (6, List.set [.int ((im_w u 50 (y5).toNatClampNeg y4) 37 0), .int ((im_w u 50 (y5).toNatClampNeg y4) 37 1), .int ((im_w u 50 (y5).toNatClampNeg y4) 37 2), .ref 41, .ref 42, .ref 43, .ref 44, .ref 45, .ref 46, .ref 47, .ref 48, .ref 49, .ref 50, .ref 51, .ref 52, .ref 53, .ref 54, .ref 55, .ref 56, .int ((im_w u 50 (y5).toNatClampNeg y4) 37 19), .int ((im_w u 50 (y5).toNatClampNeg y4) 37 20), .int ((im_w u 50 (y5).toNatClampNeg y4) 37 21), .int ((im_w u 50 (y5).toNatClampNeg y4) 37 22), .ref 57, .ref 58, .ref 59, .ref 60, .int ((im_w u 50 (y5).toNatClampNeg y4) 37 27), .int ((im_w u 50 (y5).toNatClampNeg y4) 37 28), .int ((im_w u 50 (y5).toNatClampNeg y4) 37 29)] 27 (.int ((u 37 27) + (1 : Int32)))))) (c' := 0) (s' := 0) 6 (fun n => rfl) ?_
        rw [im_f37_27]
        obtain ⟨v2, g2, hc, h⟩ := iv_bd h
        refine iv_cal (mi' := 96) (pc' := 136) (ls' := [.ref 40, .int y0, .int y1, .int y2, .int y3]) (rest := []) (A' := im_H g (im_w (im_w u 50 (y5).toNatClampNeg y4) 37 27 ((u 37 27) + (1 : Int32))) o Y) (c' := 0) (s' := 0) (as := [.ref 40, .int (5 : Int32), .int y0, .int y1]) (v := none) (A'' := im_H g g2 o Y) 5 94 (fun n => rfl) rfl (x94_r37_ok (u := (im_w (im_w u 50 (y5).toNatClampNeg y4) 37 27 ((u 37 27) + (1 : Int32)))) (a := (5 : Int32)) (b := y0) (c := y1) hc) ?_
        show iv_ev (iv_Xs L xs) 96 139 [.ref 40, .int y0, .int y1, .int y2, .int y3] [] (im_H g g2 o Y) 0 0 _
        exact x96_r37_3_ok (u := g2) (y0 := y0) (y1 := y1) (y2 := y2) (y3 := y3) h
def x96_r37_1 (u : im_M) (y0 : Int32) (y1 : Int32) (y2 : Int32) (y3 : Int32) (y4 : Int32) (y5 : Int32) : Option (Int32 × im_M) :=
  bif iv_in y5 16 then
    bif Op.if_icmp.holds .ne (u 37 2) (1 : Int32) then
      (bif iv_in y2 16 then
        bif Op.ifCond.holds .eq ((upd (u 51) (y5).toNatClampNeg (vp_nar .boolean y4)) (y2).toNatClampNeg) then
          (x96_r37_2 (im_w u 51 (y5).toNatClampNeg (vp_nar .boolean y4)) y0 y1 y2 y3 (7 : Int32) y2)
        else
          (x96_r37_2 (im_w u 51 (y5).toNatClampNeg (vp_nar .boolean y4)) y0 y1 y2 y3 (((u 46) (y2).toNatClampNeg) &&& (7 : Int32)) y2)
      else none)
    else
      (x96_r37_2 (im_w u 51 (y5).toNatClampNeg (vp_nar .boolean y4)) y0 y1 y2 y3 (0 : Int32) y2)
  else none
set_option maxRecDepth 100000 in
set_option maxHeartbeats 4000000 in
theorem x96_r37_1_ok {L : Nat} {xs : Nat → Int32} {g u mm : im_M} {o : Nat → Int64} {Y : iv_A} {y0 y1 y2 y3 y4 y5 ret : Int32} (h : x96_r37_1 u y0 y1 y2 y3 y4 y5 = some (ret, mm)) : iv_ev (iv_Xs L xs) 96 71 [.ref 40, .int y0, .int y1, .int y2, .int y3] [.int y4, .int y5, .ref 54] (im_H g u o Y) 0 0 (.inl none, im_H g mm o Y) := by
  unfold x96_r37_1 at h
  cases hb5 : iv_in y5 16 with
  | false => exact (iv_bn hb5 h).elim
  | true =>
    have h := iv_bt hb5 h
    refine iv_chk (mi' := 96) (pc' := 72) (ls' := [.ref 40, .int y0, .int y1, .int y2, .int y3]) (st' := []) (A' := List.set (im_H g u o Y) 51 (.inl (1, 16, .inl (upd (u 51) (y5).toNatClampNeg (vp_nar .boolean y4))))) (c' := 0) (s' := 0) 1 hb5 (fun n => rfl) ?_
    rw [im_a51]
    cases hb6 : Op.if_icmp.holds .ne (u 37 2) (1 : Int32) with
    | true =>
      have h := iv_bt hb6 h
      refine iv_brt (mi' := 96) (pc' := 89) (ls' := [.ref 40, .int y0, .int y1, .int y2, .int y3]) (st' := [.int y2, .ref 53]) (A' := im_H g (im_w u 51 (y5).toNatClampNeg (vp_nar .boolean y4)) o Y) (c' := 0) (s' := 0) (mi'' := 96) (pc'' := 85) (ls'' := [.ref 40, .int y0, .int y1, .int y2, .int y3]) (st'' := [.int y2, .ref 53]) (A'' := im_H g (im_w u 51 (y5).toNatClampNeg (vp_nar .boolean y4)) o Y) (c'' := 0) (s'' := 0) 7 0 0 hb6 (fun n => rfl) ?_
      cases hb7 : iv_in y2 16 with
      | false => exact (iv_bn hb7 h).elim
      | true =>
        have h := iv_bt hb7 h
        refine iv_chk (mi' := 96) (pc' := 95) (ls' := [.ref 40, .int y0, .int y1, .int y2, .int y3]) (st' := [.int ((upd (u 51) (y5).toNatClampNeg (vp_nar .boolean y4)) (y2).toNatClampNeg), .int y2, .ref 53]) (A' := im_H g (im_w u 51 (y5).toNatClampNeg (vp_nar .boolean y4)) o Y) (c' := 0) (s' := 0) 4 hb7 (fun n => rfl) ?_
        cases hb8 : Op.ifCond.holds .eq ((upd (u 51) (y5).toNatClampNeg (vp_nar .boolean y4)) (y2).toNatClampNeg) with
        | true =>
          have h := iv_bt hb8 h
          refine iv_brt (mi' := 96) (pc' := 110) (ls' := [.ref 40, .int y0, .int y1, .int y2, .int y3]) (st' := [.int y2, .ref 53]) (A' := im_H g (im_w u 51 (y5).toNatClampNeg (vp_nar .boolean y4)) o Y) (c' := 0) (s' := 0) (mi'' := 96) (pc'' := 98) (ls'' := [.ref 40, .int y0, .int y1, .int y2, .int y3]) (st'' := [.int y2, .ref 53]) (A'' := im_H g (im_w u 51 (y5).toNatClampNeg (vp_nar .boolean y4)) o Y) (c'' := 0) (s'' := 0) 1 0 0 hb8 (fun n => rfl) ?_
          refine iv_blk (mi' := 96) (pc' := 112) (ls' := [.ref 40, .int y0, .int y1, .int y2, .int y3]) (st' := [.int (7 : Int32), .int y2, .ref 53]) (A' := im_H g (im_w u 51 (y5).toNatClampNeg (vp_nar .boolean y4)) o Y) (c' := 0) (s' := 0) 1 (fun n => rfl) ?_
          exact x96_r37_2_ok (u := (im_w u 51 (y5).toNatClampNeg (vp_nar .boolean y4))) (y0 := y0) (y1 := y1) (y2 := y2) (y3 := y3) (y4 := (7 : Int32)) (y5 := y2) h
        | false =>
          have h := iv_bf hb8 h
          refine iv_brf (mi' := 96) (pc' := 110) (ls' := [.ref 40, .int y0, .int y1, .int y2, .int y3]) (st' := [.int y2, .ref 53]) (A' := im_H g (im_w u 51 (y5).toNatClampNeg (vp_nar .boolean y4)) o Y) (c' := 0) (s' := 0) (mi'' := 96) (pc'' := 98) (ls'' := [.ref 40, .int y0, .int y1, .int y2, .int y3]) (st'' := [.int y2, .ref 53]) (A'' := im_H g (im_w u 51 (y5).toNatClampNeg (vp_nar .boolean y4)) o Y) (c'' := 0) (s'' := 0) 1 0 0 hb8 (fun n => rfl) ?_
          refine iv_chk (mi' := 96) (pc' := 104) (ls' := [.ref 40, .int y0, .int y1, .int y2, .int y3]) (st' := [.int ((u 46) (y2).toNatClampNeg), .int y2, .ref 53]) (A' := im_H g (im_w u 51 (y5).toNatClampNeg (vp_nar .boolean y4)) o Y) (c' := 0) (s' := 0) 4 hb7 (fun n => rfl) ?_
          refine iv_blk (mi' := 96) (pc' := 112) (ls' := [.ref 40, .int y0, .int y1, .int y2, .int y3]) (st' := [.int (((u 46) (y2).toNatClampNeg) &&& (7 : Int32)), .int y2, .ref 53]) (A' := im_H g (im_w u 51 (y5).toNatClampNeg (vp_nar .boolean y4)) o Y) (c' := 0) (s' := 0) 3 (fun n => rfl) ?_
          exact x96_r37_2_ok (u := (im_w u 51 (y5).toNatClampNeg (vp_nar .boolean y4))) (y0 := y0) (y1 := y1) (y2 := y2) (y3 := y3) (y4 := (((u 46) (y2).toNatClampNeg) &&& (7 : Int32))) (y5 := y2) h
    | false =>
      have h := iv_bf hb6 h
      refine iv_brf (mi' := 96) (pc' := 89) (ls' := [.ref 40, .int y0, .int y1, .int y2, .int y3]) (st' := [.int y2, .ref 53]) (A' := im_H g (im_w u 51 (y5).toNatClampNeg (vp_nar .boolean y4)) o Y) (c' := 0) (s' := 0) (mi'' := 96) (pc'' := 85) (ls'' := [.ref 40, .int y0, .int y1, .int y2, .int y3]) (st'' := [.int y2, .ref 53]) (A'' := im_H g (im_w u 51 (y5).toNatClampNeg (vp_nar .boolean y4)) o Y) (c'' := 0) (s'' := 0) 7 0 0 hb6 (fun n => rfl) ?_
      refine iv_blk (mi' := 96) (pc' := 112) (ls' := [.ref 40, .int y0, .int y1, .int y2, .int y3]) (st' := [.int (0 : Int32), .int y2, .ref 53]) (A' := im_H g (im_w u 51 (y5).toNatClampNeg (vp_nar .boolean y4)) o Y) (c' := 0) (s' := 0) 2 (fun n => rfl) ?_
      exact x96_r37_2_ok (u := (im_w u 51 (y5).toNatClampNeg (vp_nar .boolean y4))) (y0 := y0) (y1 := y1) (y2 := y2) (y3 := y3) (y4 := (0 : Int32)) (y5 := y2) h
def x96_r37 (u : im_M) (a : Int32) (b : Int32) : Option (Int32 × im_M) :=
  bif iv_in (((4 : Int32) * a) + b) 16 then
    Option.bind (x97 u ((u 45) ((((4 : Int32) * a) + b)).toNatClampNeg) ((u 46) ((((4 : Int32) * a) + b)).toNatClampNeg)) (fun q1 =>
      bif Op.if_icmp.holds .eq (q1.2 37 2) (1 : Int32) then
        (x96_r37_1 q1.2 a b (((4 : Int32) * a) + b) q1.1 (1 : Int32) (((4 : Int32) * a) + b))
      else
        (bif Op.if_icmp.holds .ne ((q1.2 45) ((((4 : Int32) * a) + b)).toNatClampNeg) (((q1.2 37 2) - (1 : Int32)) &&& (255 : Int32)) then
          (x96_r37_1 q1.2 a b (((4 : Int32) * a) + b) q1.1 (0 : Int32) (((4 : Int32) * a) + b))
        else
          (bif Op.if_icmp.holds .ne ((q1.2 47) ((((4 : Int32) * a) + b)).toNatClampNeg) q1.1 then
            (x96_r37_1 q1.2 a b (((4 : Int32) * a) + b) q1.1 (0 : Int32) (((4 : Int32) * a) + b))
          else
            (x96_r37_1 q1.2 a b (((4 : Int32) * a) + b) q1.1 (1 : Int32) (((4 : Int32) * a) + b)))))
  else none
set_option maxRecDepth 100000 in
set_option maxHeartbeats 4000000 in
theorem x96_r37_ok {L : Nat} {xs : Nat → Int32} {g u mm : im_M} {o : Nat → Int64} {Y : iv_A} {a b ret : Int32} (h : x96_r37 u a b = some (ret, mm)) : iv_ev (iv_Xs L xs) 96 0 [.ref 40, .int a, .int b, .retAddr 0, .retAddr 0] [] (im_H g u o Y) 0 0 (.inl none, im_H g mm o Y) := by
  unfold x96_r37 at h
  cases hb1 : iv_in (((4 : Int32) * a) + b) 16 with
  | false => exact (iv_bn hb1 h).elim
  | true =>
    have h := iv_bt hb1 h
    refine iv_chk (mi' := 96) (pc' := 12) (ls' := [.ref 40, .int a, .int b, .int (((4 : Int32) * a) + b), .retAddr 0]) (st' := [.int ((u 45) ((((4 : Int32) * a) + b)).toNatClampNeg)]) (A' := im_H g u o Y) (c' := 0) (s' := 0) 10 hb1 (fun n => rfl) ?_
    refine iv_chk (mi' := 96) (pc' := 18) (ls' := [.ref 40, .int a, .int b, .int (((4 : Int32) * a) + b), .retAddr 0]) (st' := [.int ((u 46) ((((4 : Int32) * a) + b)).toNatClampNeg), .int ((u 45) ((((4 : Int32) * a) + b)).toNatClampNeg)]) (A' := im_H g u o Y) (c' := 0) (s' := 0) 4 hb1 (fun n => rfl) ?_
    obtain ⟨v1, g1, hc, h⟩ := iv_bd h
    refine iv_cal (mi' := 96) (pc' := 18) (ls' := [.ref 40, .int a, .int b, .int (((4 : Int32) * a) + b), .retAddr 0]) (rest := []) (A' := im_H g u o Y) (c' := 0) (s' := 0) (as := [.int ((u 45) ((((4 : Int32) * a) + b)).toNatClampNeg), .int ((u 46) ((((4 : Int32) * a) + b)).toNatClampNeg)]) (v := some (.int v1)) (A'' := im_H g g1 o Y) 1 97 (fun n => rfl) rfl (x97_ok (u := u) (a := ((u 45) ((((4 : Int32) * a) + b)).toNatClampNeg)) (b := ((u 46) ((((4 : Int32) * a) + b)).toNatClampNeg)) hc) ?_
    show iv_ev (iv_Xs L xs) 96 21 [.ref 40, .int a, .int b, .int (((4 : Int32) * a) + b), .retAddr 0] [.int v1] (im_H g g1 o Y) 0 0 _
    cases hb2 : Op.if_icmp.holds .eq (g1 37 2) (1 : Int32) with
    | true =>
      have h := iv_bt hb2 h
      refine iv_brt (mi' := 96) (pc' := 66) (ls' := [.ref 40, .int a, .int b, .int (((4 : Int32) * a) + b), .int v1]) (st' := [.int (((4 : Int32) * a) + b), .ref 54]) (A' := im_H g g1 o Y) (c' := 0) (s' := 0) (mi'' := 96) (pc'' := 36) (ls'' := [.ref 40, .int a, .int b, .int (((4 : Int32) * a) + b), .int v1]) (st'' := [.int (((4 : Int32) * a) + b), .ref 54]) (A'' := im_H g g1 o Y) (c'' := 0) (s'' := 0) 8 0 0 hb2 (fun n => rfl) ?_
      refine iv_blk (mi' := 96) (pc' := 71) (ls' := [.ref 40, .int a, .int b, .int (((4 : Int32) * a) + b), .int v1]) (st' := [.int (1 : Int32), .int (((4 : Int32) * a) + b), .ref 54]) (A' := im_H g g1 o Y) (c' := 0) (s' := 0) 2 (fun n => rfl) ?_
      exact x96_r37_1_ok (u := g1) (y0 := a) (y1 := b) (y2 := (((4 : Int32) * a) + b)) (y3 := v1) (y4 := (1 : Int32)) (y5 := (((4 : Int32) * a) + b)) h
    | false =>
      have h := iv_bf hb2 h
      refine iv_brf (mi' := 96) (pc' := 66) (ls' := [.ref 40, .int a, .int b, .int (((4 : Int32) * a) + b), .int v1]) (st' := [.int (((4 : Int32) * a) + b), .ref 54]) (A' := im_H g g1 o Y) (c' := 0) (s' := 0) (mi'' := 96) (pc'' := 36) (ls'' := [.ref 40, .int a, .int b, .int (((4 : Int32) * a) + b), .int v1]) (st'' := [.int (((4 : Int32) * a) + b), .ref 54]) (A'' := im_H g g1 o Y) (c'' := 0) (s'' := 0) 8 0 0 hb2 (fun n => rfl) ?_
      refine iv_chk (mi' := 96) (pc' := 42) (ls' := [.ref 40, .int a, .int b, .int (((4 : Int32) * a) + b), .int v1]) (st' := [.int ((g1 45) ((((4 : Int32) * a) + b)).toNatClampNeg), .int (((4 : Int32) * a) + b), .ref 54]) (A' := im_H g g1 o Y) (c' := 0) (s' := 0) 4 hb1 (fun n => rfl) ?_
      cases hb3 : Op.if_icmp.holds .ne ((g1 45) ((((4 : Int32) * a) + b)).toNatClampNeg) (((g1 37 2) - (1 : Int32)) &&& (255 : Int32)) with
      | true =>
        have h := iv_bt hb3 h
        refine iv_brt (mi' := 96) (pc' := 70) (ls' := [.ref 40, .int a, .int b, .int (((4 : Int32) * a) + b), .int v1]) (st' := [.int (((4 : Int32) * a) + b), .ref 54]) (A' := im_H g g1 o Y) (c' := 0) (s' := 0) (mi'' := 96) (pc'' := 55) (ls'' := [.ref 40, .int a, .int b, .int (((4 : Int32) * a) + b), .int v1]) (st'' := [.int (((4 : Int32) * a) + b), .ref 54]) (A'' := im_H g g1 o Y) (c'' := 0) (s'' := 0) 7 0 0 hb3 (fun n => rfl) ?_
        refine iv_blk (mi' := 96) (pc' := 71) (ls' := [.ref 40, .int a, .int b, .int (((4 : Int32) * a) + b), .int v1]) (st' := [.int (0 : Int32), .int (((4 : Int32) * a) + b), .ref 54]) (A' := im_H g g1 o Y) (c' := 0) (s' := 0) 1 (fun n => rfl) ?_
        exact x96_r37_1_ok (u := g1) (y0 := a) (y1 := b) (y2 := (((4 : Int32) * a) + b)) (y3 := v1) (y4 := (0 : Int32)) (y5 := (((4 : Int32) * a) + b)) h
      | false =>
        have h := iv_bf hb3 h
        refine iv_brf (mi' := 96) (pc' := 70) (ls' := [.ref 40, .int a, .int b, .int (((4 : Int32) * a) + b), .int v1]) (st' := [.int (((4 : Int32) * a) + b), .ref 54]) (A' := im_H g g1 o Y) (c' := 0) (s' := 0) (mi'' := 96) (pc'' := 55) (ls'' := [.ref 40, .int a, .int b, .int (((4 : Int32) * a) + b), .int v1]) (st'' := [.int (((4 : Int32) * a) + b), .ref 54]) (A'' := im_H g g1 o Y) (c'' := 0) (s'' := 0) 7 0 0 hb3 (fun n => rfl) ?_
        refine iv_chk (mi' := 96) (pc' := 61) (ls' := [.ref 40, .int a, .int b, .int (((4 : Int32) * a) + b), .int v1]) (st' := [.int ((g1 47) ((((4 : Int32) * a) + b)).toNatClampNeg), .int (((4 : Int32) * a) + b), .ref 54]) (A' := im_H g g1 o Y) (c' := 0) (s' := 0) 4 hb1 (fun n => rfl) ?_
        cases hb4 : Op.if_icmp.holds .ne ((g1 47) ((((4 : Int32) * a) + b)).toNatClampNeg) v1 with
        | true =>
          have h := iv_bt hb4 h
          refine iv_brt (mi' := 96) (pc' := 70) (ls' := [.ref 40, .int a, .int b, .int (((4 : Int32) * a) + b), .int v1]) (st' := [.int (((4 : Int32) * a) + b), .ref 54]) (A' := im_H g g1 o Y) (c' := 0) (s' := 0) (mi'' := 96) (pc'' := 66) (ls'' := [.ref 40, .int a, .int b, .int (((4 : Int32) * a) + b), .int v1]) (st'' := [.int (((4 : Int32) * a) + b), .ref 54]) (A'' := im_H g g1 o Y) (c'' := 0) (s'' := 0) 2 0 0 hb4 (fun n => rfl) ?_
          refine iv_blk (mi' := 96) (pc' := 71) (ls' := [.ref 40, .int a, .int b, .int (((4 : Int32) * a) + b), .int v1]) (st' := [.int (0 : Int32), .int (((4 : Int32) * a) + b), .ref 54]) (A' := im_H g g1 o Y) (c' := 0) (s' := 0) 1 (fun n => rfl) ?_
          exact x96_r37_1_ok (u := g1) (y0 := a) (y1 := b) (y2 := (((4 : Int32) * a) + b)) (y3 := v1) (y4 := (0 : Int32)) (y5 := (((4 : Int32) * a) + b)) h
        | false =>
          have h := iv_bf hb4 h
          refine iv_brf (mi' := 96) (pc' := 70) (ls' := [.ref 40, .int a, .int b, .int (((4 : Int32) * a) + b), .int v1]) (st' := [.int (((4 : Int32) * a) + b), .ref 54]) (A' := im_H g g1 o Y) (c' := 0) (s' := 0) (mi'' := 96) (pc'' := 66) (ls'' := [.ref 40, .int a, .int b, .int (((4 : Int32) * a) + b), .int v1]) (st'' := [.int (((4 : Int32) * a) + b), .ref 54]) (A'' := im_H g g1 o Y) (c'' := 0) (s'' := 0) 2 0 0 hb4 (fun n => rfl) ?_
          refine iv_blk (mi' := 96) (pc' := 71) (ls' := [.ref 40, .int a, .int b, .int (((4 : Int32) * a) + b), .int v1]) (st' := [.int (1 : Int32), .int (((4 : Int32) * a) + b), .ref 54]) (A' := im_H g g1 o Y) (c' := 0) (s' := 0) 2 (fun n => rfl) ?_
          exact x96_r37_1_ok (u := g1) (y0 := a) (y1 := b) (y2 := (((4 : Int32) * a) + b)) (y3 := v1) (y4 := (1 : Int32)) (y5 := (((4 : Int32) * a) + b)) h
def x102_r37_3 (u : im_M) (y0 : Int32) (y1 : Int32) (y2 : Int32) (y3 : Int32) (y4 : Int32) (y5 : Int32) (y6 : Int32) : Option (Int32 × im_M) :=
  bif iv_in y6 16 then
    bif iv_in y3 16 then
      some (0, (im_w (im_w u 47 (y6).toNatClampNeg y5) 48 (y3).toNatClampNeg (0 : Int32)))
    else none
  else none
set_option maxRecDepth 100000 in
set_option maxHeartbeats 4000000 in
theorem x102_r37_3_ok {L : Nat} {xs : Nat → Int32} {g u mm : im_M} {o : Nat → Int64} {Y : iv_A} {y0 y1 y2 y3 y4 y5 y6 ret : Int32} (h : x102_r37_3 u y0 y1 y2 y3 y4 y5 y6 = some (ret, mm)) : iv_ev (iv_Xs L xs) 102 124 [.ref 40, .int y0, .int y1, .int y2, .int y3, .int y4] [.int y5, .int y6, .ref 50] (im_H g u o Y) 0 0 (.inl none, im_H g mm o Y) := by
  unfold x102_r37_3 at h
  cases hb9 : iv_in y6 16 with
  | false => exact (iv_bn hb9 h).elim
  | true =>
    have h := iv_bt hb9 h
    refine iv_chk (mi' := 102) (pc' := 125) (ls' := [.ref 40, .int y0, .int y1, .int y2, .int y3, .int y4]) (st' := []) (A' := List.set (im_H g u o Y) 47 (.inl (0, 16, .inl (upd (u 47) (y6).toNatClampNeg y5)))) (c' := 0) (s' := 0) 1 hb9 (fun n => rfl) ?_
    rw [im_a47]
    cases hb10 : iv_in y3 16 with
    | false => exact (iv_bn hb10 h).elim
    | true =>
      have h := iv_bt hb10 h
      refine iv_chk (mi' := 102) (pc' := 133) (ls' := [.ref 40, .int y0, .int y1, .int y2, .int y3, .int y4]) (st' := []) (A' := List.set (im_H g (im_w u 47 (y6).toNatClampNeg y5) o Y) 48 (.inl (1, 16, .inl (upd ((im_w u 47 (y6).toNatClampNeg y5) 48) (y3).toNatClampNeg (0 : Int32))))) (c' := 0) (s' := 0) 5 hb10 (fun n => rfl) ?_
      rw [im_a48]
      cases h
      exact iv_ret 1 (fun n => rfl)
def x102_r37_2 (u : im_M) (y0 : Int32) (y1 : Int32) (y2 : Int32) (y3 : Int32) (y4 : Int32) (y5 : Int32) (y6 : Int32) : Option (Int32 × im_M) :=
  bif iv_in y6 16 then
    bif iv_in y3 16 then
      bif Op.ifCond.holds .eq ((u 48) (y3).toNatClampNeg) then
        (Option.bind (x97 (im_w u 46 (y6).toNatClampNeg y5) y4 y2) (fun q1 =>
          x102_r37_3 q1.2 y0 y1 y2 y3 y4 q1.1 y3))
      else
        (x102_r37_3 (im_w u 46 (y6).toNatClampNeg y5) y0 y1 y2 y3 y4 ((((u 49) (y3).toNatClampNeg) >>> ((16 : Int32) &&& 31)) &&& (255 : Int32)) y3)
    else none
  else none
set_option maxRecDepth 100000 in
set_option maxHeartbeats 4000000 in
theorem x102_r37_2_ok {L : Nat} {xs : Nat → Int32} {g u mm : im_M} {o : Nat → Int64} {Y : iv_A} {y0 y1 y2 y3 y4 y5 y6 ret : Int32} (h : x102_r37_2 u y0 y1 y2 y3 y4 y5 y6 = some (ret, mm)) : iv_ev (iv_Xs L xs) 102 84 [.ref 40, .int y0, .int y1, .int y2, .int y3, .int y4] [.int y5, .int y6, .ref 49] (im_H g u o Y) 0 0 (.inl none, im_H g mm o Y) := by
  unfold x102_r37_2 at h
  cases hb6 : iv_in y6 16 with
  | false => exact (iv_bn hb6 h).elim
  | true =>
    have h := iv_bt hb6 h
    refine iv_chk (mi' := 102) (pc' := 85) (ls' := [.ref 40, .int y0, .int y1, .int y2, .int y3, .int y4]) (st' := []) (A' := List.set (im_H g u o Y) 46 (.inl (0, 16, .inl (upd (u 46) (y6).toNatClampNeg y5)))) (c' := 0) (s' := 0) 1 hb6 (fun n => rfl) ?_
    rw [im_a46]
    cases hb7 : iv_in y3 16 with
    | false => exact (iv_bn hb7 h).elim
    | true =>
      have h := iv_bt hb7 h
      refine iv_chk (mi' := 102) (pc' := 98) (ls' := [.ref 40, .int y0, .int y1, .int y2, .int y3, .int y4]) (st' := [.int ((u 48) (y3).toNatClampNeg), .int y3, .ref 50]) (A' := im_H g (im_w u 46 (y6).toNatClampNeg y5) o Y) (c' := 0) (s' := 0) 7 hb7 (fun n => rfl) ?_
      cases hb8 : Op.ifCond.holds .eq ((u 48) (y3).toNatClampNeg) with
      | true =>
        have h := iv_bt hb8 h
        refine iv_brt (mi' := 102) (pc' := 118) (ls' := [.ref 40, .int y0, .int y1, .int y2, .int y3, .int y4]) (st' := [.int y3, .ref 50]) (A' := im_H g (im_w u 46 (y6).toNatClampNeg y5) o Y) (c' := 0) (s' := 0) (mi'' := 102) (pc'' := 101) (ls'' := [.ref 40, .int y0, .int y1, .int y2, .int y3, .int y4]) (st'' := [.int y3, .ref 50]) (A'' := im_H g (im_w u 46 (y6).toNatClampNeg y5) o Y) (c'' := 0) (s'' := 0) 1 0 0 hb8 (fun n => rfl) ?_
        obtain ⟨v1, g1, hc, h⟩ := iv_bd h
        refine iv_cal (mi' := 102) (pc' := 121) (ls' := [.ref 40, .int y0, .int y1, .int y2, .int y3, .int y4]) (rest := [.int y3, .ref 50]) (A' := im_H g (im_w u 46 (y6).toNatClampNeg y5) o Y) (c' := 0) (s' := 0) (as := [.int y4, .int y2]) (v := some (.int v1)) (A'' := im_H g g1 o Y) 3 97 (fun n => rfl) rfl (x97_ok (u := (im_w u 46 (y6).toNatClampNeg y5)) (a := y4) (b := y2) hc) ?_
        show iv_ev (iv_Xs L xs) 102 124 [.ref 40, .int y0, .int y1, .int y2, .int y3, .int y4] [.int v1, .int y3, .ref 50] (im_H g g1 o Y) 0 0 _
        exact x102_r37_3_ok (u := g1) (y0 := y0) (y1 := y1) (y2 := y2) (y3 := y3) (y4 := y4) (y5 := v1) (y6 := y3) h
      | false =>
        have h := iv_bf hb8 h
        refine iv_brf (mi' := 102) (pc' := 118) (ls' := [.ref 40, .int y0, .int y1, .int y2, .int y3, .int y4]) (st' := [.int y3, .ref 50]) (A' := im_H g (im_w u 46 (y6).toNatClampNeg y5) o Y) (c' := 0) (s' := 0) (mi'' := 102) (pc'' := 101) (ls'' := [.ref 40, .int y0, .int y1, .int y2, .int y3, .int y4]) (st'' := [.int y3, .ref 50]) (A'' := im_H g (im_w u 46 (y6).toNatClampNeg y5) o Y) (c'' := 0) (s'' := 0) 1 0 0 hb8 (fun n => rfl) ?_
        refine iv_chk (mi' := 102) (pc' := 108) (ls' := [.ref 40, .int y0, .int y1, .int y2, .int y3, .int y4]) (st' := [.int ((u 49) (y3).toNatClampNeg), .int y3, .ref 50]) (A' := im_H g (im_w u 46 (y6).toNatClampNeg y5) o Y) (c' := 0) (s' := 0) 4 hb7 (fun n => rfl) ?_
        refine iv_blk (mi' := 102) (pc' := 124) (ls' := [.ref 40, .int y0, .int y1, .int y2, .int y3, .int y4]) (st' := [.int ((((u 49) (y3).toNatClampNeg) >>> ((16 : Int32) &&& 31)) &&& (255 : Int32)), .int y3, .ref 50]) (A' := im_H g (im_w u 46 (y6).toNatClampNeg y5) o Y) (c' := 0) (s' := 0) 5 (fun n => rfl) ?_
        exact x102_r37_3_ok (u := (im_w u 46 (y6).toNatClampNeg y5)) (y0 := y0) (y1 := y1) (y2 := y2) (y3 := y3) (y4 := y4) (y5 := ((((u 49) (y3).toNatClampNeg) >>> ((16 : Int32) &&& 31)) &&& (255 : Int32))) (y6 := y3) h
def x102_r37_1 (u : im_M) (y0 : Int32) (y1 : Int32) (y2 : Int32) (y3 : Int32) (y4 : Int32) (y5 : Int32) (y6 : Int32) : Option (Int32 × im_M) :=
  bif iv_in y6 16 then
    bif iv_in y3 16 then
      bif Op.ifCond.holds .eq ((u 48) (y3).toNatClampNeg) then
        (x102_r37_2 (im_w u 45 (y6).toNatClampNeg y5) y0 y1 y2 y3 y4 y2 y3)
      else
        (x102_r37_2 (im_w u 45 (y6).toNatClampNeg y5) y0 y1 y2 y3 y4 ((((u 49) (y3).toNatClampNeg) >>> ((8 : Int32) &&& 31)) &&& (255 : Int32)) y3)
    else none
  else none
set_option maxRecDepth 100000 in
set_option maxHeartbeats 4000000 in
theorem x102_r37_1_ok {L : Nat} {xs : Nat → Int32} {g u mm : im_M} {o : Nat → Int64} {Y : iv_A} {y0 y1 y2 y3 y4 y5 y6 ret : Int32} (h : x102_r37_1 u y0 y1 y2 y3 y4 y5 y6 = some (ret, mm)) : iv_ev (iv_Xs L xs) 102 49 [.ref 40, .int y0, .int y1, .int y2, .int y3, .int y4] [.int y5, .int y6, .ref 48] (im_H g u o Y) 0 0 (.inl none, im_H g mm o Y) := by
  unfold x102_r37_1 at h
  cases hb3 : iv_in y6 16 with
  | false => exact (iv_bn hb3 h).elim
  | true =>
    have h := iv_bt hb3 h
    refine iv_chk (mi' := 102) (pc' := 50) (ls' := [.ref 40, .int y0, .int y1, .int y2, .int y3, .int y4]) (st' := []) (A' := List.set (im_H g u o Y) 45 (.inl (0, 16, .inl (upd (u 45) (y6).toNatClampNeg y5)))) (c' := 0) (s' := 0) 1 hb3 (fun n => rfl) ?_
    rw [im_a45]
    cases hb4 : iv_in y3 16 with
    | false => exact (iv_bn hb4 h).elim
    | true =>
      have h := iv_bt hb4 h
      refine iv_chk (mi' := 102) (pc' := 63) (ls' := [.ref 40, .int y0, .int y1, .int y2, .int y3, .int y4]) (st' := [.int ((u 48) (y3).toNatClampNeg), .int y3, .ref 49]) (A' := im_H g (im_w u 45 (y6).toNatClampNeg y5) o Y) (c' := 0) (s' := 0) 7 hb4 (fun n => rfl) ?_
      cases hb5 : Op.ifCond.holds .eq ((u 48) (y3).toNatClampNeg) with
      | true =>
        have h := iv_bt hb5 h
        refine iv_brt (mi' := 102) (pc' := 83) (ls' := [.ref 40, .int y0, .int y1, .int y2, .int y3, .int y4]) (st' := [.int y3, .ref 49]) (A' := im_H g (im_w u 45 (y6).toNatClampNeg y5) o Y) (c' := 0) (s' := 0) (mi'' := 102) (pc'' := 66) (ls'' := [.ref 40, .int y0, .int y1, .int y2, .int y3, .int y4]) (st'' := [.int y3, .ref 49]) (A'' := im_H g (im_w u 45 (y6).toNatClampNeg y5) o Y) (c'' := 0) (s'' := 0) 1 0 0 hb5 (fun n => rfl) ?_
        refine iv_blk (mi' := 102) (pc' := 84) (ls' := [.ref 40, .int y0, .int y1, .int y2, .int y3, .int y4]) (st' := [.int y2, .int y3, .ref 49]) (A' := im_H g (im_w u 45 (y6).toNatClampNeg y5) o Y) (c' := 0) (s' := 0) 1 (fun n => rfl) ?_
        exact x102_r37_2_ok (u := (im_w u 45 (y6).toNatClampNeg y5)) (y0 := y0) (y1 := y1) (y2 := y2) (y3 := y3) (y4 := y4) (y5 := y2) (y6 := y3) h
      | false =>
        have h := iv_bf hb5 h
        refine iv_brf (mi' := 102) (pc' := 83) (ls' := [.ref 40, .int y0, .int y1, .int y2, .int y3, .int y4]) (st' := [.int y3, .ref 49]) (A' := im_H g (im_w u 45 (y6).toNatClampNeg y5) o Y) (c' := 0) (s' := 0) (mi'' := 102) (pc'' := 66) (ls'' := [.ref 40, .int y0, .int y1, .int y2, .int y3, .int y4]) (st'' := [.int y3, .ref 49]) (A'' := im_H g (im_w u 45 (y6).toNatClampNeg y5) o Y) (c'' := 0) (s'' := 0) 1 0 0 hb5 (fun n => rfl) ?_
        refine iv_chk (mi' := 102) (pc' := 73) (ls' := [.ref 40, .int y0, .int y1, .int y2, .int y3, .int y4]) (st' := [.int ((u 49) (y3).toNatClampNeg), .int y3, .ref 49]) (A' := im_H g (im_w u 45 (y6).toNatClampNeg y5) o Y) (c' := 0) (s' := 0) 4 hb4 (fun n => rfl) ?_
        refine iv_blk (mi' := 102) (pc' := 84) (ls' := [.ref 40, .int y0, .int y1, .int y2, .int y3, .int y4]) (st' := [.int ((((u 49) (y3).toNatClampNeg) >>> ((8 : Int32) &&& 31)) &&& (255 : Int32)), .int y3, .ref 49]) (A' := im_H g (im_w u 45 (y6).toNatClampNeg y5) o Y) (c' := 0) (s' := 0) 5 (fun n => rfl) ?_
        exact x102_r37_2_ok (u := (im_w u 45 (y6).toNatClampNeg y5)) (y0 := y0) (y1 := y1) (y2 := y2) (y3 := y3) (y4 := y4) (y5 := ((((u 49) (y3).toNatClampNeg) >>> ((8 : Int32) &&& 31)) &&& (255 : Int32))) (y6 := y3) h
def x102_r37 (u : im_M) (a : Int32) (b : Int32) (c : Int32) : Option (Int32 × im_M) :=
  bif iv_in (((4 : Int32) * b) + a) 16 then
    bif Op.ifCond.holds .eq ((u 48) ((((4 : Int32) * b) + a)).toNatClampNeg) then
      (x102_r37_1 u a b c (((4 : Int32) * b) + a) ((u 37 2) &&& (255 : Int32)) ((u 37 2) &&& (255 : Int32)) (((4 : Int32) * b) + a))
    else
      (x102_r37_1 u a b c (((4 : Int32) * b) + a) ((u 37 2) &&& (255 : Int32)) (((u 49) ((((4 : Int32) * b) + a)).toNatClampNeg) &&& (255 : Int32)) (((4 : Int32) * b) + a))
  else none
set_option maxRecDepth 100000 in
set_option maxHeartbeats 4000000 in
theorem x102_r37_ok {L : Nat} {xs : Nat → Int32} {g u mm : im_M} {o : Nat → Int64} {Y : iv_A} {a b c ret : Int32} (h : x102_r37 u a b c = some (ret, mm)) : iv_ev (iv_Xs L xs) 102 0 [.ref 40, .int a, .int b, .int c, .retAddr 0, .retAddr 0] [] (im_H g u o Y) 0 0 (.inl none, im_H g mm o Y) := by
  unfold x102_r37 at h
  cases hb1 : iv_in (((4 : Int32) * b) + a) 16 with
  | false => exact (iv_bn hb1 h).elim
  | true =>
    have h := iv_bt hb1 h
    refine iv_chk (mi' := 102) (pc' := 30) (ls' := [.ref 40, .int a, .int b, .int c, .int (((4 : Int32) * b) + a), .int ((u 37 2) &&& (255 : Int32))]) (st' := [.int ((u 48) ((((4 : Int32) * b) + a)).toNatClampNeg), .int (((4 : Int32) * b) + a), .ref 48]) (A' := im_H g u o Y) (c' := 0) (s' := 0) 18 hb1 (fun n => rfl) ?_
    cases hb2 : Op.ifCond.holds .eq ((u 48) ((((4 : Int32) * b) + a)).toNatClampNeg) with
    | true =>
      have h := iv_bt hb2 h
      refine iv_brt (mi' := 102) (pc' := 47) (ls' := [.ref 40, .int a, .int b, .int c, .int (((4 : Int32) * b) + a), .int ((u 37 2) &&& (255 : Int32))]) (st' := [.int (((4 : Int32) * b) + a), .ref 48]) (A' := im_H g u o Y) (c' := 0) (s' := 0) (mi'' := 102) (pc'' := 33) (ls'' := [.ref 40, .int a, .int b, .int c, .int (((4 : Int32) * b) + a), .int ((u 37 2) &&& (255 : Int32))]) (st'' := [.int (((4 : Int32) * b) + a), .ref 48]) (A'' := im_H g u o Y) (c'' := 0) (s'' := 0) 1 0 0 hb2 (fun n => rfl) ?_
      refine iv_blk (mi' := 102) (pc' := 49) (ls' := [.ref 40, .int a, .int b, .int c, .int (((4 : Int32) * b) + a), .int ((u 37 2) &&& (255 : Int32))]) (st' := [.int ((u 37 2) &&& (255 : Int32)), .int (((4 : Int32) * b) + a), .ref 48]) (A' := im_H g u o Y) (c' := 0) (s' := 0) 1 (fun n => rfl) ?_
      exact x102_r37_1_ok (u := u) (y0 := a) (y1 := b) (y2 := c) (y3 := (((4 : Int32) * b) + a)) (y4 := ((u 37 2) &&& (255 : Int32))) (y5 := ((u 37 2) &&& (255 : Int32))) (y6 := (((4 : Int32) * b) + a)) h
    | false =>
      have h := iv_bf hb2 h
      refine iv_brf (mi' := 102) (pc' := 47) (ls' := [.ref 40, .int a, .int b, .int c, .int (((4 : Int32) * b) + a), .int ((u 37 2) &&& (255 : Int32))]) (st' := [.int (((4 : Int32) * b) + a), .ref 48]) (A' := im_H g u o Y) (c' := 0) (s' := 0) (mi'' := 102) (pc'' := 33) (ls'' := [.ref 40, .int a, .int b, .int c, .int (((4 : Int32) * b) + a), .int ((u 37 2) &&& (255 : Int32))]) (st'' := [.int (((4 : Int32) * b) + a), .ref 48]) (A'' := im_H g u o Y) (c'' := 0) (s'' := 0) 1 0 0 hb2 (fun n => rfl) ?_
      refine iv_chk (mi' := 102) (pc' := 40) (ls' := [.ref 40, .int a, .int b, .int c, .int (((4 : Int32) * b) + a), .int ((u 37 2) &&& (255 : Int32))]) (st' := [.int ((u 49) ((((4 : Int32) * b) + a)).toNatClampNeg), .int (((4 : Int32) * b) + a), .ref 48]) (A' := im_H g u o Y) (c' := 0) (s' := 0) 4 hb1 (fun n => rfl) ?_
      refine iv_blk (mi' := 102) (pc' := 49) (ls' := [.ref 40, .int a, .int b, .int c, .int (((4 : Int32) * b) + a), .int ((u 37 2) &&& (255 : Int32))]) (st' := [.int (((u 49) ((((4 : Int32) * b) + a)).toNatClampNeg) &&& (255 : Int32)), .int (((4 : Int32) * b) + a), .ref 48]) (A' := im_H g u o Y) (c' := 0) (s' := 0) 3 (fun n => rfl) ?_
      exact x102_r37_1_ok (u := u) (y0 := a) (y1 := b) (y2 := c) (y3 := (((4 : Int32) * b) + a)) (y4 := ((u 37 2) &&& (255 : Int32))) (y5 := (((u 49) ((((4 : Int32) * b) + a)).toNatClampNeg) &&& (255 : Int32))) (y6 := (((4 : Int32) * b) + a)) h
def x98_r37_26 (u : im_M) (y0 : Int32) (y1 : Int32) (y2 : Int32) (y3 : Int32) (y4 : Int32) (y5 : Int32) (y6 : Int32) : Option (Int32 × im_M) :=
  bif iv_in y6 4 then
    some (0, (im_w u 53 (y6).toNatClampNeg (y5 ||| (y4 ||| y3))))
  else none
set_option maxRecDepth 100000 in
set_option maxHeartbeats 4000000 in
theorem x98_r37_26_ok {L : Nat} {xs : Nat → Int32} {g u mm : im_M} {o : Nat → Int64} {Y : iv_A} {y0 y1 y2 y3 y4 y5 y6 ret : Int32} (h : x98_r37_26 u y0 y1 y2 y3 y4 y5 y6 = some (ret, mm)) : iv_ev (iv_Xs L xs) 98 255 [.ref 40, .int y0, .int y1, .int y2, .int (3 : Int32), .int (4 : Int32)] [.int y3, .int y4, .int y5, .int y6, .ref 56] (im_H g u o Y) 0 0 (.inl none, im_H g mm o Y) := by
  unfold x98_r37_26 at h
  cases hb66 : iv_in y6 4 with
  | false => exact (iv_bn hb66 h).elim
  | true =>
    have h := iv_bt hb66 h
    refine iv_chk (mi' := 98) (pc' := 258) (ls' := [.ref 40, .int y0, .int y1, .int y2, .int (3 : Int32), .int (4 : Int32)]) (st' := []) (A' := List.set (im_H g u o Y) 53 (.inl (0, 4, .inl (upd (u 53) (y6).toNatClampNeg (y5 ||| (y4 ||| y3)))))) (c' := 0) (s' := 0) 3 hb66 (fun n => rfl) ?_
    rw [im_a53]
    cases h
    exact iv_ret 1 (fun n => rfl)
def x98_r37_25 (u : im_M) (y0 : Int32) (y1 : Int32) (y2 : Int32) : Option (Int32 × im_M) :=
  bif iv_in y0 4 then
    bif Op.ifCond.holds .eq y1 then
      (x98_r37_26 u y0 y1 y2 (0 : Int32) y2 ((u 53) (y0).toNatClampNeg) y0)
    else
      (x98_r37_26 u y0 y1 y2 (1 : Int32) y2 ((u 53) (y0).toNatClampNeg) y0)
  else none
set_option maxRecDepth 100000 in
set_option maxHeartbeats 4000000 in
theorem x98_r37_25_ok {L : Nat} {xs : Nat → Int32} {g u mm : im_M} {o : Nat → Int64} {Y : iv_A} {y0 y1 y2 ret : Int32} (h : x98_r37_25 u y0 y1 y2 = some (ret, mm)) : iv_ev (iv_Xs L xs) 98 232 [.ref 40, .int y0, .int y1, .int y2, .int (2 : Int32), .int (4 : Int32)] [] (im_H g u o Y) 0 0 (.inl none, im_H g mm o Y) := by
  unfold x98_r37_25 at h
  cases hb64 : iv_in y0 4 with
  | false => exact (iv_bn hb64 h).elim
  | true =>
    have h := iv_bt hb64 h
    refine iv_chk (mi' := 98) (pc' := 245) (ls' := [.ref 40, .int y0, .int y1, .int y2, .int (3 : Int32), .int (4 : Int32)]) (st' := [.int ((u 53) (y0).toNatClampNeg), .int y0, .ref 56]) (A' := im_H g u o Y) (c' := 0) (s' := 0) 10 hb64 (fun n => rfl) ?_
    cases hb65 : Op.ifCond.holds .eq y1 with
    | true =>
      have h := iv_bt hb65 h
      refine iv_brt (mi' := 98) (pc' := 254) (ls' := [.ref 40, .int y0, .int y1, .int y2, .int (3 : Int32), .int (4 : Int32)]) (st' := [.int y2, .int ((u 53) (y0).toNatClampNeg), .int y0, .ref 56]) (A' := im_H g u o Y) (c' := 0) (s' := 0) (mi'' := 98) (pc'' := 250) (ls'' := [.ref 40, .int y0, .int y1, .int y2, .int (3 : Int32), .int (4 : Int32)]) (st'' := [.int y2, .int ((u 53) (y0).toNatClampNeg), .int y0, .ref 56]) (A'' := im_H g u o Y) (c'' := 0) (s'' := 0) 3 0 0 hb65 (fun n => rfl) ?_
      refine iv_blk (mi' := 98) (pc' := 255) (ls' := [.ref 40, .int y0, .int y1, .int y2, .int (3 : Int32), .int (4 : Int32)]) (st' := [.int (0 : Int32), .int y2, .int ((u 53) (y0).toNatClampNeg), .int y0, .ref 56]) (A' := im_H g u o Y) (c' := 0) (s' := 0) 1 (fun n => rfl) ?_
      exact x98_r37_26_ok (u := u) (y0 := y0) (y1 := y1) (y2 := y2) (y3 := (0 : Int32)) (y4 := y2) (y5 := ((u 53) (y0).toNatClampNeg)) (y6 := y0) h
    | false =>
      have h := iv_bf hb65 h
      refine iv_brf (mi' := 98) (pc' := 254) (ls' := [.ref 40, .int y0, .int y1, .int y2, .int (3 : Int32), .int (4 : Int32)]) (st' := [.int y2, .int ((u 53) (y0).toNatClampNeg), .int y0, .ref 56]) (A' := im_H g u o Y) (c' := 0) (s' := 0) (mi'' := 98) (pc'' := 250) (ls'' := [.ref 40, .int y0, .int y1, .int y2, .int (3 : Int32), .int (4 : Int32)]) (st'' := [.int y2, .int ((u 53) (y0).toNatClampNeg), .int y0, .ref 56]) (A'' := im_H g u o Y) (c'' := 0) (s'' := 0) 3 0 0 hb65 (fun n => rfl) ?_
      refine iv_blk (mi' := 98) (pc' := 255) (ls' := [.ref 40, .int y0, .int y1, .int y2, .int (3 : Int32), .int (4 : Int32)]) (st' := [.int (1 : Int32), .int y2, .int ((u 53) (y0).toNatClampNeg), .int y0, .ref 56]) (A' := im_H g u o Y) (c' := 0) (s' := 0) 2 (fun n => rfl) ?_
      exact x98_r37_26_ok (u := u) (y0 := y0) (y1 := y1) (y2 := y2) (y3 := (1 : Int32)) (y4 := y2) (y5 := ((u 53) (y0).toNatClampNeg)) (y6 := y0) h
def x98_r37_24 (u : im_M) (y0 : Int32) (y1 : Int32) (y2 : Int32) : Option (Int32 × im_M) :=
  Option.bind (x93 u y2 (3 : Int32)) (fun q29 =>
    bif Op.ifCond.holds .eq q29.1 then
      (x98_r37_25 q29.2 y0 y1 y2)
    else
      (bif iv_in y0 4 then
        Option.bind (x93 q29.2 ((q29.2 53) (y0).toNatClampNeg) (3 : Int32)) (fun q30 =>
          bif Op.ifCond.holds .ne q30.1 then
            (x98_r37_25 q30.2 y0 y1 y2)
          else
            (Option.bind (x94_r37 q30.2 (8 : Int32) y0 (2 : Int32)) (fun q31 =>
              x98_r37_25 q31.2 y0 y1 y2)))
      else none))
set_option maxRecDepth 100000 in
set_option maxHeartbeats 4000000 in
theorem x98_r37_24_ok {L : Nat} {xs : Nat → Int32} {g u mm : im_M} {o : Nat → Int64} {Y : iv_A} {y0 y1 y2 ret : Int32} (h : x98_r37_24 u y0 y1 y2 = some (ret, mm)) : iv_ev (iv_Xs L xs) 98 232 [.ref 40, .int y0, .int y1, .int y2, .int (1 : Int32), .int (4 : Int32)] [] (im_H g u o Y) 0 0 (.inl none, im_H g mm o Y) := by
  unfold x98_r37_24 at h
  obtain ⟨v29, g29, hc, h⟩ := iv_bd h
  refine iv_cal (mi' := 98) (pc' := 201) (ls' := [.ref 40, .int y0, .int y1, .int y2, .int (2 : Int32), .int (4 : Int32)]) (rest := []) (A' := im_H g u o Y) (c' := 0) (s' := 0) (as := [.int y2, .int (3 : Int32)]) (v := some (.int v29)) (A'' := im_H g g29 o Y) 10 93 (fun n => rfl) rfl (x93_ok (u := u) (a := y2) (b := (3 : Int32)) hc) ?_
  show iv_ev (iv_Xs L xs) 98 204 [.ref 40, .int y0, .int y1, .int y2, .int (2 : Int32), .int (4 : Int32)] [.int v29] (im_H g g29 o Y) 0 0 _
  cases hb61 : Op.ifCond.holds .eq v29 with
  | true =>
    have h := iv_bt hb61 h
    refine iv_brt (mi' := 98) (pc' := 232) (ls' := [.ref 40, .int y0, .int y1, .int y2, .int (2 : Int32), .int (4 : Int32)]) (st' := []) (A' := im_H g g29 o Y) (c' := 0) (s' := 0) (mi'' := 98) (pc'' := 207) (ls'' := [.ref 40, .int y0, .int y1, .int y2, .int (2 : Int32), .int (4 : Int32)]) (st'' := []) (A'' := im_H g g29 o Y) (c'' := 0) (s'' := 0) 1 0 0 hb61 (fun n => rfl) ?_
    exact x98_r37_25_ok (u := g29) (y0 := y0) (y1 := y1) (y2 := y2) h
  | false =>
    have h := iv_bf hb61 h
    refine iv_brf (mi' := 98) (pc' := 232) (ls' := [.ref 40, .int y0, .int y1, .int y2, .int (2 : Int32), .int (4 : Int32)]) (st' := []) (A' := im_H g g29 o Y) (c' := 0) (s' := 0) (mi'' := 98) (pc'' := 207) (ls'' := [.ref 40, .int y0, .int y1, .int y2, .int (2 : Int32), .int (4 : Int32)]) (st'' := []) (A'' := im_H g g29 o Y) (c'' := 0) (s'' := 0) 1 0 0 hb61 (fun n => rfl) ?_
    cases hb62 : iv_in y0 4 with
    | false => exact (iv_bn hb62 h).elim
    | true =>
      have h := iv_bt hb62 h
      refine iv_chk (mi' := 98) (pc' := 213) (ls' := [.ref 40, .int y0, .int y1, .int y2, .int (2 : Int32), .int (4 : Int32)]) (st' := [.int ((g29 53) (y0).toNatClampNeg)]) (A' := im_H g g29 o Y) (c' := 0) (s' := 0) 4 hb62 (fun n => rfl) ?_
      obtain ⟨v30, g30, hc, h⟩ := iv_bd h
      refine iv_cal (mi' := 98) (pc' := 217) (ls' := [.ref 40, .int y0, .int y1, .int y2, .int (2 : Int32), .int (4 : Int32)]) (rest := []) (A' := im_H g g29 o Y) (c' := 0) (s' := 0) (as := [.int ((g29 53) (y0).toNatClampNeg), .int (3 : Int32)]) (v := some (.int v30)) (A'' := im_H g g30 o Y) 4 93 (fun n => rfl) rfl (x93_ok (u := g29) (a := ((g29 53) (y0).toNatClampNeg)) (b := (3 : Int32)) hc) ?_
      show iv_ev (iv_Xs L xs) 98 220 [.ref 40, .int y0, .int y1, .int y2, .int (2 : Int32), .int (4 : Int32)] [.int v30] (im_H g g30 o Y) 0 0 _
      cases hb63 : Op.ifCond.holds .ne v30 with
      | true =>
        have h := iv_bt hb63 h
        refine iv_brt (mi' := 98) (pc' := 232) (ls' := [.ref 40, .int y0, .int y1, .int y2, .int (2 : Int32), .int (4 : Int32)]) (st' := []) (A' := im_H g g30 o Y) (c' := 0) (s' := 0) (mi'' := 98) (pc'' := 223) (ls'' := [.ref 40, .int y0, .int y1, .int y2, .int (2 : Int32), .int (4 : Int32)]) (st'' := []) (A'' := im_H g g30 o Y) (c'' := 0) (s'' := 0) 1 0 0 hb63 (fun n => rfl) ?_
        exact x98_r37_25_ok (u := g30) (y0 := y0) (y1 := y1) (y2 := y2) h
      | false =>
        have h := iv_bf hb63 h
        refine iv_brf (mi' := 98) (pc' := 232) (ls' := [.ref 40, .int y0, .int y1, .int y2, .int (2 : Int32), .int (4 : Int32)]) (st' := []) (A' := im_H g g30 o Y) (c' := 0) (s' := 0) (mi'' := 98) (pc'' := 223) (ls'' := [.ref 40, .int y0, .int y1, .int y2, .int (2 : Int32), .int (4 : Int32)]) (st'' := []) (A'' := im_H g g30 o Y) (c'' := 0) (s'' := 0) 1 0 0 hb63 (fun n => rfl) ?_
        obtain ⟨v31, g31, hc, h⟩ := iv_bd h
        refine iv_cal (mi' := 98) (pc' := 229) (ls' := [.ref 40, .int y0, .int y1, .int y2, .int (2 : Int32), .int (4 : Int32)]) (rest := []) (A' := im_H g g30 o Y) (c' := 0) (s' := 0) (as := [.ref 40, .int (8 : Int32), .int y0, .int (2 : Int32)]) (v := none) (A'' := im_H g g31 o Y) 5 94 (fun n => rfl) rfl (x94_r37_ok (u := g30) (a := (8 : Int32)) (b := y0) (c := (2 : Int32)) hc) ?_
        show iv_ev (iv_Xs L xs) 98 232 [.ref 40, .int y0, .int y1, .int y2, .int (2 : Int32), .int (4 : Int32)] [] (im_H g g31 o Y) 0 0 _
        exact x98_r37_25_ok (u := g31) (y0 := y0) (y1 := y1) (y2 := y2) h
def x98_r37_23 (u : im_M) (y0 : Int32) (y1 : Int32) (y2 : Int32) : Option (Int32 × im_M) :=
  Option.bind (x93 u y2 (2 : Int32)) (fun q26 =>
    bif Op.ifCond.holds .eq q26.1 then
      (x98_r37_24 q26.2 y0 y1 y2)
    else
      (bif iv_in y0 4 then
        Option.bind (x93 q26.2 ((q26.2 53) (y0).toNatClampNeg) (2 : Int32)) (fun q27 =>
          bif Op.ifCond.holds .ne q27.1 then
            (x98_r37_24 q27.2 y0 y1 y2)
          else
            (Option.bind (x94_r37 q27.2 (8 : Int32) y0 (1 : Int32)) (fun q28 =>
              x98_r37_24 q28.2 y0 y1 y2)))
      else none))
set_option maxRecDepth 100000 in
set_option maxHeartbeats 4000000 in
theorem x98_r37_23_ok {L : Nat} {xs : Nat → Int32} {g u mm : im_M} {o : Nat → Int64} {Y : iv_A} {y0 y1 y2 ret : Int32} (h : x98_r37_23 u y0 y1 y2 = some (ret, mm)) : iv_ev (iv_Xs L xs) 98 232 [.ref 40, .int y0, .int y1, .int y2, .int (0 : Int32), .int (4 : Int32)] [] (im_H g u o Y) 0 0 (.inl none, im_H g mm o Y) := by
  unfold x98_r37_23 at h
  obtain ⟨v26, g26, hc, h⟩ := iv_bd h
  refine iv_cal (mi' := 98) (pc' := 201) (ls' := [.ref 40, .int y0, .int y1, .int y2, .int (1 : Int32), .int (4 : Int32)]) (rest := []) (A' := im_H g u o Y) (c' := 0) (s' := 0) (as := [.int y2, .int (2 : Int32)]) (v := some (.int v26)) (A'' := im_H g g26 o Y) 10 93 (fun n => rfl) rfl (x93_ok (u := u) (a := y2) (b := (2 : Int32)) hc) ?_
  show iv_ev (iv_Xs L xs) 98 204 [.ref 40, .int y0, .int y1, .int y2, .int (1 : Int32), .int (4 : Int32)] [.int v26] (im_H g g26 o Y) 0 0 _
  cases hb58 : Op.ifCond.holds .eq v26 with
  | true =>
    have h := iv_bt hb58 h
    refine iv_brt (mi' := 98) (pc' := 232) (ls' := [.ref 40, .int y0, .int y1, .int y2, .int (1 : Int32), .int (4 : Int32)]) (st' := []) (A' := im_H g g26 o Y) (c' := 0) (s' := 0) (mi'' := 98) (pc'' := 207) (ls'' := [.ref 40, .int y0, .int y1, .int y2, .int (1 : Int32), .int (4 : Int32)]) (st'' := []) (A'' := im_H g g26 o Y) (c'' := 0) (s'' := 0) 1 0 0 hb58 (fun n => rfl) ?_
    exact x98_r37_24_ok (u := g26) (y0 := y0) (y1 := y1) (y2 := y2) h
  | false =>
    have h := iv_bf hb58 h
    refine iv_brf (mi' := 98) (pc' := 232) (ls' := [.ref 40, .int y0, .int y1, .int y2, .int (1 : Int32), .int (4 : Int32)]) (st' := []) (A' := im_H g g26 o Y) (c' := 0) (s' := 0) (mi'' := 98) (pc'' := 207) (ls'' := [.ref 40, .int y0, .int y1, .int y2, .int (1 : Int32), .int (4 : Int32)]) (st'' := []) (A'' := im_H g g26 o Y) (c'' := 0) (s'' := 0) 1 0 0 hb58 (fun n => rfl) ?_
    cases hb59 : iv_in y0 4 with
    | false => exact (iv_bn hb59 h).elim
    | true =>
      have h := iv_bt hb59 h
      refine iv_chk (mi' := 98) (pc' := 213) (ls' := [.ref 40, .int y0, .int y1, .int y2, .int (1 : Int32), .int (4 : Int32)]) (st' := [.int ((g26 53) (y0).toNatClampNeg)]) (A' := im_H g g26 o Y) (c' := 0) (s' := 0) 4 hb59 (fun n => rfl) ?_
      obtain ⟨v27, g27, hc, h⟩ := iv_bd h
      refine iv_cal (mi' := 98) (pc' := 217) (ls' := [.ref 40, .int y0, .int y1, .int y2, .int (1 : Int32), .int (4 : Int32)]) (rest := []) (A' := im_H g g26 o Y) (c' := 0) (s' := 0) (as := [.int ((g26 53) (y0).toNatClampNeg), .int (2 : Int32)]) (v := some (.int v27)) (A'' := im_H g g27 o Y) 4 93 (fun n => rfl) rfl (x93_ok (u := g26) (a := ((g26 53) (y0).toNatClampNeg)) (b := (2 : Int32)) hc) ?_
      show iv_ev (iv_Xs L xs) 98 220 [.ref 40, .int y0, .int y1, .int y2, .int (1 : Int32), .int (4 : Int32)] [.int v27] (im_H g g27 o Y) 0 0 _
      cases hb60 : Op.ifCond.holds .ne v27 with
      | true =>
        have h := iv_bt hb60 h
        refine iv_brt (mi' := 98) (pc' := 232) (ls' := [.ref 40, .int y0, .int y1, .int y2, .int (1 : Int32), .int (4 : Int32)]) (st' := []) (A' := im_H g g27 o Y) (c' := 0) (s' := 0) (mi'' := 98) (pc'' := 223) (ls'' := [.ref 40, .int y0, .int y1, .int y2, .int (1 : Int32), .int (4 : Int32)]) (st'' := []) (A'' := im_H g g27 o Y) (c'' := 0) (s'' := 0) 1 0 0 hb60 (fun n => rfl) ?_
        exact x98_r37_24_ok (u := g27) (y0 := y0) (y1 := y1) (y2 := y2) h
      | false =>
        have h := iv_bf hb60 h
        refine iv_brf (mi' := 98) (pc' := 232) (ls' := [.ref 40, .int y0, .int y1, .int y2, .int (1 : Int32), .int (4 : Int32)]) (st' := []) (A' := im_H g g27 o Y) (c' := 0) (s' := 0) (mi'' := 98) (pc'' := 223) (ls'' := [.ref 40, .int y0, .int y1, .int y2, .int (1 : Int32), .int (4 : Int32)]) (st'' := []) (A'' := im_H g g27 o Y) (c'' := 0) (s'' := 0) 1 0 0 hb60 (fun n => rfl) ?_
        obtain ⟨v28, g28, hc, h⟩ := iv_bd h
        refine iv_cal (mi' := 98) (pc' := 229) (ls' := [.ref 40, .int y0, .int y1, .int y2, .int (1 : Int32), .int (4 : Int32)]) (rest := []) (A' := im_H g g27 o Y) (c' := 0) (s' := 0) (as := [.ref 40, .int (8 : Int32), .int y0, .int (1 : Int32)]) (v := none) (A'' := im_H g g28 o Y) 5 94 (fun n => rfl) rfl (x94_r37_ok (u := g27) (a := (8 : Int32)) (b := y0) (c := (1 : Int32)) hc) ?_
        show iv_ev (iv_Xs L xs) 98 232 [.ref 40, .int y0, .int y1, .int y2, .int (1 : Int32), .int (4 : Int32)] [] (im_H g g28 o Y) 0 0 _
        exact x98_r37_24_ok (u := g28) (y0 := y0) (y1 := y1) (y2 := y2) h
def x98_r37_22 (u : im_M) (y0 : Int32) (y1 : Int32) (y2 : Int32) (y3 : Int32) (y4 : Int32) : Option (Int32 × im_M) :=
  Option.bind (x93 u (y4 ||| y3) (1 : Int32)) (fun q23 =>
    bif Op.ifCond.holds .eq q23.1 then
      (x98_r37_23 q23.2 y0 y1 (y4 ||| y3))
    else
      (bif iv_in y0 4 then
        Option.bind (x93 q23.2 ((q23.2 53) (y0).toNatClampNeg) (1 : Int32)) (fun q24 =>
          bif Op.ifCond.holds .ne q24.1 then
            (x98_r37_23 q24.2 y0 y1 (y4 ||| y3))
          else
            (Option.bind (x94_r37 q24.2 (8 : Int32) y0 (0 : Int32)) (fun q25 =>
              x98_r37_23 q25.2 y0 y1 (y4 ||| y3))))
      else none))
set_option maxRecDepth 100000 in
set_option maxHeartbeats 4000000 in
theorem x98_r37_22_ok {L : Nat} {xs : Nat → Int32} {g u mm : im_M} {o : Nat → Int64} {Y : iv_A} {y0 y1 y2 y3 y4 ret : Int32} (h : x98_r37_22 u y0 y1 y2 y3 y4 = some (ret, mm)) : iv_ev (iv_Xs L xs) 98 185 [.ref 40, .int y0, .int y1, .int (3 : Int32), .int y2, .int (4 : Int32)] [.int y3, .int y4] (im_H g u o Y) 0 0 (.inl none, im_H g mm o Y) := by
  unfold x98_r37_22 at h
  obtain ⟨v23, g23, hc, h⟩ := iv_bd h
  refine iv_cal (mi' := 98) (pc' := 201) (ls' := [.ref 40, .int y0, .int y1, .int (y4 ||| y3), .int (0 : Int32), .int (4 : Int32)]) (rest := []) (A' := im_H g u o Y) (c' := 0) (s' := 0) (as := [.int (y4 ||| y3), .int (1 : Int32)]) (v := some (.int v23)) (A'' := im_H g g23 o Y) 12 93 (fun n => rfl) rfl (x93_ok (u := u) (a := (y4 ||| y3)) (b := (1 : Int32)) hc) ?_
  show iv_ev (iv_Xs L xs) 98 204 [.ref 40, .int y0, .int y1, .int (y4 ||| y3), .int (0 : Int32), .int (4 : Int32)] [.int v23] (im_H g g23 o Y) 0 0 _
  cases hb55 : Op.ifCond.holds .eq v23 with
  | true =>
    have h := iv_bt hb55 h
    refine iv_brt (mi' := 98) (pc' := 232) (ls' := [.ref 40, .int y0, .int y1, .int (y4 ||| y3), .int (0 : Int32), .int (4 : Int32)]) (st' := []) (A' := im_H g g23 o Y) (c' := 0) (s' := 0) (mi'' := 98) (pc'' := 207) (ls'' := [.ref 40, .int y0, .int y1, .int (y4 ||| y3), .int (0 : Int32), .int (4 : Int32)]) (st'' := []) (A'' := im_H g g23 o Y) (c'' := 0) (s'' := 0) 1 0 0 hb55 (fun n => rfl) ?_
    exact x98_r37_23_ok (u := g23) (y0 := y0) (y1 := y1) (y2 := (y4 ||| y3)) h
  | false =>
    have h := iv_bf hb55 h
    refine iv_brf (mi' := 98) (pc' := 232) (ls' := [.ref 40, .int y0, .int y1, .int (y4 ||| y3), .int (0 : Int32), .int (4 : Int32)]) (st' := []) (A' := im_H g g23 o Y) (c' := 0) (s' := 0) (mi'' := 98) (pc'' := 207) (ls'' := [.ref 40, .int y0, .int y1, .int (y4 ||| y3), .int (0 : Int32), .int (4 : Int32)]) (st'' := []) (A'' := im_H g g23 o Y) (c'' := 0) (s'' := 0) 1 0 0 hb55 (fun n => rfl) ?_
    cases hb56 : iv_in y0 4 with
    | false => exact (iv_bn hb56 h).elim
    | true =>
      have h := iv_bt hb56 h
      refine iv_chk (mi' := 98) (pc' := 213) (ls' := [.ref 40, .int y0, .int y1, .int (y4 ||| y3), .int (0 : Int32), .int (4 : Int32)]) (st' := [.int ((g23 53) (y0).toNatClampNeg)]) (A' := im_H g g23 o Y) (c' := 0) (s' := 0) 4 hb56 (fun n => rfl) ?_
      obtain ⟨v24, g24, hc, h⟩ := iv_bd h
      refine iv_cal (mi' := 98) (pc' := 217) (ls' := [.ref 40, .int y0, .int y1, .int (y4 ||| y3), .int (0 : Int32), .int (4 : Int32)]) (rest := []) (A' := im_H g g23 o Y) (c' := 0) (s' := 0) (as := [.int ((g23 53) (y0).toNatClampNeg), .int (1 : Int32)]) (v := some (.int v24)) (A'' := im_H g g24 o Y) 4 93 (fun n => rfl) rfl (x93_ok (u := g23) (a := ((g23 53) (y0).toNatClampNeg)) (b := (1 : Int32)) hc) ?_
      show iv_ev (iv_Xs L xs) 98 220 [.ref 40, .int y0, .int y1, .int (y4 ||| y3), .int (0 : Int32), .int (4 : Int32)] [.int v24] (im_H g g24 o Y) 0 0 _
      cases hb57 : Op.ifCond.holds .ne v24 with
      | true =>
        have h := iv_bt hb57 h
        refine iv_brt (mi' := 98) (pc' := 232) (ls' := [.ref 40, .int y0, .int y1, .int (y4 ||| y3), .int (0 : Int32), .int (4 : Int32)]) (st' := []) (A' := im_H g g24 o Y) (c' := 0) (s' := 0) (mi'' := 98) (pc'' := 223) (ls'' := [.ref 40, .int y0, .int y1, .int (y4 ||| y3), .int (0 : Int32), .int (4 : Int32)]) (st'' := []) (A'' := im_H g g24 o Y) (c'' := 0) (s'' := 0) 1 0 0 hb57 (fun n => rfl) ?_
        exact x98_r37_23_ok (u := g24) (y0 := y0) (y1 := y1) (y2 := (y4 ||| y3)) h
      | false =>
        have h := iv_bf hb57 h
        refine iv_brf (mi' := 98) (pc' := 232) (ls' := [.ref 40, .int y0, .int y1, .int (y4 ||| y3), .int (0 : Int32), .int (4 : Int32)]) (st' := []) (A' := im_H g g24 o Y) (c' := 0) (s' := 0) (mi'' := 98) (pc'' := 223) (ls'' := [.ref 40, .int y0, .int y1, .int (y4 ||| y3), .int (0 : Int32), .int (4 : Int32)]) (st'' := []) (A'' := im_H g g24 o Y) (c'' := 0) (s'' := 0) 1 0 0 hb57 (fun n => rfl) ?_
        obtain ⟨v25, g25, hc, h⟩ := iv_bd h
        refine iv_cal (mi' := 98) (pc' := 229) (ls' := [.ref 40, .int y0, .int y1, .int (y4 ||| y3), .int (0 : Int32), .int (4 : Int32)]) (rest := []) (A' := im_H g g24 o Y) (c' := 0) (s' := 0) (as := [.ref 40, .int (8 : Int32), .int y0, .int (0 : Int32)]) (v := none) (A'' := im_H g g25 o Y) 5 94 (fun n => rfl) rfl (x94_r37_ok (u := g24) (a := (8 : Int32)) (b := y0) (c := (0 : Int32)) hc) ?_
        show iv_ev (iv_Xs L xs) 98 232 [.ref 40, .int y0, .int y1, .int (y4 ||| y3), .int (0 : Int32), .int (4 : Int32)] [] (im_H g g25 o Y) 0 0 _
        exact x98_r37_23_ok (u := g25) (y0 := y0) (y1 := y1) (y2 := (y4 ||| y3)) h
def x98_r37_21 (u : im_M) (y0 : Int32) (y1 : Int32) (y2 : Int32) (y3 : Int32) (y4 : Int32) : Option (Int32 × im_M) :=
  bif Op.if_icmp.holds .ne (y1 &&& (3 : Int32)) (3 : Int32) then
    (x98_r37_22 u y0 y1 y2 (0 : Int32) (y4 ||| y3))
  else
    (x98_r37_22 u y0 y1 y2 (8 : Int32) (y4 ||| y3))
set_option maxRecDepth 100000 in
set_option maxHeartbeats 4000000 in
theorem x98_r37_21_ok {L : Nat} {xs : Nat → Int32} {g u mm : im_M} {o : Nat → Int64} {Y : iv_A} {y0 y1 y2 y3 y4 ret : Int32} (h : x98_r37_21 u y0 y1 y2 y3 y4 = some (ret, mm)) : iv_ev (iv_Xs L xs) 98 171 [.ref 40, .int y0, .int y1, .int (3 : Int32), .int y2, .int (4 : Int32)] [.int y3, .int y4] (im_H g u o Y) 0 0 (.inl none, im_H g mm o Y) := by
  unfold x98_r37_21 at h
  cases hb54 : Op.if_icmp.holds .ne (y1 &&& (3 : Int32)) (3 : Int32) with
  | true =>
    have h := iv_bt hb54 h
    refine iv_brt (mi' := 98) (pc' := 184) (ls' := [.ref 40, .int y0, .int y1, .int (3 : Int32), .int y2, .int (4 : Int32)]) (st' := [.int (y4 ||| y3)]) (A' := im_H g u o Y) (c' := 0) (s' := 0) (mi'' := 98) (pc'' := 179) (ls'' := [.ref 40, .int y0, .int y1, .int (3 : Int32), .int y2, .int (4 : Int32)]) (st'' := [.int (y4 ||| y3)]) (A'' := im_H g u o Y) (c'' := 0) (s'' := 0) 6 0 0 hb54 (fun n => rfl) ?_
    refine iv_blk (mi' := 98) (pc' := 185) (ls' := [.ref 40, .int y0, .int y1, .int (3 : Int32), .int y2, .int (4 : Int32)]) (st' := [.int (0 : Int32), .int (y4 ||| y3)]) (A' := im_H g u o Y) (c' := 0) (s' := 0) 1 (fun n => rfl) ?_
    exact x98_r37_22_ok (u := u) (y0 := y0) (y1 := y1) (y2 := y2) (y3 := (0 : Int32)) (y4 := (y4 ||| y3)) h
  | false =>
    have h := iv_bf hb54 h
    refine iv_brf (mi' := 98) (pc' := 184) (ls' := [.ref 40, .int y0, .int y1, .int (3 : Int32), .int y2, .int (4 : Int32)]) (st' := [.int (y4 ||| y3)]) (A' := im_H g u o Y) (c' := 0) (s' := 0) (mi'' := 98) (pc'' := 179) (ls'' := [.ref 40, .int y0, .int y1, .int (3 : Int32), .int y2, .int (4 : Int32)]) (st'' := [.int (y4 ||| y3)]) (A'' := im_H g u o Y) (c'' := 0) (s'' := 0) 6 0 0 hb54 (fun n => rfl) ?_
    refine iv_blk (mi' := 98) (pc' := 185) (ls' := [.ref 40, .int y0, .int y1, .int (3 : Int32), .int y2, .int (4 : Int32)]) (st' := [.int (8 : Int32), .int (y4 ||| y3)]) (A' := im_H g u o Y) (c' := 0) (s' := 0) 2 (fun n => rfl) ?_
    exact x98_r37_22_ok (u := u) (y0 := y0) (y1 := y1) (y2 := y2) (y3 := (8 : Int32)) (y4 := (y4 ||| y3)) h
def x98_r37_20 (u : im_M) (y0 : Int32) (y1 : Int32) (y2 : Int32) (y3 : Int32) : Option (Int32 × im_M) :=
  Option.bind (x93 u y1 (2 : Int32)) (fun q22 =>
    bif Op.ifCond.holds .eq q22.1 then
      (x98_r37_21 q22.2 y0 y1 y2 (0 : Int32) y3)
    else
      (x98_r37_21 q22.2 y0 y1 y2 (4 : Int32) y3))
set_option maxRecDepth 100000 in
set_option maxHeartbeats 4000000 in
theorem x98_r37_20_ok {L : Nat} {xs : Nat → Int32} {g u mm : im_M} {o : Nat → Int64} {Y : iv_A} {y0 y1 y2 y3 ret : Int32} (h : x98_r37_20 u y0 y1 y2 y3 = some (ret, mm)) : iv_ev (iv_Xs L xs) 98 158 [.ref 40, .int y0, .int y1, .int (3 : Int32), .int y2, .int (4 : Int32)] [.int y3] (im_H g u o Y) 0 0 (.inl none, im_H g mm o Y) := by
  unfold x98_r37_20 at h
  obtain ⟨v22, g22, hc, h⟩ := iv_bd h
  refine iv_cal (mi' := 98) (pc' := 160) (ls' := [.ref 40, .int y0, .int y1, .int (3 : Int32), .int y2, .int (4 : Int32)]) (rest := [.int y3]) (A' := im_H g u o Y) (c' := 0) (s' := 0) (as := [.int y1, .int (2 : Int32)]) (v := some (.int v22)) (A'' := im_H g g22 o Y) 3 93 (fun n => rfl) rfl (x93_ok (u := u) (a := y1) (b := (2 : Int32)) hc) ?_
  show iv_ev (iv_Xs L xs) 98 163 [.ref 40, .int y0, .int y1, .int (3 : Int32), .int y2, .int (4 : Int32)] [.int v22, .int y3] (im_H g g22 o Y) 0 0 _
  cases hb53 : Op.ifCond.holds .eq v22 with
  | true =>
    have h := iv_bt hb53 h
    refine iv_brt (mi' := 98) (pc' := 170) (ls' := [.ref 40, .int y0, .int y1, .int (3 : Int32), .int y2, .int (4 : Int32)]) (st' := [.int y3]) (A' := im_H g g22 o Y) (c' := 0) (s' := 0) (mi'' := 98) (pc'' := 166) (ls'' := [.ref 40, .int y0, .int y1, .int (3 : Int32), .int y2, .int (4 : Int32)]) (st'' := [.int y3]) (A'' := im_H g g22 o Y) (c'' := 0) (s'' := 0) 1 0 0 hb53 (fun n => rfl) ?_
    refine iv_blk (mi' := 98) (pc' := 171) (ls' := [.ref 40, .int y0, .int y1, .int (3 : Int32), .int y2, .int (4 : Int32)]) (st' := [.int (0 : Int32), .int y3]) (A' := im_H g g22 o Y) (c' := 0) (s' := 0) 1 (fun n => rfl) ?_
    exact x98_r37_21_ok (u := g22) (y0 := y0) (y1 := y1) (y2 := y2) (y3 := (0 : Int32)) (y4 := y3) h
  | false =>
    have h := iv_bf hb53 h
    refine iv_brf (mi' := 98) (pc' := 170) (ls' := [.ref 40, .int y0, .int y1, .int (3 : Int32), .int y2, .int (4 : Int32)]) (st' := [.int y3]) (A' := im_H g g22 o Y) (c' := 0) (s' := 0) (mi'' := 98) (pc'' := 166) (ls'' := [.ref 40, .int y0, .int y1, .int (3 : Int32), .int y2, .int (4 : Int32)]) (st'' := [.int y3]) (A'' := im_H g g22 o Y) (c'' := 0) (s'' := 0) 1 0 0 hb53 (fun n => rfl) ?_
    refine iv_blk (mi' := 98) (pc' := 171) (ls' := [.ref 40, .int y0, .int y1, .int (3 : Int32), .int y2, .int (4 : Int32)]) (st' := [.int (4 : Int32), .int y3]) (A' := im_H g g22 o Y) (c' := 0) (s' := 0) 2 (fun n => rfl) ?_
    exact x98_r37_21_ok (u := g22) (y0 := y0) (y1 := y1) (y2 := y2) (y3 := (4 : Int32)) (y4 := y3) h
def x98_r37_19 (u : im_M) (y0 : Int32) (y1 : Int32) (y2 : Int32) : Option (Int32 × im_M) :=
  Option.bind (x93 u y1 (1 : Int32)) (fun q21 =>
    bif Op.ifCond.holds .eq q21.1 then
      (x98_r37_20 q21.2 y0 y1 y2 (0 : Int32))
    else
      (x98_r37_20 q21.2 y0 y1 y2 (2 : Int32)))
set_option maxRecDepth 100000 in
set_option maxHeartbeats 4000000 in
theorem x98_r37_19_ok {L : Nat} {xs : Nat → Int32} {g u mm : im_M} {o : Nat → Int64} {Y : iv_A} {y0 y1 y2 ret : Int32} (h : x98_r37_19 u y0 y1 y2 = some (ret, mm)) : iv_ev (iv_Xs L xs) 98 145 [.ref 40, .int y0, .int y1, .int (3 : Int32), .int y2, .int (4 : Int32)] [] (im_H g u o Y) 0 0 (.inl none, im_H g mm o Y) := by
  unfold x98_r37_19 at h
  obtain ⟨v21, g21, hc, h⟩ := iv_bd h
  refine iv_cal (mi' := 98) (pc' := 147) (ls' := [.ref 40, .int y0, .int y1, .int (3 : Int32), .int y2, .int (4 : Int32)]) (rest := []) (A' := im_H g u o Y) (c' := 0) (s' := 0) (as := [.int y1, .int (1 : Int32)]) (v := some (.int v21)) (A'' := im_H g g21 o Y) 3 93 (fun n => rfl) rfl (x93_ok (u := u) (a := y1) (b := (1 : Int32)) hc) ?_
  show iv_ev (iv_Xs L xs) 98 150 [.ref 40, .int y0, .int y1, .int (3 : Int32), .int y2, .int (4 : Int32)] [.int v21] (im_H g g21 o Y) 0 0 _
  cases hb52 : Op.ifCond.holds .eq v21 with
  | true =>
    have h := iv_bt hb52 h
    refine iv_brt (mi' := 98) (pc' := 157) (ls' := [.ref 40, .int y0, .int y1, .int (3 : Int32), .int y2, .int (4 : Int32)]) (st' := []) (A' := im_H g g21 o Y) (c' := 0) (s' := 0) (mi'' := 98) (pc'' := 153) (ls'' := [.ref 40, .int y0, .int y1, .int (3 : Int32), .int y2, .int (4 : Int32)]) (st'' := []) (A'' := im_H g g21 o Y) (c'' := 0) (s'' := 0) 1 0 0 hb52 (fun n => rfl) ?_
    refine iv_blk (mi' := 98) (pc' := 158) (ls' := [.ref 40, .int y0, .int y1, .int (3 : Int32), .int y2, .int (4 : Int32)]) (st' := [.int (0 : Int32)]) (A' := im_H g g21 o Y) (c' := 0) (s' := 0) 1 (fun n => rfl) ?_
    exact x98_r37_20_ok (u := g21) (y0 := y0) (y1 := y1) (y2 := y2) (y3 := (0 : Int32)) h
  | false =>
    have h := iv_bf hb52 h
    refine iv_brf (mi' := 98) (pc' := 157) (ls' := [.ref 40, .int y0, .int y1, .int (3 : Int32), .int y2, .int (4 : Int32)]) (st' := []) (A' := im_H g g21 o Y) (c' := 0) (s' := 0) (mi'' := 98) (pc'' := 153) (ls'' := [.ref 40, .int y0, .int y1, .int (3 : Int32), .int y2, .int (4 : Int32)]) (st'' := []) (A'' := im_H g g21 o Y) (c'' := 0) (s'' := 0) 1 0 0 hb52 (fun n => rfl) ?_
    refine iv_blk (mi' := 98) (pc' := 158) (ls' := [.ref 40, .int y0, .int y1, .int (3 : Int32), .int y2, .int (4 : Int32)]) (st' := [.int (2 : Int32)]) (A' := im_H g g21 o Y) (c' := 0) (s' := 0) 2 (fun n => rfl) ?_
    exact x98_r37_20_ok (u := g21) (y0 := y0) (y1 := y1) (y2 := y2) (y3 := (2 : Int32)) h
def x98_r37_18 (u : im_M) (y0 : Int32) (y1 : Int32) (y2 : Int32) : Option (Int32 × im_M) :=
  bif iv_in y0 4 then
    bif Op.ifCond.holds .eq y1 then
      (x98_r37_19 (im_w u 52 (y0).toNatClampNeg y1) y0 y1 y2)
    else
      (Option.bind (x93 (im_w u 52 (y0).toNatClampNeg y1) ((u 53) (y0).toNatClampNeg) (0 : Int32)) (fun q19 =>
        bif Op.ifCond.holds .ne q19.1 then
          (x98_r37_19 q19.2 y0 y1 y2)
        else
          (Option.bind (x94_r37 q19.2 (7 : Int32) y0 (0 : Int32)) (fun q20 =>
            x98_r37_19 q20.2 y0 y1 y2))))
  else none
set_option maxRecDepth 100000 in
set_option maxHeartbeats 4000000 in
theorem x98_r37_18_ok {L : Nat} {xs : Nat → Int32} {g u mm : im_M} {o : Nat → Int64} {Y : iv_A} {y0 y1 y2 ret : Int32} (h : x98_r37_18 u y0 y1 y2 = some (ret, mm)) : iv_ev (iv_Xs L xs) 98 107 [.ref 40, .int y0, .int y1, .int (2 : Int32), .int y2, .int (4 : Int32)] [] (im_H g u o Y) 0 0 (.inl none, im_H g mm o Y) := by
  unfold x98_r37_18 at h
  cases hb49 : iv_in y0 4 with
  | false => exact (iv_bn hb49 h).elim
  | true =>
    have h := iv_bt hb49 h
    refine iv_chk (mi' := 98) (pc' := 120) (ls' := [.ref 40, .int y0, .int y1, .int (3 : Int32), .int y2, .int (4 : Int32)]) (st' := []) (A' := List.set (im_H g u o Y) 52 (.inl (0, 4, .inl (upd (u 52) (y0).toNatClampNeg y1)))) (c' := 0) (s' := 0) 10 hb49 (fun n => rfl) ?_
    rw [im_a52]
    cases hb50 : Op.ifCond.holds .eq y1 with
    | true =>
      have h := iv_bt hb50 h
      refine iv_brt (mi' := 98) (pc' := 145) (ls' := [.ref 40, .int y0, .int y1, .int (3 : Int32), .int y2, .int (4 : Int32)]) (st' := []) (A' := im_H g (im_w u 52 (y0).toNatClampNeg y1) o Y) (c' := 0) (s' := 0) (mi'' := 98) (pc'' := 124) (ls'' := [.ref 40, .int y0, .int y1, .int (3 : Int32), .int y2, .int (4 : Int32)]) (st'' := []) (A'' := im_H g (im_w u 52 (y0).toNatClampNeg y1) o Y) (c'' := 0) (s'' := 0) 2 0 0 hb50 (fun n => rfl) ?_
      exact x98_r37_19_ok (u := (im_w u 52 (y0).toNatClampNeg y1)) (y0 := y0) (y1 := y1) (y2 := y2) h
    | false =>
      have h := iv_bf hb50 h
      refine iv_brf (mi' := 98) (pc' := 145) (ls' := [.ref 40, .int y0, .int y1, .int (3 : Int32), .int y2, .int (4 : Int32)]) (st' := []) (A' := im_H g (im_w u 52 (y0).toNatClampNeg y1) o Y) (c' := 0) (s' := 0) (mi'' := 98) (pc'' := 124) (ls'' := [.ref 40, .int y0, .int y1, .int (3 : Int32), .int y2, .int (4 : Int32)]) (st'' := []) (A'' := im_H g (im_w u 52 (y0).toNatClampNeg y1) o Y) (c'' := 0) (s'' := 0) 2 0 0 hb50 (fun n => rfl) ?_
      refine iv_chk (mi' := 98) (pc' := 130) (ls' := [.ref 40, .int y0, .int y1, .int (3 : Int32), .int y2, .int (4 : Int32)]) (st' := [.int ((u 53) (y0).toNatClampNeg)]) (A' := im_H g (im_w u 52 (y0).toNatClampNeg y1) o Y) (c' := 0) (s' := 0) 4 hb49 (fun n => rfl) ?_
      obtain ⟨v19, g19, hc, h⟩ := iv_bd h
      refine iv_cal (mi' := 98) (pc' := 131) (ls' := [.ref 40, .int y0, .int y1, .int (3 : Int32), .int y2, .int (4 : Int32)]) (rest := []) (A' := im_H g (im_w u 52 (y0).toNatClampNeg y1) o Y) (c' := 0) (s' := 0) (as := [.int ((u 53) (y0).toNatClampNeg), .int (0 : Int32)]) (v := some (.int v19)) (A'' := im_H g g19 o Y) 2 93 (fun n => rfl) rfl (x93_ok (u := (im_w u 52 (y0).toNatClampNeg y1)) (a := ((u 53) (y0).toNatClampNeg)) (b := (0 : Int32)) hc) ?_
      show iv_ev (iv_Xs L xs) 98 134 [.ref 40, .int y0, .int y1, .int (3 : Int32), .int y2, .int (4 : Int32)] [.int v19] (im_H g g19 o Y) 0 0 _
      cases hb51 : Op.ifCond.holds .ne v19 with
      | true =>
        have h := iv_bt hb51 h
        refine iv_brt (mi' := 98) (pc' := 145) (ls' := [.ref 40, .int y0, .int y1, .int (3 : Int32), .int y2, .int (4 : Int32)]) (st' := []) (A' := im_H g g19 o Y) (c' := 0) (s' := 0) (mi'' := 98) (pc'' := 137) (ls'' := [.ref 40, .int y0, .int y1, .int (3 : Int32), .int y2, .int (4 : Int32)]) (st'' := []) (A'' := im_H g g19 o Y) (c'' := 0) (s'' := 0) 1 0 0 hb51 (fun n => rfl) ?_
        exact x98_r37_19_ok (u := g19) (y0 := y0) (y1 := y1) (y2 := y2) h
      | false =>
        have h := iv_bf hb51 h
        refine iv_brf (mi' := 98) (pc' := 145) (ls' := [.ref 40, .int y0, .int y1, .int (3 : Int32), .int y2, .int (4 : Int32)]) (st' := []) (A' := im_H g g19 o Y) (c' := 0) (s' := 0) (mi'' := 98) (pc'' := 137) (ls'' := [.ref 40, .int y0, .int y1, .int (3 : Int32), .int y2, .int (4 : Int32)]) (st'' := []) (A'' := im_H g g19 o Y) (c'' := 0) (s'' := 0) 1 0 0 hb51 (fun n => rfl) ?_
        obtain ⟨v20, g20, hc, h⟩ := iv_bd h
        refine iv_cal (mi' := 98) (pc' := 142) (ls' := [.ref 40, .int y0, .int y1, .int (3 : Int32), .int y2, .int (4 : Int32)]) (rest := []) (A' := im_H g g19 o Y) (c' := 0) (s' := 0) (as := [.ref 40, .int (7 : Int32), .int y0, .int (0 : Int32)]) (v := none) (A'' := im_H g g20 o Y) 5 94 (fun n => rfl) rfl (x94_r37_ok (u := g19) (a := (7 : Int32)) (b := y0) (c := (0 : Int32)) hc) ?_
        show iv_ev (iv_Xs L xs) 98 145 [.ref 40, .int y0, .int y1, .int (3 : Int32), .int y2, .int (4 : Int32)] [] (im_H g g20 o Y) 0 0 _
        exact x98_r37_19_ok (u := g20) (y0 := y0) (y1 := y1) (y2 := y2) h
def x98_r37_17 (u : im_M) (y0 : Int32) (y1 : Int32) (y2 : Int32) (y3 : Int32) (y4 : Int32) : Option (Int32 × im_M) :=
  bif Op.if_icmp.holds .le y2 (1 : Int32) then
    (x98_r37_18 u y0 (y4 ||| y3) y2)
  else
    (bif iv_in y0 4 then
      Option.bind (x93 u ((u 52) (y0).toNatClampNeg) (2 : Int32)) (fun q17 =>
        bif Op.ifCond.holds .ne q17.1 then
          (x98_r37_18 q17.2 y0 (y4 ||| y3) y2)
        else
          (Option.bind (x94_r37 q17.2 (6 : Int32) y0 (2 : Int32)) (fun q18 =>
            x98_r37_18 q18.2 y0 (y4 ||| y3) y2)))
    else none)
set_option maxRecDepth 100000 in
set_option maxHeartbeats 4000000 in
theorem x98_r37_17_ok {L : Nat} {xs : Nat → Int32} {g u mm : im_M} {o : Nat → Int64} {Y : iv_A} {y0 y1 y2 y3 y4 ret : Int32} (h : x98_r37_17 u y0 y1 y2 y3 y4 = some (ret, mm)) : iv_ev (iv_Xs L xs) 98 78 [.ref 40, .int y0, .int y1, .int (2 : Int32), .int y2, .int (4 : Int32)] [.int y3, .int y4] (im_H g u o Y) 0 0 (.inl none, im_H g mm o Y) := by
  unfold x98_r37_17 at h
  cases hb46 : Op.if_icmp.holds .le y2 (1 : Int32) with
  | true =>
    have h := iv_bt hb46 h
    refine iv_brt (mi' := 98) (pc' := 107) (ls' := [.ref 40, .int y0, .int (y4 ||| y3), .int (2 : Int32), .int y2, .int (4 : Int32)]) (st' := []) (A' := im_H g u o Y) (c' := 0) (s' := 0) (mi'' := 98) (pc'' := 86) (ls'' := [.ref 40, .int y0, .int (y4 ||| y3), .int (2 : Int32), .int y2, .int (4 : Int32)]) (st'' := []) (A'' := im_H g u o Y) (c'' := 0) (s'' := 0) 5 0 0 hb46 (fun n => rfl) ?_
    exact x98_r37_18_ok (u := u) (y0 := y0) (y1 := (y4 ||| y3)) (y2 := y2) h
  | false =>
    have h := iv_bf hb46 h
    refine iv_brf (mi' := 98) (pc' := 107) (ls' := [.ref 40, .int y0, .int (y4 ||| y3), .int (2 : Int32), .int y2, .int (4 : Int32)]) (st' := []) (A' := im_H g u o Y) (c' := 0) (s' := 0) (mi'' := 98) (pc'' := 86) (ls'' := [.ref 40, .int y0, .int (y4 ||| y3), .int (2 : Int32), .int y2, .int (4 : Int32)]) (st'' := []) (A'' := im_H g u o Y) (c'' := 0) (s'' := 0) 5 0 0 hb46 (fun n => rfl) ?_
    cases hb47 : iv_in y0 4 with
    | false => exact (iv_bn hb47 h).elim
    | true =>
      have h := iv_bt hb47 h
      refine iv_chk (mi' := 98) (pc' := 92) (ls' := [.ref 40, .int y0, .int (y4 ||| y3), .int (2 : Int32), .int y2, .int (4 : Int32)]) (st' := [.int ((u 52) (y0).toNatClampNeg)]) (A' := im_H g u o Y) (c' := 0) (s' := 0) 4 hb47 (fun n => rfl) ?_
      obtain ⟨v17, g17, hc, h⟩ := iv_bd h
      refine iv_cal (mi' := 98) (pc' := 93) (ls' := [.ref 40, .int y0, .int (y4 ||| y3), .int (2 : Int32), .int y2, .int (4 : Int32)]) (rest := []) (A' := im_H g u o Y) (c' := 0) (s' := 0) (as := [.int ((u 52) (y0).toNatClampNeg), .int (2 : Int32)]) (v := some (.int v17)) (A'' := im_H g g17 o Y) 2 93 (fun n => rfl) rfl (x93_ok (u := u) (a := ((u 52) (y0).toNatClampNeg)) (b := (2 : Int32)) hc) ?_
      show iv_ev (iv_Xs L xs) 98 96 [.ref 40, .int y0, .int (y4 ||| y3), .int (2 : Int32), .int y2, .int (4 : Int32)] [.int v17] (im_H g g17 o Y) 0 0 _
      cases hb48 : Op.ifCond.holds .ne v17 with
      | true =>
        have h := iv_bt hb48 h
        refine iv_brt (mi' := 98) (pc' := 107) (ls' := [.ref 40, .int y0, .int (y4 ||| y3), .int (2 : Int32), .int y2, .int (4 : Int32)]) (st' := []) (A' := im_H g g17 o Y) (c' := 0) (s' := 0) (mi'' := 98) (pc'' := 99) (ls'' := [.ref 40, .int y0, .int (y4 ||| y3), .int (2 : Int32), .int y2, .int (4 : Int32)]) (st'' := []) (A'' := im_H g g17 o Y) (c'' := 0) (s'' := 0) 1 0 0 hb48 (fun n => rfl) ?_
        exact x98_r37_18_ok (u := g17) (y0 := y0) (y1 := (y4 ||| y3)) (y2 := y2) h
      | false =>
        have h := iv_bf hb48 h
        refine iv_brf (mi' := 98) (pc' := 107) (ls' := [.ref 40, .int y0, .int (y4 ||| y3), .int (2 : Int32), .int y2, .int (4 : Int32)]) (st' := []) (A' := im_H g g17 o Y) (c' := 0) (s' := 0) (mi'' := 98) (pc'' := 99) (ls'' := [.ref 40, .int y0, .int (y4 ||| y3), .int (2 : Int32), .int y2, .int (4 : Int32)]) (st'' := []) (A'' := im_H g g17 o Y) (c'' := 0) (s'' := 0) 1 0 0 hb48 (fun n => rfl) ?_
        obtain ⟨v18, g18, hc, h⟩ := iv_bd h
        refine iv_cal (mi' := 98) (pc' := 104) (ls' := [.ref 40, .int y0, .int (y4 ||| y3), .int (2 : Int32), .int y2, .int (4 : Int32)]) (rest := []) (A' := im_H g g17 o Y) (c' := 0) (s' := 0) (as := [.ref 40, .int (6 : Int32), .int y0, .int (2 : Int32)]) (v := none) (A'' := im_H g g18 o Y) 5 94 (fun n => rfl) rfl (x94_r37_ok (u := g17) (a := (6 : Int32)) (b := y0) (c := (2 : Int32)) hc) ?_
        show iv_ev (iv_Xs L xs) 98 107 [.ref 40, .int y0, .int (y4 ||| y3), .int (2 : Int32), .int y2, .int (4 : Int32)] [] (im_H g g18 o Y) 0 0 _
        exact x98_r37_18_ok (u := g18) (y0 := y0) (y1 := (y4 ||| y3)) (y2 := y2) h
def x98_r37_16 (u : im_M) (y0 : Int32) (y1 : Int32) (y2 : Int32) (y3 : Int32) (y4 : Int32) : Option (Int32 × im_M) :=
  bif Op.if_icmp.holds .le (y4 + y3) (1 : Int32) then
    (x98_r37_17 u y0 y1 (y4 + y3) (0 : Int32) y1)
  else
    (x98_r37_17 u y0 y1 (y4 + y3) (4 : Int32) y1)
set_option maxRecDepth 100000 in
set_option maxHeartbeats 4000000 in
theorem x98_r37_16_ok {L : Nat} {xs : Nat → Int32} {g u mm : im_M} {o : Nat → Int64} {Y : iv_A} {y0 y1 y2 y3 y4 ret : Int32} (h : x98_r37_16 u y0 y1 y2 y3 y4 = some (ret, mm)) : iv_ev (iv_Xs L xs) 98 55 [.ref 40, .int y0, .int y1, .int (2 : Int32), .int y2, .int (3 : Int32)] [.int y3, .int y4] (im_H g u o Y) 0 0 (.inl none, im_H g mm o Y) := by
  unfold x98_r37_16 at h
  cases hb45 : Op.if_icmp.holds .le (y4 + y3) (1 : Int32) with
  | true =>
    have h := iv_bt hb45 h
    refine iv_brt (mi' := 98) (pc' := 77) (ls' := [.ref 40, .int y0, .int y1, .int (2 : Int32), .int (y4 + y3), .int (4 : Int32)]) (st' := [.int y1]) (A' := im_H g u o Y) (c' := 0) (s' := 0) (mi'' := 98) (pc'' := 71) (ls'' := [.ref 40, .int y0, .int y1, .int (2 : Int32), .int (y4 + y3), .int (4 : Int32)]) (st'' := [.int y1]) (A'' := im_H g u o Y) (c'' := 0) (s'' := 0) 11 0 0 hb45 (fun n => rfl) ?_
    refine iv_blk (mi' := 98) (pc' := 78) (ls' := [.ref 40, .int y0, .int y1, .int (2 : Int32), .int (y4 + y3), .int (4 : Int32)]) (st' := [.int (0 : Int32), .int y1]) (A' := im_H g u o Y) (c' := 0) (s' := 0) 1 (fun n => rfl) ?_
    exact x98_r37_17_ok (u := u) (y0 := y0) (y1 := y1) (y2 := (y4 + y3)) (y3 := (0 : Int32)) (y4 := y1) h
  | false =>
    have h := iv_bf hb45 h
    refine iv_brf (mi' := 98) (pc' := 77) (ls' := [.ref 40, .int y0, .int y1, .int (2 : Int32), .int (y4 + y3), .int (4 : Int32)]) (st' := [.int y1]) (A' := im_H g u o Y) (c' := 0) (s' := 0) (mi'' := 98) (pc'' := 71) (ls'' := [.ref 40, .int y0, .int y1, .int (2 : Int32), .int (y4 + y3), .int (4 : Int32)]) (st'' := [.int y1]) (A'' := im_H g u o Y) (c'' := 0) (s'' := 0) 11 0 0 hb45 (fun n => rfl) ?_
    refine iv_blk (mi' := 98) (pc' := 78) (ls' := [.ref 40, .int y0, .int y1, .int (2 : Int32), .int (y4 + y3), .int (4 : Int32)]) (st' := [.int (4 : Int32), .int y1]) (A' := im_H g u o Y) (c' := 0) (s' := 0) 4 (fun n => rfl) ?_
    exact x98_r37_17_ok (u := u) (y0 := y0) (y1 := y1) (y2 := (y4 + y3)) (y3 := (4 : Int32)) (y4 := y1) h
def x98_r37_15 (u : im_M) (y0 : Int32) (y1 : Int32) (y2 : Int32) (y3 : Int32) (y4 : Int32) : Option (Int32 × im_M) :=
  bif Op.if_icmp.holds .eq (3 : Int32) (u 37 19) then
    (x98_r37_16 u y0 y1 (y4 + y3) (0 : Int32) (y4 + y3))
  else
    (bif iv_in (((4 : Int32) * y0) + (3 : Int32)) 16 then
      Option.bind (x93 u ((u 50) ((((4 : Int32) * y0) + (3 : Int32))).toNatClampNeg) (2 : Int32)) (fun q16 =>
        bif Op.ifCond.holds .eq q16.1 then
          (x98_r37_16 q16.2 y0 y1 (y4 + y3) (0 : Int32) (y4 + y3))
        else
          (x98_r37_16 q16.2 y0 y1 (y4 + y3) (1 : Int32) (y4 + y3)))
    else none)
set_option maxRecDepth 100000 in
set_option maxHeartbeats 4000000 in
theorem x98_r37_15_ok {L : Nat} {xs : Nat → Int32} {g u mm : im_M} {o : Nat → Int64} {Y : iv_A} {y0 y1 y2 y3 y4 ret : Int32} (h : x98_r37_15 u y0 y1 y2 y3 y4 = some (ret, mm)) : iv_ev (iv_Xs L xs) 98 55 [.ref 40, .int y0, .int y1, .int (2 : Int32), .int y2, .int (2 : Int32)] [.int y3, .int y4] (im_H g u o Y) 0 0 (.inl none, im_H g mm o Y) := by
  unfold x98_r37_15 at h
  cases hb42 : Op.if_icmp.holds .eq (3 : Int32) (u 37 19) with
  | true =>
    have h := iv_bt hb42 h
    refine iv_brt (mi' := 98) (pc' := 54) (ls' := [.ref 40, .int y0, .int y1, .int (2 : Int32), .int (y4 + y3), .int (3 : Int32)]) (st' := [.int (y4 + y3)]) (A' := im_H g u o Y) (c' := 0) (s' := 0) (mi'' := 98) (pc'' := 32) (ls'' := [.ref 40, .int y0, .int y1, .int (2 : Int32), .int (y4 + y3), .int (3 : Int32)]) (st'' := [.int (y4 + y3)]) (A'' := im_H g u o Y) (c'' := 0) (s'' := 0) 12 0 0 hb42 (fun n => rfl) ?_
    refine iv_blk (mi' := 98) (pc' := 55) (ls' := [.ref 40, .int y0, .int y1, .int (2 : Int32), .int (y4 + y3), .int (3 : Int32)]) (st' := [.int (0 : Int32), .int (y4 + y3)]) (A' := im_H g u o Y) (c' := 0) (s' := 0) 1 (fun n => rfl) ?_
    exact x98_r37_16_ok (u := u) (y0 := y0) (y1 := y1) (y2 := (y4 + y3)) (y3 := (0 : Int32)) (y4 := (y4 + y3)) h
  | false =>
    have h := iv_bf hb42 h
    refine iv_brf (mi' := 98) (pc' := 54) (ls' := [.ref 40, .int y0, .int y1, .int (2 : Int32), .int (y4 + y3), .int (3 : Int32)]) (st' := [.int (y4 + y3)]) (A' := im_H g u o Y) (c' := 0) (s' := 0) (mi'' := 98) (pc'' := 32) (ls'' := [.ref 40, .int y0, .int y1, .int (2 : Int32), .int (y4 + y3), .int (3 : Int32)]) (st'' := [.int (y4 + y3)]) (A'' := im_H g u o Y) (c'' := 0) (s'' := 0) 12 0 0 hb42 (fun n => rfl) ?_
    cases hb43 : iv_in (((4 : Int32) * y0) + (3 : Int32)) 16 with
    | false => exact (iv_bn hb43 h).elim
    | true =>
      have h := iv_bt hb43 h
      refine iv_chk (mi' := 98) (pc' := 43) (ls' := [.ref 40, .int y0, .int y1, .int (2 : Int32), .int (y4 + y3), .int (3 : Int32)]) (st' := [.int ((u 50) ((((4 : Int32) * y0) + (3 : Int32))).toNatClampNeg), .int (y4 + y3)]) (A' := im_H g u o Y) (c' := 0) (s' := 0) 8 hb43 (fun n => rfl) ?_
      obtain ⟨v16, g16, hc, h⟩ := iv_bd h
      refine iv_cal (mi' := 98) (pc' := 44) (ls' := [.ref 40, .int y0, .int y1, .int (2 : Int32), .int (y4 + y3), .int (3 : Int32)]) (rest := [.int (y4 + y3)]) (A' := im_H g u o Y) (c' := 0) (s' := 0) (as := [.int ((u 50) ((((4 : Int32) * y0) + (3 : Int32))).toNatClampNeg), .int (2 : Int32)]) (v := some (.int v16)) (A'' := im_H g g16 o Y) 2 93 (fun n => rfl) rfl (x93_ok (u := u) (a := ((u 50) ((((4 : Int32) * y0) + (3 : Int32))).toNatClampNeg)) (b := (2 : Int32)) hc) ?_
      show iv_ev (iv_Xs L xs) 98 47 [.ref 40, .int y0, .int y1, .int (2 : Int32), .int (y4 + y3), .int (3 : Int32)] [.int v16, .int (y4 + y3)] (im_H g g16 o Y) 0 0 _
      cases hb44 : Op.ifCond.holds .eq v16 with
      | true =>
        have h := iv_bt hb44 h
        refine iv_brt (mi' := 98) (pc' := 54) (ls' := [.ref 40, .int y0, .int y1, .int (2 : Int32), .int (y4 + y3), .int (3 : Int32)]) (st' := [.int (y4 + y3)]) (A' := im_H g g16 o Y) (c' := 0) (s' := 0) (mi'' := 98) (pc'' := 50) (ls'' := [.ref 40, .int y0, .int y1, .int (2 : Int32), .int (y4 + y3), .int (3 : Int32)]) (st'' := [.int (y4 + y3)]) (A'' := im_H g g16 o Y) (c'' := 0) (s'' := 0) 1 0 0 hb44 (fun n => rfl) ?_
        refine iv_blk (mi' := 98) (pc' := 55) (ls' := [.ref 40, .int y0, .int y1, .int (2 : Int32), .int (y4 + y3), .int (3 : Int32)]) (st' := [.int (0 : Int32), .int (y4 + y3)]) (A' := im_H g g16 o Y) (c' := 0) (s' := 0) 1 (fun n => rfl) ?_
        exact x98_r37_16_ok (u := g16) (y0 := y0) (y1 := y1) (y2 := (y4 + y3)) (y3 := (0 : Int32)) (y4 := (y4 + y3)) h
      | false =>
        have h := iv_bf hb44 h
        refine iv_brf (mi' := 98) (pc' := 54) (ls' := [.ref 40, .int y0, .int y1, .int (2 : Int32), .int (y4 + y3), .int (3 : Int32)]) (st' := [.int (y4 + y3)]) (A' := im_H g g16 o Y) (c' := 0) (s' := 0) (mi'' := 98) (pc'' := 50) (ls'' := [.ref 40, .int y0, .int y1, .int (2 : Int32), .int (y4 + y3), .int (3 : Int32)]) (st'' := [.int (y4 + y3)]) (A'' := im_H g g16 o Y) (c'' := 0) (s'' := 0) 1 0 0 hb44 (fun n => rfl) ?_
        refine iv_blk (mi' := 98) (pc' := 55) (ls' := [.ref 40, .int y0, .int y1, .int (2 : Int32), .int (y4 + y3), .int (3 : Int32)]) (st' := [.int (1 : Int32), .int (y4 + y3)]) (A' := im_H g g16 o Y) (c' := 0) (s' := 0) 2 (fun n => rfl) ?_
        exact x98_r37_16_ok (u := g16) (y0 := y0) (y1 := y1) (y2 := (y4 + y3)) (y3 := (1 : Int32)) (y4 := (y4 + y3)) h
def x98_r37_14 (u : im_M) (y0 : Int32) (y1 : Int32) (y2 : Int32) (y3 : Int32) (y4 : Int32) : Option (Int32 × im_M) :=
  bif Op.if_icmp.holds .eq (2 : Int32) (u 37 19) then
    (x98_r37_15 u y0 y1 (y4 + y3) (0 : Int32) (y4 + y3))
  else
    (bif iv_in (((4 : Int32) * y0) + (2 : Int32)) 16 then
      Option.bind (x93 u ((u 50) ((((4 : Int32) * y0) + (2 : Int32))).toNatClampNeg) (2 : Int32)) (fun q15 =>
        bif Op.ifCond.holds .eq q15.1 then
          (x98_r37_15 q15.2 y0 y1 (y4 + y3) (0 : Int32) (y4 + y3))
        else
          (x98_r37_15 q15.2 y0 y1 (y4 + y3) (1 : Int32) (y4 + y3)))
    else none)
set_option maxRecDepth 100000 in
set_option maxHeartbeats 4000000 in
theorem x98_r37_14_ok {L : Nat} {xs : Nat → Int32} {g u mm : im_M} {o : Nat → Int64} {Y : iv_A} {y0 y1 y2 y3 y4 ret : Int32} (h : x98_r37_14 u y0 y1 y2 y3 y4 = some (ret, mm)) : iv_ev (iv_Xs L xs) 98 55 [.ref 40, .int y0, .int y1, .int (2 : Int32), .int y2, .int (1 : Int32)] [.int y3, .int y4] (im_H g u o Y) 0 0 (.inl none, im_H g mm o Y) := by
  unfold x98_r37_14 at h
  cases hb39 : Op.if_icmp.holds .eq (2 : Int32) (u 37 19) with
  | true =>
    have h := iv_bt hb39 h
    refine iv_brt (mi' := 98) (pc' := 54) (ls' := [.ref 40, .int y0, .int y1, .int (2 : Int32), .int (y4 + y3), .int (2 : Int32)]) (st' := [.int (y4 + y3)]) (A' := im_H g u o Y) (c' := 0) (s' := 0) (mi'' := 98) (pc'' := 32) (ls'' := [.ref 40, .int y0, .int y1, .int (2 : Int32), .int (y4 + y3), .int (2 : Int32)]) (st'' := [.int (y4 + y3)]) (A'' := im_H g u o Y) (c'' := 0) (s'' := 0) 12 0 0 hb39 (fun n => rfl) ?_
    refine iv_blk (mi' := 98) (pc' := 55) (ls' := [.ref 40, .int y0, .int y1, .int (2 : Int32), .int (y4 + y3), .int (2 : Int32)]) (st' := [.int (0 : Int32), .int (y4 + y3)]) (A' := im_H g u o Y) (c' := 0) (s' := 0) 1 (fun n => rfl) ?_
    exact x98_r37_15_ok (u := u) (y0 := y0) (y1 := y1) (y2 := (y4 + y3)) (y3 := (0 : Int32)) (y4 := (y4 + y3)) h
  | false =>
    have h := iv_bf hb39 h
    refine iv_brf (mi' := 98) (pc' := 54) (ls' := [.ref 40, .int y0, .int y1, .int (2 : Int32), .int (y4 + y3), .int (2 : Int32)]) (st' := [.int (y4 + y3)]) (A' := im_H g u o Y) (c' := 0) (s' := 0) (mi'' := 98) (pc'' := 32) (ls'' := [.ref 40, .int y0, .int y1, .int (2 : Int32), .int (y4 + y3), .int (2 : Int32)]) (st'' := [.int (y4 + y3)]) (A'' := im_H g u o Y) (c'' := 0) (s'' := 0) 12 0 0 hb39 (fun n => rfl) ?_
    cases hb40 : iv_in (((4 : Int32) * y0) + (2 : Int32)) 16 with
    | false => exact (iv_bn hb40 h).elim
    | true =>
      have h := iv_bt hb40 h
      refine iv_chk (mi' := 98) (pc' := 43) (ls' := [.ref 40, .int y0, .int y1, .int (2 : Int32), .int (y4 + y3), .int (2 : Int32)]) (st' := [.int ((u 50) ((((4 : Int32) * y0) + (2 : Int32))).toNatClampNeg), .int (y4 + y3)]) (A' := im_H g u o Y) (c' := 0) (s' := 0) 8 hb40 (fun n => rfl) ?_
      obtain ⟨v15, g15, hc, h⟩ := iv_bd h
      refine iv_cal (mi' := 98) (pc' := 44) (ls' := [.ref 40, .int y0, .int y1, .int (2 : Int32), .int (y4 + y3), .int (2 : Int32)]) (rest := [.int (y4 + y3)]) (A' := im_H g u o Y) (c' := 0) (s' := 0) (as := [.int ((u 50) ((((4 : Int32) * y0) + (2 : Int32))).toNatClampNeg), .int (2 : Int32)]) (v := some (.int v15)) (A'' := im_H g g15 o Y) 2 93 (fun n => rfl) rfl (x93_ok (u := u) (a := ((u 50) ((((4 : Int32) * y0) + (2 : Int32))).toNatClampNeg)) (b := (2 : Int32)) hc) ?_
      show iv_ev (iv_Xs L xs) 98 47 [.ref 40, .int y0, .int y1, .int (2 : Int32), .int (y4 + y3), .int (2 : Int32)] [.int v15, .int (y4 + y3)] (im_H g g15 o Y) 0 0 _
      cases hb41 : Op.ifCond.holds .eq v15 with
      | true =>
        have h := iv_bt hb41 h
        refine iv_brt (mi' := 98) (pc' := 54) (ls' := [.ref 40, .int y0, .int y1, .int (2 : Int32), .int (y4 + y3), .int (2 : Int32)]) (st' := [.int (y4 + y3)]) (A' := im_H g g15 o Y) (c' := 0) (s' := 0) (mi'' := 98) (pc'' := 50) (ls'' := [.ref 40, .int y0, .int y1, .int (2 : Int32), .int (y4 + y3), .int (2 : Int32)]) (st'' := [.int (y4 + y3)]) (A'' := im_H g g15 o Y) (c'' := 0) (s'' := 0) 1 0 0 hb41 (fun n => rfl) ?_
        refine iv_blk (mi' := 98) (pc' := 55) (ls' := [.ref 40, .int y0, .int y1, .int (2 : Int32), .int (y4 + y3), .int (2 : Int32)]) (st' := [.int (0 : Int32), .int (y4 + y3)]) (A' := im_H g g15 o Y) (c' := 0) (s' := 0) 1 (fun n => rfl) ?_
        exact x98_r37_15_ok (u := g15) (y0 := y0) (y1 := y1) (y2 := (y4 + y3)) (y3 := (0 : Int32)) (y4 := (y4 + y3)) h
      | false =>
        have h := iv_bf hb41 h
        refine iv_brf (mi' := 98) (pc' := 54) (ls' := [.ref 40, .int y0, .int y1, .int (2 : Int32), .int (y4 + y3), .int (2 : Int32)]) (st' := [.int (y4 + y3)]) (A' := im_H g g15 o Y) (c' := 0) (s' := 0) (mi'' := 98) (pc'' := 50) (ls'' := [.ref 40, .int y0, .int y1, .int (2 : Int32), .int (y4 + y3), .int (2 : Int32)]) (st'' := [.int (y4 + y3)]) (A'' := im_H g g15 o Y) (c'' := 0) (s'' := 0) 1 0 0 hb41 (fun n => rfl) ?_
        refine iv_blk (mi' := 98) (pc' := 55) (ls' := [.ref 40, .int y0, .int y1, .int (2 : Int32), .int (y4 + y3), .int (2 : Int32)]) (st' := [.int (1 : Int32), .int (y4 + y3)]) (A' := im_H g g15 o Y) (c' := 0) (s' := 0) 2 (fun n => rfl) ?_
        exact x98_r37_15_ok (u := g15) (y0 := y0) (y1 := y1) (y2 := (y4 + y3)) (y3 := (1 : Int32)) (y4 := (y4 + y3)) h
def x98_r37_13 (u : im_M) (y0 : Int32) (y1 : Int32) (y2 : Int32) : Option (Int32 × im_M) :=
  bif Op.if_icmp.holds .eq (1 : Int32) (u 37 19) then
    (x98_r37_14 u y0 y1 ((0 : Int32) + y2) (0 : Int32) ((0 : Int32) + y2))
  else
    (bif iv_in (((4 : Int32) * y0) + (1 : Int32)) 16 then
      Option.bind (x93 u ((u 50) ((((4 : Int32) * y0) + (1 : Int32))).toNatClampNeg) (2 : Int32)) (fun q14 =>
        bif Op.ifCond.holds .eq q14.1 then
          (x98_r37_14 q14.2 y0 y1 ((0 : Int32) + y2) (0 : Int32) ((0 : Int32) + y2))
        else
          (x98_r37_14 q14.2 y0 y1 ((0 : Int32) + y2) (1 : Int32) ((0 : Int32) + y2)))
    else none)
set_option maxRecDepth 100000 in
set_option maxHeartbeats 4000000 in
theorem x98_r37_13_ok {L : Nat} {xs : Nat → Int32} {g u mm : im_M} {o : Nat → Int64} {Y : iv_A} {y0 y1 y2 ret : Int32} (h : x98_r37_13 u y0 y1 y2 = some (ret, mm)) : iv_ev (iv_Xs L xs) 98 55 [.ref 40, .int y0, .int y1, .int (2 : Int32), .int (0 : Int32), .int (0 : Int32)] [.int y2, .int (0 : Int32)] (im_H g u o Y) 0 0 (.inl none, im_H g mm o Y) := by
  unfold x98_r37_13 at h
  cases hb36 : Op.if_icmp.holds .eq (1 : Int32) (u 37 19) with
  | true =>
    have h := iv_bt hb36 h
    refine iv_brt (mi' := 98) (pc' := 54) (ls' := [.ref 40, .int y0, .int y1, .int (2 : Int32), .int ((0 : Int32) + y2), .int (1 : Int32)]) (st' := [.int ((0 : Int32) + y2)]) (A' := im_H g u o Y) (c' := 0) (s' := 0) (mi'' := 98) (pc'' := 32) (ls'' := [.ref 40, .int y0, .int y1, .int (2 : Int32), .int ((0 : Int32) + y2), .int (1 : Int32)]) (st'' := [.int ((0 : Int32) + y2)]) (A'' := im_H g u o Y) (c'' := 0) (s'' := 0) 12 0 0 hb36 (fun n => rfl) ?_
    refine iv_blk (mi' := 98) (pc' := 55) (ls' := [.ref 40, .int y0, .int y1, .int (2 : Int32), .int ((0 : Int32) + y2), .int (1 : Int32)]) (st' := [.int (0 : Int32), .int ((0 : Int32) + y2)]) (A' := im_H g u o Y) (c' := 0) (s' := 0) 1 (fun n => rfl) ?_
    exact x98_r37_14_ok (u := u) (y0 := y0) (y1 := y1) (y2 := ((0 : Int32) + y2)) (y3 := (0 : Int32)) (y4 := ((0 : Int32) + y2)) h
  | false =>
    have h := iv_bf hb36 h
    refine iv_brf (mi' := 98) (pc' := 54) (ls' := [.ref 40, .int y0, .int y1, .int (2 : Int32), .int ((0 : Int32) + y2), .int (1 : Int32)]) (st' := [.int ((0 : Int32) + y2)]) (A' := im_H g u o Y) (c' := 0) (s' := 0) (mi'' := 98) (pc'' := 32) (ls'' := [.ref 40, .int y0, .int y1, .int (2 : Int32), .int ((0 : Int32) + y2), .int (1 : Int32)]) (st'' := [.int ((0 : Int32) + y2)]) (A'' := im_H g u o Y) (c'' := 0) (s'' := 0) 12 0 0 hb36 (fun n => rfl) ?_
    cases hb37 : iv_in (((4 : Int32) * y0) + (1 : Int32)) 16 with
    | false => exact (iv_bn hb37 h).elim
    | true =>
      have h := iv_bt hb37 h
      refine iv_chk (mi' := 98) (pc' := 43) (ls' := [.ref 40, .int y0, .int y1, .int (2 : Int32), .int ((0 : Int32) + y2), .int (1 : Int32)]) (st' := [.int ((u 50) ((((4 : Int32) * y0) + (1 : Int32))).toNatClampNeg), .int ((0 : Int32) + y2)]) (A' := im_H g u o Y) (c' := 0) (s' := 0) 8 hb37 (fun n => rfl) ?_
      obtain ⟨v14, g14, hc, h⟩ := iv_bd h
      refine iv_cal (mi' := 98) (pc' := 44) (ls' := [.ref 40, .int y0, .int y1, .int (2 : Int32), .int ((0 : Int32) + y2), .int (1 : Int32)]) (rest := [.int ((0 : Int32) + y2)]) (A' := im_H g u o Y) (c' := 0) (s' := 0) (as := [.int ((u 50) ((((4 : Int32) * y0) + (1 : Int32))).toNatClampNeg), .int (2 : Int32)]) (v := some (.int v14)) (A'' := im_H g g14 o Y) 2 93 (fun n => rfl) rfl (x93_ok (u := u) (a := ((u 50) ((((4 : Int32) * y0) + (1 : Int32))).toNatClampNeg)) (b := (2 : Int32)) hc) ?_
      show iv_ev (iv_Xs L xs) 98 47 [.ref 40, .int y0, .int y1, .int (2 : Int32), .int ((0 : Int32) + y2), .int (1 : Int32)] [.int v14, .int ((0 : Int32) + y2)] (im_H g g14 o Y) 0 0 _
      cases hb38 : Op.ifCond.holds .eq v14 with
      | true =>
        have h := iv_bt hb38 h
        refine iv_brt (mi' := 98) (pc' := 54) (ls' := [.ref 40, .int y0, .int y1, .int (2 : Int32), .int ((0 : Int32) + y2), .int (1 : Int32)]) (st' := [.int ((0 : Int32) + y2)]) (A' := im_H g g14 o Y) (c' := 0) (s' := 0) (mi'' := 98) (pc'' := 50) (ls'' := [.ref 40, .int y0, .int y1, .int (2 : Int32), .int ((0 : Int32) + y2), .int (1 : Int32)]) (st'' := [.int ((0 : Int32) + y2)]) (A'' := im_H g g14 o Y) (c'' := 0) (s'' := 0) 1 0 0 hb38 (fun n => rfl) ?_
        refine iv_blk (mi' := 98) (pc' := 55) (ls' := [.ref 40, .int y0, .int y1, .int (2 : Int32), .int ((0 : Int32) + y2), .int (1 : Int32)]) (st' := [.int (0 : Int32), .int ((0 : Int32) + y2)]) (A' := im_H g g14 o Y) (c' := 0) (s' := 0) 1 (fun n => rfl) ?_
        exact x98_r37_14_ok (u := g14) (y0 := y0) (y1 := y1) (y2 := ((0 : Int32) + y2)) (y3 := (0 : Int32)) (y4 := ((0 : Int32) + y2)) h
      | false =>
        have h := iv_bf hb38 h
        refine iv_brf (mi' := 98) (pc' := 54) (ls' := [.ref 40, .int y0, .int y1, .int (2 : Int32), .int ((0 : Int32) + y2), .int (1 : Int32)]) (st' := [.int ((0 : Int32) + y2)]) (A' := im_H g g14 o Y) (c' := 0) (s' := 0) (mi'' := 98) (pc'' := 50) (ls'' := [.ref 40, .int y0, .int y1, .int (2 : Int32), .int ((0 : Int32) + y2), .int (1 : Int32)]) (st'' := [.int ((0 : Int32) + y2)]) (A'' := im_H g g14 o Y) (c'' := 0) (s'' := 0) 1 0 0 hb38 (fun n => rfl) ?_
        refine iv_blk (mi' := 98) (pc' := 55) (ls' := [.ref 40, .int y0, .int y1, .int (2 : Int32), .int ((0 : Int32) + y2), .int (1 : Int32)]) (st' := [.int (1 : Int32), .int ((0 : Int32) + y2)]) (A' := im_H g g14 o Y) (c' := 0) (s' := 0) 2 (fun n => rfl) ?_
        exact x98_r37_14_ok (u := g14) (y0 := y0) (y1 := y1) (y2 := ((0 : Int32) + y2)) (y3 := (1 : Int32)) (y4 := ((0 : Int32) + y2)) h
def x98_r37_12 (u : im_M) (y0 : Int32) (y1 : Int32) (y2 : Int32) : Option (Int32 × im_M) :=
  bif Op.if_icmp.holds .eq (0 : Int32) (u 37 19) then
    (x98_r37_13 u y0 y1 (0 : Int32))
  else
    (bif iv_in (((4 : Int32) * y0) + (0 : Int32)) 16 then
      Option.bind (x93 u ((u 50) ((((4 : Int32) * y0) + (0 : Int32))).toNatClampNeg) (2 : Int32)) (fun q13 =>
        bif Op.ifCond.holds .eq q13.1 then
          (x98_r37_13 q13.2 y0 y1 (0 : Int32))
        else
          (x98_r37_13 q13.2 y0 y1 (1 : Int32)))
    else none)
set_option maxRecDepth 100000 in
set_option maxHeartbeats 4000000 in
theorem x98_r37_12_ok {L : Nat} {xs : Nat → Int32} {g u mm : im_M} {o : Nat → Int64} {Y : iv_A} {y0 y1 y2 ret : Int32} (h : x98_r37_12 u y0 y1 y2 = some (ret, mm)) : iv_ev (iv_Xs L xs) 98 107 [.ref 40, .int y0, .int y1, .int (1 : Int32), .int y2, .int (4 : Int32)] [] (im_H g u o Y) 0 0 (.inl none, im_H g mm o Y) := by
  unfold x98_r37_12 at h
  cases hb33 : Op.if_icmp.holds .eq (0 : Int32) (u 37 19) with
  | true =>
    have h := iv_bt hb33 h
    refine iv_brt (mi' := 98) (pc' := 54) (ls' := [.ref 40, .int y0, .int y1, .int (2 : Int32), .int (0 : Int32), .int (0 : Int32)]) (st' := [.int (0 : Int32)]) (A' := im_H g u o Y) (c' := 0) (s' := 0) (mi'' := 98) (pc'' := 32) (ls'' := [.ref 40, .int y0, .int y1, .int (2 : Int32), .int (0 : Int32), .int (0 : Int32)]) (st'' := [.int (0 : Int32)]) (A'' := im_H g u o Y) (c'' := 0) (s'' := 0) 17 0 0 hb33 (fun n => rfl) ?_
    refine iv_blk (mi' := 98) (pc' := 55) (ls' := [.ref 40, .int y0, .int y1, .int (2 : Int32), .int (0 : Int32), .int (0 : Int32)]) (st' := [.int (0 : Int32), .int (0 : Int32)]) (A' := im_H g u o Y) (c' := 0) (s' := 0) 1 (fun n => rfl) ?_
    exact x98_r37_13_ok (u := u) (y0 := y0) (y1 := y1) (y2 := (0 : Int32)) h
  | false =>
    have h := iv_bf hb33 h
    refine iv_brf (mi' := 98) (pc' := 54) (ls' := [.ref 40, .int y0, .int y1, .int (2 : Int32), .int (0 : Int32), .int (0 : Int32)]) (st' := [.int (0 : Int32)]) (A' := im_H g u o Y) (c' := 0) (s' := 0) (mi'' := 98) (pc'' := 32) (ls'' := [.ref 40, .int y0, .int y1, .int (2 : Int32), .int (0 : Int32), .int (0 : Int32)]) (st'' := [.int (0 : Int32)]) (A'' := im_H g u o Y) (c'' := 0) (s'' := 0) 17 0 0 hb33 (fun n => rfl) ?_
    cases hb34 : iv_in (((4 : Int32) * y0) + (0 : Int32)) 16 with
    | false => exact (iv_bn hb34 h).elim
    | true =>
      have h := iv_bt hb34 h
      refine iv_chk (mi' := 98) (pc' := 43) (ls' := [.ref 40, .int y0, .int y1, .int (2 : Int32), .int (0 : Int32), .int (0 : Int32)]) (st' := [.int ((u 50) ((((4 : Int32) * y0) + (0 : Int32))).toNatClampNeg), .int (0 : Int32)]) (A' := im_H g u o Y) (c' := 0) (s' := 0) 8 hb34 (fun n => rfl) ?_
      obtain ⟨v13, g13, hc, h⟩ := iv_bd h
      refine iv_cal (mi' := 98) (pc' := 44) (ls' := [.ref 40, .int y0, .int y1, .int (2 : Int32), .int (0 : Int32), .int (0 : Int32)]) (rest := [.int (0 : Int32)]) (A' := im_H g u o Y) (c' := 0) (s' := 0) (as := [.int ((u 50) ((((4 : Int32) * y0) + (0 : Int32))).toNatClampNeg), .int (2 : Int32)]) (v := some (.int v13)) (A'' := im_H g g13 o Y) 2 93 (fun n => rfl) rfl (x93_ok (u := u) (a := ((u 50) ((((4 : Int32) * y0) + (0 : Int32))).toNatClampNeg)) (b := (2 : Int32)) hc) ?_
      show iv_ev (iv_Xs L xs) 98 47 [.ref 40, .int y0, .int y1, .int (2 : Int32), .int (0 : Int32), .int (0 : Int32)] [.int v13, .int (0 : Int32)] (im_H g g13 o Y) 0 0 _
      cases hb35 : Op.ifCond.holds .eq v13 with
      | true =>
        have h := iv_bt hb35 h
        refine iv_brt (mi' := 98) (pc' := 54) (ls' := [.ref 40, .int y0, .int y1, .int (2 : Int32), .int (0 : Int32), .int (0 : Int32)]) (st' := [.int (0 : Int32)]) (A' := im_H g g13 o Y) (c' := 0) (s' := 0) (mi'' := 98) (pc'' := 50) (ls'' := [.ref 40, .int y0, .int y1, .int (2 : Int32), .int (0 : Int32), .int (0 : Int32)]) (st'' := [.int (0 : Int32)]) (A'' := im_H g g13 o Y) (c'' := 0) (s'' := 0) 1 0 0 hb35 (fun n => rfl) ?_
        refine iv_blk (mi' := 98) (pc' := 55) (ls' := [.ref 40, .int y0, .int y1, .int (2 : Int32), .int (0 : Int32), .int (0 : Int32)]) (st' := [.int (0 : Int32), .int (0 : Int32)]) (A' := im_H g g13 o Y) (c' := 0) (s' := 0) 1 (fun n => rfl) ?_
        exact x98_r37_13_ok (u := g13) (y0 := y0) (y1 := y1) (y2 := (0 : Int32)) h
      | false =>
        have h := iv_bf hb35 h
        refine iv_brf (mi' := 98) (pc' := 54) (ls' := [.ref 40, .int y0, .int y1, .int (2 : Int32), .int (0 : Int32), .int (0 : Int32)]) (st' := [.int (0 : Int32)]) (A' := im_H g g13 o Y) (c' := 0) (s' := 0) (mi'' := 98) (pc'' := 50) (ls'' := [.ref 40, .int y0, .int y1, .int (2 : Int32), .int (0 : Int32), .int (0 : Int32)]) (st'' := [.int (0 : Int32)]) (A'' := im_H g g13 o Y) (c'' := 0) (s'' := 0) 1 0 0 hb35 (fun n => rfl) ?_
        refine iv_blk (mi' := 98) (pc' := 55) (ls' := [.ref 40, .int y0, .int y1, .int (2 : Int32), .int (0 : Int32), .int (0 : Int32)]) (st' := [.int (1 : Int32), .int (0 : Int32)]) (A' := im_H g g13 o Y) (c' := 0) (s' := 0) 2 (fun n => rfl) ?_
        exact x98_r37_13_ok (u := g13) (y0 := y0) (y1 := y1) (y2 := (1 : Int32)) h
def x98_r37_11 (u : im_M) (y0 : Int32) (y1 : Int32) (y2 : Int32) (y3 : Int32) (y4 : Int32) : Option (Int32 × im_M) :=
  bif Op.if_icmp.holds .le y2 (1 : Int32) then
    (x98_r37_12 u y0 (y4 ||| y3) y2)
  else
    (bif iv_in y0 4 then
      Option.bind (x93 u ((u 52) (y0).toNatClampNeg) (1 : Int32)) (fun q11 =>
        bif Op.ifCond.holds .ne q11.1 then
          (x98_r37_12 q11.2 y0 (y4 ||| y3) y2)
        else
          (Option.bind (x94_r37 q11.2 (6 : Int32) y0 (1 : Int32)) (fun q12 =>
            x98_r37_12 q12.2 y0 (y4 ||| y3) y2)))
    else none)
set_option maxRecDepth 100000 in
set_option maxHeartbeats 4000000 in
theorem x98_r37_11_ok {L : Nat} {xs : Nat → Int32} {g u mm : im_M} {o : Nat → Int64} {Y : iv_A} {y0 y1 y2 y3 y4 ret : Int32} (h : x98_r37_11 u y0 y1 y2 y3 y4 = some (ret, mm)) : iv_ev (iv_Xs L xs) 98 78 [.ref 40, .int y0, .int y1, .int (1 : Int32), .int y2, .int (4 : Int32)] [.int y3, .int y4] (im_H g u o Y) 0 0 (.inl none, im_H g mm o Y) := by
  unfold x98_r37_11 at h
  cases hb30 : Op.if_icmp.holds .le y2 (1 : Int32) with
  | true =>
    have h := iv_bt hb30 h
    refine iv_brt (mi' := 98) (pc' := 107) (ls' := [.ref 40, .int y0, .int (y4 ||| y3), .int (1 : Int32), .int y2, .int (4 : Int32)]) (st' := []) (A' := im_H g u o Y) (c' := 0) (s' := 0) (mi'' := 98) (pc'' := 86) (ls'' := [.ref 40, .int y0, .int (y4 ||| y3), .int (1 : Int32), .int y2, .int (4 : Int32)]) (st'' := []) (A'' := im_H g u o Y) (c'' := 0) (s'' := 0) 5 0 0 hb30 (fun n => rfl) ?_
    exact x98_r37_12_ok (u := u) (y0 := y0) (y1 := (y4 ||| y3)) (y2 := y2) h
  | false =>
    have h := iv_bf hb30 h
    refine iv_brf (mi' := 98) (pc' := 107) (ls' := [.ref 40, .int y0, .int (y4 ||| y3), .int (1 : Int32), .int y2, .int (4 : Int32)]) (st' := []) (A' := im_H g u o Y) (c' := 0) (s' := 0) (mi'' := 98) (pc'' := 86) (ls'' := [.ref 40, .int y0, .int (y4 ||| y3), .int (1 : Int32), .int y2, .int (4 : Int32)]) (st'' := []) (A'' := im_H g u o Y) (c'' := 0) (s'' := 0) 5 0 0 hb30 (fun n => rfl) ?_
    cases hb31 : iv_in y0 4 with
    | false => exact (iv_bn hb31 h).elim
    | true =>
      have h := iv_bt hb31 h
      refine iv_chk (mi' := 98) (pc' := 92) (ls' := [.ref 40, .int y0, .int (y4 ||| y3), .int (1 : Int32), .int y2, .int (4 : Int32)]) (st' := [.int ((u 52) (y0).toNatClampNeg)]) (A' := im_H g u o Y) (c' := 0) (s' := 0) 4 hb31 (fun n => rfl) ?_
      obtain ⟨v11, g11, hc, h⟩ := iv_bd h
      refine iv_cal (mi' := 98) (pc' := 93) (ls' := [.ref 40, .int y0, .int (y4 ||| y3), .int (1 : Int32), .int y2, .int (4 : Int32)]) (rest := []) (A' := im_H g u o Y) (c' := 0) (s' := 0) (as := [.int ((u 52) (y0).toNatClampNeg), .int (1 : Int32)]) (v := some (.int v11)) (A'' := im_H g g11 o Y) 2 93 (fun n => rfl) rfl (x93_ok (u := u) (a := ((u 52) (y0).toNatClampNeg)) (b := (1 : Int32)) hc) ?_
      show iv_ev (iv_Xs L xs) 98 96 [.ref 40, .int y0, .int (y4 ||| y3), .int (1 : Int32), .int y2, .int (4 : Int32)] [.int v11] (im_H g g11 o Y) 0 0 _
      cases hb32 : Op.ifCond.holds .ne v11 with
      | true =>
        have h := iv_bt hb32 h
        refine iv_brt (mi' := 98) (pc' := 107) (ls' := [.ref 40, .int y0, .int (y4 ||| y3), .int (1 : Int32), .int y2, .int (4 : Int32)]) (st' := []) (A' := im_H g g11 o Y) (c' := 0) (s' := 0) (mi'' := 98) (pc'' := 99) (ls'' := [.ref 40, .int y0, .int (y4 ||| y3), .int (1 : Int32), .int y2, .int (4 : Int32)]) (st'' := []) (A'' := im_H g g11 o Y) (c'' := 0) (s'' := 0) 1 0 0 hb32 (fun n => rfl) ?_
        exact x98_r37_12_ok (u := g11) (y0 := y0) (y1 := (y4 ||| y3)) (y2 := y2) h
      | false =>
        have h := iv_bf hb32 h
        refine iv_brf (mi' := 98) (pc' := 107) (ls' := [.ref 40, .int y0, .int (y4 ||| y3), .int (1 : Int32), .int y2, .int (4 : Int32)]) (st' := []) (A' := im_H g g11 o Y) (c' := 0) (s' := 0) (mi'' := 98) (pc'' := 99) (ls'' := [.ref 40, .int y0, .int (y4 ||| y3), .int (1 : Int32), .int y2, .int (4 : Int32)]) (st'' := []) (A'' := im_H g g11 o Y) (c'' := 0) (s'' := 0) 1 0 0 hb32 (fun n => rfl) ?_
        obtain ⟨v12, g12, hc, h⟩ := iv_bd h
        refine iv_cal (mi' := 98) (pc' := 104) (ls' := [.ref 40, .int y0, .int (y4 ||| y3), .int (1 : Int32), .int y2, .int (4 : Int32)]) (rest := []) (A' := im_H g g11 o Y) (c' := 0) (s' := 0) (as := [.ref 40, .int (6 : Int32), .int y0, .int (1 : Int32)]) (v := none) (A'' := im_H g g12 o Y) 5 94 (fun n => rfl) rfl (x94_r37_ok (u := g11) (a := (6 : Int32)) (b := y0) (c := (1 : Int32)) hc) ?_
        show iv_ev (iv_Xs L xs) 98 107 [.ref 40, .int y0, .int (y4 ||| y3), .int (1 : Int32), .int y2, .int (4 : Int32)] [] (im_H g g12 o Y) 0 0 _
        exact x98_r37_12_ok (u := g12) (y0 := y0) (y1 := (y4 ||| y3)) (y2 := y2) h
def x98_r37_10 (u : im_M) (y0 : Int32) (y1 : Int32) (y2 : Int32) (y3 : Int32) (y4 : Int32) : Option (Int32 × im_M) :=
  bif Op.if_icmp.holds .le (y4 + y3) (1 : Int32) then
    (x98_r37_11 u y0 y1 (y4 + y3) (0 : Int32) y1)
  else
    (x98_r37_11 u y0 y1 (y4 + y3) (2 : Int32) y1)
set_option maxRecDepth 100000 in
set_option maxHeartbeats 4000000 in
theorem x98_r37_10_ok {L : Nat} {xs : Nat → Int32} {g u mm : im_M} {o : Nat → Int64} {Y : iv_A} {y0 y1 y2 y3 y4 ret : Int32} (h : x98_r37_10 u y0 y1 y2 y3 y4 = some (ret, mm)) : iv_ev (iv_Xs L xs) 98 55 [.ref 40, .int y0, .int y1, .int (1 : Int32), .int y2, .int (3 : Int32)] [.int y3, .int y4] (im_H g u o Y) 0 0 (.inl none, im_H g mm o Y) := by
  unfold x98_r37_10 at h
  cases hb29 : Op.if_icmp.holds .le (y4 + y3) (1 : Int32) with
  | true =>
    have h := iv_bt hb29 h
    refine iv_brt (mi' := 98) (pc' := 77) (ls' := [.ref 40, .int y0, .int y1, .int (1 : Int32), .int (y4 + y3), .int (4 : Int32)]) (st' := [.int y1]) (A' := im_H g u o Y) (c' := 0) (s' := 0) (mi'' := 98) (pc'' := 71) (ls'' := [.ref 40, .int y0, .int y1, .int (1 : Int32), .int (y4 + y3), .int (4 : Int32)]) (st'' := [.int y1]) (A'' := im_H g u o Y) (c'' := 0) (s'' := 0) 11 0 0 hb29 (fun n => rfl) ?_
    refine iv_blk (mi' := 98) (pc' := 78) (ls' := [.ref 40, .int y0, .int y1, .int (1 : Int32), .int (y4 + y3), .int (4 : Int32)]) (st' := [.int (0 : Int32), .int y1]) (A' := im_H g u o Y) (c' := 0) (s' := 0) 1 (fun n => rfl) ?_
    exact x98_r37_11_ok (u := u) (y0 := y0) (y1 := y1) (y2 := (y4 + y3)) (y3 := (0 : Int32)) (y4 := y1) h
  | false =>
    have h := iv_bf hb29 h
    refine iv_brf (mi' := 98) (pc' := 77) (ls' := [.ref 40, .int y0, .int y1, .int (1 : Int32), .int (y4 + y3), .int (4 : Int32)]) (st' := [.int y1]) (A' := im_H g u o Y) (c' := 0) (s' := 0) (mi'' := 98) (pc'' := 71) (ls'' := [.ref 40, .int y0, .int y1, .int (1 : Int32), .int (y4 + y3), .int (4 : Int32)]) (st'' := [.int y1]) (A'' := im_H g u o Y) (c'' := 0) (s'' := 0) 11 0 0 hb29 (fun n => rfl) ?_
    refine iv_blk (mi' := 98) (pc' := 78) (ls' := [.ref 40, .int y0, .int y1, .int (1 : Int32), .int (y4 + y3), .int (4 : Int32)]) (st' := [.int (2 : Int32), .int y1]) (A' := im_H g u o Y) (c' := 0) (s' := 0) 4 (fun n => rfl) ?_
    exact x98_r37_11_ok (u := u) (y0 := y0) (y1 := y1) (y2 := (y4 + y3)) (y3 := (2 : Int32)) (y4 := y1) h
def x98_r37_9 (u : im_M) (y0 : Int32) (y1 : Int32) (y2 : Int32) (y3 : Int32) (y4 : Int32) : Option (Int32 × im_M) :=
  bif Op.if_icmp.holds .eq (3 : Int32) (u 37 19) then
    (x98_r37_10 u y0 y1 (y4 + y3) (0 : Int32) (y4 + y3))
  else
    (bif iv_in (((4 : Int32) * y0) + (3 : Int32)) 16 then
      Option.bind (x93 u ((u 50) ((((4 : Int32) * y0) + (3 : Int32))).toNatClampNeg) (1 : Int32)) (fun q10 =>
        bif Op.ifCond.holds .eq q10.1 then
          (x98_r37_10 q10.2 y0 y1 (y4 + y3) (0 : Int32) (y4 + y3))
        else
          (x98_r37_10 q10.2 y0 y1 (y4 + y3) (1 : Int32) (y4 + y3)))
    else none)
set_option maxRecDepth 100000 in
set_option maxHeartbeats 4000000 in
theorem x98_r37_9_ok {L : Nat} {xs : Nat → Int32} {g u mm : im_M} {o : Nat → Int64} {Y : iv_A} {y0 y1 y2 y3 y4 ret : Int32} (h : x98_r37_9 u y0 y1 y2 y3 y4 = some (ret, mm)) : iv_ev (iv_Xs L xs) 98 55 [.ref 40, .int y0, .int y1, .int (1 : Int32), .int y2, .int (2 : Int32)] [.int y3, .int y4] (im_H g u o Y) 0 0 (.inl none, im_H g mm o Y) := by
  unfold x98_r37_9 at h
  cases hb26 : Op.if_icmp.holds .eq (3 : Int32) (u 37 19) with
  | true =>
    have h := iv_bt hb26 h
    refine iv_brt (mi' := 98) (pc' := 54) (ls' := [.ref 40, .int y0, .int y1, .int (1 : Int32), .int (y4 + y3), .int (3 : Int32)]) (st' := [.int (y4 + y3)]) (A' := im_H g u o Y) (c' := 0) (s' := 0) (mi'' := 98) (pc'' := 32) (ls'' := [.ref 40, .int y0, .int y1, .int (1 : Int32), .int (y4 + y3), .int (3 : Int32)]) (st'' := [.int (y4 + y3)]) (A'' := im_H g u o Y) (c'' := 0) (s'' := 0) 12 0 0 hb26 (fun n => rfl) ?_
    refine iv_blk (mi' := 98) (pc' := 55) (ls' := [.ref 40, .int y0, .int y1, .int (1 : Int32), .int (y4 + y3), .int (3 : Int32)]) (st' := [.int (0 : Int32), .int (y4 + y3)]) (A' := im_H g u o Y) (c' := 0) (s' := 0) 1 (fun n => rfl) ?_
    exact x98_r37_10_ok (u := u) (y0 := y0) (y1 := y1) (y2 := (y4 + y3)) (y3 := (0 : Int32)) (y4 := (y4 + y3)) h
  | false =>
    have h := iv_bf hb26 h
    refine iv_brf (mi' := 98) (pc' := 54) (ls' := [.ref 40, .int y0, .int y1, .int (1 : Int32), .int (y4 + y3), .int (3 : Int32)]) (st' := [.int (y4 + y3)]) (A' := im_H g u o Y) (c' := 0) (s' := 0) (mi'' := 98) (pc'' := 32) (ls'' := [.ref 40, .int y0, .int y1, .int (1 : Int32), .int (y4 + y3), .int (3 : Int32)]) (st'' := [.int (y4 + y3)]) (A'' := im_H g u o Y) (c'' := 0) (s'' := 0) 12 0 0 hb26 (fun n => rfl) ?_
    cases hb27 : iv_in (((4 : Int32) * y0) + (3 : Int32)) 16 with
    | false => exact (iv_bn hb27 h).elim
    | true =>
      have h := iv_bt hb27 h
      refine iv_chk (mi' := 98) (pc' := 43) (ls' := [.ref 40, .int y0, .int y1, .int (1 : Int32), .int (y4 + y3), .int (3 : Int32)]) (st' := [.int ((u 50) ((((4 : Int32) * y0) + (3 : Int32))).toNatClampNeg), .int (y4 + y3)]) (A' := im_H g u o Y) (c' := 0) (s' := 0) 8 hb27 (fun n => rfl) ?_
      obtain ⟨v10, g10, hc, h⟩ := iv_bd h
      refine iv_cal (mi' := 98) (pc' := 44) (ls' := [.ref 40, .int y0, .int y1, .int (1 : Int32), .int (y4 + y3), .int (3 : Int32)]) (rest := [.int (y4 + y3)]) (A' := im_H g u o Y) (c' := 0) (s' := 0) (as := [.int ((u 50) ((((4 : Int32) * y0) + (3 : Int32))).toNatClampNeg), .int (1 : Int32)]) (v := some (.int v10)) (A'' := im_H g g10 o Y) 2 93 (fun n => rfl) rfl (x93_ok (u := u) (a := ((u 50) ((((4 : Int32) * y0) + (3 : Int32))).toNatClampNeg)) (b := (1 : Int32)) hc) ?_
      show iv_ev (iv_Xs L xs) 98 47 [.ref 40, .int y0, .int y1, .int (1 : Int32), .int (y4 + y3), .int (3 : Int32)] [.int v10, .int (y4 + y3)] (im_H g g10 o Y) 0 0 _
      cases hb28 : Op.ifCond.holds .eq v10 with
      | true =>
        have h := iv_bt hb28 h
        refine iv_brt (mi' := 98) (pc' := 54) (ls' := [.ref 40, .int y0, .int y1, .int (1 : Int32), .int (y4 + y3), .int (3 : Int32)]) (st' := [.int (y4 + y3)]) (A' := im_H g g10 o Y) (c' := 0) (s' := 0) (mi'' := 98) (pc'' := 50) (ls'' := [.ref 40, .int y0, .int y1, .int (1 : Int32), .int (y4 + y3), .int (3 : Int32)]) (st'' := [.int (y4 + y3)]) (A'' := im_H g g10 o Y) (c'' := 0) (s'' := 0) 1 0 0 hb28 (fun n => rfl) ?_
        refine iv_blk (mi' := 98) (pc' := 55) (ls' := [.ref 40, .int y0, .int y1, .int (1 : Int32), .int (y4 + y3), .int (3 : Int32)]) (st' := [.int (0 : Int32), .int (y4 + y3)]) (A' := im_H g g10 o Y) (c' := 0) (s' := 0) 1 (fun n => rfl) ?_
        exact x98_r37_10_ok (u := g10) (y0 := y0) (y1 := y1) (y2 := (y4 + y3)) (y3 := (0 : Int32)) (y4 := (y4 + y3)) h
      | false =>
        have h := iv_bf hb28 h
        refine iv_brf (mi' := 98) (pc' := 54) (ls' := [.ref 40, .int y0, .int y1, .int (1 : Int32), .int (y4 + y3), .int (3 : Int32)]) (st' := [.int (y4 + y3)]) (A' := im_H g g10 o Y) (c' := 0) (s' := 0) (mi'' := 98) (pc'' := 50) (ls'' := [.ref 40, .int y0, .int y1, .int (1 : Int32), .int (y4 + y3), .int (3 : Int32)]) (st'' := [.int (y4 + y3)]) (A'' := im_H g g10 o Y) (c'' := 0) (s'' := 0) 1 0 0 hb28 (fun n => rfl) ?_
        refine iv_blk (mi' := 98) (pc' := 55) (ls' := [.ref 40, .int y0, .int y1, .int (1 : Int32), .int (y4 + y3), .int (3 : Int32)]) (st' := [.int (1 : Int32), .int (y4 + y3)]) (A' := im_H g g10 o Y) (c' := 0) (s' := 0) 2 (fun n => rfl) ?_
        exact x98_r37_10_ok (u := g10) (y0 := y0) (y1 := y1) (y2 := (y4 + y3)) (y3 := (1 : Int32)) (y4 := (y4 + y3)) h
def x98_r37_8 (u : im_M) (y0 : Int32) (y1 : Int32) (y2 : Int32) (y3 : Int32) (y4 : Int32) : Option (Int32 × im_M) :=
  bif Op.if_icmp.holds .eq (2 : Int32) (u 37 19) then
    (x98_r37_9 u y0 y1 (y4 + y3) (0 : Int32) (y4 + y3))
  else
    (bif iv_in (((4 : Int32) * y0) + (2 : Int32)) 16 then
      Option.bind (x93 u ((u 50) ((((4 : Int32) * y0) + (2 : Int32))).toNatClampNeg) (1 : Int32)) (fun q9 =>
        bif Op.ifCond.holds .eq q9.1 then
          (x98_r37_9 q9.2 y0 y1 (y4 + y3) (0 : Int32) (y4 + y3))
        else
          (x98_r37_9 q9.2 y0 y1 (y4 + y3) (1 : Int32) (y4 + y3)))
    else none)
set_option maxRecDepth 100000 in
set_option maxHeartbeats 4000000 in
theorem x98_r37_8_ok {L : Nat} {xs : Nat → Int32} {g u mm : im_M} {o : Nat → Int64} {Y : iv_A} {y0 y1 y2 y3 y4 ret : Int32} (h : x98_r37_8 u y0 y1 y2 y3 y4 = some (ret, mm)) : iv_ev (iv_Xs L xs) 98 55 [.ref 40, .int y0, .int y1, .int (1 : Int32), .int y2, .int (1 : Int32)] [.int y3, .int y4] (im_H g u o Y) 0 0 (.inl none, im_H g mm o Y) := by
  unfold x98_r37_8 at h
  cases hb23 : Op.if_icmp.holds .eq (2 : Int32) (u 37 19) with
  | true =>
    have h := iv_bt hb23 h
    refine iv_brt (mi' := 98) (pc' := 54) (ls' := [.ref 40, .int y0, .int y1, .int (1 : Int32), .int (y4 + y3), .int (2 : Int32)]) (st' := [.int (y4 + y3)]) (A' := im_H g u o Y) (c' := 0) (s' := 0) (mi'' := 98) (pc'' := 32) (ls'' := [.ref 40, .int y0, .int y1, .int (1 : Int32), .int (y4 + y3), .int (2 : Int32)]) (st'' := [.int (y4 + y3)]) (A'' := im_H g u o Y) (c'' := 0) (s'' := 0) 12 0 0 hb23 (fun n => rfl) ?_
    refine iv_blk (mi' := 98) (pc' := 55) (ls' := [.ref 40, .int y0, .int y1, .int (1 : Int32), .int (y4 + y3), .int (2 : Int32)]) (st' := [.int (0 : Int32), .int (y4 + y3)]) (A' := im_H g u o Y) (c' := 0) (s' := 0) 1 (fun n => rfl) ?_
    exact x98_r37_9_ok (u := u) (y0 := y0) (y1 := y1) (y2 := (y4 + y3)) (y3 := (0 : Int32)) (y4 := (y4 + y3)) h
  | false =>
    have h := iv_bf hb23 h
    refine iv_brf (mi' := 98) (pc' := 54) (ls' := [.ref 40, .int y0, .int y1, .int (1 : Int32), .int (y4 + y3), .int (2 : Int32)]) (st' := [.int (y4 + y3)]) (A' := im_H g u o Y) (c' := 0) (s' := 0) (mi'' := 98) (pc'' := 32) (ls'' := [.ref 40, .int y0, .int y1, .int (1 : Int32), .int (y4 + y3), .int (2 : Int32)]) (st'' := [.int (y4 + y3)]) (A'' := im_H g u o Y) (c'' := 0) (s'' := 0) 12 0 0 hb23 (fun n => rfl) ?_
    cases hb24 : iv_in (((4 : Int32) * y0) + (2 : Int32)) 16 with
    | false => exact (iv_bn hb24 h).elim
    | true =>
      have h := iv_bt hb24 h
      refine iv_chk (mi' := 98) (pc' := 43) (ls' := [.ref 40, .int y0, .int y1, .int (1 : Int32), .int (y4 + y3), .int (2 : Int32)]) (st' := [.int ((u 50) ((((4 : Int32) * y0) + (2 : Int32))).toNatClampNeg), .int (y4 + y3)]) (A' := im_H g u o Y) (c' := 0) (s' := 0) 8 hb24 (fun n => rfl) ?_
      obtain ⟨v9, g9, hc, h⟩ := iv_bd h
      refine iv_cal (mi' := 98) (pc' := 44) (ls' := [.ref 40, .int y0, .int y1, .int (1 : Int32), .int (y4 + y3), .int (2 : Int32)]) (rest := [.int (y4 + y3)]) (A' := im_H g u o Y) (c' := 0) (s' := 0) (as := [.int ((u 50) ((((4 : Int32) * y0) + (2 : Int32))).toNatClampNeg), .int (1 : Int32)]) (v := some (.int v9)) (A'' := im_H g g9 o Y) 2 93 (fun n => rfl) rfl (x93_ok (u := u) (a := ((u 50) ((((4 : Int32) * y0) + (2 : Int32))).toNatClampNeg)) (b := (1 : Int32)) hc) ?_
      show iv_ev (iv_Xs L xs) 98 47 [.ref 40, .int y0, .int y1, .int (1 : Int32), .int (y4 + y3), .int (2 : Int32)] [.int v9, .int (y4 + y3)] (im_H g g9 o Y) 0 0 _
      cases hb25 : Op.ifCond.holds .eq v9 with
      | true =>
        have h := iv_bt hb25 h
        refine iv_brt (mi' := 98) (pc' := 54) (ls' := [.ref 40, .int y0, .int y1, .int (1 : Int32), .int (y4 + y3), .int (2 : Int32)]) (st' := [.int (y4 + y3)]) (A' := im_H g g9 o Y) (c' := 0) (s' := 0) (mi'' := 98) (pc'' := 50) (ls'' := [.ref 40, .int y0, .int y1, .int (1 : Int32), .int (y4 + y3), .int (2 : Int32)]) (st'' := [.int (y4 + y3)]) (A'' := im_H g g9 o Y) (c'' := 0) (s'' := 0) 1 0 0 hb25 (fun n => rfl) ?_
        refine iv_blk (mi' := 98) (pc' := 55) (ls' := [.ref 40, .int y0, .int y1, .int (1 : Int32), .int (y4 + y3), .int (2 : Int32)]) (st' := [.int (0 : Int32), .int (y4 + y3)]) (A' := im_H g g9 o Y) (c' := 0) (s' := 0) 1 (fun n => rfl) ?_
        exact x98_r37_9_ok (u := g9) (y0 := y0) (y1 := y1) (y2 := (y4 + y3)) (y3 := (0 : Int32)) (y4 := (y4 + y3)) h
      | false =>
        have h := iv_bf hb25 h
        refine iv_brf (mi' := 98) (pc' := 54) (ls' := [.ref 40, .int y0, .int y1, .int (1 : Int32), .int (y4 + y3), .int (2 : Int32)]) (st' := [.int (y4 + y3)]) (A' := im_H g g9 o Y) (c' := 0) (s' := 0) (mi'' := 98) (pc'' := 50) (ls'' := [.ref 40, .int y0, .int y1, .int (1 : Int32), .int (y4 + y3), .int (2 : Int32)]) (st'' := [.int (y4 + y3)]) (A'' := im_H g g9 o Y) (c'' := 0) (s'' := 0) 1 0 0 hb25 (fun n => rfl) ?_
        refine iv_blk (mi' := 98) (pc' := 55) (ls' := [.ref 40, .int y0, .int y1, .int (1 : Int32), .int (y4 + y3), .int (2 : Int32)]) (st' := [.int (1 : Int32), .int (y4 + y3)]) (A' := im_H g g9 o Y) (c' := 0) (s' := 0) 2 (fun n => rfl) ?_
        exact x98_r37_9_ok (u := g9) (y0 := y0) (y1 := y1) (y2 := (y4 + y3)) (y3 := (1 : Int32)) (y4 := (y4 + y3)) h
def x98_r37_7 (u : im_M) (y0 : Int32) (y1 : Int32) (y2 : Int32) : Option (Int32 × im_M) :=
  bif Op.if_icmp.holds .eq (1 : Int32) (u 37 19) then
    (x98_r37_8 u y0 y1 ((0 : Int32) + y2) (0 : Int32) ((0 : Int32) + y2))
  else
    (bif iv_in (((4 : Int32) * y0) + (1 : Int32)) 16 then
      Option.bind (x93 u ((u 50) ((((4 : Int32) * y0) + (1 : Int32))).toNatClampNeg) (1 : Int32)) (fun q8 =>
        bif Op.ifCond.holds .eq q8.1 then
          (x98_r37_8 q8.2 y0 y1 ((0 : Int32) + y2) (0 : Int32) ((0 : Int32) + y2))
        else
          (x98_r37_8 q8.2 y0 y1 ((0 : Int32) + y2) (1 : Int32) ((0 : Int32) + y2)))
    else none)
set_option maxRecDepth 100000 in
set_option maxHeartbeats 4000000 in
theorem x98_r37_7_ok {L : Nat} {xs : Nat → Int32} {g u mm : im_M} {o : Nat → Int64} {Y : iv_A} {y0 y1 y2 ret : Int32} (h : x98_r37_7 u y0 y1 y2 = some (ret, mm)) : iv_ev (iv_Xs L xs) 98 55 [.ref 40, .int y0, .int y1, .int (1 : Int32), .int (0 : Int32), .int (0 : Int32)] [.int y2, .int (0 : Int32)] (im_H g u o Y) 0 0 (.inl none, im_H g mm o Y) := by
  unfold x98_r37_7 at h
  cases hb20 : Op.if_icmp.holds .eq (1 : Int32) (u 37 19) with
  | true =>
    have h := iv_bt hb20 h
    refine iv_brt (mi' := 98) (pc' := 54) (ls' := [.ref 40, .int y0, .int y1, .int (1 : Int32), .int ((0 : Int32) + y2), .int (1 : Int32)]) (st' := [.int ((0 : Int32) + y2)]) (A' := im_H g u o Y) (c' := 0) (s' := 0) (mi'' := 98) (pc'' := 32) (ls'' := [.ref 40, .int y0, .int y1, .int (1 : Int32), .int ((0 : Int32) + y2), .int (1 : Int32)]) (st'' := [.int ((0 : Int32) + y2)]) (A'' := im_H g u o Y) (c'' := 0) (s'' := 0) 12 0 0 hb20 (fun n => rfl) ?_
    refine iv_blk (mi' := 98) (pc' := 55) (ls' := [.ref 40, .int y0, .int y1, .int (1 : Int32), .int ((0 : Int32) + y2), .int (1 : Int32)]) (st' := [.int (0 : Int32), .int ((0 : Int32) + y2)]) (A' := im_H g u o Y) (c' := 0) (s' := 0) 1 (fun n => rfl) ?_
    exact x98_r37_8_ok (u := u) (y0 := y0) (y1 := y1) (y2 := ((0 : Int32) + y2)) (y3 := (0 : Int32)) (y4 := ((0 : Int32) + y2)) h
  | false =>
    have h := iv_bf hb20 h
    refine iv_brf (mi' := 98) (pc' := 54) (ls' := [.ref 40, .int y0, .int y1, .int (1 : Int32), .int ((0 : Int32) + y2), .int (1 : Int32)]) (st' := [.int ((0 : Int32) + y2)]) (A' := im_H g u o Y) (c' := 0) (s' := 0) (mi'' := 98) (pc'' := 32) (ls'' := [.ref 40, .int y0, .int y1, .int (1 : Int32), .int ((0 : Int32) + y2), .int (1 : Int32)]) (st'' := [.int ((0 : Int32) + y2)]) (A'' := im_H g u o Y) (c'' := 0) (s'' := 0) 12 0 0 hb20 (fun n => rfl) ?_
    cases hb21 : iv_in (((4 : Int32) * y0) + (1 : Int32)) 16 with
    | false => exact (iv_bn hb21 h).elim
    | true =>
      have h := iv_bt hb21 h
      refine iv_chk (mi' := 98) (pc' := 43) (ls' := [.ref 40, .int y0, .int y1, .int (1 : Int32), .int ((0 : Int32) + y2), .int (1 : Int32)]) (st' := [.int ((u 50) ((((4 : Int32) * y0) + (1 : Int32))).toNatClampNeg), .int ((0 : Int32) + y2)]) (A' := im_H g u o Y) (c' := 0) (s' := 0) 8 hb21 (fun n => rfl) ?_
      obtain ⟨v8, g8, hc, h⟩ := iv_bd h
      refine iv_cal (mi' := 98) (pc' := 44) (ls' := [.ref 40, .int y0, .int y1, .int (1 : Int32), .int ((0 : Int32) + y2), .int (1 : Int32)]) (rest := [.int ((0 : Int32) + y2)]) (A' := im_H g u o Y) (c' := 0) (s' := 0) (as := [.int ((u 50) ((((4 : Int32) * y0) + (1 : Int32))).toNatClampNeg), .int (1 : Int32)]) (v := some (.int v8)) (A'' := im_H g g8 o Y) 2 93 (fun n => rfl) rfl (x93_ok (u := u) (a := ((u 50) ((((4 : Int32) * y0) + (1 : Int32))).toNatClampNeg)) (b := (1 : Int32)) hc) ?_
      show iv_ev (iv_Xs L xs) 98 47 [.ref 40, .int y0, .int y1, .int (1 : Int32), .int ((0 : Int32) + y2), .int (1 : Int32)] [.int v8, .int ((0 : Int32) + y2)] (im_H g g8 o Y) 0 0 _
      cases hb22 : Op.ifCond.holds .eq v8 with
      | true =>
        have h := iv_bt hb22 h
        refine iv_brt (mi' := 98) (pc' := 54) (ls' := [.ref 40, .int y0, .int y1, .int (1 : Int32), .int ((0 : Int32) + y2), .int (1 : Int32)]) (st' := [.int ((0 : Int32) + y2)]) (A' := im_H g g8 o Y) (c' := 0) (s' := 0) (mi'' := 98) (pc'' := 50) (ls'' := [.ref 40, .int y0, .int y1, .int (1 : Int32), .int ((0 : Int32) + y2), .int (1 : Int32)]) (st'' := [.int ((0 : Int32) + y2)]) (A'' := im_H g g8 o Y) (c'' := 0) (s'' := 0) 1 0 0 hb22 (fun n => rfl) ?_
        refine iv_blk (mi' := 98) (pc' := 55) (ls' := [.ref 40, .int y0, .int y1, .int (1 : Int32), .int ((0 : Int32) + y2), .int (1 : Int32)]) (st' := [.int (0 : Int32), .int ((0 : Int32) + y2)]) (A' := im_H g g8 o Y) (c' := 0) (s' := 0) 1 (fun n => rfl) ?_
        exact x98_r37_8_ok (u := g8) (y0 := y0) (y1 := y1) (y2 := ((0 : Int32) + y2)) (y3 := (0 : Int32)) (y4 := ((0 : Int32) + y2)) h
      | false =>
        have h := iv_bf hb22 h
        refine iv_brf (mi' := 98) (pc' := 54) (ls' := [.ref 40, .int y0, .int y1, .int (1 : Int32), .int ((0 : Int32) + y2), .int (1 : Int32)]) (st' := [.int ((0 : Int32) + y2)]) (A' := im_H g g8 o Y) (c' := 0) (s' := 0) (mi'' := 98) (pc'' := 50) (ls'' := [.ref 40, .int y0, .int y1, .int (1 : Int32), .int ((0 : Int32) + y2), .int (1 : Int32)]) (st'' := [.int ((0 : Int32) + y2)]) (A'' := im_H g g8 o Y) (c'' := 0) (s'' := 0) 1 0 0 hb22 (fun n => rfl) ?_
        refine iv_blk (mi' := 98) (pc' := 55) (ls' := [.ref 40, .int y0, .int y1, .int (1 : Int32), .int ((0 : Int32) + y2), .int (1 : Int32)]) (st' := [.int (1 : Int32), .int ((0 : Int32) + y2)]) (A' := im_H g g8 o Y) (c' := 0) (s' := 0) 2 (fun n => rfl) ?_
        exact x98_r37_8_ok (u := g8) (y0 := y0) (y1 := y1) (y2 := ((0 : Int32) + y2)) (y3 := (1 : Int32)) (y4 := ((0 : Int32) + y2)) h
def x98_r37_6 (u : im_M) (y0 : Int32) (y1 : Int32) (y2 : Int32) : Option (Int32 × im_M) :=
  bif Op.if_icmp.holds .eq (0 : Int32) (u 37 19) then
    (x98_r37_7 u y0 y1 (0 : Int32))
  else
    (bif iv_in (((4 : Int32) * y0) + (0 : Int32)) 16 then
      Option.bind (x93 u ((u 50) ((((4 : Int32) * y0) + (0 : Int32))).toNatClampNeg) (1 : Int32)) (fun q7 =>
        bif Op.ifCond.holds .eq q7.1 then
          (x98_r37_7 q7.2 y0 y1 (0 : Int32))
        else
          (x98_r37_7 q7.2 y0 y1 (1 : Int32)))
    else none)
set_option maxRecDepth 100000 in
set_option maxHeartbeats 4000000 in
theorem x98_r37_6_ok {L : Nat} {xs : Nat → Int32} {g u mm : im_M} {o : Nat → Int64} {Y : iv_A} {y0 y1 y2 ret : Int32} (h : x98_r37_6 u y0 y1 y2 = some (ret, mm)) : iv_ev (iv_Xs L xs) 98 107 [.ref 40, .int y0, .int y1, .int (0 : Int32), .int y2, .int (4 : Int32)] [] (im_H g u o Y) 0 0 (.inl none, im_H g mm o Y) := by
  unfold x98_r37_6 at h
  cases hb17 : Op.if_icmp.holds .eq (0 : Int32) (u 37 19) with
  | true =>
    have h := iv_bt hb17 h
    refine iv_brt (mi' := 98) (pc' := 54) (ls' := [.ref 40, .int y0, .int y1, .int (1 : Int32), .int (0 : Int32), .int (0 : Int32)]) (st' := [.int (0 : Int32)]) (A' := im_H g u o Y) (c' := 0) (s' := 0) (mi'' := 98) (pc'' := 32) (ls'' := [.ref 40, .int y0, .int y1, .int (1 : Int32), .int (0 : Int32), .int (0 : Int32)]) (st'' := [.int (0 : Int32)]) (A'' := im_H g u o Y) (c'' := 0) (s'' := 0) 17 0 0 hb17 (fun n => rfl) ?_
    refine iv_blk (mi' := 98) (pc' := 55) (ls' := [.ref 40, .int y0, .int y1, .int (1 : Int32), .int (0 : Int32), .int (0 : Int32)]) (st' := [.int (0 : Int32), .int (0 : Int32)]) (A' := im_H g u o Y) (c' := 0) (s' := 0) 1 (fun n => rfl) ?_
    exact x98_r37_7_ok (u := u) (y0 := y0) (y1 := y1) (y2 := (0 : Int32)) h
  | false =>
    have h := iv_bf hb17 h
    refine iv_brf (mi' := 98) (pc' := 54) (ls' := [.ref 40, .int y0, .int y1, .int (1 : Int32), .int (0 : Int32), .int (0 : Int32)]) (st' := [.int (0 : Int32)]) (A' := im_H g u o Y) (c' := 0) (s' := 0) (mi'' := 98) (pc'' := 32) (ls'' := [.ref 40, .int y0, .int y1, .int (1 : Int32), .int (0 : Int32), .int (0 : Int32)]) (st'' := [.int (0 : Int32)]) (A'' := im_H g u o Y) (c'' := 0) (s'' := 0) 17 0 0 hb17 (fun n => rfl) ?_
    cases hb18 : iv_in (((4 : Int32) * y0) + (0 : Int32)) 16 with
    | false => exact (iv_bn hb18 h).elim
    | true =>
      have h := iv_bt hb18 h
      refine iv_chk (mi' := 98) (pc' := 43) (ls' := [.ref 40, .int y0, .int y1, .int (1 : Int32), .int (0 : Int32), .int (0 : Int32)]) (st' := [.int ((u 50) ((((4 : Int32) * y0) + (0 : Int32))).toNatClampNeg), .int (0 : Int32)]) (A' := im_H g u o Y) (c' := 0) (s' := 0) 8 hb18 (fun n => rfl) ?_
      obtain ⟨v7, g7, hc, h⟩ := iv_bd h
      refine iv_cal (mi' := 98) (pc' := 44) (ls' := [.ref 40, .int y0, .int y1, .int (1 : Int32), .int (0 : Int32), .int (0 : Int32)]) (rest := [.int (0 : Int32)]) (A' := im_H g u o Y) (c' := 0) (s' := 0) (as := [.int ((u 50) ((((4 : Int32) * y0) + (0 : Int32))).toNatClampNeg), .int (1 : Int32)]) (v := some (.int v7)) (A'' := im_H g g7 o Y) 2 93 (fun n => rfl) rfl (x93_ok (u := u) (a := ((u 50) ((((4 : Int32) * y0) + (0 : Int32))).toNatClampNeg)) (b := (1 : Int32)) hc) ?_
      show iv_ev (iv_Xs L xs) 98 47 [.ref 40, .int y0, .int y1, .int (1 : Int32), .int (0 : Int32), .int (0 : Int32)] [.int v7, .int (0 : Int32)] (im_H g g7 o Y) 0 0 _
      cases hb19 : Op.ifCond.holds .eq v7 with
      | true =>
        have h := iv_bt hb19 h
        refine iv_brt (mi' := 98) (pc' := 54) (ls' := [.ref 40, .int y0, .int y1, .int (1 : Int32), .int (0 : Int32), .int (0 : Int32)]) (st' := [.int (0 : Int32)]) (A' := im_H g g7 o Y) (c' := 0) (s' := 0) (mi'' := 98) (pc'' := 50) (ls'' := [.ref 40, .int y0, .int y1, .int (1 : Int32), .int (0 : Int32), .int (0 : Int32)]) (st'' := [.int (0 : Int32)]) (A'' := im_H g g7 o Y) (c'' := 0) (s'' := 0) 1 0 0 hb19 (fun n => rfl) ?_
        refine iv_blk (mi' := 98) (pc' := 55) (ls' := [.ref 40, .int y0, .int y1, .int (1 : Int32), .int (0 : Int32), .int (0 : Int32)]) (st' := [.int (0 : Int32), .int (0 : Int32)]) (A' := im_H g g7 o Y) (c' := 0) (s' := 0) 1 (fun n => rfl) ?_
        exact x98_r37_7_ok (u := g7) (y0 := y0) (y1 := y1) (y2 := (0 : Int32)) h
      | false =>
        have h := iv_bf hb19 h
        refine iv_brf (mi' := 98) (pc' := 54) (ls' := [.ref 40, .int y0, .int y1, .int (1 : Int32), .int (0 : Int32), .int (0 : Int32)]) (st' := [.int (0 : Int32)]) (A' := im_H g g7 o Y) (c' := 0) (s' := 0) (mi'' := 98) (pc'' := 50) (ls'' := [.ref 40, .int y0, .int y1, .int (1 : Int32), .int (0 : Int32), .int (0 : Int32)]) (st'' := [.int (0 : Int32)]) (A'' := im_H g g7 o Y) (c'' := 0) (s'' := 0) 1 0 0 hb19 (fun n => rfl) ?_
        refine iv_blk (mi' := 98) (pc' := 55) (ls' := [.ref 40, .int y0, .int y1, .int (1 : Int32), .int (0 : Int32), .int (0 : Int32)]) (st' := [.int (1 : Int32), .int (0 : Int32)]) (A' := im_H g g7 o Y) (c' := 0) (s' := 0) 2 (fun n => rfl) ?_
        exact x98_r37_7_ok (u := g7) (y0 := y0) (y1 := y1) (y2 := (1 : Int32)) h
def x98_r37_5 (u : im_M) (y0 : Int32) (y1 : Int32) (y2 : Int32) : Option (Int32 × im_M) :=
  bif Op.if_icmp.holds .le y1 (1 : Int32) then
    (x98_r37_6 u y0 ((0 : Int32) ||| y2) y1)
  else
    (bif iv_in y0 4 then
      Option.bind (x93 u ((u 52) (y0).toNatClampNeg) (0 : Int32)) (fun q5 =>
        bif Op.ifCond.holds .ne q5.1 then
          (x98_r37_6 q5.2 y0 ((0 : Int32) ||| y2) y1)
        else
          (Option.bind (x94_r37 q5.2 (6 : Int32) y0 (0 : Int32)) (fun q6 =>
            x98_r37_6 q6.2 y0 ((0 : Int32) ||| y2) y1)))
    else none)
set_option maxRecDepth 100000 in
set_option maxHeartbeats 4000000 in
theorem x98_r37_5_ok {L : Nat} {xs : Nat → Int32} {g u mm : im_M} {o : Nat → Int64} {Y : iv_A} {y0 y1 y2 ret : Int32} (h : x98_r37_5 u y0 y1 y2 = some (ret, mm)) : iv_ev (iv_Xs L xs) 98 78 [.ref 40, .int y0, .int (0 : Int32), .int (0 : Int32), .int y1, .int (4 : Int32)] [.int y2, .int (0 : Int32)] (im_H g u o Y) 0 0 (.inl none, im_H g mm o Y) := by
  unfold x98_r37_5 at h
  cases hb14 : Op.if_icmp.holds .le y1 (1 : Int32) with
  | true =>
    have h := iv_bt hb14 h
    refine iv_brt (mi' := 98) (pc' := 107) (ls' := [.ref 40, .int y0, .int ((0 : Int32) ||| y2), .int (0 : Int32), .int y1, .int (4 : Int32)]) (st' := []) (A' := im_H g u o Y) (c' := 0) (s' := 0) (mi'' := 98) (pc'' := 86) (ls'' := [.ref 40, .int y0, .int ((0 : Int32) ||| y2), .int (0 : Int32), .int y1, .int (4 : Int32)]) (st'' := []) (A'' := im_H g u o Y) (c'' := 0) (s'' := 0) 5 0 0 hb14 (fun n => rfl) ?_
    exact x98_r37_6_ok (u := u) (y0 := y0) (y1 := ((0 : Int32) ||| y2)) (y2 := y1) h
  | false =>
    have h := iv_bf hb14 h
    refine iv_brf (mi' := 98) (pc' := 107) (ls' := [.ref 40, .int y0, .int ((0 : Int32) ||| y2), .int (0 : Int32), .int y1, .int (4 : Int32)]) (st' := []) (A' := im_H g u o Y) (c' := 0) (s' := 0) (mi'' := 98) (pc'' := 86) (ls'' := [.ref 40, .int y0, .int ((0 : Int32) ||| y2), .int (0 : Int32), .int y1, .int (4 : Int32)]) (st'' := []) (A'' := im_H g u o Y) (c'' := 0) (s'' := 0) 5 0 0 hb14 (fun n => rfl) ?_
    cases hb15 : iv_in y0 4 with
    | false => exact (iv_bn hb15 h).elim
    | true =>
      have h := iv_bt hb15 h
      refine iv_chk (mi' := 98) (pc' := 92) (ls' := [.ref 40, .int y0, .int ((0 : Int32) ||| y2), .int (0 : Int32), .int y1, .int (4 : Int32)]) (st' := [.int ((u 52) (y0).toNatClampNeg)]) (A' := im_H g u o Y) (c' := 0) (s' := 0) 4 hb15 (fun n => rfl) ?_
      obtain ⟨v5, g5, hc, h⟩ := iv_bd h
      refine iv_cal (mi' := 98) (pc' := 93) (ls' := [.ref 40, .int y0, .int ((0 : Int32) ||| y2), .int (0 : Int32), .int y1, .int (4 : Int32)]) (rest := []) (A' := im_H g u o Y) (c' := 0) (s' := 0) (as := [.int ((u 52) (y0).toNatClampNeg), .int (0 : Int32)]) (v := some (.int v5)) (A'' := im_H g g5 o Y) 2 93 (fun n => rfl) rfl (x93_ok (u := u) (a := ((u 52) (y0).toNatClampNeg)) (b := (0 : Int32)) hc) ?_
      show iv_ev (iv_Xs L xs) 98 96 [.ref 40, .int y0, .int ((0 : Int32) ||| y2), .int (0 : Int32), .int y1, .int (4 : Int32)] [.int v5] (im_H g g5 o Y) 0 0 _
      cases hb16 : Op.ifCond.holds .ne v5 with
      | true =>
        have h := iv_bt hb16 h
        refine iv_brt (mi' := 98) (pc' := 107) (ls' := [.ref 40, .int y0, .int ((0 : Int32) ||| y2), .int (0 : Int32), .int y1, .int (4 : Int32)]) (st' := []) (A' := im_H g g5 o Y) (c' := 0) (s' := 0) (mi'' := 98) (pc'' := 99) (ls'' := [.ref 40, .int y0, .int ((0 : Int32) ||| y2), .int (0 : Int32), .int y1, .int (4 : Int32)]) (st'' := []) (A'' := im_H g g5 o Y) (c'' := 0) (s'' := 0) 1 0 0 hb16 (fun n => rfl) ?_
        exact x98_r37_6_ok (u := g5) (y0 := y0) (y1 := ((0 : Int32) ||| y2)) (y2 := y1) h
      | false =>
        have h := iv_bf hb16 h
        refine iv_brf (mi' := 98) (pc' := 107) (ls' := [.ref 40, .int y0, .int ((0 : Int32) ||| y2), .int (0 : Int32), .int y1, .int (4 : Int32)]) (st' := []) (A' := im_H g g5 o Y) (c' := 0) (s' := 0) (mi'' := 98) (pc'' := 99) (ls'' := [.ref 40, .int y0, .int ((0 : Int32) ||| y2), .int (0 : Int32), .int y1, .int (4 : Int32)]) (st'' := []) (A'' := im_H g g5 o Y) (c'' := 0) (s'' := 0) 1 0 0 hb16 (fun n => rfl) ?_
        obtain ⟨v6, g6, hc, h⟩ := iv_bd h
        refine iv_cal (mi' := 98) (pc' := 104) (ls' := [.ref 40, .int y0, .int ((0 : Int32) ||| y2), .int (0 : Int32), .int y1, .int (4 : Int32)]) (rest := []) (A' := im_H g g5 o Y) (c' := 0) (s' := 0) (as := [.ref 40, .int (6 : Int32), .int y0, .int (0 : Int32)]) (v := none) (A'' := im_H g g6 o Y) 5 94 (fun n => rfl) rfl (x94_r37_ok (u := g5) (a := (6 : Int32)) (b := y0) (c := (0 : Int32)) hc) ?_
        show iv_ev (iv_Xs L xs) 98 107 [.ref 40, .int y0, .int ((0 : Int32) ||| y2), .int (0 : Int32), .int y1, .int (4 : Int32)] [] (im_H g g6 o Y) 0 0 _
        exact x98_r37_6_ok (u := g6) (y0 := y0) (y1 := ((0 : Int32) ||| y2)) (y2 := y1) h
def x98_r37_4 (u : im_M) (y0 : Int32) (y1 : Int32) (y2 : Int32) (y3 : Int32) : Option (Int32 × im_M) :=
  bif Op.if_icmp.holds .le (y3 + y2) (1 : Int32) then
    (x98_r37_5 u y0 (y3 + y2) (0 : Int32))
  else
    (x98_r37_5 u y0 (y3 + y2) (1 : Int32))
set_option maxRecDepth 100000 in
set_option maxHeartbeats 4000000 in
theorem x98_r37_4_ok {L : Nat} {xs : Nat → Int32} {g u mm : im_M} {o : Nat → Int64} {Y : iv_A} {y0 y1 y2 y3 ret : Int32} (h : x98_r37_4 u y0 y1 y2 y3 = some (ret, mm)) : iv_ev (iv_Xs L xs) 98 55 [.ref 40, .int y0, .int (0 : Int32), .int (0 : Int32), .int y1, .int (3 : Int32)] [.int y2, .int y3] (im_H g u o Y) 0 0 (.inl none, im_H g mm o Y) := by
  unfold x98_r37_4 at h
  cases hb13 : Op.if_icmp.holds .le (y3 + y2) (1 : Int32) with
  | true =>
    have h := iv_bt hb13 h
    refine iv_brt (mi' := 98) (pc' := 77) (ls' := [.ref 40, .int y0, .int (0 : Int32), .int (0 : Int32), .int (y3 + y2), .int (4 : Int32)]) (st' := [.int (0 : Int32)]) (A' := im_H g u o Y) (c' := 0) (s' := 0) (mi'' := 98) (pc'' := 71) (ls'' := [.ref 40, .int y0, .int (0 : Int32), .int (0 : Int32), .int (y3 + y2), .int (4 : Int32)]) (st'' := [.int (0 : Int32)]) (A'' := im_H g u o Y) (c'' := 0) (s'' := 0) 11 0 0 hb13 (fun n => rfl) ?_
    refine iv_blk (mi' := 98) (pc' := 78) (ls' := [.ref 40, .int y0, .int (0 : Int32), .int (0 : Int32), .int (y3 + y2), .int (4 : Int32)]) (st' := [.int (0 : Int32), .int (0 : Int32)]) (A' := im_H g u o Y) (c' := 0) (s' := 0) 1 (fun n => rfl) ?_
    exact x98_r37_5_ok (u := u) (y0 := y0) (y1 := (y3 + y2)) (y2 := (0 : Int32)) h
  | false =>
    have h := iv_bf hb13 h
    refine iv_brf (mi' := 98) (pc' := 77) (ls' := [.ref 40, .int y0, .int (0 : Int32), .int (0 : Int32), .int (y3 + y2), .int (4 : Int32)]) (st' := [.int (0 : Int32)]) (A' := im_H g u o Y) (c' := 0) (s' := 0) (mi'' := 98) (pc'' := 71) (ls'' := [.ref 40, .int y0, .int (0 : Int32), .int (0 : Int32), .int (y3 + y2), .int (4 : Int32)]) (st'' := [.int (0 : Int32)]) (A'' := im_H g u o Y) (c'' := 0) (s'' := 0) 11 0 0 hb13 (fun n => rfl) ?_
    refine iv_blk (mi' := 98) (pc' := 78) (ls' := [.ref 40, .int y0, .int (0 : Int32), .int (0 : Int32), .int (y3 + y2), .int (4 : Int32)]) (st' := [.int (1 : Int32), .int (0 : Int32)]) (A' := im_H g u o Y) (c' := 0) (s' := 0) 4 (fun n => rfl) ?_
    exact x98_r37_5_ok (u := u) (y0 := y0) (y1 := (y3 + y2)) (y2 := (1 : Int32)) h
def x98_r37_3 (u : im_M) (y0 : Int32) (y1 : Int32) (y2 : Int32) (y3 : Int32) : Option (Int32 × im_M) :=
  bif Op.if_icmp.holds .eq (3 : Int32) (u 37 19) then
    (x98_r37_4 u y0 (y3 + y2) (0 : Int32) (y3 + y2))
  else
    (bif iv_in (((4 : Int32) * y0) + (3 : Int32)) 16 then
      Option.bind (x93 u ((u 50) ((((4 : Int32) * y0) + (3 : Int32))).toNatClampNeg) (0 : Int32)) (fun q4 =>
        bif Op.ifCond.holds .eq q4.1 then
          (x98_r37_4 q4.2 y0 (y3 + y2) (0 : Int32) (y3 + y2))
        else
          (x98_r37_4 q4.2 y0 (y3 + y2) (1 : Int32) (y3 + y2)))
    else none)
set_option maxRecDepth 100000 in
set_option maxHeartbeats 4000000 in
theorem x98_r37_3_ok {L : Nat} {xs : Nat → Int32} {g u mm : im_M} {o : Nat → Int64} {Y : iv_A} {y0 y1 y2 y3 ret : Int32} (h : x98_r37_3 u y0 y1 y2 y3 = some (ret, mm)) : iv_ev (iv_Xs L xs) 98 55 [.ref 40, .int y0, .int (0 : Int32), .int (0 : Int32), .int y1, .int (2 : Int32)] [.int y2, .int y3] (im_H g u o Y) 0 0 (.inl none, im_H g mm o Y) := by
  unfold x98_r37_3 at h
  cases hb10 : Op.if_icmp.holds .eq (3 : Int32) (u 37 19) with
  | true =>
    have h := iv_bt hb10 h
    refine iv_brt (mi' := 98) (pc' := 54) (ls' := [.ref 40, .int y0, .int (0 : Int32), .int (0 : Int32), .int (y3 + y2), .int (3 : Int32)]) (st' := [.int (y3 + y2)]) (A' := im_H g u o Y) (c' := 0) (s' := 0) (mi'' := 98) (pc'' := 32) (ls'' := [.ref 40, .int y0, .int (0 : Int32), .int (0 : Int32), .int (y3 + y2), .int (3 : Int32)]) (st'' := [.int (y3 + y2)]) (A'' := im_H g u o Y) (c'' := 0) (s'' := 0) 12 0 0 hb10 (fun n => rfl) ?_
    refine iv_blk (mi' := 98) (pc' := 55) (ls' := [.ref 40, .int y0, .int (0 : Int32), .int (0 : Int32), .int (y3 + y2), .int (3 : Int32)]) (st' := [.int (0 : Int32), .int (y3 + y2)]) (A' := im_H g u o Y) (c' := 0) (s' := 0) 1 (fun n => rfl) ?_
    exact x98_r37_4_ok (u := u) (y0 := y0) (y1 := (y3 + y2)) (y2 := (0 : Int32)) (y3 := (y3 + y2)) h
  | false =>
    have h := iv_bf hb10 h
    refine iv_brf (mi' := 98) (pc' := 54) (ls' := [.ref 40, .int y0, .int (0 : Int32), .int (0 : Int32), .int (y3 + y2), .int (3 : Int32)]) (st' := [.int (y3 + y2)]) (A' := im_H g u o Y) (c' := 0) (s' := 0) (mi'' := 98) (pc'' := 32) (ls'' := [.ref 40, .int y0, .int (0 : Int32), .int (0 : Int32), .int (y3 + y2), .int (3 : Int32)]) (st'' := [.int (y3 + y2)]) (A'' := im_H g u o Y) (c'' := 0) (s'' := 0) 12 0 0 hb10 (fun n => rfl) ?_
    cases hb11 : iv_in (((4 : Int32) * y0) + (3 : Int32)) 16 with
    | false => exact (iv_bn hb11 h).elim
    | true =>
      have h := iv_bt hb11 h
      refine iv_chk (mi' := 98) (pc' := 43) (ls' := [.ref 40, .int y0, .int (0 : Int32), .int (0 : Int32), .int (y3 + y2), .int (3 : Int32)]) (st' := [.int ((u 50) ((((4 : Int32) * y0) + (3 : Int32))).toNatClampNeg), .int (y3 + y2)]) (A' := im_H g u o Y) (c' := 0) (s' := 0) 8 hb11 (fun n => rfl) ?_
      obtain ⟨v4, g4, hc, h⟩ := iv_bd h
      refine iv_cal (mi' := 98) (pc' := 44) (ls' := [.ref 40, .int y0, .int (0 : Int32), .int (0 : Int32), .int (y3 + y2), .int (3 : Int32)]) (rest := [.int (y3 + y2)]) (A' := im_H g u o Y) (c' := 0) (s' := 0) (as := [.int ((u 50) ((((4 : Int32) * y0) + (3 : Int32))).toNatClampNeg), .int (0 : Int32)]) (v := some (.int v4)) (A'' := im_H g g4 o Y) 2 93 (fun n => rfl) rfl (x93_ok (u := u) (a := ((u 50) ((((4 : Int32) * y0) + (3 : Int32))).toNatClampNeg)) (b := (0 : Int32)) hc) ?_
      show iv_ev (iv_Xs L xs) 98 47 [.ref 40, .int y0, .int (0 : Int32), .int (0 : Int32), .int (y3 + y2), .int (3 : Int32)] [.int v4, .int (y3 + y2)] (im_H g g4 o Y) 0 0 _
      cases hb12 : Op.ifCond.holds .eq v4 with
      | true =>
        have h := iv_bt hb12 h
        refine iv_brt (mi' := 98) (pc' := 54) (ls' := [.ref 40, .int y0, .int (0 : Int32), .int (0 : Int32), .int (y3 + y2), .int (3 : Int32)]) (st' := [.int (y3 + y2)]) (A' := im_H g g4 o Y) (c' := 0) (s' := 0) (mi'' := 98) (pc'' := 50) (ls'' := [.ref 40, .int y0, .int (0 : Int32), .int (0 : Int32), .int (y3 + y2), .int (3 : Int32)]) (st'' := [.int (y3 + y2)]) (A'' := im_H g g4 o Y) (c'' := 0) (s'' := 0) 1 0 0 hb12 (fun n => rfl) ?_
        refine iv_blk (mi' := 98) (pc' := 55) (ls' := [.ref 40, .int y0, .int (0 : Int32), .int (0 : Int32), .int (y3 + y2), .int (3 : Int32)]) (st' := [.int (0 : Int32), .int (y3 + y2)]) (A' := im_H g g4 o Y) (c' := 0) (s' := 0) 1 (fun n => rfl) ?_
        exact x98_r37_4_ok (u := g4) (y0 := y0) (y1 := (y3 + y2)) (y2 := (0 : Int32)) (y3 := (y3 + y2)) h
      | false =>
        have h := iv_bf hb12 h
        refine iv_brf (mi' := 98) (pc' := 54) (ls' := [.ref 40, .int y0, .int (0 : Int32), .int (0 : Int32), .int (y3 + y2), .int (3 : Int32)]) (st' := [.int (y3 + y2)]) (A' := im_H g g4 o Y) (c' := 0) (s' := 0) (mi'' := 98) (pc'' := 50) (ls'' := [.ref 40, .int y0, .int (0 : Int32), .int (0 : Int32), .int (y3 + y2), .int (3 : Int32)]) (st'' := [.int (y3 + y2)]) (A'' := im_H g g4 o Y) (c'' := 0) (s'' := 0) 1 0 0 hb12 (fun n => rfl) ?_
        refine iv_blk (mi' := 98) (pc' := 55) (ls' := [.ref 40, .int y0, .int (0 : Int32), .int (0 : Int32), .int (y3 + y2), .int (3 : Int32)]) (st' := [.int (1 : Int32), .int (y3 + y2)]) (A' := im_H g g4 o Y) (c' := 0) (s' := 0) 2 (fun n => rfl) ?_
        exact x98_r37_4_ok (u := g4) (y0 := y0) (y1 := (y3 + y2)) (y2 := (1 : Int32)) (y3 := (y3 + y2)) h
def x98_r37_2 (u : im_M) (y0 : Int32) (y1 : Int32) (y2 : Int32) (y3 : Int32) : Option (Int32 × im_M) :=
  bif Op.if_icmp.holds .eq (2 : Int32) (u 37 19) then
    (x98_r37_3 u y0 (y3 + y2) (0 : Int32) (y3 + y2))
  else
    (bif iv_in (((4 : Int32) * y0) + (2 : Int32)) 16 then
      Option.bind (x93 u ((u 50) ((((4 : Int32) * y0) + (2 : Int32))).toNatClampNeg) (0 : Int32)) (fun q3 =>
        bif Op.ifCond.holds .eq q3.1 then
          (x98_r37_3 q3.2 y0 (y3 + y2) (0 : Int32) (y3 + y2))
        else
          (x98_r37_3 q3.2 y0 (y3 + y2) (1 : Int32) (y3 + y2)))
    else none)
set_option maxRecDepth 100000 in
set_option maxHeartbeats 4000000 in
theorem x98_r37_2_ok {L : Nat} {xs : Nat → Int32} {g u mm : im_M} {o : Nat → Int64} {Y : iv_A} {y0 y1 y2 y3 ret : Int32} (h : x98_r37_2 u y0 y1 y2 y3 = some (ret, mm)) : iv_ev (iv_Xs L xs) 98 55 [.ref 40, .int y0, .int (0 : Int32), .int (0 : Int32), .int y1, .int (1 : Int32)] [.int y2, .int y3] (im_H g u o Y) 0 0 (.inl none, im_H g mm o Y) := by
  unfold x98_r37_2 at h
  cases hb7 : Op.if_icmp.holds .eq (2 : Int32) (u 37 19) with
  | true =>
    have h := iv_bt hb7 h
    refine iv_brt (mi' := 98) (pc' := 54) (ls' := [.ref 40, .int y0, .int (0 : Int32), .int (0 : Int32), .int (y3 + y2), .int (2 : Int32)]) (st' := [.int (y3 + y2)]) (A' := im_H g u o Y) (c' := 0) (s' := 0) (mi'' := 98) (pc'' := 32) (ls'' := [.ref 40, .int y0, .int (0 : Int32), .int (0 : Int32), .int (y3 + y2), .int (2 : Int32)]) (st'' := [.int (y3 + y2)]) (A'' := im_H g u o Y) (c'' := 0) (s'' := 0) 12 0 0 hb7 (fun n => rfl) ?_
    refine iv_blk (mi' := 98) (pc' := 55) (ls' := [.ref 40, .int y0, .int (0 : Int32), .int (0 : Int32), .int (y3 + y2), .int (2 : Int32)]) (st' := [.int (0 : Int32), .int (y3 + y2)]) (A' := im_H g u o Y) (c' := 0) (s' := 0) 1 (fun n => rfl) ?_
    exact x98_r37_3_ok (u := u) (y0 := y0) (y1 := (y3 + y2)) (y2 := (0 : Int32)) (y3 := (y3 + y2)) h
  | false =>
    have h := iv_bf hb7 h
    refine iv_brf (mi' := 98) (pc' := 54) (ls' := [.ref 40, .int y0, .int (0 : Int32), .int (0 : Int32), .int (y3 + y2), .int (2 : Int32)]) (st' := [.int (y3 + y2)]) (A' := im_H g u o Y) (c' := 0) (s' := 0) (mi'' := 98) (pc'' := 32) (ls'' := [.ref 40, .int y0, .int (0 : Int32), .int (0 : Int32), .int (y3 + y2), .int (2 : Int32)]) (st'' := [.int (y3 + y2)]) (A'' := im_H g u o Y) (c'' := 0) (s'' := 0) 12 0 0 hb7 (fun n => rfl) ?_
    cases hb8 : iv_in (((4 : Int32) * y0) + (2 : Int32)) 16 with
    | false => exact (iv_bn hb8 h).elim
    | true =>
      have h := iv_bt hb8 h
      refine iv_chk (mi' := 98) (pc' := 43) (ls' := [.ref 40, .int y0, .int (0 : Int32), .int (0 : Int32), .int (y3 + y2), .int (2 : Int32)]) (st' := [.int ((u 50) ((((4 : Int32) * y0) + (2 : Int32))).toNatClampNeg), .int (y3 + y2)]) (A' := im_H g u o Y) (c' := 0) (s' := 0) 8 hb8 (fun n => rfl) ?_
      obtain ⟨v3, g3, hc, h⟩ := iv_bd h
      refine iv_cal (mi' := 98) (pc' := 44) (ls' := [.ref 40, .int y0, .int (0 : Int32), .int (0 : Int32), .int (y3 + y2), .int (2 : Int32)]) (rest := [.int (y3 + y2)]) (A' := im_H g u o Y) (c' := 0) (s' := 0) (as := [.int ((u 50) ((((4 : Int32) * y0) + (2 : Int32))).toNatClampNeg), .int (0 : Int32)]) (v := some (.int v3)) (A'' := im_H g g3 o Y) 2 93 (fun n => rfl) rfl (x93_ok (u := u) (a := ((u 50) ((((4 : Int32) * y0) + (2 : Int32))).toNatClampNeg)) (b := (0 : Int32)) hc) ?_
      show iv_ev (iv_Xs L xs) 98 47 [.ref 40, .int y0, .int (0 : Int32), .int (0 : Int32), .int (y3 + y2), .int (2 : Int32)] [.int v3, .int (y3 + y2)] (im_H g g3 o Y) 0 0 _
      cases hb9 : Op.ifCond.holds .eq v3 with
      | true =>
        have h := iv_bt hb9 h
        refine iv_brt (mi' := 98) (pc' := 54) (ls' := [.ref 40, .int y0, .int (0 : Int32), .int (0 : Int32), .int (y3 + y2), .int (2 : Int32)]) (st' := [.int (y3 + y2)]) (A' := im_H g g3 o Y) (c' := 0) (s' := 0) (mi'' := 98) (pc'' := 50) (ls'' := [.ref 40, .int y0, .int (0 : Int32), .int (0 : Int32), .int (y3 + y2), .int (2 : Int32)]) (st'' := [.int (y3 + y2)]) (A'' := im_H g g3 o Y) (c'' := 0) (s'' := 0) 1 0 0 hb9 (fun n => rfl) ?_
        refine iv_blk (mi' := 98) (pc' := 55) (ls' := [.ref 40, .int y0, .int (0 : Int32), .int (0 : Int32), .int (y3 + y2), .int (2 : Int32)]) (st' := [.int (0 : Int32), .int (y3 + y2)]) (A' := im_H g g3 o Y) (c' := 0) (s' := 0) 1 (fun n => rfl) ?_
        exact x98_r37_3_ok (u := g3) (y0 := y0) (y1 := (y3 + y2)) (y2 := (0 : Int32)) (y3 := (y3 + y2)) h
      | false =>
        have h := iv_bf hb9 h
        refine iv_brf (mi' := 98) (pc' := 54) (ls' := [.ref 40, .int y0, .int (0 : Int32), .int (0 : Int32), .int (y3 + y2), .int (2 : Int32)]) (st' := [.int (y3 + y2)]) (A' := im_H g g3 o Y) (c' := 0) (s' := 0) (mi'' := 98) (pc'' := 50) (ls'' := [.ref 40, .int y0, .int (0 : Int32), .int (0 : Int32), .int (y3 + y2), .int (2 : Int32)]) (st'' := [.int (y3 + y2)]) (A'' := im_H g g3 o Y) (c'' := 0) (s'' := 0) 1 0 0 hb9 (fun n => rfl) ?_
        refine iv_blk (mi' := 98) (pc' := 55) (ls' := [.ref 40, .int y0, .int (0 : Int32), .int (0 : Int32), .int (y3 + y2), .int (2 : Int32)]) (st' := [.int (1 : Int32), .int (y3 + y2)]) (A' := im_H g g3 o Y) (c' := 0) (s' := 0) 2 (fun n => rfl) ?_
        exact x98_r37_3_ok (u := g3) (y0 := y0) (y1 := (y3 + y2)) (y2 := (1 : Int32)) (y3 := (y3 + y2)) h
def x98_r37_1 (u : im_M) (y0 : Int32) (y1 : Int32) : Option (Int32 × im_M) :=
  bif Op.if_icmp.holds .eq (1 : Int32) (u 37 19) then
    (x98_r37_2 u y0 ((0 : Int32) + y1) (0 : Int32) ((0 : Int32) + y1))
  else
    (bif iv_in (((4 : Int32) * y0) + (1 : Int32)) 16 then
      Option.bind (x93 u ((u 50) ((((4 : Int32) * y0) + (1 : Int32))).toNatClampNeg) (0 : Int32)) (fun q2 =>
        bif Op.ifCond.holds .eq q2.1 then
          (x98_r37_2 q2.2 y0 ((0 : Int32) + y1) (0 : Int32) ((0 : Int32) + y1))
        else
          (x98_r37_2 q2.2 y0 ((0 : Int32) + y1) (1 : Int32) ((0 : Int32) + y1)))
    else none)
set_option maxRecDepth 100000 in
set_option maxHeartbeats 4000000 in
theorem x98_r37_1_ok {L : Nat} {xs : Nat → Int32} {g u mm : im_M} {o : Nat → Int64} {Y : iv_A} {y0 y1 ret : Int32} (h : x98_r37_1 u y0 y1 = some (ret, mm)) : iv_ev (iv_Xs L xs) 98 55 [.ref 40, .int y0, .int (0 : Int32), .int (0 : Int32), .int (0 : Int32), .int (0 : Int32)] [.int y1, .int (0 : Int32)] (im_H g u o Y) 0 0 (.inl none, im_H g mm o Y) := by
  unfold x98_r37_1 at h
  cases hb4 : Op.if_icmp.holds .eq (1 : Int32) (u 37 19) with
  | true =>
    have h := iv_bt hb4 h
    refine iv_brt (mi' := 98) (pc' := 54) (ls' := [.ref 40, .int y0, .int (0 : Int32), .int (0 : Int32), .int ((0 : Int32) + y1), .int (1 : Int32)]) (st' := [.int ((0 : Int32) + y1)]) (A' := im_H g u o Y) (c' := 0) (s' := 0) (mi'' := 98) (pc'' := 32) (ls'' := [.ref 40, .int y0, .int (0 : Int32), .int (0 : Int32), .int ((0 : Int32) + y1), .int (1 : Int32)]) (st'' := [.int ((0 : Int32) + y1)]) (A'' := im_H g u o Y) (c'' := 0) (s'' := 0) 12 0 0 hb4 (fun n => rfl) ?_
    refine iv_blk (mi' := 98) (pc' := 55) (ls' := [.ref 40, .int y0, .int (0 : Int32), .int (0 : Int32), .int ((0 : Int32) + y1), .int (1 : Int32)]) (st' := [.int (0 : Int32), .int ((0 : Int32) + y1)]) (A' := im_H g u o Y) (c' := 0) (s' := 0) 1 (fun n => rfl) ?_
    exact x98_r37_2_ok (u := u) (y0 := y0) (y1 := ((0 : Int32) + y1)) (y2 := (0 : Int32)) (y3 := ((0 : Int32) + y1)) h
  | false =>
    have h := iv_bf hb4 h
    refine iv_brf (mi' := 98) (pc' := 54) (ls' := [.ref 40, .int y0, .int (0 : Int32), .int (0 : Int32), .int ((0 : Int32) + y1), .int (1 : Int32)]) (st' := [.int ((0 : Int32) + y1)]) (A' := im_H g u o Y) (c' := 0) (s' := 0) (mi'' := 98) (pc'' := 32) (ls'' := [.ref 40, .int y0, .int (0 : Int32), .int (0 : Int32), .int ((0 : Int32) + y1), .int (1 : Int32)]) (st'' := [.int ((0 : Int32) + y1)]) (A'' := im_H g u o Y) (c'' := 0) (s'' := 0) 12 0 0 hb4 (fun n => rfl) ?_
    cases hb5 : iv_in (((4 : Int32) * y0) + (1 : Int32)) 16 with
    | false => exact (iv_bn hb5 h).elim
    | true =>
      have h := iv_bt hb5 h
      refine iv_chk (mi' := 98) (pc' := 43) (ls' := [.ref 40, .int y0, .int (0 : Int32), .int (0 : Int32), .int ((0 : Int32) + y1), .int (1 : Int32)]) (st' := [.int ((u 50) ((((4 : Int32) * y0) + (1 : Int32))).toNatClampNeg), .int ((0 : Int32) + y1)]) (A' := im_H g u o Y) (c' := 0) (s' := 0) 8 hb5 (fun n => rfl) ?_
      obtain ⟨v2, g2, hc, h⟩ := iv_bd h
      refine iv_cal (mi' := 98) (pc' := 44) (ls' := [.ref 40, .int y0, .int (0 : Int32), .int (0 : Int32), .int ((0 : Int32) + y1), .int (1 : Int32)]) (rest := [.int ((0 : Int32) + y1)]) (A' := im_H g u o Y) (c' := 0) (s' := 0) (as := [.int ((u 50) ((((4 : Int32) * y0) + (1 : Int32))).toNatClampNeg), .int (0 : Int32)]) (v := some (.int v2)) (A'' := im_H g g2 o Y) 2 93 (fun n => rfl) rfl (x93_ok (u := u) (a := ((u 50) ((((4 : Int32) * y0) + (1 : Int32))).toNatClampNeg)) (b := (0 : Int32)) hc) ?_
      show iv_ev (iv_Xs L xs) 98 47 [.ref 40, .int y0, .int (0 : Int32), .int (0 : Int32), .int ((0 : Int32) + y1), .int (1 : Int32)] [.int v2, .int ((0 : Int32) + y1)] (im_H g g2 o Y) 0 0 _
      cases hb6 : Op.ifCond.holds .eq v2 with
      | true =>
        have h := iv_bt hb6 h
        refine iv_brt (mi' := 98) (pc' := 54) (ls' := [.ref 40, .int y0, .int (0 : Int32), .int (0 : Int32), .int ((0 : Int32) + y1), .int (1 : Int32)]) (st' := [.int ((0 : Int32) + y1)]) (A' := im_H g g2 o Y) (c' := 0) (s' := 0) (mi'' := 98) (pc'' := 50) (ls'' := [.ref 40, .int y0, .int (0 : Int32), .int (0 : Int32), .int ((0 : Int32) + y1), .int (1 : Int32)]) (st'' := [.int ((0 : Int32) + y1)]) (A'' := im_H g g2 o Y) (c'' := 0) (s'' := 0) 1 0 0 hb6 (fun n => rfl) ?_
        refine iv_blk (mi' := 98) (pc' := 55) (ls' := [.ref 40, .int y0, .int (0 : Int32), .int (0 : Int32), .int ((0 : Int32) + y1), .int (1 : Int32)]) (st' := [.int (0 : Int32), .int ((0 : Int32) + y1)]) (A' := im_H g g2 o Y) (c' := 0) (s' := 0) 1 (fun n => rfl) ?_
        exact x98_r37_2_ok (u := g2) (y0 := y0) (y1 := ((0 : Int32) + y1)) (y2 := (0 : Int32)) (y3 := ((0 : Int32) + y1)) h
      | false =>
        have h := iv_bf hb6 h
        refine iv_brf (mi' := 98) (pc' := 54) (ls' := [.ref 40, .int y0, .int (0 : Int32), .int (0 : Int32), .int ((0 : Int32) + y1), .int (1 : Int32)]) (st' := [.int ((0 : Int32) + y1)]) (A' := im_H g g2 o Y) (c' := 0) (s' := 0) (mi'' := 98) (pc'' := 50) (ls'' := [.ref 40, .int y0, .int (0 : Int32), .int (0 : Int32), .int ((0 : Int32) + y1), .int (1 : Int32)]) (st'' := [.int ((0 : Int32) + y1)]) (A'' := im_H g g2 o Y) (c'' := 0) (s'' := 0) 1 0 0 hb6 (fun n => rfl) ?_
        refine iv_blk (mi' := 98) (pc' := 55) (ls' := [.ref 40, .int y0, .int (0 : Int32), .int (0 : Int32), .int ((0 : Int32) + y1), .int (1 : Int32)]) (st' := [.int (1 : Int32), .int ((0 : Int32) + y1)]) (A' := im_H g g2 o Y) (c' := 0) (s' := 0) 2 (fun n => rfl) ?_
        exact x98_r37_2_ok (u := g2) (y0 := y0) (y1 := ((0 : Int32) + y1)) (y2 := (1 : Int32)) (y3 := ((0 : Int32) + y1)) h
def x98_r37 (u : im_M) (a : Int32) : Option (Int32 × im_M) :=
  bif Op.if_icmp.holds .eq (0 : Int32) (u 37 19) then
    (x98_r37_1 u a (0 : Int32))
  else
    (bif iv_in (((4 : Int32) * a) + (0 : Int32)) 16 then
      Option.bind (x93 u ((u 50) ((((4 : Int32) * a) + (0 : Int32))).toNatClampNeg) (0 : Int32)) (fun q1 =>
        bif Op.ifCond.holds .eq q1.1 then
          (x98_r37_1 q1.2 a (0 : Int32))
        else
          (x98_r37_1 q1.2 a (1 : Int32)))
    else none)
set_option maxRecDepth 100000 in
set_option maxHeartbeats 4000000 in
theorem x98_r37_ok {L : Nat} {xs : Nat → Int32} {g u mm : im_M} {o : Nat → Int64} {Y : iv_A} {a ret : Int32} (h : x98_r37 u a = some (ret, mm)) : iv_ev (iv_Xs L xs) 98 0 [.ref 40, .int a, .retAddr 0, .retAddr 0, .retAddr 0, .retAddr 0] [] (im_H g u o Y) 0 0 (.inl none, im_H g mm o Y) := by
  unfold x98_r37 at h
  cases hb1 : Op.if_icmp.holds .eq (0 : Int32) (u 37 19) with
  | true =>
    have h := iv_bt hb1 h
    refine iv_brt (mi' := 98) (pc' := 54) (ls' := [.ref 40, .int a, .int (0 : Int32), .int (0 : Int32), .int (0 : Int32), .int (0 : Int32)]) (st' := [.int (0 : Int32)]) (A' := im_H g u o Y) (c' := 0) (s' := 0) (mi'' := 98) (pc'' := 32) (ls'' := [.ref 40, .int a, .int (0 : Int32), .int (0 : Int32), .int (0 : Int32), .int (0 : Int32)]) (st'' := [.int (0 : Int32)]) (A'' := im_H g u o Y) (c'' := 0) (s'' := 0) 19 0 0 hb1 (fun n => rfl) ?_
    refine iv_blk (mi' := 98) (pc' := 55) (ls' := [.ref 40, .int a, .int (0 : Int32), .int (0 : Int32), .int (0 : Int32), .int (0 : Int32)]) (st' := [.int (0 : Int32), .int (0 : Int32)]) (A' := im_H g u o Y) (c' := 0) (s' := 0) 1 (fun n => rfl) ?_
    exact x98_r37_1_ok (u := u) (y0 := a) (y1 := (0 : Int32)) h
  | false =>
    have h := iv_bf hb1 h
    refine iv_brf (mi' := 98) (pc' := 54) (ls' := [.ref 40, .int a, .int (0 : Int32), .int (0 : Int32), .int (0 : Int32), .int (0 : Int32)]) (st' := [.int (0 : Int32)]) (A' := im_H g u o Y) (c' := 0) (s' := 0) (mi'' := 98) (pc'' := 32) (ls'' := [.ref 40, .int a, .int (0 : Int32), .int (0 : Int32), .int (0 : Int32), .int (0 : Int32)]) (st'' := [.int (0 : Int32)]) (A'' := im_H g u o Y) (c'' := 0) (s'' := 0) 19 0 0 hb1 (fun n => rfl) ?_
    cases hb2 : iv_in (((4 : Int32) * a) + (0 : Int32)) 16 with
    | false => exact (iv_bn hb2 h).elim
    | true =>
      have h := iv_bt hb2 h
      refine iv_chk (mi' := 98) (pc' := 43) (ls' := [.ref 40, .int a, .int (0 : Int32), .int (0 : Int32), .int (0 : Int32), .int (0 : Int32)]) (st' := [.int ((u 50) ((((4 : Int32) * a) + (0 : Int32))).toNatClampNeg), .int (0 : Int32)]) (A' := im_H g u o Y) (c' := 0) (s' := 0) 8 hb2 (fun n => rfl) ?_
      obtain ⟨v1, g1, hc, h⟩ := iv_bd h
      refine iv_cal (mi' := 98) (pc' := 44) (ls' := [.ref 40, .int a, .int (0 : Int32), .int (0 : Int32), .int (0 : Int32), .int (0 : Int32)]) (rest := [.int (0 : Int32)]) (A' := im_H g u o Y) (c' := 0) (s' := 0) (as := [.int ((u 50) ((((4 : Int32) * a) + (0 : Int32))).toNatClampNeg), .int (0 : Int32)]) (v := some (.int v1)) (A'' := im_H g g1 o Y) 2 93 (fun n => rfl) rfl (x93_ok (u := u) (a := ((u 50) ((((4 : Int32) * a) + (0 : Int32))).toNatClampNeg)) (b := (0 : Int32)) hc) ?_
      show iv_ev (iv_Xs L xs) 98 47 [.ref 40, .int a, .int (0 : Int32), .int (0 : Int32), .int (0 : Int32), .int (0 : Int32)] [.int v1, .int (0 : Int32)] (im_H g g1 o Y) 0 0 _
      cases hb3 : Op.ifCond.holds .eq v1 with
      | true =>
        have h := iv_bt hb3 h
        refine iv_brt (mi' := 98) (pc' := 54) (ls' := [.ref 40, .int a, .int (0 : Int32), .int (0 : Int32), .int (0 : Int32), .int (0 : Int32)]) (st' := [.int (0 : Int32)]) (A' := im_H g g1 o Y) (c' := 0) (s' := 0) (mi'' := 98) (pc'' := 50) (ls'' := [.ref 40, .int a, .int (0 : Int32), .int (0 : Int32), .int (0 : Int32), .int (0 : Int32)]) (st'' := [.int (0 : Int32)]) (A'' := im_H g g1 o Y) (c'' := 0) (s'' := 0) 1 0 0 hb3 (fun n => rfl) ?_
        refine iv_blk (mi' := 98) (pc' := 55) (ls' := [.ref 40, .int a, .int (0 : Int32), .int (0 : Int32), .int (0 : Int32), .int (0 : Int32)]) (st' := [.int (0 : Int32), .int (0 : Int32)]) (A' := im_H g g1 o Y) (c' := 0) (s' := 0) 1 (fun n => rfl) ?_
        exact x98_r37_1_ok (u := g1) (y0 := a) (y1 := (0 : Int32)) h
      | false =>
        have h := iv_bf hb3 h
        refine iv_brf (mi' := 98) (pc' := 54) (ls' := [.ref 40, .int a, .int (0 : Int32), .int (0 : Int32), .int (0 : Int32), .int (0 : Int32)]) (st' := [.int (0 : Int32)]) (A' := im_H g g1 o Y) (c' := 0) (s' := 0) (mi'' := 98) (pc'' := 50) (ls'' := [.ref 40, .int a, .int (0 : Int32), .int (0 : Int32), .int (0 : Int32), .int (0 : Int32)]) (st'' := [.int (0 : Int32)]) (A'' := im_H g g1 o Y) (c'' := 0) (s'' := 0) 1 0 0 hb3 (fun n => rfl) ?_
        refine iv_blk (mi' := 98) (pc' := 55) (ls' := [.ref 40, .int a, .int (0 : Int32), .int (0 : Int32), .int (0 : Int32), .int (0 : Int32)]) (st' := [.int (1 : Int32), .int (0 : Int32)]) (A' := im_H g g1 o Y) (c' := 0) (s' := 0) 2 (fun n => rfl) ?_
        exact x98_r37_1_ok (u := g1) (y0 := a) (y1 := (1 : Int32)) h
def x99_r37_7 (u : im_M) (y0 : Int32) (y1 : Int32) (y2 : Int32) (y3 : Int32) (y4 : Int32) (y5 : Int32) : Option (Int32 × im_M) :=
  some (0, (im_w (im_w (im_w u 37 29 (y5 + y4)) 37 20 (-1 : Int32)) 37 21 (0 : Int32)))
set_option maxRecDepth 100000 in
set_option maxHeartbeats 4000000 in
theorem x99_r37_7_ok {L : Nat} {xs : Nat → Int32} {g u mm : im_M} {o : Nat → Int64} {Y : iv_A} {y0 y1 y2 y3 y4 y5 ret : Int32} (h : x99_r37_7 u y0 y1 y2 y3 y4 y5 = some (ret, mm)) : iv_ev (iv_Xs L xs) 99 124 [.ref 40, .int y0, .int y1, .int y2, .int (4 : Int32), .int y3] [.int y4, .int y5, .ref 40] (im_H g u o Y) 0 0 (.inl none, im_H g mm o Y) := by
  unfold x99_r37_7 at h
  refine iv_blk (mi' := 99) (pc' := 128) (ls' := [.ref 40, .int y0, .int y1, .int y2, .int (4 : Int32), .int y3]) (st' := []) (A' := List.set (im_H g u o Y) 37 (.inr (6, List.set [.int (u 37 0), .int (u 37 1), .int (u 37 2), .ref 41, .ref 42, .ref 43, .ref 44, .ref 45, .ref 46, .ref 47, .ref 48, .ref 49, .ref 50, .ref 51, .ref 52, .ref 53, .ref 54, .ref 55, .ref 56, .int (u 37 19), .int (u 37 20), .int (u 37 21), .int (u 37 22), .ref 57, .ref 58, .ref 59, .ref 60, .int (u 37 27), .int (u 37 28), .int (u 37 29)] 29 (.int (y5 + y4))))) (c' := 0) (s' := 0) 2 (fun n => rfl) ?_
  rw [im_f37_29]
  refine iv_blk (mi' := 99) (pc' := 133) (ls' := [.ref 40, .int y0, .int y1, .int y2, .int (4 : Int32), .int y3]) (st' := []) (A' := List.set (im_H g (im_w u 37 29 (y5 + y4)) o Y) 37 (.inr (6, List.set [.int ((im_w u 37 29 (y5 + y4)) 37 0), .int ((im_w u 37 29 (y5 + y4)) 37 1), .int ((im_w u 37 29 (y5 + y4)) 37 2), .ref 41, .ref 42, .ref 43, .ref 44, .ref 45, .ref 46, .ref 47, .ref 48, .ref 49, .ref 50, .ref 51, .ref 52, .ref 53, .ref 54, .ref 55, .ref 56, .int ((im_w u 37 29 (y5 + y4)) 37 19), .int ((im_w u 37 29 (y5 + y4)) 37 20), .int ((im_w u 37 29 (y5 + y4)) 37 21), .int ((im_w u 37 29 (y5 + y4)) 37 22), .ref 57, .ref 58, .ref 59, .ref 60, .int ((im_w u 37 29 (y5 + y4)) 37 27), .int ((im_w u 37 29 (y5 + y4)) 37 28), .int ((im_w u 37 29 (y5 + y4)) 37 29)] 20 (.int (-1 : Int32))))) (c' := 0) (s' := 0) 3 (fun n => rfl) ?_
  rw [im_f37_20]
  refine iv_blk (mi' := 99) (pc' := 138) (ls' := [.ref 40, .int y0, .int y1, .int y2, .int (4 : Int32), .int y3]) (st' := []) (A' := List.set (im_H g (im_w (im_w u 37 29 (y5 + y4)) 37 20 (-1 : Int32)) o Y) 37 (.inr (6, List.set [.int ((im_w (im_w u 37 29 (y5 + y4)) 37 20 (-1 : Int32)) 37 0), .int ((im_w (im_w u 37 29 (y5 + y4)) 37 20 (-1 : Int32)) 37 1), .int ((im_w (im_w u 37 29 (y5 + y4)) 37 20 (-1 : Int32)) 37 2), .ref 41, .ref 42, .ref 43, .ref 44, .ref 45, .ref 46, .ref 47, .ref 48, .ref 49, .ref 50, .ref 51, .ref 52, .ref 53, .ref 54, .ref 55, .ref 56, .int ((im_w (im_w u 37 29 (y5 + y4)) 37 20 (-1 : Int32)) 37 19), .int ((im_w (im_w u 37 29 (y5 + y4)) 37 20 (-1 : Int32)) 37 20), .int ((im_w (im_w u 37 29 (y5 + y4)) 37 20 (-1 : Int32)) 37 21), .int ((im_w (im_w u 37 29 (y5 + y4)) 37 20 (-1 : Int32)) 37 22), .ref 57, .ref 58, .ref 59, .ref 60, .int ((im_w (im_w u 37 29 (y5 + y4)) 37 20 (-1 : Int32)) 37 27), .int ((im_w (im_w u 37 29 (y5 + y4)) 37 20 (-1 : Int32)) 37 28), .int ((im_w (im_w u 37 29 (y5 + y4)) 37 20 (-1 : Int32)) 37 29)] 21 (.int (0 : Int32))))) (c' := 0) (s' := 0) 3 (fun n => rfl) ?_
  rw [im_f37_21]
  cases h
  exact iv_ret 1 (fun n => rfl)
def x99_r37_6 (u : im_M) (y0 : Int32) (y1 : Int32) (y2 : Int32) (y3 : Int32) (y4 : Int32) (y5 : Int32) : Option (Int32 × im_M) :=
  bif Op.ifCond.holds .eq y2 then
    (x99_r37_7 (im_w u 37 28 (y5 + y4)) y0 y1 y2 y3 (1 : Int32) (u 37 29))
  else
    (x99_r37_7 (im_w u 37 28 (y5 + y4)) y0 y1 y2 y3 (0 : Int32) (u 37 29))
set_option maxRecDepth 100000 in
set_option maxHeartbeats 4000000 in
theorem x99_r37_6_ok {L : Nat} {xs : Nat → Int32} {g u mm : im_M} {o : Nat → Int64} {Y : iv_A} {y0 y1 y2 y3 y4 y5 ret : Int32} (h : x99_r37_6 u y0 y1 y2 y3 y4 y5 = some (ret, mm)) : iv_ev (iv_Xs L xs) 99 106 [.ref 40, .int y0, .int y1, .int y2, .int (4 : Int32), .int y3] [.int y4, .int y5, .ref 40] (im_H g u o Y) 0 0 (.inl none, im_H g mm o Y) := by
  unfold x99_r37_6 at h
  refine iv_blk (mi' := 99) (pc' := 110) (ls' := [.ref 40, .int y0, .int y1, .int y2, .int (4 : Int32), .int y3]) (st' := []) (A' := List.set (im_H g u o Y) 37 (.inr (6, List.set [.int (u 37 0), .int (u 37 1), .int (u 37 2), .ref 41, .ref 42, .ref 43, .ref 44, .ref 45, .ref 46, .ref 47, .ref 48, .ref 49, .ref 50, .ref 51, .ref 52, .ref 53, .ref 54, .ref 55, .ref 56, .int (u 37 19), .int (u 37 20), .int (u 37 21), .int (u 37 22), .ref 57, .ref 58, .ref 59, .ref 60, .int (u 37 27), .int (u 37 28), .int (u 37 29)] 28 (.int (y5 + y4))))) (c' := 0) (s' := 0) 2 (fun n => rfl) ?_
  rw [im_f37_28]
  cases hb18 : Op.ifCond.holds .eq y2 with
  | true =>
    have h := iv_bt hb18 h
    refine iv_brt (mi' := 99) (pc' := 123) (ls' := [.ref 40, .int y0, .int y1, .int y2, .int (4 : Int32), .int y3]) (st' := [.int (u 37 29), .ref 40]) (A' := im_H g (im_w u 37 28 (y5 + y4)) o Y) (c' := 0) (s' := 0) (mi'' := 99) (pc'' := 119) (ls'' := [.ref 40, .int y0, .int y1, .int y2, .int (4 : Int32), .int y3]) (st'' := [.int (u 37 29), .ref 40]) (A'' := im_H g (im_w u 37 28 (y5 + y4)) o Y) (c'' := 0) (s'' := 0) 5 0 0 hb18 (fun n => rfl) ?_
    refine iv_blk (mi' := 99) (pc' := 124) (ls' := [.ref 40, .int y0, .int y1, .int y2, .int (4 : Int32), .int y3]) (st' := [.int (1 : Int32), .int (u 37 29), .ref 40]) (A' := im_H g (im_w u 37 28 (y5 + y4)) o Y) (c' := 0) (s' := 0) 1 (fun n => rfl) ?_
    exact x99_r37_7_ok (u := (im_w u 37 28 (y5 + y4))) (y0 := y0) (y1 := y1) (y2 := y2) (y3 := y3) (y4 := (1 : Int32)) (y5 := (u 37 29)) h
  | false =>
    have h := iv_bf hb18 h
    refine iv_brf (mi' := 99) (pc' := 123) (ls' := [.ref 40, .int y0, .int y1, .int y2, .int (4 : Int32), .int y3]) (st' := [.int (u 37 29), .ref 40]) (A' := im_H g (im_w u 37 28 (y5 + y4)) o Y) (c' := 0) (s' := 0) (mi'' := 99) (pc'' := 119) (ls'' := [.ref 40, .int y0, .int y1, .int y2, .int (4 : Int32), .int y3]) (st'' := [.int (u 37 29), .ref 40]) (A'' := im_H g (im_w u 37 28 (y5 + y4)) o Y) (c'' := 0) (s'' := 0) 5 0 0 hb18 (fun n => rfl) ?_
    refine iv_blk (mi' := 99) (pc' := 124) (ls' := [.ref 40, .int y0, .int y1, .int y2, .int (4 : Int32), .int y3]) (st' := [.int (0 : Int32), .int (u 37 29), .ref 40]) (A' := im_H g (im_w u 37 28 (y5 + y4)) o Y) (c' := 0) (s' := 0) 2 (fun n => rfl) ?_
    exact x99_r37_7_ok (u := (im_w u 37 28 (y5 + y4))) (y0 := y0) (y1 := y1) (y2 := y2) (y3 := y3) (y4 := (0 : Int32)) (y5 := (u 37 29)) h
def x99_r37_5 (u : im_M) (y0 : Int32) (y1 : Int32) (y2 : Int32) (y3 : Int32) (y4 : Int32) : Option (Int32 × im_M) :=
  Option.bind (x94_r37 u y4 y0 y1) (fun q5 =>
    bif Op.ifCond.holds .eq y2 then
      (x99_r37_6 q5.2 y0 y1 y2 y3 (0 : Int32) (q5.2 37 28))
    else
      (x99_r37_6 q5.2 y0 y1 y2 y3 (1 : Int32) (q5.2 37 28)))
set_option maxRecDepth 100000 in
set_option maxHeartbeats 4000000 in
theorem x99_r37_5_ok {L : Nat} {xs : Nat → Int32} {g u mm : im_M} {o : Nat → Int64} {Y : iv_A} {y0 y1 y2 y3 y4 ret : Int32} (h : x99_r37_5 u y0 y1 y2 y3 y4 = some (ret, mm)) : iv_ev (iv_Xs L xs) 99 87 [.ref 40, .int y0, .int y1, .int y2, .int (4 : Int32), .int y3] [.int y4, .ref 40] (im_H g u o Y) 0 0 (.inl none, im_H g mm o Y) := by
  unfold x99_r37_5 at h
  obtain ⟨v5, g5, hc, h⟩ := iv_bd h
  refine iv_cal (mi' := 99) (pc' := 89) (ls' := [.ref 40, .int y0, .int y1, .int y2, .int (4 : Int32), .int y3]) (rest := []) (A' := im_H g u o Y) (c' := 0) (s' := 0) (as := [.ref 40, .int y4, .int y0, .int y1]) (v := none) (A'' := im_H g g5 o Y) 3 94 (fun n => rfl) rfl (x94_r37_ok (u := u) (a := y4) (b := y0) (c := y1) hc) ?_
  show iv_ev (iv_Xs L xs) 99 92 [.ref 40, .int y0, .int y1, .int y2, .int (4 : Int32), .int y3] [] (im_H g g5 o Y) 0 0 _
  cases hb17 : Op.ifCond.holds .eq y2 with
  | true =>
    have h := iv_bt hb17 h
    refine iv_brt (mi' := 99) (pc' := 105) (ls' := [.ref 40, .int y0, .int y1, .int y2, .int (4 : Int32), .int y3]) (st' := [.int (g5 37 28), .ref 40]) (A' := im_H g g5 o Y) (c' := 0) (s' := 0) (mi'' := 99) (pc'' := 101) (ls'' := [.ref 40, .int y0, .int y1, .int y2, .int (4 : Int32), .int y3]) (st'' := [.int (g5 37 28), .ref 40]) (A'' := im_H g g5 o Y) (c'' := 0) (s'' := 0) 5 0 0 hb17 (fun n => rfl) ?_
    refine iv_blk (mi' := 99) (pc' := 106) (ls' := [.ref 40, .int y0, .int y1, .int y2, .int (4 : Int32), .int y3]) (st' := [.int (0 : Int32), .int (g5 37 28), .ref 40]) (A' := im_H g g5 o Y) (c' := 0) (s' := 0) 1 (fun n => rfl) ?_
    exact x99_r37_6_ok (u := g5) (y0 := y0) (y1 := y1) (y2 := y2) (y3 := y3) (y4 := (0 : Int32)) (y5 := (g5 37 28)) h
  | false =>
    have h := iv_bf hb17 h
    refine iv_brf (mi' := 99) (pc' := 105) (ls' := [.ref 40, .int y0, .int y1, .int y2, .int (4 : Int32), .int y3]) (st' := [.int (g5 37 28), .ref 40]) (A' := im_H g g5 o Y) (c' := 0) (s' := 0) (mi'' := 99) (pc'' := 101) (ls'' := [.ref 40, .int y0, .int y1, .int y2, .int (4 : Int32), .int y3]) (st'' := [.int (g5 37 28), .ref 40]) (A'' := im_H g g5 o Y) (c'' := 0) (s'' := 0) 5 0 0 hb17 (fun n => rfl) ?_
    refine iv_blk (mi' := 99) (pc' := 106) (ls' := [.ref 40, .int y0, .int y1, .int y2, .int (4 : Int32), .int y3]) (st' := [.int (1 : Int32), .int (g5 37 28), .ref 40]) (A' := im_H g g5 o Y) (c' := 0) (s' := 0) 2 (fun n => rfl) ?_
    exact x99_r37_6_ok (u := g5) (y0 := y0) (y1 := y1) (y2 := y2) (y3 := y3) (y4 := (1 : Int32)) (y5 := (g5 37 28)) h
def x99_r37_4 (u : im_M) (y0 : Int32) (y1 : Int32) (y2 : Int32) (y3 : Int32) (y4 : Int32) : Option (Int32 × im_M) :=
  bif Op.ifCond.holds .eq y4 then
    (x99_r37_5 u y0 y1 y4 y3 (10 : Int32))
  else
    (x99_r37_5 u y0 y1 y4 y3 (9 : Int32))
set_option maxRecDepth 100000 in
set_option maxHeartbeats 4000000 in
theorem x99_r37_4_ok {L : Nat} {xs : Nat → Int32} {g u mm : im_M} {o : Nat → Int64} {Y : iv_A} {y0 y1 y2 y3 y4 ret : Int32} (h : x99_r37_4 u y0 y1 y2 y3 y4 = some (ret, mm)) : iv_ev (iv_Xs L xs) 99 68 [.ref 40, .int y0, .int y1, .int y2, .int (3 : Int32), .int y3] [.int y4] (im_H g u o Y) 0 0 (.inl none, im_H g mm o Y) := by
  unfold x99_r37_4 at h
  cases hb16 : Op.ifCond.holds .eq y4 with
  | true =>
    have h := iv_bt hb16 h
    refine iv_brt (mi' := 99) (pc' := 85) (ls' := [.ref 40, .int y0, .int y1, .int y4, .int (4 : Int32), .int y3]) (st' := [.ref 40]) (A' := im_H g u o Y) (c' := 0) (s' := 0) (mi'' := 99) (pc'' := 80) (ls'' := [.ref 40, .int y0, .int y1, .int y4, .int (4 : Int32), .int y3]) (st'' := [.ref 40]) (A'' := im_H g u o Y) (c'' := 0) (s'' := 0) 9 0 0 hb16 (fun n => rfl) ?_
    refine iv_blk (mi' := 99) (pc' := 87) (ls' := [.ref 40, .int y0, .int y1, .int y4, .int (4 : Int32), .int y3]) (st' := [.int (10 : Int32), .ref 40]) (A' := im_H g u o Y) (c' := 0) (s' := 0) 1 (fun n => rfl) ?_
    exact x99_r37_5_ok (u := u) (y0 := y0) (y1 := y1) (y2 := y4) (y3 := y3) (y4 := (10 : Int32)) h
  | false =>
    have h := iv_bf hb16 h
    refine iv_brf (mi' := 99) (pc' := 85) (ls' := [.ref 40, .int y0, .int y1, .int y4, .int (4 : Int32), .int y3]) (st' := [.ref 40]) (A' := im_H g u o Y) (c' := 0) (s' := 0) (mi'' := 99) (pc'' := 80) (ls'' := [.ref 40, .int y0, .int y1, .int y4, .int (4 : Int32), .int y3]) (st'' := [.ref 40]) (A'' := im_H g u o Y) (c'' := 0) (s'' := 0) 9 0 0 hb16 (fun n => rfl) ?_
    refine iv_blk (mi' := 99) (pc' := 87) (ls' := [.ref 40, .int y0, .int y1, .int y4, .int (4 : Int32), .int y3]) (st' := [.int (9 : Int32), .ref 40]) (A' := im_H g u o Y) (c' := 0) (s' := 0) 2 (fun n => rfl) ?_
    exact x99_r37_5_ok (u := u) (y0 := y0) (y1 := y1) (y2 := y4) (y3 := y3) (y4 := (9 : Int32)) h
def x99_r37_3 (u : im_M) (y0 : Int32) (y1 : Int32) (y2 : Int32) (y3 : Int32) (y4 : Int32) : Option (Int32 × im_M) :=
  bif Op.ifCond.holds .eq y4 then
    (x99_r37_4 u y0 y1 y4 ((12 : Int32) + y0) (0 : Int32))
  else
    (bif iv_in ((12 : Int32) + y0) 16 then
      bif Op.ifCond.holds .eq ((u 51) (((12 : Int32) + y0)).toNatClampNeg) then
        (x99_r37_4 u y0 y1 y4 ((12 : Int32) + y0) (0 : Int32))
      else
        (Option.bind (x93 u ((u 46) (((12 : Int32) + y0)).toNatClampNeg) ((3 : Int32) + y1)) (fun q4 =>
          bif Op.ifCond.holds .eq q4.1 then
            (x99_r37_4 q4.2 y0 y1 y4 ((12 : Int32) + y0) (0 : Int32))
          else
            (x99_r37_4 q4.2 y0 y1 y4 ((12 : Int32) + y0) (1 : Int32))))
    else none)
set_option maxRecDepth 100000 in
set_option maxHeartbeats 4000000 in
theorem x99_r37_3_ok {L : Nat} {xs : Nat → Int32} {g u mm : im_M} {o : Nat → Int64} {Y : iv_A} {y0 y1 y2 y3 y4 ret : Int32} (h : x99_r37_3 u y0 y1 y2 y3 y4 = some (ret, mm)) : iv_ev (iv_Xs L xs) 99 68 [.ref 40, .int y0, .int y1, .int y2, .int (2 : Int32), .int y3] [.int y4] (im_H g u o Y) 0 0 (.inl none, im_H g mm o Y) := by
  unfold x99_r37_3 at h
  cases hb12 : Op.ifCond.holds .eq y4 with
  | true =>
    have h := iv_bt hb12 h
    refine iv_brt (mi' := 99) (pc' := 67) (ls' := [.ref 40, .int y0, .int y1, .int y4, .int (3 : Int32), .int ((12 : Int32) + y0)]) (st' := []) (A' := im_H g u o Y) (c' := 0) (s' := 0) (mi'' := 99) (pc'' := 37) (ls'' := [.ref 40, .int y0, .int y1, .int y4, .int (3 : Int32), .int ((12 : Int32) + y0)]) (st'' := []) (A'' := im_H g u o Y) (c'' := 0) (s'' := 0) 14 0 0 hb12 (fun n => rfl) ?_
    refine iv_blk (mi' := 99) (pc' := 68) (ls' := [.ref 40, .int y0, .int y1, .int y4, .int (3 : Int32), .int ((12 : Int32) + y0)]) (st' := [.int (0 : Int32)]) (A' := im_H g u o Y) (c' := 0) (s' := 0) 1 (fun n => rfl) ?_
    exact x99_r37_4_ok (u := u) (y0 := y0) (y1 := y1) (y2 := y4) (y3 := ((12 : Int32) + y0)) (y4 := (0 : Int32)) h
  | false =>
    have h := iv_bf hb12 h
    refine iv_brf (mi' := 99) (pc' := 67) (ls' := [.ref 40, .int y0, .int y1, .int y4, .int (3 : Int32), .int ((12 : Int32) + y0)]) (st' := []) (A' := im_H g u o Y) (c' := 0) (s' := 0) (mi'' := 99) (pc'' := 37) (ls'' := [.ref 40, .int y0, .int y1, .int y4, .int (3 : Int32), .int ((12 : Int32) + y0)]) (st'' := []) (A'' := im_H g u o Y) (c'' := 0) (s'' := 0) 14 0 0 hb12 (fun n => rfl) ?_
    cases hb13 : iv_in ((12 : Int32) + y0) 16 with
    | false => exact (iv_bn hb13 h).elim
    | true =>
      have h := iv_bt hb13 h
      refine iv_chk (mi' := 99) (pc' := 44) (ls' := [.ref 40, .int y0, .int y1, .int y4, .int (3 : Int32), .int ((12 : Int32) + y0)]) (st' := [.int ((u 51) (((12 : Int32) + y0)).toNatClampNeg)]) (A' := im_H g u o Y) (c' := 0) (s' := 0) 4 hb13 (fun n => rfl) ?_
      cases hb14 : Op.ifCond.holds .eq ((u 51) (((12 : Int32) + y0)).toNatClampNeg) with
      | true =>
        have h := iv_bt hb14 h
        refine iv_brt (mi' := 99) (pc' := 67) (ls' := [.ref 40, .int y0, .int y1, .int y4, .int (3 : Int32), .int ((12 : Int32) + y0)]) (st' := []) (A' := im_H g u o Y) (c' := 0) (s' := 0) (mi'' := 99) (pc'' := 47) (ls'' := [.ref 40, .int y0, .int y1, .int y4, .int (3 : Int32), .int ((12 : Int32) + y0)]) (st'' := []) (A'' := im_H g u o Y) (c'' := 0) (s'' := 0) 1 0 0 hb14 (fun n => rfl) ?_
        refine iv_blk (mi' := 99) (pc' := 68) (ls' := [.ref 40, .int y0, .int y1, .int y4, .int (3 : Int32), .int ((12 : Int32) + y0)]) (st' := [.int (0 : Int32)]) (A' := im_H g u o Y) (c' := 0) (s' := 0) 1 (fun n => rfl) ?_
        exact x99_r37_4_ok (u := u) (y0 := y0) (y1 := y1) (y2 := y4) (y3 := ((12 : Int32) + y0)) (y4 := (0 : Int32)) h
      | false =>
        have h := iv_bf hb14 h
        refine iv_brf (mi' := 99) (pc' := 67) (ls' := [.ref 40, .int y0, .int y1, .int y4, .int (3 : Int32), .int ((12 : Int32) + y0)]) (st' := []) (A' := im_H g u o Y) (c' := 0) (s' := 0) (mi'' := 99) (pc'' := 47) (ls'' := [.ref 40, .int y0, .int y1, .int y4, .int (3 : Int32), .int ((12 : Int32) + y0)]) (st'' := []) (A'' := im_H g u o Y) (c'' := 0) (s'' := 0) 1 0 0 hb14 (fun n => rfl) ?_
        refine iv_chk (mi' := 99) (pc' := 54) (ls' := [.ref 40, .int y0, .int y1, .int y4, .int (3 : Int32), .int ((12 : Int32) + y0)]) (st' := [.int ((u 46) (((12 : Int32) + y0)).toNatClampNeg)]) (A' := im_H g u o Y) (c' := 0) (s' := 0) 4 hb13 (fun n => rfl) ?_
        obtain ⟨v4, g4, hc, h⟩ := iv_bd h
        refine iv_cal (mi' := 99) (pc' := 57) (ls' := [.ref 40, .int y0, .int y1, .int y4, .int (3 : Int32), .int ((12 : Int32) + y0)]) (rest := []) (A' := im_H g u o Y) (c' := 0) (s' := 0) (as := [.int ((u 46) (((12 : Int32) + y0)).toNatClampNeg), .int ((3 : Int32) + y1)]) (v := some (.int v4)) (A'' := im_H g g4 o Y) 4 93 (fun n => rfl) rfl (x93_ok (u := u) (a := ((u 46) (((12 : Int32) + y0)).toNatClampNeg)) (b := ((3 : Int32) + y1)) hc) ?_
        show iv_ev (iv_Xs L xs) 99 60 [.ref 40, .int y0, .int y1, .int y4, .int (3 : Int32), .int ((12 : Int32) + y0)] [.int v4] (im_H g g4 o Y) 0 0 _
        cases hb15 : Op.ifCond.holds .eq v4 with
        | true =>
          have h := iv_bt hb15 h
          refine iv_brt (mi' := 99) (pc' := 67) (ls' := [.ref 40, .int y0, .int y1, .int y4, .int (3 : Int32), .int ((12 : Int32) + y0)]) (st' := []) (A' := im_H g g4 o Y) (c' := 0) (s' := 0) (mi'' := 99) (pc'' := 63) (ls'' := [.ref 40, .int y0, .int y1, .int y4, .int (3 : Int32), .int ((12 : Int32) + y0)]) (st'' := []) (A'' := im_H g g4 o Y) (c'' := 0) (s'' := 0) 1 0 0 hb15 (fun n => rfl) ?_
          refine iv_blk (mi' := 99) (pc' := 68) (ls' := [.ref 40, .int y0, .int y1, .int y4, .int (3 : Int32), .int ((12 : Int32) + y0)]) (st' := [.int (0 : Int32)]) (A' := im_H g g4 o Y) (c' := 0) (s' := 0) 1 (fun n => rfl) ?_
          exact x99_r37_4_ok (u := g4) (y0 := y0) (y1 := y1) (y2 := y4) (y3 := ((12 : Int32) + y0)) (y4 := (0 : Int32)) h
        | false =>
          have h := iv_bf hb15 h
          refine iv_brf (mi' := 99) (pc' := 67) (ls' := [.ref 40, .int y0, .int y1, .int y4, .int (3 : Int32), .int ((12 : Int32) + y0)]) (st' := []) (A' := im_H g g4 o Y) (c' := 0) (s' := 0) (mi'' := 99) (pc'' := 63) (ls'' := [.ref 40, .int y0, .int y1, .int y4, .int (3 : Int32), .int ((12 : Int32) + y0)]) (st'' := []) (A'' := im_H g g4 o Y) (c'' := 0) (s'' := 0) 1 0 0 hb15 (fun n => rfl) ?_
          refine iv_blk (mi' := 99) (pc' := 68) (ls' := [.ref 40, .int y0, .int y1, .int y4, .int (3 : Int32), .int ((12 : Int32) + y0)]) (st' := [.int (1 : Int32)]) (A' := im_H g g4 o Y) (c' := 0) (s' := 0) 2 (fun n => rfl) ?_
          exact x99_r37_4_ok (u := g4) (y0 := y0) (y1 := y1) (y2 := y4) (y3 := ((12 : Int32) + y0)) (y4 := (1 : Int32)) h
def x99_r37_2 (u : im_M) (y0 : Int32) (y1 : Int32) (y2 : Int32) (y3 : Int32) (y4 : Int32) : Option (Int32 × im_M) :=
  bif Op.ifCond.holds .eq y4 then
    (x99_r37_3 u y0 y1 y4 ((8 : Int32) + y0) (0 : Int32))
  else
    (bif iv_in ((8 : Int32) + y0) 16 then
      bif Op.ifCond.holds .eq ((u 51) (((8 : Int32) + y0)).toNatClampNeg) then
        (x99_r37_3 u y0 y1 y4 ((8 : Int32) + y0) (0 : Int32))
      else
        (Option.bind (x93 u ((u 46) (((8 : Int32) + y0)).toNatClampNeg) ((3 : Int32) + y1)) (fun q3 =>
          bif Op.ifCond.holds .eq q3.1 then
            (x99_r37_3 q3.2 y0 y1 y4 ((8 : Int32) + y0) (0 : Int32))
          else
            (x99_r37_3 q3.2 y0 y1 y4 ((8 : Int32) + y0) (1 : Int32))))
    else none)
set_option maxRecDepth 100000 in
set_option maxHeartbeats 4000000 in
theorem x99_r37_2_ok {L : Nat} {xs : Nat → Int32} {g u mm : im_M} {o : Nat → Int64} {Y : iv_A} {y0 y1 y2 y3 y4 ret : Int32} (h : x99_r37_2 u y0 y1 y2 y3 y4 = some (ret, mm)) : iv_ev (iv_Xs L xs) 99 68 [.ref 40, .int y0, .int y1, .int y2, .int (1 : Int32), .int y3] [.int y4] (im_H g u o Y) 0 0 (.inl none, im_H g mm o Y) := by
  unfold x99_r37_2 at h
  cases hb8 : Op.ifCond.holds .eq y4 with
  | true =>
    have h := iv_bt hb8 h
    refine iv_brt (mi' := 99) (pc' := 67) (ls' := [.ref 40, .int y0, .int y1, .int y4, .int (2 : Int32), .int ((8 : Int32) + y0)]) (st' := []) (A' := im_H g u o Y) (c' := 0) (s' := 0) (mi'' := 99) (pc'' := 37) (ls'' := [.ref 40, .int y0, .int y1, .int y4, .int (2 : Int32), .int ((8 : Int32) + y0)]) (st'' := []) (A'' := im_H g u o Y) (c'' := 0) (s'' := 0) 14 0 0 hb8 (fun n => rfl) ?_
    refine iv_blk (mi' := 99) (pc' := 68) (ls' := [.ref 40, .int y0, .int y1, .int y4, .int (2 : Int32), .int ((8 : Int32) + y0)]) (st' := [.int (0 : Int32)]) (A' := im_H g u o Y) (c' := 0) (s' := 0) 1 (fun n => rfl) ?_
    exact x99_r37_3_ok (u := u) (y0 := y0) (y1 := y1) (y2 := y4) (y3 := ((8 : Int32) + y0)) (y4 := (0 : Int32)) h
  | false =>
    have h := iv_bf hb8 h
    refine iv_brf (mi' := 99) (pc' := 67) (ls' := [.ref 40, .int y0, .int y1, .int y4, .int (2 : Int32), .int ((8 : Int32) + y0)]) (st' := []) (A' := im_H g u o Y) (c' := 0) (s' := 0) (mi'' := 99) (pc'' := 37) (ls'' := [.ref 40, .int y0, .int y1, .int y4, .int (2 : Int32), .int ((8 : Int32) + y0)]) (st'' := []) (A'' := im_H g u o Y) (c'' := 0) (s'' := 0) 14 0 0 hb8 (fun n => rfl) ?_
    cases hb9 : iv_in ((8 : Int32) + y0) 16 with
    | false => exact (iv_bn hb9 h).elim
    | true =>
      have h := iv_bt hb9 h
      refine iv_chk (mi' := 99) (pc' := 44) (ls' := [.ref 40, .int y0, .int y1, .int y4, .int (2 : Int32), .int ((8 : Int32) + y0)]) (st' := [.int ((u 51) (((8 : Int32) + y0)).toNatClampNeg)]) (A' := im_H g u o Y) (c' := 0) (s' := 0) 4 hb9 (fun n => rfl) ?_
      cases hb10 : Op.ifCond.holds .eq ((u 51) (((8 : Int32) + y0)).toNatClampNeg) with
      | true =>
        have h := iv_bt hb10 h
        refine iv_brt (mi' := 99) (pc' := 67) (ls' := [.ref 40, .int y0, .int y1, .int y4, .int (2 : Int32), .int ((8 : Int32) + y0)]) (st' := []) (A' := im_H g u o Y) (c' := 0) (s' := 0) (mi'' := 99) (pc'' := 47) (ls'' := [.ref 40, .int y0, .int y1, .int y4, .int (2 : Int32), .int ((8 : Int32) + y0)]) (st'' := []) (A'' := im_H g u o Y) (c'' := 0) (s'' := 0) 1 0 0 hb10 (fun n => rfl) ?_
        refine iv_blk (mi' := 99) (pc' := 68) (ls' := [.ref 40, .int y0, .int y1, .int y4, .int (2 : Int32), .int ((8 : Int32) + y0)]) (st' := [.int (0 : Int32)]) (A' := im_H g u o Y) (c' := 0) (s' := 0) 1 (fun n => rfl) ?_
        exact x99_r37_3_ok (u := u) (y0 := y0) (y1 := y1) (y2 := y4) (y3 := ((8 : Int32) + y0)) (y4 := (0 : Int32)) h
      | false =>
        have h := iv_bf hb10 h
        refine iv_brf (mi' := 99) (pc' := 67) (ls' := [.ref 40, .int y0, .int y1, .int y4, .int (2 : Int32), .int ((8 : Int32) + y0)]) (st' := []) (A' := im_H g u o Y) (c' := 0) (s' := 0) (mi'' := 99) (pc'' := 47) (ls'' := [.ref 40, .int y0, .int y1, .int y4, .int (2 : Int32), .int ((8 : Int32) + y0)]) (st'' := []) (A'' := im_H g u o Y) (c'' := 0) (s'' := 0) 1 0 0 hb10 (fun n => rfl) ?_
        refine iv_chk (mi' := 99) (pc' := 54) (ls' := [.ref 40, .int y0, .int y1, .int y4, .int (2 : Int32), .int ((8 : Int32) + y0)]) (st' := [.int ((u 46) (((8 : Int32) + y0)).toNatClampNeg)]) (A' := im_H g u o Y) (c' := 0) (s' := 0) 4 hb9 (fun n => rfl) ?_
        obtain ⟨v3, g3, hc, h⟩ := iv_bd h
        refine iv_cal (mi' := 99) (pc' := 57) (ls' := [.ref 40, .int y0, .int y1, .int y4, .int (2 : Int32), .int ((8 : Int32) + y0)]) (rest := []) (A' := im_H g u o Y) (c' := 0) (s' := 0) (as := [.int ((u 46) (((8 : Int32) + y0)).toNatClampNeg), .int ((3 : Int32) + y1)]) (v := some (.int v3)) (A'' := im_H g g3 o Y) 4 93 (fun n => rfl) rfl (x93_ok (u := u) (a := ((u 46) (((8 : Int32) + y0)).toNatClampNeg)) (b := ((3 : Int32) + y1)) hc) ?_
        show iv_ev (iv_Xs L xs) 99 60 [.ref 40, .int y0, .int y1, .int y4, .int (2 : Int32), .int ((8 : Int32) + y0)] [.int v3] (im_H g g3 o Y) 0 0 _
        cases hb11 : Op.ifCond.holds .eq v3 with
        | true =>
          have h := iv_bt hb11 h
          refine iv_brt (mi' := 99) (pc' := 67) (ls' := [.ref 40, .int y0, .int y1, .int y4, .int (2 : Int32), .int ((8 : Int32) + y0)]) (st' := []) (A' := im_H g g3 o Y) (c' := 0) (s' := 0) (mi'' := 99) (pc'' := 63) (ls'' := [.ref 40, .int y0, .int y1, .int y4, .int (2 : Int32), .int ((8 : Int32) + y0)]) (st'' := []) (A'' := im_H g g3 o Y) (c'' := 0) (s'' := 0) 1 0 0 hb11 (fun n => rfl) ?_
          refine iv_blk (mi' := 99) (pc' := 68) (ls' := [.ref 40, .int y0, .int y1, .int y4, .int (2 : Int32), .int ((8 : Int32) + y0)]) (st' := [.int (0 : Int32)]) (A' := im_H g g3 o Y) (c' := 0) (s' := 0) 1 (fun n => rfl) ?_
          exact x99_r37_3_ok (u := g3) (y0 := y0) (y1 := y1) (y2 := y4) (y3 := ((8 : Int32) + y0)) (y4 := (0 : Int32)) h
        | false =>
          have h := iv_bf hb11 h
          refine iv_brf (mi' := 99) (pc' := 67) (ls' := [.ref 40, .int y0, .int y1, .int y4, .int (2 : Int32), .int ((8 : Int32) + y0)]) (st' := []) (A' := im_H g g3 o Y) (c' := 0) (s' := 0) (mi'' := 99) (pc'' := 63) (ls'' := [.ref 40, .int y0, .int y1, .int y4, .int (2 : Int32), .int ((8 : Int32) + y0)]) (st'' := []) (A'' := im_H g g3 o Y) (c'' := 0) (s'' := 0) 1 0 0 hb11 (fun n => rfl) ?_
          refine iv_blk (mi' := 99) (pc' := 68) (ls' := [.ref 40, .int y0, .int y1, .int y4, .int (2 : Int32), .int ((8 : Int32) + y0)]) (st' := [.int (1 : Int32)]) (A' := im_H g g3 o Y) (c' := 0) (s' := 0) 2 (fun n => rfl) ?_
          exact x99_r37_3_ok (u := g3) (y0 := y0) (y1 := y1) (y2 := y4) (y3 := ((8 : Int32) + y0)) (y4 := (1 : Int32)) h
def x99_r37_1 (u : im_M) (y0 : Int32) (y1 : Int32) (y2 : Int32) (y3 : Int32) : Option (Int32 × im_M) :=
  bif Op.ifCond.holds .eq y3 then
    (x99_r37_2 u y0 y1 y3 ((4 : Int32) + y0) (0 : Int32))
  else
    (bif iv_in ((4 : Int32) + y0) 16 then
      bif Op.ifCond.holds .eq ((u 51) (((4 : Int32) + y0)).toNatClampNeg) then
        (x99_r37_2 u y0 y1 y3 ((4 : Int32) + y0) (0 : Int32))
      else
        (Option.bind (x93 u ((u 46) (((4 : Int32) + y0)).toNatClampNeg) ((3 : Int32) + y1)) (fun q2 =>
          bif Op.ifCond.holds .eq q2.1 then
            (x99_r37_2 q2.2 y0 y1 y3 ((4 : Int32) + y0) (0 : Int32))
          else
            (x99_r37_2 q2.2 y0 y1 y3 ((4 : Int32) + y0) (1 : Int32))))
    else none)
set_option maxRecDepth 100000 in
set_option maxHeartbeats 4000000 in
theorem x99_r37_1_ok {L : Nat} {xs : Nat → Int32} {g u mm : im_M} {o : Nat → Int64} {Y : iv_A} {y0 y1 y2 y3 ret : Int32} (h : x99_r37_1 u y0 y1 y2 y3 = some (ret, mm)) : iv_ev (iv_Xs L xs) 99 68 [.ref 40, .int y0, .int y1, .int (1 : Int32), .int (0 : Int32), .int y2] [.int y3] (im_H g u o Y) 0 0 (.inl none, im_H g mm o Y) := by
  unfold x99_r37_1 at h
  cases hb4 : Op.ifCond.holds .eq y3 with
  | true =>
    have h := iv_bt hb4 h
    refine iv_brt (mi' := 99) (pc' := 67) (ls' := [.ref 40, .int y0, .int y1, .int y3, .int (1 : Int32), .int ((4 : Int32) + y0)]) (st' := []) (A' := im_H g u o Y) (c' := 0) (s' := 0) (mi'' := 99) (pc'' := 37) (ls'' := [.ref 40, .int y0, .int y1, .int y3, .int (1 : Int32), .int ((4 : Int32) + y0)]) (st'' := []) (A'' := im_H g u o Y) (c'' := 0) (s'' := 0) 14 0 0 hb4 (fun n => rfl) ?_
    refine iv_blk (mi' := 99) (pc' := 68) (ls' := [.ref 40, .int y0, .int y1, .int y3, .int (1 : Int32), .int ((4 : Int32) + y0)]) (st' := [.int (0 : Int32)]) (A' := im_H g u o Y) (c' := 0) (s' := 0) 1 (fun n => rfl) ?_
    exact x99_r37_2_ok (u := u) (y0 := y0) (y1 := y1) (y2 := y3) (y3 := ((4 : Int32) + y0)) (y4 := (0 : Int32)) h
  | false =>
    have h := iv_bf hb4 h
    refine iv_brf (mi' := 99) (pc' := 67) (ls' := [.ref 40, .int y0, .int y1, .int y3, .int (1 : Int32), .int ((4 : Int32) + y0)]) (st' := []) (A' := im_H g u o Y) (c' := 0) (s' := 0) (mi'' := 99) (pc'' := 37) (ls'' := [.ref 40, .int y0, .int y1, .int y3, .int (1 : Int32), .int ((4 : Int32) + y0)]) (st'' := []) (A'' := im_H g u o Y) (c'' := 0) (s'' := 0) 14 0 0 hb4 (fun n => rfl) ?_
    cases hb5 : iv_in ((4 : Int32) + y0) 16 with
    | false => exact (iv_bn hb5 h).elim
    | true =>
      have h := iv_bt hb5 h
      refine iv_chk (mi' := 99) (pc' := 44) (ls' := [.ref 40, .int y0, .int y1, .int y3, .int (1 : Int32), .int ((4 : Int32) + y0)]) (st' := [.int ((u 51) (((4 : Int32) + y0)).toNatClampNeg)]) (A' := im_H g u o Y) (c' := 0) (s' := 0) 4 hb5 (fun n => rfl) ?_
      cases hb6 : Op.ifCond.holds .eq ((u 51) (((4 : Int32) + y0)).toNatClampNeg) with
      | true =>
        have h := iv_bt hb6 h
        refine iv_brt (mi' := 99) (pc' := 67) (ls' := [.ref 40, .int y0, .int y1, .int y3, .int (1 : Int32), .int ((4 : Int32) + y0)]) (st' := []) (A' := im_H g u o Y) (c' := 0) (s' := 0) (mi'' := 99) (pc'' := 47) (ls'' := [.ref 40, .int y0, .int y1, .int y3, .int (1 : Int32), .int ((4 : Int32) + y0)]) (st'' := []) (A'' := im_H g u o Y) (c'' := 0) (s'' := 0) 1 0 0 hb6 (fun n => rfl) ?_
        refine iv_blk (mi' := 99) (pc' := 68) (ls' := [.ref 40, .int y0, .int y1, .int y3, .int (1 : Int32), .int ((4 : Int32) + y0)]) (st' := [.int (0 : Int32)]) (A' := im_H g u o Y) (c' := 0) (s' := 0) 1 (fun n => rfl) ?_
        exact x99_r37_2_ok (u := u) (y0 := y0) (y1 := y1) (y2 := y3) (y3 := ((4 : Int32) + y0)) (y4 := (0 : Int32)) h
      | false =>
        have h := iv_bf hb6 h
        refine iv_brf (mi' := 99) (pc' := 67) (ls' := [.ref 40, .int y0, .int y1, .int y3, .int (1 : Int32), .int ((4 : Int32) + y0)]) (st' := []) (A' := im_H g u o Y) (c' := 0) (s' := 0) (mi'' := 99) (pc'' := 47) (ls'' := [.ref 40, .int y0, .int y1, .int y3, .int (1 : Int32), .int ((4 : Int32) + y0)]) (st'' := []) (A'' := im_H g u o Y) (c'' := 0) (s'' := 0) 1 0 0 hb6 (fun n => rfl) ?_
        refine iv_chk (mi' := 99) (pc' := 54) (ls' := [.ref 40, .int y0, .int y1, .int y3, .int (1 : Int32), .int ((4 : Int32) + y0)]) (st' := [.int ((u 46) (((4 : Int32) + y0)).toNatClampNeg)]) (A' := im_H g u o Y) (c' := 0) (s' := 0) 4 hb5 (fun n => rfl) ?_
        obtain ⟨v2, g2, hc, h⟩ := iv_bd h
        refine iv_cal (mi' := 99) (pc' := 57) (ls' := [.ref 40, .int y0, .int y1, .int y3, .int (1 : Int32), .int ((4 : Int32) + y0)]) (rest := []) (A' := im_H g u o Y) (c' := 0) (s' := 0) (as := [.int ((u 46) (((4 : Int32) + y0)).toNatClampNeg), .int ((3 : Int32) + y1)]) (v := some (.int v2)) (A'' := im_H g g2 o Y) 4 93 (fun n => rfl) rfl (x93_ok (u := u) (a := ((u 46) (((4 : Int32) + y0)).toNatClampNeg)) (b := ((3 : Int32) + y1)) hc) ?_
        show iv_ev (iv_Xs L xs) 99 60 [.ref 40, .int y0, .int y1, .int y3, .int (1 : Int32), .int ((4 : Int32) + y0)] [.int v2] (im_H g g2 o Y) 0 0 _
        cases hb7 : Op.ifCond.holds .eq v2 with
        | true =>
          have h := iv_bt hb7 h
          refine iv_brt (mi' := 99) (pc' := 67) (ls' := [.ref 40, .int y0, .int y1, .int y3, .int (1 : Int32), .int ((4 : Int32) + y0)]) (st' := []) (A' := im_H g g2 o Y) (c' := 0) (s' := 0) (mi'' := 99) (pc'' := 63) (ls'' := [.ref 40, .int y0, .int y1, .int y3, .int (1 : Int32), .int ((4 : Int32) + y0)]) (st'' := []) (A'' := im_H g g2 o Y) (c'' := 0) (s'' := 0) 1 0 0 hb7 (fun n => rfl) ?_
          refine iv_blk (mi' := 99) (pc' := 68) (ls' := [.ref 40, .int y0, .int y1, .int y3, .int (1 : Int32), .int ((4 : Int32) + y0)]) (st' := [.int (0 : Int32)]) (A' := im_H g g2 o Y) (c' := 0) (s' := 0) 1 (fun n => rfl) ?_
          exact x99_r37_2_ok (u := g2) (y0 := y0) (y1 := y1) (y2 := y3) (y3 := ((4 : Int32) + y0)) (y4 := (0 : Int32)) h
        | false =>
          have h := iv_bf hb7 h
          refine iv_brf (mi' := 99) (pc' := 67) (ls' := [.ref 40, .int y0, .int y1, .int y3, .int (1 : Int32), .int ((4 : Int32) + y0)]) (st' := []) (A' := im_H g g2 o Y) (c' := 0) (s' := 0) (mi'' := 99) (pc'' := 63) (ls'' := [.ref 40, .int y0, .int y1, .int y3, .int (1 : Int32), .int ((4 : Int32) + y0)]) (st'' := []) (A'' := im_H g g2 o Y) (c'' := 0) (s'' := 0) 1 0 0 hb7 (fun n => rfl) ?_
          refine iv_blk (mi' := 99) (pc' := 68) (ls' := [.ref 40, .int y0, .int y1, .int y3, .int (1 : Int32), .int ((4 : Int32) + y0)]) (st' := [.int (1 : Int32)]) (A' := im_H g g2 o Y) (c' := 0) (s' := 0) 2 (fun n => rfl) ?_
          exact x99_r37_2_ok (u := g2) (y0 := y0) (y1 := y1) (y2 := y3) (y3 := ((4 : Int32) + y0)) (y4 := (1 : Int32)) h
def x99_r37 (u : im_M) : Option (Int32 × im_M) :=
  bif iv_in ((0 : Int32) + ((u 37 20) / (3 : Int32))) 16 then
    bif Op.ifCond.holds .eq ((u 51) (((0 : Int32) + ((u 37 20) / (3 : Int32)))).toNatClampNeg) then
      (x99_r37_1 u ((u 37 20) / (3 : Int32)) ((u 37 20) - (u 37 20) / (3 : Int32) * (3 : Int32)) ((0 : Int32) + ((u 37 20) / (3 : Int32))) (0 : Int32))
    else
      (Option.bind (x93 u ((u 46) (((0 : Int32) + ((u 37 20) / (3 : Int32)))).toNatClampNeg) ((3 : Int32) + ((u 37 20) - (u 37 20) / (3 : Int32) * (3 : Int32)))) (fun q1 =>
        bif Op.ifCond.holds .eq q1.1 then
          (x99_r37_1 q1.2 ((u 37 20) / (3 : Int32)) ((u 37 20) - (u 37 20) / (3 : Int32) * (3 : Int32)) ((0 : Int32) + ((u 37 20) / (3 : Int32))) (0 : Int32))
        else
          (x99_r37_1 q1.2 ((u 37 20) / (3 : Int32)) ((u 37 20) - (u 37 20) / (3 : Int32) * (3 : Int32)) ((0 : Int32) + ((u 37 20) / (3 : Int32))) (1 : Int32))))
  else none
set_option maxRecDepth 100000 in
set_option maxHeartbeats 4000000 in
theorem x99_r37_ok {L : Nat} {xs : Nat → Int32} {g u mm : im_M} {o : Nat → Int64} {Y : iv_A} {ret : Int32} (h : x99_r37 u  = some (ret, mm)) : iv_ev (iv_Xs L xs) 99 0 [.ref 40, .retAddr 0, .retAddr 0, .retAddr 0, .retAddr 0, .retAddr 0] [] (im_H g u o Y) 0 0 (.inl none, im_H g mm o Y) := by
  unfold x99_r37 at h
  cases hb1 : iv_in ((0 : Int32) + ((u 37 20) / (3 : Int32))) 16 with
  | false => exact (iv_bn hb1 h).elim
  | true =>
    have h := iv_bt hb1 h
    refine iv_chk (mi' := 99) (pc' := 44) (ls' := [.ref 40, .int ((u 37 20) / (3 : Int32)), .int ((u 37 20) - (u 37 20) / (3 : Int32) * (3 : Int32)), .int (1 : Int32), .int (0 : Int32), .int ((0 : Int32) + ((u 37 20) / (3 : Int32)))]) (st' := [.int ((u 51) (((0 : Int32) + ((u 37 20) / (3 : Int32)))).toNatClampNeg)]) (A' := im_H g u o Y) (c' := 0) (s' := 0) 29 hb1 (fun n => rfl) ?_
    cases hb2 : Op.ifCond.holds .eq ((u 51) (((0 : Int32) + ((u 37 20) / (3 : Int32)))).toNatClampNeg) with
    | true =>
      have h := iv_bt hb2 h
      refine iv_brt (mi' := 99) (pc' := 67) (ls' := [.ref 40, .int ((u 37 20) / (3 : Int32)), .int ((u 37 20) - (u 37 20) / (3 : Int32) * (3 : Int32)), .int (1 : Int32), .int (0 : Int32), .int ((0 : Int32) + ((u 37 20) / (3 : Int32)))]) (st' := []) (A' := im_H g u o Y) (c' := 0) (s' := 0) (mi'' := 99) (pc'' := 47) (ls'' := [.ref 40, .int ((u 37 20) / (3 : Int32)), .int ((u 37 20) - (u 37 20) / (3 : Int32) * (3 : Int32)), .int (1 : Int32), .int (0 : Int32), .int ((0 : Int32) + ((u 37 20) / (3 : Int32)))]) (st'' := []) (A'' := im_H g u o Y) (c'' := 0) (s'' := 0) 1 0 0 hb2 (fun n => rfl) ?_
      refine iv_blk (mi' := 99) (pc' := 68) (ls' := [.ref 40, .int ((u 37 20) / (3 : Int32)), .int ((u 37 20) - (u 37 20) / (3 : Int32) * (3 : Int32)), .int (1 : Int32), .int (0 : Int32), .int ((0 : Int32) + ((u 37 20) / (3 : Int32)))]) (st' := [.int (0 : Int32)]) (A' := im_H g u o Y) (c' := 0) (s' := 0) 1 (fun n => rfl) ?_
      exact x99_r37_1_ok (u := u) (y0 := ((u 37 20) / (3 : Int32))) (y1 := ((u 37 20) - (u 37 20) / (3 : Int32) * (3 : Int32))) (y2 := ((0 : Int32) + ((u 37 20) / (3 : Int32)))) (y3 := (0 : Int32)) h
    | false =>
      have h := iv_bf hb2 h
      refine iv_brf (mi' := 99) (pc' := 67) (ls' := [.ref 40, .int ((u 37 20) / (3 : Int32)), .int ((u 37 20) - (u 37 20) / (3 : Int32) * (3 : Int32)), .int (1 : Int32), .int (0 : Int32), .int ((0 : Int32) + ((u 37 20) / (3 : Int32)))]) (st' := []) (A' := im_H g u o Y) (c' := 0) (s' := 0) (mi'' := 99) (pc'' := 47) (ls'' := [.ref 40, .int ((u 37 20) / (3 : Int32)), .int ((u 37 20) - (u 37 20) / (3 : Int32) * (3 : Int32)), .int (1 : Int32), .int (0 : Int32), .int ((0 : Int32) + ((u 37 20) / (3 : Int32)))]) (st'' := []) (A'' := im_H g u o Y) (c'' := 0) (s'' := 0) 1 0 0 hb2 (fun n => rfl) ?_
      refine iv_chk (mi' := 99) (pc' := 54) (ls' := [.ref 40, .int ((u 37 20) / (3 : Int32)), .int ((u 37 20) - (u 37 20) / (3 : Int32) * (3 : Int32)), .int (1 : Int32), .int (0 : Int32), .int ((0 : Int32) + ((u 37 20) / (3 : Int32)))]) (st' := [.int ((u 46) (((0 : Int32) + ((u 37 20) / (3 : Int32)))).toNatClampNeg)]) (A' := im_H g u o Y) (c' := 0) (s' := 0) 4 hb1 (fun n => rfl) ?_
      obtain ⟨v1, g1, hc, h⟩ := iv_bd h
      refine iv_cal (mi' := 99) (pc' := 57) (ls' := [.ref 40, .int ((u 37 20) / (3 : Int32)), .int ((u 37 20) - (u 37 20) / (3 : Int32) * (3 : Int32)), .int (1 : Int32), .int (0 : Int32), .int ((0 : Int32) + ((u 37 20) / (3 : Int32)))]) (rest := []) (A' := im_H g u o Y) (c' := 0) (s' := 0) (as := [.int ((u 46) (((0 : Int32) + ((u 37 20) / (3 : Int32)))).toNatClampNeg), .int ((3 : Int32) + ((u 37 20) - (u 37 20) / (3 : Int32) * (3 : Int32)))]) (v := some (.int v1)) (A'' := im_H g g1 o Y) 4 93 (fun n => rfl) rfl (x93_ok (u := u) (a := ((u 46) (((0 : Int32) + ((u 37 20) / (3 : Int32)))).toNatClampNeg)) (b := ((3 : Int32) + ((u 37 20) - (u 37 20) / (3 : Int32) * (3 : Int32)))) hc) ?_
      show iv_ev (iv_Xs L xs) 99 60 [.ref 40, .int ((u 37 20) / (3 : Int32)), .int ((u 37 20) - (u 37 20) / (3 : Int32) * (3 : Int32)), .int (1 : Int32), .int (0 : Int32), .int ((0 : Int32) + ((u 37 20) / (3 : Int32)))] [.int v1] (im_H g g1 o Y) 0 0 _
      cases hb3 : Op.ifCond.holds .eq v1 with
      | true =>
        have h := iv_bt hb3 h
        refine iv_brt (mi' := 99) (pc' := 67) (ls' := [.ref 40, .int ((u 37 20) / (3 : Int32)), .int ((u 37 20) - (u 37 20) / (3 : Int32) * (3 : Int32)), .int (1 : Int32), .int (0 : Int32), .int ((0 : Int32) + ((u 37 20) / (3 : Int32)))]) (st' := []) (A' := im_H g g1 o Y) (c' := 0) (s' := 0) (mi'' := 99) (pc'' := 63) (ls'' := [.ref 40, .int ((u 37 20) / (3 : Int32)), .int ((u 37 20) - (u 37 20) / (3 : Int32) * (3 : Int32)), .int (1 : Int32), .int (0 : Int32), .int ((0 : Int32) + ((u 37 20) / (3 : Int32)))]) (st'' := []) (A'' := im_H g g1 o Y) (c'' := 0) (s'' := 0) 1 0 0 hb3 (fun n => rfl) ?_
        refine iv_blk (mi' := 99) (pc' := 68) (ls' := [.ref 40, .int ((u 37 20) / (3 : Int32)), .int ((u 37 20) - (u 37 20) / (3 : Int32) * (3 : Int32)), .int (1 : Int32), .int (0 : Int32), .int ((0 : Int32) + ((u 37 20) / (3 : Int32)))]) (st' := [.int (0 : Int32)]) (A' := im_H g g1 o Y) (c' := 0) (s' := 0) 1 (fun n => rfl) ?_
        exact x99_r37_1_ok (u := g1) (y0 := ((u 37 20) / (3 : Int32))) (y1 := ((u 37 20) - (u 37 20) / (3 : Int32) * (3 : Int32))) (y2 := ((0 : Int32) + ((u 37 20) / (3 : Int32)))) (y3 := (0 : Int32)) h
      | false =>
        have h := iv_bf hb3 h
        refine iv_brf (mi' := 99) (pc' := 67) (ls' := [.ref 40, .int ((u 37 20) / (3 : Int32)), .int ((u 37 20) - (u 37 20) / (3 : Int32) * (3 : Int32)), .int (1 : Int32), .int (0 : Int32), .int ((0 : Int32) + ((u 37 20) / (3 : Int32)))]) (st' := []) (A' := im_H g g1 o Y) (c' := 0) (s' := 0) (mi'' := 99) (pc'' := 63) (ls'' := [.ref 40, .int ((u 37 20) / (3 : Int32)), .int ((u 37 20) - (u 37 20) / (3 : Int32) * (3 : Int32)), .int (1 : Int32), .int (0 : Int32), .int ((0 : Int32) + ((u 37 20) / (3 : Int32)))]) (st'' := []) (A'' := im_H g g1 o Y) (c'' := 0) (s'' := 0) 1 0 0 hb3 (fun n => rfl) ?_
        refine iv_blk (mi' := 99) (pc' := 68) (ls' := [.ref 40, .int ((u 37 20) / (3 : Int32)), .int ((u 37 20) - (u 37 20) / (3 : Int32) * (3 : Int32)), .int (1 : Int32), .int (0 : Int32), .int ((0 : Int32) + ((u 37 20) / (3 : Int32)))]) (st' := [.int (1 : Int32)]) (A' := im_H g g1 o Y) (c' := 0) (s' := 0) 2 (fun n => rfl) ?_
        exact x99_r37_1_ok (u := g1) (y0 := ((u 37 20) / (3 : Int32))) (y1 := ((u 37 20) - (u 37 20) / (3 : Int32) * (3 : Int32))) (y2 := ((0 : Int32) + ((u 37 20) / (3 : Int32)))) (y3 := (1 : Int32)) h
