/-! the reference: look (printed by wip/gen/lay1.py) -/
def x91_r37_8 (u : im_M) (y0 : Int32) (y1 : Int32) (y2 : Int32) (y3 : Int32) (y4 : Int32) (y5 : Int32) (y6 : Int32) (y7 : Int32) (y8 : Int32) (y9 : Int32) (y10 : Int32) : Option (Int32 × im_M) :=
  Option.bind (x94_r37 u y10 y0 y1) (fun q7 =>
    some (0, q7.2))
set_option maxRecDepth 100000 in
set_option maxHeartbeats 4000000 in
theorem x91_r37_8_ok {L : Nat} {xs : Nat → Int32} {g u mm : im_M} {o : Nat → Int64} {Y : iv_A} {y0 y1 y2 y3 y4 y5 y6 y7 y8 y9 y10 ret : Int32} (h : x91_r37_8 u y0 y1 y2 y3 y4 y5 y6 y7 y8 y9 y10 = some (ret, mm)) : iv_ev (iv_Xs L xs) 91 304 [.ref 40, .int y0, .int y1, .int y2, .int y3, .int y4, .int y5, .int y6, .int y7, .int y8, .int y9] [.int y10, .ref 40] (im_H g u o Y) 0 0 (.inl none, im_H g mm o Y) := by
  unfold x91_r37_8 at h
  obtain ⟨v7, g7, hc, h⟩ := iv_bd h
  refine iv_cal (mi' := 91) (pc' := 306) (ls' := [.ref 40, .int y0, .int y1, .int y2, .int y3, .int y4, .int y5, .int y6, .int y7, .int y8, .int y9]) (rest := []) (A' := im_H g u o Y) (c' := 0) (s' := 0) (as := [.ref 40, .int y10, .int y0, .int y1]) (v := none) (A'' := im_H g g7 o Y) 3 94 (fun n => rfl) rfl (x94_r37_ok (u := u) (a := y10) (b := y0) (c := y1) hc) ?_
  show iv_ev (iv_Xs L xs) 91 309 [.ref 40, .int y0, .int y1, .int y2, .int y3, .int y4, .int y5, .int y6, .int y7, .int y8, .int y9] [] (im_H g g7 o Y) 0 0 _
  cases h
  exact iv_ret 1 (fun n => rfl)
def x91_r37_9 (u : im_M) (y0 : Int32) (y1 : Int32) (y2 : Int32) (y3 : Int32) (y4 : Int32) (y5 : Int32) (y6 : Int32) (y7 : Int32) (y8 : Int32) (y9 : Int32) : Option (Int32 × im_M) :=
  some (0, u)
set_option maxRecDepth 100000 in
set_option maxHeartbeats 4000000 in
theorem x91_r37_9_ok {L : Nat} {xs : Nat → Int32} {g u mm : im_M} {o : Nat → Int64} {Y : iv_A} {y0 y1 y2 y3 y4 y5 y6 y7 y8 y9 ret : Int32} (h : x91_r37_9 u y0 y1 y2 y3 y4 y5 y6 y7 y8 y9 = some (ret, mm)) : iv_ev (iv_Xs L xs) 91 309 [.ref 40, .int y0, .int y1, .int y2, .int y3, .int y4, .int y5, .int y6, .int y7, .int y8, .int y9] [] (im_H g u o Y) 0 0 (.inl none, im_H g mm o Y) := by
  unfold x91_r37_9 at h
  cases h
  exact iv_ret 1 (fun n => rfl)
def x91_r37_7 (u : im_M) (y0 : Int32) (y1 : Int32) (y2 : Int32) (y3 : Int32) (y4 : Int32) (y5 : Int32) (y6 : Int32) (y7 : Int32) (y8 : Int32) (y9 : Int32) : Option (Int32 × im_M) :=
  Option.bind (x94_r37 u y9 y0 y1) (fun q4 =>
    Option.bind (x95_r37 q4.2 y2 (q4.2 37 2)) (fun q5 =>
      Option.bind (x95_r37 q5.2 y2 ((q5.2 37 2) - (1 : Int32))) (fun q6 =>
        bif Op.if_icmp.holds .eq q5.1 q6.1 then
          (x91_r37_9 q6.2 y0 y1 y2 y3 y4 y5 y6 y7 y8 q5.1)
        else
          (bif Op.ifCond.holds .eq q5.1 then
            (x91_r37_8 q6.2 y0 y1 y2 y3 y4 y5 y6 y7 y8 q5.1 (4 : Int32))
          else
            (x91_r37_8 q6.2 y0 y1 y2 y3 y4 y5 y6 y7 y8 q5.1 (3 : Int32))))))
set_option maxRecDepth 100000 in
set_option maxHeartbeats 4000000 in
theorem x91_r37_7_ok {L : Nat} {xs : Nat → Int32} {g u mm : im_M} {o : Nat → Int64} {Y : iv_A} {y0 y1 y2 y3 y4 y5 y6 y7 y8 y9 ret : Int32} (h : x91_r37_7 u y0 y1 y2 y3 y4 y5 y6 y7 y8 y9 = some (ret, mm)) : iv_ev (iv_Xs L xs) 91 261 [.ref 40, .int y0, .int y1, .int y2, .int y3, .int y4, .int y5, .int y6, .int y7, .int y8, .retAddr 0] [.int y9, .ref 40] (im_H g u o Y) 0 0 (.inl none, im_H g mm o Y) := by
  unfold x91_r37_7 at h
  obtain ⟨v4, g4, hc, h⟩ := iv_bd h
  refine iv_cal (mi' := 91) (pc' := 263) (ls' := [.ref 40, .int y0, .int y1, .int y2, .int y3, .int y4, .int y5, .int y6, .int y7, .int y8, .retAddr 0]) (rest := []) (A' := im_H g u o Y) (c' := 0) (s' := 0) (as := [.ref 40, .int y9, .int y0, .int y1]) (v := none) (A'' := im_H g g4 o Y) 3 94 (fun n => rfl) rfl (x94_r37_ok (u := u) (a := y9) (b := y0) (c := y1) hc) ?_
  show iv_ev (iv_Xs L xs) 91 266 [.ref 40, .int y0, .int y1, .int y2, .int y3, .int y4, .int y5, .int y6, .int y7, .int y8, .retAddr 0] [] (im_H g g4 o Y) 0 0 _
  obtain ⟨v5, g5, hc, h⟩ := iv_bd h
  refine iv_cal (mi' := 91) (pc' := 272) (ls' := [.ref 40, .int y0, .int y1, .int y2, .int y3, .int y4, .int y5, .int y6, .int y7, .int y8, .retAddr 0]) (rest := []) (A' := im_H g g4 o Y) (c' := 0) (s' := 0) (as := [.ref 40, .int y2, .int (g4 37 2)]) (v := some (.int v5)) (A'' := im_H g g5 o Y) 5 95 (fun n => rfl) rfl (x95_r37_ok (u := g4) (a := y2) (b := (g4 37 2)) hc) ?_
  show iv_ev (iv_Xs L xs) 91 275 [.ref 40, .int y0, .int y1, .int y2, .int y3, .int y4, .int y5, .int y6, .int y7, .int y8, .retAddr 0] [.int v5] (im_H g g5 o Y) 0 0 _
  obtain ⟨v6, g6, hc, h⟩ := iv_bd h
  refine iv_cal (mi' := 91) (pc' := 287) (ls' := [.ref 40, .int y0, .int y1, .int y2, .int y3, .int y4, .int y5, .int y6, .int y7, .int y8, .int v5]) (rest := [.int v5]) (A' := im_H g g5 o Y) (c' := 0) (s' := 0) (as := [.ref 40, .int y2, .int ((g5 37 2) - (1 : Int32))]) (v := some (.int v6)) (A'' := im_H g g6 o Y) 9 95 (fun n => rfl) rfl (x95_r37_ok (u := g5) (a := y2) (b := ((g5 37 2) - (1 : Int32))) hc) ?_
  show iv_ev (iv_Xs L xs) 91 290 [.ref 40, .int y0, .int y1, .int y2, .int y3, .int y4, .int y5, .int y6, .int y7, .int y8, .int v5] [.int v6, .int v5] (im_H g g6 o Y) 0 0 _
  cases hb25 : Op.if_icmp.holds .eq v5 v6 with
  | true =>
    have h := iv_bt hb25 h
    refine iv_brt (mi' := 91) (pc' := 309) (ls' := [.ref 40, .int y0, .int y1, .int y2, .int y3, .int y4, .int y5, .int y6, .int y7, .int y8, .int v5]) (st' := []) (A' := im_H g g6 o Y) (c' := 0) (s' := 0) (mi'' := 91) (pc'' := 293) (ls'' := [.ref 40, .int y0, .int y1, .int y2, .int y3, .int y4, .int y5, .int y6, .int y7, .int y8, .int v5]) (st'' := []) (A'' := im_H g g6 o Y) (c'' := 0) (s'' := 0) 1 0 0 hb25 (fun n => rfl) ?_
    exact x91_r37_9_ok (u := g6) (y0 := y0) (y1 := y1) (y2 := y2) (y3 := y3) (y4 := y4) (y5 := y5) (y6 := y6) (y7 := y7) (y8 := y8) (y9 := v5) h
  | false =>
    have h := iv_bf hb25 h
    refine iv_brf (mi' := 91) (pc' := 309) (ls' := [.ref 40, .int y0, .int y1, .int y2, .int y3, .int y4, .int y5, .int y6, .int y7, .int y8, .int v5]) (st' := []) (A' := im_H g g6 o Y) (c' := 0) (s' := 0) (mi'' := 91) (pc'' := 293) (ls'' := [.ref 40, .int y0, .int y1, .int y2, .int y3, .int y4, .int y5, .int y6, .int y7, .int y8, .int v5]) (st'' := []) (A'' := im_H g g6 o Y) (c'' := 0) (s'' := 0) 1 0 0 hb25 (fun n => rfl) ?_
    cases hb26 : Op.ifCond.holds .eq v5 with
    | true =>
      have h := iv_bt hb26 h
      refine iv_brt (mi' := 91) (pc' := 303) (ls' := [.ref 40, .int y0, .int y1, .int y2, .int y3, .int y4, .int y5, .int y6, .int y7, .int y8, .int v5]) (st' := [.ref 40]) (A' := im_H g g6 o Y) (c' := 0) (s' := 0) (mi'' := 91) (pc'' := 299) (ls'' := [.ref 40, .int y0, .int y1, .int y2, .int y3, .int y4, .int y5, .int y6, .int y7, .int y8, .int v5]) (st'' := [.ref 40]) (A'' := im_H g g6 o Y) (c'' := 0) (s'' := 0) 3 0 0 hb26 (fun n => rfl) ?_
      refine iv_blk (mi' := 91) (pc' := 304) (ls' := [.ref 40, .int y0, .int y1, .int y2, .int y3, .int y4, .int y5, .int y6, .int y7, .int y8, .int v5]) (st' := [.int (4 : Int32), .ref 40]) (A' := im_H g g6 o Y) (c' := 0) (s' := 0) 1 (fun n => rfl) ?_
      exact x91_r37_8_ok (u := g6) (y0 := y0) (y1 := y1) (y2 := y2) (y3 := y3) (y4 := y4) (y5 := y5) (y6 := y6) (y7 := y7) (y8 := y8) (y9 := v5) (y10 := (4 : Int32)) h
    | false =>
      have h := iv_bf hb26 h
      refine iv_brf (mi' := 91) (pc' := 303) (ls' := [.ref 40, .int y0, .int y1, .int y2, .int y3, .int y4, .int y5, .int y6, .int y7, .int y8, .int v5]) (st' := [.ref 40]) (A' := im_H g g6 o Y) (c' := 0) (s' := 0) (mi'' := 91) (pc'' := 299) (ls'' := [.ref 40, .int y0, .int y1, .int y2, .int y3, .int y4, .int y5, .int y6, .int y7, .int y8, .int v5]) (st'' := [.ref 40]) (A'' := im_H g g6 o Y) (c'' := 0) (s'' := 0) 3 0 0 hb26 (fun n => rfl) ?_
      refine iv_blk (mi' := 91) (pc' := 304) (ls' := [.ref 40, .int y0, .int y1, .int y2, .int y3, .int y4, .int y5, .int y6, .int y7, .int y8, .int v5]) (st' := [.int (3 : Int32), .ref 40]) (A' := im_H g g6 o Y) (c' := 0) (s' := 0) 2 (fun n => rfl) ?_
      exact x91_r37_8_ok (u := g6) (y0 := y0) (y1 := y1) (y2 := y2) (y3 := y3) (y4 := y4) (y5 := y5) (y6 := y6) (y7 := y7) (y8 := y8) (y9 := v5) (y10 := (3 : Int32)) h
def x91_r37_11 (u : im_M) (y0 : Int32) (y1 : Int32) (y2 : Int32) (y3 : Int32) (y4 : Int32) (y5 : Int32) (y6 : Int32) (y7 : Int32) (y8 : Int32) (y9 : Int32) (y10 : Int32) : Option (Int32 × im_M) :=
  Option.bind (x94_r37 u y10 y0 y1) (fun q10 =>
    some (0, q10.2))
set_option maxRecDepth 100000 in
set_option maxHeartbeats 4000000 in
theorem x91_r37_11_ok {L : Nat} {xs : Nat → Int32} {g u mm : im_M} {o : Nat → Int64} {Y : iv_A} {y0 y1 y2 y3 y4 y5 y6 y7 y8 y9 y10 ret : Int32} (h : x91_r37_11 u y0 y1 y2 y3 y4 y5 y6 y7 y8 y9 y10 = some (ret, mm)) : iv_ev (iv_Xs L xs) 91 304 [.ref 40, .int y0, .int y1, .int y2, .int y3, .int y4, .int y5, .int y6, .int y7, .int y8, .int y9] [.int y10, .ref 40] (im_H g u o Y) 0 0 (.inl none, im_H g mm o Y) := by
  unfold x91_r37_11 at h
  obtain ⟨v10, g10, hc, h⟩ := iv_bd h
  refine iv_cal (mi' := 91) (pc' := 306) (ls' := [.ref 40, .int y0, .int y1, .int y2, .int y3, .int y4, .int y5, .int y6, .int y7, .int y8, .int y9]) (rest := []) (A' := im_H g u o Y) (c' := 0) (s' := 0) (as := [.ref 40, .int y10, .int y0, .int y1]) (v := none) (A'' := im_H g g10 o Y) 3 94 (fun n => rfl) rfl (x94_r37_ok (u := u) (a := y10) (b := y0) (c := y1) hc) ?_
  show iv_ev (iv_Xs L xs) 91 309 [.ref 40, .int y0, .int y1, .int y2, .int y3, .int y4, .int y5, .int y6, .int y7, .int y8, .int y9] [] (im_H g g10 o Y) 0 0 _
  cases h
  exact iv_ret 1 (fun n => rfl)
def x91_r37_12 (u : im_M) (y0 : Int32) (y1 : Int32) (y2 : Int32) (y3 : Int32) (y4 : Int32) (y5 : Int32) (y6 : Int32) (y7 : Int32) (y8 : Int32) (y9 : Int32) : Option (Int32 × im_M) :=
  some (0, u)
set_option maxRecDepth 100000 in
set_option maxHeartbeats 4000000 in
theorem x91_r37_12_ok {L : Nat} {xs : Nat → Int32} {g u mm : im_M} {o : Nat → Int64} {Y : iv_A} {y0 y1 y2 y3 y4 y5 y6 y7 y8 y9 ret : Int32} (h : x91_r37_12 u y0 y1 y2 y3 y4 y5 y6 y7 y8 y9 = some (ret, mm)) : iv_ev (iv_Xs L xs) 91 309 [.ref 40, .int y0, .int y1, .int y2, .int y3, .int y4, .int y5, .int y6, .int y7, .int y8, .int y9] [] (im_H g u o Y) 0 0 (.inl none, im_H g mm o Y) := by
  unfold x91_r37_12 at h
  cases h
  exact iv_ret 1 (fun n => rfl)
def x91_r37_10 (u : im_M) (y0 : Int32) (y1 : Int32) (y2 : Int32) (y3 : Int32) (y4 : Int32) (y5 : Int32) (y6 : Int32) (y7 : Int32) (y8 : Int32) : Option (Int32 × im_M) :=
  Option.bind (x95_r37 u y2 (u 37 2)) (fun q8 =>
    Option.bind (x95_r37 q8.2 y2 ((q8.2 37 2) - (1 : Int32))) (fun q9 =>
      bif Op.if_icmp.holds .eq q8.1 q9.1 then
        (x91_r37_12 q9.2 y0 y1 y2 y3 y4 y5 y6 y7 y8 q8.1)
      else
        (bif Op.ifCond.holds .eq q8.1 then
          (x91_r37_11 q9.2 y0 y1 y2 y3 y4 y5 y6 y7 y8 q8.1 (4 : Int32))
        else
          (x91_r37_11 q9.2 y0 y1 y2 y3 y4 y5 y6 y7 y8 q8.1 (3 : Int32)))))
set_option maxRecDepth 100000 in
set_option maxHeartbeats 4000000 in
theorem x91_r37_10_ok {L : Nat} {xs : Nat → Int32} {g u mm : im_M} {o : Nat → Int64} {Y : iv_A} {y0 y1 y2 y3 y4 y5 y6 y7 y8 ret : Int32} (h : x91_r37_10 u y0 y1 y2 y3 y4 y5 y6 y7 y8 = some (ret, mm)) : iv_ev (iv_Xs L xs) 91 266 [.ref 40, .int y0, .int y1, .int y2, .int y3, .int y4, .int y5, .int y6, .int y7, .int y8, .retAddr 0] [] (im_H g u o Y) 0 0 (.inl none, im_H g mm o Y) := by
  unfold x91_r37_10 at h
  obtain ⟨v8, g8, hc, h⟩ := iv_bd h
  refine iv_cal (mi' := 91) (pc' := 272) (ls' := [.ref 40, .int y0, .int y1, .int y2, .int y3, .int y4, .int y5, .int y6, .int y7, .int y8, .retAddr 0]) (rest := []) (A' := im_H g u o Y) (c' := 0) (s' := 0) (as := [.ref 40, .int y2, .int (u 37 2)]) (v := some (.int v8)) (A'' := im_H g g8 o Y) 5 95 (fun n => rfl) rfl (x95_r37_ok (u := u) (a := y2) (b := (u 37 2)) hc) ?_
  show iv_ev (iv_Xs L xs) 91 275 [.ref 40, .int y0, .int y1, .int y2, .int y3, .int y4, .int y5, .int y6, .int y7, .int y8, .retAddr 0] [.int v8] (im_H g g8 o Y) 0 0 _
  obtain ⟨v9, g9, hc, h⟩ := iv_bd h
  refine iv_cal (mi' := 91) (pc' := 287) (ls' := [.ref 40, .int y0, .int y1, .int y2, .int y3, .int y4, .int y5, .int y6, .int y7, .int y8, .int v8]) (rest := [.int v8]) (A' := im_H g g8 o Y) (c' := 0) (s' := 0) (as := [.ref 40, .int y2, .int ((g8 37 2) - (1 : Int32))]) (v := some (.int v9)) (A'' := im_H g g9 o Y) 9 95 (fun n => rfl) rfl (x95_r37_ok (u := g8) (a := y2) (b := ((g8 37 2) - (1 : Int32))) hc) ?_
  show iv_ev (iv_Xs L xs) 91 290 [.ref 40, .int y0, .int y1, .int y2, .int y3, .int y4, .int y5, .int y6, .int y7, .int y8, .int v8] [.int v9, .int v8] (im_H g g9 o Y) 0 0 _
  cases hb27 : Op.if_icmp.holds .eq v8 v9 with
  | true =>
    have h := iv_bt hb27 h
    refine iv_brt (mi' := 91) (pc' := 309) (ls' := [.ref 40, .int y0, .int y1, .int y2, .int y3, .int y4, .int y5, .int y6, .int y7, .int y8, .int v8]) (st' := []) (A' := im_H g g9 o Y) (c' := 0) (s' := 0) (mi'' := 91) (pc'' := 293) (ls'' := [.ref 40, .int y0, .int y1, .int y2, .int y3, .int y4, .int y5, .int y6, .int y7, .int y8, .int v8]) (st'' := []) (A'' := im_H g g9 o Y) (c'' := 0) (s'' := 0) 1 0 0 hb27 (fun n => rfl) ?_
    exact x91_r37_12_ok (u := g9) (y0 := y0) (y1 := y1) (y2 := y2) (y3 := y3) (y4 := y4) (y5 := y5) (y6 := y6) (y7 := y7) (y8 := y8) (y9 := v8) h
  | false =>
    have h := iv_bf hb27 h
    refine iv_brf (mi' := 91) (pc' := 309) (ls' := [.ref 40, .int y0, .int y1, .int y2, .int y3, .int y4, .int y5, .int y6, .int y7, .int y8, .int v8]) (st' := []) (A' := im_H g g9 o Y) (c' := 0) (s' := 0) (mi'' := 91) (pc'' := 293) (ls'' := [.ref 40, .int y0, .int y1, .int y2, .int y3, .int y4, .int y5, .int y6, .int y7, .int y8, .int v8]) (st'' := []) (A'' := im_H g g9 o Y) (c'' := 0) (s'' := 0) 1 0 0 hb27 (fun n => rfl) ?_
    cases hb28 : Op.ifCond.holds .eq v8 with
    | true =>
      have h := iv_bt hb28 h
      refine iv_brt (mi' := 91) (pc' := 303) (ls' := [.ref 40, .int y0, .int y1, .int y2, .int y3, .int y4, .int y5, .int y6, .int y7, .int y8, .int v8]) (st' := [.ref 40]) (A' := im_H g g9 o Y) (c' := 0) (s' := 0) (mi'' := 91) (pc'' := 299) (ls'' := [.ref 40, .int y0, .int y1, .int y2, .int y3, .int y4, .int y5, .int y6, .int y7, .int y8, .int v8]) (st'' := [.ref 40]) (A'' := im_H g g9 o Y) (c'' := 0) (s'' := 0) 3 0 0 hb28 (fun n => rfl) ?_
      refine iv_blk (mi' := 91) (pc' := 304) (ls' := [.ref 40, .int y0, .int y1, .int y2, .int y3, .int y4, .int y5, .int y6, .int y7, .int y8, .int v8]) (st' := [.int (4 : Int32), .ref 40]) (A' := im_H g g9 o Y) (c' := 0) (s' := 0) 1 (fun n => rfl) ?_
      exact x91_r37_11_ok (u := g9) (y0 := y0) (y1 := y1) (y2 := y2) (y3 := y3) (y4 := y4) (y5 := y5) (y6 := y6) (y7 := y7) (y8 := y8) (y9 := v8) (y10 := (4 : Int32)) h
    | false =>
      have h := iv_bf hb28 h
      refine iv_brf (mi' := 91) (pc' := 303) (ls' := [.ref 40, .int y0, .int y1, .int y2, .int y3, .int y4, .int y5, .int y6, .int y7, .int y8, .int v8]) (st' := [.ref 40]) (A' := im_H g g9 o Y) (c' := 0) (s' := 0) (mi'' := 91) (pc'' := 299) (ls'' := [.ref 40, .int y0, .int y1, .int y2, .int y3, .int y4, .int y5, .int y6, .int y7, .int y8, .int v8]) (st'' := [.ref 40]) (A'' := im_H g g9 o Y) (c'' := 0) (s'' := 0) 3 0 0 hb28 (fun n => rfl) ?_
      refine iv_blk (mi' := 91) (pc' := 304) (ls' := [.ref 40, .int y0, .int y1, .int y2, .int y3, .int y4, .int y5, .int y6, .int y7, .int y8, .int v8]) (st' := [.int (3 : Int32), .ref 40]) (A' := im_H g g9 o Y) (c' := 0) (s' := 0) 2 (fun n => rfl) ?_
      exact x91_r37_11_ok (u := g9) (y0 := y0) (y1 := y1) (y2 := y2) (y3 := y3) (y4 := y4) (y5 := y5) (y6 := y6) (y7 := y7) (y8 := y8) (y9 := v8) (y10 := (3 : Int32)) h
def x91_r37_6 (u : im_M) (y0 : Int32) (y1 : Int32) (y2 : Int32) (y3 : Int32) (y4 : Int32) (y5 : Int32) (y6 : Int32) (y7 : Int32) (y8 : Int32) (y9 : Int32) (y10 : Int32) : Option (Int32 × im_M) :=
  bif iv_in y10 520 then
    bif iv_in y2 12 then
      bif iv_in ((u 37 2) - (1 : Int32)) 520 then
        Option.bind (x93 (im_w (im_w u 44 (y10).toNatClampNeg (y9 ||| y8)) 39 (y2).toNatClampNeg y3) ((u 42) (((u 37 2) - (1 : Int32))).toNatClampNeg) y2) (fun q3 =>
          bif Op.if_icmp.holds .eq y7 q3.1 then
            (x91_r37_10 q3.2 y0 y1 y2 y3 y4 y5 y6 y7 q3.1)
          else
            (bif Op.ifCond.holds .eq y7 then
              (x91_r37_7 q3.2 y0 y1 y2 y3 y4 y5 y6 y7 q3.1 (2 : Int32))
            else
              (x91_r37_7 q3.2 y0 y1 y2 y3 y4 y5 y6 y7 q3.1 (1 : Int32))))
      else none
    else none
  else none
set_option maxRecDepth 100000 in
set_option maxHeartbeats 4000000 in
theorem x91_r37_6_ok {L : Nat} {xs : Nat → Int32} {g u mm : im_M} {o : Nat → Int64} {Y : iv_A} {y0 y1 y2 y3 y4 y5 y6 y7 y8 y9 y10 ret : Int32} (h : x91_r37_6 u y0 y1 y2 y3 y4 y5 y6 y7 y8 y9 y10 = some (ret, mm)) : iv_ev (iv_Xs L xs) 91 216 [.ref 40, .int y0, .int y1, .int y2, .int y3, .int y4, .int y5, .int y6, .int y7, .retAddr 0, .retAddr 0] [.int y8, .int y9, .int y10, .ref 47] (im_H g u o Y) 0 0 (.inl none, im_H g mm o Y) := by
  unfold x91_r37_6 at h
  cases hb20 : iv_in y10 520 with
  | false => exact (iv_bn hb20 h).elim
  | true =>
    have h := iv_bt hb20 h
    refine iv_chk (mi' := 91) (pc' := 218) (ls' := [.ref 40, .int y0, .int y1, .int y2, .int y3, .int y4, .int y5, .int y6, .int y7, .retAddr 0, .retAddr 0]) (st' := []) (A' := List.set (im_H g u o Y) 44 (.inl (0, 520, .inl (upd (u 44) (y10).toNatClampNeg (y9 ||| y8))))) (c' := 0) (s' := 0) 2 hb20 (fun n => rfl) ?_
    rw [im_a44]
    cases hb21 : iv_in y2 12 with
    | false => exact (iv_bn hb21 h).elim
    | true =>
      have h := iv_bt hb21 h
      refine iv_chk (mi' := 91) (pc' := 226) (ls' := [.ref 40, .int y0, .int y1, .int y2, .int y3, .int y4, .int y5, .int y6, .int y7, .retAddr 0, .retAddr 0]) (st' := []) (A' := List.set (im_H g (im_w u 44 (y10).toNatClampNeg (y9 ||| y8)) o Y) 39 (.inl (0, 12, .inl (upd ((im_w u 44 (y10).toNatClampNeg (y9 ||| y8)) 39) (y2).toNatClampNeg y3)))) (c' := 0) (s' := 0) 5 hb21 (fun n => rfl) ?_
      rw [im_a39]
      cases hb22 : iv_in ((u 37 2) - (1 : Int32)) 520 with
      | false => exact (iv_bn hb22 h).elim
      | true =>
        have h := iv_bt hb22 h
        refine iv_chk (mi' := 91) (pc' := 237) (ls' := [.ref 40, .int y0, .int y1, .int y2, .int y3, .int y4, .int y5, .int y6, .int y7, .retAddr 0, .retAddr 0]) (st' := [.int ((u 42) (((u 37 2) - (1 : Int32))).toNatClampNeg)]) (A' := im_H g (im_w (im_w u 44 (y10).toNatClampNeg (y9 ||| y8)) 39 (y2).toNatClampNeg y3) o Y) (c' := 0) (s' := 0) 7 hb22 (fun n => rfl) ?_
        obtain ⟨v3, g3, hc, h⟩ := iv_bd h
        refine iv_cal (mi' := 91) (pc' := 238) (ls' := [.ref 40, .int y0, .int y1, .int y2, .int y3, .int y4, .int y5, .int y6, .int y7, .retAddr 0, .retAddr 0]) (rest := []) (A' := im_H g (im_w (im_w u 44 (y10).toNatClampNeg (y9 ||| y8)) 39 (y2).toNatClampNeg y3) o Y) (c' := 0) (s' := 0) (as := [.int ((u 42) (((u 37 2) - (1 : Int32))).toNatClampNeg), .int y2]) (v := some (.int v3)) (A'' := im_H g g3 o Y) 2 93 (fun n => rfl) rfl (x93_ok (u := (im_w (im_w u 44 (y10).toNatClampNeg (y9 ||| y8)) 39 (y2).toNatClampNeg y3)) (a := ((u 42) (((u 37 2) - (1 : Int32))).toNatClampNeg)) (b := y2) hc) ?_
        show iv_ev (iv_Xs L xs) 91 241 [.ref 40, .int y0, .int y1, .int y2, .int y3, .int y4, .int y5, .int y6, .int y7, .retAddr 0, .retAddr 0] [.int v3] (im_H g g3 o Y) 0 0 _
        cases hb23 : Op.if_icmp.holds .eq y7 v3 with
        | true =>
          have h := iv_bt hb23 h
          refine iv_brt (mi' := 91) (pc' := 266) (ls' := [.ref 40, .int y0, .int y1, .int y2, .int y3, .int y4, .int y5, .int y6, .int y7, .int v3, .retAddr 0]) (st' := []) (A' := im_H g g3 o Y) (c' := 0) (s' := 0) (mi'' := 91) (pc'' := 250) (ls'' := [.ref 40, .int y0, .int y1, .int y2, .int y3, .int y4, .int y5, .int y6, .int y7, .int v3, .retAddr 0]) (st'' := []) (A'' := im_H g g3 o Y) (c'' := 0) (s'' := 0) 4 0 0 hb23 (fun n => rfl) ?_
          exact x91_r37_10_ok (u := g3) (y0 := y0) (y1 := y1) (y2 := y2) (y3 := y3) (y4 := y4) (y5 := y5) (y6 := y6) (y7 := y7) (y8 := v3) h
        | false =>
          have h := iv_bf hb23 h
          refine iv_brf (mi' := 91) (pc' := 266) (ls' := [.ref 40, .int y0, .int y1, .int y2, .int y3, .int y4, .int y5, .int y6, .int y7, .int v3, .retAddr 0]) (st' := []) (A' := im_H g g3 o Y) (c' := 0) (s' := 0) (mi'' := 91) (pc'' := 250) (ls'' := [.ref 40, .int y0, .int y1, .int y2, .int y3, .int y4, .int y5, .int y6, .int y7, .int v3, .retAddr 0]) (st'' := []) (A'' := im_H g g3 o Y) (c'' := 0) (s'' := 0) 4 0 0 hb23 (fun n => rfl) ?_
          cases hb24 : Op.ifCond.holds .eq y7 with
          | true =>
            have h := iv_bt hb24 h
            refine iv_brt (mi' := 91) (pc' := 260) (ls' := [.ref 40, .int y0, .int y1, .int y2, .int y3, .int y4, .int y5, .int y6, .int y7, .int v3, .retAddr 0]) (st' := [.ref 40]) (A' := im_H g g3 o Y) (c' := 0) (s' := 0) (mi'' := 91) (pc'' := 256) (ls'' := [.ref 40, .int y0, .int y1, .int y2, .int y3, .int y4, .int y5, .int y6, .int y7, .int v3, .retAddr 0]) (st'' := [.ref 40]) (A'' := im_H g g3 o Y) (c'' := 0) (s'' := 0) 3 0 0 hb24 (fun n => rfl) ?_
            refine iv_blk (mi' := 91) (pc' := 261) (ls' := [.ref 40, .int y0, .int y1, .int y2, .int y3, .int y4, .int y5, .int y6, .int y7, .int v3, .retAddr 0]) (st' := [.int (2 : Int32), .ref 40]) (A' := im_H g g3 o Y) (c' := 0) (s' := 0) 1 (fun n => rfl) ?_
            exact x91_r37_7_ok (u := g3) (y0 := y0) (y1 := y1) (y2 := y2) (y3 := y3) (y4 := y4) (y5 := y5) (y6 := y6) (y7 := y7) (y8 := v3) (y9 := (2 : Int32)) h
          | false =>
            have h := iv_bf hb24 h
            refine iv_brf (mi' := 91) (pc' := 260) (ls' := [.ref 40, .int y0, .int y1, .int y2, .int y3, .int y4, .int y5, .int y6, .int y7, .int v3, .retAddr 0]) (st' := [.ref 40]) (A' := im_H g g3 o Y) (c' := 0) (s' := 0) (mi'' := 91) (pc'' := 256) (ls'' := [.ref 40, .int y0, .int y1, .int y2, .int y3, .int y4, .int y5, .int y6, .int y7, .int v3, .retAddr 0]) (st'' := [.ref 40]) (A'' := im_H g g3 o Y) (c'' := 0) (s'' := 0) 3 0 0 hb24 (fun n => rfl) ?_
            refine iv_blk (mi' := 91) (pc' := 261) (ls' := [.ref 40, .int y0, .int y1, .int y2, .int y3, .int y4, .int y5, .int y6, .int y7, .int v3, .retAddr 0]) (st' := [.int (1 : Int32), .ref 40]) (A' := im_H g g3 o Y) (c' := 0) (s' := 0) 2 (fun n => rfl) ?_
            exact x91_r37_7_ok (u := g3) (y0 := y0) (y1 := y1) (y2 := y2) (y3 := y3) (y4 := y4) (y5 := y5) (y6 := y6) (y7 := y7) (y8 := v3) (y9 := (1 : Int32)) h
def x91_r37_5 (u : im_M) (y0 : Int32) (y1 : Int32) (y2 : Int32) (y3 : Int32) (y4 : Int32) (y5 : Int32) (y6 : Int32) (y7 : Int32) (y8 : Int32) (y9 : Int32) (y10 : Int32) : Option (Int32 × im_M) :=
  bif iv_in y10 520 then
    bif iv_in (u 37 2) 520 then
      bif Op.ifCond.holds .eq y6 then
        (x91_r37_6 (im_w u 43 (y10).toNatClampNeg (y9 ||| y8)) y0 y1 y2 y3 y4 y5 y6 y7 (0 : Int32) ((u 44) ((u 37 2)).toNatClampNeg) (u 37 2))
      else
        (x91_r37_6 (im_w u 43 (y10).toNatClampNeg (y9 ||| y8)) y0 y1 y2 y3 y4 y5 y6 y7 ((1 : Int32) <<< (y2 &&& 31)) ((u 44) ((u 37 2)).toNatClampNeg) (u 37 2))
    else none
  else none
set_option maxRecDepth 100000 in
set_option maxHeartbeats 4000000 in
theorem x91_r37_5_ok {L : Nat} {xs : Nat → Int32} {g u mm : im_M} {o : Nat → Int64} {Y : iv_A} {y0 y1 y2 y3 y4 y5 y6 y7 y8 y9 y10 ret : Int32} (h : x91_r37_5 u y0 y1 y2 y3 y4 y5 y6 y7 y8 y9 y10 = some (ret, mm)) : iv_ev (iv_Xs L xs) 91 192 [.ref 40, .int y0, .int y1, .int y2, .int y3, .int y4, .int y5, .int y6, .int y7, .retAddr 0, .retAddr 0] [.int y8, .int y9, .int y10, .ref 46] (im_H g u o Y) 0 0 (.inl none, im_H g mm o Y) := by
  unfold x91_r37_5 at h
  cases hb17 : iv_in y10 520 with
  | false => exact (iv_bn hb17 h).elim
  | true =>
    have h := iv_bt hb17 h
    refine iv_chk (mi' := 91) (pc' := 194) (ls' := [.ref 40, .int y0, .int y1, .int y2, .int y3, .int y4, .int y5, .int y6, .int y7, .retAddr 0, .retAddr 0]) (st' := []) (A' := List.set (im_H g u o Y) 43 (.inl (0, 520, .inl (upd (u 43) (y10).toNatClampNeg (y9 ||| y8))))) (c' := 0) (s' := 0) 2 hb17 (fun n => rfl) ?_
    rw [im_a43]
    cases hb18 : iv_in (u 37 2) 520 with
    | false => exact (iv_bn hb18 h).elim
    | true =>
      have h := iv_bt hb18 h
      refine iv_chk (mi' := 91) (pc' := 204) (ls' := [.ref 40, .int y0, .int y1, .int y2, .int y3, .int y4, .int y5, .int y6, .int y7, .retAddr 0, .retAddr 0]) (st' := [.int ((u 44) ((u 37 2)).toNatClampNeg), .int (u 37 2), .ref 47]) (A' := im_H g (im_w u 43 (y10).toNatClampNeg (y9 ||| y8)) o Y) (c' := 0) (s' := 0) 6 hb18 (fun n => rfl) ?_
      cases hb19 : Op.ifCond.holds .eq y6 with
      | true =>
        have h := iv_bt hb19 h
        refine iv_brt (mi' := 91) (pc' := 215) (ls' := [.ref 40, .int y0, .int y1, .int y2, .int y3, .int y4, .int y5, .int y6, .int y7, .retAddr 0, .retAddr 0]) (st' := [.int ((u 44) ((u 37 2)).toNatClampNeg), .int (u 37 2), .ref 47]) (A' := im_H g (im_w u 43 (y10).toNatClampNeg (y9 ||| y8)) o Y) (c' := 0) (s' := 0) (mi'' := 91) (pc'' := 209) (ls'' := [.ref 40, .int y0, .int y1, .int y2, .int y3, .int y4, .int y5, .int y6, .int y7, .retAddr 0, .retAddr 0]) (st'' := [.int ((u 44) ((u 37 2)).toNatClampNeg), .int (u 37 2), .ref 47]) (A'' := im_H g (im_w u 43 (y10).toNatClampNeg (y9 ||| y8)) o Y) (c'' := 0) (s'' := 0) 2 0 0 hb19 (fun n => rfl) ?_
        refine iv_blk (mi' := 91) (pc' := 216) (ls' := [.ref 40, .int y0, .int y1, .int y2, .int y3, .int y4, .int y5, .int y6, .int y7, .retAddr 0, .retAddr 0]) (st' := [.int (0 : Int32), .int ((u 44) ((u 37 2)).toNatClampNeg), .int (u 37 2), .ref 47]) (A' := im_H g (im_w u 43 (y10).toNatClampNeg (y9 ||| y8)) o Y) (c' := 0) (s' := 0) 1 (fun n => rfl) ?_
        exact x91_r37_6_ok (u := (im_w u 43 (y10).toNatClampNeg (y9 ||| y8))) (y0 := y0) (y1 := y1) (y2 := y2) (y3 := y3) (y4 := y4) (y5 := y5) (y6 := y6) (y7 := y7) (y8 := (0 : Int32)) (y9 := ((u 44) ((u 37 2)).toNatClampNeg)) (y10 := (u 37 2)) h
      | false =>
        have h := iv_bf hb19 h
        refine iv_brf (mi' := 91) (pc' := 215) (ls' := [.ref 40, .int y0, .int y1, .int y2, .int y3, .int y4, .int y5, .int y6, .int y7, .retAddr 0, .retAddr 0]) (st' := [.int ((u 44) ((u 37 2)).toNatClampNeg), .int (u 37 2), .ref 47]) (A' := im_H g (im_w u 43 (y10).toNatClampNeg (y9 ||| y8)) o Y) (c' := 0) (s' := 0) (mi'' := 91) (pc'' := 209) (ls'' := [.ref 40, .int y0, .int y1, .int y2, .int y3, .int y4, .int y5, .int y6, .int y7, .retAddr 0, .retAddr 0]) (st'' := [.int ((u 44) ((u 37 2)).toNatClampNeg), .int (u 37 2), .ref 47]) (A'' := im_H g (im_w u 43 (y10).toNatClampNeg (y9 ||| y8)) o Y) (c'' := 0) (s'' := 0) 2 0 0 hb19 (fun n => rfl) ?_
        refine iv_blk (mi' := 91) (pc' := 216) (ls' := [.ref 40, .int y0, .int y1, .int y2, .int y3, .int y4, .int y5, .int y6, .int y7, .retAddr 0, .retAddr 0]) (st' := [.int ((1 : Int32) <<< (y2 &&& 31)), .int ((u 44) ((u 37 2)).toNatClampNeg), .int (u 37 2), .ref 47]) (A' := im_H g (im_w u 43 (y10).toNatClampNeg (y9 ||| y8)) o Y) (c' := 0) (s' := 0) 4 (fun n => rfl) ?_
        exact x91_r37_6_ok (u := (im_w u 43 (y10).toNatClampNeg (y9 ||| y8))) (y0 := y0) (y1 := y1) (y2 := y2) (y3 := y3) (y4 := y4) (y5 := y5) (y6 := y6) (y7 := y7) (y8 := ((1 : Int32) <<< (y2 &&& 31))) (y9 := ((u 44) ((u 37 2)).toNatClampNeg)) (y10 := (u 37 2)) h
def x91_r37_4 (u : im_M) (y0 : Int32) (y1 : Int32) (y2 : Int32) (y3 : Int32) (y4 : Int32) (y5 : Int32) (y6 : Int32) (y7 : Int32) (y8 : Int32) (y9 : Int32) (y10 : Int32) : Option (Int32 × im_M) :=
  bif iv_in y10 520 then
    bif iv_in (u 37 2) 520 then
      bif Op.ifCond.holds .eq y5 then
        (x91_r37_5 (im_w u 42 (y10).toNatClampNeg (y9 ||| y8)) y0 y1 y2 y3 y4 y5 y6 y7 (0 : Int32) ((u 43) ((u 37 2)).toNatClampNeg) (u 37 2))
      else
        (x91_r37_5 (im_w u 42 (y10).toNatClampNeg (y9 ||| y8)) y0 y1 y2 y3 y4 y5 y6 y7 ((1 : Int32) <<< (y2 &&& 31)) ((u 43) ((u 37 2)).toNatClampNeg) (u 37 2))
    else none
  else none
set_option maxRecDepth 100000 in
set_option maxHeartbeats 4000000 in
theorem x91_r37_4_ok {L : Nat} {xs : Nat → Int32} {g u mm : im_M} {o : Nat → Int64} {Y : iv_A} {y0 y1 y2 y3 y4 y5 y6 y7 y8 y9 y10 ret : Int32} (h : x91_r37_4 u y0 y1 y2 y3 y4 y5 y6 y7 y8 y9 y10 = some (ret, mm)) : iv_ev (iv_Xs L xs) 91 168 [.ref 40, .int y0, .int y1, .int y2, .int y3, .int y4, .int y5, .int y6, .int y7, .retAddr 0, .retAddr 0] [.int y8, .int y9, .int y10, .ref 45] (im_H g u o Y) 0 0 (.inl none, im_H g mm o Y) := by
  unfold x91_r37_4 at h
  cases hb14 : iv_in y10 520 with
  | false => exact (iv_bn hb14 h).elim
  | true =>
    have h := iv_bt hb14 h
    refine iv_chk (mi' := 91) (pc' := 170) (ls' := [.ref 40, .int y0, .int y1, .int y2, .int y3, .int y4, .int y5, .int y6, .int y7, .retAddr 0, .retAddr 0]) (st' := []) (A' := List.set (im_H g u o Y) 42 (.inl (0, 520, .inl (upd (u 42) (y10).toNatClampNeg (y9 ||| y8))))) (c' := 0) (s' := 0) 2 hb14 (fun n => rfl) ?_
    rw [im_a42]
    cases hb15 : iv_in (u 37 2) 520 with
    | false => exact (iv_bn hb15 h).elim
    | true =>
      have h := iv_bt hb15 h
      refine iv_chk (mi' := 91) (pc' := 180) (ls' := [.ref 40, .int y0, .int y1, .int y2, .int y3, .int y4, .int y5, .int y6, .int y7, .retAddr 0, .retAddr 0]) (st' := [.int ((u 43) ((u 37 2)).toNatClampNeg), .int (u 37 2), .ref 46]) (A' := im_H g (im_w u 42 (y10).toNatClampNeg (y9 ||| y8)) o Y) (c' := 0) (s' := 0) 6 hb15 (fun n => rfl) ?_
      cases hb16 : Op.ifCond.holds .eq y5 with
      | true =>
        have h := iv_bt hb16 h
        refine iv_brt (mi' := 91) (pc' := 191) (ls' := [.ref 40, .int y0, .int y1, .int y2, .int y3, .int y4, .int y5, .int y6, .int y7, .retAddr 0, .retAddr 0]) (st' := [.int ((u 43) ((u 37 2)).toNatClampNeg), .int (u 37 2), .ref 46]) (A' := im_H g (im_w u 42 (y10).toNatClampNeg (y9 ||| y8)) o Y) (c' := 0) (s' := 0) (mi'' := 91) (pc'' := 185) (ls'' := [.ref 40, .int y0, .int y1, .int y2, .int y3, .int y4, .int y5, .int y6, .int y7, .retAddr 0, .retAddr 0]) (st'' := [.int ((u 43) ((u 37 2)).toNatClampNeg), .int (u 37 2), .ref 46]) (A'' := im_H g (im_w u 42 (y10).toNatClampNeg (y9 ||| y8)) o Y) (c'' := 0) (s'' := 0) 2 0 0 hb16 (fun n => rfl) ?_
        refine iv_blk (mi' := 91) (pc' := 192) (ls' := [.ref 40, .int y0, .int y1, .int y2, .int y3, .int y4, .int y5, .int y6, .int y7, .retAddr 0, .retAddr 0]) (st' := [.int (0 : Int32), .int ((u 43) ((u 37 2)).toNatClampNeg), .int (u 37 2), .ref 46]) (A' := im_H g (im_w u 42 (y10).toNatClampNeg (y9 ||| y8)) o Y) (c' := 0) (s' := 0) 1 (fun n => rfl) ?_
        exact x91_r37_5_ok (u := (im_w u 42 (y10).toNatClampNeg (y9 ||| y8))) (y0 := y0) (y1 := y1) (y2 := y2) (y3 := y3) (y4 := y4) (y5 := y5) (y6 := y6) (y7 := y7) (y8 := (0 : Int32)) (y9 := ((u 43) ((u 37 2)).toNatClampNeg)) (y10 := (u 37 2)) h
      | false =>
        have h := iv_bf hb16 h
        refine iv_brf (mi' := 91) (pc' := 191) (ls' := [.ref 40, .int y0, .int y1, .int y2, .int y3, .int y4, .int y5, .int y6, .int y7, .retAddr 0, .retAddr 0]) (st' := [.int ((u 43) ((u 37 2)).toNatClampNeg), .int (u 37 2), .ref 46]) (A' := im_H g (im_w u 42 (y10).toNatClampNeg (y9 ||| y8)) o Y) (c' := 0) (s' := 0) (mi'' := 91) (pc'' := 185) (ls'' := [.ref 40, .int y0, .int y1, .int y2, .int y3, .int y4, .int y5, .int y6, .int y7, .retAddr 0, .retAddr 0]) (st'' := [.int ((u 43) ((u 37 2)).toNatClampNeg), .int (u 37 2), .ref 46]) (A'' := im_H g (im_w u 42 (y10).toNatClampNeg (y9 ||| y8)) o Y) (c'' := 0) (s'' := 0) 2 0 0 hb16 (fun n => rfl) ?_
        refine iv_blk (mi' := 91) (pc' := 192) (ls' := [.ref 40, .int y0, .int y1, .int y2, .int y3, .int y4, .int y5, .int y6, .int y7, .retAddr 0, .retAddr 0]) (st' := [.int ((1 : Int32) <<< (y2 &&& 31)), .int ((u 43) ((u 37 2)).toNatClampNeg), .int (u 37 2), .ref 46]) (A' := im_H g (im_w u 42 (y10).toNatClampNeg (y9 ||| y8)) o Y) (c' := 0) (s' := 0) 4 (fun n => rfl) ?_
        exact x91_r37_5_ok (u := (im_w u 42 (y10).toNatClampNeg (y9 ||| y8))) (y0 := y0) (y1 := y1) (y2 := y2) (y3 := y3) (y4 := y4) (y5 := y5) (y6 := y6) (y7 := y7) (y8 := ((1 : Int32) <<< (y2 &&& 31))) (y9 := ((u 43) ((u 37 2)).toNatClampNeg)) (y10 := (u 37 2)) h
def x91_r37_3 (u : im_M) (y0 : Int32) (y1 : Int32) (y2 : Int32) (y3 : Int32) (y4 : Int32) (y5 : Int32) (y6 : Int32) : Option (Int32 × im_M) :=
  Option.bind (x92_r37 u y2) (fun q2 =>
    bif iv_in (q2.2 37 2) 520 then
      bif Op.ifCond.holds .eq q2.1 then
        (x91_r37_4 q2.2 y0 y1 y2 y3 y4 y5 y6 q2.1 (0 : Int32) ((q2.2 42) ((q2.2 37 2)).toNatClampNeg) (q2.2 37 2))
      else
        (x91_r37_4 q2.2 y0 y1 y2 y3 y4 y5 y6 q2.1 ((1 : Int32) <<< (y2 &&& 31)) ((q2.2 42) ((q2.2 37 2)).toNatClampNeg) (q2.2 37 2))
    else none)
set_option maxRecDepth 100000 in
set_option maxHeartbeats 4000000 in
theorem x91_r37_3_ok {L : Nat} {xs : Nat → Int32} {g u mm : im_M} {o : Nat → Int64} {Y : iv_A} {y0 y1 y2 y3 y4 y5 y6 ret : Int32} (h : x91_r37_3 u y0 y1 y2 y3 y4 y5 y6 = some (ret, mm)) : iv_ev (iv_Xs L xs) 91 137 [.ref 40, .int y0, .int y1, .int y2, .int y3, .int y4, .int y5, .retAddr 0, .retAddr 0, .retAddr 0, .retAddr 0] [.int y6] (im_H g u o Y) 0 0 (.inl none, im_H g mm o Y) := by
  unfold x91_r37_3 at h
  obtain ⟨v2, g2, hc, h⟩ := iv_bd h
  refine iv_cal (mi' := 91) (pc' := 141) (ls' := [.ref 40, .int y0, .int y1, .int y2, .int y3, .int y4, .int y5, .int y6, .retAddr 0, .retAddr 0, .retAddr 0]) (rest := []) (A' := im_H g u o Y) (c' := 0) (s' := 0) (as := [.ref 40, .int y2]) (v := some (.int v2)) (A'' := im_H g g2 o Y) 4 92 (fun n => rfl) rfl (x92_r37_ok (u := u) (a := y2) hc) ?_
  show iv_ev (iv_Xs L xs) 91 144 [.ref 40, .int y0, .int y1, .int y2, .int y3, .int y4, .int y5, .int y6, .retAddr 0, .retAddr 0, .retAddr 0] [.int v2] (im_H g g2 o Y) 0 0 _
  cases hb12 : iv_in (g2 37 2) 520 with
  | false => exact (iv_bn hb12 h).elim
  | true =>
    have h := iv_bt hb12 h
    refine iv_chk (mi' := 91) (pc' := 156) (ls' := [.ref 40, .int y0, .int y1, .int y2, .int y3, .int y4, .int y5, .int y6, .int v2, .retAddr 0, .retAddr 0]) (st' := [.int ((g2 42) ((g2 37 2)).toNatClampNeg), .int (g2 37 2), .ref 45]) (A' := im_H g g2 o Y) (c' := 0) (s' := 0) 7 hb12 (fun n => rfl) ?_
    cases hb13 : Op.ifCond.holds .eq v2 with
    | true =>
      have h := iv_bt hb13 h
      refine iv_brt (mi' := 91) (pc' := 167) (ls' := [.ref 40, .int y0, .int y1, .int y2, .int y3, .int y4, .int y5, .int y6, .int v2, .retAddr 0, .retAddr 0]) (st' := [.int ((g2 42) ((g2 37 2)).toNatClampNeg), .int (g2 37 2), .ref 45]) (A' := im_H g g2 o Y) (c' := 0) (s' := 0) (mi'' := 91) (pc'' := 161) (ls'' := [.ref 40, .int y0, .int y1, .int y2, .int y3, .int y4, .int y5, .int y6, .int v2, .retAddr 0, .retAddr 0]) (st'' := [.int ((g2 42) ((g2 37 2)).toNatClampNeg), .int (g2 37 2), .ref 45]) (A'' := im_H g g2 o Y) (c'' := 0) (s'' := 0) 2 0 0 hb13 (fun n => rfl) ?_
      refine iv_blk (mi' := 91) (pc' := 168) (ls' := [.ref 40, .int y0, .int y1, .int y2, .int y3, .int y4, .int y5, .int y6, .int v2, .retAddr 0, .retAddr 0]) (st' := [.int (0 : Int32), .int ((g2 42) ((g2 37 2)).toNatClampNeg), .int (g2 37 2), .ref 45]) (A' := im_H g g2 o Y) (c' := 0) (s' := 0) 1 (fun n => rfl) ?_
      exact x91_r37_4_ok (u := g2) (y0 := y0) (y1 := y1) (y2 := y2) (y3 := y3) (y4 := y4) (y5 := y5) (y6 := y6) (y7 := v2) (y8 := (0 : Int32)) (y9 := ((g2 42) ((g2 37 2)).toNatClampNeg)) (y10 := (g2 37 2)) h
    | false =>
      have h := iv_bf hb13 h
      refine iv_brf (mi' := 91) (pc' := 167) (ls' := [.ref 40, .int y0, .int y1, .int y2, .int y3, .int y4, .int y5, .int y6, .int v2, .retAddr 0, .retAddr 0]) (st' := [.int ((g2 42) ((g2 37 2)).toNatClampNeg), .int (g2 37 2), .ref 45]) (A' := im_H g g2 o Y) (c' := 0) (s' := 0) (mi'' := 91) (pc'' := 161) (ls'' := [.ref 40, .int y0, .int y1, .int y2, .int y3, .int y4, .int y5, .int y6, .int v2, .retAddr 0, .retAddr 0]) (st'' := [.int ((g2 42) ((g2 37 2)).toNatClampNeg), .int (g2 37 2), .ref 45]) (A'' := im_H g g2 o Y) (c'' := 0) (s'' := 0) 2 0 0 hb13 (fun n => rfl) ?_
      refine iv_blk (mi' := 91) (pc' := 168) (ls' := [.ref 40, .int y0, .int y1, .int y2, .int y3, .int y4, .int y5, .int y6, .int v2, .retAddr 0, .retAddr 0]) (st' := [.int ((1 : Int32) <<< (y2 &&& 31)), .int ((g2 42) ((g2 37 2)).toNatClampNeg), .int (g2 37 2), .ref 45]) (A' := im_H g g2 o Y) (c' := 0) (s' := 0) 4 (fun n => rfl) ?_
      exact x91_r37_4_ok (u := g2) (y0 := y0) (y1 := y1) (y2 := y2) (y3 := y3) (y4 := y4) (y5 := y5) (y6 := y6) (y7 := v2) (y8 := ((1 : Int32) <<< (y2 &&& 31))) (y9 := ((g2 42) ((g2 37 2)).toNatClampNeg)) (y10 := (g2 37 2)) h
def x91_r37_2 (u : im_M) (y0 : Int32) (y1 : Int32) (y2 : Int32) (y3 : Int32) (y4 : Int32) (y5 : Int32) : Option (Int32 × im_M) :=
  bif Op.if_icmp.holds .ne y1 (1 : Int32) then
    (bif Op.if_icmp.holds .ge y3 (y4 - (40 : Int32)) then
      (x91_r37_3 u y0 y1 y2 y3 y4 y5 (0 : Int32))
    else
      (x91_r37_3 u y0 y1 y2 y3 y4 y5 (1 : Int32)))
  else
    (bif Op.if_icmp.holds .le y3 (y4 + (40 : Int32)) then
      (x91_r37_3 u y0 y1 y2 y3 y4 y5 (0 : Int32))
    else
      (x91_r37_3 u y0 y1 y2 y3 y4 y5 (1 : Int32)))
set_option maxRecDepth 100000 in
set_option maxHeartbeats 4000000 in
theorem x91_r37_2_ok {L : Nat} {xs : Nat → Int32} {g u mm : im_M} {o : Nat → Int64} {Y : iv_A} {y0 y1 y2 y3 y4 y5 ret : Int32} (h : x91_r37_2 u y0 y1 y2 y3 y4 y5 = some (ret, mm)) : iv_ev (iv_Xs L xs) 91 97 [.ref 40, .int y0, .int y1, .int y2, .int y3, .int y4, .retAddr 0, .retAddr 0, .retAddr 0, .retAddr 0, .retAddr 0] [.int y5] (im_H g u o Y) 0 0 (.inl none, im_H g mm o Y) := by
  unfold x91_r37_2 at h
  cases hb9 : Op.if_icmp.holds .ne y1 (1 : Int32) with
  | true =>
    have h := iv_bt hb9 h
    refine iv_brt (mi' := 91) (pc' := 122) (ls' := [.ref 40, .int y0, .int y1, .int y2, .int y3, .int y4, .int y5, .retAddr 0, .retAddr 0, .retAddr 0, .retAddr 0]) (st' := []) (A' := im_H g u o Y) (c' := 0) (s' := 0) (mi'' := 91) (pc'' := 104) (ls'' := [.ref 40, .int y0, .int y1, .int y2, .int y3, .int y4, .int y5, .retAddr 0, .retAddr 0, .retAddr 0, .retAddr 0]) (st'' := []) (A'' := im_H g u o Y) (c'' := 0) (s'' := 0) 4 0 0 hb9 (fun n => rfl) ?_
    cases hb10 : Op.if_icmp.holds .ge y3 (y4 - (40 : Int32)) with
    | true =>
      have h := iv_bt hb10 h
      refine iv_brt (mi' := 91) (pc' := 136) (ls' := [.ref 40, .int y0, .int y1, .int y2, .int y3, .int y4, .int y5, .retAddr 0, .retAddr 0, .retAddr 0, .retAddr 0]) (st' := []) (A' := im_H g u o Y) (c' := 0) (s' := 0) (mi'' := 91) (pc'' := 132) (ls'' := [.ref 40, .int y0, .int y1, .int y2, .int y3, .int y4, .int y5, .retAddr 0, .retAddr 0, .retAddr 0, .retAddr 0]) (st'' := []) (A'' := im_H g u o Y) (c'' := 0) (s'' := 0) 5 0 0 hb10 (fun n => rfl) ?_
      refine iv_blk (mi' := 91) (pc' := 137) (ls' := [.ref 40, .int y0, .int y1, .int y2, .int y3, .int y4, .int y5, .retAddr 0, .retAddr 0, .retAddr 0, .retAddr 0]) (st' := [.int (0 : Int32)]) (A' := im_H g u o Y) (c' := 0) (s' := 0) 1 (fun n => rfl) ?_
      exact x91_r37_3_ok (u := u) (y0 := y0) (y1 := y1) (y2 := y2) (y3 := y3) (y4 := y4) (y5 := y5) (y6 := (0 : Int32)) h
    | false =>
      have h := iv_bf hb10 h
      refine iv_brf (mi' := 91) (pc' := 136) (ls' := [.ref 40, .int y0, .int y1, .int y2, .int y3, .int y4, .int y5, .retAddr 0, .retAddr 0, .retAddr 0, .retAddr 0]) (st' := []) (A' := im_H g u o Y) (c' := 0) (s' := 0) (mi'' := 91) (pc'' := 132) (ls'' := [.ref 40, .int y0, .int y1, .int y2, .int y3, .int y4, .int y5, .retAddr 0, .retAddr 0, .retAddr 0, .retAddr 0]) (st'' := []) (A'' := im_H g u o Y) (c'' := 0) (s'' := 0) 5 0 0 hb10 (fun n => rfl) ?_
      refine iv_blk (mi' := 91) (pc' := 137) (ls' := [.ref 40, .int y0, .int y1, .int y2, .int y3, .int y4, .int y5, .retAddr 0, .retAddr 0, .retAddr 0, .retAddr 0]) (st' := [.int (1 : Int32)]) (A' := im_H g u o Y) (c' := 0) (s' := 0) 2 (fun n => rfl) ?_
      exact x91_r37_3_ok (u := u) (y0 := y0) (y1 := y1) (y2 := y2) (y3 := y3) (y4 := y4) (y5 := y5) (y6 := (1 : Int32)) h
  | false =>
    have h := iv_bf hb9 h
    refine iv_brf (mi' := 91) (pc' := 122) (ls' := [.ref 40, .int y0, .int y1, .int y2, .int y3, .int y4, .int y5, .retAddr 0, .retAddr 0, .retAddr 0, .retAddr 0]) (st' := []) (A' := im_H g u o Y) (c' := 0) (s' := 0) (mi'' := 91) (pc'' := 104) (ls'' := [.ref 40, .int y0, .int y1, .int y2, .int y3, .int y4, .int y5, .retAddr 0, .retAddr 0, .retAddr 0, .retAddr 0]) (st'' := []) (A'' := im_H g u o Y) (c'' := 0) (s'' := 0) 4 0 0 hb9 (fun n => rfl) ?_
    cases hb11 : Op.if_icmp.holds .le y3 (y4 + (40 : Int32)) with
    | true =>
      have h := iv_bt hb11 h
      refine iv_brt (mi' := 91) (pc' := 118) (ls' := [.ref 40, .int y0, .int y1, .int y2, .int y3, .int y4, .int y5, .retAddr 0, .retAddr 0, .retAddr 0, .retAddr 0]) (st' := []) (A' := im_H g u o Y) (c' := 0) (s' := 0) (mi'' := 91) (pc'' := 114) (ls'' := [.ref 40, .int y0, .int y1, .int y2, .int y3, .int y4, .int y5, .retAddr 0, .retAddr 0, .retAddr 0, .retAddr 0]) (st'' := []) (A'' := im_H g u o Y) (c'' := 0) (s'' := 0) 5 0 0 hb11 (fun n => rfl) ?_
      refine iv_blk (mi' := 91) (pc' := 137) (ls' := [.ref 40, .int y0, .int y1, .int y2, .int y3, .int y4, .int y5, .retAddr 0, .retAddr 0, .retAddr 0, .retAddr 0]) (st' := [.int (0 : Int32)]) (A' := im_H g u o Y) (c' := 0) (s' := 0) 2 (fun n => rfl) ?_
      exact x91_r37_3_ok (u := u) (y0 := y0) (y1 := y1) (y2 := y2) (y3 := y3) (y4 := y4) (y5 := y5) (y6 := (0 : Int32)) h
    | false =>
      have h := iv_bf hb11 h
      refine iv_brf (mi' := 91) (pc' := 118) (ls' := [.ref 40, .int y0, .int y1, .int y2, .int y3, .int y4, .int y5, .retAddr 0, .retAddr 0, .retAddr 0, .retAddr 0]) (st' := []) (A' := im_H g u o Y) (c' := 0) (s' := 0) (mi'' := 91) (pc'' := 114) (ls'' := [.ref 40, .int y0, .int y1, .int y2, .int y3, .int y4, .int y5, .retAddr 0, .retAddr 0, .retAddr 0, .retAddr 0]) (st'' := []) (A'' := im_H g u o Y) (c'' := 0) (s'' := 0) 5 0 0 hb11 (fun n => rfl) ?_
      refine iv_blk (mi' := 91) (pc' := 137) (ls' := [.ref 40, .int y0, .int y1, .int y2, .int y3, .int y4, .int y5, .retAddr 0, .retAddr 0, .retAddr 0, .retAddr 0]) (st' := [.int (1 : Int32)]) (A' := im_H g u o Y) (c' := 0) (s' := 0) 2 (fun n => rfl) ?_
      exact x91_r37_3_ok (u := u) (y0 := y0) (y1 := y1) (y2 := y2) (y3 := y3) (y4 := y4) (y5 := y5) (y6 := (1 : Int32)) h
def x91_r37_1 (u : im_M) (y0 : Int32) (y1 : Int32) (y2 : Int32) (y3 : Int32) (y4 : Int32) : Option (Int32 × im_M) :=
  bif iv_in y4 12 then
    bif iv_in y2 12 then
      Option.bind (x88_r37 (im_w (im_w u 41 (y4).toNatClampNeg y3) 40 (y2).toNatClampNeg (0 : Int32)) y0 y1) (fun q1 =>
        bif Op.if_icmp.holds .ne y1 (1 : Int32) then
          (bif Op.if_icmp.holds .le ((u 38) (y2).toNatClampNeg) q1.1 then
            (x91_r37_2 q1.2 y0 y1 y2 ((u 38) (y2).toNatClampNeg) q1.1 (0 : Int32))
          else
            (x91_r37_2 q1.2 y0 y1 y2 ((u 38) (y2).toNatClampNeg) q1.1 (1 : Int32)))
        else
          (bif Op.if_icmp.holds .ge ((u 38) (y2).toNatClampNeg) q1.1 then
            (x91_r37_2 q1.2 y0 y1 y2 ((u 38) (y2).toNatClampNeg) q1.1 (0 : Int32))
          else
            (x91_r37_2 q1.2 y0 y1 y2 ((u 38) (y2).toNatClampNeg) q1.1 (1 : Int32))))
    else none
  else none
set_option maxRecDepth 100000 in
set_option maxHeartbeats 4000000 in
theorem x91_r37_1_ok {L : Nat} {xs : Nat → Int32} {g u mm : im_M} {o : Nat → Int64} {Y : iv_A} {y0 y1 y2 y3 y4 ret : Int32} (h : x91_r37_1 u y0 y1 y2 y3 y4 = some (ret, mm)) : iv_ev (iv_Xs L xs) 91 41 [.ref 40, .int y0, .int y1, .int y2, .retAddr 0, .retAddr 0, .retAddr 0, .retAddr 0, .retAddr 0, .retAddr 0, .retAddr 0] [.int y3, .int y4, .ref 44] (im_H g u o Y) 0 0 (.inl none, im_H g mm o Y) := by
  unfold x91_r37_1 at h
  cases hb4 : iv_in y4 12 with
  | false => exact (iv_bn hb4 h).elim
  | true =>
    have h := iv_bt hb4 h
    refine iv_chk (mi' := 91) (pc' := 42) (ls' := [.ref 40, .int y0, .int y1, .int y2, .retAddr 0, .retAddr 0, .retAddr 0, .retAddr 0, .retAddr 0, .retAddr 0, .retAddr 0]) (st' := []) (A' := List.set (im_H g u o Y) 41 (.inl (0, 12, .inl (upd (u 41) (y4).toNatClampNeg y3)))) (c' := 0) (s' := 0) 1 hb4 (fun n => rfl) ?_
    rw [im_a41]
    cases hb5 : iv_in y2 12 with
    | false => exact (iv_bn hb5 h).elim
    | true =>
      have h := iv_bt hb5 h
      refine iv_chk (mi' := 91) (pc' := 49) (ls' := [.ref 40, .int y0, .int y1, .int y2, .retAddr 0, .retAddr 0, .retAddr 0, .retAddr 0, .retAddr 0, .retAddr 0, .retAddr 0]) (st' := []) (A' := List.set (im_H g (im_w u 41 (y4).toNatClampNeg y3) o Y) 40 (.inl (1, 12, .inl (upd ((im_w u 41 (y4).toNatClampNeg y3) 40) (y2).toNatClampNeg (0 : Int32))))) (c' := 0) (s' := 0) 5 hb5 (fun n => rfl) ?_
      rw [im_a40]
      refine iv_chk (mi' := 91) (pc' := 55) (ls' := [.ref 40, .int y0, .int y1, .int y2, .retAddr 0, .retAddr 0, .retAddr 0, .retAddr 0, .retAddr 0, .retAddr 0, .retAddr 0]) (st' := [.int ((u 38) (y2).toNatClampNeg)]) (A' := im_H g (im_w (im_w u 41 (y4).toNatClampNeg y3) 40 (y2).toNatClampNeg (0 : Int32)) o Y) (c' := 0) (s' := 0) 4 hb5 (fun n => rfl) ?_
      obtain ⟨v1, g1, hc, h⟩ := iv_bd h
      refine iv_cal (mi' := 91) (pc' := 60) (ls' := [.ref 40, .int y0, .int y1, .int y2, .int ((u 38) (y2).toNatClampNeg), .retAddr 0, .retAddr 0, .retAddr 0, .retAddr 0, .retAddr 0, .retAddr 0]) (rest := []) (A' := im_H g (im_w (im_w u 41 (y4).toNatClampNeg y3) 40 (y2).toNatClampNeg (0 : Int32)) o Y) (c' := 0) (s' := 0) (as := [.ref 40, .int y0, .int y1]) (v := some (.int v1)) (A'' := im_H g g1 o Y) 5 88 (fun n => rfl) rfl (x88_r37_ok (u := (im_w (im_w u 41 (y4).toNatClampNeg y3) 40 (y2).toNatClampNeg (0 : Int32))) (a := y0) (b := y1) hc) ?_
      show iv_ev (iv_Xs L xs) 91 63 [.ref 40, .int y0, .int y1, .int y2, .int ((u 38) (y2).toNatClampNeg), .retAddr 0, .retAddr 0, .retAddr 0, .retAddr 0, .retAddr 0, .retAddr 0] [.int v1] (im_H g g1 o Y) 0 0 _
      cases hb6 : Op.if_icmp.holds .ne y1 (1 : Int32) with
      | true =>
        have h := iv_bt hb6 h
        refine iv_brt (mi' := 91) (pc' := 85) (ls' := [.ref 40, .int y0, .int y1, .int y2, .int ((u 38) (y2).toNatClampNeg), .int v1, .retAddr 0, .retAddr 0, .retAddr 0, .retAddr 0, .retAddr 0]) (st' := []) (A' := im_H g g1 o Y) (c' := 0) (s' := 0) (mi'' := 91) (pc'' := 70) (ls'' := [.ref 40, .int y0, .int y1, .int y2, .int ((u 38) (y2).toNatClampNeg), .int v1, .retAddr 0, .retAddr 0, .retAddr 0, .retAddr 0, .retAddr 0]) (st'' := []) (A'' := im_H g g1 o Y) (c'' := 0) (s'' := 0) 4 0 0 hb6 (fun n => rfl) ?_
        cases hb7 : Op.if_icmp.holds .le ((u 38) (y2).toNatClampNeg) v1 with
        | true =>
          have h := iv_bt hb7 h
          refine iv_brt (mi' := 91) (pc' := 96) (ls' := [.ref 40, .int y0, .int y1, .int y2, .int ((u 38) (y2).toNatClampNeg), .int v1, .retAddr 0, .retAddr 0, .retAddr 0, .retAddr 0, .retAddr 0]) (st' := []) (A' := im_H g g1 o Y) (c' := 0) (s' := 0) (mi'' := 91) (pc'' := 92) (ls'' := [.ref 40, .int y0, .int y1, .int y2, .int ((u 38) (y2).toNatClampNeg), .int v1, .retAddr 0, .retAddr 0, .retAddr 0, .retAddr 0, .retAddr 0]) (st'' := []) (A'' := im_H g g1 o Y) (c'' := 0) (s'' := 0) 3 0 0 hb7 (fun n => rfl) ?_
          refine iv_blk (mi' := 91) (pc' := 97) (ls' := [.ref 40, .int y0, .int y1, .int y2, .int ((u 38) (y2).toNatClampNeg), .int v1, .retAddr 0, .retAddr 0, .retAddr 0, .retAddr 0, .retAddr 0]) (st' := [.int (0 : Int32)]) (A' := im_H g g1 o Y) (c' := 0) (s' := 0) 1 (fun n => rfl) ?_
          exact x91_r37_2_ok (u := g1) (y0 := y0) (y1 := y1) (y2 := y2) (y3 := ((u 38) (y2).toNatClampNeg)) (y4 := v1) (y5 := (0 : Int32)) h
        | false =>
          have h := iv_bf hb7 h
          refine iv_brf (mi' := 91) (pc' := 96) (ls' := [.ref 40, .int y0, .int y1, .int y2, .int ((u 38) (y2).toNatClampNeg), .int v1, .retAddr 0, .retAddr 0, .retAddr 0, .retAddr 0, .retAddr 0]) (st' := []) (A' := im_H g g1 o Y) (c' := 0) (s' := 0) (mi'' := 91) (pc'' := 92) (ls'' := [.ref 40, .int y0, .int y1, .int y2, .int ((u 38) (y2).toNatClampNeg), .int v1, .retAddr 0, .retAddr 0, .retAddr 0, .retAddr 0, .retAddr 0]) (st'' := []) (A'' := im_H g g1 o Y) (c'' := 0) (s'' := 0) 3 0 0 hb7 (fun n => rfl) ?_
          refine iv_blk (mi' := 91) (pc' := 97) (ls' := [.ref 40, .int y0, .int y1, .int y2, .int ((u 38) (y2).toNatClampNeg), .int v1, .retAddr 0, .retAddr 0, .retAddr 0, .retAddr 0, .retAddr 0]) (st' := [.int (1 : Int32)]) (A' := im_H g g1 o Y) (c' := 0) (s' := 0) 2 (fun n => rfl) ?_
          exact x91_r37_2_ok (u := g1) (y0 := y0) (y1 := y1) (y2 := y2) (y3 := ((u 38) (y2).toNatClampNeg)) (y4 := v1) (y5 := (1 : Int32)) h
      | false =>
        have h := iv_bf hb6 h
        refine iv_brf (mi' := 91) (pc' := 85) (ls' := [.ref 40, .int y0, .int y1, .int y2, .int ((u 38) (y2).toNatClampNeg), .int v1, .retAddr 0, .retAddr 0, .retAddr 0, .retAddr 0, .retAddr 0]) (st' := []) (A' := im_H g g1 o Y) (c' := 0) (s' := 0) (mi'' := 91) (pc'' := 70) (ls'' := [.ref 40, .int y0, .int y1, .int y2, .int ((u 38) (y2).toNatClampNeg), .int v1, .retAddr 0, .retAddr 0, .retAddr 0, .retAddr 0, .retAddr 0]) (st'' := []) (A'' := im_H g g1 o Y) (c'' := 0) (s'' := 0) 4 0 0 hb6 (fun n => rfl) ?_
        cases hb8 : Op.if_icmp.holds .ge ((u 38) (y2).toNatClampNeg) v1 with
        | true =>
          have h := iv_bt hb8 h
          refine iv_brt (mi' := 91) (pc' := 81) (ls' := [.ref 40, .int y0, .int y1, .int y2, .int ((u 38) (y2).toNatClampNeg), .int v1, .retAddr 0, .retAddr 0, .retAddr 0, .retAddr 0, .retAddr 0]) (st' := []) (A' := im_H g g1 o Y) (c' := 0) (s' := 0) (mi'' := 91) (pc'' := 77) (ls'' := [.ref 40, .int y0, .int y1, .int y2, .int ((u 38) (y2).toNatClampNeg), .int v1, .retAddr 0, .retAddr 0, .retAddr 0, .retAddr 0, .retAddr 0]) (st'' := []) (A'' := im_H g g1 o Y) (c'' := 0) (s'' := 0) 3 0 0 hb8 (fun n => rfl) ?_
          refine iv_blk (mi' := 91) (pc' := 97) (ls' := [.ref 40, .int y0, .int y1, .int y2, .int ((u 38) (y2).toNatClampNeg), .int v1, .retAddr 0, .retAddr 0, .retAddr 0, .retAddr 0, .retAddr 0]) (st' := [.int (0 : Int32)]) (A' := im_H g g1 o Y) (c' := 0) (s' := 0) 2 (fun n => rfl) ?_
          exact x91_r37_2_ok (u := g1) (y0 := y0) (y1 := y1) (y2 := y2) (y3 := ((u 38) (y2).toNatClampNeg)) (y4 := v1) (y5 := (0 : Int32)) h
        | false =>
          have h := iv_bf hb8 h
          refine iv_brf (mi' := 91) (pc' := 81) (ls' := [.ref 40, .int y0, .int y1, .int y2, .int ((u 38) (y2).toNatClampNeg), .int v1, .retAddr 0, .retAddr 0, .retAddr 0, .retAddr 0, .retAddr 0]) (st' := []) (A' := im_H g g1 o Y) (c' := 0) (s' := 0) (mi'' := 91) (pc'' := 77) (ls'' := [.ref 40, .int y0, .int y1, .int y2, .int ((u 38) (y2).toNatClampNeg), .int v1, .retAddr 0, .retAddr 0, .retAddr 0, .retAddr 0, .retAddr 0]) (st'' := []) (A'' := im_H g g1 o Y) (c'' := 0) (s'' := 0) 3 0 0 hb8 (fun n => rfl) ?_
          refine iv_blk (mi' := 91) (pc' := 97) (ls' := [.ref 40, .int y0, .int y1, .int y2, .int ((u 38) (y2).toNatClampNeg), .int v1, .retAddr 0, .retAddr 0, .retAddr 0, .retAddr 0, .retAddr 0]) (st' := [.int (1 : Int32)]) (A' := im_H g g1 o Y) (c' := 0) (s' := 0) 2 (fun n => rfl) ?_
          exact x91_r37_2_ok (u := g1) (y0 := y0) (y1 := y1) (y2 := y2) (y3 := ((u 38) (y2).toNatClampNeg)) (y4 := v1) (y5 := (1 : Int32)) h
def x91_r37 (u : im_M) (a : Int32) (b : Int32) : Option (Int32 × im_M) :=
  bif iv_in (((3 : Int32) * a) + b) 12 then
    bif Op.ifCond.holds .ne ((u 40) ((((3 : Int32) * a) + b)).toNatClampNeg) then
      (x91_r37_1 u a b (((3 : Int32) * a) + b) (u 37 2) (((3 : Int32) * a) + b))
    else
      (bif Op.if_icmp.holds .ne (u 37 2) (1 : Int32) then
        (x91_r37_1 u a b (((3 : Int32) * a) + b) ((u 41) ((((3 : Int32) * a) + b)).toNatClampNeg) (((3 : Int32) * a) + b))
      else
        (x91_r37_1 u a b (((3 : Int32) * a) + b) (u 37 2) (((3 : Int32) * a) + b)))
  else none
set_option maxRecDepth 100000 in
set_option maxHeartbeats 4000000 in
theorem x91_r37_ok {L : Nat} {xs : Nat → Int32} {g u mm : im_M} {o : Nat → Int64} {Y : iv_A} {a b ret : Int32} (h : x91_r37 u a b = some (ret, mm)) : iv_ev (iv_Xs L xs) 91 0 [.ref 40, .int a, .int b, .retAddr 0, .retAddr 0, .retAddr 0, .retAddr 0, .retAddr 0, .retAddr 0, .retAddr 0, .retAddr 0] [] (im_H g u o Y) 0 0 (.inl none, im_H g mm o Y) := by
  unfold x91_r37 at h
  cases hb1 : iv_in (((3 : Int32) * a) + b) 12 with
  | false => exact (iv_bn hb1 h).elim
  | true =>
    have h := iv_bt hb1 h
    refine iv_chk (mi' := 91) (pc' := 17) (ls' := [.ref 40, .int a, .int b, .int (((3 : Int32) * a) + b), .retAddr 0, .retAddr 0, .retAddr 0, .retAddr 0, .retAddr 0, .retAddr 0, .retAddr 0]) (st' := [.int ((u 40) ((((3 : Int32) * a) + b)).toNatClampNeg), .int (((3 : Int32) * a) + b), .ref 44]) (A' := im_H g u o Y) (c' := 0) (s' := 0) 13 hb1 (fun n => rfl) ?_
    cases hb2 : Op.ifCond.holds .ne ((u 40) ((((3 : Int32) * a) + b)).toNatClampNeg) with
    | true =>
      have h := iv_bt hb2 h
      refine iv_brt (mi' := 91) (pc' := 28) (ls' := [.ref 40, .int a, .int b, .int (((3 : Int32) * a) + b), .retAddr 0, .retAddr 0, .retAddr 0, .retAddr 0, .retAddr 0, .retAddr 0, .retAddr 0]) (st' := [.int (((3 : Int32) * a) + b), .ref 44]) (A' := im_H g u o Y) (c' := 0) (s' := 0) (mi'' := 91) (pc'' := 20) (ls'' := [.ref 40, .int a, .int b, .int (((3 : Int32) * a) + b), .retAddr 0, .retAddr 0, .retAddr 0, .retAddr 0, .retAddr 0, .retAddr 0, .retAddr 0]) (st'' := [.int (((3 : Int32) * a) + b), .ref 44]) (A'' := im_H g u o Y) (c'' := 0) (s'' := 0) 1 0 0 hb2 (fun n => rfl) ?_
      refine iv_blk (mi' := 91) (pc' := 41) (ls' := [.ref 40, .int a, .int b, .int (((3 : Int32) * a) + b), .retAddr 0, .retAddr 0, .retAddr 0, .retAddr 0, .retAddr 0, .retAddr 0, .retAddr 0]) (st' := [.int (u 37 2), .int (((3 : Int32) * a) + b), .ref 44]) (A' := im_H g u o Y) (c' := 0) (s' := 0) 3 (fun n => rfl) ?_
      exact x91_r37_1_ok (u := u) (y0 := a) (y1 := b) (y2 := (((3 : Int32) * a) + b)) (y3 := (u 37 2)) (y4 := (((3 : Int32) * a) + b)) h
    | false =>
      have h := iv_bf hb2 h
      refine iv_brf (mi' := 91) (pc' := 28) (ls' := [.ref 40, .int a, .int b, .int (((3 : Int32) * a) + b), .retAddr 0, .retAddr 0, .retAddr 0, .retAddr 0, .retAddr 0, .retAddr 0, .retAddr 0]) (st' := [.int (((3 : Int32) * a) + b), .ref 44]) (A' := im_H g u o Y) (c' := 0) (s' := 0) (mi'' := 91) (pc'' := 20) (ls'' := [.ref 40, .int a, .int b, .int (((3 : Int32) * a) + b), .retAddr 0, .retAddr 0, .retAddr 0, .retAddr 0, .retAddr 0, .retAddr 0, .retAddr 0]) (st'' := [.int (((3 : Int32) * a) + b), .ref 44]) (A'' := im_H g u o Y) (c'' := 0) (s'' := 0) 1 0 0 hb2 (fun n => rfl) ?_
      cases hb3 : Op.if_icmp.holds .ne (u 37 2) (1 : Int32) with
      | true =>
        have h := iv_bt hb3 h
        refine iv_brt (mi' := 91) (pc' := 35) (ls' := [.ref 40, .int a, .int b, .int (((3 : Int32) * a) + b), .retAddr 0, .retAddr 0, .retAddr 0, .retAddr 0, .retAddr 0, .retAddr 0, .retAddr 0]) (st' := [.int (((3 : Int32) * a) + b), .ref 44]) (A' := im_H g u o Y) (c' := 0) (s' := 0) (mi'' := 91) (pc'' := 28) (ls'' := [.ref 40, .int a, .int b, .int (((3 : Int32) * a) + b), .retAddr 0, .retAddr 0, .retAddr 0, .retAddr 0, .retAddr 0, .retAddr 0, .retAddr 0]) (st'' := [.int (((3 : Int32) * a) + b), .ref 44]) (A'' := im_H g u o Y) (c'' := 0) (s'' := 0) 4 0 0 hb3 (fun n => rfl) ?_
        refine iv_chk (mi' := 91) (pc' := 41) (ls' := [.ref 40, .int a, .int b, .int (((3 : Int32) * a) + b), .retAddr 0, .retAddr 0, .retAddr 0, .retAddr 0, .retAddr 0, .retAddr 0, .retAddr 0]) (st' := [.int ((u 41) ((((3 : Int32) * a) + b)).toNatClampNeg), .int (((3 : Int32) * a) + b), .ref 44]) (A' := im_H g u o Y) (c' := 0) (s' := 0) 4 hb1 (fun n => rfl) ?_
        exact x91_r37_1_ok (u := u) (y0 := a) (y1 := b) (y2 := (((3 : Int32) * a) + b)) (y3 := ((u 41) ((((3 : Int32) * a) + b)).toNatClampNeg)) (y4 := (((3 : Int32) * a) + b)) h
      | false =>
        have h := iv_bf hb3 h
        refine iv_brf (mi' := 91) (pc' := 35) (ls' := [.ref 40, .int a, .int b, .int (((3 : Int32) * a) + b), .retAddr 0, .retAddr 0, .retAddr 0, .retAddr 0, .retAddr 0, .retAddr 0, .retAddr 0]) (st' := [.int (((3 : Int32) * a) + b), .ref 44]) (A' := im_H g u o Y) (c' := 0) (s' := 0) (mi'' := 91) (pc'' := 28) (ls'' := [.ref 40, .int a, .int b, .int (((3 : Int32) * a) + b), .retAddr 0, .retAddr 0, .retAddr 0, .retAddr 0, .retAddr 0, .retAddr 0, .retAddr 0]) (st'' := [.int (((3 : Int32) * a) + b), .ref 44]) (A'' := im_H g u o Y) (c'' := 0) (s'' := 0) 4 0 0 hb3 (fun n => rfl) ?_
        refine iv_blk (mi' := 91) (pc' := 41) (ls' := [.ref 40, .int a, .int b, .int (((3 : Int32) * a) + b), .retAddr 0, .retAddr 0, .retAddr 0, .retAddr 0, .retAddr 0, .retAddr 0, .retAddr 0]) (st' := [.int (u 37 2), .int (((3 : Int32) * a) + b), .ref 44]) (A' := im_H g u o Y) (c' := 0) (s' := 0) 3 (fun n => rfl) ?_
        exact x91_r37_1_ok (u := u) (y0 := a) (y1 := b) (y2 := (((3 : Int32) * a) + b)) (y3 := (u 37 2)) (y4 := (((3 : Int32) * a) + b)) h
