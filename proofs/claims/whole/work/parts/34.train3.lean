/-! receiveFrames (printed by wip/gen/lay1.py) -/
def x24_r0_r29_4 (g : im_M) (y0 : Int32) (y1 : Int32) : Option (Int32 × im_M) :=
  some (0, g)
set_option maxRecDepth 100000 in
set_option maxHeartbeats 4000000 in
theorem x24_r0_r29_4_ok {L : Nat} {xs : Nat → Int32} {g u mm : im_M} {o : Nat → Int64} {Y : iv_A} {y0 y1 ret : Int32} (h : x24_r0_r29_4 g y0 y1 = some (ret, mm)) : iv_ev (iv_Xs L xs) 24 85 [.ref 3, .ref 32, .int y0, .int (3 : Int32), .int y1] [] (im_H g u o Y) 0 0 (.inl none, im_H mm u o Y) := by
  unfold x24_r0_r29_4 at h
  cases h
  exact iv_ret 6 (fun n => rfl)
def x24_r0_r29_3 (g : im_M) (y0 : Int32) (y1 : Int32) : Option (Int32 × im_M) :=
  Option.bind (x25_r5_3_0 g ) (fun q13 =>
    Option.bind (x26 q13.2 q13.1 y0) (fun q14 =>
      bif Op.ifCond.holds .eq q14.1 then
        (Option.bind (x15_r1 (im_w (im_w q14.2 30 3 (7 : Int32)) 0 7 ((q14.2 0 7) + (1 : Int32))) (5 : Int32) (0 : Int32) (3 : Int32)) (fun q15 =>
          x24_r0_r29_4 q15.2 y0 q13.1))
      else
        (Option.bind (x27 q14.2 q13.1) (fun q16 =>
          x24_r0_r29_4 (im_w q16.2 30 3 q16.1) y0 q13.1))))
set_option maxRecDepth 100000 in
set_option maxHeartbeats 4000000 in
theorem x24_r0_r29_3_ok {L : Nat} {xs : Nat → Int32} {g u mm : im_M} {o : Nat → Int64} {Y : iv_A} {y0 y1 ret : Int32} (h : x24_r0_r29_3 g y0 y1 = some (ret, mm)) : iv_ev (iv_Xs L xs) 24 85 [.ref 3, .ref 32, .int y0, .int (2 : Int32), .int y1] [] (im_H g u o Y) 0 0 (.inl none, im_H mm u o Y) := by
  unfold x24_r0_r29_3 at h
  obtain ⟨v13, g13, hc, h⟩ := iv_bd h
  refine iv_cal (mi' := 24) (pc' := 26) (ls' := [.ref 3, .ref 32, .int y0, .int (3 : Int32), .int y1]) (rest := []) (A' := im_H g u o Y) (c' := 0) (s' := 0) (as := [.ref 8, .int (3 : Int32), .int (0 : Int32)]) (v := some (.int v13)) (A'' := im_H g13 u o Y) 11 25 (fun n => rfl) rfl (x25_r5_3_0_ok (g := g)  hc) ?_
  show iv_ev (iv_Xs L xs) 24 29 [.ref 3, .ref 32, .int y0, .int (3 : Int32), .int y1] [.int v13] (im_H g13 u o Y) 0 0 _
  obtain ⟨v14, g14, hc, h⟩ := iv_bd h
  refine iv_cal (mi' := 24) (pc' := 34) (ls' := [.ref 3, .ref 32, .int y0, .int (3 : Int32), .int v13]) (rest := []) (A' := im_H g13 u o Y) (c' := 0) (s' := 0) (as := [.int v13, .int y0]) (v := some (.int v14)) (A'' := im_H g14 u o Y) 4 26 (fun n => rfl) rfl (x26_ok (g := g13) (a := v13) (b := y0) hc) ?_
  show iv_ev (iv_Xs L xs) 24 37 [.ref 3, .ref 32, .int y0, .int (3 : Int32), .int v13] [.int v14] (im_H g14 u o Y) 0 0 _
  cases hb4 : Op.ifCond.holds .eq v14 with
  | true =>
    have h := iv_bt hb4 h
    refine iv_brt (mi' := 24) (pc' := 54) (ls' := [.ref 3, .ref 32, .int y0, .int (3 : Int32), .int v13]) (st' := []) (A' := im_H g14 u o Y) (c' := 0) (s' := 0) (mi'' := 24) (pc'' := 40) (ls'' := [.ref 3, .ref 32, .int y0, .int (3 : Int32), .int v13]) (st'' := []) (A'' := im_H g14 u o Y) (c'' := 0) (s'' := 0) 1 0 0 hb4 (fun n => rfl) ?_
    refine iv_blk (mi' := 24) (pc' := 62) (ls' := [.ref 3, .ref 32, .int y0, .int (3 : Int32), .int v13]) (st' := []) (A' := List.set (im_H g14 u o Y) 30 (.inl (0, 4, .inl (upd (g14 30) 3 (7 : Int32))))) (c' := 0) (s' := 0) 5 (fun n => rfl) ?_
    rw [im_a30]
    refine iv_blk (mi' := 24) (pc' := 72) (ls' := [.ref 3, .ref 32, .int y0, .int (3 : Int32), .int v13]) (st' := []) (A' := List.set (im_H (im_w g14 30 3 (7 : Int32)) u o Y) 0 (.inr (5, List.set [.int ((im_w g14 30 3 (7 : Int32)) 0 0), .ref 4, .ref 6, .ref 7, .ref 8, .ref 11, .int ((im_w g14 30 3 (7 : Int32)) 0 6), .int ((im_w g14 30 3 (7 : Int32)) 0 7)] 7 (.int ((g14 0 7) + (1 : Int32)))))) (c' := 0) (s' := 0) 6 (fun n => rfl) ?_
    rw [im_f0_7]
    obtain ⟨v15, g15, hc, h⟩ := iv_bd h
    refine iv_cal (mi' := 24) (pc' := 82) (ls' := [.ref 3, .ref 32, .int y0, .int (3 : Int32), .int v13]) (rest := []) (A' := im_H (im_w (im_w g14 30 3 (7 : Int32)) 0 7 ((g14 0 7) + (1 : Int32))) u o Y) (c' := 0) (s' := 0) (as := [.ref 4, .int (5 : Int32), .int (0 : Int32), .int (3 : Int32)]) (v := none) (A'' := im_H g15 u o Y) 7 15 (fun n => rfl) rfl (x15_r1_ok (g := (im_w (im_w g14 30 3 (7 : Int32)) 0 7 ((g14 0 7) + (1 : Int32)))) (a := (5 : Int32)) (b := (0 : Int32)) (c := (3 : Int32)) hc) ?_
    show iv_ev (iv_Xs L xs) 24 85 [.ref 3, .ref 32, .int y0, .int (3 : Int32), .int v13] [] (im_H g15 u o Y) 0 0 _
    exact x24_r0_r29_4_ok (g := g15) (y0 := y0) (y1 := v13) h
  | false =>
    have h := iv_bf hb4 h
    refine iv_brf (mi' := 24) (pc' := 54) (ls' := [.ref 3, .ref 32, .int y0, .int (3 : Int32), .int v13]) (st' := []) (A' := im_H g14 u o Y) (c' := 0) (s' := 0) (mi'' := 24) (pc'' := 40) (ls'' := [.ref 3, .ref 32, .int y0, .int (3 : Int32), .int v13]) (st'' := []) (A'' := im_H g14 u o Y) (c'' := 0) (s'' := 0) 1 0 0 hb4 (fun n => rfl) ?_
    obtain ⟨v16, g16, hc, h⟩ := iv_bd h
    refine iv_cal (mi' := 24) (pc' := 47) (ls' := [.ref 3, .ref 32, .int y0, .int (3 : Int32), .int v13]) (rest := [.int (3 : Int32), .ref 33]) (A' := im_H g14 u o Y) (c' := 0) (s' := 0) (as := [.int v13]) (v := some (.int v16)) (A'' := im_H g16 u o Y) 5 27 (fun n => rfl) rfl (x27_ok (g := g14) (a := v13) hc) ?_
    show iv_ev (iv_Xs L xs) 24 50 [.ref 3, .ref 32, .int y0, .int (3 : Int32), .int v13] [.int v16, .int (3 : Int32), .ref 33] (im_H g16 u o Y) 0 0 _
    refine iv_blk (mi' := 24) (pc' := 51) (ls' := [.ref 3, .ref 32, .int y0, .int (3 : Int32), .int v13]) (st' := []) (A' := List.set (im_H g16 u o Y) 30 (.inl (0, 4, .inl (upd (g16 30) 3 v16)))) (c' := 0) (s' := 0) 1 (fun n => rfl) ?_
    rw [im_a30]
    refine iv_blk (mi' := 24) (pc' := 85) (ls' := [.ref 3, .ref 32, .int y0, .int (3 : Int32), .int v13]) (st' := []) (A' := im_H (im_w g16 30 3 v16) u o Y) (c' := 0) (s' := 0) 1 (fun n => rfl) ?_
    exact x24_r0_r29_4_ok (g := (im_w g16 30 3 v16)) (y0 := y0) (y1 := v13) h
def x24_r0_r29_2 (g : im_M) (y0 : Int32) (y1 : Int32) : Option (Int32 × im_M) :=
  Option.bind (x25_r5_2_0 g ) (fun q9 =>
    Option.bind (x26 q9.2 q9.1 y0) (fun q10 =>
      bif Op.ifCond.holds .eq q10.1 then
        (Option.bind (x15_r1 (im_w (im_w q10.2 30 2 (7 : Int32)) 0 7 ((q10.2 0 7) + (1 : Int32))) (5 : Int32) (0 : Int32) (2 : Int32)) (fun q11 =>
          x24_r0_r29_3 q11.2 y0 q9.1))
      else
        (Option.bind (x27 q10.2 q9.1) (fun q12 =>
          x24_r0_r29_3 (im_w q12.2 30 2 q12.1) y0 q9.1))))
set_option maxRecDepth 100000 in
set_option maxHeartbeats 4000000 in
theorem x24_r0_r29_2_ok {L : Nat} {xs : Nat → Int32} {g u mm : im_M} {o : Nat → Int64} {Y : iv_A} {y0 y1 ret : Int32} (h : x24_r0_r29_2 g y0 y1 = some (ret, mm)) : iv_ev (iv_Xs L xs) 24 85 [.ref 3, .ref 32, .int y0, .int (1 : Int32), .int y1] [] (im_H g u o Y) 0 0 (.inl none, im_H mm u o Y) := by
  unfold x24_r0_r29_2 at h
  obtain ⟨v9, g9, hc, h⟩ := iv_bd h
  refine iv_cal (mi' := 24) (pc' := 26) (ls' := [.ref 3, .ref 32, .int y0, .int (2 : Int32), .int y1]) (rest := []) (A' := im_H g u o Y) (c' := 0) (s' := 0) (as := [.ref 8, .int (2 : Int32), .int (0 : Int32)]) (v := some (.int v9)) (A'' := im_H g9 u o Y) 11 25 (fun n => rfl) rfl (x25_r5_2_0_ok (g := g)  hc) ?_
  show iv_ev (iv_Xs L xs) 24 29 [.ref 3, .ref 32, .int y0, .int (2 : Int32), .int y1] [.int v9] (im_H g9 u o Y) 0 0 _
  obtain ⟨v10, g10, hc, h⟩ := iv_bd h
  refine iv_cal (mi' := 24) (pc' := 34) (ls' := [.ref 3, .ref 32, .int y0, .int (2 : Int32), .int v9]) (rest := []) (A' := im_H g9 u o Y) (c' := 0) (s' := 0) (as := [.int v9, .int y0]) (v := some (.int v10)) (A'' := im_H g10 u o Y) 4 26 (fun n => rfl) rfl (x26_ok (g := g9) (a := v9) (b := y0) hc) ?_
  show iv_ev (iv_Xs L xs) 24 37 [.ref 3, .ref 32, .int y0, .int (2 : Int32), .int v9] [.int v10] (im_H g10 u o Y) 0 0 _
  cases hb3 : Op.ifCond.holds .eq v10 with
  | true =>
    have h := iv_bt hb3 h
    refine iv_brt (mi' := 24) (pc' := 54) (ls' := [.ref 3, .ref 32, .int y0, .int (2 : Int32), .int v9]) (st' := []) (A' := im_H g10 u o Y) (c' := 0) (s' := 0) (mi'' := 24) (pc'' := 40) (ls'' := [.ref 3, .ref 32, .int y0, .int (2 : Int32), .int v9]) (st'' := []) (A'' := im_H g10 u o Y) (c'' := 0) (s'' := 0) 1 0 0 hb3 (fun n => rfl) ?_
    refine iv_blk (mi' := 24) (pc' := 62) (ls' := [.ref 3, .ref 32, .int y0, .int (2 : Int32), .int v9]) (st' := []) (A' := List.set (im_H g10 u o Y) 30 (.inl (0, 4, .inl (upd (g10 30) 2 (7 : Int32))))) (c' := 0) (s' := 0) 5 (fun n => rfl) ?_
    rw [im_a30]
    refine iv_blk (mi' := 24) (pc' := 72) (ls' := [.ref 3, .ref 32, .int y0, .int (2 : Int32), .int v9]) (st' := []) (A' := List.set (im_H (im_w g10 30 2 (7 : Int32)) u o Y) 0 (.inr (5, List.set [.int ((im_w g10 30 2 (7 : Int32)) 0 0), .ref 4, .ref 6, .ref 7, .ref 8, .ref 11, .int ((im_w g10 30 2 (7 : Int32)) 0 6), .int ((im_w g10 30 2 (7 : Int32)) 0 7)] 7 (.int ((g10 0 7) + (1 : Int32)))))) (c' := 0) (s' := 0) 6 (fun n => rfl) ?_
    rw [im_f0_7]
    obtain ⟨v11, g11, hc, h⟩ := iv_bd h
    refine iv_cal (mi' := 24) (pc' := 82) (ls' := [.ref 3, .ref 32, .int y0, .int (2 : Int32), .int v9]) (rest := []) (A' := im_H (im_w (im_w g10 30 2 (7 : Int32)) 0 7 ((g10 0 7) + (1 : Int32))) u o Y) (c' := 0) (s' := 0) (as := [.ref 4, .int (5 : Int32), .int (0 : Int32), .int (2 : Int32)]) (v := none) (A'' := im_H g11 u o Y) 7 15 (fun n => rfl) rfl (x15_r1_ok (g := (im_w (im_w g10 30 2 (7 : Int32)) 0 7 ((g10 0 7) + (1 : Int32)))) (a := (5 : Int32)) (b := (0 : Int32)) (c := (2 : Int32)) hc) ?_
    show iv_ev (iv_Xs L xs) 24 85 [.ref 3, .ref 32, .int y0, .int (2 : Int32), .int v9] [] (im_H g11 u o Y) 0 0 _
    exact x24_r0_r29_3_ok (g := g11) (y0 := y0) (y1 := v9) h
  | false =>
    have h := iv_bf hb3 h
    refine iv_brf (mi' := 24) (pc' := 54) (ls' := [.ref 3, .ref 32, .int y0, .int (2 : Int32), .int v9]) (st' := []) (A' := im_H g10 u o Y) (c' := 0) (s' := 0) (mi'' := 24) (pc'' := 40) (ls'' := [.ref 3, .ref 32, .int y0, .int (2 : Int32), .int v9]) (st'' := []) (A'' := im_H g10 u o Y) (c'' := 0) (s'' := 0) 1 0 0 hb3 (fun n => rfl) ?_
    obtain ⟨v12, g12, hc, h⟩ := iv_bd h
    refine iv_cal (mi' := 24) (pc' := 47) (ls' := [.ref 3, .ref 32, .int y0, .int (2 : Int32), .int v9]) (rest := [.int (2 : Int32), .ref 33]) (A' := im_H g10 u o Y) (c' := 0) (s' := 0) (as := [.int v9]) (v := some (.int v12)) (A'' := im_H g12 u o Y) 5 27 (fun n => rfl) rfl (x27_ok (g := g10) (a := v9) hc) ?_
    show iv_ev (iv_Xs L xs) 24 50 [.ref 3, .ref 32, .int y0, .int (2 : Int32), .int v9] [.int v12, .int (2 : Int32), .ref 33] (im_H g12 u o Y) 0 0 _
    refine iv_blk (mi' := 24) (pc' := 51) (ls' := [.ref 3, .ref 32, .int y0, .int (2 : Int32), .int v9]) (st' := []) (A' := List.set (im_H g12 u o Y) 30 (.inl (0, 4, .inl (upd (g12 30) 2 v12)))) (c' := 0) (s' := 0) 1 (fun n => rfl) ?_
    rw [im_a30]
    refine iv_blk (mi' := 24) (pc' := 85) (ls' := [.ref 3, .ref 32, .int y0, .int (2 : Int32), .int v9]) (st' := []) (A' := im_H (im_w g12 30 2 v12) u o Y) (c' := 0) (s' := 0) 1 (fun n => rfl) ?_
    exact x24_r0_r29_3_ok (g := (im_w g12 30 2 v12)) (y0 := y0) (y1 := v9) h
def x24_r0_r29_1 (g : im_M) (y0 : Int32) (y1 : Int32) : Option (Int32 × im_M) :=
  Option.bind (x25_r5_1_0 g ) (fun q5 =>
    Option.bind (x26 q5.2 q5.1 y0) (fun q6 =>
      bif Op.ifCond.holds .eq q6.1 then
        (Option.bind (x15_r1 (im_w (im_w q6.2 30 1 (7 : Int32)) 0 7 ((q6.2 0 7) + (1 : Int32))) (5 : Int32) (0 : Int32) (1 : Int32)) (fun q7 =>
          x24_r0_r29_2 q7.2 y0 q5.1))
      else
        (Option.bind (x27 q6.2 q5.1) (fun q8 =>
          x24_r0_r29_2 (im_w q8.2 30 1 q8.1) y0 q5.1))))
set_option maxRecDepth 100000 in
set_option maxHeartbeats 4000000 in
theorem x24_r0_r29_1_ok {L : Nat} {xs : Nat → Int32} {g u mm : im_M} {o : Nat → Int64} {Y : iv_A} {y0 y1 ret : Int32} (h : x24_r0_r29_1 g y0 y1 = some (ret, mm)) : iv_ev (iv_Xs L xs) 24 85 [.ref 3, .ref 32, .int y0, .int (0 : Int32), .int y1] [] (im_H g u o Y) 0 0 (.inl none, im_H mm u o Y) := by
  unfold x24_r0_r29_1 at h
  obtain ⟨v5, g5, hc, h⟩ := iv_bd h
  refine iv_cal (mi' := 24) (pc' := 26) (ls' := [.ref 3, .ref 32, .int y0, .int (1 : Int32), .int y1]) (rest := []) (A' := im_H g u o Y) (c' := 0) (s' := 0) (as := [.ref 8, .int (1 : Int32), .int (0 : Int32)]) (v := some (.int v5)) (A'' := im_H g5 u o Y) 11 25 (fun n => rfl) rfl (x25_r5_1_0_ok (g := g)  hc) ?_
  show iv_ev (iv_Xs L xs) 24 29 [.ref 3, .ref 32, .int y0, .int (1 : Int32), .int y1] [.int v5] (im_H g5 u o Y) 0 0 _
  obtain ⟨v6, g6, hc, h⟩ := iv_bd h
  refine iv_cal (mi' := 24) (pc' := 34) (ls' := [.ref 3, .ref 32, .int y0, .int (1 : Int32), .int v5]) (rest := []) (A' := im_H g5 u o Y) (c' := 0) (s' := 0) (as := [.int v5, .int y0]) (v := some (.int v6)) (A'' := im_H g6 u o Y) 4 26 (fun n => rfl) rfl (x26_ok (g := g5) (a := v5) (b := y0) hc) ?_
  show iv_ev (iv_Xs L xs) 24 37 [.ref 3, .ref 32, .int y0, .int (1 : Int32), .int v5] [.int v6] (im_H g6 u o Y) 0 0 _
  cases hb2 : Op.ifCond.holds .eq v6 with
  | true =>
    have h := iv_bt hb2 h
    refine iv_brt (mi' := 24) (pc' := 54) (ls' := [.ref 3, .ref 32, .int y0, .int (1 : Int32), .int v5]) (st' := []) (A' := im_H g6 u o Y) (c' := 0) (s' := 0) (mi'' := 24) (pc'' := 40) (ls'' := [.ref 3, .ref 32, .int y0, .int (1 : Int32), .int v5]) (st'' := []) (A'' := im_H g6 u o Y) (c'' := 0) (s'' := 0) 1 0 0 hb2 (fun n => rfl) ?_
    refine iv_blk (mi' := 24) (pc' := 62) (ls' := [.ref 3, .ref 32, .int y0, .int (1 : Int32), .int v5]) (st' := []) (A' := List.set (im_H g6 u o Y) 30 (.inl (0, 4, .inl (upd (g6 30) 1 (7 : Int32))))) (c' := 0) (s' := 0) 5 (fun n => rfl) ?_
    rw [im_a30]
    refine iv_blk (mi' := 24) (pc' := 72) (ls' := [.ref 3, .ref 32, .int y0, .int (1 : Int32), .int v5]) (st' := []) (A' := List.set (im_H (im_w g6 30 1 (7 : Int32)) u o Y) 0 (.inr (5, List.set [.int ((im_w g6 30 1 (7 : Int32)) 0 0), .ref 4, .ref 6, .ref 7, .ref 8, .ref 11, .int ((im_w g6 30 1 (7 : Int32)) 0 6), .int ((im_w g6 30 1 (7 : Int32)) 0 7)] 7 (.int ((g6 0 7) + (1 : Int32)))))) (c' := 0) (s' := 0) 6 (fun n => rfl) ?_
    rw [im_f0_7]
    obtain ⟨v7, g7, hc, h⟩ := iv_bd h
    refine iv_cal (mi' := 24) (pc' := 82) (ls' := [.ref 3, .ref 32, .int y0, .int (1 : Int32), .int v5]) (rest := []) (A' := im_H (im_w (im_w g6 30 1 (7 : Int32)) 0 7 ((g6 0 7) + (1 : Int32))) u o Y) (c' := 0) (s' := 0) (as := [.ref 4, .int (5 : Int32), .int (0 : Int32), .int (1 : Int32)]) (v := none) (A'' := im_H g7 u o Y) 7 15 (fun n => rfl) rfl (x15_r1_ok (g := (im_w (im_w g6 30 1 (7 : Int32)) 0 7 ((g6 0 7) + (1 : Int32)))) (a := (5 : Int32)) (b := (0 : Int32)) (c := (1 : Int32)) hc) ?_
    show iv_ev (iv_Xs L xs) 24 85 [.ref 3, .ref 32, .int y0, .int (1 : Int32), .int v5] [] (im_H g7 u o Y) 0 0 _
    exact x24_r0_r29_2_ok (g := g7) (y0 := y0) (y1 := v5) h
  | false =>
    have h := iv_bf hb2 h
    refine iv_brf (mi' := 24) (pc' := 54) (ls' := [.ref 3, .ref 32, .int y0, .int (1 : Int32), .int v5]) (st' := []) (A' := im_H g6 u o Y) (c' := 0) (s' := 0) (mi'' := 24) (pc'' := 40) (ls'' := [.ref 3, .ref 32, .int y0, .int (1 : Int32), .int v5]) (st'' := []) (A'' := im_H g6 u o Y) (c'' := 0) (s'' := 0) 1 0 0 hb2 (fun n => rfl) ?_
    obtain ⟨v8, g8, hc, h⟩ := iv_bd h
    refine iv_cal (mi' := 24) (pc' := 47) (ls' := [.ref 3, .ref 32, .int y0, .int (1 : Int32), .int v5]) (rest := [.int (1 : Int32), .ref 33]) (A' := im_H g6 u o Y) (c' := 0) (s' := 0) (as := [.int v5]) (v := some (.int v8)) (A'' := im_H g8 u o Y) 5 27 (fun n => rfl) rfl (x27_ok (g := g6) (a := v5) hc) ?_
    show iv_ev (iv_Xs L xs) 24 50 [.ref 3, .ref 32, .int y0, .int (1 : Int32), .int v5] [.int v8, .int (1 : Int32), .ref 33] (im_H g8 u o Y) 0 0 _
    refine iv_blk (mi' := 24) (pc' := 51) (ls' := [.ref 3, .ref 32, .int y0, .int (1 : Int32), .int v5]) (st' := []) (A' := List.set (im_H g8 u o Y) 30 (.inl (0, 4, .inl (upd (g8 30) 1 v8)))) (c' := 0) (s' := 0) 1 (fun n => rfl) ?_
    rw [im_a30]
    refine iv_blk (mi' := 24) (pc' := 85) (ls' := [.ref 3, .ref 32, .int y0, .int (1 : Int32), .int v5]) (st' := []) (A' := im_H (im_w g8 30 1 v8) u o Y) (c' := 0) (s' := 0) 1 (fun n => rfl) ?_
    exact x24_r0_r29_2_ok (g := (im_w g8 30 1 v8)) (y0 := y0) (y1 := v5) h
def x24_r0_r29 (g : im_M) : Option (Int32 × im_M) :=
  Option.bind (x25_r5_0_0 g ) (fun q1 =>
    Option.bind (x26 q1.2 q1.1 ((g 1 1) - (1 : Int32))) (fun q2 =>
      bif Op.ifCond.holds .eq q2.1 then
        (Option.bind (x15_r1 (im_w (im_w q2.2 30 0 (7 : Int32)) 0 7 ((q2.2 0 7) + (1 : Int32))) (5 : Int32) (0 : Int32) (0 : Int32)) (fun q3 =>
          x24_r0_r29_1 q3.2 ((g 1 1) - (1 : Int32)) q1.1))
      else
        (Option.bind (x27 q2.2 q1.1) (fun q4 =>
          x24_r0_r29_1 (im_w q4.2 30 0 q4.1) ((g 1 1) - (1 : Int32)) q1.1))))
set_option maxRecDepth 100000 in
set_option maxHeartbeats 4000000 in
theorem x24_r0_r29_ok {L : Nat} {xs : Nat → Int32} {g u mm : im_M} {o : Nat → Int64} {Y : iv_A} {ret : Int32} (h : x24_r0_r29 g  = some (ret, mm)) : iv_ev (iv_Xs L xs) 24 0 [.ref 3, .ref 32, .retAddr 0, .retAddr 0, .retAddr 0] [] (im_H g u o Y) 0 0 (.inl none, im_H mm u o Y) := by
  unfold x24_r0_r29 at h
  obtain ⟨v1, g1, hc, h⟩ := iv_bd h
  refine iv_cal (mi' := 24) (pc' := 26) (ls' := [.ref 3, .ref 32, .int ((g 1 1) - (1 : Int32)), .int (0 : Int32), .retAddr 0]) (rest := []) (A' := im_H g u o Y) (c' := 0) (s' := 0) (as := [.ref 8, .int (0 : Int32), .int (0 : Int32)]) (v := some (.int v1)) (A'' := im_H g1 u o Y) 17 25 (fun n => rfl) rfl (x25_r5_0_0_ok (g := g)  hc) ?_
  show iv_ev (iv_Xs L xs) 24 29 [.ref 3, .ref 32, .int ((g 1 1) - (1 : Int32)), .int (0 : Int32), .retAddr 0] [.int v1] (im_H g1 u o Y) 0 0 _
  obtain ⟨v2, g2, hc, h⟩ := iv_bd h
  refine iv_cal (mi' := 24) (pc' := 34) (ls' := [.ref 3, .ref 32, .int ((g 1 1) - (1 : Int32)), .int (0 : Int32), .int v1]) (rest := []) (A' := im_H g1 u o Y) (c' := 0) (s' := 0) (as := [.int v1, .int ((g 1 1) - (1 : Int32))]) (v := some (.int v2)) (A'' := im_H g2 u o Y) 4 26 (fun n => rfl) rfl (x26_ok (g := g1) (a := v1) (b := ((g 1 1) - (1 : Int32))) hc) ?_
  show iv_ev (iv_Xs L xs) 24 37 [.ref 3, .ref 32, .int ((g 1 1) - (1 : Int32)), .int (0 : Int32), .int v1] [.int v2] (im_H g2 u o Y) 0 0 _
  cases hb1 : Op.ifCond.holds .eq v2 with
  | true =>
    have h := iv_bt hb1 h
    refine iv_brt (mi' := 24) (pc' := 54) (ls' := [.ref 3, .ref 32, .int ((g 1 1) - (1 : Int32)), .int (0 : Int32), .int v1]) (st' := []) (A' := im_H g2 u o Y) (c' := 0) (s' := 0) (mi'' := 24) (pc'' := 40) (ls'' := [.ref 3, .ref 32, .int ((g 1 1) - (1 : Int32)), .int (0 : Int32), .int v1]) (st'' := []) (A'' := im_H g2 u o Y) (c'' := 0) (s'' := 0) 1 0 0 hb1 (fun n => rfl) ?_
    refine iv_blk (mi' := 24) (pc' := 62) (ls' := [.ref 3, .ref 32, .int ((g 1 1) - (1 : Int32)), .int (0 : Int32), .int v1]) (st' := []) (A' := List.set (im_H g2 u o Y) 30 (.inl (0, 4, .inl (upd (g2 30) 0 (7 : Int32))))) (c' := 0) (s' := 0) 5 (fun n => rfl) ?_
    rw [im_a30]
    refine iv_blk (mi' := 24) (pc' := 72) (ls' := [.ref 3, .ref 32, .int ((g 1 1) - (1 : Int32)), .int (0 : Int32), .int v1]) (st' := []) (A' := List.set (im_H (im_w g2 30 0 (7 : Int32)) u o Y) 0 (.inr (5, List.set [.int ((im_w g2 30 0 (7 : Int32)) 0 0), .ref 4, .ref 6, .ref 7, .ref 8, .ref 11, .int ((im_w g2 30 0 (7 : Int32)) 0 6), .int ((im_w g2 30 0 (7 : Int32)) 0 7)] 7 (.int ((g2 0 7) + (1 : Int32)))))) (c' := 0) (s' := 0) 6 (fun n => rfl) ?_
    rw [im_f0_7]
    obtain ⟨v3, g3, hc, h⟩ := iv_bd h
    refine iv_cal (mi' := 24) (pc' := 82) (ls' := [.ref 3, .ref 32, .int ((g 1 1) - (1 : Int32)), .int (0 : Int32), .int v1]) (rest := []) (A' := im_H (im_w (im_w g2 30 0 (7 : Int32)) 0 7 ((g2 0 7) + (1 : Int32))) u o Y) (c' := 0) (s' := 0) (as := [.ref 4, .int (5 : Int32), .int (0 : Int32), .int (0 : Int32)]) (v := none) (A'' := im_H g3 u o Y) 7 15 (fun n => rfl) rfl (x15_r1_ok (g := (im_w (im_w g2 30 0 (7 : Int32)) 0 7 ((g2 0 7) + (1 : Int32)))) (a := (5 : Int32)) (b := (0 : Int32)) (c := (0 : Int32)) hc) ?_
    show iv_ev (iv_Xs L xs) 24 85 [.ref 3, .ref 32, .int ((g 1 1) - (1 : Int32)), .int (0 : Int32), .int v1] [] (im_H g3 u o Y) 0 0 _
    exact x24_r0_r29_1_ok (g := g3) (y0 := ((g 1 1) - (1 : Int32))) (y1 := v1) h
  | false =>
    have h := iv_bf hb1 h
    refine iv_brf (mi' := 24) (pc' := 54) (ls' := [.ref 3, .ref 32, .int ((g 1 1) - (1 : Int32)), .int (0 : Int32), .int v1]) (st' := []) (A' := im_H g2 u o Y) (c' := 0) (s' := 0) (mi'' := 24) (pc'' := 40) (ls'' := [.ref 3, .ref 32, .int ((g 1 1) - (1 : Int32)), .int (0 : Int32), .int v1]) (st'' := []) (A'' := im_H g2 u o Y) (c'' := 0) (s'' := 0) 1 0 0 hb1 (fun n => rfl) ?_
    obtain ⟨v4, g4, hc, h⟩ := iv_bd h
    refine iv_cal (mi' := 24) (pc' := 47) (ls' := [.ref 3, .ref 32, .int ((g 1 1) - (1 : Int32)), .int (0 : Int32), .int v1]) (rest := [.int (0 : Int32), .ref 33]) (A' := im_H g2 u o Y) (c' := 0) (s' := 0) (as := [.int v1]) (v := some (.int v4)) (A'' := im_H g4 u o Y) 5 27 (fun n => rfl) rfl (x27_ok (g := g2) (a := v1) hc) ?_
    show iv_ev (iv_Xs L xs) 24 50 [.ref 3, .ref 32, .int ((g 1 1) - (1 : Int32)), .int (0 : Int32), .int v1] [.int v4, .int (0 : Int32), .ref 33] (im_H g4 u o Y) 0 0 _
    refine iv_blk (mi' := 24) (pc' := 51) (ls' := [.ref 3, .ref 32, .int ((g 1 1) - (1 : Int32)), .int (0 : Int32), .int v1]) (st' := []) (A' := List.set (im_H g4 u o Y) 30 (.inl (0, 4, .inl (upd (g4 30) 0 v4)))) (c' := 0) (s' := 0) 1 (fun n => rfl) ?_
    rw [im_a30]
    refine iv_blk (mi' := 24) (pc' := 85) (ls' := [.ref 3, .ref 32, .int ((g 1 1) - (1 : Int32)), .int (0 : Int32), .int v1]) (st' := []) (A' := im_H (im_w g4 30 0 v4) u o Y) (c' := 0) (s' := 0) 1 (fun n => rfl) ?_
    exact x24_r0_r29_1_ok (g := (im_w g4 30 0 v4)) (y0 := ((g 1 1) - (1 : Int32))) (y1 := v1) h
def x24_r0_r31_4 (g : im_M) (y0 : Int32) (y1 : Int32) : Option (Int32 × im_M) :=
  some (0, g)
set_option maxRecDepth 100000 in
set_option maxHeartbeats 4000000 in
theorem x24_r0_r31_4_ok {L : Nat} {xs : Nat → Int32} {g u mm : im_M} {o : Nat → Int64} {Y : iv_A} {y0 y1 ret : Int32} (h : x24_r0_r31_4 g y0 y1 = some (ret, mm)) : iv_ev (iv_Xs L xs) 24 85 [.ref 3, .ref 34, .int y0, .int (3 : Int32), .int y1] [] (im_H g u o Y) 0 0 (.inl none, im_H mm u o Y) := by
  unfold x24_r0_r31_4 at h
  cases h
  exact iv_ret 6 (fun n => rfl)
def x24_r0_r31_3 (g : im_M) (y0 : Int32) (y1 : Int32) : Option (Int32 × im_M) :=
  Option.bind (x25_r5_3_1 g ) (fun q13 =>
    Option.bind (x26 q13.2 q13.1 y0) (fun q14 =>
      bif Op.ifCond.holds .eq q14.1 then
        (Option.bind (x15_r1 (im_w (im_w q14.2 32 3 (7 : Int32)) 0 7 ((q14.2 0 7) + (1 : Int32))) (5 : Int32) (1 : Int32) (3 : Int32)) (fun q15 =>
          x24_r0_r31_4 q15.2 y0 q13.1))
      else
        (Option.bind (x27 q14.2 q13.1) (fun q16 =>
          x24_r0_r31_4 (im_w q16.2 32 3 q16.1) y0 q13.1))))
set_option maxRecDepth 100000 in
set_option maxHeartbeats 4000000 in
theorem x24_r0_r31_3_ok {L : Nat} {xs : Nat → Int32} {g u mm : im_M} {o : Nat → Int64} {Y : iv_A} {y0 y1 ret : Int32} (h : x24_r0_r31_3 g y0 y1 = some (ret, mm)) : iv_ev (iv_Xs L xs) 24 85 [.ref 3, .ref 34, .int y0, .int (2 : Int32), .int y1] [] (im_H g u o Y) 0 0 (.inl none, im_H mm u o Y) := by
  unfold x24_r0_r31_3 at h
  obtain ⟨v13, g13, hc, h⟩ := iv_bd h
  refine iv_cal (mi' := 24) (pc' := 26) (ls' := [.ref 3, .ref 34, .int y0, .int (3 : Int32), .int y1]) (rest := []) (A' := im_H g u o Y) (c' := 0) (s' := 0) (as := [.ref 8, .int (3 : Int32), .int (1 : Int32)]) (v := some (.int v13)) (A'' := im_H g13 u o Y) 11 25 (fun n => rfl) rfl (x25_r5_3_1_ok (g := g)  hc) ?_
  show iv_ev (iv_Xs L xs) 24 29 [.ref 3, .ref 34, .int y0, .int (3 : Int32), .int y1] [.int v13] (im_H g13 u o Y) 0 0 _
  obtain ⟨v14, g14, hc, h⟩ := iv_bd h
  refine iv_cal (mi' := 24) (pc' := 34) (ls' := [.ref 3, .ref 34, .int y0, .int (3 : Int32), .int v13]) (rest := []) (A' := im_H g13 u o Y) (c' := 0) (s' := 0) (as := [.int v13, .int y0]) (v := some (.int v14)) (A'' := im_H g14 u o Y) 4 26 (fun n => rfl) rfl (x26_ok (g := g13) (a := v13) (b := y0) hc) ?_
  show iv_ev (iv_Xs L xs) 24 37 [.ref 3, .ref 34, .int y0, .int (3 : Int32), .int v13] [.int v14] (im_H g14 u o Y) 0 0 _
  cases hb4 : Op.ifCond.holds .eq v14 with
  | true =>
    have h := iv_bt hb4 h
    refine iv_brt (mi' := 24) (pc' := 54) (ls' := [.ref 3, .ref 34, .int y0, .int (3 : Int32), .int v13]) (st' := []) (A' := im_H g14 u o Y) (c' := 0) (s' := 0) (mi'' := 24) (pc'' := 40) (ls'' := [.ref 3, .ref 34, .int y0, .int (3 : Int32), .int v13]) (st'' := []) (A'' := im_H g14 u o Y) (c'' := 0) (s'' := 0) 1 0 0 hb4 (fun n => rfl) ?_
    refine iv_blk (mi' := 24) (pc' := 62) (ls' := [.ref 3, .ref 34, .int y0, .int (3 : Int32), .int v13]) (st' := []) (A' := List.set (im_H g14 u o Y) 32 (.inl (0, 4, .inl (upd (g14 32) 3 (7 : Int32))))) (c' := 0) (s' := 0) 5 (fun n => rfl) ?_
    rw [im_a32]
    refine iv_blk (mi' := 24) (pc' := 72) (ls' := [.ref 3, .ref 34, .int y0, .int (3 : Int32), .int v13]) (st' := []) (A' := List.set (im_H (im_w g14 32 3 (7 : Int32)) u o Y) 0 (.inr (5, List.set [.int ((im_w g14 32 3 (7 : Int32)) 0 0), .ref 4, .ref 6, .ref 7, .ref 8, .ref 11, .int ((im_w g14 32 3 (7 : Int32)) 0 6), .int ((im_w g14 32 3 (7 : Int32)) 0 7)] 7 (.int ((g14 0 7) + (1 : Int32)))))) (c' := 0) (s' := 0) 6 (fun n => rfl) ?_
    rw [im_f0_7]
    obtain ⟨v15, g15, hc, h⟩ := iv_bd h
    refine iv_cal (mi' := 24) (pc' := 82) (ls' := [.ref 3, .ref 34, .int y0, .int (3 : Int32), .int v13]) (rest := []) (A' := im_H (im_w (im_w g14 32 3 (7 : Int32)) 0 7 ((g14 0 7) + (1 : Int32))) u o Y) (c' := 0) (s' := 0) (as := [.ref 4, .int (5 : Int32), .int (1 : Int32), .int (3 : Int32)]) (v := none) (A'' := im_H g15 u o Y) 7 15 (fun n => rfl) rfl (x15_r1_ok (g := (im_w (im_w g14 32 3 (7 : Int32)) 0 7 ((g14 0 7) + (1 : Int32)))) (a := (5 : Int32)) (b := (1 : Int32)) (c := (3 : Int32)) hc) ?_
    show iv_ev (iv_Xs L xs) 24 85 [.ref 3, .ref 34, .int y0, .int (3 : Int32), .int v13] [] (im_H g15 u o Y) 0 0 _
    exact x24_r0_r31_4_ok (g := g15) (y0 := y0) (y1 := v13) h
  | false =>
    have h := iv_bf hb4 h
    refine iv_brf (mi' := 24) (pc' := 54) (ls' := [.ref 3, .ref 34, .int y0, .int (3 : Int32), .int v13]) (st' := []) (A' := im_H g14 u o Y) (c' := 0) (s' := 0) (mi'' := 24) (pc'' := 40) (ls'' := [.ref 3, .ref 34, .int y0, .int (3 : Int32), .int v13]) (st'' := []) (A'' := im_H g14 u o Y) (c'' := 0) (s'' := 0) 1 0 0 hb4 (fun n => rfl) ?_
    obtain ⟨v16, g16, hc, h⟩ := iv_bd h
    refine iv_cal (mi' := 24) (pc' := 47) (ls' := [.ref 3, .ref 34, .int y0, .int (3 : Int32), .int v13]) (rest := [.int (3 : Int32), .ref 35]) (A' := im_H g14 u o Y) (c' := 0) (s' := 0) (as := [.int v13]) (v := some (.int v16)) (A'' := im_H g16 u o Y) 5 27 (fun n => rfl) rfl (x27_ok (g := g14) (a := v13) hc) ?_
    show iv_ev (iv_Xs L xs) 24 50 [.ref 3, .ref 34, .int y0, .int (3 : Int32), .int v13] [.int v16, .int (3 : Int32), .ref 35] (im_H g16 u o Y) 0 0 _
    refine iv_blk (mi' := 24) (pc' := 51) (ls' := [.ref 3, .ref 34, .int y0, .int (3 : Int32), .int v13]) (st' := []) (A' := List.set (im_H g16 u o Y) 32 (.inl (0, 4, .inl (upd (g16 32) 3 v16)))) (c' := 0) (s' := 0) 1 (fun n => rfl) ?_
    rw [im_a32]
    refine iv_blk (mi' := 24) (pc' := 85) (ls' := [.ref 3, .ref 34, .int y0, .int (3 : Int32), .int v13]) (st' := []) (A' := im_H (im_w g16 32 3 v16) u o Y) (c' := 0) (s' := 0) 1 (fun n => rfl) ?_
    exact x24_r0_r31_4_ok (g := (im_w g16 32 3 v16)) (y0 := y0) (y1 := v13) h
def x24_r0_r31_2 (g : im_M) (y0 : Int32) (y1 : Int32) : Option (Int32 × im_M) :=
  Option.bind (x25_r5_2_1 g ) (fun q9 =>
    Option.bind (x26 q9.2 q9.1 y0) (fun q10 =>
      bif Op.ifCond.holds .eq q10.1 then
        (Option.bind (x15_r1 (im_w (im_w q10.2 32 2 (7 : Int32)) 0 7 ((q10.2 0 7) + (1 : Int32))) (5 : Int32) (1 : Int32) (2 : Int32)) (fun q11 =>
          x24_r0_r31_3 q11.2 y0 q9.1))
      else
        (Option.bind (x27 q10.2 q9.1) (fun q12 =>
          x24_r0_r31_3 (im_w q12.2 32 2 q12.1) y0 q9.1))))
set_option maxRecDepth 100000 in
set_option maxHeartbeats 4000000 in
theorem x24_r0_r31_2_ok {L : Nat} {xs : Nat → Int32} {g u mm : im_M} {o : Nat → Int64} {Y : iv_A} {y0 y1 ret : Int32} (h : x24_r0_r31_2 g y0 y1 = some (ret, mm)) : iv_ev (iv_Xs L xs) 24 85 [.ref 3, .ref 34, .int y0, .int (1 : Int32), .int y1] [] (im_H g u o Y) 0 0 (.inl none, im_H mm u o Y) := by
  unfold x24_r0_r31_2 at h
  obtain ⟨v9, g9, hc, h⟩ := iv_bd h
  refine iv_cal (mi' := 24) (pc' := 26) (ls' := [.ref 3, .ref 34, .int y0, .int (2 : Int32), .int y1]) (rest := []) (A' := im_H g u o Y) (c' := 0) (s' := 0) (as := [.ref 8, .int (2 : Int32), .int (1 : Int32)]) (v := some (.int v9)) (A'' := im_H g9 u o Y) 11 25 (fun n => rfl) rfl (x25_r5_2_1_ok (g := g)  hc) ?_
  show iv_ev (iv_Xs L xs) 24 29 [.ref 3, .ref 34, .int y0, .int (2 : Int32), .int y1] [.int v9] (im_H g9 u o Y) 0 0 _
  obtain ⟨v10, g10, hc, h⟩ := iv_bd h
  refine iv_cal (mi' := 24) (pc' := 34) (ls' := [.ref 3, .ref 34, .int y0, .int (2 : Int32), .int v9]) (rest := []) (A' := im_H g9 u o Y) (c' := 0) (s' := 0) (as := [.int v9, .int y0]) (v := some (.int v10)) (A'' := im_H g10 u o Y) 4 26 (fun n => rfl) rfl (x26_ok (g := g9) (a := v9) (b := y0) hc) ?_
  show iv_ev (iv_Xs L xs) 24 37 [.ref 3, .ref 34, .int y0, .int (2 : Int32), .int v9] [.int v10] (im_H g10 u o Y) 0 0 _
  cases hb3 : Op.ifCond.holds .eq v10 with
  | true =>
    have h := iv_bt hb3 h
    refine iv_brt (mi' := 24) (pc' := 54) (ls' := [.ref 3, .ref 34, .int y0, .int (2 : Int32), .int v9]) (st' := []) (A' := im_H g10 u o Y) (c' := 0) (s' := 0) (mi'' := 24) (pc'' := 40) (ls'' := [.ref 3, .ref 34, .int y0, .int (2 : Int32), .int v9]) (st'' := []) (A'' := im_H g10 u o Y) (c'' := 0) (s'' := 0) 1 0 0 hb3 (fun n => rfl) ?_
    refine iv_blk (mi' := 24) (pc' := 62) (ls' := [.ref 3, .ref 34, .int y0, .int (2 : Int32), .int v9]) (st' := []) (A' := List.set (im_H g10 u o Y) 32 (.inl (0, 4, .inl (upd (g10 32) 2 (7 : Int32))))) (c' := 0) (s' := 0) 5 (fun n => rfl) ?_
    rw [im_a32]
    refine iv_blk (mi' := 24) (pc' := 72) (ls' := [.ref 3, .ref 34, .int y0, .int (2 : Int32), .int v9]) (st' := []) (A' := List.set (im_H (im_w g10 32 2 (7 : Int32)) u o Y) 0 (.inr (5, List.set [.int ((im_w g10 32 2 (7 : Int32)) 0 0), .ref 4, .ref 6, .ref 7, .ref 8, .ref 11, .int ((im_w g10 32 2 (7 : Int32)) 0 6), .int ((im_w g10 32 2 (7 : Int32)) 0 7)] 7 (.int ((g10 0 7) + (1 : Int32)))))) (c' := 0) (s' := 0) 6 (fun n => rfl) ?_
    rw [im_f0_7]
    obtain ⟨v11, g11, hc, h⟩ := iv_bd h
    refine iv_cal (mi' := 24) (pc' := 82) (ls' := [.ref 3, .ref 34, .int y0, .int (2 : Int32), .int v9]) (rest := []) (A' := im_H (im_w (im_w g10 32 2 (7 : Int32)) 0 7 ((g10 0 7) + (1 : Int32))) u o Y) (c' := 0) (s' := 0) (as := [.ref 4, .int (5 : Int32), .int (1 : Int32), .int (2 : Int32)]) (v := none) (A'' := im_H g11 u o Y) 7 15 (fun n => rfl) rfl (x15_r1_ok (g := (im_w (im_w g10 32 2 (7 : Int32)) 0 7 ((g10 0 7) + (1 : Int32)))) (a := (5 : Int32)) (b := (1 : Int32)) (c := (2 : Int32)) hc) ?_
    show iv_ev (iv_Xs L xs) 24 85 [.ref 3, .ref 34, .int y0, .int (2 : Int32), .int v9] [] (im_H g11 u o Y) 0 0 _
    exact x24_r0_r31_3_ok (g := g11) (y0 := y0) (y1 := v9) h
  | false =>
    have h := iv_bf hb3 h
    refine iv_brf (mi' := 24) (pc' := 54) (ls' := [.ref 3, .ref 34, .int y0, .int (2 : Int32), .int v9]) (st' := []) (A' := im_H g10 u o Y) (c' := 0) (s' := 0) (mi'' := 24) (pc'' := 40) (ls'' := [.ref 3, .ref 34, .int y0, .int (2 : Int32), .int v9]) (st'' := []) (A'' := im_H g10 u o Y) (c'' := 0) (s'' := 0) 1 0 0 hb3 (fun n => rfl) ?_
    obtain ⟨v12, g12, hc, h⟩ := iv_bd h
    refine iv_cal (mi' := 24) (pc' := 47) (ls' := [.ref 3, .ref 34, .int y0, .int (2 : Int32), .int v9]) (rest := [.int (2 : Int32), .ref 35]) (A' := im_H g10 u o Y) (c' := 0) (s' := 0) (as := [.int v9]) (v := some (.int v12)) (A'' := im_H g12 u o Y) 5 27 (fun n => rfl) rfl (x27_ok (g := g10) (a := v9) hc) ?_
    show iv_ev (iv_Xs L xs) 24 50 [.ref 3, .ref 34, .int y0, .int (2 : Int32), .int v9] [.int v12, .int (2 : Int32), .ref 35] (im_H g12 u o Y) 0 0 _
    refine iv_blk (mi' := 24) (pc' := 51) (ls' := [.ref 3, .ref 34, .int y0, .int (2 : Int32), .int v9]) (st' := []) (A' := List.set (im_H g12 u o Y) 32 (.inl (0, 4, .inl (upd (g12 32) 2 v12)))) (c' := 0) (s' := 0) 1 (fun n => rfl) ?_
    rw [im_a32]
    refine iv_blk (mi' := 24) (pc' := 85) (ls' := [.ref 3, .ref 34, .int y0, .int (2 : Int32), .int v9]) (st' := []) (A' := im_H (im_w g12 32 2 v12) u o Y) (c' := 0) (s' := 0) 1 (fun n => rfl) ?_
    exact x24_r0_r31_3_ok (g := (im_w g12 32 2 v12)) (y0 := y0) (y1 := v9) h
def x24_r0_r31_1 (g : im_M) (y0 : Int32) (y1 : Int32) : Option (Int32 × im_M) :=
  Option.bind (x25_r5_1_1 g ) (fun q5 =>
    Option.bind (x26 q5.2 q5.1 y0) (fun q6 =>
      bif Op.ifCond.holds .eq q6.1 then
        (Option.bind (x15_r1 (im_w (im_w q6.2 32 1 (7 : Int32)) 0 7 ((q6.2 0 7) + (1 : Int32))) (5 : Int32) (1 : Int32) (1 : Int32)) (fun q7 =>
          x24_r0_r31_2 q7.2 y0 q5.1))
      else
        (Option.bind (x27 q6.2 q5.1) (fun q8 =>
          x24_r0_r31_2 (im_w q8.2 32 1 q8.1) y0 q5.1))))
set_option maxRecDepth 100000 in
set_option maxHeartbeats 4000000 in
theorem x24_r0_r31_1_ok {L : Nat} {xs : Nat → Int32} {g u mm : im_M} {o : Nat → Int64} {Y : iv_A} {y0 y1 ret : Int32} (h : x24_r0_r31_1 g y0 y1 = some (ret, mm)) : iv_ev (iv_Xs L xs) 24 85 [.ref 3, .ref 34, .int y0, .int (0 : Int32), .int y1] [] (im_H g u o Y) 0 0 (.inl none, im_H mm u o Y) := by
  unfold x24_r0_r31_1 at h
  obtain ⟨v5, g5, hc, h⟩ := iv_bd h
  refine iv_cal (mi' := 24) (pc' := 26) (ls' := [.ref 3, .ref 34, .int y0, .int (1 : Int32), .int y1]) (rest := []) (A' := im_H g u o Y) (c' := 0) (s' := 0) (as := [.ref 8, .int (1 : Int32), .int (1 : Int32)]) (v := some (.int v5)) (A'' := im_H g5 u o Y) 11 25 (fun n => rfl) rfl (x25_r5_1_1_ok (g := g)  hc) ?_
  show iv_ev (iv_Xs L xs) 24 29 [.ref 3, .ref 34, .int y0, .int (1 : Int32), .int y1] [.int v5] (im_H g5 u o Y) 0 0 _
  obtain ⟨v6, g6, hc, h⟩ := iv_bd h
  refine iv_cal (mi' := 24) (pc' := 34) (ls' := [.ref 3, .ref 34, .int y0, .int (1 : Int32), .int v5]) (rest := []) (A' := im_H g5 u o Y) (c' := 0) (s' := 0) (as := [.int v5, .int y0]) (v := some (.int v6)) (A'' := im_H g6 u o Y) 4 26 (fun n => rfl) rfl (x26_ok (g := g5) (a := v5) (b := y0) hc) ?_
  show iv_ev (iv_Xs L xs) 24 37 [.ref 3, .ref 34, .int y0, .int (1 : Int32), .int v5] [.int v6] (im_H g6 u o Y) 0 0 _
  cases hb2 : Op.ifCond.holds .eq v6 with
  | true =>
    have h := iv_bt hb2 h
    refine iv_brt (mi' := 24) (pc' := 54) (ls' := [.ref 3, .ref 34, .int y0, .int (1 : Int32), .int v5]) (st' := []) (A' := im_H g6 u o Y) (c' := 0) (s' := 0) (mi'' := 24) (pc'' := 40) (ls'' := [.ref 3, .ref 34, .int y0, .int (1 : Int32), .int v5]) (st'' := []) (A'' := im_H g6 u o Y) (c'' := 0) (s'' := 0) 1 0 0 hb2 (fun n => rfl) ?_
    refine iv_blk (mi' := 24) (pc' := 62) (ls' := [.ref 3, .ref 34, .int y0, .int (1 : Int32), .int v5]) (st' := []) (A' := List.set (im_H g6 u o Y) 32 (.inl (0, 4, .inl (upd (g6 32) 1 (7 : Int32))))) (c' := 0) (s' := 0) 5 (fun n => rfl) ?_
    rw [im_a32]
    refine iv_blk (mi' := 24) (pc' := 72) (ls' := [.ref 3, .ref 34, .int y0, .int (1 : Int32), .int v5]) (st' := []) (A' := List.set (im_H (im_w g6 32 1 (7 : Int32)) u o Y) 0 (.inr (5, List.set [.int ((im_w g6 32 1 (7 : Int32)) 0 0), .ref 4, .ref 6, .ref 7, .ref 8, .ref 11, .int ((im_w g6 32 1 (7 : Int32)) 0 6), .int ((im_w g6 32 1 (7 : Int32)) 0 7)] 7 (.int ((g6 0 7) + (1 : Int32)))))) (c' := 0) (s' := 0) 6 (fun n => rfl) ?_
    rw [im_f0_7]
    obtain ⟨v7, g7, hc, h⟩ := iv_bd h
    refine iv_cal (mi' := 24) (pc' := 82) (ls' := [.ref 3, .ref 34, .int y0, .int (1 : Int32), .int v5]) (rest := []) (A' := im_H (im_w (im_w g6 32 1 (7 : Int32)) 0 7 ((g6 0 7) + (1 : Int32))) u o Y) (c' := 0) (s' := 0) (as := [.ref 4, .int (5 : Int32), .int (1 : Int32), .int (1 : Int32)]) (v := none) (A'' := im_H g7 u o Y) 7 15 (fun n => rfl) rfl (x15_r1_ok (g := (im_w (im_w g6 32 1 (7 : Int32)) 0 7 ((g6 0 7) + (1 : Int32)))) (a := (5 : Int32)) (b := (1 : Int32)) (c := (1 : Int32)) hc) ?_
    show iv_ev (iv_Xs L xs) 24 85 [.ref 3, .ref 34, .int y0, .int (1 : Int32), .int v5] [] (im_H g7 u o Y) 0 0 _
    exact x24_r0_r31_2_ok (g := g7) (y0 := y0) (y1 := v5) h
  | false =>
    have h := iv_bf hb2 h
    refine iv_brf (mi' := 24) (pc' := 54) (ls' := [.ref 3, .ref 34, .int y0, .int (1 : Int32), .int v5]) (st' := []) (A' := im_H g6 u o Y) (c' := 0) (s' := 0) (mi'' := 24) (pc'' := 40) (ls'' := [.ref 3, .ref 34, .int y0, .int (1 : Int32), .int v5]) (st'' := []) (A'' := im_H g6 u o Y) (c'' := 0) (s'' := 0) 1 0 0 hb2 (fun n => rfl) ?_
    obtain ⟨v8, g8, hc, h⟩ := iv_bd h
    refine iv_cal (mi' := 24) (pc' := 47) (ls' := [.ref 3, .ref 34, .int y0, .int (1 : Int32), .int v5]) (rest := [.int (1 : Int32), .ref 35]) (A' := im_H g6 u o Y) (c' := 0) (s' := 0) (as := [.int v5]) (v := some (.int v8)) (A'' := im_H g8 u o Y) 5 27 (fun n => rfl) rfl (x27_ok (g := g6) (a := v5) hc) ?_
    show iv_ev (iv_Xs L xs) 24 50 [.ref 3, .ref 34, .int y0, .int (1 : Int32), .int v5] [.int v8, .int (1 : Int32), .ref 35] (im_H g8 u o Y) 0 0 _
    refine iv_blk (mi' := 24) (pc' := 51) (ls' := [.ref 3, .ref 34, .int y0, .int (1 : Int32), .int v5]) (st' := []) (A' := List.set (im_H g8 u o Y) 32 (.inl (0, 4, .inl (upd (g8 32) 1 v8)))) (c' := 0) (s' := 0) 1 (fun n => rfl) ?_
    rw [im_a32]
    refine iv_blk (mi' := 24) (pc' := 85) (ls' := [.ref 3, .ref 34, .int y0, .int (1 : Int32), .int v5]) (st' := []) (A' := im_H (im_w g8 32 1 v8) u o Y) (c' := 0) (s' := 0) 1 (fun n => rfl) ?_
    exact x24_r0_r31_2_ok (g := (im_w g8 32 1 v8)) (y0 := y0) (y1 := v5) h
def x24_r0_r31 (g : im_M) : Option (Int32 × im_M) :=
  Option.bind (x25_r5_0_1 g ) (fun q1 =>
    Option.bind (x26 q1.2 q1.1 ((g 1 1) - (1 : Int32))) (fun q2 =>
      bif Op.ifCond.holds .eq q2.1 then
        (Option.bind (x15_r1 (im_w (im_w q2.2 32 0 (7 : Int32)) 0 7 ((q2.2 0 7) + (1 : Int32))) (5 : Int32) (1 : Int32) (0 : Int32)) (fun q3 =>
          x24_r0_r31_1 q3.2 ((g 1 1) - (1 : Int32)) q1.1))
      else
        (Option.bind (x27 q2.2 q1.1) (fun q4 =>
          x24_r0_r31_1 (im_w q4.2 32 0 q4.1) ((g 1 1) - (1 : Int32)) q1.1))))
set_option maxRecDepth 100000 in
set_option maxHeartbeats 4000000 in
theorem x24_r0_r31_ok {L : Nat} {xs : Nat → Int32} {g u mm : im_M} {o : Nat → Int64} {Y : iv_A} {ret : Int32} (h : x24_r0_r31 g  = some (ret, mm)) : iv_ev (iv_Xs L xs) 24 0 [.ref 3, .ref 34, .retAddr 0, .retAddr 0, .retAddr 0] [] (im_H g u o Y) 0 0 (.inl none, im_H mm u o Y) := by
  unfold x24_r0_r31 at h
  obtain ⟨v1, g1, hc, h⟩ := iv_bd h
  refine iv_cal (mi' := 24) (pc' := 26) (ls' := [.ref 3, .ref 34, .int ((g 1 1) - (1 : Int32)), .int (0 : Int32), .retAddr 0]) (rest := []) (A' := im_H g u o Y) (c' := 0) (s' := 0) (as := [.ref 8, .int (0 : Int32), .int (1 : Int32)]) (v := some (.int v1)) (A'' := im_H g1 u o Y) 17 25 (fun n => rfl) rfl (x25_r5_0_1_ok (g := g)  hc) ?_
  show iv_ev (iv_Xs L xs) 24 29 [.ref 3, .ref 34, .int ((g 1 1) - (1 : Int32)), .int (0 : Int32), .retAddr 0] [.int v1] (im_H g1 u o Y) 0 0 _
  obtain ⟨v2, g2, hc, h⟩ := iv_bd h
  refine iv_cal (mi' := 24) (pc' := 34) (ls' := [.ref 3, .ref 34, .int ((g 1 1) - (1 : Int32)), .int (0 : Int32), .int v1]) (rest := []) (A' := im_H g1 u o Y) (c' := 0) (s' := 0) (as := [.int v1, .int ((g 1 1) - (1 : Int32))]) (v := some (.int v2)) (A'' := im_H g2 u o Y) 4 26 (fun n => rfl) rfl (x26_ok (g := g1) (a := v1) (b := ((g 1 1) - (1 : Int32))) hc) ?_
  show iv_ev (iv_Xs L xs) 24 37 [.ref 3, .ref 34, .int ((g 1 1) - (1 : Int32)), .int (0 : Int32), .int v1] [.int v2] (im_H g2 u o Y) 0 0 _
  cases hb1 : Op.ifCond.holds .eq v2 with
  | true =>
    have h := iv_bt hb1 h
    refine iv_brt (mi' := 24) (pc' := 54) (ls' := [.ref 3, .ref 34, .int ((g 1 1) - (1 : Int32)), .int (0 : Int32), .int v1]) (st' := []) (A' := im_H g2 u o Y) (c' := 0) (s' := 0) (mi'' := 24) (pc'' := 40) (ls'' := [.ref 3, .ref 34, .int ((g 1 1) - (1 : Int32)), .int (0 : Int32), .int v1]) (st'' := []) (A'' := im_H g2 u o Y) (c'' := 0) (s'' := 0) 1 0 0 hb1 (fun n => rfl) ?_
    refine iv_blk (mi' := 24) (pc' := 62) (ls' := [.ref 3, .ref 34, .int ((g 1 1) - (1 : Int32)), .int (0 : Int32), .int v1]) (st' := []) (A' := List.set (im_H g2 u o Y) 32 (.inl (0, 4, .inl (upd (g2 32) 0 (7 : Int32))))) (c' := 0) (s' := 0) 5 (fun n => rfl) ?_
    rw [im_a32]
    refine iv_blk (mi' := 24) (pc' := 72) (ls' := [.ref 3, .ref 34, .int ((g 1 1) - (1 : Int32)), .int (0 : Int32), .int v1]) (st' := []) (A' := List.set (im_H (im_w g2 32 0 (7 : Int32)) u o Y) 0 (.inr (5, List.set [.int ((im_w g2 32 0 (7 : Int32)) 0 0), .ref 4, .ref 6, .ref 7, .ref 8, .ref 11, .int ((im_w g2 32 0 (7 : Int32)) 0 6), .int ((im_w g2 32 0 (7 : Int32)) 0 7)] 7 (.int ((g2 0 7) + (1 : Int32)))))) (c' := 0) (s' := 0) 6 (fun n => rfl) ?_
    rw [im_f0_7]
    obtain ⟨v3, g3, hc, h⟩ := iv_bd h
    refine iv_cal (mi' := 24) (pc' := 82) (ls' := [.ref 3, .ref 34, .int ((g 1 1) - (1 : Int32)), .int (0 : Int32), .int v1]) (rest := []) (A' := im_H (im_w (im_w g2 32 0 (7 : Int32)) 0 7 ((g2 0 7) + (1 : Int32))) u o Y) (c' := 0) (s' := 0) (as := [.ref 4, .int (5 : Int32), .int (1 : Int32), .int (0 : Int32)]) (v := none) (A'' := im_H g3 u o Y) 7 15 (fun n => rfl) rfl (x15_r1_ok (g := (im_w (im_w g2 32 0 (7 : Int32)) 0 7 ((g2 0 7) + (1 : Int32)))) (a := (5 : Int32)) (b := (1 : Int32)) (c := (0 : Int32)) hc) ?_
    show iv_ev (iv_Xs L xs) 24 85 [.ref 3, .ref 34, .int ((g 1 1) - (1 : Int32)), .int (0 : Int32), .int v1] [] (im_H g3 u o Y) 0 0 _
    exact x24_r0_r31_1_ok (g := g3) (y0 := ((g 1 1) - (1 : Int32))) (y1 := v1) h
  | false =>
    have h := iv_bf hb1 h
    refine iv_brf (mi' := 24) (pc' := 54) (ls' := [.ref 3, .ref 34, .int ((g 1 1) - (1 : Int32)), .int (0 : Int32), .int v1]) (st' := []) (A' := im_H g2 u o Y) (c' := 0) (s' := 0) (mi'' := 24) (pc'' := 40) (ls'' := [.ref 3, .ref 34, .int ((g 1 1) - (1 : Int32)), .int (0 : Int32), .int v1]) (st'' := []) (A'' := im_H g2 u o Y) (c'' := 0) (s'' := 0) 1 0 0 hb1 (fun n => rfl) ?_
    obtain ⟨v4, g4, hc, h⟩ := iv_bd h
    refine iv_cal (mi' := 24) (pc' := 47) (ls' := [.ref 3, .ref 34, .int ((g 1 1) - (1 : Int32)), .int (0 : Int32), .int v1]) (rest := [.int (0 : Int32), .ref 35]) (A' := im_H g2 u o Y) (c' := 0) (s' := 0) (as := [.int v1]) (v := some (.int v4)) (A'' := im_H g4 u o Y) 5 27 (fun n => rfl) rfl (x27_ok (g := g2) (a := v1) hc) ?_
    show iv_ev (iv_Xs L xs) 24 50 [.ref 3, .ref 34, .int ((g 1 1) - (1 : Int32)), .int (0 : Int32), .int v1] [.int v4, .int (0 : Int32), .ref 35] (im_H g4 u o Y) 0 0 _
    refine iv_blk (mi' := 24) (pc' := 51) (ls' := [.ref 3, .ref 34, .int ((g 1 1) - (1 : Int32)), .int (0 : Int32), .int v1]) (st' := []) (A' := List.set (im_H g4 u o Y) 32 (.inl (0, 4, .inl (upd (g4 32) 0 v4)))) (c' := 0) (s' := 0) 1 (fun n => rfl) ?_
    rw [im_a32]
    refine iv_blk (mi' := 24) (pc' := 85) (ls' := [.ref 3, .ref 34, .int ((g 1 1) - (1 : Int32)), .int (0 : Int32), .int v1]) (st' := []) (A' := im_H (im_w g4 32 0 v4) u o Y) (c' := 0) (s' := 0) 1 (fun n => rfl) ?_
    exact x24_r0_r31_1_ok (g := (im_w g4 32 0 v4)) (y0 := ((g 1 1) - (1 : Int32))) (y1 := v1) h
def x24_r0_r33_4 (g : im_M) (y0 : Int32) (y1 : Int32) : Option (Int32 × im_M) :=
  some (0, g)
set_option maxRecDepth 100000 in
set_option maxHeartbeats 4000000 in
theorem x24_r0_r33_4_ok {L : Nat} {xs : Nat → Int32} {g u mm : im_M} {o : Nat → Int64} {Y : iv_A} {y0 y1 ret : Int32} (h : x24_r0_r33_4 g y0 y1 = some (ret, mm)) : iv_ev (iv_Xs L xs) 24 85 [.ref 3, .ref 36, .int y0, .int (3 : Int32), .int y1] [] (im_H g u o Y) 0 0 (.inl none, im_H mm u o Y) := by
  unfold x24_r0_r33_4 at h
  cases h
  exact iv_ret 6 (fun n => rfl)
def x24_r0_r33_3 (g : im_M) (y0 : Int32) (y1 : Int32) : Option (Int32 × im_M) :=
  Option.bind (x25_r5_3_2 g ) (fun q13 =>
    Option.bind (x26 q13.2 q13.1 y0) (fun q14 =>
      bif Op.ifCond.holds .eq q14.1 then
        (Option.bind (x15_r1 (im_w (im_w q14.2 34 3 (7 : Int32)) 0 7 ((q14.2 0 7) + (1 : Int32))) (5 : Int32) (2 : Int32) (3 : Int32)) (fun q15 =>
          x24_r0_r33_4 q15.2 y0 q13.1))
      else
        (Option.bind (x27 q14.2 q13.1) (fun q16 =>
          x24_r0_r33_4 (im_w q16.2 34 3 q16.1) y0 q13.1))))
set_option maxRecDepth 100000 in
set_option maxHeartbeats 4000000 in
theorem x24_r0_r33_3_ok {L : Nat} {xs : Nat → Int32} {g u mm : im_M} {o : Nat → Int64} {Y : iv_A} {y0 y1 ret : Int32} (h : x24_r0_r33_3 g y0 y1 = some (ret, mm)) : iv_ev (iv_Xs L xs) 24 85 [.ref 3, .ref 36, .int y0, .int (2 : Int32), .int y1] [] (im_H g u o Y) 0 0 (.inl none, im_H mm u o Y) := by
  unfold x24_r0_r33_3 at h
  obtain ⟨v13, g13, hc, h⟩ := iv_bd h
  refine iv_cal (mi' := 24) (pc' := 26) (ls' := [.ref 3, .ref 36, .int y0, .int (3 : Int32), .int y1]) (rest := []) (A' := im_H g u o Y) (c' := 0) (s' := 0) (as := [.ref 8, .int (3 : Int32), .int (2 : Int32)]) (v := some (.int v13)) (A'' := im_H g13 u o Y) 11 25 (fun n => rfl) rfl (x25_r5_3_2_ok (g := g)  hc) ?_
  show iv_ev (iv_Xs L xs) 24 29 [.ref 3, .ref 36, .int y0, .int (3 : Int32), .int y1] [.int v13] (im_H g13 u o Y) 0 0 _
  obtain ⟨v14, g14, hc, h⟩ := iv_bd h
  refine iv_cal (mi' := 24) (pc' := 34) (ls' := [.ref 3, .ref 36, .int y0, .int (3 : Int32), .int v13]) (rest := []) (A' := im_H g13 u o Y) (c' := 0) (s' := 0) (as := [.int v13, .int y0]) (v := some (.int v14)) (A'' := im_H g14 u o Y) 4 26 (fun n => rfl) rfl (x26_ok (g := g13) (a := v13) (b := y0) hc) ?_
  show iv_ev (iv_Xs L xs) 24 37 [.ref 3, .ref 36, .int y0, .int (3 : Int32), .int v13] [.int v14] (im_H g14 u o Y) 0 0 _
  cases hb4 : Op.ifCond.holds .eq v14 with
  | true =>
    have h := iv_bt hb4 h
    refine iv_brt (mi' := 24) (pc' := 54) (ls' := [.ref 3, .ref 36, .int y0, .int (3 : Int32), .int v13]) (st' := []) (A' := im_H g14 u o Y) (c' := 0) (s' := 0) (mi'' := 24) (pc'' := 40) (ls'' := [.ref 3, .ref 36, .int y0, .int (3 : Int32), .int v13]) (st'' := []) (A'' := im_H g14 u o Y) (c'' := 0) (s'' := 0) 1 0 0 hb4 (fun n => rfl) ?_
    refine iv_blk (mi' := 24) (pc' := 62) (ls' := [.ref 3, .ref 36, .int y0, .int (3 : Int32), .int v13]) (st' := []) (A' := List.set (im_H g14 u o Y) 34 (.inl (0, 4, .inl (upd (g14 34) 3 (7 : Int32))))) (c' := 0) (s' := 0) 5 (fun n => rfl) ?_
    rw [im_a34]
    refine iv_blk (mi' := 24) (pc' := 72) (ls' := [.ref 3, .ref 36, .int y0, .int (3 : Int32), .int v13]) (st' := []) (A' := List.set (im_H (im_w g14 34 3 (7 : Int32)) u o Y) 0 (.inr (5, List.set [.int ((im_w g14 34 3 (7 : Int32)) 0 0), .ref 4, .ref 6, .ref 7, .ref 8, .ref 11, .int ((im_w g14 34 3 (7 : Int32)) 0 6), .int ((im_w g14 34 3 (7 : Int32)) 0 7)] 7 (.int ((g14 0 7) + (1 : Int32)))))) (c' := 0) (s' := 0) 6 (fun n => rfl) ?_
    rw [im_f0_7]
    obtain ⟨v15, g15, hc, h⟩ := iv_bd h
    refine iv_cal (mi' := 24) (pc' := 82) (ls' := [.ref 3, .ref 36, .int y0, .int (3 : Int32), .int v13]) (rest := []) (A' := im_H (im_w (im_w g14 34 3 (7 : Int32)) 0 7 ((g14 0 7) + (1 : Int32))) u o Y) (c' := 0) (s' := 0) (as := [.ref 4, .int (5 : Int32), .int (2 : Int32), .int (3 : Int32)]) (v := none) (A'' := im_H g15 u o Y) 7 15 (fun n => rfl) rfl (x15_r1_ok (g := (im_w (im_w g14 34 3 (7 : Int32)) 0 7 ((g14 0 7) + (1 : Int32)))) (a := (5 : Int32)) (b := (2 : Int32)) (c := (3 : Int32)) hc) ?_
    show iv_ev (iv_Xs L xs) 24 85 [.ref 3, .ref 36, .int y0, .int (3 : Int32), .int v13] [] (im_H g15 u o Y) 0 0 _
    exact x24_r0_r33_4_ok (g := g15) (y0 := y0) (y1 := v13) h
  | false =>
    have h := iv_bf hb4 h
    refine iv_brf (mi' := 24) (pc' := 54) (ls' := [.ref 3, .ref 36, .int y0, .int (3 : Int32), .int v13]) (st' := []) (A' := im_H g14 u o Y) (c' := 0) (s' := 0) (mi'' := 24) (pc'' := 40) (ls'' := [.ref 3, .ref 36, .int y0, .int (3 : Int32), .int v13]) (st'' := []) (A'' := im_H g14 u o Y) (c'' := 0) (s'' := 0) 1 0 0 hb4 (fun n => rfl) ?_
    obtain ⟨v16, g16, hc, h⟩ := iv_bd h
    refine iv_cal (mi' := 24) (pc' := 47) (ls' := [.ref 3, .ref 36, .int y0, .int (3 : Int32), .int v13]) (rest := [.int (3 : Int32), .ref 37]) (A' := im_H g14 u o Y) (c' := 0) (s' := 0) (as := [.int v13]) (v := some (.int v16)) (A'' := im_H g16 u o Y) 5 27 (fun n => rfl) rfl (x27_ok (g := g14) (a := v13) hc) ?_
    show iv_ev (iv_Xs L xs) 24 50 [.ref 3, .ref 36, .int y0, .int (3 : Int32), .int v13] [.int v16, .int (3 : Int32), .ref 37] (im_H g16 u o Y) 0 0 _
    refine iv_blk (mi' := 24) (pc' := 51) (ls' := [.ref 3, .ref 36, .int y0, .int (3 : Int32), .int v13]) (st' := []) (A' := List.set (im_H g16 u o Y) 34 (.inl (0, 4, .inl (upd (g16 34) 3 v16)))) (c' := 0) (s' := 0) 1 (fun n => rfl) ?_
    rw [im_a34]
    refine iv_blk (mi' := 24) (pc' := 85) (ls' := [.ref 3, .ref 36, .int y0, .int (3 : Int32), .int v13]) (st' := []) (A' := im_H (im_w g16 34 3 v16) u o Y) (c' := 0) (s' := 0) 1 (fun n => rfl) ?_
    exact x24_r0_r33_4_ok (g := (im_w g16 34 3 v16)) (y0 := y0) (y1 := v13) h
def x24_r0_r33_2 (g : im_M) (y0 : Int32) (y1 : Int32) : Option (Int32 × im_M) :=
  Option.bind (x25_r5_2_2 g ) (fun q9 =>
    Option.bind (x26 q9.2 q9.1 y0) (fun q10 =>
      bif Op.ifCond.holds .eq q10.1 then
        (Option.bind (x15_r1 (im_w (im_w q10.2 34 2 (7 : Int32)) 0 7 ((q10.2 0 7) + (1 : Int32))) (5 : Int32) (2 : Int32) (2 : Int32)) (fun q11 =>
          x24_r0_r33_3 q11.2 y0 q9.1))
      else
        (Option.bind (x27 q10.2 q9.1) (fun q12 =>
          x24_r0_r33_3 (im_w q12.2 34 2 q12.1) y0 q9.1))))
set_option maxRecDepth 100000 in
set_option maxHeartbeats 4000000 in
theorem x24_r0_r33_2_ok {L : Nat} {xs : Nat → Int32} {g u mm : im_M} {o : Nat → Int64} {Y : iv_A} {y0 y1 ret : Int32} (h : x24_r0_r33_2 g y0 y1 = some (ret, mm)) : iv_ev (iv_Xs L xs) 24 85 [.ref 3, .ref 36, .int y0, .int (1 : Int32), .int y1] [] (im_H g u o Y) 0 0 (.inl none, im_H mm u o Y) := by
  unfold x24_r0_r33_2 at h
  obtain ⟨v9, g9, hc, h⟩ := iv_bd h
  refine iv_cal (mi' := 24) (pc' := 26) (ls' := [.ref 3, .ref 36, .int y0, .int (2 : Int32), .int y1]) (rest := []) (A' := im_H g u o Y) (c' := 0) (s' := 0) (as := [.ref 8, .int (2 : Int32), .int (2 : Int32)]) (v := some (.int v9)) (A'' := im_H g9 u o Y) 11 25 (fun n => rfl) rfl (x25_r5_2_2_ok (g := g)  hc) ?_
  show iv_ev (iv_Xs L xs) 24 29 [.ref 3, .ref 36, .int y0, .int (2 : Int32), .int y1] [.int v9] (im_H g9 u o Y) 0 0 _
  obtain ⟨v10, g10, hc, h⟩ := iv_bd h
  refine iv_cal (mi' := 24) (pc' := 34) (ls' := [.ref 3, .ref 36, .int y0, .int (2 : Int32), .int v9]) (rest := []) (A' := im_H g9 u o Y) (c' := 0) (s' := 0) (as := [.int v9, .int y0]) (v := some (.int v10)) (A'' := im_H g10 u o Y) 4 26 (fun n => rfl) rfl (x26_ok (g := g9) (a := v9) (b := y0) hc) ?_
  show iv_ev (iv_Xs L xs) 24 37 [.ref 3, .ref 36, .int y0, .int (2 : Int32), .int v9] [.int v10] (im_H g10 u o Y) 0 0 _
  cases hb3 : Op.ifCond.holds .eq v10 with
  | true =>
    have h := iv_bt hb3 h
    refine iv_brt (mi' := 24) (pc' := 54) (ls' := [.ref 3, .ref 36, .int y0, .int (2 : Int32), .int v9]) (st' := []) (A' := im_H g10 u o Y) (c' := 0) (s' := 0) (mi'' := 24) (pc'' := 40) (ls'' := [.ref 3, .ref 36, .int y0, .int (2 : Int32), .int v9]) (st'' := []) (A'' := im_H g10 u o Y) (c'' := 0) (s'' := 0) 1 0 0 hb3 (fun n => rfl) ?_
    refine iv_blk (mi' := 24) (pc' := 62) (ls' := [.ref 3, .ref 36, .int y0, .int (2 : Int32), .int v9]) (st' := []) (A' := List.set (im_H g10 u o Y) 34 (.inl (0, 4, .inl (upd (g10 34) 2 (7 : Int32))))) (c' := 0) (s' := 0) 5 (fun n => rfl) ?_
    rw [im_a34]
    refine iv_blk (mi' := 24) (pc' := 72) (ls' := [.ref 3, .ref 36, .int y0, .int (2 : Int32), .int v9]) (st' := []) (A' := List.set (im_H (im_w g10 34 2 (7 : Int32)) u o Y) 0 (.inr (5, List.set [.int ((im_w g10 34 2 (7 : Int32)) 0 0), .ref 4, .ref 6, .ref 7, .ref 8, .ref 11, .int ((im_w g10 34 2 (7 : Int32)) 0 6), .int ((im_w g10 34 2 (7 : Int32)) 0 7)] 7 (.int ((g10 0 7) + (1 : Int32)))))) (c' := 0) (s' := 0) 6 (fun n => rfl) ?_
    rw [im_f0_7]
    obtain ⟨v11, g11, hc, h⟩ := iv_bd h
    refine iv_cal (mi' := 24) (pc' := 82) (ls' := [.ref 3, .ref 36, .int y0, .int (2 : Int32), .int v9]) (rest := []) (A' := im_H (im_w (im_w g10 34 2 (7 : Int32)) 0 7 ((g10 0 7) + (1 : Int32))) u o Y) (c' := 0) (s' := 0) (as := [.ref 4, .int (5 : Int32), .int (2 : Int32), .int (2 : Int32)]) (v := none) (A'' := im_H g11 u o Y) 7 15 (fun n => rfl) rfl (x15_r1_ok (g := (im_w (im_w g10 34 2 (7 : Int32)) 0 7 ((g10 0 7) + (1 : Int32)))) (a := (5 : Int32)) (b := (2 : Int32)) (c := (2 : Int32)) hc) ?_
    show iv_ev (iv_Xs L xs) 24 85 [.ref 3, .ref 36, .int y0, .int (2 : Int32), .int v9] [] (im_H g11 u o Y) 0 0 _
    exact x24_r0_r33_3_ok (g := g11) (y0 := y0) (y1 := v9) h
  | false =>
    have h := iv_bf hb3 h
    refine iv_brf (mi' := 24) (pc' := 54) (ls' := [.ref 3, .ref 36, .int y0, .int (2 : Int32), .int v9]) (st' := []) (A' := im_H g10 u o Y) (c' := 0) (s' := 0) (mi'' := 24) (pc'' := 40) (ls'' := [.ref 3, .ref 36, .int y0, .int (2 : Int32), .int v9]) (st'' := []) (A'' := im_H g10 u o Y) (c'' := 0) (s'' := 0) 1 0 0 hb3 (fun n => rfl) ?_
    obtain ⟨v12, g12, hc, h⟩ := iv_bd h
    refine iv_cal (mi' := 24) (pc' := 47) (ls' := [.ref 3, .ref 36, .int y0, .int (2 : Int32), .int v9]) (rest := [.int (2 : Int32), .ref 37]) (A' := im_H g10 u o Y) (c' := 0) (s' := 0) (as := [.int v9]) (v := some (.int v12)) (A'' := im_H g12 u o Y) 5 27 (fun n => rfl) rfl (x27_ok (g := g10) (a := v9) hc) ?_
    show iv_ev (iv_Xs L xs) 24 50 [.ref 3, .ref 36, .int y0, .int (2 : Int32), .int v9] [.int v12, .int (2 : Int32), .ref 37] (im_H g12 u o Y) 0 0 _
    refine iv_blk (mi' := 24) (pc' := 51) (ls' := [.ref 3, .ref 36, .int y0, .int (2 : Int32), .int v9]) (st' := []) (A' := List.set (im_H g12 u o Y) 34 (.inl (0, 4, .inl (upd (g12 34) 2 v12)))) (c' := 0) (s' := 0) 1 (fun n => rfl) ?_
    rw [im_a34]
    refine iv_blk (mi' := 24) (pc' := 85) (ls' := [.ref 3, .ref 36, .int y0, .int (2 : Int32), .int v9]) (st' := []) (A' := im_H (im_w g12 34 2 v12) u o Y) (c' := 0) (s' := 0) 1 (fun n => rfl) ?_
    exact x24_r0_r33_3_ok (g := (im_w g12 34 2 v12)) (y0 := y0) (y1 := v9) h
def x24_r0_r33_1 (g : im_M) (y0 : Int32) (y1 : Int32) : Option (Int32 × im_M) :=
  Option.bind (x25_r5_1_2 g ) (fun q5 =>
    Option.bind (x26 q5.2 q5.1 y0) (fun q6 =>
      bif Op.ifCond.holds .eq q6.1 then
        (Option.bind (x15_r1 (im_w (im_w q6.2 34 1 (7 : Int32)) 0 7 ((q6.2 0 7) + (1 : Int32))) (5 : Int32) (2 : Int32) (1 : Int32)) (fun q7 =>
          x24_r0_r33_2 q7.2 y0 q5.1))
      else
        (Option.bind (x27 q6.2 q5.1) (fun q8 =>
          x24_r0_r33_2 (im_w q8.2 34 1 q8.1) y0 q5.1))))
set_option maxRecDepth 100000 in
set_option maxHeartbeats 4000000 in
theorem x24_r0_r33_1_ok {L : Nat} {xs : Nat → Int32} {g u mm : im_M} {o : Nat → Int64} {Y : iv_A} {y0 y1 ret : Int32} (h : x24_r0_r33_1 g y0 y1 = some (ret, mm)) : iv_ev (iv_Xs L xs) 24 85 [.ref 3, .ref 36, .int y0, .int (0 : Int32), .int y1] [] (im_H g u o Y) 0 0 (.inl none, im_H mm u o Y) := by
  unfold x24_r0_r33_1 at h
  obtain ⟨v5, g5, hc, h⟩ := iv_bd h
  refine iv_cal (mi' := 24) (pc' := 26) (ls' := [.ref 3, .ref 36, .int y0, .int (1 : Int32), .int y1]) (rest := []) (A' := im_H g u o Y) (c' := 0) (s' := 0) (as := [.ref 8, .int (1 : Int32), .int (2 : Int32)]) (v := some (.int v5)) (A'' := im_H g5 u o Y) 11 25 (fun n => rfl) rfl (x25_r5_1_2_ok (g := g)  hc) ?_
  show iv_ev (iv_Xs L xs) 24 29 [.ref 3, .ref 36, .int y0, .int (1 : Int32), .int y1] [.int v5] (im_H g5 u o Y) 0 0 _
  obtain ⟨v6, g6, hc, h⟩ := iv_bd h
  refine iv_cal (mi' := 24) (pc' := 34) (ls' := [.ref 3, .ref 36, .int y0, .int (1 : Int32), .int v5]) (rest := []) (A' := im_H g5 u o Y) (c' := 0) (s' := 0) (as := [.int v5, .int y0]) (v := some (.int v6)) (A'' := im_H g6 u o Y) 4 26 (fun n => rfl) rfl (x26_ok (g := g5) (a := v5) (b := y0) hc) ?_
  show iv_ev (iv_Xs L xs) 24 37 [.ref 3, .ref 36, .int y0, .int (1 : Int32), .int v5] [.int v6] (im_H g6 u o Y) 0 0 _
  cases hb2 : Op.ifCond.holds .eq v6 with
  | true =>
    have h := iv_bt hb2 h
    refine iv_brt (mi' := 24) (pc' := 54) (ls' := [.ref 3, .ref 36, .int y0, .int (1 : Int32), .int v5]) (st' := []) (A' := im_H g6 u o Y) (c' := 0) (s' := 0) (mi'' := 24) (pc'' := 40) (ls'' := [.ref 3, .ref 36, .int y0, .int (1 : Int32), .int v5]) (st'' := []) (A'' := im_H g6 u o Y) (c'' := 0) (s'' := 0) 1 0 0 hb2 (fun n => rfl) ?_
    refine iv_blk (mi' := 24) (pc' := 62) (ls' := [.ref 3, .ref 36, .int y0, .int (1 : Int32), .int v5]) (st' := []) (A' := List.set (im_H g6 u o Y) 34 (.inl (0, 4, .inl (upd (g6 34) 1 (7 : Int32))))) (c' := 0) (s' := 0) 5 (fun n => rfl) ?_
    rw [im_a34]
    refine iv_blk (mi' := 24) (pc' := 72) (ls' := [.ref 3, .ref 36, .int y0, .int (1 : Int32), .int v5]) (st' := []) (A' := List.set (im_H (im_w g6 34 1 (7 : Int32)) u o Y) 0 (.inr (5, List.set [.int ((im_w g6 34 1 (7 : Int32)) 0 0), .ref 4, .ref 6, .ref 7, .ref 8, .ref 11, .int ((im_w g6 34 1 (7 : Int32)) 0 6), .int ((im_w g6 34 1 (7 : Int32)) 0 7)] 7 (.int ((g6 0 7) + (1 : Int32)))))) (c' := 0) (s' := 0) 6 (fun n => rfl) ?_
    rw [im_f0_7]
    obtain ⟨v7, g7, hc, h⟩ := iv_bd h
    refine iv_cal (mi' := 24) (pc' := 82) (ls' := [.ref 3, .ref 36, .int y0, .int (1 : Int32), .int v5]) (rest := []) (A' := im_H (im_w (im_w g6 34 1 (7 : Int32)) 0 7 ((g6 0 7) + (1 : Int32))) u o Y) (c' := 0) (s' := 0) (as := [.ref 4, .int (5 : Int32), .int (2 : Int32), .int (1 : Int32)]) (v := none) (A'' := im_H g7 u o Y) 7 15 (fun n => rfl) rfl (x15_r1_ok (g := (im_w (im_w g6 34 1 (7 : Int32)) 0 7 ((g6 0 7) + (1 : Int32)))) (a := (5 : Int32)) (b := (2 : Int32)) (c := (1 : Int32)) hc) ?_
    show iv_ev (iv_Xs L xs) 24 85 [.ref 3, .ref 36, .int y0, .int (1 : Int32), .int v5] [] (im_H g7 u o Y) 0 0 _
    exact x24_r0_r33_2_ok (g := g7) (y0 := y0) (y1 := v5) h
  | false =>
    have h := iv_bf hb2 h
    refine iv_brf (mi' := 24) (pc' := 54) (ls' := [.ref 3, .ref 36, .int y0, .int (1 : Int32), .int v5]) (st' := []) (A' := im_H g6 u o Y) (c' := 0) (s' := 0) (mi'' := 24) (pc'' := 40) (ls'' := [.ref 3, .ref 36, .int y0, .int (1 : Int32), .int v5]) (st'' := []) (A'' := im_H g6 u o Y) (c'' := 0) (s'' := 0) 1 0 0 hb2 (fun n => rfl) ?_
    obtain ⟨v8, g8, hc, h⟩ := iv_bd h
    refine iv_cal (mi' := 24) (pc' := 47) (ls' := [.ref 3, .ref 36, .int y0, .int (1 : Int32), .int v5]) (rest := [.int (1 : Int32), .ref 37]) (A' := im_H g6 u o Y) (c' := 0) (s' := 0) (as := [.int v5]) (v := some (.int v8)) (A'' := im_H g8 u o Y) 5 27 (fun n => rfl) rfl (x27_ok (g := g6) (a := v5) hc) ?_
    show iv_ev (iv_Xs L xs) 24 50 [.ref 3, .ref 36, .int y0, .int (1 : Int32), .int v5] [.int v8, .int (1 : Int32), .ref 37] (im_H g8 u o Y) 0 0 _
    refine iv_blk (mi' := 24) (pc' := 51) (ls' := [.ref 3, .ref 36, .int y0, .int (1 : Int32), .int v5]) (st' := []) (A' := List.set (im_H g8 u o Y) 34 (.inl (0, 4, .inl (upd (g8 34) 1 v8)))) (c' := 0) (s' := 0) 1 (fun n => rfl) ?_
    rw [im_a34]
    refine iv_blk (mi' := 24) (pc' := 85) (ls' := [.ref 3, .ref 36, .int y0, .int (1 : Int32), .int v5]) (st' := []) (A' := im_H (im_w g8 34 1 v8) u o Y) (c' := 0) (s' := 0) 1 (fun n => rfl) ?_
    exact x24_r0_r33_2_ok (g := (im_w g8 34 1 v8)) (y0 := y0) (y1 := v5) h
def x24_r0_r33 (g : im_M) : Option (Int32 × im_M) :=
  Option.bind (x25_r5_0_2 g ) (fun q1 =>
    Option.bind (x26 q1.2 q1.1 ((g 1 1) - (1 : Int32))) (fun q2 =>
      bif Op.ifCond.holds .eq q2.1 then
        (Option.bind (x15_r1 (im_w (im_w q2.2 34 0 (7 : Int32)) 0 7 ((q2.2 0 7) + (1 : Int32))) (5 : Int32) (2 : Int32) (0 : Int32)) (fun q3 =>
          x24_r0_r33_1 q3.2 ((g 1 1) - (1 : Int32)) q1.1))
      else
        (Option.bind (x27 q2.2 q1.1) (fun q4 =>
          x24_r0_r33_1 (im_w q4.2 34 0 q4.1) ((g 1 1) - (1 : Int32)) q1.1))))
set_option maxRecDepth 100000 in
set_option maxHeartbeats 4000000 in
theorem x24_r0_r33_ok {L : Nat} {xs : Nat → Int32} {g u mm : im_M} {o : Nat → Int64} {Y : iv_A} {ret : Int32} (h : x24_r0_r33 g  = some (ret, mm)) : iv_ev (iv_Xs L xs) 24 0 [.ref 3, .ref 36, .retAddr 0, .retAddr 0, .retAddr 0] [] (im_H g u o Y) 0 0 (.inl none, im_H mm u o Y) := by
  unfold x24_r0_r33 at h
  obtain ⟨v1, g1, hc, h⟩ := iv_bd h
  refine iv_cal (mi' := 24) (pc' := 26) (ls' := [.ref 3, .ref 36, .int ((g 1 1) - (1 : Int32)), .int (0 : Int32), .retAddr 0]) (rest := []) (A' := im_H g u o Y) (c' := 0) (s' := 0) (as := [.ref 8, .int (0 : Int32), .int (2 : Int32)]) (v := some (.int v1)) (A'' := im_H g1 u o Y) 17 25 (fun n => rfl) rfl (x25_r5_0_2_ok (g := g)  hc) ?_
  show iv_ev (iv_Xs L xs) 24 29 [.ref 3, .ref 36, .int ((g 1 1) - (1 : Int32)), .int (0 : Int32), .retAddr 0] [.int v1] (im_H g1 u o Y) 0 0 _
  obtain ⟨v2, g2, hc, h⟩ := iv_bd h
  refine iv_cal (mi' := 24) (pc' := 34) (ls' := [.ref 3, .ref 36, .int ((g 1 1) - (1 : Int32)), .int (0 : Int32), .int v1]) (rest := []) (A' := im_H g1 u o Y) (c' := 0) (s' := 0) (as := [.int v1, .int ((g 1 1) - (1 : Int32))]) (v := some (.int v2)) (A'' := im_H g2 u o Y) 4 26 (fun n => rfl) rfl (x26_ok (g := g1) (a := v1) (b := ((g 1 1) - (1 : Int32))) hc) ?_
  show iv_ev (iv_Xs L xs) 24 37 [.ref 3, .ref 36, .int ((g 1 1) - (1 : Int32)), .int (0 : Int32), .int v1] [.int v2] (im_H g2 u o Y) 0 0 _
  cases hb1 : Op.ifCond.holds .eq v2 with
  | true =>
    have h := iv_bt hb1 h
    refine iv_brt (mi' := 24) (pc' := 54) (ls' := [.ref 3, .ref 36, .int ((g 1 1) - (1 : Int32)), .int (0 : Int32), .int v1]) (st' := []) (A' := im_H g2 u o Y) (c' := 0) (s' := 0) (mi'' := 24) (pc'' := 40) (ls'' := [.ref 3, .ref 36, .int ((g 1 1) - (1 : Int32)), .int (0 : Int32), .int v1]) (st'' := []) (A'' := im_H g2 u o Y) (c'' := 0) (s'' := 0) 1 0 0 hb1 (fun n => rfl) ?_
    refine iv_blk (mi' := 24) (pc' := 62) (ls' := [.ref 3, .ref 36, .int ((g 1 1) - (1 : Int32)), .int (0 : Int32), .int v1]) (st' := []) (A' := List.set (im_H g2 u o Y) 34 (.inl (0, 4, .inl (upd (g2 34) 0 (7 : Int32))))) (c' := 0) (s' := 0) 5 (fun n => rfl) ?_
    rw [im_a34]
    refine iv_blk (mi' := 24) (pc' := 72) (ls' := [.ref 3, .ref 36, .int ((g 1 1) - (1 : Int32)), .int (0 : Int32), .int v1]) (st' := []) (A' := List.set (im_H (im_w g2 34 0 (7 : Int32)) u o Y) 0 (.inr (5, List.set [.int ((im_w g2 34 0 (7 : Int32)) 0 0), .ref 4, .ref 6, .ref 7, .ref 8, .ref 11, .int ((im_w g2 34 0 (7 : Int32)) 0 6), .int ((im_w g2 34 0 (7 : Int32)) 0 7)] 7 (.int ((g2 0 7) + (1 : Int32)))))) (c' := 0) (s' := 0) 6 (fun n => rfl) ?_
    rw [im_f0_7]
    obtain ⟨v3, g3, hc, h⟩ := iv_bd h
    refine iv_cal (mi' := 24) (pc' := 82) (ls' := [.ref 3, .ref 36, .int ((g 1 1) - (1 : Int32)), .int (0 : Int32), .int v1]) (rest := []) (A' := im_H (im_w (im_w g2 34 0 (7 : Int32)) 0 7 ((g2 0 7) + (1 : Int32))) u o Y) (c' := 0) (s' := 0) (as := [.ref 4, .int (5 : Int32), .int (2 : Int32), .int (0 : Int32)]) (v := none) (A'' := im_H g3 u o Y) 7 15 (fun n => rfl) rfl (x15_r1_ok (g := (im_w (im_w g2 34 0 (7 : Int32)) 0 7 ((g2 0 7) + (1 : Int32)))) (a := (5 : Int32)) (b := (2 : Int32)) (c := (0 : Int32)) hc) ?_
    show iv_ev (iv_Xs L xs) 24 85 [.ref 3, .ref 36, .int ((g 1 1) - (1 : Int32)), .int (0 : Int32), .int v1] [] (im_H g3 u o Y) 0 0 _
    exact x24_r0_r33_1_ok (g := g3) (y0 := ((g 1 1) - (1 : Int32))) (y1 := v1) h
  | false =>
    have h := iv_bf hb1 h
    refine iv_brf (mi' := 24) (pc' := 54) (ls' := [.ref 3, .ref 36, .int ((g 1 1) - (1 : Int32)), .int (0 : Int32), .int v1]) (st' := []) (A' := im_H g2 u o Y) (c' := 0) (s' := 0) (mi'' := 24) (pc'' := 40) (ls'' := [.ref 3, .ref 36, .int ((g 1 1) - (1 : Int32)), .int (0 : Int32), .int v1]) (st'' := []) (A'' := im_H g2 u o Y) (c'' := 0) (s'' := 0) 1 0 0 hb1 (fun n => rfl) ?_
    obtain ⟨v4, g4, hc, h⟩ := iv_bd h
    refine iv_cal (mi' := 24) (pc' := 47) (ls' := [.ref 3, .ref 36, .int ((g 1 1) - (1 : Int32)), .int (0 : Int32), .int v1]) (rest := [.int (0 : Int32), .ref 37]) (A' := im_H g2 u o Y) (c' := 0) (s' := 0) (as := [.int v1]) (v := some (.int v4)) (A'' := im_H g4 u o Y) 5 27 (fun n => rfl) rfl (x27_ok (g := g2) (a := v1) hc) ?_
    show iv_ev (iv_Xs L xs) 24 50 [.ref 3, .ref 36, .int ((g 1 1) - (1 : Int32)), .int (0 : Int32), .int v1] [.int v4, .int (0 : Int32), .ref 37] (im_H g4 u o Y) 0 0 _
    refine iv_blk (mi' := 24) (pc' := 51) (ls' := [.ref 3, .ref 36, .int ((g 1 1) - (1 : Int32)), .int (0 : Int32), .int v1]) (st' := []) (A' := List.set (im_H g4 u o Y) 34 (.inl (0, 4, .inl (upd (g4 34) 0 v4)))) (c' := 0) (s' := 0) 1 (fun n => rfl) ?_
    rw [im_a34]
    refine iv_blk (mi' := 24) (pc' := 85) (ls' := [.ref 3, .ref 36, .int ((g 1 1) - (1 : Int32)), .int (0 : Int32), .int v1]) (st' := []) (A' := im_H (im_w g4 34 0 v4) u o Y) (c' := 0) (s' := 0) 1 (fun n => rfl) ?_
    exact x24_r0_r33_1_ok (g := (im_w g4 34 0 v4)) (y0 := ((g 1 1) - (1 : Int32))) (y1 := v1) h
def x24_r0_r35_4 (g : im_M) (y0 : Int32) (y1 : Int32) : Option (Int32 × im_M) :=
  some (0, g)
set_option maxRecDepth 100000 in
set_option maxHeartbeats 4000000 in
theorem x24_r0_r35_4_ok {L : Nat} {xs : Nat → Int32} {g u mm : im_M} {o : Nat → Int64} {Y : iv_A} {y0 y1 ret : Int32} (h : x24_r0_r35_4 g y0 y1 = some (ret, mm)) : iv_ev (iv_Xs L xs) 24 85 [.ref 3, .ref 38, .int y0, .int (3 : Int32), .int y1] [] (im_H g u o Y) 0 0 (.inl none, im_H mm u o Y) := by
  unfold x24_r0_r35_4 at h
  cases h
  exact iv_ret 6 (fun n => rfl)
def x24_r0_r35_3 (g : im_M) (y0 : Int32) (y1 : Int32) : Option (Int32 × im_M) :=
  Option.bind (x25_r5_3_3 g ) (fun q13 =>
    Option.bind (x26 q13.2 q13.1 y0) (fun q14 =>
      bif Op.ifCond.holds .eq q14.1 then
        (Option.bind (x15_r1 (im_w (im_w q14.2 36 3 (7 : Int32)) 0 7 ((q14.2 0 7) + (1 : Int32))) (5 : Int32) (3 : Int32) (3 : Int32)) (fun q15 =>
          x24_r0_r35_4 q15.2 y0 q13.1))
      else
        (Option.bind (x27 q14.2 q13.1) (fun q16 =>
          x24_r0_r35_4 (im_w q16.2 36 3 q16.1) y0 q13.1))))
set_option maxRecDepth 100000 in
set_option maxHeartbeats 4000000 in
theorem x24_r0_r35_3_ok {L : Nat} {xs : Nat → Int32} {g u mm : im_M} {o : Nat → Int64} {Y : iv_A} {y0 y1 ret : Int32} (h : x24_r0_r35_3 g y0 y1 = some (ret, mm)) : iv_ev (iv_Xs L xs) 24 85 [.ref 3, .ref 38, .int y0, .int (2 : Int32), .int y1] [] (im_H g u o Y) 0 0 (.inl none, im_H mm u o Y) := by
  unfold x24_r0_r35_3 at h
  obtain ⟨v13, g13, hc, h⟩ := iv_bd h
  refine iv_cal (mi' := 24) (pc' := 26) (ls' := [.ref 3, .ref 38, .int y0, .int (3 : Int32), .int y1]) (rest := []) (A' := im_H g u o Y) (c' := 0) (s' := 0) (as := [.ref 8, .int (3 : Int32), .int (3 : Int32)]) (v := some (.int v13)) (A'' := im_H g13 u o Y) 11 25 (fun n => rfl) rfl (x25_r5_3_3_ok (g := g)  hc) ?_
  show iv_ev (iv_Xs L xs) 24 29 [.ref 3, .ref 38, .int y0, .int (3 : Int32), .int y1] [.int v13] (im_H g13 u o Y) 0 0 _
  obtain ⟨v14, g14, hc, h⟩ := iv_bd h
  refine iv_cal (mi' := 24) (pc' := 34) (ls' := [.ref 3, .ref 38, .int y0, .int (3 : Int32), .int v13]) (rest := []) (A' := im_H g13 u o Y) (c' := 0) (s' := 0) (as := [.int v13, .int y0]) (v := some (.int v14)) (A'' := im_H g14 u o Y) 4 26 (fun n => rfl) rfl (x26_ok (g := g13) (a := v13) (b := y0) hc) ?_
  show iv_ev (iv_Xs L xs) 24 37 [.ref 3, .ref 38, .int y0, .int (3 : Int32), .int v13] [.int v14] (im_H g14 u o Y) 0 0 _
  cases hb4 : Op.ifCond.holds .eq v14 with
  | true =>
    have h := iv_bt hb4 h
    refine iv_brt (mi' := 24) (pc' := 54) (ls' := [.ref 3, .ref 38, .int y0, .int (3 : Int32), .int v13]) (st' := []) (A' := im_H g14 u o Y) (c' := 0) (s' := 0) (mi'' := 24) (pc'' := 40) (ls'' := [.ref 3, .ref 38, .int y0, .int (3 : Int32), .int v13]) (st'' := []) (A'' := im_H g14 u o Y) (c'' := 0) (s'' := 0) 1 0 0 hb4 (fun n => rfl) ?_
    refine iv_blk (mi' := 24) (pc' := 62) (ls' := [.ref 3, .ref 38, .int y0, .int (3 : Int32), .int v13]) (st' := []) (A' := List.set (im_H g14 u o Y) 36 (.inl (0, 4, .inl (upd (g14 36) 3 (7 : Int32))))) (c' := 0) (s' := 0) 5 (fun n => rfl) ?_
    rw [im_a36]
    refine iv_blk (mi' := 24) (pc' := 72) (ls' := [.ref 3, .ref 38, .int y0, .int (3 : Int32), .int v13]) (st' := []) (A' := List.set (im_H (im_w g14 36 3 (7 : Int32)) u o Y) 0 (.inr (5, List.set [.int ((im_w g14 36 3 (7 : Int32)) 0 0), .ref 4, .ref 6, .ref 7, .ref 8, .ref 11, .int ((im_w g14 36 3 (7 : Int32)) 0 6), .int ((im_w g14 36 3 (7 : Int32)) 0 7)] 7 (.int ((g14 0 7) + (1 : Int32)))))) (c' := 0) (s' := 0) 6 (fun n => rfl) ?_
    rw [im_f0_7]
    obtain ⟨v15, g15, hc, h⟩ := iv_bd h
    refine iv_cal (mi' := 24) (pc' := 82) (ls' := [.ref 3, .ref 38, .int y0, .int (3 : Int32), .int v13]) (rest := []) (A' := im_H (im_w (im_w g14 36 3 (7 : Int32)) 0 7 ((g14 0 7) + (1 : Int32))) u o Y) (c' := 0) (s' := 0) (as := [.ref 4, .int (5 : Int32), .int (3 : Int32), .int (3 : Int32)]) (v := none) (A'' := im_H g15 u o Y) 7 15 (fun n => rfl) rfl (x15_r1_ok (g := (im_w (im_w g14 36 3 (7 : Int32)) 0 7 ((g14 0 7) + (1 : Int32)))) (a := (5 : Int32)) (b := (3 : Int32)) (c := (3 : Int32)) hc) ?_
    show iv_ev (iv_Xs L xs) 24 85 [.ref 3, .ref 38, .int y0, .int (3 : Int32), .int v13] [] (im_H g15 u o Y) 0 0 _
    exact x24_r0_r35_4_ok (g := g15) (y0 := y0) (y1 := v13) h
  | false =>
    have h := iv_bf hb4 h
    refine iv_brf (mi' := 24) (pc' := 54) (ls' := [.ref 3, .ref 38, .int y0, .int (3 : Int32), .int v13]) (st' := []) (A' := im_H g14 u o Y) (c' := 0) (s' := 0) (mi'' := 24) (pc'' := 40) (ls'' := [.ref 3, .ref 38, .int y0, .int (3 : Int32), .int v13]) (st'' := []) (A'' := im_H g14 u o Y) (c'' := 0) (s'' := 0) 1 0 0 hb4 (fun n => rfl) ?_
    obtain ⟨v16, g16, hc, h⟩ := iv_bd h
    refine iv_cal (mi' := 24) (pc' := 47) (ls' := [.ref 3, .ref 38, .int y0, .int (3 : Int32), .int v13]) (rest := [.int (3 : Int32), .ref 39]) (A' := im_H g14 u o Y) (c' := 0) (s' := 0) (as := [.int v13]) (v := some (.int v16)) (A'' := im_H g16 u o Y) 5 27 (fun n => rfl) rfl (x27_ok (g := g14) (a := v13) hc) ?_
    show iv_ev (iv_Xs L xs) 24 50 [.ref 3, .ref 38, .int y0, .int (3 : Int32), .int v13] [.int v16, .int (3 : Int32), .ref 39] (im_H g16 u o Y) 0 0 _
    refine iv_blk (mi' := 24) (pc' := 51) (ls' := [.ref 3, .ref 38, .int y0, .int (3 : Int32), .int v13]) (st' := []) (A' := List.set (im_H g16 u o Y) 36 (.inl (0, 4, .inl (upd (g16 36) 3 v16)))) (c' := 0) (s' := 0) 1 (fun n => rfl) ?_
    rw [im_a36]
    refine iv_blk (mi' := 24) (pc' := 85) (ls' := [.ref 3, .ref 38, .int y0, .int (3 : Int32), .int v13]) (st' := []) (A' := im_H (im_w g16 36 3 v16) u o Y) (c' := 0) (s' := 0) 1 (fun n => rfl) ?_
    exact x24_r0_r35_4_ok (g := (im_w g16 36 3 v16)) (y0 := y0) (y1 := v13) h
def x24_r0_r35_2 (g : im_M) (y0 : Int32) (y1 : Int32) : Option (Int32 × im_M) :=
  Option.bind (x25_r5_2_3 g ) (fun q9 =>
    Option.bind (x26 q9.2 q9.1 y0) (fun q10 =>
      bif Op.ifCond.holds .eq q10.1 then
        (Option.bind (x15_r1 (im_w (im_w q10.2 36 2 (7 : Int32)) 0 7 ((q10.2 0 7) + (1 : Int32))) (5 : Int32) (3 : Int32) (2 : Int32)) (fun q11 =>
          x24_r0_r35_3 q11.2 y0 q9.1))
      else
        (Option.bind (x27 q10.2 q9.1) (fun q12 =>
          x24_r0_r35_3 (im_w q12.2 36 2 q12.1) y0 q9.1))))
set_option maxRecDepth 100000 in
set_option maxHeartbeats 4000000 in
theorem x24_r0_r35_2_ok {L : Nat} {xs : Nat → Int32} {g u mm : im_M} {o : Nat → Int64} {Y : iv_A} {y0 y1 ret : Int32} (h : x24_r0_r35_2 g y0 y1 = some (ret, mm)) : iv_ev (iv_Xs L xs) 24 85 [.ref 3, .ref 38, .int y0, .int (1 : Int32), .int y1] [] (im_H g u o Y) 0 0 (.inl none, im_H mm u o Y) := by
  unfold x24_r0_r35_2 at h
  obtain ⟨v9, g9, hc, h⟩ := iv_bd h
  refine iv_cal (mi' := 24) (pc' := 26) (ls' := [.ref 3, .ref 38, .int y0, .int (2 : Int32), .int y1]) (rest := []) (A' := im_H g u o Y) (c' := 0) (s' := 0) (as := [.ref 8, .int (2 : Int32), .int (3 : Int32)]) (v := some (.int v9)) (A'' := im_H g9 u o Y) 11 25 (fun n => rfl) rfl (x25_r5_2_3_ok (g := g)  hc) ?_
  show iv_ev (iv_Xs L xs) 24 29 [.ref 3, .ref 38, .int y0, .int (2 : Int32), .int y1] [.int v9] (im_H g9 u o Y) 0 0 _
  obtain ⟨v10, g10, hc, h⟩ := iv_bd h
  refine iv_cal (mi' := 24) (pc' := 34) (ls' := [.ref 3, .ref 38, .int y0, .int (2 : Int32), .int v9]) (rest := []) (A' := im_H g9 u o Y) (c' := 0) (s' := 0) (as := [.int v9, .int y0]) (v := some (.int v10)) (A'' := im_H g10 u o Y) 4 26 (fun n => rfl) rfl (x26_ok (g := g9) (a := v9) (b := y0) hc) ?_
  show iv_ev (iv_Xs L xs) 24 37 [.ref 3, .ref 38, .int y0, .int (2 : Int32), .int v9] [.int v10] (im_H g10 u o Y) 0 0 _
  cases hb3 : Op.ifCond.holds .eq v10 with
  | true =>
    have h := iv_bt hb3 h
    refine iv_brt (mi' := 24) (pc' := 54) (ls' := [.ref 3, .ref 38, .int y0, .int (2 : Int32), .int v9]) (st' := []) (A' := im_H g10 u o Y) (c' := 0) (s' := 0) (mi'' := 24) (pc'' := 40) (ls'' := [.ref 3, .ref 38, .int y0, .int (2 : Int32), .int v9]) (st'' := []) (A'' := im_H g10 u o Y) (c'' := 0) (s'' := 0) 1 0 0 hb3 (fun n => rfl) ?_
    refine iv_blk (mi' := 24) (pc' := 62) (ls' := [.ref 3, .ref 38, .int y0, .int (2 : Int32), .int v9]) (st' := []) (A' := List.set (im_H g10 u o Y) 36 (.inl (0, 4, .inl (upd (g10 36) 2 (7 : Int32))))) (c' := 0) (s' := 0) 5 (fun n => rfl) ?_
    rw [im_a36]
    refine iv_blk (mi' := 24) (pc' := 72) (ls' := [.ref 3, .ref 38, .int y0, .int (2 : Int32), .int v9]) (st' := []) (A' := List.set (im_H (im_w g10 36 2 (7 : Int32)) u o Y) 0 (.inr (5, List.set [.int ((im_w g10 36 2 (7 : Int32)) 0 0), .ref 4, .ref 6, .ref 7, .ref 8, .ref 11, .int ((im_w g10 36 2 (7 : Int32)) 0 6), .int ((im_w g10 36 2 (7 : Int32)) 0 7)] 7 (.int ((g10 0 7) + (1 : Int32)))))) (c' := 0) (s' := 0) 6 (fun n => rfl) ?_
    rw [im_f0_7]
    obtain ⟨v11, g11, hc, h⟩ := iv_bd h
    refine iv_cal (mi' := 24) (pc' := 82) (ls' := [.ref 3, .ref 38, .int y0, .int (2 : Int32), .int v9]) (rest := []) (A' := im_H (im_w (im_w g10 36 2 (7 : Int32)) 0 7 ((g10 0 7) + (1 : Int32))) u o Y) (c' := 0) (s' := 0) (as := [.ref 4, .int (5 : Int32), .int (3 : Int32), .int (2 : Int32)]) (v := none) (A'' := im_H g11 u o Y) 7 15 (fun n => rfl) rfl (x15_r1_ok (g := (im_w (im_w g10 36 2 (7 : Int32)) 0 7 ((g10 0 7) + (1 : Int32)))) (a := (5 : Int32)) (b := (3 : Int32)) (c := (2 : Int32)) hc) ?_
    show iv_ev (iv_Xs L xs) 24 85 [.ref 3, .ref 38, .int y0, .int (2 : Int32), .int v9] [] (im_H g11 u o Y) 0 0 _
    exact x24_r0_r35_3_ok (g := g11) (y0 := y0) (y1 := v9) h
  | false =>
    have h := iv_bf hb3 h
    refine iv_brf (mi' := 24) (pc' := 54) (ls' := [.ref 3, .ref 38, .int y0, .int (2 : Int32), .int v9]) (st' := []) (A' := im_H g10 u o Y) (c' := 0) (s' := 0) (mi'' := 24) (pc'' := 40) (ls'' := [.ref 3, .ref 38, .int y0, .int (2 : Int32), .int v9]) (st'' := []) (A'' := im_H g10 u o Y) (c'' := 0) (s'' := 0) 1 0 0 hb3 (fun n => rfl) ?_
    obtain ⟨v12, g12, hc, h⟩ := iv_bd h
    refine iv_cal (mi' := 24) (pc' := 47) (ls' := [.ref 3, .ref 38, .int y0, .int (2 : Int32), .int v9]) (rest := [.int (2 : Int32), .ref 39]) (A' := im_H g10 u o Y) (c' := 0) (s' := 0) (as := [.int v9]) (v := some (.int v12)) (A'' := im_H g12 u o Y) 5 27 (fun n => rfl) rfl (x27_ok (g := g10) (a := v9) hc) ?_
    show iv_ev (iv_Xs L xs) 24 50 [.ref 3, .ref 38, .int y0, .int (2 : Int32), .int v9] [.int v12, .int (2 : Int32), .ref 39] (im_H g12 u o Y) 0 0 _
    refine iv_blk (mi' := 24) (pc' := 51) (ls' := [.ref 3, .ref 38, .int y0, .int (2 : Int32), .int v9]) (st' := []) (A' := List.set (im_H g12 u o Y) 36 (.inl (0, 4, .inl (upd (g12 36) 2 v12)))) (c' := 0) (s' := 0) 1 (fun n => rfl) ?_
    rw [im_a36]
    refine iv_blk (mi' := 24) (pc' := 85) (ls' := [.ref 3, .ref 38, .int y0, .int (2 : Int32), .int v9]) (st' := []) (A' := im_H (im_w g12 36 2 v12) u o Y) (c' := 0) (s' := 0) 1 (fun n => rfl) ?_
    exact x24_r0_r35_3_ok (g := (im_w g12 36 2 v12)) (y0 := y0) (y1 := v9) h
def x24_r0_r35_1 (g : im_M) (y0 : Int32) (y1 : Int32) : Option (Int32 × im_M) :=
  Option.bind (x25_r5_1_3 g ) (fun q5 =>
    Option.bind (x26 q5.2 q5.1 y0) (fun q6 =>
      bif Op.ifCond.holds .eq q6.1 then
        (Option.bind (x15_r1 (im_w (im_w q6.2 36 1 (7 : Int32)) 0 7 ((q6.2 0 7) + (1 : Int32))) (5 : Int32) (3 : Int32) (1 : Int32)) (fun q7 =>
          x24_r0_r35_2 q7.2 y0 q5.1))
      else
        (Option.bind (x27 q6.2 q5.1) (fun q8 =>
          x24_r0_r35_2 (im_w q8.2 36 1 q8.1) y0 q5.1))))
set_option maxRecDepth 100000 in
set_option maxHeartbeats 4000000 in
theorem x24_r0_r35_1_ok {L : Nat} {xs : Nat → Int32} {g u mm : im_M} {o : Nat → Int64} {Y : iv_A} {y0 y1 ret : Int32} (h : x24_r0_r35_1 g y0 y1 = some (ret, mm)) : iv_ev (iv_Xs L xs) 24 85 [.ref 3, .ref 38, .int y0, .int (0 : Int32), .int y1] [] (im_H g u o Y) 0 0 (.inl none, im_H mm u o Y) := by
  unfold x24_r0_r35_1 at h
  obtain ⟨v5, g5, hc, h⟩ := iv_bd h
  refine iv_cal (mi' := 24) (pc' := 26) (ls' := [.ref 3, .ref 38, .int y0, .int (1 : Int32), .int y1]) (rest := []) (A' := im_H g u o Y) (c' := 0) (s' := 0) (as := [.ref 8, .int (1 : Int32), .int (3 : Int32)]) (v := some (.int v5)) (A'' := im_H g5 u o Y) 11 25 (fun n => rfl) rfl (x25_r5_1_3_ok (g := g)  hc) ?_
  show iv_ev (iv_Xs L xs) 24 29 [.ref 3, .ref 38, .int y0, .int (1 : Int32), .int y1] [.int v5] (im_H g5 u o Y) 0 0 _
  obtain ⟨v6, g6, hc, h⟩ := iv_bd h
  refine iv_cal (mi' := 24) (pc' := 34) (ls' := [.ref 3, .ref 38, .int y0, .int (1 : Int32), .int v5]) (rest := []) (A' := im_H g5 u o Y) (c' := 0) (s' := 0) (as := [.int v5, .int y0]) (v := some (.int v6)) (A'' := im_H g6 u o Y) 4 26 (fun n => rfl) rfl (x26_ok (g := g5) (a := v5) (b := y0) hc) ?_
  show iv_ev (iv_Xs L xs) 24 37 [.ref 3, .ref 38, .int y0, .int (1 : Int32), .int v5] [.int v6] (im_H g6 u o Y) 0 0 _
  cases hb2 : Op.ifCond.holds .eq v6 with
  | true =>
    have h := iv_bt hb2 h
    refine iv_brt (mi' := 24) (pc' := 54) (ls' := [.ref 3, .ref 38, .int y0, .int (1 : Int32), .int v5]) (st' := []) (A' := im_H g6 u o Y) (c' := 0) (s' := 0) (mi'' := 24) (pc'' := 40) (ls'' := [.ref 3, .ref 38, .int y0, .int (1 : Int32), .int v5]) (st'' := []) (A'' := im_H g6 u o Y) (c'' := 0) (s'' := 0) 1 0 0 hb2 (fun n => rfl) ?_
    refine iv_blk (mi' := 24) (pc' := 62) (ls' := [.ref 3, .ref 38, .int y0, .int (1 : Int32), .int v5]) (st' := []) (A' := List.set (im_H g6 u o Y) 36 (.inl (0, 4, .inl (upd (g6 36) 1 (7 : Int32))))) (c' := 0) (s' := 0) 5 (fun n => rfl) ?_
    rw [im_a36]
    refine iv_blk (mi' := 24) (pc' := 72) (ls' := [.ref 3, .ref 38, .int y0, .int (1 : Int32), .int v5]) (st' := []) (A' := List.set (im_H (im_w g6 36 1 (7 : Int32)) u o Y) 0 (.inr (5, List.set [.int ((im_w g6 36 1 (7 : Int32)) 0 0), .ref 4, .ref 6, .ref 7, .ref 8, .ref 11, .int ((im_w g6 36 1 (7 : Int32)) 0 6), .int ((im_w g6 36 1 (7 : Int32)) 0 7)] 7 (.int ((g6 0 7) + (1 : Int32)))))) (c' := 0) (s' := 0) 6 (fun n => rfl) ?_
    rw [im_f0_7]
    obtain ⟨v7, g7, hc, h⟩ := iv_bd h
    refine iv_cal (mi' := 24) (pc' := 82) (ls' := [.ref 3, .ref 38, .int y0, .int (1 : Int32), .int v5]) (rest := []) (A' := im_H (im_w (im_w g6 36 1 (7 : Int32)) 0 7 ((g6 0 7) + (1 : Int32))) u o Y) (c' := 0) (s' := 0) (as := [.ref 4, .int (5 : Int32), .int (3 : Int32), .int (1 : Int32)]) (v := none) (A'' := im_H g7 u o Y) 7 15 (fun n => rfl) rfl (x15_r1_ok (g := (im_w (im_w g6 36 1 (7 : Int32)) 0 7 ((g6 0 7) + (1 : Int32)))) (a := (5 : Int32)) (b := (3 : Int32)) (c := (1 : Int32)) hc) ?_
    show iv_ev (iv_Xs L xs) 24 85 [.ref 3, .ref 38, .int y0, .int (1 : Int32), .int v5] [] (im_H g7 u o Y) 0 0 _
    exact x24_r0_r35_2_ok (g := g7) (y0 := y0) (y1 := v5) h
  | false =>
    have h := iv_bf hb2 h
    refine iv_brf (mi' := 24) (pc' := 54) (ls' := [.ref 3, .ref 38, .int y0, .int (1 : Int32), .int v5]) (st' := []) (A' := im_H g6 u o Y) (c' := 0) (s' := 0) (mi'' := 24) (pc'' := 40) (ls'' := [.ref 3, .ref 38, .int y0, .int (1 : Int32), .int v5]) (st'' := []) (A'' := im_H g6 u o Y) (c'' := 0) (s'' := 0) 1 0 0 hb2 (fun n => rfl) ?_
    obtain ⟨v8, g8, hc, h⟩ := iv_bd h
    refine iv_cal (mi' := 24) (pc' := 47) (ls' := [.ref 3, .ref 38, .int y0, .int (1 : Int32), .int v5]) (rest := [.int (1 : Int32), .ref 39]) (A' := im_H g6 u o Y) (c' := 0) (s' := 0) (as := [.int v5]) (v := some (.int v8)) (A'' := im_H g8 u o Y) 5 27 (fun n => rfl) rfl (x27_ok (g := g6) (a := v5) hc) ?_
    show iv_ev (iv_Xs L xs) 24 50 [.ref 3, .ref 38, .int y0, .int (1 : Int32), .int v5] [.int v8, .int (1 : Int32), .ref 39] (im_H g8 u o Y) 0 0 _
    refine iv_blk (mi' := 24) (pc' := 51) (ls' := [.ref 3, .ref 38, .int y0, .int (1 : Int32), .int v5]) (st' := []) (A' := List.set (im_H g8 u o Y) 36 (.inl (0, 4, .inl (upd (g8 36) 1 v8)))) (c' := 0) (s' := 0) 1 (fun n => rfl) ?_
    rw [im_a36]
    refine iv_blk (mi' := 24) (pc' := 85) (ls' := [.ref 3, .ref 38, .int y0, .int (1 : Int32), .int v5]) (st' := []) (A' := im_H (im_w g8 36 1 v8) u o Y) (c' := 0) (s' := 0) 1 (fun n => rfl) ?_
    exact x24_r0_r35_2_ok (g := (im_w g8 36 1 v8)) (y0 := y0) (y1 := v5) h
def x24_r0_r35 (g : im_M) : Option (Int32 × im_M) :=
  Option.bind (x25_r5_0_3 g ) (fun q1 =>
    Option.bind (x26 q1.2 q1.1 ((g 1 1) - (1 : Int32))) (fun q2 =>
      bif Op.ifCond.holds .eq q2.1 then
        (Option.bind (x15_r1 (im_w (im_w q2.2 36 0 (7 : Int32)) 0 7 ((q2.2 0 7) + (1 : Int32))) (5 : Int32) (3 : Int32) (0 : Int32)) (fun q3 =>
          x24_r0_r35_1 q3.2 ((g 1 1) - (1 : Int32)) q1.1))
      else
        (Option.bind (x27 q2.2 q1.1) (fun q4 =>
          x24_r0_r35_1 (im_w q4.2 36 0 q4.1) ((g 1 1) - (1 : Int32)) q1.1))))
set_option maxRecDepth 100000 in
set_option maxHeartbeats 4000000 in
theorem x24_r0_r35_ok {L : Nat} {xs : Nat → Int32} {g u mm : im_M} {o : Nat → Int64} {Y : iv_A} {ret : Int32} (h : x24_r0_r35 g  = some (ret, mm)) : iv_ev (iv_Xs L xs) 24 0 [.ref 3, .ref 38, .retAddr 0, .retAddr 0, .retAddr 0] [] (im_H g u o Y) 0 0 (.inl none, im_H mm u o Y) := by
  unfold x24_r0_r35 at h
  obtain ⟨v1, g1, hc, h⟩ := iv_bd h
  refine iv_cal (mi' := 24) (pc' := 26) (ls' := [.ref 3, .ref 38, .int ((g 1 1) - (1 : Int32)), .int (0 : Int32), .retAddr 0]) (rest := []) (A' := im_H g u o Y) (c' := 0) (s' := 0) (as := [.ref 8, .int (0 : Int32), .int (3 : Int32)]) (v := some (.int v1)) (A'' := im_H g1 u o Y) 17 25 (fun n => rfl) rfl (x25_r5_0_3_ok (g := g)  hc) ?_
  show iv_ev (iv_Xs L xs) 24 29 [.ref 3, .ref 38, .int ((g 1 1) - (1 : Int32)), .int (0 : Int32), .retAddr 0] [.int v1] (im_H g1 u o Y) 0 0 _
  obtain ⟨v2, g2, hc, h⟩ := iv_bd h
  refine iv_cal (mi' := 24) (pc' := 34) (ls' := [.ref 3, .ref 38, .int ((g 1 1) - (1 : Int32)), .int (0 : Int32), .int v1]) (rest := []) (A' := im_H g1 u o Y) (c' := 0) (s' := 0) (as := [.int v1, .int ((g 1 1) - (1 : Int32))]) (v := some (.int v2)) (A'' := im_H g2 u o Y) 4 26 (fun n => rfl) rfl (x26_ok (g := g1) (a := v1) (b := ((g 1 1) - (1 : Int32))) hc) ?_
  show iv_ev (iv_Xs L xs) 24 37 [.ref 3, .ref 38, .int ((g 1 1) - (1 : Int32)), .int (0 : Int32), .int v1] [.int v2] (im_H g2 u o Y) 0 0 _
  cases hb1 : Op.ifCond.holds .eq v2 with
  | true =>
    have h := iv_bt hb1 h
    refine iv_brt (mi' := 24) (pc' := 54) (ls' := [.ref 3, .ref 38, .int ((g 1 1) - (1 : Int32)), .int (0 : Int32), .int v1]) (st' := []) (A' := im_H g2 u o Y) (c' := 0) (s' := 0) (mi'' := 24) (pc'' := 40) (ls'' := [.ref 3, .ref 38, .int ((g 1 1) - (1 : Int32)), .int (0 : Int32), .int v1]) (st'' := []) (A'' := im_H g2 u o Y) (c'' := 0) (s'' := 0) 1 0 0 hb1 (fun n => rfl) ?_
    refine iv_blk (mi' := 24) (pc' := 62) (ls' := [.ref 3, .ref 38, .int ((g 1 1) - (1 : Int32)), .int (0 : Int32), .int v1]) (st' := []) (A' := List.set (im_H g2 u o Y) 36 (.inl (0, 4, .inl (upd (g2 36) 0 (7 : Int32))))) (c' := 0) (s' := 0) 5 (fun n => rfl) ?_
    rw [im_a36]
    refine iv_blk (mi' := 24) (pc' := 72) (ls' := [.ref 3, .ref 38, .int ((g 1 1) - (1 : Int32)), .int (0 : Int32), .int v1]) (st' := []) (A' := List.set (im_H (im_w g2 36 0 (7 : Int32)) u o Y) 0 (.inr (5, List.set [.int ((im_w g2 36 0 (7 : Int32)) 0 0), .ref 4, .ref 6, .ref 7, .ref 8, .ref 11, .int ((im_w g2 36 0 (7 : Int32)) 0 6), .int ((im_w g2 36 0 (7 : Int32)) 0 7)] 7 (.int ((g2 0 7) + (1 : Int32)))))) (c' := 0) (s' := 0) 6 (fun n => rfl) ?_
    rw [im_f0_7]
    obtain ⟨v3, g3, hc, h⟩ := iv_bd h
    refine iv_cal (mi' := 24) (pc' := 82) (ls' := [.ref 3, .ref 38, .int ((g 1 1) - (1 : Int32)), .int (0 : Int32), .int v1]) (rest := []) (A' := im_H (im_w (im_w g2 36 0 (7 : Int32)) 0 7 ((g2 0 7) + (1 : Int32))) u o Y) (c' := 0) (s' := 0) (as := [.ref 4, .int (5 : Int32), .int (3 : Int32), .int (0 : Int32)]) (v := none) (A'' := im_H g3 u o Y) 7 15 (fun n => rfl) rfl (x15_r1_ok (g := (im_w (im_w g2 36 0 (7 : Int32)) 0 7 ((g2 0 7) + (1 : Int32)))) (a := (5 : Int32)) (b := (3 : Int32)) (c := (0 : Int32)) hc) ?_
    show iv_ev (iv_Xs L xs) 24 85 [.ref 3, .ref 38, .int ((g 1 1) - (1 : Int32)), .int (0 : Int32), .int v1] [] (im_H g3 u o Y) 0 0 _
    exact x24_r0_r35_1_ok (g := g3) (y0 := ((g 1 1) - (1 : Int32))) (y1 := v1) h
  | false =>
    have h := iv_bf hb1 h
    refine iv_brf (mi' := 24) (pc' := 54) (ls' := [.ref 3, .ref 38, .int ((g 1 1) - (1 : Int32)), .int (0 : Int32), .int v1]) (st' := []) (A' := im_H g2 u o Y) (c' := 0) (s' := 0) (mi'' := 24) (pc'' := 40) (ls'' := [.ref 3, .ref 38, .int ((g 1 1) - (1 : Int32)), .int (0 : Int32), .int v1]) (st'' := []) (A'' := im_H g2 u o Y) (c'' := 0) (s'' := 0) 1 0 0 hb1 (fun n => rfl) ?_
    obtain ⟨v4, g4, hc, h⟩ := iv_bd h
    refine iv_cal (mi' := 24) (pc' := 47) (ls' := [.ref 3, .ref 38, .int ((g 1 1) - (1 : Int32)), .int (0 : Int32), .int v1]) (rest := [.int (0 : Int32), .ref 39]) (A' := im_H g2 u o Y) (c' := 0) (s' := 0) (as := [.int v1]) (v := some (.int v4)) (A'' := im_H g4 u o Y) 5 27 (fun n => rfl) rfl (x27_ok (g := g2) (a := v1) hc) ?_
    show iv_ev (iv_Xs L xs) 24 50 [.ref 3, .ref 38, .int ((g 1 1) - (1 : Int32)), .int (0 : Int32), .int v1] [.int v4, .int (0 : Int32), .ref 39] (im_H g4 u o Y) 0 0 _
    refine iv_blk (mi' := 24) (pc' := 51) (ls' := [.ref 3, .ref 38, .int ((g 1 1) - (1 : Int32)), .int (0 : Int32), .int v1]) (st' := []) (A' := List.set (im_H g4 u o Y) 36 (.inl (0, 4, .inl (upd (g4 36) 0 v4)))) (c' := 0) (s' := 0) 1 (fun n => rfl) ?_
    rw [im_a36]
    refine iv_blk (mi' := 24) (pc' := 85) (ls' := [.ref 3, .ref 38, .int ((g 1 1) - (1 : Int32)), .int (0 : Int32), .int v1]) (st' := []) (A' := im_H (im_w g4 36 0 v4) u o Y) (c' := 0) (s' := 0) 1 (fun n => rfl) ?_
    exact x24_r0_r35_1_ok (g := (im_w g4 36 0 v4)) (y0 := ((g 1 1) - (1 : Int32))) (y1 := v1) h
