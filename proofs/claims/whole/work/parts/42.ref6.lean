/-! the reference: tick (printed by wip/gen/lay1.py) -/
def x90_r37_6 (u : im_M) (y0 : Int32) (y1 : Int32) (y2 : Int32) : Option (Int32 × im_M) :=
  bif (y2 == 0 || y2 == 1) then
    some (((u 37 22) - y0), (im_w u 37 21 y2))
  else none
set_option maxRecDepth 100000 in
set_option maxHeartbeats 4000000 in
theorem x90_r37_6_ok {L : Nat} {xs : Nat → Int32} {g u mm : im_M} {o : Nat → Int64} {Y : iv_A} {y0 y1 y2 ret : Int32} (h : x90_r37_6 u y0 y1 y2 = some (ret, mm)) : iv_ev (iv_Xs L xs) 90 193 [.ref 40, .int y0, .int (4 : Int32), .int y1, .int (4 : Int32)] [.int y2, .ref 40] (im_H g u o Y) 0 0 (.inl (some (.int ret)), im_H g mm o Y) := by
  unfold x90_r37_6 at h
  cases hb12 : (y2 == 0 || y2 == 1) with
  | false => exact (iv_bn hb12 h).elim
  | true =>
    have h := iv_bt hb12 h
    refine iv_chk (mi' := 90) (pc' := 196) (ls' := [.ref 40, .int y0, .int (4 : Int32), .int y1, .int (4 : Int32)]) (st' := []) (A' := List.set (im_H g u o Y) 37 (.inr (6, List.set [.int (u 37 0), .int (u 37 1), .int (u 37 2), .ref 41, .ref 42, .ref 43, .ref 44, .ref 45, .ref 46, .ref 47, .ref 48, .ref 49, .ref 50, .ref 51, .ref 52, .ref 53, .ref 54, .ref 55, .ref 56, .int (u 37 19), .int (u 37 20), .int (u 37 21), .int (u 37 22), .ref 57, .ref 58, .ref 59, .ref 60, .int (u 37 27), .int (u 37 28), .int (u 37 29)] 21 (.int y2)))) (c' := 0) (s' := 0) 1 (iv_b3 hb12) (fun n => rfl) ?_
    rw [im_f37_21]
    cases h
    exact iv_ret 5 (fun n => rfl)
def x90_r37_5 (u : im_M) (y0 : Int32) (y1 : Int32) (y2 : Int32) (y3 : Int32) : Option (Int32 × im_M) :=
  Option.bind (x102_r37 u (3 : Int32) (0 : Int32) (y3 ||| y2)) (fun q54 =>
    Option.bind (x102_r37 q54.2 (3 : Int32) (1 : Int32) (y3 ||| y2)) (fun q55 =>
      Option.bind (x102_r37 q55.2 (3 : Int32) (2 : Int32) (y3 ||| y2)) (fun q56 =>
        Option.bind (x102_r37 q56.2 (3 : Int32) (3 : Int32) (y3 ||| y2)) (fun q57 =>
          bif Op.ifCond.holds .lt (q57.2 37 20) then
            (x90_r37_6 q57.2 y0 (y3 ||| y2) (0 : Int32))
          else
            (x90_r37_6 q57.2 y0 (y3 ||| y2) (1 : Int32))))))
set_option maxRecDepth 100000 in
set_option maxHeartbeats 4000000 in
theorem x90_r37_5_ok {L : Nat} {xs : Nat → Int32} {g u mm : im_M} {o : Nat → Int64} {Y : iv_A} {y0 y1 y2 y3 ret : Int32} (h : x90_r37_5 u y0 y1 y2 y3 = some (ret, mm)) : iv_ev (iv_Xs L xs) 90 149 [.ref 40, .int y0, .int (3 : Int32), .int y1, .int (4 : Int32)] [.int y2, .int y3] (im_H g u o Y) 0 0 (.inl (some (.int ret)), im_H g mm o Y) := by
  unfold x90_r37_5 at h
  obtain ⟨v54, g54, hc, h⟩ := iv_bd h
  refine iv_cal (mi' := 90) (pc' := 165) (ls' := [.ref 40, .int y0, .int (3 : Int32), .int (y3 ||| y2), .int (0 : Int32)]) (rest := []) (A' := im_H g u o Y) (c' := 0) (s' := 0) (as := [.ref 40, .int (3 : Int32), .int (0 : Int32), .int (y3 ||| y2)]) (v := none) (A'' := im_H g g54 o Y) 12 102 (fun n => rfl) rfl (x102_r37_ok (u := u) (a := (3 : Int32)) (b := (0 : Int32)) (c := (y3 ||| y2)) hc) ?_
  show iv_ev (iv_Xs L xs) 90 168 [.ref 40, .int y0, .int (3 : Int32), .int (y3 ||| y2), .int (0 : Int32)] [] (im_H g g54 o Y) 0 0 _
  obtain ⟨v55, g55, hc, h⟩ := iv_bd h
  refine iv_cal (mi' := 90) (pc' := 165) (ls' := [.ref 40, .int y0, .int (3 : Int32), .int (y3 ||| y2), .int (1 : Int32)]) (rest := []) (A' := im_H g g54 o Y) (c' := 0) (s' := 0) (as := [.ref 40, .int (3 : Int32), .int (1 : Int32), .int (y3 ||| y2)]) (v := none) (A'' := im_H g g55 o Y) 10 102 (fun n => rfl) rfl (x102_r37_ok (u := g54) (a := (3 : Int32)) (b := (1 : Int32)) (c := (y3 ||| y2)) hc) ?_
  show iv_ev (iv_Xs L xs) 90 168 [.ref 40, .int y0, .int (3 : Int32), .int (y3 ||| y2), .int (1 : Int32)] [] (im_H g g55 o Y) 0 0 _
  obtain ⟨v56, g56, hc, h⟩ := iv_bd h
  refine iv_cal (mi' := 90) (pc' := 165) (ls' := [.ref 40, .int y0, .int (3 : Int32), .int (y3 ||| y2), .int (2 : Int32)]) (rest := []) (A' := im_H g g55 o Y) (c' := 0) (s' := 0) (as := [.ref 40, .int (3 : Int32), .int (2 : Int32), .int (y3 ||| y2)]) (v := none) (A'' := im_H g g56 o Y) 10 102 (fun n => rfl) rfl (x102_r37_ok (u := g55) (a := (3 : Int32)) (b := (2 : Int32)) (c := (y3 ||| y2)) hc) ?_
  show iv_ev (iv_Xs L xs) 90 168 [.ref 40, .int y0, .int (3 : Int32), .int (y3 ||| y2), .int (2 : Int32)] [] (im_H g g56 o Y) 0 0 _
  obtain ⟨v57, g57, hc, h⟩ := iv_bd h
  refine iv_cal (mi' := 90) (pc' := 165) (ls' := [.ref 40, .int y0, .int (3 : Int32), .int (y3 ||| y2), .int (3 : Int32)]) (rest := []) (A' := im_H g g56 o Y) (c' := 0) (s' := 0) (as := [.ref 40, .int (3 : Int32), .int (3 : Int32), .int (y3 ||| y2)]) (v := none) (A'' := im_H g g57 o Y) 10 102 (fun n => rfl) rfl (x102_r37_ok (u := g56) (a := (3 : Int32)) (b := (3 : Int32)) (c := (y3 ||| y2)) hc) ?_
  show iv_ev (iv_Xs L xs) 90 168 [.ref 40, .int y0, .int (3 : Int32), .int (y3 ||| y2), .int (3 : Int32)] [] (im_H g g57 o Y) 0 0 _
  cases hb11 : Op.ifCond.holds .lt (g57 37 20) with
  | true =>
    have h := iv_bt hb11 h
    refine iv_brt (mi' := 90) (pc' := 192) (ls' := [.ref 40, .int y0, .int (4 : Int32), .int (y3 ||| y2), .int (4 : Int32)]) (st' := [.ref 40]) (A' := im_H g g57 o Y) (c' := 0) (s' := 0) (mi'' := 90) (pc'' := 188) (ls'' := [.ref 40, .int y0, .int (4 : Int32), .int (y3 ||| y2), .int (4 : Int32)]) (st'' := [.ref 40]) (A'' := im_H g g57 o Y) (c'' := 0) (s'' := 0) 14 0 0 hb11 (fun n => rfl) ?_
    refine iv_blk (mi' := 90) (pc' := 193) (ls' := [.ref 40, .int y0, .int (4 : Int32), .int (y3 ||| y2), .int (4 : Int32)]) (st' := [.int (0 : Int32), .ref 40]) (A' := im_H g g57 o Y) (c' := 0) (s' := 0) 1 (fun n => rfl) ?_
    exact x90_r37_6_ok (u := g57) (y0 := y0) (y1 := (y3 ||| y2)) (y2 := (0 : Int32)) h
  | false =>
    have h := iv_bf hb11 h
    refine iv_brf (mi' := 90) (pc' := 192) (ls' := [.ref 40, .int y0, .int (4 : Int32), .int (y3 ||| y2), .int (4 : Int32)]) (st' := [.ref 40]) (A' := im_H g g57 o Y) (c' := 0) (s' := 0) (mi'' := 90) (pc'' := 188) (ls'' := [.ref 40, .int y0, .int (4 : Int32), .int (y3 ||| y2), .int (4 : Int32)]) (st'' := [.ref 40]) (A'' := im_H g g57 o Y) (c'' := 0) (s'' := 0) 14 0 0 hb11 (fun n => rfl) ?_
    refine iv_blk (mi' := 90) (pc' := 193) (ls' := [.ref 40, .int y0, .int (4 : Int32), .int (y3 ||| y2), .int (4 : Int32)]) (st' := [.int (1 : Int32), .ref 40]) (A' := im_H g g57 o Y) (c' := 0) (s' := 0) 2 (fun n => rfl) ?_
    exact x90_r37_6_ok (u := g57) (y0 := y0) (y1 := (y3 ||| y2)) (y2 := (1 : Int32)) h
def x90_r37_4 (u : im_M) (y0 : Int32) (y1 : Int32) (y2 : Int32) (y3 : Int32) : Option (Int32 × im_M) :=
  Option.bind (x102_r37 u (2 : Int32) (0 : Int32) (y3 ||| y2)) (fun q48 =>
    Option.bind (x102_r37 q48.2 (2 : Int32) (1 : Int32) (y3 ||| y2)) (fun q49 =>
      Option.bind (x102_r37 q49.2 (2 : Int32) (2 : Int32) (y3 ||| y2)) (fun q50 =>
        Option.bind (x102_r37 q50.2 (2 : Int32) (3 : Int32) (y3 ||| y2)) (fun q51 =>
          Option.bind (x100_r37 q51.2 (3 : Int32)) (fun q52 =>
            Option.bind (x101_r37 q52.2 (3 : Int32)) (fun q53 =>
              bif Op.ifCond.holds .lt (q53.2 37 20) then
                (x90_r37_5 q53.2 y0 (q52.1 ||| q53.1) (0 : Int32) (q52.1 ||| q53.1))
              else
                (bif Op.if_icmp.holds .ne ((q53.2 37 20) / (3 : Int32)) (3 : Int32) then
                  (x90_r37_5 q53.2 y0 (q52.1 ||| q53.1) (0 : Int32) (q52.1 ||| q53.1))
                else
                  (x90_r37_5 q53.2 y0 (q52.1 ||| q53.1) ((8 : Int32) <<< (((q53.2 37 20) - (q53.2 37 20) / (3 : Int32) * (3 : Int32)) &&& 31)) (q52.1 ||| q53.1)))))))))
set_option maxRecDepth 100000 in
set_option maxHeartbeats 4000000 in
theorem x90_r37_4_ok {L : Nat} {xs : Nat → Int32} {g u mm : im_M} {o : Nat → Int64} {Y : iv_A} {y0 y1 y2 y3 ret : Int32} (h : x90_r37_4 u y0 y1 y2 y3 = some (ret, mm)) : iv_ev (iv_Xs L xs) 90 149 [.ref 40, .int y0, .int (2 : Int32), .int y1, .int (4 : Int32)] [.int y2, .int y3] (im_H g u o Y) 0 0 (.inl (some (.int ret)), im_H g mm o Y) := by
  unfold x90_r37_4 at h
  obtain ⟨v48, g48, hc, h⟩ := iv_bd h
  refine iv_cal (mi' := 90) (pc' := 165) (ls' := [.ref 40, .int y0, .int (2 : Int32), .int (y3 ||| y2), .int (0 : Int32)]) (rest := []) (A' := im_H g u o Y) (c' := 0) (s' := 0) (as := [.ref 40, .int (2 : Int32), .int (0 : Int32), .int (y3 ||| y2)]) (v := none) (A'' := im_H g g48 o Y) 12 102 (fun n => rfl) rfl (x102_r37_ok (u := u) (a := (2 : Int32)) (b := (0 : Int32)) (c := (y3 ||| y2)) hc) ?_
  show iv_ev (iv_Xs L xs) 90 168 [.ref 40, .int y0, .int (2 : Int32), .int (y3 ||| y2), .int (0 : Int32)] [] (im_H g g48 o Y) 0 0 _
  obtain ⟨v49, g49, hc, h⟩ := iv_bd h
  refine iv_cal (mi' := 90) (pc' := 165) (ls' := [.ref 40, .int y0, .int (2 : Int32), .int (y3 ||| y2), .int (1 : Int32)]) (rest := []) (A' := im_H g g48 o Y) (c' := 0) (s' := 0) (as := [.ref 40, .int (2 : Int32), .int (1 : Int32), .int (y3 ||| y2)]) (v := none) (A'' := im_H g g49 o Y) 10 102 (fun n => rfl) rfl (x102_r37_ok (u := g48) (a := (2 : Int32)) (b := (1 : Int32)) (c := (y3 ||| y2)) hc) ?_
  show iv_ev (iv_Xs L xs) 90 168 [.ref 40, .int y0, .int (2 : Int32), .int (y3 ||| y2), .int (1 : Int32)] [] (im_H g g49 o Y) 0 0 _
  obtain ⟨v50, g50, hc, h⟩ := iv_bd h
  refine iv_cal (mi' := 90) (pc' := 165) (ls' := [.ref 40, .int y0, .int (2 : Int32), .int (y3 ||| y2), .int (2 : Int32)]) (rest := []) (A' := im_H g g49 o Y) (c' := 0) (s' := 0) (as := [.ref 40, .int (2 : Int32), .int (2 : Int32), .int (y3 ||| y2)]) (v := none) (A'' := im_H g g50 o Y) 10 102 (fun n => rfl) rfl (x102_r37_ok (u := g49) (a := (2 : Int32)) (b := (2 : Int32)) (c := (y3 ||| y2)) hc) ?_
  show iv_ev (iv_Xs L xs) 90 168 [.ref 40, .int y0, .int (2 : Int32), .int (y3 ||| y2), .int (2 : Int32)] [] (im_H g g50 o Y) 0 0 _
  obtain ⟨v51, g51, hc, h⟩ := iv_bd h
  refine iv_cal (mi' := 90) (pc' := 165) (ls' := [.ref 40, .int y0, .int (2 : Int32), .int (y3 ||| y2), .int (3 : Int32)]) (rest := []) (A' := im_H g g50 o Y) (c' := 0) (s' := 0) (as := [.ref 40, .int (2 : Int32), .int (3 : Int32), .int (y3 ||| y2)]) (v := none) (A'' := im_H g g51 o Y) 10 102 (fun n => rfl) rfl (x102_r37_ok (u := g50) (a := (2 : Int32)) (b := (3 : Int32)) (c := (y3 ||| y2)) hc) ?_
  show iv_ev (iv_Xs L xs) 90 168 [.ref 40, .int y0, .int (2 : Int32), .int (y3 ||| y2), .int (3 : Int32)] [] (im_H g g51 o Y) 0 0 _
  obtain ⟨v52, g52, hc, h⟩ := iv_bd h
  refine iv_cal (mi' := 90) (pc' := 108) (ls' := [.ref 40, .int y0, .int (3 : Int32), .int (y3 ||| y2), .int (4 : Int32)]) (rest := []) (A' := im_H g g51 o Y) (c' := 0) (s' := 0) (as := [.ref 40, .int (3 : Int32)]) (v := some (.int v52)) (A'' := im_H g g52 o Y) 13 100 (fun n => rfl) rfl (x100_r37_ok (u := g51) (a := (3 : Int32)) hc) ?_
  show iv_ev (iv_Xs L xs) 90 111 [.ref 40, .int y0, .int (3 : Int32), .int (y3 ||| y2), .int (4 : Int32)] [.int v52] (im_H g g52 o Y) 0 0 _
  obtain ⟨v53, g53, hc, h⟩ := iv_bd h
  refine iv_cal (mi' := 90) (pc' := 113) (ls' := [.ref 40, .int y0, .int (3 : Int32), .int (y3 ||| y2), .int (4 : Int32)]) (rest := [.int v52]) (A' := im_H g g52 o Y) (c' := 0) (s' := 0) (as := [.ref 40, .int (3 : Int32)]) (v := some (.int v53)) (A'' := im_H g g53 o Y) 3 101 (fun n => rfl) rfl (x101_r37_ok (u := g52) (a := (3 : Int32)) hc) ?_
  show iv_ev (iv_Xs L xs) 90 116 [.ref 40, .int y0, .int (3 : Int32), .int (y3 ||| y2), .int (4 : Int32)] [.int v53, .int v52] (im_H g g53 o Y) 0 0 _
  cases hb9 : Op.ifCond.holds .lt (g53 37 20) with
  | true =>
    have h := iv_bt hb9 h
    refine iv_brt (mi' := 90) (pc' := 148) (ls' := [.ref 40, .int y0, .int (3 : Int32), .int (v52 ||| v53), .int (4 : Int32)]) (st' := [.int (v52 ||| v53)]) (A' := im_H g g53 o Y) (c' := 0) (s' := 0) (mi'' := 90) (pc'' := 126) (ls'' := [.ref 40, .int y0, .int (3 : Int32), .int (v52 ||| v53), .int (4 : Int32)]) (st'' := [.int (v52 ||| v53)]) (A'' := im_H g g53 o Y) (c'' := 0) (s'' := 0) 6 0 0 hb9 (fun n => rfl) ?_
    refine iv_blk (mi' := 90) (pc' := 149) (ls' := [.ref 40, .int y0, .int (3 : Int32), .int (v52 ||| v53), .int (4 : Int32)]) (st' := [.int (0 : Int32), .int (v52 ||| v53)]) (A' := im_H g g53 o Y) (c' := 0) (s' := 0) 1 (fun n => rfl) ?_
    exact x90_r37_5_ok (u := g53) (y0 := y0) (y1 := (v52 ||| v53)) (y2 := (0 : Int32)) (y3 := (v52 ||| v53)) h
  | false =>
    have h := iv_bf hb9 h
    refine iv_brf (mi' := 90) (pc' := 148) (ls' := [.ref 40, .int y0, .int (3 : Int32), .int (v52 ||| v53), .int (4 : Int32)]) (st' := [.int (v52 ||| v53)]) (A' := im_H g g53 o Y) (c' := 0) (s' := 0) (mi'' := 90) (pc'' := 126) (ls'' := [.ref 40, .int y0, .int (3 : Int32), .int (v52 ||| v53), .int (4 : Int32)]) (st'' := [.int (v52 ||| v53)]) (A'' := im_H g g53 o Y) (c'' := 0) (s'' := 0) 6 0 0 hb9 (fun n => rfl) ?_
    cases hb10 : Op.if_icmp.holds .ne ((g53 37 20) / (3 : Int32)) (3 : Int32) with
    | true =>
      have h := iv_bt hb10 h
      refine iv_brt (mi' := 90) (pc' := 148) (ls' := [.ref 40, .int y0, .int (3 : Int32), .int (v52 ||| v53), .int (4 : Int32)]) (st' := [.int (v52 ||| v53)]) (A' := im_H g g53 o Y) (c' := 0) (s' := 0) (mi'' := 90) (pc'' := 136) (ls'' := [.ref 40, .int y0, .int (3 : Int32), .int (v52 ||| v53), .int (4 : Int32)]) (st'' := [.int (v52 ||| v53)]) (A'' := im_H g g53 o Y) (c'' := 0) (s'' := 0) 6 0 0 hb10 (fun n => rfl) ?_
      refine iv_blk (mi' := 90) (pc' := 149) (ls' := [.ref 40, .int y0, .int (3 : Int32), .int (v52 ||| v53), .int (4 : Int32)]) (st' := [.int (0 : Int32), .int (v52 ||| v53)]) (A' := im_H g g53 o Y) (c' := 0) (s' := 0) 1 (fun n => rfl) ?_
      exact x90_r37_5_ok (u := g53) (y0 := y0) (y1 := (v52 ||| v53)) (y2 := (0 : Int32)) (y3 := (v52 ||| v53)) h
    | false =>
      have h := iv_bf hb10 h
      refine iv_brf (mi' := 90) (pc' := 148) (ls' := [.ref 40, .int y0, .int (3 : Int32), .int (v52 ||| v53), .int (4 : Int32)]) (st' := [.int (v52 ||| v53)]) (A' := im_H g g53 o Y) (c' := 0) (s' := 0) (mi'' := 90) (pc'' := 136) (ls'' := [.ref 40, .int y0, .int (3 : Int32), .int (v52 ||| v53), .int (4 : Int32)]) (st'' := [.int (v52 ||| v53)]) (A'' := im_H g g53 o Y) (c'' := 0) (s'' := 0) 6 0 0 hb10 (fun n => rfl) ?_
      refine iv_blk (mi' := 90) (pc' := 149) (ls' := [.ref 40, .int y0, .int (3 : Int32), .int (v52 ||| v53), .int (4 : Int32)]) (st' := [.int ((8 : Int32) <<< (((g53 37 20) - (g53 37 20) / (3 : Int32) * (3 : Int32)) &&& 31)), .int (v52 ||| v53)]) (A' := im_H g g53 o Y) (c' := 0) (s' := 0) 7 (fun n => rfl) ?_
      exact x90_r37_5_ok (u := g53) (y0 := y0) (y1 := (v52 ||| v53)) (y2 := ((8 : Int32) <<< (((g53 37 20) - (g53 37 20) / (3 : Int32) * (3 : Int32)) &&& 31))) (y3 := (v52 ||| v53)) h
def x90_r37_3 (u : im_M) (y0 : Int32) (y1 : Int32) (y2 : Int32) (y3 : Int32) : Option (Int32 × im_M) :=
  Option.bind (x102_r37 u (1 : Int32) (0 : Int32) (y3 ||| y2)) (fun q42 =>
    Option.bind (x102_r37 q42.2 (1 : Int32) (1 : Int32) (y3 ||| y2)) (fun q43 =>
      Option.bind (x102_r37 q43.2 (1 : Int32) (2 : Int32) (y3 ||| y2)) (fun q44 =>
        Option.bind (x102_r37 q44.2 (1 : Int32) (3 : Int32) (y3 ||| y2)) (fun q45 =>
          Option.bind (x100_r37 q45.2 (2 : Int32)) (fun q46 =>
            Option.bind (x101_r37 q46.2 (2 : Int32)) (fun q47 =>
              bif Op.ifCond.holds .lt (q47.2 37 20) then
                (x90_r37_4 q47.2 y0 (q46.1 ||| q47.1) (0 : Int32) (q46.1 ||| q47.1))
              else
                (bif Op.if_icmp.holds .ne ((q47.2 37 20) / (3 : Int32)) (2 : Int32) then
                  (x90_r37_4 q47.2 y0 (q46.1 ||| q47.1) (0 : Int32) (q46.1 ||| q47.1))
                else
                  (x90_r37_4 q47.2 y0 (q46.1 ||| q47.1) ((8 : Int32) <<< (((q47.2 37 20) - (q47.2 37 20) / (3 : Int32) * (3 : Int32)) &&& 31)) (q46.1 ||| q47.1)))))))))
set_option maxRecDepth 100000 in
set_option maxHeartbeats 4000000 in
theorem x90_r37_3_ok {L : Nat} {xs : Nat → Int32} {g u mm : im_M} {o : Nat → Int64} {Y : iv_A} {y0 y1 y2 y3 ret : Int32} (h : x90_r37_3 u y0 y1 y2 y3 = some (ret, mm)) : iv_ev (iv_Xs L xs) 90 149 [.ref 40, .int y0, .int (1 : Int32), .int y1, .int (4 : Int32)] [.int y2, .int y3] (im_H g u o Y) 0 0 (.inl (some (.int ret)), im_H g mm o Y) := by
  unfold x90_r37_3 at h
  obtain ⟨v42, g42, hc, h⟩ := iv_bd h
  refine iv_cal (mi' := 90) (pc' := 165) (ls' := [.ref 40, .int y0, .int (1 : Int32), .int (y3 ||| y2), .int (0 : Int32)]) (rest := []) (A' := im_H g u o Y) (c' := 0) (s' := 0) (as := [.ref 40, .int (1 : Int32), .int (0 : Int32), .int (y3 ||| y2)]) (v := none) (A'' := im_H g g42 o Y) 12 102 (fun n => rfl) rfl (x102_r37_ok (u := u) (a := (1 : Int32)) (b := (0 : Int32)) (c := (y3 ||| y2)) hc) ?_
  show iv_ev (iv_Xs L xs) 90 168 [.ref 40, .int y0, .int (1 : Int32), .int (y3 ||| y2), .int (0 : Int32)] [] (im_H g g42 o Y) 0 0 _
  obtain ⟨v43, g43, hc, h⟩ := iv_bd h
  refine iv_cal (mi' := 90) (pc' := 165) (ls' := [.ref 40, .int y0, .int (1 : Int32), .int (y3 ||| y2), .int (1 : Int32)]) (rest := []) (A' := im_H g g42 o Y) (c' := 0) (s' := 0) (as := [.ref 40, .int (1 : Int32), .int (1 : Int32), .int (y3 ||| y2)]) (v := none) (A'' := im_H g g43 o Y) 10 102 (fun n => rfl) rfl (x102_r37_ok (u := g42) (a := (1 : Int32)) (b := (1 : Int32)) (c := (y3 ||| y2)) hc) ?_
  show iv_ev (iv_Xs L xs) 90 168 [.ref 40, .int y0, .int (1 : Int32), .int (y3 ||| y2), .int (1 : Int32)] [] (im_H g g43 o Y) 0 0 _
  obtain ⟨v44, g44, hc, h⟩ := iv_bd h
  refine iv_cal (mi' := 90) (pc' := 165) (ls' := [.ref 40, .int y0, .int (1 : Int32), .int (y3 ||| y2), .int (2 : Int32)]) (rest := []) (A' := im_H g g43 o Y) (c' := 0) (s' := 0) (as := [.ref 40, .int (1 : Int32), .int (2 : Int32), .int (y3 ||| y2)]) (v := none) (A'' := im_H g g44 o Y) 10 102 (fun n => rfl) rfl (x102_r37_ok (u := g43) (a := (1 : Int32)) (b := (2 : Int32)) (c := (y3 ||| y2)) hc) ?_
  show iv_ev (iv_Xs L xs) 90 168 [.ref 40, .int y0, .int (1 : Int32), .int (y3 ||| y2), .int (2 : Int32)] [] (im_H g g44 o Y) 0 0 _
  obtain ⟨v45, g45, hc, h⟩ := iv_bd h
  refine iv_cal (mi' := 90) (pc' := 165) (ls' := [.ref 40, .int y0, .int (1 : Int32), .int (y3 ||| y2), .int (3 : Int32)]) (rest := []) (A' := im_H g g44 o Y) (c' := 0) (s' := 0) (as := [.ref 40, .int (1 : Int32), .int (3 : Int32), .int (y3 ||| y2)]) (v := none) (A'' := im_H g g45 o Y) 10 102 (fun n => rfl) rfl (x102_r37_ok (u := g44) (a := (1 : Int32)) (b := (3 : Int32)) (c := (y3 ||| y2)) hc) ?_
  show iv_ev (iv_Xs L xs) 90 168 [.ref 40, .int y0, .int (1 : Int32), .int (y3 ||| y2), .int (3 : Int32)] [] (im_H g g45 o Y) 0 0 _
  obtain ⟨v46, g46, hc, h⟩ := iv_bd h
  refine iv_cal (mi' := 90) (pc' := 108) (ls' := [.ref 40, .int y0, .int (2 : Int32), .int (y3 ||| y2), .int (4 : Int32)]) (rest := []) (A' := im_H g g45 o Y) (c' := 0) (s' := 0) (as := [.ref 40, .int (2 : Int32)]) (v := some (.int v46)) (A'' := im_H g g46 o Y) 13 100 (fun n => rfl) rfl (x100_r37_ok (u := g45) (a := (2 : Int32)) hc) ?_
  show iv_ev (iv_Xs L xs) 90 111 [.ref 40, .int y0, .int (2 : Int32), .int (y3 ||| y2), .int (4 : Int32)] [.int v46] (im_H g g46 o Y) 0 0 _
  obtain ⟨v47, g47, hc, h⟩ := iv_bd h
  refine iv_cal (mi' := 90) (pc' := 113) (ls' := [.ref 40, .int y0, .int (2 : Int32), .int (y3 ||| y2), .int (4 : Int32)]) (rest := [.int v46]) (A' := im_H g g46 o Y) (c' := 0) (s' := 0) (as := [.ref 40, .int (2 : Int32)]) (v := some (.int v47)) (A'' := im_H g g47 o Y) 3 101 (fun n => rfl) rfl (x101_r37_ok (u := g46) (a := (2 : Int32)) hc) ?_
  show iv_ev (iv_Xs L xs) 90 116 [.ref 40, .int y0, .int (2 : Int32), .int (y3 ||| y2), .int (4 : Int32)] [.int v47, .int v46] (im_H g g47 o Y) 0 0 _
  cases hb7 : Op.ifCond.holds .lt (g47 37 20) with
  | true =>
    have h := iv_bt hb7 h
    refine iv_brt (mi' := 90) (pc' := 148) (ls' := [.ref 40, .int y0, .int (2 : Int32), .int (v46 ||| v47), .int (4 : Int32)]) (st' := [.int (v46 ||| v47)]) (A' := im_H g g47 o Y) (c' := 0) (s' := 0) (mi'' := 90) (pc'' := 126) (ls'' := [.ref 40, .int y0, .int (2 : Int32), .int (v46 ||| v47), .int (4 : Int32)]) (st'' := [.int (v46 ||| v47)]) (A'' := im_H g g47 o Y) (c'' := 0) (s'' := 0) 6 0 0 hb7 (fun n => rfl) ?_
    refine iv_blk (mi' := 90) (pc' := 149) (ls' := [.ref 40, .int y0, .int (2 : Int32), .int (v46 ||| v47), .int (4 : Int32)]) (st' := [.int (0 : Int32), .int (v46 ||| v47)]) (A' := im_H g g47 o Y) (c' := 0) (s' := 0) 1 (fun n => rfl) ?_
    exact x90_r37_4_ok (u := g47) (y0 := y0) (y1 := (v46 ||| v47)) (y2 := (0 : Int32)) (y3 := (v46 ||| v47)) h
  | false =>
    have h := iv_bf hb7 h
    refine iv_brf (mi' := 90) (pc' := 148) (ls' := [.ref 40, .int y0, .int (2 : Int32), .int (v46 ||| v47), .int (4 : Int32)]) (st' := [.int (v46 ||| v47)]) (A' := im_H g g47 o Y) (c' := 0) (s' := 0) (mi'' := 90) (pc'' := 126) (ls'' := [.ref 40, .int y0, .int (2 : Int32), .int (v46 ||| v47), .int (4 : Int32)]) (st'' := [.int (v46 ||| v47)]) (A'' := im_H g g47 o Y) (c'' := 0) (s'' := 0) 6 0 0 hb7 (fun n => rfl) ?_
    cases hb8 : Op.if_icmp.holds .ne ((g47 37 20) / (3 : Int32)) (2 : Int32) with
    | true =>
      have h := iv_bt hb8 h
      refine iv_brt (mi' := 90) (pc' := 148) (ls' := [.ref 40, .int y0, .int (2 : Int32), .int (v46 ||| v47), .int (4 : Int32)]) (st' := [.int (v46 ||| v47)]) (A' := im_H g g47 o Y) (c' := 0) (s' := 0) (mi'' := 90) (pc'' := 136) (ls'' := [.ref 40, .int y0, .int (2 : Int32), .int (v46 ||| v47), .int (4 : Int32)]) (st'' := [.int (v46 ||| v47)]) (A'' := im_H g g47 o Y) (c'' := 0) (s'' := 0) 6 0 0 hb8 (fun n => rfl) ?_
      refine iv_blk (mi' := 90) (pc' := 149) (ls' := [.ref 40, .int y0, .int (2 : Int32), .int (v46 ||| v47), .int (4 : Int32)]) (st' := [.int (0 : Int32), .int (v46 ||| v47)]) (A' := im_H g g47 o Y) (c' := 0) (s' := 0) 1 (fun n => rfl) ?_
      exact x90_r37_4_ok (u := g47) (y0 := y0) (y1 := (v46 ||| v47)) (y2 := (0 : Int32)) (y3 := (v46 ||| v47)) h
    | false =>
      have h := iv_bf hb8 h
      refine iv_brf (mi' := 90) (pc' := 148) (ls' := [.ref 40, .int y0, .int (2 : Int32), .int (v46 ||| v47), .int (4 : Int32)]) (st' := [.int (v46 ||| v47)]) (A' := im_H g g47 o Y) (c' := 0) (s' := 0) (mi'' := 90) (pc'' := 136) (ls'' := [.ref 40, .int y0, .int (2 : Int32), .int (v46 ||| v47), .int (4 : Int32)]) (st'' := [.int (v46 ||| v47)]) (A'' := im_H g g47 o Y) (c'' := 0) (s'' := 0) 6 0 0 hb8 (fun n => rfl) ?_
      refine iv_blk (mi' := 90) (pc' := 149) (ls' := [.ref 40, .int y0, .int (2 : Int32), .int (v46 ||| v47), .int (4 : Int32)]) (st' := [.int ((8 : Int32) <<< (((g47 37 20) - (g47 37 20) / (3 : Int32) * (3 : Int32)) &&& 31)), .int (v46 ||| v47)]) (A' := im_H g g47 o Y) (c' := 0) (s' := 0) 7 (fun n => rfl) ?_
      exact x90_r37_4_ok (u := g47) (y0 := y0) (y1 := (v46 ||| v47)) (y2 := ((8 : Int32) <<< (((g47 37 20) - (g47 37 20) / (3 : Int32) * (3 : Int32)) &&& 31))) (y3 := (v46 ||| v47)) h
def x90_r37_2 (u : im_M) (y0 : Int32) (y1 : Int32) (y2 : Int32) (y3 : Int32) : Option (Int32 × im_M) :=
  Option.bind (x102_r37 u (0 : Int32) (0 : Int32) (y3 ||| y2)) (fun q36 =>
    Option.bind (x102_r37 q36.2 (0 : Int32) (1 : Int32) (y3 ||| y2)) (fun q37 =>
      Option.bind (x102_r37 q37.2 (0 : Int32) (2 : Int32) (y3 ||| y2)) (fun q38 =>
        Option.bind (x102_r37 q38.2 (0 : Int32) (3 : Int32) (y3 ||| y2)) (fun q39 =>
          Option.bind (x100_r37 q39.2 (1 : Int32)) (fun q40 =>
            Option.bind (x101_r37 q40.2 (1 : Int32)) (fun q41 =>
              bif Op.ifCond.holds .lt (q41.2 37 20) then
                (x90_r37_3 q41.2 y0 (q40.1 ||| q41.1) (0 : Int32) (q40.1 ||| q41.1))
              else
                (bif Op.if_icmp.holds .ne ((q41.2 37 20) / (3 : Int32)) (1 : Int32) then
                  (x90_r37_3 q41.2 y0 (q40.1 ||| q41.1) (0 : Int32) (q40.1 ||| q41.1))
                else
                  (x90_r37_3 q41.2 y0 (q40.1 ||| q41.1) ((8 : Int32) <<< (((q41.2 37 20) - (q41.2 37 20) / (3 : Int32) * (3 : Int32)) &&& 31)) (q40.1 ||| q41.1)))))))))
set_option maxRecDepth 100000 in
set_option maxHeartbeats 4000000 in
theorem x90_r37_2_ok {L : Nat} {xs : Nat → Int32} {g u mm : im_M} {o : Nat → Int64} {Y : iv_A} {y0 y1 y2 y3 ret : Int32} (h : x90_r37_2 u y0 y1 y2 y3 = some (ret, mm)) : iv_ev (iv_Xs L xs) 90 149 [.ref 40, .int y0, .int (0 : Int32), .int y1, .retAddr 0] [.int y2, .int y3] (im_H g u o Y) 0 0 (.inl (some (.int ret)), im_H g mm o Y) := by
  unfold x90_r37_2 at h
  obtain ⟨v36, g36, hc, h⟩ := iv_bd h
  refine iv_cal (mi' := 90) (pc' := 165) (ls' := [.ref 40, .int y0, .int (0 : Int32), .int (y3 ||| y2), .int (0 : Int32)]) (rest := []) (A' := im_H g u o Y) (c' := 0) (s' := 0) (as := [.ref 40, .int (0 : Int32), .int (0 : Int32), .int (y3 ||| y2)]) (v := none) (A'' := im_H g g36 o Y) 12 102 (fun n => rfl) rfl (x102_r37_ok (u := u) (a := (0 : Int32)) (b := (0 : Int32)) (c := (y3 ||| y2)) hc) ?_
  show iv_ev (iv_Xs L xs) 90 168 [.ref 40, .int y0, .int (0 : Int32), .int (y3 ||| y2), .int (0 : Int32)] [] (im_H g g36 o Y) 0 0 _
  obtain ⟨v37, g37, hc, h⟩ := iv_bd h
  refine iv_cal (mi' := 90) (pc' := 165) (ls' := [.ref 40, .int y0, .int (0 : Int32), .int (y3 ||| y2), .int (1 : Int32)]) (rest := []) (A' := im_H g g36 o Y) (c' := 0) (s' := 0) (as := [.ref 40, .int (0 : Int32), .int (1 : Int32), .int (y3 ||| y2)]) (v := none) (A'' := im_H g g37 o Y) 10 102 (fun n => rfl) rfl (x102_r37_ok (u := g36) (a := (0 : Int32)) (b := (1 : Int32)) (c := (y3 ||| y2)) hc) ?_
  show iv_ev (iv_Xs L xs) 90 168 [.ref 40, .int y0, .int (0 : Int32), .int (y3 ||| y2), .int (1 : Int32)] [] (im_H g g37 o Y) 0 0 _
  obtain ⟨v38, g38, hc, h⟩ := iv_bd h
  refine iv_cal (mi' := 90) (pc' := 165) (ls' := [.ref 40, .int y0, .int (0 : Int32), .int (y3 ||| y2), .int (2 : Int32)]) (rest := []) (A' := im_H g g37 o Y) (c' := 0) (s' := 0) (as := [.ref 40, .int (0 : Int32), .int (2 : Int32), .int (y3 ||| y2)]) (v := none) (A'' := im_H g g38 o Y) 10 102 (fun n => rfl) rfl (x102_r37_ok (u := g37) (a := (0 : Int32)) (b := (2 : Int32)) (c := (y3 ||| y2)) hc) ?_
  show iv_ev (iv_Xs L xs) 90 168 [.ref 40, .int y0, .int (0 : Int32), .int (y3 ||| y2), .int (2 : Int32)] [] (im_H g g38 o Y) 0 0 _
  obtain ⟨v39, g39, hc, h⟩ := iv_bd h
  refine iv_cal (mi' := 90) (pc' := 165) (ls' := [.ref 40, .int y0, .int (0 : Int32), .int (y3 ||| y2), .int (3 : Int32)]) (rest := []) (A' := im_H g g38 o Y) (c' := 0) (s' := 0) (as := [.ref 40, .int (0 : Int32), .int (3 : Int32), .int (y3 ||| y2)]) (v := none) (A'' := im_H g g39 o Y) 10 102 (fun n => rfl) rfl (x102_r37_ok (u := g38) (a := (0 : Int32)) (b := (3 : Int32)) (c := (y3 ||| y2)) hc) ?_
  show iv_ev (iv_Xs L xs) 90 168 [.ref 40, .int y0, .int (0 : Int32), .int (y3 ||| y2), .int (3 : Int32)] [] (im_H g g39 o Y) 0 0 _
  obtain ⟨v40, g40, hc, h⟩ := iv_bd h
  refine iv_cal (mi' := 90) (pc' := 108) (ls' := [.ref 40, .int y0, .int (1 : Int32), .int (y3 ||| y2), .int (4 : Int32)]) (rest := []) (A' := im_H g g39 o Y) (c' := 0) (s' := 0) (as := [.ref 40, .int (1 : Int32)]) (v := some (.int v40)) (A'' := im_H g g40 o Y) 13 100 (fun n => rfl) rfl (x100_r37_ok (u := g39) (a := (1 : Int32)) hc) ?_
  show iv_ev (iv_Xs L xs) 90 111 [.ref 40, .int y0, .int (1 : Int32), .int (y3 ||| y2), .int (4 : Int32)] [.int v40] (im_H g g40 o Y) 0 0 _
  obtain ⟨v41, g41, hc, h⟩ := iv_bd h
  refine iv_cal (mi' := 90) (pc' := 113) (ls' := [.ref 40, .int y0, .int (1 : Int32), .int (y3 ||| y2), .int (4 : Int32)]) (rest := [.int v40]) (A' := im_H g g40 o Y) (c' := 0) (s' := 0) (as := [.ref 40, .int (1 : Int32)]) (v := some (.int v41)) (A'' := im_H g g41 o Y) 3 101 (fun n => rfl) rfl (x101_r37_ok (u := g40) (a := (1 : Int32)) hc) ?_
  show iv_ev (iv_Xs L xs) 90 116 [.ref 40, .int y0, .int (1 : Int32), .int (y3 ||| y2), .int (4 : Int32)] [.int v41, .int v40] (im_H g g41 o Y) 0 0 _
  cases hb5 : Op.ifCond.holds .lt (g41 37 20) with
  | true =>
    have h := iv_bt hb5 h
    refine iv_brt (mi' := 90) (pc' := 148) (ls' := [.ref 40, .int y0, .int (1 : Int32), .int (v40 ||| v41), .int (4 : Int32)]) (st' := [.int (v40 ||| v41)]) (A' := im_H g g41 o Y) (c' := 0) (s' := 0) (mi'' := 90) (pc'' := 126) (ls'' := [.ref 40, .int y0, .int (1 : Int32), .int (v40 ||| v41), .int (4 : Int32)]) (st'' := [.int (v40 ||| v41)]) (A'' := im_H g g41 o Y) (c'' := 0) (s'' := 0) 6 0 0 hb5 (fun n => rfl) ?_
    refine iv_blk (mi' := 90) (pc' := 149) (ls' := [.ref 40, .int y0, .int (1 : Int32), .int (v40 ||| v41), .int (4 : Int32)]) (st' := [.int (0 : Int32), .int (v40 ||| v41)]) (A' := im_H g g41 o Y) (c' := 0) (s' := 0) 1 (fun n => rfl) ?_
    exact x90_r37_3_ok (u := g41) (y0 := y0) (y1 := (v40 ||| v41)) (y2 := (0 : Int32)) (y3 := (v40 ||| v41)) h
  | false =>
    have h := iv_bf hb5 h
    refine iv_brf (mi' := 90) (pc' := 148) (ls' := [.ref 40, .int y0, .int (1 : Int32), .int (v40 ||| v41), .int (4 : Int32)]) (st' := [.int (v40 ||| v41)]) (A' := im_H g g41 o Y) (c' := 0) (s' := 0) (mi'' := 90) (pc'' := 126) (ls'' := [.ref 40, .int y0, .int (1 : Int32), .int (v40 ||| v41), .int (4 : Int32)]) (st'' := [.int (v40 ||| v41)]) (A'' := im_H g g41 o Y) (c'' := 0) (s'' := 0) 6 0 0 hb5 (fun n => rfl) ?_
    cases hb6 : Op.if_icmp.holds .ne ((g41 37 20) / (3 : Int32)) (1 : Int32) with
    | true =>
      have h := iv_bt hb6 h
      refine iv_brt (mi' := 90) (pc' := 148) (ls' := [.ref 40, .int y0, .int (1 : Int32), .int (v40 ||| v41), .int (4 : Int32)]) (st' := [.int (v40 ||| v41)]) (A' := im_H g g41 o Y) (c' := 0) (s' := 0) (mi'' := 90) (pc'' := 136) (ls'' := [.ref 40, .int y0, .int (1 : Int32), .int (v40 ||| v41), .int (4 : Int32)]) (st'' := [.int (v40 ||| v41)]) (A'' := im_H g g41 o Y) (c'' := 0) (s'' := 0) 6 0 0 hb6 (fun n => rfl) ?_
      refine iv_blk (mi' := 90) (pc' := 149) (ls' := [.ref 40, .int y0, .int (1 : Int32), .int (v40 ||| v41), .int (4 : Int32)]) (st' := [.int (0 : Int32), .int (v40 ||| v41)]) (A' := im_H g g41 o Y) (c' := 0) (s' := 0) 1 (fun n => rfl) ?_
      exact x90_r37_3_ok (u := g41) (y0 := y0) (y1 := (v40 ||| v41)) (y2 := (0 : Int32)) (y3 := (v40 ||| v41)) h
    | false =>
      have h := iv_bf hb6 h
      refine iv_brf (mi' := 90) (pc' := 148) (ls' := [.ref 40, .int y0, .int (1 : Int32), .int (v40 ||| v41), .int (4 : Int32)]) (st' := [.int (v40 ||| v41)]) (A' := im_H g g41 o Y) (c' := 0) (s' := 0) (mi'' := 90) (pc'' := 136) (ls'' := [.ref 40, .int y0, .int (1 : Int32), .int (v40 ||| v41), .int (4 : Int32)]) (st'' := [.int (v40 ||| v41)]) (A'' := im_H g g41 o Y) (c'' := 0) (s'' := 0) 6 0 0 hb6 (fun n => rfl) ?_
      refine iv_blk (mi' := 90) (pc' := 149) (ls' := [.ref 40, .int y0, .int (1 : Int32), .int (v40 ||| v41), .int (4 : Int32)]) (st' := [.int ((8 : Int32) <<< (((g41 37 20) - (g41 37 20) / (3 : Int32) * (3 : Int32)) &&& 31)), .int (v40 ||| v41)]) (A' := im_H g g41 o Y) (c' := 0) (s' := 0) 7 (fun n => rfl) ?_
      exact x90_r37_3_ok (u := g41) (y0 := y0) (y1 := (v40 ||| v41)) (y2 := ((8 : Int32) <<< (((g41 37 20) - (g41 37 20) / (3 : Int32) * (3 : Int32)) &&& 31))) (y3 := (v40 ||| v41)) h
def x90_r37_1 (u : im_M) (y0 : Int32) : Option (Int32 × im_M) :=
  Option.bind (x100_r37 u (0 : Int32)) (fun q34 =>
    Option.bind (x101_r37 q34.2 (0 : Int32)) (fun q35 =>
      bif Op.ifCond.holds .lt (q35.2 37 20) then
        (x90_r37_2 q35.2 y0 (q34.1 ||| q35.1) (0 : Int32) (q34.1 ||| q35.1))
      else
        (bif Op.if_icmp.holds .ne ((q35.2 37 20) / (3 : Int32)) (0 : Int32) then
          (x90_r37_2 q35.2 y0 (q34.1 ||| q35.1) (0 : Int32) (q34.1 ||| q35.1))
        else
          (x90_r37_2 q35.2 y0 (q34.1 ||| q35.1) ((8 : Int32) <<< (((q35.2 37 20) - (q35.2 37 20) / (3 : Int32) * (3 : Int32)) &&& 31)) (q34.1 ||| q35.1)))))
set_option maxRecDepth 100000 in
set_option maxHeartbeats 4000000 in
theorem x90_r37_1_ok {L : Nat} {xs : Nat → Int32} {g u mm : im_M} {o : Nat → Int64} {Y : iv_A} {y0 ret : Int32} (h : x90_r37_1 u y0 = some (ret, mm)) : iv_ev (iv_Xs L xs) 90 99 [.ref 40, .int y0, .int (4 : Int32), .int (4 : Int32), .retAddr 0] [] (im_H g u o Y) 0 0 (.inl (some (.int ret)), im_H g mm o Y) := by
  unfold x90_r37_1 at h
  obtain ⟨v34, g34, hc, h⟩ := iv_bd h
  refine iv_cal (mi' := 90) (pc' := 108) (ls' := [.ref 40, .int y0, .int (0 : Int32), .int (4 : Int32), .retAddr 0]) (rest := []) (A' := im_H g u o Y) (c' := 0) (s' := 0) (as := [.ref 40, .int (0 : Int32)]) (v := some (.int v34)) (A'' := im_H g g34 o Y) 8 100 (fun n => rfl) rfl (x100_r37_ok (u := u) (a := (0 : Int32)) hc) ?_
  show iv_ev (iv_Xs L xs) 90 111 [.ref 40, .int y0, .int (0 : Int32), .int (4 : Int32), .retAddr 0] [.int v34] (im_H g g34 o Y) 0 0 _
  obtain ⟨v35, g35, hc, h⟩ := iv_bd h
  refine iv_cal (mi' := 90) (pc' := 113) (ls' := [.ref 40, .int y0, .int (0 : Int32), .int (4 : Int32), .retAddr 0]) (rest := [.int v34]) (A' := im_H g g34 o Y) (c' := 0) (s' := 0) (as := [.ref 40, .int (0 : Int32)]) (v := some (.int v35)) (A'' := im_H g g35 o Y) 3 101 (fun n => rfl) rfl (x101_r37_ok (u := g34) (a := (0 : Int32)) hc) ?_
  show iv_ev (iv_Xs L xs) 90 116 [.ref 40, .int y0, .int (0 : Int32), .int (4 : Int32), .retAddr 0] [.int v35, .int v34] (im_H g g35 o Y) 0 0 _
  cases hb3 : Op.ifCond.holds .lt (g35 37 20) with
  | true =>
    have h := iv_bt hb3 h
    refine iv_brt (mi' := 90) (pc' := 148) (ls' := [.ref 40, .int y0, .int (0 : Int32), .int (v34 ||| v35), .retAddr 0]) (st' := [.int (v34 ||| v35)]) (A' := im_H g g35 o Y) (c' := 0) (s' := 0) (mi'' := 90) (pc'' := 126) (ls'' := [.ref 40, .int y0, .int (0 : Int32), .int (v34 ||| v35), .retAddr 0]) (st'' := [.int (v34 ||| v35)]) (A'' := im_H g g35 o Y) (c'' := 0) (s'' := 0) 6 0 0 hb3 (fun n => rfl) ?_
    refine iv_blk (mi' := 90) (pc' := 149) (ls' := [.ref 40, .int y0, .int (0 : Int32), .int (v34 ||| v35), .retAddr 0]) (st' := [.int (0 : Int32), .int (v34 ||| v35)]) (A' := im_H g g35 o Y) (c' := 0) (s' := 0) 1 (fun n => rfl) ?_
    exact x90_r37_2_ok (u := g35) (y0 := y0) (y1 := (v34 ||| v35)) (y2 := (0 : Int32)) (y3 := (v34 ||| v35)) h
  | false =>
    have h := iv_bf hb3 h
    refine iv_brf (mi' := 90) (pc' := 148) (ls' := [.ref 40, .int y0, .int (0 : Int32), .int (v34 ||| v35), .retAddr 0]) (st' := [.int (v34 ||| v35)]) (A' := im_H g g35 o Y) (c' := 0) (s' := 0) (mi'' := 90) (pc'' := 126) (ls'' := [.ref 40, .int y0, .int (0 : Int32), .int (v34 ||| v35), .retAddr 0]) (st'' := [.int (v34 ||| v35)]) (A'' := im_H g g35 o Y) (c'' := 0) (s'' := 0) 6 0 0 hb3 (fun n => rfl) ?_
    cases hb4 : Op.if_icmp.holds .ne ((g35 37 20) / (3 : Int32)) (0 : Int32) with
    | true =>
      have h := iv_bt hb4 h
      refine iv_brt (mi' := 90) (pc' := 148) (ls' := [.ref 40, .int y0, .int (0 : Int32), .int (v34 ||| v35), .retAddr 0]) (st' := [.int (v34 ||| v35)]) (A' := im_H g g35 o Y) (c' := 0) (s' := 0) (mi'' := 90) (pc'' := 136) (ls'' := [.ref 40, .int y0, .int (0 : Int32), .int (v34 ||| v35), .retAddr 0]) (st'' := [.int (v34 ||| v35)]) (A'' := im_H g g35 o Y) (c'' := 0) (s'' := 0) 6 0 0 hb4 (fun n => rfl) ?_
      refine iv_blk (mi' := 90) (pc' := 149) (ls' := [.ref 40, .int y0, .int (0 : Int32), .int (v34 ||| v35), .retAddr 0]) (st' := [.int (0 : Int32), .int (v34 ||| v35)]) (A' := im_H g g35 o Y) (c' := 0) (s' := 0) 1 (fun n => rfl) ?_
      exact x90_r37_2_ok (u := g35) (y0 := y0) (y1 := (v34 ||| v35)) (y2 := (0 : Int32)) (y3 := (v34 ||| v35)) h
    | false =>
      have h := iv_bf hb4 h
      refine iv_brf (mi' := 90) (pc' := 148) (ls' := [.ref 40, .int y0, .int (0 : Int32), .int (v34 ||| v35), .retAddr 0]) (st' := [.int (v34 ||| v35)]) (A' := im_H g g35 o Y) (c' := 0) (s' := 0) (mi'' := 90) (pc'' := 136) (ls'' := [.ref 40, .int y0, .int (0 : Int32), .int (v34 ||| v35), .retAddr 0]) (st'' := [.int (v34 ||| v35)]) (A'' := im_H g g35 o Y) (c'' := 0) (s'' := 0) 6 0 0 hb4 (fun n => rfl) ?_
      refine iv_blk (mi' := 90) (pc' := 149) (ls' := [.ref 40, .int y0, .int (0 : Int32), .int (v34 ||| v35), .retAddr 0]) (st' := [.int ((8 : Int32) <<< (((g35 37 20) - (g35 37 20) / (3 : Int32) * (3 : Int32)) &&& 31)), .int (v34 ||| v35)]) (A' := im_H g g35 o Y) (c' := 0) (s' := 0) 7 (fun n => rfl) ?_
      exact x90_r37_2_ok (u := g35) (y0 := y0) (y1 := (v34 ||| v35)) (y2 := ((8 : Int32) <<< (((g35 37 20) - (g35 37 20) / (3 : Int32) * (3 : Int32)) &&& 31))) (y3 := (v34 ||| v35)) h
def x90_r37 (u : im_M) : Option (Int32 × im_M) :=
  Option.bind (x91_r37 (im_w (im_w u 37 1 (0 : Int32)) 37 2 ((u 37 2) + (1 : Int32))) (0 : Int32) (0 : Int32)) (fun q1 =>
    Option.bind (x91_r37 q1.2 (0 : Int32) (1 : Int32)) (fun q2 =>
      Option.bind (x91_r37 q2.2 (0 : Int32) (2 : Int32)) (fun q3 =>
        Option.bind (x91_r37 q3.2 (1 : Int32) (0 : Int32)) (fun q4 =>
          Option.bind (x91_r37 q4.2 (1 : Int32) (1 : Int32)) (fun q5 =>
            Option.bind (x91_r37 q5.2 (1 : Int32) (2 : Int32)) (fun q6 =>
              Option.bind (x91_r37 q6.2 (2 : Int32) (0 : Int32)) (fun q7 =>
                Option.bind (x91_r37 q7.2 (2 : Int32) (1 : Int32)) (fun q8 =>
                  Option.bind (x91_r37 q8.2 (2 : Int32) (2 : Int32)) (fun q9 =>
                    Option.bind (x91_r37 q9.2 (3 : Int32) (0 : Int32)) (fun q10 =>
                      Option.bind (x91_r37 q10.2 (3 : Int32) (1 : Int32)) (fun q11 =>
                        Option.bind (x91_r37 q11.2 (3 : Int32) (2 : Int32)) (fun q12 =>
                          Option.bind (x96_r37 q12.2 (0 : Int32) (0 : Int32)) (fun q13 =>
                            Option.bind (x96_r37 q13.2 (0 : Int32) (1 : Int32)) (fun q14 =>
                              Option.bind (x96_r37 q14.2 (0 : Int32) (2 : Int32)) (fun q15 =>
                                Option.bind (x96_r37 q15.2 (0 : Int32) (3 : Int32)) (fun q16 =>
                                  Option.bind (x98_r37 q16.2 (0 : Int32)) (fun q17 =>
                                    Option.bind (x96_r37 q17.2 (1 : Int32) (0 : Int32)) (fun q18 =>
                                      Option.bind (x96_r37 q18.2 (1 : Int32) (1 : Int32)) (fun q19 =>
                                        Option.bind (x96_r37 q19.2 (1 : Int32) (2 : Int32)) (fun q20 =>
                                          Option.bind (x96_r37 q20.2 (1 : Int32) (3 : Int32)) (fun q21 =>
                                            Option.bind (x98_r37 q21.2 (1 : Int32)) (fun q22 =>
                                              Option.bind (x96_r37 q22.2 (2 : Int32) (0 : Int32)) (fun q23 =>
                                                Option.bind (x96_r37 q23.2 (2 : Int32) (1 : Int32)) (fun q24 =>
                                                  Option.bind (x96_r37 q24.2 (2 : Int32) (2 : Int32)) (fun q25 =>
                                                    Option.bind (x96_r37 q25.2 (2 : Int32) (3 : Int32)) (fun q26 =>
                                                      Option.bind (x98_r37 q26.2 (2 : Int32)) (fun q27 =>
                                                        Option.bind (x96_r37 q27.2 (3 : Int32) (0 : Int32)) (fun q28 =>
                                                          Option.bind (x96_r37 q28.2 (3 : Int32) (1 : Int32)) (fun q29 =>
                                                            Option.bind (x96_r37 q29.2 (3 : Int32) (2 : Int32)) (fun q30 =>
                                                              Option.bind (x96_r37 q30.2 (3 : Int32) (3 : Int32)) (fun q31 =>
                                                                Option.bind (x98_r37 q31.2 (3 : Int32)) (fun q32 =>
                                                                  bif Op.ifCond.holds .lt (q32.2 37 20) then
                                                                    (x90_r37_1 q32.2 (u 37 22))
                                                                  else
                                                                    (bif Op.ifCond.holds .eq (q32.2 37 21) then
                                                                      (x90_r37_1 q32.2 (u 37 22))
                                                                    else
                                                                      (Option.bind (x99_r37 q32.2 ) (fun q33 =>
                                                                        x90_r37_1 q33.2 (u 37 22))))))))))))))))))))))))))))))))))))
set_option maxRecDepth 100000 in
set_option maxHeartbeats 4000000 in
theorem x90_r37_ok {L : Nat} {xs : Nat → Int32} {g u mm : im_M} {o : Nat → Int64} {Y : iv_A} {ret : Int32} (h : x90_r37 u  = some (ret, mm)) : iv_ev (iv_Xs L xs) 90 0 [.ref 40, .retAddr 0, .retAddr 0, .retAddr 0, .retAddr 0] [] (im_H g u o Y) 0 0 (.inl (some (.int ret)), im_H g mm o Y) := by
  unfold x90_r37 at h
  refine iv_blk (mi' := 90) (pc' := 5) (ls' := [.ref 40, .retAddr 0, .retAddr 0, .retAddr 0, .retAddr 0]) (st' := []) (A' := List.set (im_H g u o Y) 37 (.inr (6, List.set [.int (u 37 0), .int (u 37 1), .int (u 37 2), .ref 41, .ref 42, .ref 43, .ref 44, .ref 45, .ref 46, .ref 47, .ref 48, .ref 49, .ref 50, .ref 51, .ref 52, .ref 53, .ref 54, .ref 55, .ref 56, .int (u 37 19), .int (u 37 20), .int (u 37 21), .int (u 37 22), .ref 57, .ref 58, .ref 59, .ref 60, .int (u 37 27), .int (u 37 28), .int (u 37 29)] 1 (.int (0 : Int32))))) (c' := 0) (s' := 0) 3 (fun n => rfl) ?_
  rw [im_f37_1]
  refine iv_blk (mi' := 90) (pc' := 20) (ls' := [.ref 40, .int (u 37 22), .retAddr 0, .retAddr 0, .retAddr 0]) (st' := []) (A' := List.set (im_H g (im_w u 37 1 (0 : Int32)) o Y) 37 (.inr (6, List.set [.int ((im_w u 37 1 (0 : Int32)) 37 0), .int ((im_w u 37 1 (0 : Int32)) 37 1), .int ((im_w u 37 1 (0 : Int32)) 37 2), .ref 41, .ref 42, .ref 43, .ref 44, .ref 45, .ref 46, .ref 47, .ref 48, .ref 49, .ref 50, .ref 51, .ref 52, .ref 53, .ref 54, .ref 55, .ref 56, .int ((im_w u 37 1 (0 : Int32)) 37 19), .int ((im_w u 37 1 (0 : Int32)) 37 20), .int ((im_w u 37 1 (0 : Int32)) 37 21), .int ((im_w u 37 1 (0 : Int32)) 37 22), .ref 57, .ref 58, .ref 59, .ref 60, .int ((im_w u 37 1 (0 : Int32)) 37 27), .int ((im_w u 37 1 (0 : Int32)) 37 28), .int ((im_w u 37 1 (0 : Int32)) 37 29)] 2 (.int ((u 37 2) + (1 : Int32)))))) (c' := 0) (s' := 0) 9 (fun n => rfl) ?_
  rw [im_f37_2]
  obtain ⟨v1, g1, hc, h⟩ := iv_bd h
  refine iv_cal (mi' := 90) (pc' := 35) (ls' := [.ref 40, .int (u 37 22), .int (0 : Int32), .retAddr 0, .retAddr 0]) (rest := []) (A' := im_H g (im_w (im_w u 37 1 (0 : Int32)) 37 2 ((u 37 2) + (1 : Int32))) o Y) (c' := 0) (s' := 0) (as := [.ref 40, .int (0 : Int32), .int (0 : Int32)]) (v := none) (A'' := im_H g g1 o Y) 13 91 (fun n => rfl) rfl (x91_r37_ok (u := (im_w (im_w u 37 1 (0 : Int32)) 37 2 ((u 37 2) + (1 : Int32)))) (a := (0 : Int32)) (b := (0 : Int32)) hc) ?_
  show iv_ev (iv_Xs L xs) 90 38 [.ref 40, .int (u 37 22), .int (0 : Int32), .retAddr 0, .retAddr 0] [] (im_H g g1 o Y) 0 0 _
  obtain ⟨v2, g2, hc, h⟩ := iv_bd h
  refine iv_cal (mi' := 90) (pc' := 35) (ls' := [.ref 40, .int (u 37 22), .int (1 : Int32), .retAddr 0, .retAddr 0]) (rest := []) (A' := im_H g g1 o Y) (c' := 0) (s' := 0) (as := [.ref 40, .int (0 : Int32), .int (1 : Int32)]) (v := none) (A'' := im_H g g2 o Y) 13 91 (fun n => rfl) rfl (x91_r37_ok (u := g1) (a := (0 : Int32)) (b := (1 : Int32)) hc) ?_
  show iv_ev (iv_Xs L xs) 90 38 [.ref 40, .int (u 37 22), .int (1 : Int32), .retAddr 0, .retAddr 0] [] (im_H g g2 o Y) 0 0 _
  obtain ⟨v3, g3, hc, h⟩ := iv_bd h
  refine iv_cal (mi' := 90) (pc' := 35) (ls' := [.ref 40, .int (u 37 22), .int (2 : Int32), .retAddr 0, .retAddr 0]) (rest := []) (A' := im_H g g2 o Y) (c' := 0) (s' := 0) (as := [.ref 40, .int (0 : Int32), .int (2 : Int32)]) (v := none) (A'' := im_H g g3 o Y) 13 91 (fun n => rfl) rfl (x91_r37_ok (u := g2) (a := (0 : Int32)) (b := (2 : Int32)) hc) ?_
  show iv_ev (iv_Xs L xs) 90 38 [.ref 40, .int (u 37 22), .int (2 : Int32), .retAddr 0, .retAddr 0] [] (im_H g g3 o Y) 0 0 _
  obtain ⟨v4, g4, hc, h⟩ := iv_bd h
  refine iv_cal (mi' := 90) (pc' := 35) (ls' := [.ref 40, .int (u 37 22), .int (3 : Int32), .retAddr 0, .retAddr 0]) (rest := []) (A' := im_H g g3 o Y) (c' := 0) (s' := 0) (as := [.ref 40, .int (1 : Int32), .int (0 : Int32)]) (v := none) (A'' := im_H g g4 o Y) 13 91 (fun n => rfl) rfl (x91_r37_ok (u := g3) (a := (1 : Int32)) (b := (0 : Int32)) hc) ?_
  show iv_ev (iv_Xs L xs) 90 38 [.ref 40, .int (u 37 22), .int (3 : Int32), .retAddr 0, .retAddr 0] [] (im_H g g4 o Y) 0 0 _
  obtain ⟨v5, g5, hc, h⟩ := iv_bd h
  refine iv_cal (mi' := 90) (pc' := 35) (ls' := [.ref 40, .int (u 37 22), .int (4 : Int32), .retAddr 0, .retAddr 0]) (rest := []) (A' := im_H g g4 o Y) (c' := 0) (s' := 0) (as := [.ref 40, .int (1 : Int32), .int (1 : Int32)]) (v := none) (A'' := im_H g g5 o Y) 13 91 (fun n => rfl) rfl (x91_r37_ok (u := g4) (a := (1 : Int32)) (b := (1 : Int32)) hc) ?_
  show iv_ev (iv_Xs L xs) 90 38 [.ref 40, .int (u 37 22), .int (4 : Int32), .retAddr 0, .retAddr 0] [] (im_H g g5 o Y) 0 0 _
  obtain ⟨v6, g6, hc, h⟩ := iv_bd h
  refine iv_cal (mi' := 90) (pc' := 35) (ls' := [.ref 40, .int (u 37 22), .int (5 : Int32), .retAddr 0, .retAddr 0]) (rest := []) (A' := im_H g g5 o Y) (c' := 0) (s' := 0) (as := [.ref 40, .int (1 : Int32), .int (2 : Int32)]) (v := none) (A'' := im_H g g6 o Y) 13 91 (fun n => rfl) rfl (x91_r37_ok (u := g5) (a := (1 : Int32)) (b := (2 : Int32)) hc) ?_
  show iv_ev (iv_Xs L xs) 90 38 [.ref 40, .int (u 37 22), .int (5 : Int32), .retAddr 0, .retAddr 0] [] (im_H g g6 o Y) 0 0 _
  obtain ⟨v7, g7, hc, h⟩ := iv_bd h
  refine iv_cal (mi' := 90) (pc' := 35) (ls' := [.ref 40, .int (u 37 22), .int (6 : Int32), .retAddr 0, .retAddr 0]) (rest := []) (A' := im_H g g6 o Y) (c' := 0) (s' := 0) (as := [.ref 40, .int (2 : Int32), .int (0 : Int32)]) (v := none) (A'' := im_H g g7 o Y) 13 91 (fun n => rfl) rfl (x91_r37_ok (u := g6) (a := (2 : Int32)) (b := (0 : Int32)) hc) ?_
  show iv_ev (iv_Xs L xs) 90 38 [.ref 40, .int (u 37 22), .int (6 : Int32), .retAddr 0, .retAddr 0] [] (im_H g g7 o Y) 0 0 _
  obtain ⟨v8, g8, hc, h⟩ := iv_bd h
  refine iv_cal (mi' := 90) (pc' := 35) (ls' := [.ref 40, .int (u 37 22), .int (7 : Int32), .retAddr 0, .retAddr 0]) (rest := []) (A' := im_H g g7 o Y) (c' := 0) (s' := 0) (as := [.ref 40, .int (2 : Int32), .int (1 : Int32)]) (v := none) (A'' := im_H g g8 o Y) 13 91 (fun n => rfl) rfl (x91_r37_ok (u := g7) (a := (2 : Int32)) (b := (1 : Int32)) hc) ?_
  show iv_ev (iv_Xs L xs) 90 38 [.ref 40, .int (u 37 22), .int (7 : Int32), .retAddr 0, .retAddr 0] [] (im_H g g8 o Y) 0 0 _
  obtain ⟨v9, g9, hc, h⟩ := iv_bd h
  refine iv_cal (mi' := 90) (pc' := 35) (ls' := [.ref 40, .int (u 37 22), .int (8 : Int32), .retAddr 0, .retAddr 0]) (rest := []) (A' := im_H g g8 o Y) (c' := 0) (s' := 0) (as := [.ref 40, .int (2 : Int32), .int (2 : Int32)]) (v := none) (A'' := im_H g g9 o Y) 13 91 (fun n => rfl) rfl (x91_r37_ok (u := g8) (a := (2 : Int32)) (b := (2 : Int32)) hc) ?_
  show iv_ev (iv_Xs L xs) 90 38 [.ref 40, .int (u 37 22), .int (8 : Int32), .retAddr 0, .retAddr 0] [] (im_H g g9 o Y) 0 0 _
  obtain ⟨v10, g10, hc, h⟩ := iv_bd h
  refine iv_cal (mi' := 90) (pc' := 35) (ls' := [.ref 40, .int (u 37 22), .int (9 : Int32), .retAddr 0, .retAddr 0]) (rest := []) (A' := im_H g g9 o Y) (c' := 0) (s' := 0) (as := [.ref 40, .int (3 : Int32), .int (0 : Int32)]) (v := none) (A'' := im_H g g10 o Y) 13 91 (fun n => rfl) rfl (x91_r37_ok (u := g9) (a := (3 : Int32)) (b := (0 : Int32)) hc) ?_
  show iv_ev (iv_Xs L xs) 90 38 [.ref 40, .int (u 37 22), .int (9 : Int32), .retAddr 0, .retAddr 0] [] (im_H g g10 o Y) 0 0 _
  obtain ⟨v11, g11, hc, h⟩ := iv_bd h
  refine iv_cal (mi' := 90) (pc' := 35) (ls' := [.ref 40, .int (u 37 22), .int (10 : Int32), .retAddr 0, .retAddr 0]) (rest := []) (A' := im_H g g10 o Y) (c' := 0) (s' := 0) (as := [.ref 40, .int (3 : Int32), .int (1 : Int32)]) (v := none) (A'' := im_H g g11 o Y) 13 91 (fun n => rfl) rfl (x91_r37_ok (u := g10) (a := (3 : Int32)) (b := (1 : Int32)) hc) ?_
  show iv_ev (iv_Xs L xs) 90 38 [.ref 40, .int (u 37 22), .int (10 : Int32), .retAddr 0, .retAddr 0] [] (im_H g g11 o Y) 0 0 _
  obtain ⟨v12, g12, hc, h⟩ := iv_bd h
  refine iv_cal (mi' := 90) (pc' := 35) (ls' := [.ref 40, .int (u 37 22), .int (11 : Int32), .retAddr 0, .retAddr 0]) (rest := []) (A' := im_H g g11 o Y) (c' := 0) (s' := 0) (as := [.ref 40, .int (3 : Int32), .int (2 : Int32)]) (v := none) (A'' := im_H g g12 o Y) 13 91 (fun n => rfl) rfl (x91_r37_ok (u := g11) (a := (3 : Int32)) (b := (2 : Int32)) hc) ?_
  show iv_ev (iv_Xs L xs) 90 38 [.ref 40, .int (u 37 22), .int (11 : Int32), .retAddr 0, .retAddr 0] [] (im_H g g12 o Y) 0 0 _
  obtain ⟨v13, g13, hc, h⟩ := iv_bd h
  refine iv_cal (mi' := 90) (pc' := 61) (ls' := [.ref 40, .int (u 37 22), .int (0 : Int32), .int (0 : Int32), .retAddr 0]) (rest := []) (A' := im_H g g12 o Y) (c' := 0) (s' := 0) (as := [.ref 40, .int (0 : Int32), .int (0 : Int32)]) (v := none) (A'' := im_H g g13 o Y) 19 96 (fun n => rfl) rfl (x96_r37_ok (u := g12) (a := (0 : Int32)) (b := (0 : Int32)) hc) ?_
  show iv_ev (iv_Xs L xs) 90 64 [.ref 40, .int (u 37 22), .int (0 : Int32), .int (0 : Int32), .retAddr 0] [] (im_H g g13 o Y) 0 0 _
  obtain ⟨v14, g14, hc, h⟩ := iv_bd h
  refine iv_cal (mi' := 90) (pc' := 61) (ls' := [.ref 40, .int (u 37 22), .int (0 : Int32), .int (1 : Int32), .retAddr 0]) (rest := []) (A' := im_H g g13 o Y) (c' := 0) (s' := 0) (as := [.ref 40, .int (0 : Int32), .int (1 : Int32)]) (v := none) (A'' := im_H g g14 o Y) 9 96 (fun n => rfl) rfl (x96_r37_ok (u := g13) (a := (0 : Int32)) (b := (1 : Int32)) hc) ?_
  show iv_ev (iv_Xs L xs) 90 64 [.ref 40, .int (u 37 22), .int (0 : Int32), .int (1 : Int32), .retAddr 0] [] (im_H g g14 o Y) 0 0 _
  obtain ⟨v15, g15, hc, h⟩ := iv_bd h
  refine iv_cal (mi' := 90) (pc' := 61) (ls' := [.ref 40, .int (u 37 22), .int (0 : Int32), .int (2 : Int32), .retAddr 0]) (rest := []) (A' := im_H g g14 o Y) (c' := 0) (s' := 0) (as := [.ref 40, .int (0 : Int32), .int (2 : Int32)]) (v := none) (A'' := im_H g g15 o Y) 9 96 (fun n => rfl) rfl (x96_r37_ok (u := g14) (a := (0 : Int32)) (b := (2 : Int32)) hc) ?_
  show iv_ev (iv_Xs L xs) 90 64 [.ref 40, .int (u 37 22), .int (0 : Int32), .int (2 : Int32), .retAddr 0] [] (im_H g g15 o Y) 0 0 _
  obtain ⟨v16, g16, hc, h⟩ := iv_bd h
  refine iv_cal (mi' := 90) (pc' := 61) (ls' := [.ref 40, .int (u 37 22), .int (0 : Int32), .int (3 : Int32), .retAddr 0]) (rest := []) (A' := im_H g g15 o Y) (c' := 0) (s' := 0) (as := [.ref 40, .int (0 : Int32), .int (3 : Int32)]) (v := none) (A'' := im_H g g16 o Y) 9 96 (fun n => rfl) rfl (x96_r37_ok (u := g15) (a := (0 : Int32)) (b := (3 : Int32)) hc) ?_
  show iv_ev (iv_Xs L xs) 90 64 [.ref 40, .int (u 37 22), .int (0 : Int32), .int (3 : Int32), .retAddr 0] [] (im_H g g16 o Y) 0 0 _
  obtain ⟨v17, g17, hc, h⟩ := iv_bd h
  refine iv_cal (mi' := 90) (pc' := 72) (ls' := [.ref 40, .int (u 37 22), .int (0 : Int32), .int (4 : Int32), .retAddr 0]) (rest := []) (A' := im_H g g16 o Y) (c' := 0) (s' := 0) (as := [.ref 40, .int (0 : Int32)]) (v := none) (A'' := im_H g g17 o Y) 8 98 (fun n => rfl) rfl (x98_r37_ok (u := g16) (a := (0 : Int32)) hc) ?_
  show iv_ev (iv_Xs L xs) 90 75 [.ref 40, .int (u 37 22), .int (0 : Int32), .int (4 : Int32), .retAddr 0] [] (im_H g g17 o Y) 0 0 _
  obtain ⟨v18, g18, hc, h⟩ := iv_bd h
  refine iv_cal (mi' := 90) (pc' := 61) (ls' := [.ref 40, .int (u 37 22), .int (1 : Int32), .int (0 : Int32), .retAddr 0]) (rest := []) (A' := im_H g g17 o Y) (c' := 0) (s' := 0) (as := [.ref 40, .int (1 : Int32), .int (0 : Int32)]) (v := none) (A'' := im_H g g18 o Y) 14 96 (fun n => rfl) rfl (x96_r37_ok (u := g17) (a := (1 : Int32)) (b := (0 : Int32)) hc) ?_
  show iv_ev (iv_Xs L xs) 90 64 [.ref 40, .int (u 37 22), .int (1 : Int32), .int (0 : Int32), .retAddr 0] [] (im_H g g18 o Y) 0 0 _
  obtain ⟨v19, g19, hc, h⟩ := iv_bd h
  refine iv_cal (mi' := 90) (pc' := 61) (ls' := [.ref 40, .int (u 37 22), .int (1 : Int32), .int (1 : Int32), .retAddr 0]) (rest := []) (A' := im_H g g18 o Y) (c' := 0) (s' := 0) (as := [.ref 40, .int (1 : Int32), .int (1 : Int32)]) (v := none) (A'' := im_H g g19 o Y) 9 96 (fun n => rfl) rfl (x96_r37_ok (u := g18) (a := (1 : Int32)) (b := (1 : Int32)) hc) ?_
  show iv_ev (iv_Xs L xs) 90 64 [.ref 40, .int (u 37 22), .int (1 : Int32), .int (1 : Int32), .retAddr 0] [] (im_H g g19 o Y) 0 0 _
  obtain ⟨v20, g20, hc, h⟩ := iv_bd h
  refine iv_cal (mi' := 90) (pc' := 61) (ls' := [.ref 40, .int (u 37 22), .int (1 : Int32), .int (2 : Int32), .retAddr 0]) (rest := []) (A' := im_H g g19 o Y) (c' := 0) (s' := 0) (as := [.ref 40, .int (1 : Int32), .int (2 : Int32)]) (v := none) (A'' := im_H g g20 o Y) 9 96 (fun n => rfl) rfl (x96_r37_ok (u := g19) (a := (1 : Int32)) (b := (2 : Int32)) hc) ?_
  show iv_ev (iv_Xs L xs) 90 64 [.ref 40, .int (u 37 22), .int (1 : Int32), .int (2 : Int32), .retAddr 0] [] (im_H g g20 o Y) 0 0 _
  obtain ⟨v21, g21, hc, h⟩ := iv_bd h
  refine iv_cal (mi' := 90) (pc' := 61) (ls' := [.ref 40, .int (u 37 22), .int (1 : Int32), .int (3 : Int32), .retAddr 0]) (rest := []) (A' := im_H g g20 o Y) (c' := 0) (s' := 0) (as := [.ref 40, .int (1 : Int32), .int (3 : Int32)]) (v := none) (A'' := im_H g g21 o Y) 9 96 (fun n => rfl) rfl (x96_r37_ok (u := g20) (a := (1 : Int32)) (b := (3 : Int32)) hc) ?_
  show iv_ev (iv_Xs L xs) 90 64 [.ref 40, .int (u 37 22), .int (1 : Int32), .int (3 : Int32), .retAddr 0] [] (im_H g g21 o Y) 0 0 _
  obtain ⟨v22, g22, hc, h⟩ := iv_bd h
  refine iv_cal (mi' := 90) (pc' := 72) (ls' := [.ref 40, .int (u 37 22), .int (1 : Int32), .int (4 : Int32), .retAddr 0]) (rest := []) (A' := im_H g g21 o Y) (c' := 0) (s' := 0) (as := [.ref 40, .int (1 : Int32)]) (v := none) (A'' := im_H g g22 o Y) 8 98 (fun n => rfl) rfl (x98_r37_ok (u := g21) (a := (1 : Int32)) hc) ?_
  show iv_ev (iv_Xs L xs) 90 75 [.ref 40, .int (u 37 22), .int (1 : Int32), .int (4 : Int32), .retAddr 0] [] (im_H g g22 o Y) 0 0 _
  obtain ⟨v23, g23, hc, h⟩ := iv_bd h
  refine iv_cal (mi' := 90) (pc' := 61) (ls' := [.ref 40, .int (u 37 22), .int (2 : Int32), .int (0 : Int32), .retAddr 0]) (rest := []) (A' := im_H g g22 o Y) (c' := 0) (s' := 0) (as := [.ref 40, .int (2 : Int32), .int (0 : Int32)]) (v := none) (A'' := im_H g g23 o Y) 14 96 (fun n => rfl) rfl (x96_r37_ok (u := g22) (a := (2 : Int32)) (b := (0 : Int32)) hc) ?_
  show iv_ev (iv_Xs L xs) 90 64 [.ref 40, .int (u 37 22), .int (2 : Int32), .int (0 : Int32), .retAddr 0] [] (im_H g g23 o Y) 0 0 _
  obtain ⟨v24, g24, hc, h⟩ := iv_bd h
  refine iv_cal (mi' := 90) (pc' := 61) (ls' := [.ref 40, .int (u 37 22), .int (2 : Int32), .int (1 : Int32), .retAddr 0]) (rest := []) (A' := im_H g g23 o Y) (c' := 0) (s' := 0) (as := [.ref 40, .int (2 : Int32), .int (1 : Int32)]) (v := none) (A'' := im_H g g24 o Y) 9 96 (fun n => rfl) rfl (x96_r37_ok (u := g23) (a := (2 : Int32)) (b := (1 : Int32)) hc) ?_
  show iv_ev (iv_Xs L xs) 90 64 [.ref 40, .int (u 37 22), .int (2 : Int32), .int (1 : Int32), .retAddr 0] [] (im_H g g24 o Y) 0 0 _
  obtain ⟨v25, g25, hc, h⟩ := iv_bd h
  refine iv_cal (mi' := 90) (pc' := 61) (ls' := [.ref 40, .int (u 37 22), .int (2 : Int32), .int (2 : Int32), .retAddr 0]) (rest := []) (A' := im_H g g24 o Y) (c' := 0) (s' := 0) (as := [.ref 40, .int (2 : Int32), .int (2 : Int32)]) (v := none) (A'' := im_H g g25 o Y) 9 96 (fun n => rfl) rfl (x96_r37_ok (u := g24) (a := (2 : Int32)) (b := (2 : Int32)) hc) ?_
  show iv_ev (iv_Xs L xs) 90 64 [.ref 40, .int (u 37 22), .int (2 : Int32), .int (2 : Int32), .retAddr 0] [] (im_H g g25 o Y) 0 0 _
  obtain ⟨v26, g26, hc, h⟩ := iv_bd h
  refine iv_cal (mi' := 90) (pc' := 61) (ls' := [.ref 40, .int (u 37 22), .int (2 : Int32), .int (3 : Int32), .retAddr 0]) (rest := []) (A' := im_H g g25 o Y) (c' := 0) (s' := 0) (as := [.ref 40, .int (2 : Int32), .int (3 : Int32)]) (v := none) (A'' := im_H g g26 o Y) 9 96 (fun n => rfl) rfl (x96_r37_ok (u := g25) (a := (2 : Int32)) (b := (3 : Int32)) hc) ?_
  show iv_ev (iv_Xs L xs) 90 64 [.ref 40, .int (u 37 22), .int (2 : Int32), .int (3 : Int32), .retAddr 0] [] (im_H g g26 o Y) 0 0 _
  obtain ⟨v27, g27, hc, h⟩ := iv_bd h
  refine iv_cal (mi' := 90) (pc' := 72) (ls' := [.ref 40, .int (u 37 22), .int (2 : Int32), .int (4 : Int32), .retAddr 0]) (rest := []) (A' := im_H g g26 o Y) (c' := 0) (s' := 0) (as := [.ref 40, .int (2 : Int32)]) (v := none) (A'' := im_H g g27 o Y) 8 98 (fun n => rfl) rfl (x98_r37_ok (u := g26) (a := (2 : Int32)) hc) ?_
  show iv_ev (iv_Xs L xs) 90 75 [.ref 40, .int (u 37 22), .int (2 : Int32), .int (4 : Int32), .retAddr 0] [] (im_H g g27 o Y) 0 0 _
  obtain ⟨v28, g28, hc, h⟩ := iv_bd h
  refine iv_cal (mi' := 90) (pc' := 61) (ls' := [.ref 40, .int (u 37 22), .int (3 : Int32), .int (0 : Int32), .retAddr 0]) (rest := []) (A' := im_H g g27 o Y) (c' := 0) (s' := 0) (as := [.ref 40, .int (3 : Int32), .int (0 : Int32)]) (v := none) (A'' := im_H g g28 o Y) 14 96 (fun n => rfl) rfl (x96_r37_ok (u := g27) (a := (3 : Int32)) (b := (0 : Int32)) hc) ?_
  show iv_ev (iv_Xs L xs) 90 64 [.ref 40, .int (u 37 22), .int (3 : Int32), .int (0 : Int32), .retAddr 0] [] (im_H g g28 o Y) 0 0 _
  obtain ⟨v29, g29, hc, h⟩ := iv_bd h
  refine iv_cal (mi' := 90) (pc' := 61) (ls' := [.ref 40, .int (u 37 22), .int (3 : Int32), .int (1 : Int32), .retAddr 0]) (rest := []) (A' := im_H g g28 o Y) (c' := 0) (s' := 0) (as := [.ref 40, .int (3 : Int32), .int (1 : Int32)]) (v := none) (A'' := im_H g g29 o Y) 9 96 (fun n => rfl) rfl (x96_r37_ok (u := g28) (a := (3 : Int32)) (b := (1 : Int32)) hc) ?_
  show iv_ev (iv_Xs L xs) 90 64 [.ref 40, .int (u 37 22), .int (3 : Int32), .int (1 : Int32), .retAddr 0] [] (im_H g g29 o Y) 0 0 _
  obtain ⟨v30, g30, hc, h⟩ := iv_bd h
  refine iv_cal (mi' := 90) (pc' := 61) (ls' := [.ref 40, .int (u 37 22), .int (3 : Int32), .int (2 : Int32), .retAddr 0]) (rest := []) (A' := im_H g g29 o Y) (c' := 0) (s' := 0) (as := [.ref 40, .int (3 : Int32), .int (2 : Int32)]) (v := none) (A'' := im_H g g30 o Y) 9 96 (fun n => rfl) rfl (x96_r37_ok (u := g29) (a := (3 : Int32)) (b := (2 : Int32)) hc) ?_
  show iv_ev (iv_Xs L xs) 90 64 [.ref 40, .int (u 37 22), .int (3 : Int32), .int (2 : Int32), .retAddr 0] [] (im_H g g30 o Y) 0 0 _
  obtain ⟨v31, g31, hc, h⟩ := iv_bd h
  refine iv_cal (mi' := 90) (pc' := 61) (ls' := [.ref 40, .int (u 37 22), .int (3 : Int32), .int (3 : Int32), .retAddr 0]) (rest := []) (A' := im_H g g30 o Y) (c' := 0) (s' := 0) (as := [.ref 40, .int (3 : Int32), .int (3 : Int32)]) (v := none) (A'' := im_H g g31 o Y) 9 96 (fun n => rfl) rfl (x96_r37_ok (u := g30) (a := (3 : Int32)) (b := (3 : Int32)) hc) ?_
  show iv_ev (iv_Xs L xs) 90 64 [.ref 40, .int (u 37 22), .int (3 : Int32), .int (3 : Int32), .retAddr 0] [] (im_H g g31 o Y) 0 0 _
  obtain ⟨v32, g32, hc, h⟩ := iv_bd h
  refine iv_cal (mi' := 90) (pc' := 72) (ls' := [.ref 40, .int (u 37 22), .int (3 : Int32), .int (4 : Int32), .retAddr 0]) (rest := []) (A' := im_H g g31 o Y) (c' := 0) (s' := 0) (as := [.ref 40, .int (3 : Int32)]) (v := none) (A'' := im_H g g32 o Y) 8 98 (fun n => rfl) rfl (x98_r37_ok (u := g31) (a := (3 : Int32)) hc) ?_
  show iv_ev (iv_Xs L xs) 90 75 [.ref 40, .int (u 37 22), .int (3 : Int32), .int (4 : Int32), .retAddr 0] [] (im_H g g32 o Y) 0 0 _
  cases hb1 : Op.ifCond.holds .lt (g32 37 20) with
  | true =>
    have h := iv_bt hb1 h
    refine iv_brt (mi' := 90) (pc' := 99) (ls' := [.ref 40, .int (u 37 22), .int (4 : Int32), .int (4 : Int32), .retAddr 0]) (st' := []) (A' := im_H g g32 o Y) (c' := 0) (s' := 0) (mi'' := 90) (pc'' := 88) (ls'' := [.ref 40, .int (u 37 22), .int (4 : Int32), .int (4 : Int32), .retAddr 0]) (st'' := []) (A'' := im_H g g32 o Y) (c'' := 0) (s'' := 0) 8 0 0 hb1 (fun n => rfl) ?_
    exact x90_r37_1_ok (u := g32) (y0 := (u 37 22)) h
  | false =>
    have h := iv_bf hb1 h
    refine iv_brf (mi' := 90) (pc' := 99) (ls' := [.ref 40, .int (u 37 22), .int (4 : Int32), .int (4 : Int32), .retAddr 0]) (st' := []) (A' := im_H g g32 o Y) (c' := 0) (s' := 0) (mi'' := 90) (pc'' := 88) (ls'' := [.ref 40, .int (u 37 22), .int (4 : Int32), .int (4 : Int32), .retAddr 0]) (st'' := []) (A'' := im_H g g32 o Y) (c'' := 0) (s'' := 0) 8 0 0 hb1 (fun n => rfl) ?_
    cases hb2 : Op.ifCond.holds .eq (g32 37 21) with
    | true =>
      have h := iv_bt hb2 h
      refine iv_brt (mi' := 90) (pc' := 99) (ls' := [.ref 40, .int (u 37 22), .int (4 : Int32), .int (4 : Int32), .retAddr 0]) (st' := []) (A' := im_H g g32 o Y) (c' := 0) (s' := 0) (mi'' := 90) (pc'' := 95) (ls'' := [.ref 40, .int (u 37 22), .int (4 : Int32), .int (4 : Int32), .retAddr 0]) (st'' := []) (A'' := im_H g g32 o Y) (c'' := 0) (s'' := 0) 3 0 0 hb2 (fun n => rfl) ?_
      exact x90_r37_1_ok (u := g32) (y0 := (u 37 22)) h
    | false =>
      have h := iv_bf hb2 h
      refine iv_brf (mi' := 90) (pc' := 99) (ls' := [.ref 40, .int (u 37 22), .int (4 : Int32), .int (4 : Int32), .retAddr 0]) (st' := []) (A' := im_H g g32 o Y) (c' := 0) (s' := 0) (mi'' := 90) (pc'' := 95) (ls'' := [.ref 40, .int (u 37 22), .int (4 : Int32), .int (4 : Int32), .retAddr 0]) (st'' := []) (A'' := im_H g g32 o Y) (c'' := 0) (s'' := 0) 3 0 0 hb2 (fun n => rfl) ?_
      obtain ⟨v33, g33, hc, h⟩ := iv_bd h
      refine iv_cal (mi' := 90) (pc' := 96) (ls' := [.ref 40, .int (u 37 22), .int (4 : Int32), .int (4 : Int32), .retAddr 0]) (rest := []) (A' := im_H g g32 o Y) (c' := 0) (s' := 0) (as := [.ref 40]) (v := none) (A'' := im_H g g33 o Y) 2 99 (fun n => rfl) rfl (x99_r37_ok (u := g32)  hc) ?_
      show iv_ev (iv_Xs L xs) 90 99 [.ref 40, .int (u 37 22), .int (4 : Int32), .int (4 : Int32), .retAddr 0] [] (im_H g g33 o Y) 0 0 _
      exact x90_r37_1_ok (u := g33) (y0 := (u 37 22)) h
