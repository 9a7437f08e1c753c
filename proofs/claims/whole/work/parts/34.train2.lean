/-! Train: decide (printed by wip/gen/lay1.py) -/
def x31_r29_r1_4 (g : im_M) (y0 : Int32) (y1 : Int32) : Option (Int32 × im_M) :=
  some (0, g)
set_option maxRecDepth 100000 in
set_option maxHeartbeats 4000000 in
theorem x31_r29_r1_4_ok {L : Nat} {xs : Nat → Int32} {g u mm : im_M} {o : Nat → Int64} {Y : iv_A} {y0 y1 ret : Int32} (h : x31_r29_r1_4 g y0 y1 = some (ret, mm)) : iv_ev (iv_Xs L xs) 31 82 [.ref 32, .int y0, .ref 4, .int y1, .int (3 : Int32)] [] (im_H g u o Y) 0 0 (.inl none, im_H mm u o Y) := by
  unfold x31_r29_r1_4 at h
  cases h
  exact iv_ret 1 (fun n => rfl)
def x31_r29_r1_3 (g : im_M) (y0 : Int32) (y1 : Int32) : Option (Int32 × im_M) :=
  bif Op.ifCond.holds .eq (g 29 2) then
    (x31_r29_r1_4 g y0 y1)
  else
    (Option.bind (x33_r29_r1 g ) (fun (_, g7) =>
      x31_r29_r1_4 g7 y0 y1))
set_option maxRecDepth 100000 in
set_option maxHeartbeats 4000000 in
theorem x31_r29_r1_3_ok {L : Nat} {xs : Nat → Int32} {g u mm : im_M} {o : Nat → Int64} {Y : iv_A} {y0 y1 ret : Int32} (h : x31_r29_r1_3 g y0 y1 = some (ret, mm)) : iv_ev (iv_Xs L xs) 31 64 [.ref 32, .int y0, .ref 4, .int y1, .int (2 : Int32)] [] (im_H g u o Y) 0 0 (.inl none, im_H mm u o Y) := by
  unfold x31_r29_r1_3 at h
  cases hb7 : Op.ifCond.holds .eq (g 29 2) with
  | true =>
    rw [hb7] at h
    simp only [cond_true] at h
    refine iv_brt (mi' := 31) (pc' := 82) (ls' := [.ref 32, .int y0, .ref 4, .int y1, .int (3 : Int32)]) (st' := []) (A' := im_H g u o Y) (c' := 0) (s' := 0) (mi'' := 31) (pc'' := 77) (ls'' := [.ref 32, .int y0, .ref 4, .int y1, .int (3 : Int32)]) (st'' := []) (A'' := im_H g u o Y) (c'' := 0) (s'' := 0) 8 0 0 hb7 (fun n => rfl) ?_
    exact x31_r29_r1_4_ok (g := g) (y0 := y0) (y1 := y1) h
  | false =>
    rw [hb7] at h
    simp only [cond_false] at h
    refine iv_brf (mi' := 31) (pc' := 82) (ls' := [.ref 32, .int y0, .ref 4, .int y1, .int (3 : Int32)]) (st' := []) (A' := im_H g u o Y) (c' := 0) (s' := 0) (mi'' := 31) (pc'' := 77) (ls'' := [.ref 32, .int y0, .ref 4, .int y1, .int (3 : Int32)]) (st'' := []) (A'' := im_H g u o Y) (c'' := 0) (s'' := 0) 8 0 0 hb7 (fun n => rfl) ?_
    cases hc : x33_r29_r1 g  with
    | none => rw [hc] at h; cases h
    | some q =>
      obtain ⟨v7, g7⟩ := q
      rw [hc] at h
      simp only [Option.bind_some] at h
      refine iv_cal (mi' := 31) (pc' := 79) (ls' := [.ref 32, .int y0, .ref 4, .int y1, .int (3 : Int32)]) (rest := []) (A' := im_H g u o Y) (c' := 0) (s' := 0) (as := [.ref 32, .ref 4]) (v := none) (A'' := im_H g7 u o Y) 3 33 (fun n => rfl) rfl (x33_r29_r1_ok (g := g)  hc) ?_
      show iv_ev (iv_Xs L xs) 31 82 [.ref 32, .int y0, .ref 4, .int y1, .int (3 : Int32)] [] (im_H g7 u o Y) 0 0 _
      exact x31_r29_r1_4_ok (g := g7) (y0 := y0) (y1 := y1) h
def x31_r29_r1_2 (g : im_M) (y0 : Int32) (y1 : Int32) : Option (Int32 × im_M) :=
  Option.bind (x32_r29_2 g y0) (fun (v5, g5) =>
    bif Op.if_icmp.holds .lt v5 (2 : Int32) then
      (x31_r29_r1_3 g5 y0 y1)
    else
      (bif Op.ifCond.holds .ne (y1 &&& (4 : Int32)) then
        (x31_r29_r1_3 (im_w g5 29 2 ((g5 29 2) ||| (4 : Int32))) y0 y1)
      else
        (Option.bind (x15_r1 (im_w g5 29 2 ((g5 29 2) ||| (4 : Int32))) (6 : Int32) (0 : Int32) (2 : Int32)) (fun (_, g6) =>
          x31_r29_r1_3 g6 y0 y1))))
set_option maxRecDepth 100000 in
set_option maxHeartbeats 4000000 in
theorem x31_r29_r1_2_ok {L : Nat} {xs : Nat → Int32} {g u mm : im_M} {o : Nat → Int64} {Y : iv_A} {y0 y1 ret : Int32} (h : x31_r29_r1_2 g y0 y1 = some (ret, mm)) : iv_ev (iv_Xs L xs) 31 64 [.ref 32, .int y0, .ref 4, .int y1, .int (1 : Int32)] [] (im_H g u o Y) 0 0 (.inl none, im_H mm u o Y) := by
  unfold x31_r29_r1_2 at h
  cases hc : x32_r29_2 g y0 with
  | none => rw [hc] at h; cases h
  | some q =>
    obtain ⟨v5, g5⟩ := q
    rw [hc] at h
    simp only [Option.bind_some] at h
    refine iv_cal (mi' := 31) (pc' := 23) (ls' := [.ref 32, .int y0, .ref 4, .int y1, .int (2 : Int32)]) (rest := []) (A' := im_H g u o Y) (c' := 0) (s' := 0) (as := [.ref 32, .int (2 : Int32), .int y0]) (v := some (.int v5)) (A'' := im_H g5 u o Y) 9 32 (fun n => rfl) rfl (x32_r29_2_ok (g := g) (a := y0) hc) ?_
    show iv_ev (iv_Xs L xs) 31 26 [.ref 32, .int y0, .ref 4, .int y1, .int (2 : Int32)] [.int v5] (im_H g5 u o Y) 0 0 _
    cases hb5 : Op.if_icmp.holds .lt v5 (2 : Int32) with
    | true =>
      rw [hb5] at h
      simp only [cond_true] at h
      refine iv_brt (mi' := 31) (pc' := 64) (ls' := [.ref 32, .int y0, .ref 4, .int y1, .int (2 : Int32)]) (st' := []) (A' := im_H g5 u o Y) (c' := 0) (s' := 0) (mi'' := 31) (pc'' := 30) (ls'' := [.ref 32, .int y0, .ref 4, .int y1, .int (2 : Int32)]) (st'' := []) (A'' := im_H g5 u o Y) (c'' := 0) (s'' := 0) 2 0 0 hb5 (fun n => rfl) ?_
      exact x31_r29_r1_3_ok (g := g5) (y0 := y0) (y1 := y1) h
    | false =>
      rw [hb5] at h
      simp only [cond_false] at h
      refine iv_brf (mi' := 31) (pc' := 64) (ls' := [.ref 32, .int y0, .ref 4, .int y1, .int (2 : Int32)]) (st' := []) (A' := im_H g5 u o Y) (c' := 0) (s' := 0) (mi'' := 31) (pc'' := 30) (ls'' := [.ref 32, .int y0, .ref 4, .int y1, .int (2 : Int32)]) (st'' := []) (A'' := im_H g5 u o Y) (c'' := 0) (s'' := 0) 2 0 0 hb5 (fun n => rfl) ?_
      refine iv_blk (mi' := 31) (pc' := 43) (ls' := [.ref 32, .int y0, .ref 4, .int y1, .int (2 : Int32)]) (st' := []) (A' := List.set (im_H g5 u o Y) 29 (.inr (3, List.set [.int 0, .ref 33, .int (g5 29 2), .int (g5 29 3)] 2 (.int ((g5 29 2) ||| (4 : Int32)))))) (c' := 0) (s' := 0) 8 (fun n => rfl) ?_
      rw [im_f29_2]
      cases hb6 : Op.ifCond.holds .ne (y1 &&& (4 : Int32)) with
      | true =>
        rw [hb6] at h
        simp only [cond_true] at h
        refine iv_brt (mi' := 31) (pc' := 64) (ls' := [.ref 32, .int y0, .ref 4, .int y1, .int (2 : Int32)]) (st' := []) (A' := im_H (im_w g5 29 2 ((g5 29 2) ||| (4 : Int32))) u o Y) (c' := 0) (s' := 0) (mi'' := 31) (pc'' := 52) (ls'' := [.ref 32, .int y0, .ref 4, .int y1, .int (2 : Int32)]) (st'' := []) (A'' := im_H (im_w g5 29 2 ((g5 29 2) ||| (4 : Int32))) u o Y) (c'' := 0) (s'' := 0) 6 0 0 hb6 (fun n => rfl) ?_
        exact x31_r29_r1_3_ok (g := (im_w g5 29 2 ((g5 29 2) ||| (4 : Int32)))) (y0 := y0) (y1 := y1) h
      | false =>
        rw [hb6] at h
        simp only [cond_false] at h
        refine iv_brf (mi' := 31) (pc' := 64) (ls' := [.ref 32, .int y0, .ref 4, .int y1, .int (2 : Int32)]) (st' := []) (A' := im_H (im_w g5 29 2 ((g5 29 2) ||| (4 : Int32))) u o Y) (c' := 0) (s' := 0) (mi'' := 31) (pc'' := 52) (ls'' := [.ref 32, .int y0, .ref 4, .int y1, .int (2 : Int32)]) (st'' := []) (A'' := im_H (im_w g5 29 2 ((g5 29 2) ||| (4 : Int32))) u o Y) (c'' := 0) (s'' := 0) 6 0 0 hb6 (fun n => rfl) ?_
        cases hc : x15_r1 (im_w g5 29 2 ((g5 29 2) ||| (4 : Int32))) (6 : Int32) (0 : Int32) (2 : Int32) with
        | none => rw [hc] at h; cases h
        | some q =>
          obtain ⟨v6, g6⟩ := q
          rw [hc] at h
          simp only [Option.bind_some] at h
          refine iv_cal (mi' := 31) (pc' := 61) (ls' := [.ref 32, .int y0, .ref 4, .int y1, .int (2 : Int32)]) (rest := []) (A' := im_H (im_w g5 29 2 ((g5 29 2) ||| (4 : Int32))) u o Y) (c' := 0) (s' := 0) (as := [.ref 4, .int (6 : Int32), .int (0 : Int32), .int (2 : Int32)]) (v := none) (A'' := im_H g6 u o Y) 6 15 (fun n => rfl) rfl (x15_r1_ok (g := (im_w g5 29 2 ((g5 29 2) ||| (4 : Int32)))) (a := (6 : Int32)) (b := (0 : Int32)) (c := (2 : Int32)) hc) ?_
          show iv_ev (iv_Xs L xs) 31 64 [.ref 32, .int y0, .ref 4, .int y1, .int (2 : Int32)] [] (im_H g6 u o Y) 0 0 _
          exact x31_r29_r1_3_ok (g := g6) (y0 := y0) (y1 := y1) h
def x31_r29_r1_1 (g : im_M) (y0 : Int32) (y1 : Int32) : Option (Int32 × im_M) :=
  Option.bind (x32_r29_1 g y0) (fun (v3, g3) =>
    bif Op.if_icmp.holds .lt v3 (2 : Int32) then
      (x31_r29_r1_2 g3 y0 y1)
    else
      (bif Op.ifCond.holds .ne (y1 &&& (2 : Int32)) then
        (x31_r29_r1_2 (im_w g3 29 2 ((g3 29 2) ||| (2 : Int32))) y0 y1)
      else
        (Option.bind (x15_r1 (im_w g3 29 2 ((g3 29 2) ||| (2 : Int32))) (6 : Int32) (0 : Int32) (1 : Int32)) (fun (_, g4) =>
          x31_r29_r1_2 g4 y0 y1))))
set_option maxRecDepth 100000 in
set_option maxHeartbeats 4000000 in
theorem x31_r29_r1_1_ok {L : Nat} {xs : Nat → Int32} {g u mm : im_M} {o : Nat → Int64} {Y : iv_A} {y0 y1 ret : Int32} (h : x31_r29_r1_1 g y0 y1 = some (ret, mm)) : iv_ev (iv_Xs L xs) 31 64 [.ref 32, .int y0, .ref 4, .int y1, .int (0 : Int32)] [] (im_H g u o Y) 0 0 (.inl none, im_H mm u o Y) := by
  unfold x31_r29_r1_1 at h
  cases hc : x32_r29_1 g y0 with
  | none => rw [hc] at h; cases h
  | some q =>
    obtain ⟨v3, g3⟩ := q
    rw [hc] at h
    simp only [Option.bind_some] at h
    refine iv_cal (mi' := 31) (pc' := 23) (ls' := [.ref 32, .int y0, .ref 4, .int y1, .int (1 : Int32)]) (rest := []) (A' := im_H g u o Y) (c' := 0) (s' := 0) (as := [.ref 32, .int (1 : Int32), .int y0]) (v := some (.int v3)) (A'' := im_H g3 u o Y) 9 32 (fun n => rfl) rfl (x32_r29_1_ok (g := g) (a := y0) hc) ?_
    show iv_ev (iv_Xs L xs) 31 26 [.ref 32, .int y0, .ref 4, .int y1, .int (1 : Int32)] [.int v3] (im_H g3 u o Y) 0 0 _
    cases hb3 : Op.if_icmp.holds .lt v3 (2 : Int32) with
    | true =>
      rw [hb3] at h
      simp only [cond_true] at h
      refine iv_brt (mi' := 31) (pc' := 64) (ls' := [.ref 32, .int y0, .ref 4, .int y1, .int (1 : Int32)]) (st' := []) (A' := im_H g3 u o Y) (c' := 0) (s' := 0) (mi'' := 31) (pc'' := 30) (ls'' := [.ref 32, .int y0, .ref 4, .int y1, .int (1 : Int32)]) (st'' := []) (A'' := im_H g3 u o Y) (c'' := 0) (s'' := 0) 2 0 0 hb3 (fun n => rfl) ?_
      exact x31_r29_r1_2_ok (g := g3) (y0 := y0) (y1 := y1) h
    | false =>
      rw [hb3] at h
      simp only [cond_false] at h
      refine iv_brf (mi' := 31) (pc' := 64) (ls' := [.ref 32, .int y0, .ref 4, .int y1, .int (1 : Int32)]) (st' := []) (A' := im_H g3 u o Y) (c' := 0) (s' := 0) (mi'' := 31) (pc'' := 30) (ls'' := [.ref 32, .int y0, .ref 4, .int y1, .int (1 : Int32)]) (st'' := []) (A'' := im_H g3 u o Y) (c'' := 0) (s'' := 0) 2 0 0 hb3 (fun n => rfl) ?_
      refine iv_blk (mi' := 31) (pc' := 43) (ls' := [.ref 32, .int y0, .ref 4, .int y1, .int (1 : Int32)]) (st' := []) (A' := List.set (im_H g3 u o Y) 29 (.inr (3, List.set [.int 0, .ref 33, .int (g3 29 2), .int (g3 29 3)] 2 (.int ((g3 29 2) ||| (2 : Int32)))))) (c' := 0) (s' := 0) 8 (fun n => rfl) ?_
      rw [im_f29_2]
      cases hb4 : Op.ifCond.holds .ne (y1 &&& (2 : Int32)) with
      | true =>
        rw [hb4] at h
        simp only [cond_true] at h
        refine iv_brt (mi' := 31) (pc' := 64) (ls' := [.ref 32, .int y0, .ref 4, .int y1, .int (1 : Int32)]) (st' := []) (A' := im_H (im_w g3 29 2 ((g3 29 2) ||| (2 : Int32))) u o Y) (c' := 0) (s' := 0) (mi'' := 31) (pc'' := 52) (ls'' := [.ref 32, .int y0, .ref 4, .int y1, .int (1 : Int32)]) (st'' := []) (A'' := im_H (im_w g3 29 2 ((g3 29 2) ||| (2 : Int32))) u o Y) (c'' := 0) (s'' := 0) 6 0 0 hb4 (fun n => rfl) ?_
        exact x31_r29_r1_2_ok (g := (im_w g3 29 2 ((g3 29 2) ||| (2 : Int32)))) (y0 := y0) (y1 := y1) h
      | false =>
        rw [hb4] at h
        simp only [cond_false] at h
        refine iv_brf (mi' := 31) (pc' := 64) (ls' := [.ref 32, .int y0, .ref 4, .int y1, .int (1 : Int32)]) (st' := []) (A' := im_H (im_w g3 29 2 ((g3 29 2) ||| (2 : Int32))) u o Y) (c' := 0) (s' := 0) (mi'' := 31) (pc'' := 52) (ls'' := [.ref 32, .int y0, .ref 4, .int y1, .int (1 : Int32)]) (st'' := []) (A'' := im_H (im_w g3 29 2 ((g3 29 2) ||| (2 : Int32))) u o Y) (c'' := 0) (s'' := 0) 6 0 0 hb4 (fun n => rfl) ?_
        cases hc : x15_r1 (im_w g3 29 2 ((g3 29 2) ||| (2 : Int32))) (6 : Int32) (0 : Int32) (1 : Int32) with
        | none => rw [hc] at h; cases h
        | some q =>
          obtain ⟨v4, g4⟩ := q
          rw [hc] at h
          simp only [Option.bind_some] at h
          refine iv_cal (mi' := 31) (pc' := 61) (ls' := [.ref 32, .int y0, .ref 4, .int y1, .int (1 : Int32)]) (rest := []) (A' := im_H (im_w g3 29 2 ((g3 29 2) ||| (2 : Int32))) u o Y) (c' := 0) (s' := 0) (as := [.ref 4, .int (6 : Int32), .int (0 : Int32), .int (1 : Int32)]) (v := none) (A'' := im_H g4 u o Y) 6 15 (fun n => rfl) rfl (x15_r1_ok (g := (im_w g3 29 2 ((g3 29 2) ||| (2 : Int32)))) (a := (6 : Int32)) (b := (0 : Int32)) (c := (1 : Int32)) hc) ?_
          show iv_ev (iv_Xs L xs) 31 64 [.ref 32, .int y0, .ref 4, .int y1, .int (1 : Int32)] [] (im_H g4 u o Y) 0 0 _
          exact x31_r29_r1_2_ok (g := g4) (y0 := y0) (y1 := y1) h
def x31_r29_r1 (g : im_M) (a : Int32) : Option (Int32 × im_M) :=
  Option.bind (x32_r29_0 (im_w g 29 2 (0 : Int32)) a) (fun (v1, g1) =>
    bif Op.if_icmp.holds .lt v1 (2 : Int32) then
      (x31_r29_r1_1 g1 a (g 29 2))
    else
      (bif Op.ifCond.holds .ne ((g 29 2) &&& (1 : Int32)) then
        (x31_r29_r1_1 (im_w g1 29 2 ((g1 29 2) ||| (1 : Int32))) a (g 29 2))
      else
        (Option.bind (x15_r1 (im_w g1 29 2 ((g1 29 2) ||| (1 : Int32))) (6 : Int32) (0 : Int32) (0 : Int32)) (fun (_, g2) =>
          x31_r29_r1_1 g2 a (g 29 2)))))
set_option maxRecDepth 100000 in
set_option maxHeartbeats 4000000 in
theorem x31_r29_r1_ok {L : Nat} {xs : Nat → Int32} {g u mm : im_M} {o : Nat → Int64} {Y : iv_A} {a ret : Int32} (h : x31_r29_r1 g a = some (ret, mm)) : iv_ev (iv_Xs L xs) 31 0 [.ref 32, .int a, .ref 4, .retAddr 0, .retAddr 0] [] (im_H g u o Y) 0 0 (.inl none, im_H mm u o Y) := by
  unfold x31_r29_r1 at h
  refine iv_blk (mi' := 31) (pc' := 10) (ls' := [.ref 32, .int a, .ref 4, .int (g 29 2), .retAddr 0]) (st' := []) (A' := List.set (im_H g u o Y) 29 (.inr (3, List.set [.int 0, .ref 33, .int (g 29 2), .int (g 29 3)] 2 (.int (0 : Int32))))) (c' := 0) (s' := 0) 6 (fun n => rfl) ?_
  rw [im_f29_2]
  cases hc : x32_r29_0 (im_w g 29 2 (0 : Int32)) a with
  | none => rw [hc] at h; cases h
  | some q =>
    obtain ⟨v1, g1⟩ := q
    rw [hc] at h
    simp only [Option.bind_some] at h
    refine iv_cal (mi' := 31) (pc' := 23) (ls' := [.ref 32, .int a, .ref 4, .int (g 29 2), .int (0 : Int32)]) (rest := []) (A' := im_H (im_w g 29 2 (0 : Int32)) u o Y) (c' := 0) (s' := 0) (as := [.ref 32, .int (0 : Int32), .int a]) (v := some (.int v1)) (A'' := im_H g1 u o Y) 9 32 (fun n => rfl) rfl (x32_r29_0_ok (g := (im_w g 29 2 (0 : Int32))) (a := a) hc) ?_
    show iv_ev (iv_Xs L xs) 31 26 [.ref 32, .int a, .ref 4, .int (g 29 2), .int (0 : Int32)] [.int v1] (im_H g1 u o Y) 0 0 _
    cases hb1 : Op.if_icmp.holds .lt v1 (2 : Int32) with
    | true =>
      rw [hb1] at h
      simp only [cond_true] at h
      refine iv_brt (mi' := 31) (pc' := 64) (ls' := [.ref 32, .int a, .ref 4, .int (g 29 2), .int (0 : Int32)]) (st' := []) (A' := im_H g1 u o Y) (c' := 0) (s' := 0) (mi'' := 31) (pc'' := 30) (ls'' := [.ref 32, .int a, .ref 4, .int (g 29 2), .int (0 : Int32)]) (st'' := []) (A'' := im_H g1 u o Y) (c'' := 0) (s'' := 0) 2 0 0 hb1 (fun n => rfl) ?_
      exact x31_r29_r1_1_ok (g := g1) (y0 := a) (y1 := (g 29 2)) h
    | false =>
      rw [hb1] at h
      simp only [cond_false] at h
      refine iv_brf (mi' := 31) (pc' := 64) (ls' := [.ref 32, .int a, .ref 4, .int (g 29 2), .int (0 : Int32)]) (st' := []) (A' := im_H g1 u o Y) (c' := 0) (s' := 0) (mi'' := 31) (pc'' := 30) (ls'' := [.ref 32, .int a, .ref 4, .int (g 29 2), .int (0 : Int32)]) (st'' := []) (A'' := im_H g1 u o Y) (c'' := 0) (s'' := 0) 2 0 0 hb1 (fun n => rfl) ?_
      refine iv_blk (mi' := 31) (pc' := 43) (ls' := [.ref 32, .int a, .ref 4, .int (g 29 2), .int (0 : Int32)]) (st' := []) (A' := List.set (im_H g1 u o Y) 29 (.inr (3, List.set [.int 0, .ref 33, .int (g1 29 2), .int (g1 29 3)] 2 (.int ((g1 29 2) ||| (1 : Int32)))))) (c' := 0) (s' := 0) 8 (fun n => rfl) ?_
      rw [im_f29_2]
      cases hb2 : Op.ifCond.holds .ne ((g 29 2) &&& (1 : Int32)) with
      | true =>
        rw [hb2] at h
        simp only [cond_true] at h
        refine iv_brt (mi' := 31) (pc' := 64) (ls' := [.ref 32, .int a, .ref 4, .int (g 29 2), .int (0 : Int32)]) (st' := []) (A' := im_H (im_w g1 29 2 ((g1 29 2) ||| (1 : Int32))) u o Y) (c' := 0) (s' := 0) (mi'' := 31) (pc'' := 52) (ls'' := [.ref 32, .int a, .ref 4, .int (g 29 2), .int (0 : Int32)]) (st'' := []) (A'' := im_H (im_w g1 29 2 ((g1 29 2) ||| (1 : Int32))) u o Y) (c'' := 0) (s'' := 0) 6 0 0 hb2 (fun n => rfl) ?_
        exact x31_r29_r1_1_ok (g := (im_w g1 29 2 ((g1 29 2) ||| (1 : Int32)))) (y0 := a) (y1 := (g 29 2)) h
      | false =>
        rw [hb2] at h
        simp only [cond_false] at h
        refine iv_brf (mi' := 31) (pc' := 64) (ls' := [.ref 32, .int a, .ref 4, .int (g 29 2), .int (0 : Int32)]) (st' := []) (A' := im_H (im_w g1 29 2 ((g1 29 2) ||| (1 : Int32))) u o Y) (c' := 0) (s' := 0) (mi'' := 31) (pc'' := 52) (ls'' := [.ref 32, .int a, .ref 4, .int (g 29 2), .int (0 : Int32)]) (st'' := []) (A'' := im_H (im_w g1 29 2 ((g1 29 2) ||| (1 : Int32))) u o Y) (c'' := 0) (s'' := 0) 6 0 0 hb2 (fun n => rfl) ?_
        cases hc : x15_r1 (im_w g1 29 2 ((g1 29 2) ||| (1 : Int32))) (6 : Int32) (0 : Int32) (0 : Int32) with
        | none => rw [hc] at h; cases h
        | some q =>
          obtain ⟨v2, g2⟩ := q
          rw [hc] at h
          simp only [Option.bind_some] at h
          refine iv_cal (mi' := 31) (pc' := 61) (ls' := [.ref 32, .int a, .ref 4, .int (g 29 2), .int (0 : Int32)]) (rest := []) (A' := im_H (im_w g1 29 2 ((g1 29 2) ||| (1 : Int32))) u o Y) (c' := 0) (s' := 0) (as := [.ref 4, .int (6 : Int32), .int (0 : Int32), .int (0 : Int32)]) (v := none) (A'' := im_H g2 u o Y) 6 15 (fun n => rfl) rfl (x15_r1_ok (g := (im_w g1 29 2 ((g1 29 2) ||| (1 : Int32)))) (a := (6 : Int32)) (b := (0 : Int32)) (c := (0 : Int32)) hc) ?_
          show iv_ev (iv_Xs L xs) 31 64 [.ref 32, .int a, .ref 4, .int (g 29 2), .int (0 : Int32)] [] (im_H g2 u o Y) 0 0 _
          exact x31_r29_r1_1_ok (g := g2) (y0 := a) (y1 := (g 29 2)) h
def x31_r31_r1_4 (g : im_M) (y0 : Int32) (y1 : Int32) : Option (Int32 × im_M) :=
  some (0, g)
set_option maxRecDepth 100000 in
set_option maxHeartbeats 4000000 in
theorem x31_r31_r1_4_ok {L : Nat} {xs : Nat → Int32} {g u mm : im_M} {o : Nat → Int64} {Y : iv_A} {y0 y1 ret : Int32} (h : x31_r31_r1_4 g y0 y1 = some (ret, mm)) : iv_ev (iv_Xs L xs) 31 82 [.ref 34, .int y0, .ref 4, .int y1, .int (3 : Int32)] [] (im_H g u o Y) 0 0 (.inl none, im_H mm u o Y) := by
  unfold x31_r31_r1_4 at h
  cases h
  exact iv_ret 1 (fun n => rfl)
def x31_r31_r1_3 (g : im_M) (y0 : Int32) (y1 : Int32) : Option (Int32 × im_M) :=
  bif Op.ifCond.holds .eq (g 31 2) then
    (x31_r31_r1_4 g y0 y1)
  else
    (Option.bind (x33_r31_r1 g ) (fun (_, g7) =>
      x31_r31_r1_4 g7 y0 y1))
set_option maxRecDepth 100000 in
set_option maxHeartbeats 4000000 in
theorem x31_r31_r1_3_ok {L : Nat} {xs : Nat → Int32} {g u mm : im_M} {o : Nat → Int64} {Y : iv_A} {y0 y1 ret : Int32} (h : x31_r31_r1_3 g y0 y1 = some (ret, mm)) : iv_ev (iv_Xs L xs) 31 64 [.ref 34, .int y0, .ref 4, .int y1, .int (2 : Int32)] [] (im_H g u o Y) 0 0 (.inl none, im_H mm u o Y) := by
  unfold x31_r31_r1_3 at h
  cases hb7 : Op.ifCond.holds .eq (g 31 2) with
  | true =>
    rw [hb7] at h
    simp only [cond_true] at h
    refine iv_brt (mi' := 31) (pc' := 82) (ls' := [.ref 34, .int y0, .ref 4, .int y1, .int (3 : Int32)]) (st' := []) (A' := im_H g u o Y) (c' := 0) (s' := 0) (mi'' := 31) (pc'' := 77) (ls'' := [.ref 34, .int y0, .ref 4, .int y1, .int (3 : Int32)]) (st'' := []) (A'' := im_H g u o Y) (c'' := 0) (s'' := 0) 8 0 0 hb7 (fun n => rfl) ?_
    exact x31_r31_r1_4_ok (g := g) (y0 := y0) (y1 := y1) h
  | false =>
    rw [hb7] at h
    simp only [cond_false] at h
    refine iv_brf (mi' := 31) (pc' := 82) (ls' := [.ref 34, .int y0, .ref 4, .int y1, .int (3 : Int32)]) (st' := []) (A' := im_H g u o Y) (c' := 0) (s' := 0) (mi'' := 31) (pc'' := 77) (ls'' := [.ref 34, .int y0, .ref 4, .int y1, .int (3 : Int32)]) (st'' := []) (A'' := im_H g u o Y) (c'' := 0) (s'' := 0) 8 0 0 hb7 (fun n => rfl) ?_
    cases hc : x33_r31_r1 g  with
    | none => rw [hc] at h; cases h
    | some q =>
      obtain ⟨v7, g7⟩ := q
      rw [hc] at h
      simp only [Option.bind_some] at h
      refine iv_cal (mi' := 31) (pc' := 79) (ls' := [.ref 34, .int y0, .ref 4, .int y1, .int (3 : Int32)]) (rest := []) (A' := im_H g u o Y) (c' := 0) (s' := 0) (as := [.ref 34, .ref 4]) (v := none) (A'' := im_H g7 u o Y) 3 33 (fun n => rfl) rfl (x33_r31_r1_ok (g := g)  hc) ?_
      show iv_ev (iv_Xs L xs) 31 82 [.ref 34, .int y0, .ref 4, .int y1, .int (3 : Int32)] [] (im_H g7 u o Y) 0 0 _
      exact x31_r31_r1_4_ok (g := g7) (y0 := y0) (y1 := y1) h
def x31_r31_r1_2 (g : im_M) (y0 : Int32) (y1 : Int32) : Option (Int32 × im_M) :=
  Option.bind (x32_r31_2 g y0) (fun (v5, g5) =>
    bif Op.if_icmp.holds .lt v5 (2 : Int32) then
      (x31_r31_r1_3 g5 y0 y1)
    else
      (bif Op.ifCond.holds .ne (y1 &&& (4 : Int32)) then
        (x31_r31_r1_3 (im_w g5 31 2 ((g5 31 2) ||| (4 : Int32))) y0 y1)
      else
        (Option.bind (x15_r1 (im_w g5 31 2 ((g5 31 2) ||| (4 : Int32))) (6 : Int32) (1 : Int32) (2 : Int32)) (fun (_, g6) =>
          x31_r31_r1_3 g6 y0 y1))))
set_option maxRecDepth 100000 in
set_option maxHeartbeats 4000000 in
theorem x31_r31_r1_2_ok {L : Nat} {xs : Nat → Int32} {g u mm : im_M} {o : Nat → Int64} {Y : iv_A} {y0 y1 ret : Int32} (h : x31_r31_r1_2 g y0 y1 = some (ret, mm)) : iv_ev (iv_Xs L xs) 31 64 [.ref 34, .int y0, .ref 4, .int y1, .int (1 : Int32)] [] (im_H g u o Y) 0 0 (.inl none, im_H mm u o Y) := by
  unfold x31_r31_r1_2 at h
  cases hc : x32_r31_2 g y0 with
  | none => rw [hc] at h; cases h
  | some q =>
    obtain ⟨v5, g5⟩ := q
    rw [hc] at h
    simp only [Option.bind_some] at h
    refine iv_cal (mi' := 31) (pc' := 23) (ls' := [.ref 34, .int y0, .ref 4, .int y1, .int (2 : Int32)]) (rest := []) (A' := im_H g u o Y) (c' := 0) (s' := 0) (as := [.ref 34, .int (2 : Int32), .int y0]) (v := some (.int v5)) (A'' := im_H g5 u o Y) 9 32 (fun n => rfl) rfl (x32_r31_2_ok (g := g) (a := y0) hc) ?_
    show iv_ev (iv_Xs L xs) 31 26 [.ref 34, .int y0, .ref 4, .int y1, .int (2 : Int32)] [.int v5] (im_H g5 u o Y) 0 0 _
    cases hb5 : Op.if_icmp.holds .lt v5 (2 : Int32) with
    | true =>
      rw [hb5] at h
      simp only [cond_true] at h
      refine iv_brt (mi' := 31) (pc' := 64) (ls' := [.ref 34, .int y0, .ref 4, .int y1, .int (2 : Int32)]) (st' := []) (A' := im_H g5 u o Y) (c' := 0) (s' := 0) (mi'' := 31) (pc'' := 30) (ls'' := [.ref 34, .int y0, .ref 4, .int y1, .int (2 : Int32)]) (st'' := []) (A'' := im_H g5 u o Y) (c'' := 0) (s'' := 0) 2 0 0 hb5 (fun n => rfl) ?_
      exact x31_r31_r1_3_ok (g := g5) (y0 := y0) (y1 := y1) h
    | false =>
      rw [hb5] at h
      simp only [cond_false] at h
      refine iv_brf (mi' := 31) (pc' := 64) (ls' := [.ref 34, .int y0, .ref 4, .int y1, .int (2 : Int32)]) (st' := []) (A' := im_H g5 u o Y) (c' := 0) (s' := 0) (mi'' := 31) (pc'' := 30) (ls'' := [.ref 34, .int y0, .ref 4, .int y1, .int (2 : Int32)]) (st'' := []) (A'' := im_H g5 u o Y) (c'' := 0) (s'' := 0) 2 0 0 hb5 (fun n => rfl) ?_
      refine iv_blk (mi' := 31) (pc' := 43) (ls' := [.ref 34, .int y0, .ref 4, .int y1, .int (2 : Int32)]) (st' := []) (A' := List.set (im_H g5 u o Y) 31 (.inr (3, List.set [.int 1, .ref 35, .int (g5 31 2), .int (g5 31 3)] 2 (.int ((g5 31 2) ||| (4 : Int32)))))) (c' := 0) (s' := 0) 8 (fun n => rfl) ?_
      rw [im_f31_2]
      cases hb6 : Op.ifCond.holds .ne (y1 &&& (4 : Int32)) with
      | true =>
        rw [hb6] at h
        simp only [cond_true] at h
        refine iv_brt (mi' := 31) (pc' := 64) (ls' := [.ref 34, .int y0, .ref 4, .int y1, .int (2 : Int32)]) (st' := []) (A' := im_H (im_w g5 31 2 ((g5 31 2) ||| (4 : Int32))) u o Y) (c' := 0) (s' := 0) (mi'' := 31) (pc'' := 52) (ls'' := [.ref 34, .int y0, .ref 4, .int y1, .int (2 : Int32)]) (st'' := []) (A'' := im_H (im_w g5 31 2 ((g5 31 2) ||| (4 : Int32))) u o Y) (c'' := 0) (s'' := 0) 6 0 0 hb6 (fun n => rfl) ?_
        exact x31_r31_r1_3_ok (g := (im_w g5 31 2 ((g5 31 2) ||| (4 : Int32)))) (y0 := y0) (y1 := y1) h
      | false =>
        rw [hb6] at h
        simp only [cond_false] at h
        refine iv_brf (mi' := 31) (pc' := 64) (ls' := [.ref 34, .int y0, .ref 4, .int y1, .int (2 : Int32)]) (st' := []) (A' := im_H (im_w g5 31 2 ((g5 31 2) ||| (4 : Int32))) u o Y) (c' := 0) (s' := 0) (mi'' := 31) (pc'' := 52) (ls'' := [.ref 34, .int y0, .ref 4, .int y1, .int (2 : Int32)]) (st'' := []) (A'' := im_H (im_w g5 31 2 ((g5 31 2) ||| (4 : Int32))) u o Y) (c'' := 0) (s'' := 0) 6 0 0 hb6 (fun n => rfl) ?_
        cases hc : x15_r1 (im_w g5 31 2 ((g5 31 2) ||| (4 : Int32))) (6 : Int32) (1 : Int32) (2 : Int32) with
        | none => rw [hc] at h; cases h
        | some q =>
          obtain ⟨v6, g6⟩ := q
          rw [hc] at h
          simp only [Option.bind_some] at h
          refine iv_cal (mi' := 31) (pc' := 61) (ls' := [.ref 34, .int y0, .ref 4, .int y1, .int (2 : Int32)]) (rest := []) (A' := im_H (im_w g5 31 2 ((g5 31 2) ||| (4 : Int32))) u o Y) (c' := 0) (s' := 0) (as := [.ref 4, .int (6 : Int32), .int (1 : Int32), .int (2 : Int32)]) (v := none) (A'' := im_H g6 u o Y) 6 15 (fun n => rfl) rfl (x15_r1_ok (g := (im_w g5 31 2 ((g5 31 2) ||| (4 : Int32)))) (a := (6 : Int32)) (b := (1 : Int32)) (c := (2 : Int32)) hc) ?_
          show iv_ev (iv_Xs L xs) 31 64 [.ref 34, .int y0, .ref 4, .int y1, .int (2 : Int32)] [] (im_H g6 u o Y) 0 0 _
          exact x31_r31_r1_3_ok (g := g6) (y0 := y0) (y1 := y1) h
def x31_r31_r1_1 (g : im_M) (y0 : Int32) (y1 : Int32) : Option (Int32 × im_M) :=
  Option.bind (x32_r31_1 g y0) (fun (v3, g3) =>
    bif Op.if_icmp.holds .lt v3 (2 : Int32) then
      (x31_r31_r1_2 g3 y0 y1)
    else
      (bif Op.ifCond.holds .ne (y1 &&& (2 : Int32)) then
        (x31_r31_r1_2 (im_w g3 31 2 ((g3 31 2) ||| (2 : Int32))) y0 y1)
      else
        (Option.bind (x15_r1 (im_w g3 31 2 ((g3 31 2) ||| (2 : Int32))) (6 : Int32) (1 : Int32) (1 : Int32)) (fun (_, g4) =>
          x31_r31_r1_2 g4 y0 y1))))
set_option maxRecDepth 100000 in
set_option maxHeartbeats 4000000 in
theorem x31_r31_r1_1_ok {L : Nat} {xs : Nat → Int32} {g u mm : im_M} {o : Nat → Int64} {Y : iv_A} {y0 y1 ret : Int32} (h : x31_r31_r1_1 g y0 y1 = some (ret, mm)) : iv_ev (iv_Xs L xs) 31 64 [.ref 34, .int y0, .ref 4, .int y1, .int (0 : Int32)] [] (im_H g u o Y) 0 0 (.inl none, im_H mm u o Y) := by
  unfold x31_r31_r1_1 at h
  cases hc : x32_r31_1 g y0 with
  | none => rw [hc] at h; cases h
  | some q =>
    obtain ⟨v3, g3⟩ := q
    rw [hc] at h
    simp only [Option.bind_some] at h
    refine iv_cal (mi' := 31) (pc' := 23) (ls' := [.ref 34, .int y0, .ref 4, .int y1, .int (1 : Int32)]) (rest := []) (A' := im_H g u o Y) (c' := 0) (s' := 0) (as := [.ref 34, .int (1 : Int32), .int y0]) (v := some (.int v3)) (A'' := im_H g3 u o Y) 9 32 (fun n => rfl) rfl (x32_r31_1_ok (g := g) (a := y0) hc) ?_
    show iv_ev (iv_Xs L xs) 31 26 [.ref 34, .int y0, .ref 4, .int y1, .int (1 : Int32)] [.int v3] (im_H g3 u o Y) 0 0 _
    cases hb3 : Op.if_icmp.holds .lt v3 (2 : Int32) with
    | true =>
      rw [hb3] at h
      simp only [cond_true] at h
      refine iv_brt (mi' := 31) (pc' := 64) (ls' := [.ref 34, .int y0, .ref 4, .int y1, .int (1 : Int32)]) (st' := []) (A' := im_H g3 u o Y) (c' := 0) (s' := 0) (mi'' := 31) (pc'' := 30) (ls'' := [.ref 34, .int y0, .ref 4, .int y1, .int (1 : Int32)]) (st'' := []) (A'' := im_H g3 u o Y) (c'' := 0) (s'' := 0) 2 0 0 hb3 (fun n => rfl) ?_
      exact x31_r31_r1_2_ok (g := g3) (y0 := y0) (y1 := y1) h
    | false =>
      rw [hb3] at h
      simp only [cond_false] at h
      refine iv_brf (mi' := 31) (pc' := 64) (ls' := [.ref 34, .int y0, .ref 4, .int y1, .int (1 : Int32)]) (st' := []) (A' := im_H g3 u o Y) (c' := 0) (s' := 0) (mi'' := 31) (pc'' := 30) (ls'' := [.ref 34, .int y0, .ref 4, .int y1, .int (1 : Int32)]) (st'' := []) (A'' := im_H g3 u o Y) (c'' := 0) (s'' := 0) 2 0 0 hb3 (fun n => rfl) ?_
      refine iv_blk (mi' := 31) (pc' := 43) (ls' := [.ref 34, .int y0, .ref 4, .int y1, .int (1 : Int32)]) (st' := []) (A' := List.set (im_H g3 u o Y) 31 (.inr (3, List.set [.int 1, .ref 35, .int (g3 31 2), .int (g3 31 3)] 2 (.int ((g3 31 2) ||| (2 : Int32)))))) (c' := 0) (s' := 0) 8 (fun n => rfl) ?_
      rw [im_f31_2]
      cases hb4 : Op.ifCond.holds .ne (y1 &&& (2 : Int32)) with
      | true =>
        rw [hb4] at h
        simp only [cond_true] at h
        refine iv_brt (mi' := 31) (pc' := 64) (ls' := [.ref 34, .int y0, .ref 4, .int y1, .int (1 : Int32)]) (st' := []) (A' := im_H (im_w g3 31 2 ((g3 31 2) ||| (2 : Int32))) u o Y) (c' := 0) (s' := 0) (mi'' := 31) (pc'' := 52) (ls'' := [.ref 34, .int y0, .ref 4, .int y1, .int (1 : Int32)]) (st'' := []) (A'' := im_H (im_w g3 31 2 ((g3 31 2) ||| (2 : Int32))) u o Y) (c'' := 0) (s'' := 0) 6 0 0 hb4 (fun n => rfl) ?_
        exact x31_r31_r1_2_ok (g := (im_w g3 31 2 ((g3 31 2) ||| (2 : Int32)))) (y0 := y0) (y1 := y1) h
      | false =>
        rw [hb4] at h
        simp only [cond_false] at h
        refine iv_brf (mi' := 31) (pc' := 64) (ls' := [.ref 34, .int y0, .ref 4, .int y1, .int (1 : Int32)]) (st' := []) (A' := im_H (im_w g3 31 2 ((g3 31 2) ||| (2 : Int32))) u o Y) (c' := 0) (s' := 0) (mi'' := 31) (pc'' := 52) (ls'' := [.ref 34, .int y0, .ref 4, .int y1, .int (1 : Int32)]) (st'' := []) (A'' := im_H (im_w g3 31 2 ((g3 31 2) ||| (2 : Int32))) u o Y) (c'' := 0) (s'' := 0) 6 0 0 hb4 (fun n => rfl) ?_
        cases hc : x15_r1 (im_w g3 31 2 ((g3 31 2) ||| (2 : Int32))) (6 : Int32) (1 : Int32) (1 : Int32) with
        | none => rw [hc] at h; cases h
        | some q =>
          obtain ⟨v4, g4⟩ := q
          rw [hc] at h
          simp only [Option.bind_some] at h
          refine iv_cal (mi' := 31) (pc' := 61) (ls' := [.ref 34, .int y0, .ref 4, .int y1, .int (1 : Int32)]) (rest := []) (A' := im_H (im_w g3 31 2 ((g3 31 2) ||| (2 : Int32))) u o Y) (c' := 0) (s' := 0) (as := [.ref 4, .int (6 : Int32), .int (1 : Int32), .int (1 : Int32)]) (v := none) (A'' := im_H g4 u o Y) 6 15 (fun n => rfl) rfl (x15_r1_ok (g := (im_w g3 31 2 ((g3 31 2) ||| (2 : Int32)))) (a := (6 : Int32)) (b := (1 : Int32)) (c := (1 : Int32)) hc) ?_
          show iv_ev (iv_Xs L xs) 31 64 [.ref 34, .int y0, .ref 4, .int y1, .int (1 : Int32)] [] (im_H g4 u o Y) 0 0 _
          exact x31_r31_r1_2_ok (g := g4) (y0 := y0) (y1 := y1) h
def x31_r31_r1 (g : im_M) (a : Int32) : Option (Int32 × im_M) :=
  Option.bind (x32_r31_0 (im_w g 31 2 (0 : Int32)) a) (fun (v1, g1) =>
    bif Op.if_icmp.holds .lt v1 (2 : Int32) then
      (x31_r31_r1_1 g1 a (g 31 2))
    else
      (bif Op.ifCond.holds .ne ((g 31 2) &&& (1 : Int32)) then
        (x31_r31_r1_1 (im_w g1 31 2 ((g1 31 2) ||| (1 : Int32))) a (g 31 2))
      else
        (Option.bind (x15_r1 (im_w g1 31 2 ((g1 31 2) ||| (1 : Int32))) (6 : Int32) (1 : Int32) (0 : Int32)) (fun (_, g2) =>
          x31_r31_r1_1 g2 a (g 31 2)))))
set_option maxRecDepth 100000 in
set_option maxHeartbeats 4000000 in
theorem x31_r31_r1_ok {L : Nat} {xs : Nat → Int32} {g u mm : im_M} {o : Nat → Int64} {Y : iv_A} {a ret : Int32} (h : x31_r31_r1 g a = some (ret, mm)) : iv_ev (iv_Xs L xs) 31 0 [.ref 34, .int a, .ref 4, .retAddr 0, .retAddr 0] [] (im_H g u o Y) 0 0 (.inl none, im_H mm u o Y) := by
  unfold x31_r31_r1 at h
  refine iv_blk (mi' := 31) (pc' := 10) (ls' := [.ref 34, .int a, .ref 4, .int (g 31 2), .retAddr 0]) (st' := []) (A' := List.set (im_H g u o Y) 31 (.inr (3, List.set [.int 1, .ref 35, .int (g 31 2), .int (g 31 3)] 2 (.int (0 : Int32))))) (c' := 0) (s' := 0) 6 (fun n => rfl) ?_
  rw [im_f31_2]
  cases hc : x32_r31_0 (im_w g 31 2 (0 : Int32)) a with
  | none => rw [hc] at h; cases h
  | some q =>
    obtain ⟨v1, g1⟩ := q
    rw [hc] at h
    simp only [Option.bind_some] at h
    refine iv_cal (mi' := 31) (pc' := 23) (ls' := [.ref 34, .int a, .ref 4, .int (g 31 2), .int (0 : Int32)]) (rest := []) (A' := im_H (im_w g 31 2 (0 : Int32)) u o Y) (c' := 0) (s' := 0) (as := [.ref 34, .int (0 : Int32), .int a]) (v := some (.int v1)) (A'' := im_H g1 u o Y) 9 32 (fun n => rfl) rfl (x32_r31_0_ok (g := (im_w g 31 2 (0 : Int32))) (a := a) hc) ?_
    show iv_ev (iv_Xs L xs) 31 26 [.ref 34, .int a, .ref 4, .int (g 31 2), .int (0 : Int32)] [.int v1] (im_H g1 u o Y) 0 0 _
    cases hb1 : Op.if_icmp.holds .lt v1 (2 : Int32) with
    | true =>
      rw [hb1] at h
      simp only [cond_true] at h
      refine iv_brt (mi' := 31) (pc' := 64) (ls' := [.ref 34, .int a, .ref 4, .int (g 31 2), .int (0 : Int32)]) (st' := []) (A' := im_H g1 u o Y) (c' := 0) (s' := 0) (mi'' := 31) (pc'' := 30) (ls'' := [.ref 34, .int a, .ref 4, .int (g 31 2), .int (0 : Int32)]) (st'' := []) (A'' := im_H g1 u o Y) (c'' := 0) (s'' := 0) 2 0 0 hb1 (fun n => rfl) ?_
      exact x31_r31_r1_1_ok (g := g1) (y0 := a) (y1 := (g 31 2)) h
    | false =>
      rw [hb1] at h
      simp only [cond_false] at h
      refine iv_brf (mi' := 31) (pc' := 64) (ls' := [.ref 34, .int a, .ref 4, .int (g 31 2), .int (0 : Int32)]) (st' := []) (A' := im_H g1 u o Y) (c' := 0) (s' := 0) (mi'' := 31) (pc'' := 30) (ls'' := [.ref 34, .int a, .ref 4, .int (g 31 2), .int (0 : Int32)]) (st'' := []) (A'' := im_H g1 u o Y) (c'' := 0) (s'' := 0) 2 0 0 hb1 (fun n => rfl) ?_
      refine iv_blk (mi' := 31) (pc' := 43) (ls' := [.ref 34, .int a, .ref 4, .int (g 31 2), .int (0 : Int32)]) (st' := []) (A' := List.set (im_H g1 u o Y) 31 (.inr (3, List.set [.int 1, .ref 35, .int (g1 31 2), .int (g1 31 3)] 2 (.int ((g1 31 2) ||| (1 : Int32)))))) (c' := 0) (s' := 0) 8 (fun n => rfl) ?_
      rw [im_f31_2]
      cases hb2 : Op.ifCond.holds .ne ((g 31 2) &&& (1 : Int32)) with
      | true =>
        rw [hb2] at h
        simp only [cond_true] at h
        refine iv_brt (mi' := 31) (pc' := 64) (ls' := [.ref 34, .int a, .ref 4, .int (g 31 2), .int (0 : Int32)]) (st' := []) (A' := im_H (im_w g1 31 2 ((g1 31 2) ||| (1 : Int32))) u o Y) (c' := 0) (s' := 0) (mi'' := 31) (pc'' := 52) (ls'' := [.ref 34, .int a, .ref 4, .int (g 31 2), .int (0 : Int32)]) (st'' := []) (A'' := im_H (im_w g1 31 2 ((g1 31 2) ||| (1 : Int32))) u o Y) (c'' := 0) (s'' := 0) 6 0 0 hb2 (fun n => rfl) ?_
        exact x31_r31_r1_1_ok (g := (im_w g1 31 2 ((g1 31 2) ||| (1 : Int32)))) (y0 := a) (y1 := (g 31 2)) h
      | false =>
        rw [hb2] at h
        simp only [cond_false] at h
        refine iv_brf (mi' := 31) (pc' := 64) (ls' := [.ref 34, .int a, .ref 4, .int (g 31 2), .int (0 : Int32)]) (st' := []) (A' := im_H (im_w g1 31 2 ((g1 31 2) ||| (1 : Int32))) u o Y) (c' := 0) (s' := 0) (mi'' := 31) (pc'' := 52) (ls'' := [.ref 34, .int a, .ref 4, .int (g 31 2), .int (0 : Int32)]) (st'' := []) (A'' := im_H (im_w g1 31 2 ((g1 31 2) ||| (1 : Int32))) u o Y) (c'' := 0) (s'' := 0) 6 0 0 hb2 (fun n => rfl) ?_
        cases hc : x15_r1 (im_w g1 31 2 ((g1 31 2) ||| (1 : Int32))) (6 : Int32) (1 : Int32) (0 : Int32) with
        | none => rw [hc] at h; cases h
        | some q =>
          obtain ⟨v2, g2⟩ := q
          rw [hc] at h
          simp only [Option.bind_some] at h
          refine iv_cal (mi' := 31) (pc' := 61) (ls' := [.ref 34, .int a, .ref 4, .int (g 31 2), .int (0 : Int32)]) (rest := []) (A' := im_H (im_w g1 31 2 ((g1 31 2) ||| (1 : Int32))) u o Y) (c' := 0) (s' := 0) (as := [.ref 4, .int (6 : Int32), .int (1 : Int32), .int (0 : Int32)]) (v := none) (A'' := im_H g2 u o Y) 6 15 (fun n => rfl) rfl (x15_r1_ok (g := (im_w g1 31 2 ((g1 31 2) ||| (1 : Int32)))) (a := (6 : Int32)) (b := (1 : Int32)) (c := (0 : Int32)) hc) ?_
          show iv_ev (iv_Xs L xs) 31 64 [.ref 34, .int a, .ref 4, .int (g 31 2), .int (0 : Int32)] [] (im_H g2 u o Y) 0 0 _
          exact x31_r31_r1_1_ok (g := g2) (y0 := a) (y1 := (g 31 2)) h
def x31_r33_r1_4 (g : im_M) (y0 : Int32) (y1 : Int32) : Option (Int32 × im_M) :=
  some (0, g)
set_option maxRecDepth 100000 in
set_option maxHeartbeats 4000000 in
theorem x31_r33_r1_4_ok {L : Nat} {xs : Nat → Int32} {g u mm : im_M} {o : Nat → Int64} {Y : iv_A} {y0 y1 ret : Int32} (h : x31_r33_r1_4 g y0 y1 = some (ret, mm)) : iv_ev (iv_Xs L xs) 31 82 [.ref 36, .int y0, .ref 4, .int y1, .int (3 : Int32)] [] (im_H g u o Y) 0 0 (.inl none, im_H mm u o Y) := by
  unfold x31_r33_r1_4 at h
  cases h
  exact iv_ret 1 (fun n => rfl)
def x31_r33_r1_3 (g : im_M) (y0 : Int32) (y1 : Int32) : Option (Int32 × im_M) :=
  bif Op.ifCond.holds .eq (g 33 2) then
    (x31_r33_r1_4 g y0 y1)
  else
    (Option.bind (x33_r33_r1 g ) (fun (_, g7) =>
      x31_r33_r1_4 g7 y0 y1))
set_option maxRecDepth 100000 in
set_option maxHeartbeats 4000000 in
theorem x31_r33_r1_3_ok {L : Nat} {xs : Nat → Int32} {g u mm : im_M} {o : Nat → Int64} {Y : iv_A} {y0 y1 ret : Int32} (h : x31_r33_r1_3 g y0 y1 = some (ret, mm)) : iv_ev (iv_Xs L xs) 31 64 [.ref 36, .int y0, .ref 4, .int y1, .int (2 : Int32)] [] (im_H g u o Y) 0 0 (.inl none, im_H mm u o Y) := by
  unfold x31_r33_r1_3 at h
  cases hb7 : Op.ifCond.holds .eq (g 33 2) with
  | true =>
    rw [hb7] at h
    simp only [cond_true] at h
    refine iv_brt (mi' := 31) (pc' := 82) (ls' := [.ref 36, .int y0, .ref 4, .int y1, .int (3 : Int32)]) (st' := []) (A' := im_H g u o Y) (c' := 0) (s' := 0) (mi'' := 31) (pc'' := 77) (ls'' := [.ref 36, .int y0, .ref 4, .int y1, .int (3 : Int32)]) (st'' := []) (A'' := im_H g u o Y) (c'' := 0) (s'' := 0) 8 0 0 hb7 (fun n => rfl) ?_
    exact x31_r33_r1_4_ok (g := g) (y0 := y0) (y1 := y1) h
  | false =>
    rw [hb7] at h
    simp only [cond_false] at h
    refine iv_brf (mi' := 31) (pc' := 82) (ls' := [.ref 36, .int y0, .ref 4, .int y1, .int (3 : Int32)]) (st' := []) (A' := im_H g u o Y) (c' := 0) (s' := 0) (mi'' := 31) (pc'' := 77) (ls'' := [.ref 36, .int y0, .ref 4, .int y1, .int (3 : Int32)]) (st'' := []) (A'' := im_H g u o Y) (c'' := 0) (s'' := 0) 8 0 0 hb7 (fun n => rfl) ?_
    cases hc : x33_r33_r1 g  with
    | none => rw [hc] at h; cases h
    | some q =>
      obtain ⟨v7, g7⟩ := q
      rw [hc] at h
      simp only [Option.bind_some] at h
      refine iv_cal (mi' := 31) (pc' := 79) (ls' := [.ref 36, .int y0, .ref 4, .int y1, .int (3 : Int32)]) (rest := []) (A' := im_H g u o Y) (c' := 0) (s' := 0) (as := [.ref 36, .ref 4]) (v := none) (A'' := im_H g7 u o Y) 3 33 (fun n => rfl) rfl (x33_r33_r1_ok (g := g)  hc) ?_
      show iv_ev (iv_Xs L xs) 31 82 [.ref 36, .int y0, .ref 4, .int y1, .int (3 : Int32)] [] (im_H g7 u o Y) 0 0 _
      exact x31_r33_r1_4_ok (g := g7) (y0 := y0) (y1 := y1) h
def x31_r33_r1_2 (g : im_M) (y0 : Int32) (y1 : Int32) : Option (Int32 × im_M) :=
  Option.bind (x32_r33_2 g y0) (fun (v5, g5) =>
    bif Op.if_icmp.holds .lt v5 (2 : Int32) then
      (x31_r33_r1_3 g5 y0 y1)
    else
      (bif Op.ifCond.holds .ne (y1 &&& (4 : Int32)) then
        (x31_r33_r1_3 (im_w g5 33 2 ((g5 33 2) ||| (4 : Int32))) y0 y1)
      else
        (Option.bind (x15_r1 (im_w g5 33 2 ((g5 33 2) ||| (4 : Int32))) (6 : Int32) (2 : Int32) (2 : Int32)) (fun (_, g6) =>
          x31_r33_r1_3 g6 y0 y1))))
set_option maxRecDepth 100000 in
set_option maxHeartbeats 4000000 in
theorem x31_r33_r1_2_ok {L : Nat} {xs : Nat → Int32} {g u mm : im_M} {o : Nat → Int64} {Y : iv_A} {y0 y1 ret : Int32} (h : x31_r33_r1_2 g y0 y1 = some (ret, mm)) : iv_ev (iv_Xs L xs) 31 64 [.ref 36, .int y0, .ref 4, .int y1, .int (1 : Int32)] [] (im_H g u o Y) 0 0 (.inl none, im_H mm u o Y) := by
  unfold x31_r33_r1_2 at h
  cases hc : x32_r33_2 g y0 with
  | none => rw [hc] at h; cases h
  | some q =>
    obtain ⟨v5, g5⟩ := q
    rw [hc] at h
    simp only [Option.bind_some] at h
    refine iv_cal (mi' := 31) (pc' := 23) (ls' := [.ref 36, .int y0, .ref 4, .int y1, .int (2 : Int32)]) (rest := []) (A' := im_H g u o Y) (c' := 0) (s' := 0) (as := [.ref 36, .int (2 : Int32), .int y0]) (v := some (.int v5)) (A'' := im_H g5 u o Y) 9 32 (fun n => rfl) rfl (x32_r33_2_ok (g := g) (a := y0) hc) ?_
    show iv_ev (iv_Xs L xs) 31 26 [.ref 36, .int y0, .ref 4, .int y1, .int (2 : Int32)] [.int v5] (im_H g5 u o Y) 0 0 _
    cases hb5 : Op.if_icmp.holds .lt v5 (2 : Int32) with
    | true =>
      rw [hb5] at h
      simp only [cond_true] at h
      refine iv_brt (mi' := 31) (pc' := 64) (ls' := [.ref 36, .int y0, .ref 4, .int y1, .int (2 : Int32)]) (st' := []) (A' := im_H g5 u o Y) (c' := 0) (s' := 0) (mi'' := 31) (pc'' := 30) (ls'' := [.ref 36, .int y0, .ref 4, .int y1, .int (2 : Int32)]) (st'' := []) (A'' := im_H g5 u o Y) (c'' := 0) (s'' := 0) 2 0 0 hb5 (fun n => rfl) ?_
      exact x31_r33_r1_3_ok (g := g5) (y0 := y0) (y1 := y1) h
    | false =>
      rw [hb5] at h
      simp only [cond_false] at h
      refine iv_brf (mi' := 31) (pc' := 64) (ls' := [.ref 36, .int y0, .ref 4, .int y1, .int (2 : Int32)]) (st' := []) (A' := im_H g5 u o Y) (c' := 0) (s' := 0) (mi'' := 31) (pc'' := 30) (ls'' := [.ref 36, .int y0, .ref 4, .int y1, .int (2 : Int32)]) (st'' := []) (A'' := im_H g5 u o Y) (c'' := 0) (s'' := 0) 2 0 0 hb5 (fun n => rfl) ?_
      refine iv_blk (mi' := 31) (pc' := 43) (ls' := [.ref 36, .int y0, .ref 4, .int y1, .int (2 : Int32)]) (st' := []) (A' := List.set (im_H g5 u o Y) 33 (.inr (3, List.set [.int 2, .ref 37, .int (g5 33 2), .int (g5 33 3)] 2 (.int ((g5 33 2) ||| (4 : Int32)))))) (c' := 0) (s' := 0) 8 (fun n => rfl) ?_
      rw [im_f33_2]
      cases hb6 : Op.ifCond.holds .ne (y1 &&& (4 : Int32)) with
      | true =>
        rw [hb6] at h
        simp only [cond_true] at h
        refine iv_brt (mi' := 31) (pc' := 64) (ls' := [.ref 36, .int y0, .ref 4, .int y1, .int (2 : Int32)]) (st' := []) (A' := im_H (im_w g5 33 2 ((g5 33 2) ||| (4 : Int32))) u o Y) (c' := 0) (s' := 0) (mi'' := 31) (pc'' := 52) (ls'' := [.ref 36, .int y0, .ref 4, .int y1, .int (2 : Int32)]) (st'' := []) (A'' := im_H (im_w g5 33 2 ((g5 33 2) ||| (4 : Int32))) u o Y) (c'' := 0) (s'' := 0) 6 0 0 hb6 (fun n => rfl) ?_
        exact x31_r33_r1_3_ok (g := (im_w g5 33 2 ((g5 33 2) ||| (4 : Int32)))) (y0 := y0) (y1 := y1) h
      | false =>
        rw [hb6] at h
        simp only [cond_false] at h
        refine iv_brf (mi' := 31) (pc' := 64) (ls' := [.ref 36, .int y0, .ref 4, .int y1, .int (2 : Int32)]) (st' := []) (A' := im_H (im_w g5 33 2 ((g5 33 2) ||| (4 : Int32))) u o Y) (c' := 0) (s' := 0) (mi'' := 31) (pc'' := 52) (ls'' := [.ref 36, .int y0, .ref 4, .int y1, .int (2 : Int32)]) (st'' := []) (A'' := im_H (im_w g5 33 2 ((g5 33 2) ||| (4 : Int32))) u o Y) (c'' := 0) (s'' := 0) 6 0 0 hb6 (fun n => rfl) ?_
        cases hc : x15_r1 (im_w g5 33 2 ((g5 33 2) ||| (4 : Int32))) (6 : Int32) (2 : Int32) (2 : Int32) with
        | none => rw [hc] at h; cases h
        | some q =>
          obtain ⟨v6, g6⟩ := q
          rw [hc] at h
          simp only [Option.bind_some] at h
          refine iv_cal (mi' := 31) (pc' := 61) (ls' := [.ref 36, .int y0, .ref 4, .int y1, .int (2 : Int32)]) (rest := []) (A' := im_H (im_w g5 33 2 ((g5 33 2) ||| (4 : Int32))) u o Y) (c' := 0) (s' := 0) (as := [.ref 4, .int (6 : Int32), .int (2 : Int32), .int (2 : Int32)]) (v := none) (A'' := im_H g6 u o Y) 6 15 (fun n => rfl) rfl (x15_r1_ok (g := (im_w g5 33 2 ((g5 33 2) ||| (4 : Int32)))) (a := (6 : Int32)) (b := (2 : Int32)) (c := (2 : Int32)) hc) ?_
          show iv_ev (iv_Xs L xs) 31 64 [.ref 36, .int y0, .ref 4, .int y1, .int (2 : Int32)] [] (im_H g6 u o Y) 0 0 _
          exact x31_r33_r1_3_ok (g := g6) (y0 := y0) (y1 := y1) h
def x31_r33_r1_1 (g : im_M) (y0 : Int32) (y1 : Int32) : Option (Int32 × im_M) :=
  Option.bind (x32_r33_1 g y0) (fun (v3, g3) =>
    bif Op.if_icmp.holds .lt v3 (2 : Int32) then
      (x31_r33_r1_2 g3 y0 y1)
    else
      (bif Op.ifCond.holds .ne (y1 &&& (2 : Int32)) then
        (x31_r33_r1_2 (im_w g3 33 2 ((g3 33 2) ||| (2 : Int32))) y0 y1)
      else
        (Option.bind (x15_r1 (im_w g3 33 2 ((g3 33 2) ||| (2 : Int32))) (6 : Int32) (2 : Int32) (1 : Int32)) (fun (_, g4) =>
          x31_r33_r1_2 g4 y0 y1))))
set_option maxRecDepth 100000 in
set_option maxHeartbeats 4000000 in
theorem x31_r33_r1_1_ok {L : Nat} {xs : Nat → Int32} {g u mm : im_M} {o : Nat → Int64} {Y : iv_A} {y0 y1 ret : Int32} (h : x31_r33_r1_1 g y0 y1 = some (ret, mm)) : iv_ev (iv_Xs L xs) 31 64 [.ref 36, .int y0, .ref 4, .int y1, .int (0 : Int32)] [] (im_H g u o Y) 0 0 (.inl none, im_H mm u o Y) := by
  unfold x31_r33_r1_1 at h
  cases hc : x32_r33_1 g y0 with
  | none => rw [hc] at h; cases h
  | some q =>
    obtain ⟨v3, g3⟩ := q
    rw [hc] at h
    simp only [Option.bind_some] at h
    refine iv_cal (mi' := 31) (pc' := 23) (ls' := [.ref 36, .int y0, .ref 4, .int y1, .int (1 : Int32)]) (rest := []) (A' := im_H g u o Y) (c' := 0) (s' := 0) (as := [.ref 36, .int (1 : Int32), .int y0]) (v := some (.int v3)) (A'' := im_H g3 u o Y) 9 32 (fun n => rfl) rfl (x32_r33_1_ok (g := g) (a := y0) hc) ?_
    show iv_ev (iv_Xs L xs) 31 26 [.ref 36, .int y0, .ref 4, .int y1, .int (1 : Int32)] [.int v3] (im_H g3 u o Y) 0 0 _
    cases hb3 : Op.if_icmp.holds .lt v3 (2 : Int32) with
    | true =>
      rw [hb3] at h
      simp only [cond_true] at h
      refine iv_brt (mi' := 31) (pc' := 64) (ls' := [.ref 36, .int y0, .ref 4, .int y1, .int (1 : Int32)]) (st' := []) (A' := im_H g3 u o Y) (c' := 0) (s' := 0) (mi'' := 31) (pc'' := 30) (ls'' := [.ref 36, .int y0, .ref 4, .int y1, .int (1 : Int32)]) (st'' := []) (A'' := im_H g3 u o Y) (c'' := 0) (s'' := 0) 2 0 0 hb3 (fun n => rfl) ?_
      exact x31_r33_r1_2_ok (g := g3) (y0 := y0) (y1 := y1) h
    | false =>
      rw [hb3] at h
      simp only [cond_false] at h
      refine iv_brf (mi' := 31) (pc' := 64) (ls' := [.ref 36, .int y0, .ref 4, .int y1, .int (1 : Int32)]) (st' := []) (A' := im_H g3 u o Y) (c' := 0) (s' := 0) (mi'' := 31) (pc'' := 30) (ls'' := [.ref 36, .int y0, .ref 4, .int y1, .int (1 : Int32)]) (st'' := []) (A'' := im_H g3 u o Y) (c'' := 0) (s'' := 0) 2 0 0 hb3 (fun n => rfl) ?_
      refine iv_blk (mi' := 31) (pc' := 43) (ls' := [.ref 36, .int y0, .ref 4, .int y1, .int (1 : Int32)]) (st' := []) (A' := List.set (im_H g3 u o Y) 33 (.inr (3, List.set [.int 2, .ref 37, .int (g3 33 2), .int (g3 33 3)] 2 (.int ((g3 33 2) ||| (2 : Int32)))))) (c' := 0) (s' := 0) 8 (fun n => rfl) ?_
      rw [im_f33_2]
      cases hb4 : Op.ifCond.holds .ne (y1 &&& (2 : Int32)) with
      | true =>
        rw [hb4] at h
        simp only [cond_true] at h
        refine iv_brt (mi' := 31) (pc' := 64) (ls' := [.ref 36, .int y0, .ref 4, .int y1, .int (1 : Int32)]) (st' := []) (A' := im_H (im_w g3 33 2 ((g3 33 2) ||| (2 : Int32))) u o Y) (c' := 0) (s' := 0) (mi'' := 31) (pc'' := 52) (ls'' := [.ref 36, .int y0, .ref 4, .int y1, .int (1 : Int32)]) (st'' := []) (A'' := im_H (im_w g3 33 2 ((g3 33 2) ||| (2 : Int32))) u o Y) (c'' := 0) (s'' := 0) 6 0 0 hb4 (fun n => rfl) ?_
        exact x31_r33_r1_2_ok (g := (im_w g3 33 2 ((g3 33 2) ||| (2 : Int32)))) (y0 := y0) (y1 := y1) h
      | false =>
        rw [hb4] at h
        simp only [cond_false] at h
        refine iv_brf (mi' := 31) (pc' := 64) (ls' := [.ref 36, .int y0, .ref 4, .int y1, .int (1 : Int32)]) (st' := []) (A' := im_H (im_w g3 33 2 ((g3 33 2) ||| (2 : Int32))) u o Y) (c' := 0) (s' := 0) (mi'' := 31) (pc'' := 52) (ls'' := [.ref 36, .int y0, .ref 4, .int y1, .int (1 : Int32)]) (st'' := []) (A'' := im_H (im_w g3 33 2 ((g3 33 2) ||| (2 : Int32))) u o Y) (c'' := 0) (s'' := 0) 6 0 0 hb4 (fun n => rfl) ?_
        cases hc : x15_r1 (im_w g3 33 2 ((g3 33 2) ||| (2 : Int32))) (6 : Int32) (2 : Int32) (1 : Int32) with
        | none => rw [hc] at h; cases h
        | some q =>
          obtain ⟨v4, g4⟩ := q
          rw [hc] at h
          simp only [Option.bind_some] at h
          refine iv_cal (mi' := 31) (pc' := 61) (ls' := [.ref 36, .int y0, .ref 4, .int y1, .int (1 : Int32)]) (rest := []) (A' := im_H (im_w g3 33 2 ((g3 33 2) ||| (2 : Int32))) u o Y) (c' := 0) (s' := 0) (as := [.ref 4, .int (6 : Int32), .int (2 : Int32), .int (1 : Int32)]) (v := none) (A'' := im_H g4 u o Y) 6 15 (fun n => rfl) rfl (x15_r1_ok (g := (im_w g3 33 2 ((g3 33 2) ||| (2 : Int32)))) (a := (6 : Int32)) (b := (2 : Int32)) (c := (1 : Int32)) hc) ?_
          show iv_ev (iv_Xs L xs) 31 64 [.ref 36, .int y0, .ref 4, .int y1, .int (1 : Int32)] [] (im_H g4 u o Y) 0 0 _
          exact x31_r33_r1_2_ok (g := g4) (y0 := y0) (y1 := y1) h
def x31_r33_r1 (g : im_M) (a : Int32) : Option (Int32 × im_M) :=
  Option.bind (x32_r33_0 (im_w g 33 2 (0 : Int32)) a) (fun (v1, g1) =>
    bif Op.if_icmp.holds .lt v1 (2 : Int32) then
      (x31_r33_r1_1 g1 a (g 33 2))
    else
      (bif Op.ifCond.holds .ne ((g 33 2) &&& (1 : Int32)) then
        (x31_r33_r1_1 (im_w g1 33 2 ((g1 33 2) ||| (1 : Int32))) a (g 33 2))
      else
        (Option.bind (x15_r1 (im_w g1 33 2 ((g1 33 2) ||| (1 : Int32))) (6 : Int32) (2 : Int32) (0 : Int32)) (fun (_, g2) =>
          x31_r33_r1_1 g2 a (g 33 2)))))
set_option maxRecDepth 100000 in
set_option maxHeartbeats 4000000 in
theorem x31_r33_r1_ok {L : Nat} {xs : Nat → Int32} {g u mm : im_M} {o : Nat → Int64} {Y : iv_A} {a ret : Int32} (h : x31_r33_r1 g a = some (ret, mm)) : iv_ev (iv_Xs L xs) 31 0 [.ref 36, .int a, .ref 4, .retAddr 0, .retAddr 0] [] (im_H g u o Y) 0 0 (.inl none, im_H mm u o Y) := by
  unfold x31_r33_r1 at h
  refine iv_blk (mi' := 31) (pc' := 10) (ls' := [.ref 36, .int a, .ref 4, .int (g 33 2), .retAddr 0]) (st' := []) (A' := List.set (im_H g u o Y) 33 (.inr (3, List.set [.int 2, .ref 37, .int (g 33 2), .int (g 33 3)] 2 (.int (0 : Int32))))) (c' := 0) (s' := 0) 6 (fun n => rfl) ?_
  rw [im_f33_2]
  cases hc : x32_r33_0 (im_w g 33 2 (0 : Int32)) a with
  | none => rw [hc] at h; cases h
  | some q =>
    obtain ⟨v1, g1⟩ := q
    rw [hc] at h
    simp only [Option.bind_some] at h
    refine iv_cal (mi' := 31) (pc' := 23) (ls' := [.ref 36, .int a, .ref 4, .int (g 33 2), .int (0 : Int32)]) (rest := []) (A' := im_H (im_w g 33 2 (0 : Int32)) u o Y) (c' := 0) (s' := 0) (as := [.ref 36, .int (0 : Int32), .int a]) (v := some (.int v1)) (A'' := im_H g1 u o Y) 9 32 (fun n => rfl) rfl (x32_r33_0_ok (g := (im_w g 33 2 (0 : Int32))) (a := a) hc) ?_
    show iv_ev (iv_Xs L xs) 31 26 [.ref 36, .int a, .ref 4, .int (g 33 2), .int (0 : Int32)] [.int v1] (im_H g1 u o Y) 0 0 _
    cases hb1 : Op.if_icmp.holds .lt v1 (2 : Int32) with
    | true =>
      rw [hb1] at h
      simp only [cond_true] at h
      refine iv_brt (mi' := 31) (pc' := 64) (ls' := [.ref 36, .int a, .ref 4, .int (g 33 2), .int (0 : Int32)]) (st' := []) (A' := im_H g1 u o Y) (c' := 0) (s' := 0) (mi'' := 31) (pc'' := 30) (ls'' := [.ref 36, .int a, .ref 4, .int (g 33 2), .int (0 : Int32)]) (st'' := []) (A'' := im_H g1 u o Y) (c'' := 0) (s'' := 0) 2 0 0 hb1 (fun n => rfl) ?_
      exact x31_r33_r1_1_ok (g := g1) (y0 := a) (y1 := (g 33 2)) h
    | false =>
      rw [hb1] at h
      simp only [cond_false] at h
      refine iv_brf (mi' := 31) (pc' := 64) (ls' := [.ref 36, .int a, .ref 4, .int (g 33 2), .int (0 : Int32)]) (st' := []) (A' := im_H g1 u o Y) (c' := 0) (s' := 0) (mi'' := 31) (pc'' := 30) (ls'' := [.ref 36, .int a, .ref 4, .int (g 33 2), .int (0 : Int32)]) (st'' := []) (A'' := im_H g1 u o Y) (c'' := 0) (s'' := 0) 2 0 0 hb1 (fun n => rfl) ?_
      refine iv_blk (mi' := 31) (pc' := 43) (ls' := [.ref 36, .int a, .ref 4, .int (g 33 2), .int (0 : Int32)]) (st' := []) (A' := List.set (im_H g1 u o Y) 33 (.inr (3, List.set [.int 2, .ref 37, .int (g1 33 2), .int (g1 33 3)] 2 (.int ((g1 33 2) ||| (1 : Int32)))))) (c' := 0) (s' := 0) 8 (fun n => rfl) ?_
      rw [im_f33_2]
      cases hb2 : Op.ifCond.holds .ne ((g 33 2) &&& (1 : Int32)) with
      | true =>
        rw [hb2] at h
        simp only [cond_true] at h
        refine iv_brt (mi' := 31) (pc' := 64) (ls' := [.ref 36, .int a, .ref 4, .int (g 33 2), .int (0 : Int32)]) (st' := []) (A' := im_H (im_w g1 33 2 ((g1 33 2) ||| (1 : Int32))) u o Y) (c' := 0) (s' := 0) (mi'' := 31) (pc'' := 52) (ls'' := [.ref 36, .int a, .ref 4, .int (g 33 2), .int (0 : Int32)]) (st'' := []) (A'' := im_H (im_w g1 33 2 ((g1 33 2) ||| (1 : Int32))) u o Y) (c'' := 0) (s'' := 0) 6 0 0 hb2 (fun n => rfl) ?_
        exact x31_r33_r1_1_ok (g := (im_w g1 33 2 ((g1 33 2) ||| (1 : Int32)))) (y0 := a) (y1 := (g 33 2)) h
      | false =>
        rw [hb2] at h
        simp only [cond_false] at h
        refine iv_brf (mi' := 31) (pc' := 64) (ls' := [.ref 36, .int a, .ref 4, .int (g 33 2), .int (0 : Int32)]) (st' := []) (A' := im_H (im_w g1 33 2 ((g1 33 2) ||| (1 : Int32))) u o Y) (c' := 0) (s' := 0) (mi'' := 31) (pc'' := 52) (ls'' := [.ref 36, .int a, .ref 4, .int (g 33 2), .int (0 : Int32)]) (st'' := []) (A'' := im_H (im_w g1 33 2 ((g1 33 2) ||| (1 : Int32))) u o Y) (c'' := 0) (s'' := 0) 6 0 0 hb2 (fun n => rfl) ?_
        cases hc : x15_r1 (im_w g1 33 2 ((g1 33 2) ||| (1 : Int32))) (6 : Int32) (2 : Int32) (0 : Int32) with
        | none => rw [hc] at h; cases h
        | some q =>
          obtain ⟨v2, g2⟩ := q
          rw [hc] at h
          simp only [Option.bind_some] at h
          refine iv_cal (mi' := 31) (pc' := 61) (ls' := [.ref 36, .int a, .ref 4, .int (g 33 2), .int (0 : Int32)]) (rest := []) (A' := im_H (im_w g1 33 2 ((g1 33 2) ||| (1 : Int32))) u o Y) (c' := 0) (s' := 0) (as := [.ref 4, .int (6 : Int32), .int (2 : Int32), .int (0 : Int32)]) (v := none) (A'' := im_H g2 u o Y) 6 15 (fun n => rfl) rfl (x15_r1_ok (g := (im_w g1 33 2 ((g1 33 2) ||| (1 : Int32)))) (a := (6 : Int32)) (b := (2 : Int32)) (c := (0 : Int32)) hc) ?_
          show iv_ev (iv_Xs L xs) 31 64 [.ref 36, .int a, .ref 4, .int (g 33 2), .int (0 : Int32)] [] (im_H g2 u o Y) 0 0 _
          exact x31_r33_r1_1_ok (g := g2) (y0 := a) (y1 := (g 33 2)) h
def x31_r35_r1_4 (g : im_M) (y0 : Int32) (y1 : Int32) : Option (Int32 × im_M) :=
  some (0, g)
set_option maxRecDepth 100000 in
set_option maxHeartbeats 4000000 in
theorem x31_r35_r1_4_ok {L : Nat} {xs : Nat → Int32} {g u mm : im_M} {o : Nat → Int64} {Y : iv_A} {y0 y1 ret : Int32} (h : x31_r35_r1_4 g y0 y1 = some (ret, mm)) : iv_ev (iv_Xs L xs) 31 82 [.ref 38, .int y0, .ref 4, .int y1, .int (3 : Int32)] [] (im_H g u o Y) 0 0 (.inl none, im_H mm u o Y) := by
  unfold x31_r35_r1_4 at h
  cases h
  exact iv_ret 1 (fun n => rfl)
def x31_r35_r1_3 (g : im_M) (y0 : Int32) (y1 : Int32) : Option (Int32 × im_M) :=
  bif Op.ifCond.holds .eq (g 35 2) then
    (x31_r35_r1_4 g y0 y1)
  else
    (Option.bind (x33_r35_r1 g ) (fun (_, g7) =>
      x31_r35_r1_4 g7 y0 y1))
set_option maxRecDepth 100000 in
set_option maxHeartbeats 4000000 in
theorem x31_r35_r1_3_ok {L : Nat} {xs : Nat → Int32} {g u mm : im_M} {o : Nat → Int64} {Y : iv_A} {y0 y1 ret : Int32} (h : x31_r35_r1_3 g y0 y1 = some (ret, mm)) : iv_ev (iv_Xs L xs) 31 64 [.ref 38, .int y0, .ref 4, .int y1, .int (2 : Int32)] [] (im_H g u o Y) 0 0 (.inl none, im_H mm u o Y) := by
  unfold x31_r35_r1_3 at h
  cases hb7 : Op.ifCond.holds .eq (g 35 2) with
  | true =>
    rw [hb7] at h
    simp only [cond_true] at h
    refine iv_brt (mi' := 31) (pc' := 82) (ls' := [.ref 38, .int y0, .ref 4, .int y1, .int (3 : Int32)]) (st' := []) (A' := im_H g u o Y) (c' := 0) (s' := 0) (mi'' := 31) (pc'' := 77) (ls'' := [.ref 38, .int y0, .ref 4, .int y1, .int (3 : Int32)]) (st'' := []) (A'' := im_H g u o Y) (c'' := 0) (s'' := 0) 8 0 0 hb7 (fun n => rfl) ?_
    exact x31_r35_r1_4_ok (g := g) (y0 := y0) (y1 := y1) h
  | false =>
    rw [hb7] at h
    simp only [cond_false] at h
    refine iv_brf (mi' := 31) (pc' := 82) (ls' := [.ref 38, .int y0, .ref 4, .int y1, .int (3 : Int32)]) (st' := []) (A' := im_H g u o Y) (c' := 0) (s' := 0) (mi'' := 31) (pc'' := 77) (ls'' := [.ref 38, .int y0, .ref 4, .int y1, .int (3 : Int32)]) (st'' := []) (A'' := im_H g u o Y) (c'' := 0) (s'' := 0) 8 0 0 hb7 (fun n => rfl) ?_
    cases hc : x33_r35_r1 g  with
    | none => rw [hc] at h; cases h
    | some q =>
      obtain ⟨v7, g7⟩ := q
      rw [hc] at h
      simp only [Option.bind_some] at h
      refine iv_cal (mi' := 31) (pc' := 79) (ls' := [.ref 38, .int y0, .ref 4, .int y1, .int (3 : Int32)]) (rest := []) (A' := im_H g u o Y) (c' := 0) (s' := 0) (as := [.ref 38, .ref 4]) (v := none) (A'' := im_H g7 u o Y) 3 33 (fun n => rfl) rfl (x33_r35_r1_ok (g := g)  hc) ?_
      show iv_ev (iv_Xs L xs) 31 82 [.ref 38, .int y0, .ref 4, .int y1, .int (3 : Int32)] [] (im_H g7 u o Y) 0 0 _
      exact x31_r35_r1_4_ok (g := g7) (y0 := y0) (y1 := y1) h
def x31_r35_r1_2 (g : im_M) (y0 : Int32) (y1 : Int32) : Option (Int32 × im_M) :=
  Option.bind (x32_r35_2 g y0) (fun (v5, g5) =>
    bif Op.if_icmp.holds .lt v5 (2 : Int32) then
      (x31_r35_r1_3 g5 y0 y1)
    else
      (bif Op.ifCond.holds .ne (y1 &&& (4 : Int32)) then
        (x31_r35_r1_3 (im_w g5 35 2 ((g5 35 2) ||| (4 : Int32))) y0 y1)
      else
        (Option.bind (x15_r1 (im_w g5 35 2 ((g5 35 2) ||| (4 : Int32))) (6 : Int32) (3 : Int32) (2 : Int32)) (fun (_, g6) =>
          x31_r35_r1_3 g6 y0 y1))))
set_option maxRecDepth 100000 in
set_option maxHeartbeats 4000000 in
theorem x31_r35_r1_2_ok {L : Nat} {xs : Nat → Int32} {g u mm : im_M} {o : Nat → Int64} {Y : iv_A} {y0 y1 ret : Int32} (h : x31_r35_r1_2 g y0 y1 = some (ret, mm)) : iv_ev (iv_Xs L xs) 31 64 [.ref 38, .int y0, .ref 4, .int y1, .int (1 : Int32)] [] (im_H g u o Y) 0 0 (.inl none, im_H mm u o Y) := by
  unfold x31_r35_r1_2 at h
  cases hc : x32_r35_2 g y0 with
  | none => rw [hc] at h; cases h
  | some q =>
    obtain ⟨v5, g5⟩ := q
    rw [hc] at h
    simp only [Option.bind_some] at h
    refine iv_cal (mi' := 31) (pc' := 23) (ls' := [.ref 38, .int y0, .ref 4, .int y1, .int (2 : Int32)]) (rest := []) (A' := im_H g u o Y) (c' := 0) (s' := 0) (as := [.ref 38, .int (2 : Int32), .int y0]) (v := some (.int v5)) (A'' := im_H g5 u o Y) 9 32 (fun n => rfl) rfl (x32_r35_2_ok (g := g) (a := y0) hc) ?_
    show iv_ev (iv_Xs L xs) 31 26 [.ref 38, .int y0, .ref 4, .int y1, .int (2 : Int32)] [.int v5] (im_H g5 u o Y) 0 0 _
    cases hb5 : Op.if_icmp.holds .lt v5 (2 : Int32) with
    | true =>
      rw [hb5] at h
      simp only [cond_true] at h
      refine iv_brt (mi' := 31) (pc' := 64) (ls' := [.ref 38, .int y0, .ref 4, .int y1, .int (2 : Int32)]) (st' := []) (A' := im_H g5 u o Y) (c' := 0) (s' := 0) (mi'' := 31) (pc'' := 30) (ls'' := [.ref 38, .int y0, .ref 4, .int y1, .int (2 : Int32)]) (st'' := []) (A'' := im_H g5 u o Y) (c'' := 0) (s'' := 0) 2 0 0 hb5 (fun n => rfl) ?_
      exact x31_r35_r1_3_ok (g := g5) (y0 := y0) (y1 := y1) h
    | false =>
      rw [hb5] at h
      simp only [cond_false] at h
      refine iv_brf (mi' := 31) (pc' := 64) (ls' := [.ref 38, .int y0, .ref 4, .int y1, .int (2 : Int32)]) (st' := []) (A' := im_H g5 u o Y) (c' := 0) (s' := 0) (mi'' := 31) (pc'' := 30) (ls'' := [.ref 38, .int y0, .ref 4, .int y1, .int (2 : Int32)]) (st'' := []) (A'' := im_H g5 u o Y) (c'' := 0) (s'' := 0) 2 0 0 hb5 (fun n => rfl) ?_
      refine iv_blk (mi' := 31) (pc' := 43) (ls' := [.ref 38, .int y0, .ref 4, .int y1, .int (2 : Int32)]) (st' := []) (A' := List.set (im_H g5 u o Y) 35 (.inr (3, List.set [.int 3, .ref 39, .int (g5 35 2), .int (g5 35 3)] 2 (.int ((g5 35 2) ||| (4 : Int32)))))) (c' := 0) (s' := 0) 8 (fun n => rfl) ?_
      rw [im_f35_2]
      cases hb6 : Op.ifCond.holds .ne (y1 &&& (4 : Int32)) with
      | true =>
        rw [hb6] at h
        simp only [cond_true] at h
        refine iv_brt (mi' := 31) (pc' := 64) (ls' := [.ref 38, .int y0, .ref 4, .int y1, .int (2 : Int32)]) (st' := []) (A' := im_H (im_w g5 35 2 ((g5 35 2) ||| (4 : Int32))) u o Y) (c' := 0) (s' := 0) (mi'' := 31) (pc'' := 52) (ls'' := [.ref 38, .int y0, .ref 4, .int y1, .int (2 : Int32)]) (st'' := []) (A'' := im_H (im_w g5 35 2 ((g5 35 2) ||| (4 : Int32))) u o Y) (c'' := 0) (s'' := 0) 6 0 0 hb6 (fun n => rfl) ?_
        exact x31_r35_r1_3_ok (g := (im_w g5 35 2 ((g5 35 2) ||| (4 : Int32)))) (y0 := y0) (y1 := y1) h
      | false =>
        rw [hb6] at h
        simp only [cond_false] at h
        refine iv_brf (mi' := 31) (pc' := 64) (ls' := [.ref 38, .int y0, .ref 4, .int y1, .int (2 : Int32)]) (st' := []) (A' := im_H (im_w g5 35 2 ((g5 35 2) ||| (4 : Int32))) u o Y) (c' := 0) (s' := 0) (mi'' := 31) (pc'' := 52) (ls'' := [.ref 38, .int y0, .ref 4, .int y1, .int (2 : Int32)]) (st'' := []) (A'' := im_H (im_w g5 35 2 ((g5 35 2) ||| (4 : Int32))) u o Y) (c'' := 0) (s'' := 0) 6 0 0 hb6 (fun n => rfl) ?_
        cases hc : x15_r1 (im_w g5 35 2 ((g5 35 2) ||| (4 : Int32))) (6 : Int32) (3 : Int32) (2 : Int32) with
        | none => rw [hc] at h; cases h
        | some q =>
          obtain ⟨v6, g6⟩ := q
          rw [hc] at h
          simp only [Option.bind_some] at h
          refine iv_cal (mi' := 31) (pc' := 61) (ls' := [.ref 38, .int y0, .ref 4, .int y1, .int (2 : Int32)]) (rest := []) (A' := im_H (im_w g5 35 2 ((g5 35 2) ||| (4 : Int32))) u o Y) (c' := 0) (s' := 0) (as := [.ref 4, .int (6 : Int32), .int (3 : Int32), .int (2 : Int32)]) (v := none) (A'' := im_H g6 u o Y) 6 15 (fun n => rfl) rfl (x15_r1_ok (g := (im_w g5 35 2 ((g5 35 2) ||| (4 : Int32)))) (a := (6 : Int32)) (b := (3 : Int32)) (c := (2 : Int32)) hc) ?_
          show iv_ev (iv_Xs L xs) 31 64 [.ref 38, .int y0, .ref 4, .int y1, .int (2 : Int32)] [] (im_H g6 u o Y) 0 0 _
          exact x31_r35_r1_3_ok (g := g6) (y0 := y0) (y1 := y1) h
def x31_r35_r1_1 (g : im_M) (y0 : Int32) (y1 : Int32) : Option (Int32 × im_M) :=
  Option.bind (x32_r35_1 g y0) (fun (v3, g3) =>
    bif Op.if_icmp.holds .lt v3 (2 : Int32) then
      (x31_r35_r1_2 g3 y0 y1)
    else
      (bif Op.ifCond.holds .ne (y1 &&& (2 : Int32)) then
        (x31_r35_r1_2 (im_w g3 35 2 ((g3 35 2) ||| (2 : Int32))) y0 y1)
      else
        (Option.bind (x15_r1 (im_w g3 35 2 ((g3 35 2) ||| (2 : Int32))) (6 : Int32) (3 : Int32) (1 : Int32)) (fun (_, g4) =>
          x31_r35_r1_2 g4 y0 y1))))
set_option maxRecDepth 100000 in
set_option maxHeartbeats 4000000 in
theorem x31_r35_r1_1_ok {L : Nat} {xs : Nat → Int32} {g u mm : im_M} {o : Nat → Int64} {Y : iv_A} {y0 y1 ret : Int32} (h : x31_r35_r1_1 g y0 y1 = some (ret, mm)) : iv_ev (iv_Xs L xs) 31 64 [.ref 38, .int y0, .ref 4, .int y1, .int (0 : Int32)] [] (im_H g u o Y) 0 0 (.inl none, im_H mm u o Y) := by
  unfold x31_r35_r1_1 at h
  cases hc : x32_r35_1 g y0 with
  | none => rw [hc] at h; cases h
  | some q =>
    obtain ⟨v3, g3⟩ := q
    rw [hc] at h
    simp only [Option.bind_some] at h
    refine iv_cal (mi' := 31) (pc' := 23) (ls' := [.ref 38, .int y0, .ref 4, .int y1, .int (1 : Int32)]) (rest := []) (A' := im_H g u o Y) (c' := 0) (s' := 0) (as := [.ref 38, .int (1 : Int32), .int y0]) (v := some (.int v3)) (A'' := im_H g3 u o Y) 9 32 (fun n => rfl) rfl (x32_r35_1_ok (g := g) (a := y0) hc) ?_
    show iv_ev (iv_Xs L xs) 31 26 [.ref 38, .int y0, .ref 4, .int y1, .int (1 : Int32)] [.int v3] (im_H g3 u o Y) 0 0 _
    cases hb3 : Op.if_icmp.holds .lt v3 (2 : Int32) with
    | true =>
      rw [hb3] at h
      simp only [cond_true] at h
      refine iv_brt (mi' := 31) (pc' := 64) (ls' := [.ref 38, .int y0, .ref 4, .int y1, .int (1 : Int32)]) (st' := []) (A' := im_H g3 u o Y) (c' := 0) (s' := 0) (mi'' := 31) (pc'' := 30) (ls'' := [.ref 38, .int y0, .ref 4, .int y1, .int (1 : Int32)]) (st'' := []) (A'' := im_H g3 u o Y) (c'' := 0) (s'' := 0) 2 0 0 hb3 (fun n => rfl) ?_
      exact x31_r35_r1_2_ok (g := g3) (y0 := y0) (y1 := y1) h
    | false =>
      rw [hb3] at h
      simp only [cond_false] at h
      refine iv_brf (mi' := 31) (pc' := 64) (ls' := [.ref 38, .int y0, .ref 4, .int y1, .int (1 : Int32)]) (st' := []) (A' := im_H g3 u o Y) (c' := 0) (s' := 0) (mi'' := 31) (pc'' := 30) (ls'' := [.ref 38, .int y0, .ref 4, .int y1, .int (1 : Int32)]) (st'' := []) (A'' := im_H g3 u o Y) (c'' := 0) (s'' := 0) 2 0 0 hb3 (fun n => rfl) ?_
      refine iv_blk (mi' := 31) (pc' := 43) (ls' := [.ref 38, .int y0, .ref 4, .int y1, .int (1 : Int32)]) (st' := []) (A' := List.set (im_H g3 u o Y) 35 (.inr (3, List.set [.int 3, .ref 39, .int (g3 35 2), .int (g3 35 3)] 2 (.int ((g3 35 2) ||| (2 : Int32)))))) (c' := 0) (s' := 0) 8 (fun n => rfl) ?_
      rw [im_f35_2]
      cases hb4 : Op.ifCond.holds .ne (y1 &&& (2 : Int32)) with
      | true =>
        rw [hb4] at h
        simp only [cond_true] at h
        refine iv_brt (mi' := 31) (pc' := 64) (ls' := [.ref 38, .int y0, .ref 4, .int y1, .int (1 : Int32)]) (st' := []) (A' := im_H (im_w g3 35 2 ((g3 35 2) ||| (2 : Int32))) u o Y) (c' := 0) (s' := 0) (mi'' := 31) (pc'' := 52) (ls'' := [.ref 38, .int y0, .ref 4, .int y1, .int (1 : Int32)]) (st'' := []) (A'' := im_H (im_w g3 35 2 ((g3 35 2) ||| (2 : Int32))) u o Y) (c'' := 0) (s'' := 0) 6 0 0 hb4 (fun n => rfl) ?_
        exact x31_r35_r1_2_ok (g := (im_w g3 35 2 ((g3 35 2) ||| (2 : Int32)))) (y0 := y0) (y1 := y1) h
      | false =>
        rw [hb4] at h
        simp only [cond_false] at h
        refine iv_brf (mi' := 31) (pc' := 64) (ls' := [.ref 38, .int y0, .ref 4, .int y1, .int (1 : Int32)]) (st' := []) (A' := im_H (im_w g3 35 2 ((g3 35 2) ||| (2 : Int32))) u o Y) (c' := 0) (s' := 0) (mi'' := 31) (pc'' := 52) (ls'' := [.ref 38, .int y0, .ref 4, .int y1, .int (1 : Int32)]) (st'' := []) (A'' := im_H (im_w g3 35 2 ((g3 35 2) ||| (2 : Int32))) u o Y) (c'' := 0) (s'' := 0) 6 0 0 hb4 (fun n => rfl) ?_
        cases hc : x15_r1 (im_w g3 35 2 ((g3 35 2) ||| (2 : Int32))) (6 : Int32) (3 : Int32) (1 : Int32) with
        | none => rw [hc] at h; cases h
        | some q =>
          obtain ⟨v4, g4⟩ := q
          rw [hc] at h
          simp only [Option.bind_some] at h
          refine iv_cal (mi' := 31) (pc' := 61) (ls' := [.ref 38, .int y0, .ref 4, .int y1, .int (1 : Int32)]) (rest := []) (A' := im_H (im_w g3 35 2 ((g3 35 2) ||| (2 : Int32))) u o Y) (c' := 0) (s' := 0) (as := [.ref 4, .int (6 : Int32), .int (3 : Int32), .int (1 : Int32)]) (v := none) (A'' := im_H g4 u o Y) 6 15 (fun n => rfl) rfl (x15_r1_ok (g := (im_w g3 35 2 ((g3 35 2) ||| (2 : Int32)))) (a := (6 : Int32)) (b := (3 : Int32)) (c := (1 : Int32)) hc) ?_
          show iv_ev (iv_Xs L xs) 31 64 [.ref 38, .int y0, .ref 4, .int y1, .int (1 : Int32)] [] (im_H g4 u o Y) 0 0 _
          exact x31_r35_r1_2_ok (g := g4) (y0 := y0) (y1 := y1) h
def x31_r35_r1 (g : im_M) (a : Int32) : Option (Int32 × im_M) :=
  Option.bind (x32_r35_0 (im_w g 35 2 (0 : Int32)) a) (fun (v1, g1) =>
    bif Op.if_icmp.holds .lt v1 (2 : Int32) then
      (x31_r35_r1_1 g1 a (g 35 2))
    else
      (bif Op.ifCond.holds .ne ((g 35 2) &&& (1 : Int32)) then
        (x31_r35_r1_1 (im_w g1 35 2 ((g1 35 2) ||| (1 : Int32))) a (g 35 2))
      else
        (Option.bind (x15_r1 (im_w g1 35 2 ((g1 35 2) ||| (1 : Int32))) (6 : Int32) (3 : Int32) (0 : Int32)) (fun (_, g2) =>
          x31_r35_r1_1 g2 a (g 35 2)))))
set_option maxRecDepth 100000 in
set_option maxHeartbeats 4000000 in
theorem x31_r35_r1_ok {L : Nat} {xs : Nat → Int32} {g u mm : im_M} {o : Nat → Int64} {Y : iv_A} {a ret : Int32} (h : x31_r35_r1 g a = some (ret, mm)) : iv_ev (iv_Xs L xs) 31 0 [.ref 38, .int a, .ref 4, .retAddr 0, .retAddr 0] [] (im_H g u o Y) 0 0 (.inl none, im_H mm u o Y) := by
  unfold x31_r35_r1 at h
  refine iv_blk (mi' := 31) (pc' := 10) (ls' := [.ref 38, .int a, .ref 4, .int (g 35 2), .retAddr 0]) (st' := []) (A' := List.set (im_H g u o Y) 35 (.inr (3, List.set [.int 3, .ref 39, .int (g 35 2), .int (g 35 3)] 2 (.int (0 : Int32))))) (c' := 0) (s' := 0) 6 (fun n => rfl) ?_
  rw [im_f35_2]
  cases hc : x32_r35_0 (im_w g 35 2 (0 : Int32)) a with
  | none => rw [hc] at h; cases h
  | some q =>
    obtain ⟨v1, g1⟩ := q
    rw [hc] at h
    simp only [Option.bind_some] at h
    refine iv_cal (mi' := 31) (pc' := 23) (ls' := [.ref 38, .int a, .ref 4, .int (g 35 2), .int (0 : Int32)]) (rest := []) (A' := im_H (im_w g 35 2 (0 : Int32)) u o Y) (c' := 0) (s' := 0) (as := [.ref 38, .int (0 : Int32), .int a]) (v := some (.int v1)) (A'' := im_H g1 u o Y) 9 32 (fun n => rfl) rfl (x32_r35_0_ok (g := (im_w g 35 2 (0 : Int32))) (a := a) hc) ?_
    show iv_ev (iv_Xs L xs) 31 26 [.ref 38, .int a, .ref 4, .int (g 35 2), .int (0 : Int32)] [.int v1] (im_H g1 u o Y) 0 0 _
    cases hb1 : Op.if_icmp.holds .lt v1 (2 : Int32) with
    | true =>
      rw [hb1] at h
      simp only [cond_true] at h
      refine iv_brt (mi' := 31) (pc' := 64) (ls' := [.ref 38, .int a, .ref 4, .int (g 35 2), .int (0 : Int32)]) (st' := []) (A' := im_H g1 u o Y) (c' := 0) (s' := 0) (mi'' := 31) (pc'' := 30) (ls'' := [.ref 38, .int a, .ref 4, .int (g 35 2), .int (0 : Int32)]) (st'' := []) (A'' := im_H g1 u o Y) (c'' := 0) (s'' := 0) 2 0 0 hb1 (fun n => rfl) ?_
      exact x31_r35_r1_1_ok (g := g1) (y0 := a) (y1 := (g 35 2)) h
    | false =>
      rw [hb1] at h
      simp only [cond_false] at h
      refine iv_brf (mi' := 31) (pc' := 64) (ls' := [.ref 38, .int a, .ref 4, .int (g 35 2), .int (0 : Int32)]) (st' := []) (A' := im_H g1 u o Y) (c' := 0) (s' := 0) (mi'' := 31) (pc'' := 30) (ls'' := [.ref 38, .int a, .ref 4, .int (g 35 2), .int (0 : Int32)]) (st'' := []) (A'' := im_H g1 u o Y) (c'' := 0) (s'' := 0) 2 0 0 hb1 (fun n => rfl) ?_
      refine iv_blk (mi' := 31) (pc' := 43) (ls' := [.ref 38, .int a, .ref 4, .int (g 35 2), .int (0 : Int32)]) (st' := []) (A' := List.set (im_H g1 u o Y) 35 (.inr (3, List.set [.int 3, .ref 39, .int (g1 35 2), .int (g1 35 3)] 2 (.int ((g1 35 2) ||| (1 : Int32)))))) (c' := 0) (s' := 0) 8 (fun n => rfl) ?_
      rw [im_f35_2]
      cases hb2 : Op.ifCond.holds .ne ((g 35 2) &&& (1 : Int32)) with
      | true =>
        rw [hb2] at h
        simp only [cond_true] at h
        refine iv_brt (mi' := 31) (pc' := 64) (ls' := [.ref 38, .int a, .ref 4, .int (g 35 2), .int (0 : Int32)]) (st' := []) (A' := im_H (im_w g1 35 2 ((g1 35 2) ||| (1 : Int32))) u o Y) (c' := 0) (s' := 0) (mi'' := 31) (pc'' := 52) (ls'' := [.ref 38, .int a, .ref 4, .int (g 35 2), .int (0 : Int32)]) (st'' := []) (A'' := im_H (im_w g1 35 2 ((g1 35 2) ||| (1 : Int32))) u o Y) (c'' := 0) (s'' := 0) 6 0 0 hb2 (fun n => rfl) ?_
        exact x31_r35_r1_1_ok (g := (im_w g1 35 2 ((g1 35 2) ||| (1 : Int32)))) (y0 := a) (y1 := (g 35 2)) h
      | false =>
        rw [hb2] at h
        simp only [cond_false] at h
        refine iv_brf (mi' := 31) (pc' := 64) (ls' := [.ref 38, .int a, .ref 4, .int (g 35 2), .int (0 : Int32)]) (st' := []) (A' := im_H (im_w g1 35 2 ((g1 35 2) ||| (1 : Int32))) u o Y) (c' := 0) (s' := 0) (mi'' := 31) (pc'' := 52) (ls'' := [.ref 38, .int a, .ref 4, .int (g 35 2), .int (0 : Int32)]) (st'' := []) (A'' := im_H (im_w g1 35 2 ((g1 35 2) ||| (1 : Int32))) u o Y) (c'' := 0) (s'' := 0) 6 0 0 hb2 (fun n => rfl) ?_
        cases hc : x15_r1 (im_w g1 35 2 ((g1 35 2) ||| (1 : Int32))) (6 : Int32) (3 : Int32) (0 : Int32) with
        | none => rw [hc] at h; cases h
        | some q =>
          obtain ⟨v2, g2⟩ := q
          rw [hc] at h
          simp only [Option.bind_some] at h
          refine iv_cal (mi' := 31) (pc' := 61) (ls' := [.ref 38, .int a, .ref 4, .int (g 35 2), .int (0 : Int32)]) (rest := []) (A' := im_H (im_w g1 35 2 ((g1 35 2) ||| (1 : Int32))) u o Y) (c' := 0) (s' := 0) (as := [.ref 4, .int (6 : Int32), .int (3 : Int32), .int (0 : Int32)]) (v := none) (A'' := im_H g2 u o Y) 6 15 (fun n => rfl) rfl (x15_r1_ok (g := (im_w g1 35 2 ((g1 35 2) ||| (1 : Int32)))) (a := (6 : Int32)) (b := (3 : Int32)) (c := (0 : Int32)) hc) ?_
          show iv_ev (iv_Xs L xs) 31 64 [.ref 38, .int a, .ref 4, .int (g 35 2), .int (0 : Int32)] [] (im_H g2 u o Y) 0 0 _
          exact x31_r35_r1_1_ok (g := g2) (y0 := a) (y1 := (g 35 2)) h
