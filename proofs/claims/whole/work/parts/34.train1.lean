/-! Train: latch (printed by wip/gen/lay1.py) -/
def x33_r29_r1_4 (g : im_M) : Option (Int32 × im_M) :=
  some (0, g)
set_option maxRecDepth 100000 in
set_option maxHeartbeats 4000000 in
theorem x33_r29_r1_4_ok {L : Nat} {xs : Nat → Int32} {g u mm : im_M} {o : Nat → Int64} {Y : iv_A} {ret : Int32} (h : x33_r29_r1_4 g  = some (ret, mm)) : iv_ev (iv_Xs L xs) 33 89 [.ref 32, .ref 4, .int (2 : Int32), .int (8 : Int32)] [] (im_H g u o Y) 0 0 (.inl none, im_H mm u o Y) := by
  unfold x33_r29_r1_4 at h
  cases h
  exact iv_ret 6 (fun n => rfl)
def x33_r29_r1_3 (g : im_M) : Option (Int32 × im_M) :=
  bif Op.if_icmp.holds .ne ((g 29 2) &&& (3 : Int32)) (3 : Int32) then
    (x33_r29_r1_4 g )
  else
    (bif Op.ifCond.holds .ne ((g 29 3) &&& (8 : Int32)) then
      (x33_r29_r1_4 g )
    else
      (Option.bind (x15_r1 (im_w g 29 3 ((g 29 3) ||| (8 : Int32))) (8 : Int32) (0 : Int32) (2 : Int32)) (fun (_, g4) =>
        x33_r29_r1_4 g4 )))
set_option maxRecDepth 100000 in
set_option maxHeartbeats 4000000 in
theorem x33_r29_r1_3_ok {L : Nat} {xs : Nat → Int32} {g u mm : im_M} {o : Nat → Int64} {Y : iv_A} {ret : Int32} (h : x33_r29_r1_3 g  = some (ret, mm)) : iv_ev (iv_Xs L xs) 33 89 [.ref 32, .ref 4, .int (1 : Int32), .int (4 : Int32)] [] (im_H g u o Y) 0 0 (.inl none, im_H mm u o Y) := by
  unfold x33_r29_r1_3 at h
  cases hb6 : Op.if_icmp.holds .ne ((g 29 2) &&& (3 : Int32)) (3 : Int32) with
  | true =>
    rw [hb6] at h
    simp only [cond_true] at h
    refine iv_brt (mi' := 33) (pc' := 89) (ls' := [.ref 32, .ref 4, .int (2 : Int32), .int (8 : Int32)]) (st' := []) (A' := im_H g u o Y) (c' := 0) (s' := 0) (mi'' := 33) (pc'' := 59) (ls'' := [.ref 32, .ref 4, .int (2 : Int32), .int (8 : Int32)]) (st'' := []) (A'' := im_H g u o Y) (c'' := 0) (s'' := 0) 19 0 0 hb6 (fun n => rfl) ?_
    exact x33_r29_r1_4_ok (g := g)  h
  | false =>
    rw [hb6] at h
    simp only [cond_false] at h
    refine iv_brf (mi' := 33) (pc' := 89) (ls' := [.ref 32, .ref 4, .int (2 : Int32), .int (8 : Int32)]) (st' := []) (A' := im_H g u o Y) (c' := 0) (s' := 0) (mi'' := 33) (pc'' := 59) (ls'' := [.ref 32, .ref 4, .int (2 : Int32), .int (8 : Int32)]) (st'' := []) (A'' := im_H g u o Y) (c'' := 0) (s'' := 0) 19 0 0 hb6 (fun n => rfl) ?_
    cases hb7 : Op.ifCond.holds .ne ((g 29 3) &&& (8 : Int32)) with
    | true =>
      rw [hb7] at h
      simp only [cond_true] at h
      refine iv_brt (mi' := 33) (pc' := 89) (ls' := [.ref 32, .ref 4, .int (2 : Int32), .int (8 : Int32)]) (st' := []) (A' := im_H g u o Y) (c' := 0) (s' := 0) (mi'' := 33) (pc'' := 68) (ls'' := [.ref 32, .ref 4, .int (2 : Int32), .int (8 : Int32)]) (st'' := []) (A'' := im_H g u o Y) (c'' := 0) (s'' := 0) 5 0 0 hb7 (fun n => rfl) ?_
      exact x33_r29_r1_4_ok (g := g)  h
    | false =>
      rw [hb7] at h
      simp only [cond_false] at h
      refine iv_brf (mi' := 33) (pc' := 89) (ls' := [.ref 32, .ref 4, .int (2 : Int32), .int (8 : Int32)]) (st' := []) (A' := im_H g u o Y) (c' := 0) (s' := 0) (mi'' := 33) (pc'' := 68) (ls'' := [.ref 32, .ref 4, .int (2 : Int32), .int (8 : Int32)]) (st'' := []) (A'' := im_H g u o Y) (c'' := 0) (s'' := 0) 5 0 0 hb7 (fun n => rfl) ?_
      refine iv_blk (mi' := 33) (pc' := 78) (ls' := [.ref 32, .ref 4, .int (2 : Int32), .int (8 : Int32)]) (st' := []) (A' := List.set (im_H g u o Y) 29 (.inr (3, List.set [.int 0, .ref 33, .int (g 29 2), .int (g 29 3)] 3 (.int ((g 29 3) ||| (8 : Int32)))))) (c' := 0) (s' := 0) 6 (fun n => rfl) ?_
      rw [im_f29_3]
      cases hc : x15_r1 (im_w g 29 3 ((g 29 3) ||| (8 : Int32))) (8 : Int32) (0 : Int32) (2 : Int32) with
      | none => rw [hc] at h; cases h
      | some q =>
        obtain ⟨v4, g4⟩ := q
        rw [hc] at h
        simp only [Option.bind_some] at h
        refine iv_cal (mi' := 33) (pc' := 86) (ls' := [.ref 32, .ref 4, .int (2 : Int32), .int (8 : Int32)]) (rest := []) (A' := im_H (im_w g 29 3 ((g 29 3) ||| (8 : Int32))) u o Y) (c' := 0) (s' := 0) (as := [.ref 4, .int (8 : Int32), .int (0 : Int32), .int (2 : Int32)]) (v := none) (A'' := im_H g4 u o Y) 6 15 (fun n => rfl) rfl (x15_r1_ok (g := (im_w g 29 3 ((g 29 3) ||| (8 : Int32)))) (a := (8 : Int32)) (b := (0 : Int32)) (c := (2 : Int32)) hc) ?_
        show iv_ev (iv_Xs L xs) 33 89 [.ref 32, .ref 4, .int (2 : Int32), .int (8 : Int32)] [] (im_H g4 u o Y) 0 0 _
        exact x33_r29_r1_4_ok (g := g4)  h
def x33_r29_r1_2 (g : im_M) : Option (Int32 × im_M) :=
  bif Op.if_icmp.holds .ne ((g 29 2) &&& (4 : Int32)) (4 : Int32) then
    (x33_r29_r1_3 g )
  else
    (bif Op.ifCond.holds .ne ((g 29 3) &&& (4 : Int32)) then
      (x33_r29_r1_3 g )
    else
      (Option.bind (x15_r1 (im_w g 29 3 ((g 29 3) ||| (4 : Int32))) (8 : Int32) (0 : Int32) (1 : Int32)) (fun (_, g3) =>
        x33_r29_r1_3 g3 )))
set_option maxRecDepth 100000 in
set_option maxHeartbeats 4000000 in
theorem x33_r29_r1_2_ok {L : Nat} {xs : Nat → Int32} {g u mm : im_M} {o : Nat → Int64} {Y : iv_A} {ret : Int32} (h : x33_r29_r1_2 g  = some (ret, mm)) : iv_ev (iv_Xs L xs) 33 89 [.ref 32, .ref 4, .int (0 : Int32), .int (2 : Int32)] [] (im_H g u o Y) 0 0 (.inl none, im_H mm u o Y) := by
  unfold x33_r29_r1_2 at h
  cases hb4 : Op.if_icmp.holds .ne ((g 29 2) &&& (4 : Int32)) (4 : Int32) with
  | true =>
    rw [hb4] at h
    simp only [cond_true] at h
    refine iv_brt (mi' := 33) (pc' := 89) (ls' := [.ref 32, .ref 4, .int (1 : Int32), .int (4 : Int32)]) (st' := []) (A' := im_H g u o Y) (c' := 0) (s' := 0) (mi'' := 33) (pc'' := 59) (ls'' := [.ref 32, .ref 4, .int (1 : Int32), .int (4 : Int32)]) (st'' := []) (A'' := im_H g u o Y) (c'' := 0) (s'' := 0) 19 0 0 hb4 (fun n => rfl) ?_
    exact x33_r29_r1_3_ok (g := g)  h
  | false =>
    rw [hb4] at h
    simp only [cond_false] at h
    refine iv_brf (mi' := 33) (pc' := 89) (ls' := [.ref 32, .ref 4, .int (1 : Int32), .int (4 : Int32)]) (st' := []) (A' := im_H g u o Y) (c' := 0) (s' := 0) (mi'' := 33) (pc'' := 59) (ls'' := [.ref 32, .ref 4, .int (1 : Int32), .int (4 : Int32)]) (st'' := []) (A'' := im_H g u o Y) (c'' := 0) (s'' := 0) 19 0 0 hb4 (fun n => rfl) ?_
    cases hb5 : Op.ifCond.holds .ne ((g 29 3) &&& (4 : Int32)) with
    | true =>
      rw [hb5] at h
      simp only [cond_true] at h
      refine iv_brt (mi' := 33) (pc' := 89) (ls' := [.ref 32, .ref 4, .int (1 : Int32), .int (4 : Int32)]) (st' := []) (A' := im_H g u o Y) (c' := 0) (s' := 0) (mi'' := 33) (pc'' := 68) (ls'' := [.ref 32, .ref 4, .int (1 : Int32), .int (4 : Int32)]) (st'' := []) (A'' := im_H g u o Y) (c'' := 0) (s'' := 0) 5 0 0 hb5 (fun n => rfl) ?_
      exact x33_r29_r1_3_ok (g := g)  h
    | false =>
      rw [hb5] at h
      simp only [cond_false] at h
      refine iv_brf (mi' := 33) (pc' := 89) (ls' := [.ref 32, .ref 4, .int (1 : Int32), .int (4 : Int32)]) (st' := []) (A' := im_H g u o Y) (c' := 0) (s' := 0) (mi'' := 33) (pc'' := 68) (ls'' := [.ref 32, .ref 4, .int (1 : Int32), .int (4 : Int32)]) (st'' := []) (A'' := im_H g u o Y) (c'' := 0) (s'' := 0) 5 0 0 hb5 (fun n => rfl) ?_
      refine iv_blk (mi' := 33) (pc' := 78) (ls' := [.ref 32, .ref 4, .int (1 : Int32), .int (4 : Int32)]) (st' := []) (A' := List.set (im_H g u o Y) 29 (.inr (3, List.set [.int 0, .ref 33, .int (g 29 2), .int (g 29 3)] 3 (.int ((g 29 3) ||| (4 : Int32)))))) (c' := 0) (s' := 0) 6 (fun n => rfl) ?_
      rw [im_f29_3]
      cases hc : x15_r1 (im_w g 29 3 ((g 29 3) ||| (4 : Int32))) (8 : Int32) (0 : Int32) (1 : Int32) with
      | none => rw [hc] at h; cases h
      | some q =>
        obtain ⟨v3, g3⟩ := q
        rw [hc] at h
        simp only [Option.bind_some] at h
        refine iv_cal (mi' := 33) (pc' := 86) (ls' := [.ref 32, .ref 4, .int (1 : Int32), .int (4 : Int32)]) (rest := []) (A' := im_H (im_w g 29 3 ((g 29 3) ||| (4 : Int32))) u o Y) (c' := 0) (s' := 0) (as := [.ref 4, .int (8 : Int32), .int (0 : Int32), .int (1 : Int32)]) (v := none) (A'' := im_H g3 u o Y) 6 15 (fun n => rfl) rfl (x15_r1_ok (g := (im_w g 29 3 ((g 29 3) ||| (4 : Int32)))) (a := (8 : Int32)) (b := (0 : Int32)) (c := (1 : Int32)) hc) ?_
        show iv_ev (iv_Xs L xs) 33 89 [.ref 32, .ref 4, .int (1 : Int32), .int (4 : Int32)] [] (im_H g3 u o Y) 0 0 _
        exact x33_r29_r1_3_ok (g := g3)  h
def x33_r29_r1_1 (g : im_M) : Option (Int32 × im_M) :=
  bif Op.if_icmp.holds .ne ((g 29 2) &&& (2 : Int32)) (2 : Int32) then
    (x33_r29_r1_2 g )
  else
    (bif Op.ifCond.holds .ne ((g 29 3) &&& (2 : Int32)) then
      (x33_r29_r1_2 g )
    else
      (Option.bind (x15_r1 (im_w g 29 3 ((g 29 3) ||| (2 : Int32))) (8 : Int32) (0 : Int32) (0 : Int32)) (fun (_, g2) =>
        x33_r29_r1_2 g2 )))
set_option maxRecDepth 100000 in
set_option maxHeartbeats 4000000 in
theorem x33_r29_r1_1_ok {L : Nat} {xs : Nat → Int32} {g u mm : im_M} {o : Nat → Int64} {Y : iv_A} {ret : Int32} (h : x33_r29_r1_1 g  = some (ret, mm)) : iv_ev (iv_Xs L xs) 33 30 [.ref 32, .ref 4, .retAddr 0, .retAddr 0] [] (im_H g u o Y) 0 0 (.inl none, im_H mm u o Y) := by
  unfold x33_r29_r1_1 at h
  cases hb2 : Op.if_icmp.holds .ne ((g 29 2) &&& (2 : Int32)) (2 : Int32) with
  | true =>
    rw [hb2] at h
    simp only [cond_true] at h
    refine iv_brt (mi' := 33) (pc' := 89) (ls' := [.ref 32, .ref 4, .int (0 : Int32), .int (2 : Int32)]) (st' := []) (A' := im_H g u o Y) (c' := 0) (s' := 0) (mi'' := 33) (pc'' := 59) (ls'' := [.ref 32, .ref 4, .int (0 : Int32), .int (2 : Int32)]) (st'' := []) (A'' := im_H g u o Y) (c'' := 0) (s'' := 0) 19 0 0 hb2 (fun n => rfl) ?_
    exact x33_r29_r1_2_ok (g := g)  h
  | false =>
    rw [hb2] at h
    simp only [cond_false] at h
    refine iv_brf (mi' := 33) (pc' := 89) (ls' := [.ref 32, .ref 4, .int (0 : Int32), .int (2 : Int32)]) (st' := []) (A' := im_H g u o Y) (c' := 0) (s' := 0) (mi'' := 33) (pc'' := 59) (ls'' := [.ref 32, .ref 4, .int (0 : Int32), .int (2 : Int32)]) (st'' := []) (A'' := im_H g u o Y) (c'' := 0) (s'' := 0) 19 0 0 hb2 (fun n => rfl) ?_
    cases hb3 : Op.ifCond.holds .ne ((g 29 3) &&& (2 : Int32)) with
    | true =>
      rw [hb3] at h
      simp only [cond_true] at h
      refine iv_brt (mi' := 33) (pc' := 89) (ls' := [.ref 32, .ref 4, .int (0 : Int32), .int (2 : Int32)]) (st' := []) (A' := im_H g u o Y) (c' := 0) (s' := 0) (mi'' := 33) (pc'' := 68) (ls'' := [.ref 32, .ref 4, .int (0 : Int32), .int (2 : Int32)]) (st'' := []) (A'' := im_H g u o Y) (c'' := 0) (s'' := 0) 5 0 0 hb3 (fun n => rfl) ?_
      exact x33_r29_r1_2_ok (g := g)  h
    | false =>
      rw [hb3] at h
      simp only [cond_false] at h
      refine iv_brf (mi' := 33) (pc' := 89) (ls' := [.ref 32, .ref 4, .int (0 : Int32), .int (2 : Int32)]) (st' := []) (A' := im_H g u o Y) (c' := 0) (s' := 0) (mi'' := 33) (pc'' := 68) (ls'' := [.ref 32, .ref 4, .int (0 : Int32), .int (2 : Int32)]) (st'' := []) (A'' := im_H g u o Y) (c'' := 0) (s'' := 0) 5 0 0 hb3 (fun n => rfl) ?_
      refine iv_blk (mi' := 33) (pc' := 78) (ls' := [.ref 32, .ref 4, .int (0 : Int32), .int (2 : Int32)]) (st' := []) (A' := List.set (im_H g u o Y) 29 (.inr (3, List.set [.int 0, .ref 33, .int (g 29 2), .int (g 29 3)] 3 (.int ((g 29 3) ||| (2 : Int32)))))) (c' := 0) (s' := 0) 6 (fun n => rfl) ?_
      rw [im_f29_3]
      cases hc : x15_r1 (im_w g 29 3 ((g 29 3) ||| (2 : Int32))) (8 : Int32) (0 : Int32) (0 : Int32) with
      | none => rw [hc] at h; cases h
      | some q =>
        obtain ⟨v2, g2⟩ := q
        rw [hc] at h
        simp only [Option.bind_some] at h
        refine iv_cal (mi' := 33) (pc' := 86) (ls' := [.ref 32, .ref 4, .int (0 : Int32), .int (2 : Int32)]) (rest := []) (A' := im_H (im_w g 29 3 ((g 29 3) ||| (2 : Int32))) u o Y) (c' := 0) (s' := 0) (as := [.ref 4, .int (8 : Int32), .int (0 : Int32), .int (0 : Int32)]) (v := none) (A'' := im_H g2 u o Y) 6 15 (fun n => rfl) rfl (x15_r1_ok (g := (im_w g 29 3 ((g 29 3) ||| (2 : Int32)))) (a := (8 : Int32)) (b := (0 : Int32)) (c := (0 : Int32)) hc) ?_
        show iv_ev (iv_Xs L xs) 33 89 [.ref 32, .ref 4, .int (0 : Int32), .int (2 : Int32)] [] (im_H g2 u o Y) 0 0 _
        exact x33_r29_r1_2_ok (g := g2)  h
def x33_r29_r1 (g : im_M) : Option (Int32 × im_M) :=
  bif Op.ifCond.holds .ne ((g 29 3) &&& (1 : Int32)) then
    (x33_r29_r1_1 g )
  else
    (Option.bind (x15_r1 (im_w g 29 3 ((g 29 3) ||| (1 : Int32))) (7 : Int32) (0 : Int32) (0 : Int32)) (fun (_, g1) =>
      x33_r29_r1_1 g1 ))
set_option maxRecDepth 100000 in
set_option maxHeartbeats 4000000 in
theorem x33_r29_r1_ok {L : Nat} {xs : Nat → Int32} {g u mm : im_M} {o : Nat → Int64} {Y : iv_A} {ret : Int32} (h : x33_r29_r1 g  = some (ret, mm)) : iv_ev (iv_Xs L xs) 33 0 [.ref 32, .ref 4, .retAddr 0, .retAddr 0] [] (im_H g u o Y) 0 0 (.inl none, im_H mm u o Y) := by
  unfold x33_r29_r1 at h
  cases hb1 : Op.ifCond.holds .ne ((g 29 3) &&& (1 : Int32)) with
  | true =>
    rw [hb1] at h
    simp only [cond_true] at h
    refine iv_brt (mi' := 33) (pc' := 30) (ls' := [.ref 32, .ref 4, .retAddr 0, .retAddr 0]) (st' := []) (A' := im_H g u o Y) (c' := 0) (s' := 0) (mi'' := 33) (pc'' := 9) (ls'' := [.ref 32, .ref 4, .retAddr 0, .retAddr 0]) (st'' := []) (A'' := im_H g u o Y) (c'' := 0) (s'' := 0) 5 0 0 hb1 (fun n => rfl) ?_
    exact x33_r29_r1_1_ok (g := g)  h
  | false =>
    rw [hb1] at h
    simp only [cond_false] at h
    refine iv_brf (mi' := 33) (pc' := 30) (ls' := [.ref 32, .ref 4, .retAddr 0, .retAddr 0]) (st' := []) (A' := im_H g u o Y) (c' := 0) (s' := 0) (mi'' := 33) (pc'' := 9) (ls'' := [.ref 32, .ref 4, .retAddr 0, .retAddr 0]) (st'' := []) (A'' := im_H g u o Y) (c'' := 0) (s'' := 0) 5 0 0 hb1 (fun n => rfl) ?_
    refine iv_blk (mi' := 33) (pc' := 19) (ls' := [.ref 32, .ref 4, .retAddr 0, .retAddr 0]) (st' := []) (A' := List.set (im_H g u o Y) 29 (.inr (3, List.set [.int 0, .ref 33, .int (g 29 2), .int (g 29 3)] 3 (.int ((g 29 3) ||| (1 : Int32)))))) (c' := 0) (s' := 0) 6 (fun n => rfl) ?_
    rw [im_f29_3]
    cases hc : x15_r1 (im_w g 29 3 ((g 29 3) ||| (1 : Int32))) (7 : Int32) (0 : Int32) (0 : Int32) with
    | none => rw [hc] at h; cases h
    | some q =>
      obtain ⟨v1, g1⟩ := q
      rw [hc] at h
      simp only [Option.bind_some] at h
      refine iv_cal (mi' := 33) (pc' := 27) (ls' := [.ref 32, .ref 4, .retAddr 0, .retAddr 0]) (rest := []) (A' := im_H (im_w g 29 3 ((g 29 3) ||| (1 : Int32))) u o Y) (c' := 0) (s' := 0) (as := [.ref 4, .int (7 : Int32), .int (0 : Int32), .int (0 : Int32)]) (v := none) (A'' := im_H g1 u o Y) 6 15 (fun n => rfl) rfl (x15_r1_ok (g := (im_w g 29 3 ((g 29 3) ||| (1 : Int32)))) (a := (7 : Int32)) (b := (0 : Int32)) (c := (0 : Int32)) hc) ?_
      show iv_ev (iv_Xs L xs) 33 30 [.ref 32, .ref 4, .retAddr 0, .retAddr 0] [] (im_H g1 u o Y) 0 0 _
      exact x33_r29_r1_1_ok (g := g1)  h
def x33_r31_r1_4 (g : im_M) : Option (Int32 × im_M) :=
  some (0, g)
set_option maxRecDepth 100000 in
set_option maxHeartbeats 4000000 in
theorem x33_r31_r1_4_ok {L : Nat} {xs : Nat → Int32} {g u mm : im_M} {o : Nat → Int64} {Y : iv_A} {ret : Int32} (h : x33_r31_r1_4 g  = some (ret, mm)) : iv_ev (iv_Xs L xs) 33 89 [.ref 34, .ref 4, .int (2 : Int32), .int (8 : Int32)] [] (im_H g u o Y) 0 0 (.inl none, im_H mm u o Y) := by
  unfold x33_r31_r1_4 at h
  cases h
  exact iv_ret 6 (fun n => rfl)
def x33_r31_r1_3 (g : im_M) : Option (Int32 × im_M) :=
  bif Op.if_icmp.holds .ne ((g 31 2) &&& (3 : Int32)) (3 : Int32) then
    (x33_r31_r1_4 g )
  else
    (bif Op.ifCond.holds .ne ((g 31 3) &&& (8 : Int32)) then
      (x33_r31_r1_4 g )
    else
      (Option.bind (x15_r1 (im_w g 31 3 ((g 31 3) ||| (8 : Int32))) (8 : Int32) (1 : Int32) (2 : Int32)) (fun (_, g4) =>
        x33_r31_r1_4 g4 )))
set_option maxRecDepth 100000 in
set_option maxHeartbeats 4000000 in
theorem x33_r31_r1_3_ok {L : Nat} {xs : Nat → Int32} {g u mm : im_M} {o : Nat → Int64} {Y : iv_A} {ret : Int32} (h : x33_r31_r1_3 g  = some (ret, mm)) : iv_ev (iv_Xs L xs) 33 89 [.ref 34, .ref 4, .int (1 : Int32), .int (4 : Int32)] [] (im_H g u o Y) 0 0 (.inl none, im_H mm u o Y) := by
  unfold x33_r31_r1_3 at h
  cases hb6 : Op.if_icmp.holds .ne ((g 31 2) &&& (3 : Int32)) (3 : Int32) with
  | true =>
    rw [hb6] at h
    simp only [cond_true] at h
    refine iv_brt (mi' := 33) (pc' := 89) (ls' := [.ref 34, .ref 4, .int (2 : Int32), .int (8 : Int32)]) (st' := []) (A' := im_H g u o Y) (c' := 0) (s' := 0) (mi'' := 33) (pc'' := 59) (ls'' := [.ref 34, .ref 4, .int (2 : Int32), .int (8 : Int32)]) (st'' := []) (A'' := im_H g u o Y) (c'' := 0) (s'' := 0) 19 0 0 hb6 (fun n => rfl) ?_
    exact x33_r31_r1_4_ok (g := g)  h
  | false =>
    rw [hb6] at h
    simp only [cond_false] at h
    refine iv_brf (mi' := 33) (pc' := 89) (ls' := [.ref 34, .ref 4, .int (2 : Int32), .int (8 : Int32)]) (st' := []) (A' := im_H g u o Y) (c' := 0) (s' := 0) (mi'' := 33) (pc'' := 59) (ls'' := [.ref 34, .ref 4, .int (2 : Int32), .int (8 : Int32)]) (st'' := []) (A'' := im_H g u o Y) (c'' := 0) (s'' := 0) 19 0 0 hb6 (fun n => rfl) ?_
    cases hb7 : Op.ifCond.holds .ne ((g 31 3) &&& (8 : Int32)) with
    | true =>
      rw [hb7] at h
      simp only [cond_true] at h
      refine iv_brt (mi' := 33) (pc' := 89) (ls' := [.ref 34, .ref 4, .int (2 : Int32), .int (8 : Int32)]) (st' := []) (A' := im_H g u o Y) (c' := 0) (s' := 0) (mi'' := 33) (pc'' := 68) (ls'' := [.ref 34, .ref 4, .int (2 : Int32), .int (8 : Int32)]) (st'' := []) (A'' := im_H g u o Y) (c'' := 0) (s'' := 0) 5 0 0 hb7 (fun n => rfl) ?_
      exact x33_r31_r1_4_ok (g := g)  h
    | false =>
      rw [hb7] at h
      simp only [cond_false] at h
      refine iv_brf (mi' := 33) (pc' := 89) (ls' := [.ref 34, .ref 4, .int (2 : Int32), .int (8 : Int32)]) (st' := []) (A' := im_H g u o Y) (c' := 0) (s' := 0) (mi'' := 33) (pc'' := 68) (ls'' := [.ref 34, .ref 4, .int (2 : Int32), .int (8 : Int32)]) (st'' := []) (A'' := im_H g u o Y) (c'' := 0) (s'' := 0) 5 0 0 hb7 (fun n => rfl) ?_
      refine iv_blk (mi' := 33) (pc' := 78) (ls' := [.ref 34, .ref 4, .int (2 : Int32), .int (8 : Int32)]) (st' := []) (A' := List.set (im_H g u o Y) 31 (.inr (3, List.set [.int 1, .ref 35, .int (g 31 2), .int (g 31 3)] 3 (.int ((g 31 3) ||| (8 : Int32)))))) (c' := 0) (s' := 0) 6 (fun n => rfl) ?_
      rw [im_f31_3]
      cases hc : x15_r1 (im_w g 31 3 ((g 31 3) ||| (8 : Int32))) (8 : Int32) (1 : Int32) (2 : Int32) with
      | none => rw [hc] at h; cases h
      | some q =>
        obtain ⟨v4, g4⟩ := q
        rw [hc] at h
        simp only [Option.bind_some] at h
        refine iv_cal (mi' := 33) (pc' := 86) (ls' := [.ref 34, .ref 4, .int (2 : Int32), .int (8 : Int32)]) (rest := []) (A' := im_H (im_w g 31 3 ((g 31 3) ||| (8 : Int32))) u o Y) (c' := 0) (s' := 0) (as := [.ref 4, .int (8 : Int32), .int (1 : Int32), .int (2 : Int32)]) (v := none) (A'' := im_H g4 u o Y) 6 15 (fun n => rfl) rfl (x15_r1_ok (g := (im_w g 31 3 ((g 31 3) ||| (8 : Int32)))) (a := (8 : Int32)) (b := (1 : Int32)) (c := (2 : Int32)) hc) ?_
        show iv_ev (iv_Xs L xs) 33 89 [.ref 34, .ref 4, .int (2 : Int32), .int (8 : Int32)] [] (im_H g4 u o Y) 0 0 _
        exact x33_r31_r1_4_ok (g := g4)  h
def x33_r31_r1_2 (g : im_M) : Option (Int32 × im_M) :=
  bif Op.if_icmp.holds .ne ((g 31 2) &&& (4 : Int32)) (4 : Int32) then
    (x33_r31_r1_3 g )
  else
    (bif Op.ifCond.holds .ne ((g 31 3) &&& (4 : Int32)) then
      (x33_r31_r1_3 g )
    else
      (Option.bind (x15_r1 (im_w g 31 3 ((g 31 3) ||| (4 : Int32))) (8 : Int32) (1 : Int32) (1 : Int32)) (fun (_, g3) =>
        x33_r31_r1_3 g3 )))
set_option maxRecDepth 100000 in
set_option maxHeartbeats 4000000 in
theorem x33_r31_r1_2_ok {L : Nat} {xs : Nat → Int32} {g u mm : im_M} {o : Nat → Int64} {Y : iv_A} {ret : Int32} (h : x33_r31_r1_2 g  = some (ret, mm)) : iv_ev (iv_Xs L xs) 33 89 [.ref 34, .ref 4, .int (0 : Int32), .int (2 : Int32)] [] (im_H g u o Y) 0 0 (.inl none, im_H mm u o Y) := by
  unfold x33_r31_r1_2 at h
  cases hb4 : Op.if_icmp.holds .ne ((g 31 2) &&& (4 : Int32)) (4 : Int32) with
  | true =>
    rw [hb4] at h
    simp only [cond_true] at h
    refine iv_brt (mi' := 33) (pc' := 89) (ls' := [.ref 34, .ref 4, .int (1 : Int32), .int (4 : Int32)]) (st' := []) (A' := im_H g u o Y) (c' := 0) (s' := 0) (mi'' := 33) (pc'' := 59) (ls'' := [.ref 34, .ref 4, .int (1 : Int32), .int (4 : Int32)]) (st'' := []) (A'' := im_H g u o Y) (c'' := 0) (s'' := 0) 19 0 0 hb4 (fun n => rfl) ?_
    exact x33_r31_r1_3_ok (g := g)  h
  | false =>
    rw [hb4] at h
    simp only [cond_false] at h
    refine iv_brf (mi' := 33) (pc' := 89) (ls' := [.ref 34, .ref 4, .int (1 : Int32), .int (4 : Int32)]) (st' := []) (A' := im_H g u o Y) (c' := 0) (s' := 0) (mi'' := 33) (pc'' := 59) (ls'' := [.ref 34, .ref 4, .int (1 : Int32), .int (4 : Int32)]) (st'' := []) (A'' := im_H g u o Y) (c'' := 0) (s'' := 0) 19 0 0 hb4 (fun n => rfl) ?_
    cases hb5 : Op.ifCond.holds .ne ((g 31 3) &&& (4 : Int32)) with
    | true =>
      rw [hb5] at h
      simp only [cond_true] at h
      refine iv_brt (mi' := 33) (pc' := 89) (ls' := [.ref 34, .ref 4, .int (1 : Int32), .int (4 : Int32)]) (st' := []) (A' := im_H g u o Y) (c' := 0) (s' := 0) (mi'' := 33) (pc'' := 68) (ls'' := [.ref 34, .ref 4, .int (1 : Int32), .int (4 : Int32)]) (st'' := []) (A'' := im_H g u o Y) (c'' := 0) (s'' := 0) 5 0 0 hb5 (fun n => rfl) ?_
      exact x33_r31_r1_3_ok (g := g)  h
    | false =>
      rw [hb5] at h
      simp only [cond_false] at h
      refine iv_brf (mi' := 33) (pc' := 89) (ls' := [.ref 34, .ref 4, .int (1 : Int32), .int (4 : Int32)]) (st' := []) (A' := im_H g u o Y) (c' := 0) (s' := 0) (mi'' := 33) (pc'' := 68) (ls'' := [.ref 34, .ref 4, .int (1 : Int32), .int (4 : Int32)]) (st'' := []) (A'' := im_H g u o Y) (c'' := 0) (s'' := 0) 5 0 0 hb5 (fun n => rfl) ?_
      refine iv_blk (mi' := 33) (pc' := 78) (ls' := [.ref 34, .ref 4, .int (1 : Int32), .int (4 : Int32)]) (st' := []) (A' := List.set (im_H g u o Y) 31 (.inr (3, List.set [.int 1, .ref 35, .int (g 31 2), .int (g 31 3)] 3 (.int ((g 31 3) ||| (4 : Int32)))))) (c' := 0) (s' := 0) 6 (fun n => rfl) ?_
      rw [im_f31_3]
      cases hc : x15_r1 (im_w g 31 3 ((g 31 3) ||| (4 : Int32))) (8 : Int32) (1 : Int32) (1 : Int32) with
      | none => rw [hc] at h; cases h
      | some q =>
        obtain ⟨v3, g3⟩ := q
        rw [hc] at h
        simp only [Option.bind_some] at h
        refine iv_cal (mi' := 33) (pc' := 86) (ls' := [.ref 34, .ref 4, .int (1 : Int32), .int (4 : Int32)]) (rest := []) (A' := im_H (im_w g 31 3 ((g 31 3) ||| (4 : Int32))) u o Y) (c' := 0) (s' := 0) (as := [.ref 4, .int (8 : Int32), .int (1 : Int32), .int (1 : Int32)]) (v := none) (A'' := im_H g3 u o Y) 6 15 (fun n => rfl) rfl (x15_r1_ok (g := (im_w g 31 3 ((g 31 3) ||| (4 : Int32)))) (a := (8 : Int32)) (b := (1 : Int32)) (c := (1 : Int32)) hc) ?_
        show iv_ev (iv_Xs L xs) 33 89 [.ref 34, .ref 4, .int (1 : Int32), .int (4 : Int32)] [] (im_H g3 u o Y) 0 0 _
        exact x33_r31_r1_3_ok (g := g3)  h
def x33_r31_r1_1 (g : im_M) : Option (Int32 × im_M) :=
  bif Op.if_icmp.holds .ne ((g 31 2) &&& (2 : Int32)) (2 : Int32) then
    (x33_r31_r1_2 g )
  else
    (bif Op.ifCond.holds .ne ((g 31 3) &&& (2 : Int32)) then
      (x33_r31_r1_2 g )
    else
      (Option.bind (x15_r1 (im_w g 31 3 ((g 31 3) ||| (2 : Int32))) (8 : Int32) (1 : Int32) (0 : Int32)) (fun (_, g2) =>
        x33_r31_r1_2 g2 )))
set_option maxRecDepth 100000 in
set_option maxHeartbeats 4000000 in
theorem x33_r31_r1_1_ok {L : Nat} {xs : Nat → Int32} {g u mm : im_M} {o : Nat → Int64} {Y : iv_A} {ret : Int32} (h : x33_r31_r1_1 g  = some (ret, mm)) : iv_ev (iv_Xs L xs) 33 30 [.ref 34, .ref 4, .retAddr 0, .retAddr 0] [] (im_H g u o Y) 0 0 (.inl none, im_H mm u o Y) := by
  unfold x33_r31_r1_1 at h
  cases hb2 : Op.if_icmp.holds .ne ((g 31 2) &&& (2 : Int32)) (2 : Int32) with
  | true =>
    rw [hb2] at h
    simp only [cond_true] at h
    refine iv_brt (mi' := 33) (pc' := 89) (ls' := [.ref 34, .ref 4, .int (0 : Int32), .int (2 : Int32)]) (st' := []) (A' := im_H g u o Y) (c' := 0) (s' := 0) (mi'' := 33) (pc'' := 59) (ls'' := [.ref 34, .ref 4, .int (0 : Int32), .int (2 : Int32)]) (st'' := []) (A'' := im_H g u o Y) (c'' := 0) (s'' := 0) 19 0 0 hb2 (fun n => rfl) ?_
    exact x33_r31_r1_2_ok (g := g)  h
  | false =>
    rw [hb2] at h
    simp only [cond_false] at h
    refine iv_brf (mi' := 33) (pc' := 89) (ls' := [.ref 34, .ref 4, .int (0 : Int32), .int (2 : Int32)]) (st' := []) (A' := im_H g u o Y) (c' := 0) (s' := 0) (mi'' := 33) (pc'' := 59) (ls'' := [.ref 34, .ref 4, .int (0 : Int32), .int (2 : Int32)]) (st'' := []) (A'' := im_H g u o Y) (c'' := 0) (s'' := 0) 19 0 0 hb2 (fun n => rfl) ?_
    cases hb3 : Op.ifCond.holds .ne ((g 31 3) &&& (2 : Int32)) with
    | true =>
      rw [hb3] at h
      simp only [cond_true] at h
      refine iv_brt (mi' := 33) (pc' := 89) (ls' := [.ref 34, .ref 4, .int (0 : Int32), .int (2 : Int32)]) (st' := []) (A' := im_H g u o Y) (c' := 0) (s' := 0) (mi'' := 33) (pc'' := 68) (ls'' := [.ref 34, .ref 4, .int (0 : Int32), .int (2 : Int32)]) (st'' := []) (A'' := im_H g u o Y) (c'' := 0) (s'' := 0) 5 0 0 hb3 (fun n => rfl) ?_
      exact x33_r31_r1_2_ok (g := g)  h
    | false =>
      rw [hb3] at h
      simp only [cond_false] at h
      refine iv_brf (mi' := 33) (pc' := 89) (ls' := [.ref 34, .ref 4, .int (0 : Int32), .int (2 : Int32)]) (st' := []) (A' := im_H g u o Y) (c' := 0) (s' := 0) (mi'' := 33) (pc'' := 68) (ls'' := [.ref 34, .ref 4, .int (0 : Int32), .int (2 : Int32)]) (st'' := []) (A'' := im_H g u o Y) (c'' := 0) (s'' := 0) 5 0 0 hb3 (fun n => rfl) ?_
      refine iv_blk (mi' := 33) (pc' := 78) (ls' := [.ref 34, .ref 4, .int (0 : Int32), .int (2 : Int32)]) (st' := []) (A' := List.set (im_H g u o Y) 31 (.inr (3, List.set [.int 1, .ref 35, .int (g 31 2), .int (g 31 3)] 3 (.int ((g 31 3) ||| (2 : Int32)))))) (c' := 0) (s' := 0) 6 (fun n => rfl) ?_
      rw [im_f31_3]
      cases hc : x15_r1 (im_w g 31 3 ((g 31 3) ||| (2 : Int32))) (8 : Int32) (1 : Int32) (0 : Int32) with
      | none => rw [hc] at h; cases h
      | some q =>
        obtain ⟨v2, g2⟩ := q
        rw [hc] at h
        simp only [Option.bind_some] at h
        refine iv_cal (mi' := 33) (pc' := 86) (ls' := [.ref 34, .ref 4, .int (0 : Int32), .int (2 : Int32)]) (rest := []) (A' := im_H (im_w g 31 3 ((g 31 3) ||| (2 : Int32))) u o Y) (c' := 0) (s' := 0) (as := [.ref 4, .int (8 : Int32), .int (1 : Int32), .int (0 : Int32)]) (v := none) (A'' := im_H g2 u o Y) 6 15 (fun n => rfl) rfl (x15_r1_ok (g := (im_w g 31 3 ((g 31 3) ||| (2 : Int32)))) (a := (8 : Int32)) (b := (1 : Int32)) (c := (0 : Int32)) hc) ?_
        show iv_ev (iv_Xs L xs) 33 89 [.ref 34, .ref 4, .int (0 : Int32), .int (2 : Int32)] [] (im_H g2 u o Y) 0 0 _
        exact x33_r31_r1_2_ok (g := g2)  h
def x33_r31_r1 (g : im_M) : Option (Int32 × im_M) :=
  bif Op.ifCond.holds .ne ((g 31 3) &&& (1 : Int32)) then
    (x33_r31_r1_1 g )
  else
    (Option.bind (x15_r1 (im_w g 31 3 ((g 31 3) ||| (1 : Int32))) (7 : Int32) (1 : Int32) (0 : Int32)) (fun (_, g1) =>
      x33_r31_r1_1 g1 ))
set_option maxRecDepth 100000 in
set_option maxHeartbeats 4000000 in
theorem x33_r31_r1_ok {L : Nat} {xs : Nat → Int32} {g u mm : im_M} {o : Nat → Int64} {Y : iv_A} {ret : Int32} (h : x33_r31_r1 g  = some (ret, mm)) : iv_ev (iv_Xs L xs) 33 0 [.ref 34, .ref 4, .retAddr 0, .retAddr 0] [] (im_H g u o Y) 0 0 (.inl none, im_H mm u o Y) := by
  unfold x33_r31_r1 at h
  cases hb1 : Op.ifCond.holds .ne ((g 31 3) &&& (1 : Int32)) with
  | true =>
    rw [hb1] at h
    simp only [cond_true] at h
    refine iv_brt (mi' := 33) (pc' := 30) (ls' := [.ref 34, .ref 4, .retAddr 0, .retAddr 0]) (st' := []) (A' := im_H g u o Y) (c' := 0) (s' := 0) (mi'' := 33) (pc'' := 9) (ls'' := [.ref 34, .ref 4, .retAddr 0, .retAddr 0]) (st'' := []) (A'' := im_H g u o Y) (c'' := 0) (s'' := 0) 5 0 0 hb1 (fun n => rfl) ?_
    exact x33_r31_r1_1_ok (g := g)  h
  | false =>
    rw [hb1] at h
    simp only [cond_false] at h
    refine iv_brf (mi' := 33) (pc' := 30) (ls' := [.ref 34, .ref 4, .retAddr 0, .retAddr 0]) (st' := []) (A' := im_H g u o Y) (c' := 0) (s' := 0) (mi'' := 33) (pc'' := 9) (ls'' := [.ref 34, .ref 4, .retAddr 0, .retAddr 0]) (st'' := []) (A'' := im_H g u o Y) (c'' := 0) (s'' := 0) 5 0 0 hb1 (fun n => rfl) ?_
    refine iv_blk (mi' := 33) (pc' := 19) (ls' := [.ref 34, .ref 4, .retAddr 0, .retAddr 0]) (st' := []) (A' := List.set (im_H g u o Y) 31 (.inr (3, List.set [.int 1, .ref 35, .int (g 31 2), .int (g 31 3)] 3 (.int ((g 31 3) ||| (1 : Int32)))))) (c' := 0) (s' := 0) 6 (fun n => rfl) ?_
    rw [im_f31_3]
    cases hc : x15_r1 (im_w g 31 3 ((g 31 3) ||| (1 : Int32))) (7 : Int32) (1 : Int32) (0 : Int32) with
    | none => rw [hc] at h; cases h
    | some q =>
      obtain ⟨v1, g1⟩ := q
      rw [hc] at h
      simp only [Option.bind_some] at h
      refine iv_cal (mi' := 33) (pc' := 27) (ls' := [.ref 34, .ref 4, .retAddr 0, .retAddr 0]) (rest := []) (A' := im_H (im_w g 31 3 ((g 31 3) ||| (1 : Int32))) u o Y) (c' := 0) (s' := 0) (as := [.ref 4, .int (7 : Int32), .int (1 : Int32), .int (0 : Int32)]) (v := none) (A'' := im_H g1 u o Y) 6 15 (fun n => rfl) rfl (x15_r1_ok (g := (im_w g 31 3 ((g 31 3) ||| (1 : Int32)))) (a := (7 : Int32)) (b := (1 : Int32)) (c := (0 : Int32)) hc) ?_
      show iv_ev (iv_Xs L xs) 33 30 [.ref 34, .ref 4, .retAddr 0, .retAddr 0] [] (im_H g1 u o Y) 0 0 _
      exact x33_r31_r1_1_ok (g := g1)  h
def x33_r33_r1_4 (g : im_M) : Option (Int32 × im_M) :=
  some (0, g)
set_option maxRecDepth 100000 in
set_option maxHeartbeats 4000000 in
theorem x33_r33_r1_4_ok {L : Nat} {xs : Nat → Int32} {g u mm : im_M} {o : Nat → Int64} {Y : iv_A} {ret : Int32} (h : x33_r33_r1_4 g  = some (ret, mm)) : iv_ev (iv_Xs L xs) 33 89 [.ref 36, .ref 4, .int (2 : Int32), .int (8 : Int32)] [] (im_H g u o Y) 0 0 (.inl none, im_H mm u o Y) := by
  unfold x33_r33_r1_4 at h
  cases h
  exact iv_ret 6 (fun n => rfl)
def x33_r33_r1_3 (g : im_M) : Option (Int32 × im_M) :=
  bif Op.if_icmp.holds .ne ((g 33 2) &&& (3 : Int32)) (3 : Int32) then
    (x33_r33_r1_4 g )
  else
    (bif Op.ifCond.holds .ne ((g 33 3) &&& (8 : Int32)) then
      (x33_r33_r1_4 g )
    else
      (Option.bind (x15_r1 (im_w g 33 3 ((g 33 3) ||| (8 : Int32))) (8 : Int32) (2 : Int32) (2 : Int32)) (fun (_, g4) =>
        x33_r33_r1_4 g4 )))
set_option maxRecDepth 100000 in
set_option maxHeartbeats 4000000 in
theorem x33_r33_r1_3_ok {L : Nat} {xs : Nat → Int32} {g u mm : im_M} {o : Nat → Int64} {Y : iv_A} {ret : Int32} (h : x33_r33_r1_3 g  = some (ret, mm)) : iv_ev (iv_Xs L xs) 33 89 [.ref 36, .ref 4, .int (1 : Int32), .int (4 : Int32)] [] (im_H g u o Y) 0 0 (.inl none, im_H mm u o Y) := by
  unfold x33_r33_r1_3 at h
  cases hb6 : Op.if_icmp.holds .ne ((g 33 2) &&& (3 : Int32)) (3 : Int32) with
  | true =>
    rw [hb6] at h
    simp only [cond_true] at h
    refine iv_brt (mi' := 33) (pc' := 89) (ls' := [.ref 36, .ref 4, .int (2 : Int32), .int (8 : Int32)]) (st' := []) (A' := im_H g u o Y) (c' := 0) (s' := 0) (mi'' := 33) (pc'' := 59) (ls'' := [.ref 36, .ref 4, .int (2 : Int32), .int (8 : Int32)]) (st'' := []) (A'' := im_H g u o Y) (c'' := 0) (s'' := 0) 19 0 0 hb6 (fun n => rfl) ?_
    exact x33_r33_r1_4_ok (g := g)  h
  | false =>
    rw [hb6] at h
    simp only [cond_false] at h
    refine iv_brf (mi' := 33) (pc' := 89) (ls' := [.ref 36, .ref 4, .int (2 : Int32), .int (8 : Int32)]) (st' := []) (A' := im_H g u o Y) (c' := 0) (s' := 0) (mi'' := 33) (pc'' := 59) (ls'' := [.ref 36, .ref 4, .int (2 : Int32), .int (8 : Int32)]) (st'' := []) (A'' := im_H g u o Y) (c'' := 0) (s'' := 0) 19 0 0 hb6 (fun n => rfl) ?_
    cases hb7 : Op.ifCond.holds .ne ((g 33 3) &&& (8 : Int32)) with
    | true =>
      rw [hb7] at h
      simp only [cond_true] at h
      refine iv_brt (mi' := 33) (pc' := 89) (ls' := [.ref 36, .ref 4, .int (2 : Int32), .int (8 : Int32)]) (st' := []) (A' := im_H g u o Y) (c' := 0) (s' := 0) (mi'' := 33) (pc'' := 68) (ls'' := [.ref 36, .ref 4, .int (2 : Int32), .int (8 : Int32)]) (st'' := []) (A'' := im_H g u o Y) (c'' := 0) (s'' := 0) 5 0 0 hb7 (fun n => rfl) ?_
      exact x33_r33_r1_4_ok (g := g)  h
    | false =>
      rw [hb7] at h
      simp only [cond_false] at h
      refine iv_brf (mi' := 33) (pc' := 89) (ls' := [.ref 36, .ref 4, .int (2 : Int32), .int (8 : Int32)]) (st' := []) (A' := im_H g u o Y) (c' := 0) (s' := 0) (mi'' := 33) (pc'' := 68) (ls'' := [.ref 36, .ref 4, .int (2 : Int32), .int (8 : Int32)]) (st'' := []) (A'' := im_H g u o Y) (c'' := 0) (s'' := 0) 5 0 0 hb7 (fun n => rfl) ?_
      refine iv_blk (mi' := 33) (pc' := 78) (ls' := [.ref 36, .ref 4, .int (2 : Int32), .int (8 : Int32)]) (st' := []) (A' := List.set (im_H g u o Y) 33 (.inr (3, List.set [.int 2, .ref 37, .int (g 33 2), .int (g 33 3)] 3 (.int ((g 33 3) ||| (8 : Int32)))))) (c' := 0) (s' := 0) 6 (fun n => rfl) ?_
      rw [im_f33_3]
      cases hc : x15_r1 (im_w g 33 3 ((g 33 3) ||| (8 : Int32))) (8 : Int32) (2 : Int32) (2 : Int32) with
      | none => rw [hc] at h; cases h
      | some q =>
        obtain ⟨v4, g4⟩ := q
        rw [hc] at h
        simp only [Option.bind_some] at h
        refine iv_cal (mi' := 33) (pc' := 86) (ls' := [.ref 36, .ref 4, .int (2 : Int32), .int (8 : Int32)]) (rest := []) (A' := im_H (im_w g 33 3 ((g 33 3) ||| (8 : Int32))) u o Y) (c' := 0) (s' := 0) (as := [.ref 4, .int (8 : Int32), .int (2 : Int32), .int (2 : Int32)]) (v := none) (A'' := im_H g4 u o Y) 6 15 (fun n => rfl) rfl (x15_r1_ok (g := (im_w g 33 3 ((g 33 3) ||| (8 : Int32)))) (a := (8 : Int32)) (b := (2 : Int32)) (c := (2 : Int32)) hc) ?_
        show iv_ev (iv_Xs L xs) 33 89 [.ref 36, .ref 4, .int (2 : Int32), .int (8 : Int32)] [] (im_H g4 u o Y) 0 0 _
        exact x33_r33_r1_4_ok (g := g4)  h
def x33_r33_r1_2 (g : im_M) : Option (Int32 × im_M) :=
  bif Op.if_icmp.holds .ne ((g 33 2) &&& (4 : Int32)) (4 : Int32) then
    (x33_r33_r1_3 g )
  else
    (bif Op.ifCond.holds .ne ((g 33 3) &&& (4 : Int32)) then
      (x33_r33_r1_3 g )
    else
      (Option.bind (x15_r1 (im_w g 33 3 ((g 33 3) ||| (4 : Int32))) (8 : Int32) (2 : Int32) (1 : Int32)) (fun (_, g3) =>
        x33_r33_r1_3 g3 )))
set_option maxRecDepth 100000 in
set_option maxHeartbeats 4000000 in
theorem x33_r33_r1_2_ok {L : Nat} {xs : Nat → Int32} {g u mm : im_M} {o : Nat → Int64} {Y : iv_A} {ret : Int32} (h : x33_r33_r1_2 g  = some (ret, mm)) : iv_ev (iv_Xs L xs) 33 89 [.ref 36, .ref 4, .int (0 : Int32), .int (2 : Int32)] [] (im_H g u o Y) 0 0 (.inl none, im_H mm u o Y) := by
  unfold x33_r33_r1_2 at h
  cases hb4 : Op.if_icmp.holds .ne ((g 33 2) &&& (4 : Int32)) (4 : Int32) with
  | true =>
    rw [hb4] at h
    simp only [cond_true] at h
    refine iv_brt (mi' := 33) (pc' := 89) (ls' := [.ref 36, .ref 4, .int (1 : Int32), .int (4 : Int32)]) (st' := []) (A' := im_H g u o Y) (c' := 0) (s' := 0) (mi'' := 33) (pc'' := 59) (ls'' := [.ref 36, .ref 4, .int (1 : Int32), .int (4 : Int32)]) (st'' := []) (A'' := im_H g u o Y) (c'' := 0) (s'' := 0) 19 0 0 hb4 (fun n => rfl) ?_
    exact x33_r33_r1_3_ok (g := g)  h
  | false =>
    rw [hb4] at h
    simp only [cond_false] at h
    refine iv_brf (mi' := 33) (pc' := 89) (ls' := [.ref 36, .ref 4, .int (1 : Int32), .int (4 : Int32)]) (st' := []) (A' := im_H g u o Y) (c' := 0) (s' := 0) (mi'' := 33) (pc'' := 59) (ls'' := [.ref 36, .ref 4, .int (1 : Int32), .int (4 : Int32)]) (st'' := []) (A'' := im_H g u o Y) (c'' := 0) (s'' := 0) 19 0 0 hb4 (fun n => rfl) ?_
    cases hb5 : Op.ifCond.holds .ne ((g 33 3) &&& (4 : Int32)) with
    | true =>
      rw [hb5] at h
      simp only [cond_true] at h
      refine iv_brt (mi' := 33) (pc' := 89) (ls' := [.ref 36, .ref 4, .int (1 : Int32), .int (4 : Int32)]) (st' := []) (A' := im_H g u o Y) (c' := 0) (s' := 0) (mi'' := 33) (pc'' := 68) (ls'' := [.ref 36, .ref 4, .int (1 : Int32), .int (4 : Int32)]) (st'' := []) (A'' := im_H g u o Y) (c'' := 0) (s'' := 0) 5 0 0 hb5 (fun n => rfl) ?_
      exact x33_r33_r1_3_ok (g := g)  h
    | false =>
      rw [hb5] at h
      simp only [cond_false] at h
      refine iv_brf (mi' := 33) (pc' := 89) (ls' := [.ref 36, .ref 4, .int (1 : Int32), .int (4 : Int32)]) (st' := []) (A' := im_H g u o Y) (c' := 0) (s' := 0) (mi'' := 33) (pc'' := 68) (ls'' := [.ref 36, .ref 4, .int (1 : Int32), .int (4 : Int32)]) (st'' := []) (A'' := im_H g u o Y) (c'' := 0) (s'' := 0) 5 0 0 hb5 (fun n => rfl) ?_
      refine iv_blk (mi' := 33) (pc' := 78) (ls' := [.ref 36, .ref 4, .int (1 : Int32), .int (4 : Int32)]) (st' := []) (A' := List.set (im_H g u o Y) 33 (.inr (3, List.set [.int 2, .ref 37, .int (g 33 2), .int (g 33 3)] 3 (.int ((g 33 3) ||| (4 : Int32)))))) (c' := 0) (s' := 0) 6 (fun n => rfl) ?_
      rw [im_f33_3]
      cases hc : x15_r1 (im_w g 33 3 ((g 33 3) ||| (4 : Int32))) (8 : Int32) (2 : Int32) (1 : Int32) with
      | none => rw [hc] at h; cases h
      | some q =>
        obtain ⟨v3, g3⟩ := q
        rw [hc] at h
        simp only [Option.bind_some] at h
        refine iv_cal (mi' := 33) (pc' := 86) (ls' := [.ref 36, .ref 4, .int (1 : Int32), .int (4 : Int32)]) (rest := []) (A' := im_H (im_w g 33 3 ((g 33 3) ||| (4 : Int32))) u o Y) (c' := 0) (s' := 0) (as := [.ref 4, .int (8 : Int32), .int (2 : Int32), .int (1 : Int32)]) (v := none) (A'' := im_H g3 u o Y) 6 15 (fun n => rfl) rfl (x15_r1_ok (g := (im_w g 33 3 ((g 33 3) ||| (4 : Int32)))) (a := (8 : Int32)) (b := (2 : Int32)) (c := (1 : Int32)) hc) ?_
        show iv_ev (iv_Xs L xs) 33 89 [.ref 36, .ref 4, .int (1 : Int32), .int (4 : Int32)] [] (im_H g3 u o Y) 0 0 _
        exact x33_r33_r1_3_ok (g := g3)  h
def x33_r33_r1_1 (g : im_M) : Option (Int32 × im_M) :=
  bif Op.if_icmp.holds .ne ((g 33 2) &&& (2 : Int32)) (2 : Int32) then
    (x33_r33_r1_2 g )
  else
    (bif Op.ifCond.holds .ne ((g 33 3) &&& (2 : Int32)) then
      (x33_r33_r1_2 g )
    else
      (Option.bind (x15_r1 (im_w g 33 3 ((g 33 3) ||| (2 : Int32))) (8 : Int32) (2 : Int32) (0 : Int32)) (fun (_, g2) =>
        x33_r33_r1_2 g2 )))
set_option maxRecDepth 100000 in
set_option maxHeartbeats 4000000 in
theorem x33_r33_r1_1_ok {L : Nat} {xs : Nat → Int32} {g u mm : im_M} {o : Nat → Int64} {Y : iv_A} {ret : Int32} (h : x33_r33_r1_1 g  = some (ret, mm)) : iv_ev (iv_Xs L xs) 33 30 [.ref 36, .ref 4, .retAddr 0, .retAddr 0] [] (im_H g u o Y) 0 0 (.inl none, im_H mm u o Y) := by
  unfold x33_r33_r1_1 at h
  cases hb2 : Op.if_icmp.holds .ne ((g 33 2) &&& (2 : Int32)) (2 : Int32) with
  | true =>
    rw [hb2] at h
    simp only [cond_true] at h
    refine iv_brt (mi' := 33) (pc' := 89) (ls' := [.ref 36, .ref 4, .int (0 : Int32), .int (2 : Int32)]) (st' := []) (A' := im_H g u o Y) (c' := 0) (s' := 0) (mi'' := 33) (pc'' := 59) (ls'' := [.ref 36, .ref 4, .int (0 : Int32), .int (2 : Int32)]) (st'' := []) (A'' := im_H g u o Y) (c'' := 0) (s'' := 0) 19 0 0 hb2 (fun n => rfl) ?_
    exact x33_r33_r1_2_ok (g := g)  h
  | false =>
    rw [hb2] at h
    simp only [cond_false] at h
    refine iv_brf (mi' := 33) (pc' := 89) (ls' := [.ref 36, .ref 4, .int (0 : Int32), .int (2 : Int32)]) (st' := []) (A' := im_H g u o Y) (c' := 0) (s' := 0) (mi'' := 33) (pc'' := 59) (ls'' := [.ref 36, .ref 4, .int (0 : Int32), .int (2 : Int32)]) (st'' := []) (A'' := im_H g u o Y) (c'' := 0) (s'' := 0) 19 0 0 hb2 (fun n => rfl) ?_
    cases hb3 : Op.ifCond.holds .ne ((g 33 3) &&& (2 : Int32)) with
    | true =>
      rw [hb3] at h
      simp only [cond_true] at h
      refine iv_brt (mi' := 33) (pc' := 89) (ls' := [.ref 36, .ref 4, .int (0 : Int32), .int (2 : Int32)]) (st' := []) (A' := im_H g u o Y) (c' := 0) (s' := 0) (mi'' := 33) (pc'' := 68) (ls'' := [.ref 36, .ref 4, .int (0 : Int32), .int (2 : Int32)]) (st'' := []) (A'' := im_H g u o Y) (c'' := 0) (s'' := 0) 5 0 0 hb3 (fun n => rfl) ?_
      exact x33_r33_r1_2_ok (g := g)  h
    | false =>
      rw [hb3] at h
      simp only [cond_false] at h
      refine iv_brf (mi' := 33) (pc' := 89) (ls' := [.ref 36, .ref 4, .int (0 : Int32), .int (2 : Int32)]) (st' := []) (A' := im_H g u o Y) (c' := 0) (s' := 0) (mi'' := 33) (pc'' := 68) (ls'' := [.ref 36, .ref 4, .int (0 : Int32), .int (2 : Int32)]) (st'' := []) (A'' := im_H g u o Y) (c'' := 0) (s'' := 0) 5 0 0 hb3 (fun n => rfl) ?_
      refine iv_blk (mi' := 33) (pc' := 78) (ls' := [.ref 36, .ref 4, .int (0 : Int32), .int (2 : Int32)]) (st' := []) (A' := List.set (im_H g u o Y) 33 (.inr (3, List.set [.int 2, .ref 37, .int (g 33 2), .int (g 33 3)] 3 (.int ((g 33 3) ||| (2 : Int32)))))) (c' := 0) (s' := 0) 6 (fun n => rfl) ?_
      rw [im_f33_3]
      cases hc : x15_r1 (im_w g 33 3 ((g 33 3) ||| (2 : Int32))) (8 : Int32) (2 : Int32) (0 : Int32) with
      | none => rw [hc] at h; cases h
      | some q =>
        obtain ⟨v2, g2⟩ := q
        rw [hc] at h
        simp only [Option.bind_some] at h
        refine iv_cal (mi' := 33) (pc' := 86) (ls' := [.ref 36, .ref 4, .int (0 : Int32), .int (2 : Int32)]) (rest := []) (A' := im_H (im_w g 33 3 ((g 33 3) ||| (2 : Int32))) u o Y) (c' := 0) (s' := 0) (as := [.ref 4, .int (8 : Int32), .int (2 : Int32), .int (0 : Int32)]) (v := none) (A'' := im_H g2 u o Y) 6 15 (fun n => rfl) rfl (x15_r1_ok (g := (im_w g 33 3 ((g 33 3) ||| (2 : Int32)))) (a := (8 : Int32)) (b := (2 : Int32)) (c := (0 : Int32)) hc) ?_
        show iv_ev (iv_Xs L xs) 33 89 [.ref 36, .ref 4, .int (0 : Int32), .int (2 : Int32)] [] (im_H g2 u o Y) 0 0 _
        exact x33_r33_r1_2_ok (g := g2)  h
def x33_r33_r1 (g : im_M) : Option (Int32 × im_M) :=
  bif Op.ifCond.holds .ne ((g 33 3) &&& (1 : Int32)) then
    (x33_r33_r1_1 g )
  else
    (Option.bind (x15_r1 (im_w g 33 3 ((g 33 3) ||| (1 : Int32))) (7 : Int32) (2 : Int32) (0 : Int32)) (fun (_, g1) =>
      x33_r33_r1_1 g1 ))
set_option maxRecDepth 100000 in
set_option maxHeartbeats 4000000 in
theorem x33_r33_r1_ok {L : Nat} {xs : Nat → Int32} {g u mm : im_M} {o : Nat → Int64} {Y : iv_A} {ret : Int32} (h : x33_r33_r1 g  = some (ret, mm)) : iv_ev (iv_Xs L xs) 33 0 [.ref 36, .ref 4, .retAddr 0, .retAddr 0] [] (im_H g u o Y) 0 0 (.inl none, im_H mm u o Y) := by
  unfold x33_r33_r1 at h
  cases hb1 : Op.ifCond.holds .ne ((g 33 3) &&& (1 : Int32)) with
  | true =>
    rw [hb1] at h
    simp only [cond_true] at h
    refine iv_brt (mi' := 33) (pc' := 30) (ls' := [.ref 36, .ref 4, .retAddr 0, .retAddr 0]) (st' := []) (A' := im_H g u o Y) (c' := 0) (s' := 0) (mi'' := 33) (pc'' := 9) (ls'' := [.ref 36, .ref 4, .retAddr 0, .retAddr 0]) (st'' := []) (A'' := im_H g u o Y) (c'' := 0) (s'' := 0) 5 0 0 hb1 (fun n => rfl) ?_
    exact x33_r33_r1_1_ok (g := g)  h
  | false =>
    rw [hb1] at h
    simp only [cond_false] at h
    refine iv_brf (mi' := 33) (pc' := 30) (ls' := [.ref 36, .ref 4, .retAddr 0, .retAddr 0]) (st' := []) (A' := im_H g u o Y) (c' := 0) (s' := 0) (mi'' := 33) (pc'' := 9) (ls'' := [.ref 36, .ref 4, .retAddr 0, .retAddr 0]) (st'' := []) (A'' := im_H g u o Y) (c'' := 0) (s'' := 0) 5 0 0 hb1 (fun n => rfl) ?_
    refine iv_blk (mi' := 33) (pc' := 19) (ls' := [.ref 36, .ref 4, .retAddr 0, .retAddr 0]) (st' := []) (A' := List.set (im_H g u o Y) 33 (.inr (3, List.set [.int 2, .ref 37, .int (g 33 2), .int (g 33 3)] 3 (.int ((g 33 3) ||| (1 : Int32)))))) (c' := 0) (s' := 0) 6 (fun n => rfl) ?_
    rw [im_f33_3]
    cases hc : x15_r1 (im_w g 33 3 ((g 33 3) ||| (1 : Int32))) (7 : Int32) (2 : Int32) (0 : Int32) with
    | none => rw [hc] at h; cases h
    | some q =>
      obtain ⟨v1, g1⟩ := q
      rw [hc] at h
      simp only [Option.bind_some] at h
      refine iv_cal (mi' := 33) (pc' := 27) (ls' := [.ref 36, .ref 4, .retAddr 0, .retAddr 0]) (rest := []) (A' := im_H (im_w g 33 3 ((g 33 3) ||| (1 : Int32))) u o Y) (c' := 0) (s' := 0) (as := [.ref 4, .int (7 : Int32), .int (2 : Int32), .int (0 : Int32)]) (v := none) (A'' := im_H g1 u o Y) 6 15 (fun n => rfl) rfl (x15_r1_ok (g := (im_w g 33 3 ((g 33 3) ||| (1 : Int32)))) (a := (7 : Int32)) (b := (2 : Int32)) (c := (0 : Int32)) hc) ?_
      show iv_ev (iv_Xs L xs) 33 30 [.ref 36, .ref 4, .retAddr 0, .retAddr 0] [] (im_H g1 u o Y) 0 0 _
      exact x33_r33_r1_1_ok (g := g1)  h
def x33_r35_r1_4 (g : im_M) : Option (Int32 × im_M) :=
  some (0, g)
set_option maxRecDepth 100000 in
set_option maxHeartbeats 4000000 in
theorem x33_r35_r1_4_ok {L : Nat} {xs : Nat → Int32} {g u mm : im_M} {o : Nat → Int64} {Y : iv_A} {ret : Int32} (h : x33_r35_r1_4 g  = some (ret, mm)) : iv_ev (iv_Xs L xs) 33 89 [.ref 38, .ref 4, .int (2 : Int32), .int (8 : Int32)] [] (im_H g u o Y) 0 0 (.inl none, im_H mm u o Y) := by
  unfold x33_r35_r1_4 at h
  cases h
  exact iv_ret 6 (fun n => rfl)
def x33_r35_r1_3 (g : im_M) : Option (Int32 × im_M) :=
  bif Op.if_icmp.holds .ne ((g 35 2) &&& (3 : Int32)) (3 : Int32) then
    (x33_r35_r1_4 g )
  else
    (bif Op.ifCond.holds .ne ((g 35 3) &&& (8 : Int32)) then
      (x33_r35_r1_4 g )
    else
      (Option.bind (x15_r1 (im_w g 35 3 ((g 35 3) ||| (8 : Int32))) (8 : Int32) (3 : Int32) (2 : Int32)) (fun (_, g4) =>
        x33_r35_r1_4 g4 )))
set_option maxRecDepth 100000 in
set_option maxHeartbeats 4000000 in
theorem x33_r35_r1_3_ok {L : Nat} {xs : Nat → Int32} {g u mm : im_M} {o : Nat → Int64} {Y : iv_A} {ret : Int32} (h : x33_r35_r1_3 g  = some (ret, mm)) : iv_ev (iv_Xs L xs) 33 89 [.ref 38, .ref 4, .int (1 : Int32), .int (4 : Int32)] [] (im_H g u o Y) 0 0 (.inl none, im_H mm u o Y) := by
  unfold x33_r35_r1_3 at h
  cases hb6 : Op.if_icmp.holds .ne ((g 35 2) &&& (3 : Int32)) (3 : Int32) with
  | true =>
    rw [hb6] at h
    simp only [cond_true] at h
    refine iv_brt (mi' := 33) (pc' := 89) (ls' := [.ref 38, .ref 4, .int (2 : Int32), .int (8 : Int32)]) (st' := []) (A' := im_H g u o Y) (c' := 0) (s' := 0) (mi'' := 33) (pc'' := 59) (ls'' := [.ref 38, .ref 4, .int (2 : Int32), .int (8 : Int32)]) (st'' := []) (A'' := im_H g u o Y) (c'' := 0) (s'' := 0) 19 0 0 hb6 (fun n => rfl) ?_
    exact x33_r35_r1_4_ok (g := g)  h
  | false =>
    rw [hb6] at h
    simp only [cond_false] at h
    refine iv_brf (mi' := 33) (pc' := 89) (ls' := [.ref 38, .ref 4, .int (2 : Int32), .int (8 : Int32)]) (st' := []) (A' := im_H g u o Y) (c' := 0) (s' := 0) (mi'' := 33) (pc'' := 59) (ls'' := [.ref 38, .ref 4, .int (2 : Int32), .int (8 : Int32)]) (st'' := []) (A'' := im_H g u o Y) (c'' := 0) (s'' := 0) 19 0 0 hb6 (fun n => rfl) ?_
    cases hb7 : Op.ifCond.holds .ne ((g 35 3) &&& (8 : Int32)) with
    | true =>
      rw [hb7] at h
      simp only [cond_true] at h
      refine iv_brt (mi' := 33) (pc' := 89) (ls' := [.ref 38, .ref 4, .int (2 : Int32), .int (8 : Int32)]) (st' := []) (A' := im_H g u o Y) (c' := 0) (s' := 0) (mi'' := 33) (pc'' := 68) (ls'' := [.ref 38, .ref 4, .int (2 : Int32), .int (8 : Int32)]) (st'' := []) (A'' := im_H g u o Y) (c'' := 0) (s'' := 0) 5 0 0 hb7 (fun n => rfl) ?_
      exact x33_r35_r1_4_ok (g := g)  h
    | false =>
      rw [hb7] at h
      simp only [cond_false] at h
      refine iv_brf (mi' := 33) (pc' := 89) (ls' := [.ref 38, .ref 4, .int (2 : Int32), .int (8 : Int32)]) (st' := []) (A' := im_H g u o Y) (c' := 0) (s' := 0) (mi'' := 33) (pc'' := 68) (ls'' := [.ref 38, .ref 4, .int (2 : Int32), .int (8 : Int32)]) (st'' := []) (A'' := im_H g u o Y) (c'' := 0) (s'' := 0) 5 0 0 hb7 (fun n => rfl) ?_
      refine iv_blk (mi' := 33) (pc' := 78) (ls' := [.ref 38, .ref 4, .int (2 : Int32), .int (8 : Int32)]) (st' := []) (A' := List.set (im_H g u o Y) 35 (.inr (3, List.set [.int 3, .ref 39, .int (g 35 2), .int (g 35 3)] 3 (.int ((g 35 3) ||| (8 : Int32)))))) (c' := 0) (s' := 0) 6 (fun n => rfl) ?_
      rw [im_f35_3]
      cases hc : x15_r1 (im_w g 35 3 ((g 35 3) ||| (8 : Int32))) (8 : Int32) (3 : Int32) (2 : Int32) with
      | none => rw [hc] at h; cases h
      | some q =>
        obtain ⟨v4, g4⟩ := q
        rw [hc] at h
        simp only [Option.bind_some] at h
        refine iv_cal (mi' := 33) (pc' := 86) (ls' := [.ref 38, .ref 4, .int (2 : Int32), .int (8 : Int32)]) (rest := []) (A' := im_H (im_w g 35 3 ((g 35 3) ||| (8 : Int32))) u o Y) (c' := 0) (s' := 0) (as := [.ref 4, .int (8 : Int32), .int (3 : Int32), .int (2 : Int32)]) (v := none) (A'' := im_H g4 u o Y) 6 15 (fun n => rfl) rfl (x15_r1_ok (g := (im_w g 35 3 ((g 35 3) ||| (8 : Int32)))) (a := (8 : Int32)) (b := (3 : Int32)) (c := (2 : Int32)) hc) ?_
        show iv_ev (iv_Xs L xs) 33 89 [.ref 38, .ref 4, .int (2 : Int32), .int (8 : Int32)] [] (im_H g4 u o Y) 0 0 _
        exact x33_r35_r1_4_ok (g := g4)  h
def x33_r35_r1_2 (g : im_M) : Option (Int32 × im_M) :=
  bif Op.if_icmp.holds .ne ((g 35 2) &&& (4 : Int32)) (4 : Int32) then
    (x33_r35_r1_3 g )
  else
    (bif Op.ifCond.holds .ne ((g 35 3) &&& (4 : Int32)) then
      (x33_r35_r1_3 g )
    else
      (Option.bind (x15_r1 (im_w g 35 3 ((g 35 3) ||| (4 : Int32))) (8 : Int32) (3 : Int32) (1 : Int32)) (fun (_, g3) =>
        x33_r35_r1_3 g3 )))
set_option maxRecDepth 100000 in
set_option maxHeartbeats 4000000 in
theorem x33_r35_r1_2_ok {L : Nat} {xs : Nat → Int32} {g u mm : im_M} {o : Nat → Int64} {Y : iv_A} {ret : Int32} (h : x33_r35_r1_2 g  = some (ret, mm)) : iv_ev (iv_Xs L xs) 33 89 [.ref 38, .ref 4, .int (0 : Int32), .int (2 : Int32)] [] (im_H g u o Y) 0 0 (.inl none, im_H mm u o Y) := by
  unfold x33_r35_r1_2 at h
  cases hb4 : Op.if_icmp.holds .ne ((g 35 2) &&& (4 : Int32)) (4 : Int32) with
  | true =>
    rw [hb4] at h
    simp only [cond_true] at h
    refine iv_brt (mi' := 33) (pc' := 89) (ls' := [.ref 38, .ref 4, .int (1 : Int32), .int (4 : Int32)]) (st' := []) (A' := im_H g u o Y) (c' := 0) (s' := 0) (mi'' := 33) (pc'' := 59) (ls'' := [.ref 38, .ref 4, .int (1 : Int32), .int (4 : Int32)]) (st'' := []) (A'' := im_H g u o Y) (c'' := 0) (s'' := 0) 19 0 0 hb4 (fun n => rfl) ?_
    exact x33_r35_r1_3_ok (g := g)  h
  | false =>
    rw [hb4] at h
    simp only [cond_false] at h
    refine iv_brf (mi' := 33) (pc' := 89) (ls' := [.ref 38, .ref 4, .int (1 : Int32), .int (4 : Int32)]) (st' := []) (A' := im_H g u o Y) (c' := 0) (s' := 0) (mi'' := 33) (pc'' := 59) (ls'' := [.ref 38, .ref 4, .int (1 : Int32), .int (4 : Int32)]) (st'' := []) (A'' := im_H g u o Y) (c'' := 0) (s'' := 0) 19 0 0 hb4 (fun n => rfl) ?_
    cases hb5 : Op.ifCond.holds .ne ((g 35 3) &&& (4 : Int32)) with
    | true =>
      rw [hb5] at h
      simp only [cond_true] at h
      refine iv_brt (mi' := 33) (pc' := 89) (ls' := [.ref 38, .ref 4, .int (1 : Int32), .int (4 : Int32)]) (st' := []) (A' := im_H g u o Y) (c' := 0) (s' := 0) (mi'' := 33) (pc'' := 68) (ls'' := [.ref 38, .ref 4, .int (1 : Int32), .int (4 : Int32)]) (st'' := []) (A'' := im_H g u o Y) (c'' := 0) (s'' := 0) 5 0 0 hb5 (fun n => rfl) ?_
      exact x33_r35_r1_3_ok (g := g)  h
    | false =>
      rw [hb5] at h
      simp only [cond_false] at h
      refine iv_brf (mi' := 33) (pc' := 89) (ls' := [.ref 38, .ref 4, .int (1 : Int32), .int (4 : Int32)]) (st' := []) (A' := im_H g u o Y) (c' := 0) (s' := 0) (mi'' := 33) (pc'' := 68) (ls'' := [.ref 38, .ref 4, .int (1 : Int32), .int (4 : Int32)]) (st'' := []) (A'' := im_H g u o Y) (c'' := 0) (s'' := 0) 5 0 0 hb5 (fun n => rfl) ?_
      refine iv_blk (mi' := 33) (pc' := 78) (ls' := [.ref 38, .ref 4, .int (1 : Int32), .int (4 : Int32)]) (st' := []) (A' := List.set (im_H g u o Y) 35 (.inr (3, List.set [.int 3, .ref 39, .int (g 35 2), .int (g 35 3)] 3 (.int ((g 35 3) ||| (4 : Int32)))))) (c' := 0) (s' := 0) 6 (fun n => rfl) ?_
      rw [im_f35_3]
      cases hc : x15_r1 (im_w g 35 3 ((g 35 3) ||| (4 : Int32))) (8 : Int32) (3 : Int32) (1 : Int32) with
      | none => rw [hc] at h; cases h
      | some q =>
        obtain ⟨v3, g3⟩ := q
        rw [hc] at h
        simp only [Option.bind_some] at h
        refine iv_cal (mi' := 33) (pc' := 86) (ls' := [.ref 38, .ref 4, .int (1 : Int32), .int (4 : Int32)]) (rest := []) (A' := im_H (im_w g 35 3 ((g 35 3) ||| (4 : Int32))) u o Y) (c' := 0) (s' := 0) (as := [.ref 4, .int (8 : Int32), .int (3 : Int32), .int (1 : Int32)]) (v := none) (A'' := im_H g3 u o Y) 6 15 (fun n => rfl) rfl (x15_r1_ok (g := (im_w g 35 3 ((g 35 3) ||| (4 : Int32)))) (a := (8 : Int32)) (b := (3 : Int32)) (c := (1 : Int32)) hc) ?_
        show iv_ev (iv_Xs L xs) 33 89 [.ref 38, .ref 4, .int (1 : Int32), .int (4 : Int32)] [] (im_H g3 u o Y) 0 0 _
        exact x33_r35_r1_3_ok (g := g3)  h
def x33_r35_r1_1 (g : im_M) : Option (Int32 × im_M) :=
  bif Op.if_icmp.holds .ne ((g 35 2) &&& (2 : Int32)) (2 : Int32) then
    (x33_r35_r1_2 g )
  else
    (bif Op.ifCond.holds .ne ((g 35 3) &&& (2 : Int32)) then
      (x33_r35_r1_2 g )
    else
      (Option.bind (x15_r1 (im_w g 35 3 ((g 35 3) ||| (2 : Int32))) (8 : Int32) (3 : Int32) (0 : Int32)) (fun (_, g2) =>
        x33_r35_r1_2 g2 )))
set_option maxRecDepth 100000 in
set_option maxHeartbeats 4000000 in
theorem x33_r35_r1_1_ok {L : Nat} {xs : Nat → Int32} {g u mm : im_M} {o : Nat → Int64} {Y : iv_A} {ret : Int32} (h : x33_r35_r1_1 g  = some (ret, mm)) : iv_ev (iv_Xs L xs) 33 30 [.ref 38, .ref 4, .retAddr 0, .retAddr 0] [] (im_H g u o Y) 0 0 (.inl none, im_H mm u o Y) := by
  unfold x33_r35_r1_1 at h
  cases hb2 : Op.if_icmp.holds .ne ((g 35 2) &&& (2 : Int32)) (2 : Int32) with
  | true =>
    rw [hb2] at h
    simp only [cond_true] at h
    refine iv_brt (mi' := 33) (pc' := 89) (ls' := [.ref 38, .ref 4, .int (0 : Int32), .int (2 : Int32)]) (st' := []) (A' := im_H g u o Y) (c' := 0) (s' := 0) (mi'' := 33) (pc'' := 59) (ls'' := [.ref 38, .ref 4, .int (0 : Int32), .int (2 : Int32)]) (st'' := []) (A'' := im_H g u o Y) (c'' := 0) (s'' := 0) 19 0 0 hb2 (fun n => rfl) ?_
    exact x33_r35_r1_2_ok (g := g)  h
  | false =>
    rw [hb2] at h
    simp only [cond_false] at h
    refine iv_brf (mi' := 33) (pc' := 89) (ls' := [.ref 38, .ref 4, .int (0 : Int32), .int (2 : Int32)]) (st' := []) (A' := im_H g u o Y) (c' := 0) (s' := 0) (mi'' := 33) (pc'' := 59) (ls'' := [.ref 38, .ref 4, .int (0 : Int32), .int (2 : Int32)]) (st'' := []) (A'' := im_H g u o Y) (c'' := 0) (s'' := 0) 19 0 0 hb2 (fun n => rfl) ?_
    cases hb3 : Op.ifCond.holds .ne ((g 35 3) &&& (2 : Int32)) with
    | true =>
      rw [hb3] at h
      simp only [cond_true] at h
      refine iv_brt (mi' := 33) (pc' := 89) (ls' := [.ref 38, .ref 4, .int (0 : Int32), .int (2 : Int32)]) (st' := []) (A' := im_H g u o Y) (c' := 0) (s' := 0) (mi'' := 33) (pc'' := 68) (ls'' := [.ref 38, .ref 4, .int (0 : Int32), .int (2 : Int32)]) (st'' := []) (A'' := im_H g u o Y) (c'' := 0) (s'' := 0) 5 0 0 hb3 (fun n => rfl) ?_
      exact x33_r35_r1_2_ok (g := g)  h
    | false =>
      rw [hb3] at h
      simp only [cond_false] at h
      refine iv_brf (mi' := 33) (pc' := 89) (ls' := [.ref 38, .ref 4, .int (0 : Int32), .int (2 : Int32)]) (st' := []) (A' := im_H g u o Y) (c' := 0) (s' := 0) (mi'' := 33) (pc'' := 68) (ls'' := [.ref 38, .ref 4, .int (0 : Int32), .int (2 : Int32)]) (st'' := []) (A'' := im_H g u o Y) (c'' := 0) (s'' := 0) 5 0 0 hb3 (fun n => rfl) ?_
      refine iv_blk (mi' := 33) (pc' := 78) (ls' := [.ref 38, .ref 4, .int (0 : Int32), .int (2 : Int32)]) (st' := []) (A' := List.set (im_H g u o Y) 35 (.inr (3, List.set [.int 3, .ref 39, .int (g 35 2), .int (g 35 3)] 3 (.int ((g 35 3) ||| (2 : Int32)))))) (c' := 0) (s' := 0) 6 (fun n => rfl) ?_
      rw [im_f35_3]
      cases hc : x15_r1 (im_w g 35 3 ((g 35 3) ||| (2 : Int32))) (8 : Int32) (3 : Int32) (0 : Int32) with
      | none => rw [hc] at h; cases h
      | some q =>
        obtain ⟨v2, g2⟩ := q
        rw [hc] at h
        simp only [Option.bind_some] at h
        refine iv_cal (mi' := 33) (pc' := 86) (ls' := [.ref 38, .ref 4, .int (0 : Int32), .int (2 : Int32)]) (rest := []) (A' := im_H (im_w g 35 3 ((g 35 3) ||| (2 : Int32))) u o Y) (c' := 0) (s' := 0) (as := [.ref 4, .int (8 : Int32), .int (3 : Int32), .int (0 : Int32)]) (v := none) (A'' := im_H g2 u o Y) 6 15 (fun n => rfl) rfl (x15_r1_ok (g := (im_w g 35 3 ((g 35 3) ||| (2 : Int32)))) (a := (8 : Int32)) (b := (3 : Int32)) (c := (0 : Int32)) hc) ?_
        show iv_ev (iv_Xs L xs) 33 89 [.ref 38, .ref 4, .int (0 : Int32), .int (2 : Int32)] [] (im_H g2 u o Y) 0 0 _
        exact x33_r35_r1_2_ok (g := g2)  h
def x33_r35_r1 (g : im_M) : Option (Int32 × im_M) :=
  bif Op.ifCond.holds .ne ((g 35 3) &&& (1 : Int32)) then
    (x33_r35_r1_1 g )
  else
    (Option.bind (x15_r1 (im_w g 35 3 ((g 35 3) ||| (1 : Int32))) (7 : Int32) (3 : Int32) (0 : Int32)) (fun (_, g1) =>
      x33_r35_r1_1 g1 ))
set_option maxRecDepth 100000 in
set_option maxHeartbeats 4000000 in
theorem x33_r35_r1_ok {L : Nat} {xs : Nat → Int32} {g u mm : im_M} {o : Nat → Int64} {Y : iv_A} {ret : Int32} (h : x33_r35_r1 g  = some (ret, mm)) : iv_ev (iv_Xs L xs) 33 0 [.ref 38, .ref 4, .retAddr 0, .retAddr 0] [] (im_H g u o Y) 0 0 (.inl none, im_H mm u o Y) := by
  unfold x33_r35_r1 at h
  cases hb1 : Op.ifCond.holds .ne ((g 35 3) &&& (1 : Int32)) with
  | true =>
    rw [hb1] at h
    simp only [cond_true] at h
    refine iv_brt (mi' := 33) (pc' := 30) (ls' := [.ref 38, .ref 4, .retAddr 0, .retAddr 0]) (st' := []) (A' := im_H g u o Y) (c' := 0) (s' := 0) (mi'' := 33) (pc'' := 9) (ls'' := [.ref 38, .ref 4, .retAddr 0, .retAddr 0]) (st'' := []) (A'' := im_H g u o Y) (c'' := 0) (s'' := 0) 5 0 0 hb1 (fun n => rfl) ?_
    exact x33_r35_r1_1_ok (g := g)  h
  | false =>
    rw [hb1] at h
    simp only [cond_false] at h
    refine iv_brf (mi' := 33) (pc' := 30) (ls' := [.ref 38, .ref 4, .retAddr 0, .retAddr 0]) (st' := []) (A' := im_H g u o Y) (c' := 0) (s' := 0) (mi'' := 33) (pc'' := 9) (ls'' := [.ref 38, .ref 4, .retAddr 0, .retAddr 0]) (st'' := []) (A'' := im_H g u o Y) (c'' := 0) (s'' := 0) 5 0 0 hb1 (fun n => rfl) ?_
    refine iv_blk (mi' := 33) (pc' := 19) (ls' := [.ref 38, .ref 4, .retAddr 0, .retAddr 0]) (st' := []) (A' := List.set (im_H g u o Y) 35 (.inr (3, List.set [.int 3, .ref 39, .int (g 35 2), .int (g 35 3)] 3 (.int ((g 35 3) ||| (1 : Int32)))))) (c' := 0) (s' := 0) 6 (fun n => rfl) ?_
    rw [im_f35_3]
    cases hc : x15_r1 (im_w g 35 3 ((g 35 3) ||| (1 : Int32))) (7 : Int32) (3 : Int32) (0 : Int32) with
    | none => rw [hc] at h; cases h
    | some q =>
      obtain ⟨v1, g1⟩ := q
      rw [hc] at h
      simp only [Option.bind_some] at h
      refine iv_cal (mi' := 33) (pc' := 27) (ls' := [.ref 38, .ref 4, .retAddr 0, .retAddr 0]) (rest := []) (A' := im_H (im_w g 35 3 ((g 35 3) ||| (1 : Int32))) u o Y) (c' := 0) (s' := 0) (as := [.ref 4, .int (7 : Int32), .int (3 : Int32), .int (0 : Int32)]) (v := none) (A'' := im_H g1 u o Y) 6 15 (fun n => rfl) rfl (x15_r1_ok (g := (im_w g 35 3 ((g 35 3) ||| (1 : Int32)))) (a := (7 : Int32)) (b := (3 : Int32)) (c := (0 : Int32)) hc) ?_
      show iv_ev (iv_Xs L xs) 33 30 [.ref 38, .ref 4, .retAddr 0, .retAddr 0] [] (im_H g1 u o Y) 0 0 _
      exact x33_r35_r1_1_ok (g := g1)  h
