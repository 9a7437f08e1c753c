/-! Journal, Links, Trial (printed by wip/gen/lay1.py) -/
def x17_40 (g : im_M) (a : Int32) : Option (Int32 × im_M) :=
  bif Op.ifCond.holds .ge (a ^^^ (40 : Int32)) then
    (some ((a - a / (40 : Int32) * (40 : Int32)), g))
  else
    (bif Op.ifCond.holds .eq (a - a / (40 : Int32) * (40 : Int32)) then
      (some ((a - a / (40 : Int32) * (40 : Int32)), g))
    else
      (some (((a - a / (40 : Int32) * (40 : Int32)) + (40 : Int32)), g)))
set_option maxRecDepth 100000 in
set_option maxHeartbeats 4000000 in
theorem x17_40_ok {L : Nat} {xs : Nat → Int32} {g u mm : im_M} {o : Nat → Int64} {Y : iv_A} {a ret : Int32} (h : x17_40 g a = some (ret, mm)) : iv_ev (iv_Xs L xs) 17 0 [.int a, .int (40 : Int32), .retAddr 0] [] (im_H g u o Y) 0 0 (.inl (some (.int ret)), im_H mm u o Y) := by
  unfold x17_40 at h
  cases hb1 : Op.ifCond.holds .ge (a ^^^ (40 : Int32)) with
  | true =>
    rw [hb1] at h
    simp only [cond_true] at h
    refine iv_brt (mi' := 17) (pc' := 18) (ls' := [.int a, .int (40 : Int32), .int (a - a / (40 : Int32) * (40 : Int32))]) (st' := []) (A' := im_H g u o Y) (c' := 0) (s' := 0) (mi'' := 17) (pc'' := 10) (ls'' := [.int a, .int (40 : Int32), .int (a - a / (40 : Int32) * (40 : Int32))]) (st'' := []) (A'' := im_H g u o Y) (c'' := 0) (s'' := 0) 8 0 0 hb1 (fun n => rfl) ?_
    cases h
    exact iv_ret 2 (fun n => rfl)
  | false =>
    rw [hb1] at h
    simp only [cond_false] at h
    refine iv_brf (mi' := 17) (pc' := 18) (ls' := [.int a, .int (40 : Int32), .int (a - a / (40 : Int32) * (40 : Int32))]) (st' := []) (A' := im_H g u o Y) (c' := 0) (s' := 0) (mi'' := 17) (pc'' := 10) (ls'' := [.int a, .int (40 : Int32), .int (a - a / (40 : Int32) * (40 : Int32))]) (st'' := []) (A'' := im_H g u o Y) (c'' := 0) (s'' := 0) 8 0 0 hb1 (fun n => rfl) ?_
    cases hb2 : Op.ifCond.holds .eq (a - a / (40 : Int32) * (40 : Int32)) with
    | true =>
      rw [hb2] at h
      simp only [cond_true] at h
      refine iv_brt (mi' := 17) (pc' := 18) (ls' := [.int a, .int (40 : Int32), .int (a - a / (40 : Int32) * (40 : Int32))]) (st' := []) (A' := im_H g u o Y) (c' := 0) (s' := 0) (mi'' := 17) (pc'' := 14) (ls'' := [.int a, .int (40 : Int32), .int (a - a / (40 : Int32) * (40 : Int32))]) (st'' := []) (A'' := im_H g u o Y) (c'' := 0) (s'' := 0) 2 0 0 hb2 (fun n => rfl) ?_
      cases h
      exact iv_ret 2 (fun n => rfl)
    | false =>
      rw [hb2] at h
      simp only [cond_false] at h
      refine iv_brf (mi' := 17) (pc' := 18) (ls' := [.int a, .int (40 : Int32), .int (a - a / (40 : Int32) * (40 : Int32))]) (st' := []) (A' := im_H g u o Y) (c' := 0) (s' := 0) (mi'' := 17) (pc'' := 14) (ls'' := [.int a, .int (40 : Int32), .int (a - a / (40 : Int32) * (40 : Int32))]) (st'' := []) (A'' := im_H g u o Y) (c'' := 0) (s'' := 0) 2 0 0 hb2 (fun n => rfl) ?_
      cases h
      exact iv_ret 4 (fun n => rfl)
def x16 (g : im_M) (a : Int32) : Option (Int32 × im_M) :=
  Option.bind (x17_40 g a) (fun (v1, g1) =>
    some ((v1 * (4 : Int32)), g1))
set_option maxRecDepth 100000 in
set_option maxHeartbeats 4000000 in
theorem x16_ok {L : Nat} {xs : Nat → Int32} {g u mm : im_M} {o : Nat → Int64} {Y : iv_A} {a ret : Int32} (h : x16 g a = some (ret, mm)) : iv_ev (iv_Xs L xs) 16 0 [.int a] [] (im_H g u o Y) 0 0 (.inl (some (.int ret)), im_H mm u o Y) := by
  unfold x16 at h
  cases hc : x17_40 g a with
  | none => rw [hc] at h; cases h
  | some q =>
    obtain ⟨v1, g1⟩ := q
    rw [hc] at h
    simp only [Option.bind_some] at h
    refine iv_cal (mi' := 16) (pc' := 3) (ls' := [.int a]) (rest := []) (A' := im_H g u o Y) (c' := 0) (s' := 0) (as := [.int a, .int (40 : Int32)]) (v := some (.int v1)) (A'' := im_H g1 u o Y) 3 17 (fun n => rfl) rfl (x17_40_ok (g := g) (a := a) hc) ?_
    show iv_ev (iv_Xs L xs) 16 6 [.int a] [.int v1] (im_H g1 u o Y) 0 0 _
    cases h
    exact iv_ret 3 (fun n => rfl)
def x15_r1 (g : im_M) (a : Int32) (b : Int32) (c : Int32) : Option (Int32 × im_M) :=
  Option.bind (x16 g (g 1 2)) (fun (v1, g1) =>
    bif iv_in v1 160 then
      bif iv_in (v1 + (1 : Int32)) 160 then
        bif iv_in (v1 + (2 : Int32)) 160 then
          bif iv_in (v1 + (3 : Int32)) 160 then
            some (0, (im_w (im_w (im_w (im_w (im_w g1 2 (v1).toNatClampNeg (g1 1 1)) 2 ((v1 + (1 : Int32))).toNatClampNeg a) 2 ((v1 + (2 : Int32))).toNatClampNeg b) 2 ((v1 + (3 : Int32))).toNatClampNeg c) 1 2 ((g1 1 2) + (1 : Int32))))
          else none
        else none
      else none
    else none)
set_option maxRecDepth 100000 in
set_option maxHeartbeats 4000000 in
theorem x15_r1_ok {L : Nat} {xs : Nat → Int32} {g u mm : im_M} {o : Nat → Int64} {Y : iv_A} {a b c ret : Int32} (h : x15_r1 g a b c = some (ret, mm)) : iv_ev (iv_Xs L xs) 15 0 [.ref 4, .int a, .int b, .int c, .retAddr 0] [] (im_H g u o Y) 0 0 (.inl none, im_H mm u o Y) := by
  unfold x15_r1 at h
  cases hc : x16 g (g 1 2) with
  | none => rw [hc] at h; cases h
  | some q =>
    obtain ⟨v1, g1⟩ := q
    rw [hc] at h
    simp only [Option.bind_some] at h
    refine iv_cal (mi' := 15) (pc' := 4) (ls' := [.ref 4, .int a, .int b, .int c, .retAddr 0]) (rest := []) (A' := im_H g u o Y) (c' := 0) (s' := 0) (as := [.int (g 1 2)]) (v := some (.int v1)) (A'' := im_H g1 u o Y) 3 16 (fun n => rfl) rfl (x16_ok (g := g) (a := (g 1 2)) hc) ?_
    show iv_ev (iv_Xs L xs) 15 7 [.ref 4, .int a, .int b, .int c, .retAddr 0] [.int v1] (im_H g1 u o Y) 0 0 _
    cases hb1 : iv_in v1 160 with
    | false => rw [hb1] at h; cases h
    | true =>
      rw [hb1] at h
      simp only [cond_true] at h
      refine iv_chk (mi' := 15) (pc' := 20) (ls' := [.ref 4, .int a, .int b, .int c, .int v1]) (st' := []) (A' := List.set (im_H g1 u o Y) 2 (.inl (0, 160, .inl (upd (g1 2) (v1).toNatClampNeg (g1 1 1))))) (c' := 0) (s' := 0) 7 hb1 (fun n => rfl) ?_
      rw [im_a2]
      cases hb2 : iv_in (v1 + (1 : Int32)) 160 with
      | false => rw [hb2] at h; cases h
      | true =>
        rw [hb2] at h
        simp only [cond_true] at h
        refine iv_chk (mi' := 15) (pc' := 30) (ls' := [.ref 4, .int a, .int b, .int c, .int v1]) (st' := []) (A' := List.set (im_H (im_w g1 2 (v1).toNatClampNeg (g1 1 1)) u o Y) 2 (.inl (0, 160, .inl (upd ((im_w g1 2 (v1).toNatClampNeg (g1 1 1)) 2) ((v1 + (1 : Int32))).toNatClampNeg a)))) (c' := 0) (s' := 0) 7 hb2 (fun n => rfl) ?_
        rw [im_a2]
        cases hb3 : iv_in (v1 + (2 : Int32)) 160 with
        | false => rw [hb3] at h; cases h
        | true =>
          rw [hb3] at h
          simp only [cond_true] at h
          refine iv_chk (mi' := 15) (pc' := 40) (ls' := [.ref 4, .int a, .int b, .int c, .int v1]) (st' := []) (A' := List.set (im_H (im_w (im_w g1 2 (v1).toNatClampNeg (g1 1 1)) 2 ((v1 + (1 : Int32))).toNatClampNeg a) u o Y) 2 (.inl (0, 160, .inl (upd ((im_w (im_w g1 2 (v1).toNatClampNeg (g1 1 1)) 2 ((v1 + (1 : Int32))).toNatClampNeg a) 2) ((v1 + (2 : Int32))).toNatClampNeg b)))) (c' := 0) (s' := 0) 7 hb3 (fun n => rfl) ?_
          rw [im_a2]
          cases hb4 : iv_in (v1 + (3 : Int32)) 160 with
          | false => rw [hb4] at h; cases h
          | true =>
            rw [hb4] at h
            simp only [cond_true] at h
            refine iv_chk (mi' := 15) (pc' := 50) (ls' := [.ref 4, .int a, .int b, .int c, .int v1]) (st' := []) (A' := List.set (im_H (im_w (im_w (im_w g1 2 (v1).toNatClampNeg (g1 1 1)) 2 ((v1 + (1 : Int32))).toNatClampNeg a) 2 ((v1 + (2 : Int32))).toNatClampNeg b) u o Y) 2 (.inl (0, 160, .inl (upd ((im_w (im_w (im_w g1 2 (v1).toNatClampNeg (g1 1 1)) 2 ((v1 + (1 : Int32))).toNatClampNeg a) 2 ((v1 + (2 : Int32))).toNatClampNeg b) 2) ((v1 + (3 : Int32))).toNatClampNeg c)))) (c' := 0) (s' := 0) 7 hb4 (fun n => rfl) ?_
            rw [im_a2]
            refine iv_blk (mi' := 15) (pc' := 60) (ls' := [.ref 4, .int a, .int b, .int c, .int v1]) (st' := []) (A' := List.set (im_H (im_w (im_w (im_w (im_w g1 2 (v1).toNatClampNeg (g1 1 1)) 2 ((v1 + (1 : Int32))).toNatClampNeg a) 2 ((v1 + (2 : Int32))).toNatClampNeg b) 2 ((v1 + (3 : Int32))).toNatClampNeg c) u o Y) 1 (.inr (1, List.set [.ref 5, .int ((im_w (im_w (im_w (im_w g1 2 (v1).toNatClampNeg (g1 1 1)) 2 ((v1 + (1 : Int32))).toNatClampNeg a) 2 ((v1 + (2 : Int32))).toNatClampNeg b) 2 ((v1 + (3 : Int32))).toNatClampNeg c) 1 1), .int ((im_w (im_w (im_w (im_w g1 2 (v1).toNatClampNeg (g1 1 1)) 2 ((v1 + (1 : Int32))).toNatClampNeg a) 2 ((v1 + (2 : Int32))).toNatClampNeg b) 2 ((v1 + (3 : Int32))).toNatClampNeg c) 1 2)] 2 (.int ((g1 1 2) + (1 : Int32)))))) (c' := 0) (s' := 0) 6 (fun n => rfl) ?_
            rw [im_f1_2]
            cases h
            exact iv_ret 1 (fun n => rfl)
def x78_r1_1 (g : im_M) (y0 : Int32) (y1 : Int32) : Option (Int32 × im_M) :=
  bif (y1 == 0 || y1 == 1) then some (y1, g) else none
set_option maxRecDepth 100000 in
set_option maxHeartbeats 4000000 in
theorem x78_r1_1_ok {L : Nat} {xs : Nat → Int32} {g u mm : im_M} {o : Nat → Int64} {Y : iv_A} {y0 y1 ret : Int32} (h : x78_r1_1 g y0 y1 = some (ret, mm)) : iv_ev (iv_Xs L xs) 78 28 [.ref 4, .int y0] [.int y1] (im_H g u o Y) 0 0 (.inl (some (.int ret)), im_H mm u o Y) := by
  unfold x78_r1_1 at h
  cases hb4 : (y1 == 0 || y1 == 1) with
  | false => rw [hb4] at h; cases h
  | true =>
    rw [hb4] at h
    cases h
    exact iv_retc 1 hb4 (fun n => rfl)
def x78_r1 (g : im_M) (a : Int32) : Option (Int32 × im_M) :=
  bif Op.ifCond.holds .lt a then
    (x78_r1_1 g a (0 : Int32))
  else
    (bif Op.if_icmp.holds .ge a (g 1 2) then
      (x78_r1_1 g a (0 : Int32))
    else
      (bif Op.if_icmp.holds .lt a ((g 1 2) - (40 : Int32)) then
        (x78_r1_1 g a (0 : Int32))
      else
        (x78_r1_1 g a (1 : Int32))))
set_option maxRecDepth 100000 in
set_option maxHeartbeats 4000000 in
theorem x78_r1_ok {L : Nat} {xs : Nat → Int32} {g u mm : im_M} {o : Nat → Int64} {Y : iv_A} {a ret : Int32} (h : x78_r1 g a = some (ret, mm)) : iv_ev (iv_Xs L xs) 78 0 [.ref 4, .int a] [] (im_H g u o Y) 0 0 (.inl (some (.int ret)), im_H mm u o Y) := by
  unfold x78_r1 at h
  cases hb1 : Op.ifCond.holds .lt a with
  | true =>
    rw [hb1] at h
    simp only [cond_true] at h
    refine iv_brt (mi' := 78) (pc' := 27) (ls' := [.ref 4, .int a]) (st' := []) (A' := im_H g u o Y) (c' := 0) (s' := 0) (mi'' := 78) (pc'' := 4) (ls'' := [.ref 4, .int a]) (st'' := []) (A'' := im_H g u o Y) (c'' := 0) (s'' := 0) 2 0 0 hb1 (fun n => rfl) ?_
    exact iv_blk 1 (fun n => rfl) (x78_r1_1_ok (g := g) (y0 := a) (y1 := (0 : Int32)) h)
  | false =>
    rw [hb1] at h
    simp only [cond_false] at h
    refine iv_brf (mi' := 78) (pc' := 27) (ls' := [.ref 4, .int a]) (st' := []) (A' := im_H g u o Y) (c' := 0) (s' := 0) (mi'' := 78) (pc'' := 4) (ls'' := [.ref 4, .int a]) (st'' := []) (A'' := im_H g u o Y) (c'' := 0) (s'' := 0) 2 0 0 hb1 (fun n => rfl) ?_
    cases hb2 : Op.if_icmp.holds .ge a (g 1 2) with
    | true =>
      rw [hb2] at h
      simp only [cond_true] at h
      refine iv_brt (mi' := 78) (pc' := 27) (ls' := [.ref 4, .int a]) (st' := []) (A' := im_H g u o Y) (c' := 0) (s' := 0) (mi'' := 78) (pc'' := 12) (ls'' := [.ref 4, .int a]) (st'' := []) (A'' := im_H g u o Y) (c'' := 0) (s'' := 0) 4 0 0 hb2 (fun n => rfl) ?_
      exact iv_blk 1 (fun n => rfl) (x78_r1_1_ok (g := g) (y0 := a) (y1 := (0 : Int32)) h)
    | false =>
      rw [hb2] at h
      simp only [cond_false] at h
      refine iv_brf (mi' := 78) (pc' := 27) (ls' := [.ref 4, .int a]) (st' := []) (A' := im_H g u o Y) (c' := 0) (s' := 0) (mi'' := 78) (pc'' := 12) (ls'' := [.ref 4, .int a]) (st'' := []) (A'' := im_H g u o Y) (c'' := 0) (s'' := 0) 4 0 0 hb2 (fun n => rfl) ?_
      cases hb3 : Op.if_icmp.holds .lt a ((g 1 2) - (40 : Int32)) with
      | true =>
        rw [hb3] at h
        simp only [cond_true] at h
        refine iv_brt (mi' := 78) (pc' := 27) (ls' := [.ref 4, .int a]) (st' := []) (A' := im_H g u o Y) (c' := 0) (s' := 0) (mi'' := 78) (pc'' := 23) (ls'' := [.ref 4, .int a]) (st'' := []) (A'' := im_H g u o Y) (c'' := 0) (s'' := 0) 6 0 0 hb3 (fun n => rfl) ?_
        exact iv_blk 1 (fun n => rfl) (x78_r1_1_ok (g := g) (y0 := a) (y1 := (0 : Int32)) h)
      | false =>
        rw [hb3] at h
        simp only [cond_false] at h
        refine iv_brf (mi' := 78) (pc' := 27) (ls' := [.ref 4, .int a]) (st' := []) (A' := im_H g u o Y) (c' := 0) (s' := 0) (mi'' := 78) (pc'' := 23) (ls'' := [.ref 4, .int a]) (st'' := []) (A'' := im_H g u o Y) (c'' := 0) (s'' := 0) 6 0 0 hb3 (fun n => rfl) ?_
        exact iv_blk 2 (fun n => rfl) (x78_r1_1_ok (g := g) (y0 := a) (y1 := (1 : Int32)) h)
def x80_r1 (g : im_M) (a : Int32) (b : Int32) : Option (Int32 × im_M) :=
  Option.bind (x16 g a) (fun (v1, g1) =>
    bif iv_in (v1 + b) 160 then
      some (((g1 2) ((v1 + b)).toNatClampNeg), g1)
    else none)
set_option maxRecDepth 100000 in
set_option maxHeartbeats 4000000 in
theorem x80_r1_ok {L : Nat} {xs : Nat → Int32} {g u mm : im_M} {o : Nat → Int64} {Y : iv_A} {a b ret : Int32} (h : x80_r1 g a b = some (ret, mm)) : iv_ev (iv_Xs L xs) 80 0 [.ref 4, .int a, .int b] [] (im_H g u o Y) 0 0 (.inl (some (.int ret)), im_H mm u o Y) := by
  unfold x80_r1 at h
  cases hc : x16 g a with
  | none => rw [hc] at h; cases h
  | some q =>
    obtain ⟨v1, g1⟩ := q
    rw [hc] at h
    simp only [Option.bind_some] at h
    refine iv_cal (mi' := 80) (pc' := 5) (ls' := [.ref 4, .int a, .int b]) (rest := [.ref 5]) (A' := im_H g u o Y) (c' := 0) (s' := 0) (as := [.int a]) (v := some (.int v1)) (A'' := im_H g1 u o Y) 4 16 (fun n => rfl) rfl (x16_ok (g := g) (a := a) hc) ?_
    show iv_ev (iv_Xs L xs) 80 8 [.ref 4, .int a, .int b] [.int v1, .ref 5] (im_H g1 u o Y) 0 0 _
    cases hb1 : iv_in (v1 + b) 160 with
    | false => rw [hb1] at h; cases h
    | true =>
      rw [hb1] at h
      simp only [cond_true] at h
      refine iv_chk (mi' := 80) (pc' := 11) (ls' := [.ref 4, .int a, .int b]) (st' := [.int ((g1 2) ((v1 + b)).toNatClampNeg)]) (A' := im_H g1 u o Y) (c' := 0) (s' := 0) 3 hb1 (fun n => rfl) ?_
      cases h
      exact iv_ret 1 (fun n => rfl)
def x30_8 (g : im_M) (y0 : Int32) (y1 : Int32) (y2 : Int32) : Option (Int32 × im_M) :=
  some (y2, g)
set_option maxRecDepth 100000 in
set_option maxHeartbeats 4000000 in
theorem x30_8_ok {L : Nat} {xs : Nat → Int32} {g u mm : im_M} {o : Nat → Int64} {Y : iv_A} {y0 y1 y2 ret : Int32} (h : x30_8 g y0 y1 y2 = some (ret, mm)) : iv_ev (iv_Xs L xs) 30 29 [.int y0, .int y1, .int y2, .int (7 : Int32)] [] (im_H g u o Y) 0 0 (.inl (some (.int ret)), im_H mm u o Y) := by
  unfold x30_8 at h
  cases h
  exact iv_ret 7 (fun n => rfl)
def x30_7 (g : im_M) (y0 : Int32) (y1 : Int32) (y2 : Int32) : Option (Int32 × im_M) :=
  bif Op.if_icmp.holds .le (y2 <<< ((1 : Int32) &&& 31)) (255 : Int32) then
    (x30_8 g y0 y1 (y2 <<< ((1 : Int32) &&& 31)))
  else
    (x30_8 g y0 y1 ((y2 <<< ((1 : Int32) &&& 31)) ^^^ (263 : Int32)))
set_option maxRecDepth 100000 in
set_option maxHeartbeats 4000000 in
theorem x30_7_ok {L : Nat} {xs : Nat → Int32} {g u mm : im_M} {o : Nat → Int64} {Y : iv_A} {y0 y1 y2 ret : Int32} (h : x30_7 g y0 y1 y2 = some (ret, mm)) : iv_ev (iv_Xs L xs) 30 29 [.int y0, .int y1, .int y2, .int (6 : Int32)] [] (im_H g u o Y) 0 0 (.inl (some (.int ret)), im_H mm u o Y) := by
  unfold x30_7 at h
  cases hb8 : Op.if_icmp.holds .le (y2 <<< ((1 : Int32) &&& 31)) (255 : Int32) with
  | true =>
    rw [hb8] at h
    simp only [cond_true] at h
    refine iv_brt (mi' := 30) (pc' := 29) (ls' := [.int y0, .int y1, .int (y2 <<< ((1 : Int32) &&& 31)), .int (7 : Int32)]) (st' := []) (A' := im_H g u o Y) (c' := 0) (s' := 0) (mi'' := 30) (pc'' := 23) (ls'' := [.int y0, .int y1, .int (y2 <<< ((1 : Int32) &&& 31)), .int (7 : Int32)]) (st'' := []) (A'' := im_H g u o Y) (c'' := 0) (s'' := 0) 12 0 0 hb8 (fun n => rfl) ?_
    exact x30_8_ok (g := g) (y0 := y0) (y1 := y1) (y2 := (y2 <<< ((1 : Int32) &&& 31))) h
  | false =>
    rw [hb8] at h
    simp only [cond_false] at h
    refine iv_brf (mi' := 30) (pc' := 29) (ls' := [.int y0, .int y1, .int (y2 <<< ((1 : Int32) &&& 31)), .int (7 : Int32)]) (st' := []) (A' := im_H g u o Y) (c' := 0) (s' := 0) (mi'' := 30) (pc'' := 23) (ls'' := [.int y0, .int y1, .int (y2 <<< ((1 : Int32) &&& 31)), .int (7 : Int32)]) (st'' := []) (A'' := im_H g u o Y) (c'' := 0) (s'' := 0) 12 0 0 hb8 (fun n => rfl) ?_
    exact iv_blk 4 (fun n => rfl) (x30_8_ok (g := g) (y0 := y0) (y1 := y1) (y2 := ((y2 <<< ((1 : Int32) &&& 31)) ^^^ (263 : Int32))) h)
def x30_6 (g : im_M) (y0 : Int32) (y1 : Int32) (y2 : Int32) : Option (Int32 × im_M) :=
  bif Op.if_icmp.holds .le (y2 <<< ((1 : Int32) &&& 31)) (255 : Int32) then
    (x30_7 g y0 y1 (y2 <<< ((1 : Int32) &&& 31)))
  else
    (x30_7 g y0 y1 ((y2 <<< ((1 : Int32) &&& 31)) ^^^ (263 : Int32)))
set_option maxRecDepth 100000 in
set_option maxHeartbeats 4000000 in
theorem x30_6_ok {L : Nat} {xs : Nat → Int32} {g u mm : im_M} {o : Nat → Int64} {Y : iv_A} {y0 y1 y2 ret : Int32} (h : x30_6 g y0 y1 y2 = some (ret, mm)) : iv_ev (iv_Xs L xs) 30 29 [.int y0, .int y1, .int y2, .int (5 : Int32)] [] (im_H g u o Y) 0 0 (.inl (some (.int ret)), im_H mm u o Y) := by
  unfold x30_6 at h
  cases hb7 : Op.if_icmp.holds .le (y2 <<< ((1 : Int32) &&& 31)) (255 : Int32) with
  | true =>
    rw [hb7] at h
    simp only [cond_true] at h
    refine iv_brt (mi' := 30) (pc' := 29) (ls' := [.int y0, .int y1, .int (y2 <<< ((1 : Int32) &&& 31)), .int (6 : Int32)]) (st' := []) (A' := im_H g u o Y) (c' := 0) (s' := 0) (mi'' := 30) (pc'' := 23) (ls'' := [.int y0, .int y1, .int (y2 <<< ((1 : Int32) &&& 31)), .int (6 : Int32)]) (st'' := []) (A'' := im_H g u o Y) (c'' := 0) (s'' := 0) 12 0 0 hb7 (fun n => rfl) ?_
    exact x30_7_ok (g := g) (y0 := y0) (y1 := y1) (y2 := (y2 <<< ((1 : Int32) &&& 31))) h
  | false =>
    rw [hb7] at h
    simp only [cond_false] at h
    refine iv_brf (mi' := 30) (pc' := 29) (ls' := [.int y0, .int y1, .int (y2 <<< ((1 : Int32) &&& 31)), .int (6 : Int32)]) (st' := []) (A' := im_H g u o Y) (c' := 0) (s' := 0) (mi'' := 30) (pc'' := 23) (ls'' := [.int y0, .int y1, .int (y2 <<< ((1 : Int32) &&& 31)), .int (6 : Int32)]) (st'' := []) (A'' := im_H g u o Y) (c'' := 0) (s'' := 0) 12 0 0 hb7 (fun n => rfl) ?_
    exact iv_blk 4 (fun n => rfl) (x30_7_ok (g := g) (y0 := y0) (y1 := y1) (y2 := ((y2 <<< ((1 : Int32) &&& 31)) ^^^ (263 : Int32))) h)
def x30_5 (g : im_M) (y0 : Int32) (y1 : Int32) (y2 : Int32) : Option (Int32 × im_M) :=
  bif Op.if_icmp.holds .le (y2 <<< ((1 : Int32) &&& 31)) (255 : Int32) then
    (x30_6 g y0 y1 (y2 <<< ((1 : Int32) &&& 31)))
  else
    (x30_6 g y0 y1 ((y2 <<< ((1 : Int32) &&& 31)) ^^^ (263 : Int32)))
set_option maxRecDepth 100000 in
set_option maxHeartbeats 4000000 in
theorem x30_5_ok {L : Nat} {xs : Nat → Int32} {g u mm : im_M} {o : Nat → Int64} {Y : iv_A} {y0 y1 y2 ret : Int32} (h : x30_5 g y0 y1 y2 = some (ret, mm)) : iv_ev (iv_Xs L xs) 30 29 [.int y0, .int y1, .int y2, .int (4 : Int32)] [] (im_H g u o Y) 0 0 (.inl (some (.int ret)), im_H mm u o Y) := by
  unfold x30_5 at h
  cases hb6 : Op.if_icmp.holds .le (y2 <<< ((1 : Int32) &&& 31)) (255 : Int32) with
  | true =>
    rw [hb6] at h
    simp only [cond_true] at h
    refine iv_brt (mi' := 30) (pc' := 29) (ls' := [.int y0, .int y1, .int (y2 <<< ((1 : Int32) &&& 31)), .int (5 : Int32)]) (st' := []) (A' := im_H g u o Y) (c' := 0) (s' := 0) (mi'' := 30) (pc'' := 23) (ls'' := [.int y0, .int y1, .int (y2 <<< ((1 : Int32) &&& 31)), .int (5 : Int32)]) (st'' := []) (A'' := im_H g u o Y) (c'' := 0) (s'' := 0) 12 0 0 hb6 (fun n => rfl) ?_
    exact x30_6_ok (g := g) (y0 := y0) (y1 := y1) (y2 := (y2 <<< ((1 : Int32) &&& 31))) h
  | false =>
    rw [hb6] at h
    simp only [cond_false] at h
    refine iv_brf (mi' := 30) (pc' := 29) (ls' := [.int y0, .int y1, .int (y2 <<< ((1 : Int32) &&& 31)), .int (5 : Int32)]) (st' := []) (A' := im_H g u o Y) (c' := 0) (s' := 0) (mi'' := 30) (pc'' := 23) (ls'' := [.int y0, .int y1, .int (y2 <<< ((1 : Int32) &&& 31)), .int (5 : Int32)]) (st'' := []) (A'' := im_H g u o Y) (c'' := 0) (s'' := 0) 12 0 0 hb6 (fun n => rfl) ?_
    exact iv_blk 4 (fun n => rfl) (x30_6_ok (g := g) (y0 := y0) (y1 := y1) (y2 := ((y2 <<< ((1 : Int32) &&& 31)) ^^^ (263 : Int32))) h)
def x30_4 (g : im_M) (y0 : Int32) (y1 : Int32) (y2 : Int32) : Option (Int32 × im_M) :=
  bif Op.if_icmp.holds .le (y2 <<< ((1 : Int32) &&& 31)) (255 : Int32) then
    (x30_5 g y0 y1 (y2 <<< ((1 : Int32) &&& 31)))
  else
    (x30_5 g y0 y1 ((y2 <<< ((1 : Int32) &&& 31)) ^^^ (263 : Int32)))
set_option maxRecDepth 100000 in
set_option maxHeartbeats 4000000 in
theorem x30_4_ok {L : Nat} {xs : Nat → Int32} {g u mm : im_M} {o : Nat → Int64} {Y : iv_A} {y0 y1 y2 ret : Int32} (h : x30_4 g y0 y1 y2 = some (ret, mm)) : iv_ev (iv_Xs L xs) 30 29 [.int y0, .int y1, .int y2, .int (3 : Int32)] [] (im_H g u o Y) 0 0 (.inl (some (.int ret)), im_H mm u o Y) := by
  unfold x30_4 at h
  cases hb5 : Op.if_icmp.holds .le (y2 <<< ((1 : Int32) &&& 31)) (255 : Int32) with
  | true =>
    rw [hb5] at h
    simp only [cond_true] at h
    refine iv_brt (mi' := 30) (pc' := 29) (ls' := [.int y0, .int y1, .int (y2 <<< ((1 : Int32) &&& 31)), .int (4 : Int32)]) (st' := []) (A' := im_H g u o Y) (c' := 0) (s' := 0) (mi'' := 30) (pc'' := 23) (ls'' := [.int y0, .int y1, .int (y2 <<< ((1 : Int32) &&& 31)), .int (4 : Int32)]) (st'' := []) (A'' := im_H g u o Y) (c'' := 0) (s'' := 0) 12 0 0 hb5 (fun n => rfl) ?_
    exact x30_5_ok (g := g) (y0 := y0) (y1 := y1) (y2 := (y2 <<< ((1 : Int32) &&& 31))) h
  | false =>
    rw [hb5] at h
    simp only [cond_false] at h
    refine iv_brf (mi' := 30) (pc' := 29) (ls' := [.int y0, .int y1, .int (y2 <<< ((1 : Int32) &&& 31)), .int (4 : Int32)]) (st' := []) (A' := im_H g u o Y) (c' := 0) (s' := 0) (mi'' := 30) (pc'' := 23) (ls'' := [.int y0, .int y1, .int (y2 <<< ((1 : Int32) &&& 31)), .int (4 : Int32)]) (st'' := []) (A'' := im_H g u o Y) (c'' := 0) (s'' := 0) 12 0 0 hb5 (fun n => rfl) ?_
    exact iv_blk 4 (fun n => rfl) (x30_5_ok (g := g) (y0 := y0) (y1 := y1) (y2 := ((y2 <<< ((1 : Int32) &&& 31)) ^^^ (263 : Int32))) h)
def x30_3 (g : im_M) (y0 : Int32) (y1 : Int32) (y2 : Int32) : Option (Int32 × im_M) :=
  bif Op.if_icmp.holds .le (y2 <<< ((1 : Int32) &&& 31)) (255 : Int32) then
    (x30_4 g y0 y1 (y2 <<< ((1 : Int32) &&& 31)))
  else
    (x30_4 g y0 y1 ((y2 <<< ((1 : Int32) &&& 31)) ^^^ (263 : Int32)))
set_option maxRecDepth 100000 in
set_option maxHeartbeats 4000000 in
theorem x30_3_ok {L : Nat} {xs : Nat → Int32} {g u mm : im_M} {o : Nat → Int64} {Y : iv_A} {y0 y1 y2 ret : Int32} (h : x30_3 g y0 y1 y2 = some (ret, mm)) : iv_ev (iv_Xs L xs) 30 29 [.int y0, .int y1, .int y2, .int (2 : Int32)] [] (im_H g u o Y) 0 0 (.inl (some (.int ret)), im_H mm u o Y) := by
  unfold x30_3 at h
  cases hb4 : Op.if_icmp.holds .le (y2 <<< ((1 : Int32) &&& 31)) (255 : Int32) with
  | true =>
    rw [hb4] at h
    simp only [cond_true] at h
    refine iv_brt (mi' := 30) (pc' := 29) (ls' := [.int y0, .int y1, .int (y2 <<< ((1 : Int32) &&& 31)), .int (3 : Int32)]) (st' := []) (A' := im_H g u o Y) (c' := 0) (s' := 0) (mi'' := 30) (pc'' := 23) (ls'' := [.int y0, .int y1, .int (y2 <<< ((1 : Int32) &&& 31)), .int (3 : Int32)]) (st'' := []) (A'' := im_H g u o Y) (c'' := 0) (s'' := 0) 12 0 0 hb4 (fun n => rfl) ?_
    exact x30_4_ok (g := g) (y0 := y0) (y1 := y1) (y2 := (y2 <<< ((1 : Int32) &&& 31))) h
  | false =>
    rw [hb4] at h
    simp only [cond_false] at h
    refine iv_brf (mi' := 30) (pc' := 29) (ls' := [.int y0, .int y1, .int (y2 <<< ((1 : Int32) &&& 31)), .int (3 : Int32)]) (st' := []) (A' := im_H g u o Y) (c' := 0) (s' := 0) (mi'' := 30) (pc'' := 23) (ls'' := [.int y0, .int y1, .int (y2 <<< ((1 : Int32) &&& 31)), .int (3 : Int32)]) (st'' := []) (A'' := im_H g u o Y) (c'' := 0) (s'' := 0) 12 0 0 hb4 (fun n => rfl) ?_
    exact iv_blk 4 (fun n => rfl) (x30_4_ok (g := g) (y0 := y0) (y1 := y1) (y2 := ((y2 <<< ((1 : Int32) &&& 31)) ^^^ (263 : Int32))) h)
def x30_2 (g : im_M) (y0 : Int32) (y1 : Int32) (y2 : Int32) : Option (Int32 × im_M) :=
  bif Op.if_icmp.holds .le (y2 <<< ((1 : Int32) &&& 31)) (255 : Int32) then
    (x30_3 g y0 y1 (y2 <<< ((1 : Int32) &&& 31)))
  else
    (x30_3 g y0 y1 ((y2 <<< ((1 : Int32) &&& 31)) ^^^ (263 : Int32)))
set_option maxRecDepth 100000 in
set_option maxHeartbeats 4000000 in
theorem x30_2_ok {L : Nat} {xs : Nat → Int32} {g u mm : im_M} {o : Nat → Int64} {Y : iv_A} {y0 y1 y2 ret : Int32} (h : x30_2 g y0 y1 y2 = some (ret, mm)) : iv_ev (iv_Xs L xs) 30 29 [.int y0, .int y1, .int y2, .int (1 : Int32)] [] (im_H g u o Y) 0 0 (.inl (some (.int ret)), im_H mm u o Y) := by
  unfold x30_2 at h
  cases hb3 : Op.if_icmp.holds .le (y2 <<< ((1 : Int32) &&& 31)) (255 : Int32) with
  | true =>
    rw [hb3] at h
    simp only [cond_true] at h
    refine iv_brt (mi' := 30) (pc' := 29) (ls' := [.int y0, .int y1, .int (y2 <<< ((1 : Int32) &&& 31)), .int (2 : Int32)]) (st' := []) (A' := im_H g u o Y) (c' := 0) (s' := 0) (mi'' := 30) (pc'' := 23) (ls'' := [.int y0, .int y1, .int (y2 <<< ((1 : Int32) &&& 31)), .int (2 : Int32)]) (st'' := []) (A'' := im_H g u o Y) (c'' := 0) (s'' := 0) 12 0 0 hb3 (fun n => rfl) ?_
    exact x30_3_ok (g := g) (y0 := y0) (y1 := y1) (y2 := (y2 <<< ((1 : Int32) &&& 31))) h
  | false =>
    rw [hb3] at h
    simp only [cond_false] at h
    refine iv_brf (mi' := 30) (pc' := 29) (ls' := [.int y0, .int y1, .int (y2 <<< ((1 : Int32) &&& 31)), .int (2 : Int32)]) (st' := []) (A' := im_H g u o Y) (c' := 0) (s' := 0) (mi'' := 30) (pc'' := 23) (ls'' := [.int y0, .int y1, .int (y2 <<< ((1 : Int32) &&& 31)), .int (2 : Int32)]) (st'' := []) (A'' := im_H g u o Y) (c'' := 0) (s'' := 0) 12 0 0 hb3 (fun n => rfl) ?_
    exact iv_blk 4 (fun n => rfl) (x30_3_ok (g := g) (y0 := y0) (y1 := y1) (y2 := ((y2 <<< ((1 : Int32) &&& 31)) ^^^ (263 : Int32))) h)
def x30_1 (g : im_M) (y0 : Int32) (y1 : Int32) (y2 : Int32) : Option (Int32 × im_M) :=
  bif Op.if_icmp.holds .le (y2 <<< ((1 : Int32) &&& 31)) (255 : Int32) then
    (x30_2 g y0 y1 (y2 <<< ((1 : Int32) &&& 31)))
  else
    (x30_2 g y0 y1 ((y2 <<< ((1 : Int32) &&& 31)) ^^^ (263 : Int32)))
set_option maxRecDepth 100000 in
set_option maxHeartbeats 4000000 in
theorem x30_1_ok {L : Nat} {xs : Nat → Int32} {g u mm : im_M} {o : Nat → Int64} {Y : iv_A} {y0 y1 y2 ret : Int32} (h : x30_1 g y0 y1 y2 = some (ret, mm)) : iv_ev (iv_Xs L xs) 30 29 [.int y0, .int y1, .int y2, .int (0 : Int32)] [] (im_H g u o Y) 0 0 (.inl (some (.int ret)), im_H mm u o Y) := by
  unfold x30_1 at h
  cases hb2 : Op.if_icmp.holds .le (y2 <<< ((1 : Int32) &&& 31)) (255 : Int32) with
  | true =>
    rw [hb2] at h
    simp only [cond_true] at h
    refine iv_brt (mi' := 30) (pc' := 29) (ls' := [.int y0, .int y1, .int (y2 <<< ((1 : Int32) &&& 31)), .int (1 : Int32)]) (st' := []) (A' := im_H g u o Y) (c' := 0) (s' := 0) (mi'' := 30) (pc'' := 23) (ls'' := [.int y0, .int y1, .int (y2 <<< ((1 : Int32) &&& 31)), .int (1 : Int32)]) (st'' := []) (A'' := im_H g u o Y) (c'' := 0) (s'' := 0) 12 0 0 hb2 (fun n => rfl) ?_
    exact x30_2_ok (g := g) (y0 := y0) (y1 := y1) (y2 := (y2 <<< ((1 : Int32) &&& 31))) h
  | false =>
    rw [hb2] at h
    simp only [cond_false] at h
    refine iv_brf (mi' := 30) (pc' := 29) (ls' := [.int y0, .int y1, .int (y2 <<< ((1 : Int32) &&& 31)), .int (1 : Int32)]) (st' := []) (A' := im_H g u o Y) (c' := 0) (s' := 0) (mi'' := 30) (pc'' := 23) (ls'' := [.int y0, .int y1, .int (y2 <<< ((1 : Int32) &&& 31)), .int (1 : Int32)]) (st'' := []) (A'' := im_H g u o Y) (c'' := 0) (s'' := 0) 12 0 0 hb2 (fun n => rfl) ?_
    exact iv_blk 4 (fun n => rfl) (x30_2_ok (g := g) (y0 := y0) (y1 := y1) (y2 := ((y2 <<< ((1 : Int32) &&& 31)) ^^^ (263 : Int32))) h)
def x30 (g : im_M) (a : Int32) (b : Int32) : Option (Int32 × im_M) :=
  bif Op.if_icmp.holds .le ((a ^^^ b) <<< ((1 : Int32) &&& 31)) (255 : Int32) then
    (x30_1 g a b ((a ^^^ b) <<< ((1 : Int32) &&& 31)))
  else
    (x30_1 g a b (((a ^^^ b) <<< ((1 : Int32) &&& 31)) ^^^ (263 : Int32)))
set_option maxRecDepth 100000 in
set_option maxHeartbeats 4000000 in
theorem x30_ok {L : Nat} {xs : Nat → Int32} {g u mm : im_M} {o : Nat → Int64} {Y : iv_A} {a b ret : Int32} (h : x30 g a b = some (ret, mm)) : iv_ev (iv_Xs L xs) 30 0 [.int a, .int b, .retAddr 0, .retAddr 0] [] (im_H g u o Y) 0 0 (.inl (some (.int ret)), im_H mm u o Y) := by
  unfold x30 at h
  cases hb1 : Op.if_icmp.holds .le ((a ^^^ b) <<< ((1 : Int32) &&& 31)) (255 : Int32) with
  | true =>
    rw [hb1] at h
    simp only [cond_true] at h
    refine iv_brt (mi' := 30) (pc' := 29) (ls' := [.int a, .int b, .int ((a ^^^ b) <<< ((1 : Int32) &&& 31)), .int (0 : Int32)]) (st' := []) (A' := im_H g u o Y) (c' := 0) (s' := 0) (mi'' := 30) (pc'' := 23) (ls'' := [.int a, .int b, .int ((a ^^^ b) <<< ((1 : Int32) &&& 31)), .int (0 : Int32)]) (st'' := []) (A'' := im_H g u o Y) (c'' := 0) (s'' := 0) 16 0 0 hb1 (fun n => rfl) ?_
    exact x30_1_ok (g := g) (y0 := a) (y1 := b) (y2 := ((a ^^^ b) <<< ((1 : Int32) &&& 31))) h
  | false =>
    rw [hb1] at h
    simp only [cond_false] at h
    refine iv_brf (mi' := 30) (pc' := 29) (ls' := [.int a, .int b, .int ((a ^^^ b) <<< ((1 : Int32) &&& 31)), .int (0 : Int32)]) (st' := []) (A' := im_H g u o Y) (c' := 0) (s' := 0) (mi'' := 30) (pc'' := 23) (ls'' := [.int a, .int b, .int ((a ^^^ b) <<< ((1 : Int32) &&& 31)), .int (0 : Int32)]) (st'' := []) (A'' := im_H g u o Y) (c'' := 0) (s'' := 0) 16 0 0 hb1 (fun n => rfl) ?_
    exact iv_blk 4 (fun n => rfl) (x30_1_ok (g := g) (y0 := a) (y1 := b) (y2 := (((a ^^^ b) <<< ((1 : Int32) &&& 31)) ^^^ (263 : Int32))) h)
def x29 (g : im_M) (a : Int32) (b : Int32) : Option (Int32 × im_M) :=
  Option.bind (x30 g (0 : Int32) a) (fun (v1, g1) =>
    Option.bind (x30 g1 v1 b) (fun (v2, g2) =>
      some (v2, g2)))
set_option maxRecDepth 100000 in
set_option maxHeartbeats 4000000 in
theorem x29_ok {L : Nat} {xs : Nat → Int32} {g u mm : im_M} {o : Nat → Int64} {Y : iv_A} {a b ret : Int32} (h : x29 g a b = some (ret, mm)) : iv_ev (iv_Xs L xs) 29 0 [.int a, .int b] [] (im_H g u o Y) 0 0 (.inl (some (.int ret)), im_H mm u o Y) := by
  unfold x29 at h
  cases hc : x30 g (0 : Int32) a with
  | none => rw [hc] at h; cases h
  | some q =>
    obtain ⟨v1, g1⟩ := q
    rw [hc] at h
    simp only [Option.bind_some] at h
    refine iv_cal (mi' := 29) (pc' := 2) (ls' := [.int a, .int b]) (rest := []) (A' := im_H g u o Y) (c' := 0) (s' := 0) (as := [.int (0 : Int32), .int a]) (v := some (.int v1)) (A'' := im_H g1 u o Y) 3 30 (fun n => rfl) rfl (x30_ok (g := g) (a := (0 : Int32)) (b := a) hc) ?_
    show iv_ev (iv_Xs L xs) 29 5 [.int a, .int b] [.int v1] (im_H g1 u o Y) 0 0 _
    cases hc : x30 g1 v1 b with
    | none => rw [hc] at h; cases h
    | some q =>
      obtain ⟨v2, g2⟩ := q
      rw [hc] at h
      simp only [Option.bind_some] at h
      refine iv_cal (mi' := 29) (pc' := 6) (ls' := [.int a, .int b]) (rest := []) (A' := im_H g1 u o Y) (c' := 0) (s' := 0) (as := [.int v1, .int b]) (v := some (.int v2)) (A'' := im_H g2 u o Y) 2 30 (fun n => rfl) rfl (x30_ok (g := g1) (a := v1) (b := b) hc) ?_
      show iv_ev (iv_Xs L xs) 29 9 [.int a, .int b] [.int v2] (im_H g2 u o Y) 0 0 _
      cases h
      exact iv_ret 1 (fun n => rfl)
def x28 (g : im_M) (a : Int32) (b : Int32) : Option (Int32 × im_M) :=
  Option.bind (x29 g (a &&& (255 : Int32)) b) (fun (v1, g1) =>
    some ((((a &&& (255 : Int32)) ||| (b <<< ((8 : Int32) &&& 31))) ||| (v1 <<< ((16 : Int32) &&& 31))), g1))
set_option maxRecDepth 100000 in
set_option maxHeartbeats 4000000 in
theorem x28_ok {L : Nat} {xs : Nat → Int32} {g u mm : im_M} {o : Nat → Int64} {Y : iv_A} {a b ret : Int32} (h : x28 g a b = some (ret, mm)) : iv_ev (iv_Xs L xs) 28 0 [.int a, .int b, .retAddr 0] [] (im_H g u o Y) 0 0 (.inl (some (.int ret)), im_H mm u o Y) := by
  unfold x28 at h
  cases hc : x29 g (a &&& (255 : Int32)) b with
  | none => rw [hc] at h; cases h
  | some q =>
    obtain ⟨v1, g1⟩ := q
    rw [hc] at h
    simp only [Option.bind_some] at h
    refine iv_cal (mi' := 28) (pc' := 14) (ls' := [.int a, .int b, .int (a &&& (255 : Int32))]) (rest := [.int ((a &&& (255 : Int32)) ||| (b <<< ((8 : Int32) &&& 31)))]) (A' := im_H g u o Y) (c' := 0) (s' := 0) (as := [.int (a &&& (255 : Int32)), .int b]) (v := some (.int v1)) (A'' := im_H g1 u o Y) 12 29 (fun n => rfl) rfl (x29_ok (g := g) (a := (a &&& (255 : Int32))) (b := b) hc) ?_
    show iv_ev (iv_Xs L xs) 28 17 [.int a, .int b, .int (a &&& (255 : Int32))] [.int v1, .int ((a &&& (255 : Int32)) ||| (b <<< ((8 : Int32) &&& 31)))] (im_H g1 u o Y) 0 0 _
    cases h
    exact iv_ret 4 (fun n => rfl)
def x27 (g : im_M) (a : Int32) : Option (Int32 × im_M) :=
  some (((a >>> ((8 : Int32) &&& 31)) &&& (255 : Int32)), g)
set_option maxRecDepth 100000 in
set_option maxHeartbeats 4000000 in
theorem x27_ok {L : Nat} {xs : Nat → Int32} {g u mm : im_M} {o : Nat → Int64} {Y : iv_A} {a ret : Int32} (h : x27 g a = some (ret, mm)) : iv_ev (iv_Xs L xs) 27 0 [.int a] [] (im_H g u o Y) 0 0 (.inl (some (.int ret)), im_H mm u o Y) := by
  unfold x27 at h
  cases h
  exact iv_ret 6 (fun n => rfl)
def x26_1 (g : im_M) (y0 : Int32) (y1 : Int32) (y2 : Int32) : Option (Int32 × im_M) :=
  bif (y2 == 0 || y2 == 1) then some (y2, g) else none
set_option maxRecDepth 100000 in
set_option maxHeartbeats 4000000 in
theorem x26_1_ok {L : Nat} {xs : Nat → Int32} {g u mm : im_M} {o : Nat → Int64} {Y : iv_A} {y0 y1 y2 ret : Int32} (h : x26_1 g y0 y1 y2 = some (ret, mm)) : iv_ev (iv_Xs L xs) 26 17 [.int y0, .int y1] [.int y2] (im_H g u o Y) 0 0 (.inl (some (.int ret)), im_H mm u o Y) := by
  unfold x26_1 at h
  cases hb2 : (y2 == 0 || y2 == 1) with
  | false => rw [hb2] at h; cases h
  | true =>
    rw [hb2] at h
    cases h
    exact iv_retc 1 hb2 (fun n => rfl)
def x26 (g : im_M) (a : Int32) (b : Int32) : Option (Int32 × im_M) :=
  Option.bind (x27 g a) (fun (v1, g1) =>
    Option.bind (x28 g1 b v1) (fun (v2, g2) =>
      bif Op.if_icmp.holds .ne a v2 then
        (x26_1 g2 a b (0 : Int32))
      else
        (x26_1 g2 a b (1 : Int32))))
set_option maxRecDepth 100000 in
set_option maxHeartbeats 4000000 in
theorem x26_ok {L : Nat} {xs : Nat → Int32} {g u mm : im_M} {o : Nat → Int64} {Y : iv_A} {a b ret : Int32} (h : x26 g a b = some (ret, mm)) : iv_ev (iv_Xs L xs) 26 0 [.int a, .int b] [] (im_H g u o Y) 0 0 (.inl (some (.int ret)), im_H mm u o Y) := by
  unfold x26 at h
  cases hc : x27 g a with
  | none => rw [hc] at h; cases h
  | some q =>
    obtain ⟨v1, g1⟩ := q
    rw [hc] at h
    simp only [Option.bind_some] at h
    refine iv_cal (mi' := 26) (pc' := 3) (ls' := [.int a, .int b]) (rest := [.int b, .int a]) (A' := im_H g u o Y) (c' := 0) (s' := 0) (as := [.int a]) (v := some (.int v1)) (A'' := im_H g1 u o Y) 4 27 (fun n => rfl) rfl (x27_ok (g := g) (a := a) hc) ?_
    show iv_ev (iv_Xs L xs) 26 6 [.int a, .int b] [.int v1, .int b, .int a] (im_H g1 u o Y) 0 0 _
    cases hc : x28 g1 b v1 with
    | none => rw [hc] at h; cases h
    | some q =>
      obtain ⟨v2, g2⟩ := q
      rw [hc] at h
      simp only [Option.bind_some] at h
      refine iv_cal (mi' := 26) (pc' := 6) (ls' := [.int a, .int b]) (rest := [.int a]) (A' := im_H g1 u o Y) (c' := 0) (s' := 0) (as := [.int b, .int v1]) (v := some (.int v2)) (A'' := im_H g2 u o Y) 1 28 (fun n => rfl) rfl (x28_ok (g := g1) (a := b) (b := v1) hc) ?_
      show iv_ev (iv_Xs L xs) 26 9 [.int a, .int b] [.int v2, .int a] (im_H g2 u o Y) 0 0 _
      cases hb1 : Op.if_icmp.holds .ne a v2 with
      | true =>
        rw [hb1] at h
        simp only [cond_true] at h
        refine iv_brt (mi' := 26) (pc' := 16) (ls' := [.int a, .int b]) (st' := []) (A' := im_H g2 u o Y) (c' := 0) (s' := 0) (mi'' := 26) (pc'' := 12) (ls'' := [.int a, .int b]) (st'' := []) (A'' := im_H g2 u o Y) (c'' := 0) (s'' := 0) 1 0 0 hb1 (fun n => rfl) ?_
        exact iv_blk 1 (fun n => rfl) (x26_1_ok (g := g2) (y0 := a) (y1 := b) (y2 := (0 : Int32)) h)
      | false =>
        rw [hb1] at h
        simp only [cond_false] at h
        refine iv_brf (mi' := 26) (pc' := 16) (ls' := [.int a, .int b]) (st' := []) (A' := im_H g2 u o Y) (c' := 0) (s' := 0) (mi'' := 26) (pc'' := 12) (ls'' := [.int a, .int b]) (st'' := []) (A'' := im_H g2 u o Y) (c'' := 0) (s'' := 0) 1 0 0 hb1 (fun n => rfl) ?_
        exact iv_blk 2 (fun n => rfl) (x26_1_ok (g := g2) (y0 := a) (y1 := b) (y2 := (1 : Int32)) h)
def x25_r5_0_0 (g : im_M) : Option (Int32 × im_M) :=
  some ((g 6 0), g)
set_option maxRecDepth 100000 in
set_option maxHeartbeats 4000000 in
theorem x25_r5_0_0_ok {L : Nat} {xs : Nat → Int32} {g u mm : im_M} {o : Nat → Int64} {Y : iv_A} {ret : Int32} (h : x25_r5_0_0 g  = some (ret, mm)) : iv_ev (iv_Xs L xs) 25 0 [.ref 8, .int (0 : Int32), .int (0 : Int32)] [] (im_H g u o Y) 0 0 (.inl (some (.int ret)), im_H mm u o Y) := by
  unfold x25_r5_0_0 at h
  cases h
  exact iv_ret 9 (fun n => rfl)
def x25_r5_0_1 (g : im_M) : Option (Int32 × im_M) :=
  some ((g 6 1), g)
set_option maxRecDepth 100000 in
set_option maxHeartbeats 4000000 in
theorem x25_r5_0_1_ok {L : Nat} {xs : Nat → Int32} {g u mm : im_M} {o : Nat → Int64} {Y : iv_A} {ret : Int32} (h : x25_r5_0_1 g  = some (ret, mm)) : iv_ev (iv_Xs L xs) 25 0 [.ref 8, .int (0 : Int32), .int (1 : Int32)] [] (im_H g u o Y) 0 0 (.inl (some (.int ret)), im_H mm u o Y) := by
  unfold x25_r5_0_1 at h
  cases h
  exact iv_ret 9 (fun n => rfl)
def x25_r5_0_2 (g : im_M) : Option (Int32 × im_M) :=
  some ((g 6 2), g)
set_option maxRecDepth 100000 in
set_option maxHeartbeats 4000000 in
theorem x25_r5_0_2_ok {L : Nat} {xs : Nat → Int32} {g u mm : im_M} {o : Nat → Int64} {Y : iv_A} {ret : Int32} (h : x25_r5_0_2 g  = some (ret, mm)) : iv_ev (iv_Xs L xs) 25 0 [.ref 8, .int (0 : Int32), .int (2 : Int32)] [] (im_H g u o Y) 0 0 (.inl (some (.int ret)), im_H mm u o Y) := by
  unfold x25_r5_0_2 at h
  cases h
  exact iv_ret 9 (fun n => rfl)
def x25_r5_0_3 (g : im_M) : Option (Int32 × im_M) :=
  some ((g 6 3), g)
set_option maxRecDepth 100000 in
set_option maxHeartbeats 4000000 in
theorem x25_r5_0_3_ok {L : Nat} {xs : Nat → Int32} {g u mm : im_M} {o : Nat → Int64} {Y : iv_A} {ret : Int32} (h : x25_r5_0_3 g  = some (ret, mm)) : iv_ev (iv_Xs L xs) 25 0 [.ref 8, .int (0 : Int32), .int (3 : Int32)] [] (im_H g u o Y) 0 0 (.inl (some (.int ret)), im_H mm u o Y) := by
  unfold x25_r5_0_3 at h
  cases h
  exact iv_ret 9 (fun n => rfl)
def x25_r5_1_0 (g : im_M) : Option (Int32 × im_M) :=
  some ((g 6 4), g)
set_option maxRecDepth 100000 in
set_option maxHeartbeats 4000000 in
theorem x25_r5_1_0_ok {L : Nat} {xs : Nat → Int32} {g u mm : im_M} {o : Nat → Int64} {Y : iv_A} {ret : Int32} (h : x25_r5_1_0 g  = some (ret, mm)) : iv_ev (iv_Xs L xs) 25 0 [.ref 8, .int (1 : Int32), .int (0 : Int32)] [] (im_H g u o Y) 0 0 (.inl (some (.int ret)), im_H mm u o Y) := by
  unfold x25_r5_1_0 at h
  cases h
  exact iv_ret 9 (fun n => rfl)
def x25_r5_1_1 (g : im_M) : Option (Int32 × im_M) :=
  some ((g 6 5), g)
set_option maxRecDepth 100000 in
set_option maxHeartbeats 4000000 in
theorem x25_r5_1_1_ok {L : Nat} {xs : Nat → Int32} {g u mm : im_M} {o : Nat → Int64} {Y : iv_A} {ret : Int32} (h : x25_r5_1_1 g  = some (ret, mm)) : iv_ev (iv_Xs L xs) 25 0 [.ref 8, .int (1 : Int32), .int (1 : Int32)] [] (im_H g u o Y) 0 0 (.inl (some (.int ret)), im_H mm u o Y) := by
  unfold x25_r5_1_1 at h
  cases h
  exact iv_ret 9 (fun n => rfl)
def x25_r5_1_2 (g : im_M) : Option (Int32 × im_M) :=
  some ((g 6 6), g)
set_option maxRecDepth 100000 in
set_option maxHeartbeats 4000000 in
theorem x25_r5_1_2_ok {L : Nat} {xs : Nat → Int32} {g u mm : im_M} {o : Nat → Int64} {Y : iv_A} {ret : Int32} (h : x25_r5_1_2 g  = some (ret, mm)) : iv_ev (iv_Xs L xs) 25 0 [.ref 8, .int (1 : Int32), .int (2 : Int32)] [] (im_H g u o Y) 0 0 (.inl (some (.int ret)), im_H mm u o Y) := by
  unfold x25_r5_1_2 at h
  cases h
  exact iv_ret 9 (fun n => rfl)
def x25_r5_1_3 (g : im_M) : Option (Int32 × im_M) :=
  some ((g 6 7), g)
set_option maxRecDepth 100000 in
set_option maxHeartbeats 4000000 in
theorem x25_r5_1_3_ok {L : Nat} {xs : Nat → Int32} {g u mm : im_M} {o : Nat → Int64} {Y : iv_A} {ret : Int32} (h : x25_r5_1_3 g  = some (ret, mm)) : iv_ev (iv_Xs L xs) 25 0 [.ref 8, .int (1 : Int32), .int (3 : Int32)] [] (im_H g u o Y) 0 0 (.inl (some (.int ret)), im_H mm u o Y) := by
  unfold x25_r5_1_3 at h
  cases h
  exact iv_ret 9 (fun n => rfl)
def x25_r5_2_0 (g : im_M) : Option (Int32 × im_M) :=
  some ((g 6 8), g)
set_option maxRecDepth 100000 in
set_option maxHeartbeats 4000000 in
theorem x25_r5_2_0_ok {L : Nat} {xs : Nat → Int32} {g u mm : im_M} {o : Nat → Int64} {Y : iv_A} {ret : Int32} (h : x25_r5_2_0 g  = some (ret, mm)) : iv_ev (iv_Xs L xs) 25 0 [.ref 8, .int (2 : Int32), .int (0 : Int32)] [] (im_H g u o Y) 0 0 (.inl (some (.int ret)), im_H mm u o Y) := by
  unfold x25_r5_2_0 at h
  cases h
  exact iv_ret 9 (fun n => rfl)
def x25_r5_2_1 (g : im_M) : Option (Int32 × im_M) :=
  some ((g 6 9), g)
set_option maxRecDepth 100000 in
set_option maxHeartbeats 4000000 in
theorem x25_r5_2_1_ok {L : Nat} {xs : Nat → Int32} {g u mm : im_M} {o : Nat → Int64} {Y : iv_A} {ret : Int32} (h : x25_r5_2_1 g  = some (ret, mm)) : iv_ev (iv_Xs L xs) 25 0 [.ref 8, .int (2 : Int32), .int (1 : Int32)] [] (im_H g u o Y) 0 0 (.inl (some (.int ret)), im_H mm u o Y) := by
  unfold x25_r5_2_1 at h
  cases h
  exact iv_ret 9 (fun n => rfl)
def x25_r5_2_2 (g : im_M) : Option (Int32 × im_M) :=
  some ((g 6 10), g)
set_option maxRecDepth 100000 in
set_option maxHeartbeats 4000000 in
theorem x25_r5_2_2_ok {L : Nat} {xs : Nat → Int32} {g u mm : im_M} {o : Nat → Int64} {Y : iv_A} {ret : Int32} (h : x25_r5_2_2 g  = some (ret, mm)) : iv_ev (iv_Xs L xs) 25 0 [.ref 8, .int (2 : Int32), .int (2 : Int32)] [] (im_H g u o Y) 0 0 (.inl (some (.int ret)), im_H mm u o Y) := by
  unfold x25_r5_2_2 at h
  cases h
  exact iv_ret 9 (fun n => rfl)
def x25_r5_2_3 (g : im_M) : Option (Int32 × im_M) :=
  some ((g 6 11), g)
set_option maxRecDepth 100000 in
set_option maxHeartbeats 4000000 in
theorem x25_r5_2_3_ok {L : Nat} {xs : Nat → Int32} {g u mm : im_M} {o : Nat → Int64} {Y : iv_A} {ret : Int32} (h : x25_r5_2_3 g  = some (ret, mm)) : iv_ev (iv_Xs L xs) 25 0 [.ref 8, .int (2 : Int32), .int (3 : Int32)] [] (im_H g u o Y) 0 0 (.inl (some (.int ret)), im_H mm u o Y) := by
  unfold x25_r5_2_3 at h
  cases h
  exact iv_ret 9 (fun n => rfl)
def x25_r5_3_0 (g : im_M) : Option (Int32 × im_M) :=
  some ((g 6 12), g)
set_option maxRecDepth 100000 in
set_option maxHeartbeats 4000000 in
theorem x25_r5_3_0_ok {L : Nat} {xs : Nat → Int32} {g u mm : im_M} {o : Nat → Int64} {Y : iv_A} {ret : Int32} (h : x25_r5_3_0 g  = some (ret, mm)) : iv_ev (iv_Xs L xs) 25 0 [.ref 8, .int (3 : Int32), .int (0 : Int32)] [] (im_H g u o Y) 0 0 (.inl (some (.int ret)), im_H mm u o Y) := by
  unfold x25_r5_3_0 at h
  cases h
  exact iv_ret 9 (fun n => rfl)
def x25_r5_3_1 (g : im_M) : Option (Int32 × im_M) :=
  some ((g 6 13), g)
set_option maxRecDepth 100000 in
set_option maxHeartbeats 4000000 in
theorem x25_r5_3_1_ok {L : Nat} {xs : Nat → Int32} {g u mm : im_M} {o : Nat → Int64} {Y : iv_A} {ret : Int32} (h : x25_r5_3_1 g  = some (ret, mm)) : iv_ev (iv_Xs L xs) 25 0 [.ref 8, .int (3 : Int32), .int (1 : Int32)] [] (im_H g u o Y) 0 0 (.inl (some (.int ret)), im_H mm u o Y) := by
  unfold x25_r5_3_1 at h
  cases h
  exact iv_ret 9 (fun n => rfl)
def x25_r5_3_2 (g : im_M) : Option (Int32 × im_M) :=
  some ((g 6 14), g)
set_option maxRecDepth 100000 in
set_option maxHeartbeats 4000000 in
theorem x25_r5_3_2_ok {L : Nat} {xs : Nat → Int32} {g u mm : im_M} {o : Nat → Int64} {Y : iv_A} {ret : Int32} (h : x25_r5_3_2 g  = some (ret, mm)) : iv_ev (iv_Xs L xs) 25 0 [.ref 8, .int (3 : Int32), .int (2 : Int32)] [] (im_H g u o Y) 0 0 (.inl (some (.int ret)), im_H mm u o Y) := by
  unfold x25_r5_3_2 at h
  cases h
  exact iv_ret 9 (fun n => rfl)
def x25_r5_3_3 (g : im_M) : Option (Int32 × im_M) :=
  some ((g 6 15), g)
set_option maxRecDepth 100000 in
set_option maxHeartbeats 4000000 in
theorem x25_r5_3_3_ok {L : Nat} {xs : Nat → Int32} {g u mm : im_M} {o : Nat → Int64} {Y : iv_A} {ret : Int32} (h : x25_r5_3_3 g  = some (ret, mm)) : iv_ev (iv_Xs L xs) 25 0 [.ref 8, .int (3 : Int32), .int (3 : Int32)] [] (im_H g u o Y) 0 0 (.inl (some (.int ret)), im_H mm u o Y) := by
  unfold x25_r5_3_3 at h
  cases h
  exact iv_ret 9 (fun n => rfl)
def x38_r5_0_4 (g : im_M) (y0 : Int32) (y1 : Int32) : Option (Int32 × im_M) :=
  some (0, (im_w (im_w g 6 3 y1) 7 3 (-1 : Int32)))
set_option maxRecDepth 100000 in
set_option maxHeartbeats 4000000 in
theorem x38_r5_0_4_ok {L : Nat} {xs : Nat → Int32} {g u mm : im_M} {o : Nat → Int64} {Y : iv_A} {y0 y1 ret : Int32} (h : x38_r5_0_4 g y0 y1 = some (ret, mm)) : iv_ev (iv_Xs L xs) 38 42 [.ref 8, .int (0 : Int32), .int y0, .int (3 : Int32), .int (3 : Int32)] [.int y1, .int (3 : Int32), .ref 9] (im_H g u o Y) 0 0 (.inl none, im_H mm u o Y) := by
  unfold x38_r5_0_4 at h
  refine iv_blk (mi' := 38) (pc' := 43) (ls' := [.ref 8, .int (0 : Int32), .int y0, .int (3 : Int32), .int (3 : Int32)]) (st' := []) (A' := List.set (im_H g u o Y) 6 (.inl (0, 16, .inl (upd (g 6) 3 y1)))) (c' := 0) (s' := 0) 1 (fun n => rfl) ?_
  rw [im_a6]
  refine iv_blk (mi' := 38) (pc' := 51) (ls' := [.ref 8, .int (0 : Int32), .int y0, .int (3 : Int32), .int (3 : Int32)]) (st' := []) (A' := List.set (im_H (im_w g 6 3 y1) u o Y) 7 (.inl (0, 16, .inl (upd ((im_w g 6 3 y1) 7) 3 (-1 : Int32))))) (c' := 0) (s' := 0) 5 (fun n => rfl) ?_
  rw [im_a7]
  cases h
  exact iv_ret 6 (fun n => rfl)
def x38_r5_0_3 (g : im_M) (y0 : Int32) (y1 : Int32) : Option (Int32 × im_M) :=
  bif Op.if_icmp.holds .ne (g 7 3) (-1 : Int32) then
    (x38_r5_0_4 (im_w (im_w g 6 2 y1) 7 2 (-1 : Int32)) y0 (g 7 3))
  else
    (x38_r5_0_4 (im_w (im_w g 6 2 y1) 7 2 (-1 : Int32)) y0 y0)
set_option maxRecDepth 100000 in
set_option maxHeartbeats 4000000 in
theorem x38_r5_0_3_ok {L : Nat} {xs : Nat → Int32} {g u mm : im_M} {o : Nat → Int64} {Y : iv_A} {y0 y1 ret : Int32} (h : x38_r5_0_3 g y0 y1 = some (ret, mm)) : iv_ev (iv_Xs L xs) 38 42 [.ref 8, .int (0 : Int32), .int y0, .int (2 : Int32), .int (2 : Int32)] [.int y1, .int (2 : Int32), .ref 9] (im_H g u o Y) 0 0 (.inl none, im_H mm u o Y) := by
  unfold x38_r5_0_3 at h
  refine iv_blk (mi' := 38) (pc' := 43) (ls' := [.ref 8, .int (0 : Int32), .int y0, .int (2 : Int32), .int (2 : Int32)]) (st' := []) (A' := List.set (im_H g u o Y) 6 (.inl (0, 16, .inl (upd (g 6) 2 y1)))) (c' := 0) (s' := 0) 1 (fun n => rfl) ?_
  rw [im_a6]
  refine iv_blk (mi' := 38) (pc' := 51) (ls' := [.ref 8, .int (0 : Int32), .int y0, .int (2 : Int32), .int (2 : Int32)]) (st' := []) (A' := List.set (im_H (im_w g 6 2 y1) u o Y) 7 (.inl (0, 16, .inl (upd ((im_w g 6 2 y1) 7) 2 (-1 : Int32))))) (c' := 0) (s' := 0) 5 (fun n => rfl) ?_
  rw [im_a7]
  cases hb4 : Op.if_icmp.holds .ne (g 7 3) (-1 : Int32) with
  | true =>
    rw [hb4] at h
    simp only [cond_true] at h
    refine iv_brt (mi' := 38) (pc' := 35) (ls' := [.ref 8, .int (0 : Int32), .int y0, .int (3 : Int32), .int (3 : Int32)]) (st' := [.int (3 : Int32), .ref 9]) (A' := im_H (im_w (im_w g 6 2 y1) 7 2 (-1 : Int32)) u o Y) (c' := 0) (s' := 0) (mi'' := 38) (pc'' := 31) (ls'' := [.ref 8, .int (0 : Int32), .int y0, .int (3 : Int32), .int (3 : Int32)]) (st'' := [.int (3 : Int32), .ref 9]) (A'' := im_H (im_w (im_w g 6 2 y1) 7 2 (-1 : Int32)) u o Y) (c'' := 0) (s'' := 0) 20 0 0 hb4 (fun n => rfl) ?_
    exact iv_blk 4 (fun n => rfl) (x38_r5_0_4_ok (g := (im_w (im_w g 6 2 y1) 7 2 (-1 : Int32))) (y0 := y0) (y1 := (g 7 3)) h)
  | false =>
    rw [hb4] at h
    simp only [cond_false] at h
    refine iv_brf (mi' := 38) (pc' := 35) (ls' := [.ref 8, .int (0 : Int32), .int y0, .int (3 : Int32), .int (3 : Int32)]) (st' := [.int (3 : Int32), .ref 9]) (A' := im_H (im_w (im_w g 6 2 y1) 7 2 (-1 : Int32)) u o Y) (c' := 0) (s' := 0) (mi'' := 38) (pc'' := 31) (ls'' := [.ref 8, .int (0 : Int32), .int y0, .int (3 : Int32), .int (3 : Int32)]) (st'' := [.int (3 : Int32), .ref 9]) (A'' := im_H (im_w (im_w g 6 2 y1) 7 2 (-1 : Int32)) u o Y) (c'' := 0) (s'' := 0) 20 0 0 hb4 (fun n => rfl) ?_
    exact iv_blk 2 (fun n => rfl) (x38_r5_0_4_ok (g := (im_w (im_w g 6 2 y1) 7 2 (-1 : Int32))) (y0 := y0) (y1 := y0) h)
def x38_r5_0_2 (g : im_M) (y0 : Int32) (y1 : Int32) : Option (Int32 × im_M) :=
  bif Op.if_icmp.holds .ne (g 7 2) (-1 : Int32) then
    (x38_r5_0_3 (im_w (im_w g 6 1 y1) 7 1 (-1 : Int32)) y0 (g 7 2))
  else
    (x38_r5_0_3 (im_w (im_w g 6 1 y1) 7 1 (-1 : Int32)) y0 y0)
set_option maxRecDepth 100000 in
set_option maxHeartbeats 4000000 in
theorem x38_r5_0_2_ok {L : Nat} {xs : Nat → Int32} {g u mm : im_M} {o : Nat → Int64} {Y : iv_A} {y0 y1 ret : Int32} (h : x38_r5_0_2 g y0 y1 = some (ret, mm)) : iv_ev (iv_Xs L xs) 38 42 [.ref 8, .int (0 : Int32), .int y0, .int (1 : Int32), .int (1 : Int32)] [.int y1, .int (1 : Int32), .ref 9] (im_H g u o Y) 0 0 (.inl none, im_H mm u o Y) := by
  unfold x38_r5_0_2 at h
  refine iv_blk (mi' := 38) (pc' := 43) (ls' := [.ref 8, .int (0 : Int32), .int y0, .int (1 : Int32), .int (1 : Int32)]) (st' := []) (A' := List.set (im_H g u o Y) 6 (.inl (0, 16, .inl (upd (g 6) 1 y1)))) (c' := 0) (s' := 0) 1 (fun n => rfl) ?_
  rw [im_a6]
  refine iv_blk (mi' := 38) (pc' := 51) (ls' := [.ref 8, .int (0 : Int32), .int y0, .int (1 : Int32), .int (1 : Int32)]) (st' := []) (A' := List.set (im_H (im_w g 6 1 y1) u o Y) 7 (.inl (0, 16, .inl (upd ((im_w g 6 1 y1) 7) 1 (-1 : Int32))))) (c' := 0) (s' := 0) 5 (fun n => rfl) ?_
  rw [im_a7]
  cases hb3 : Op.if_icmp.holds .ne (g 7 2) (-1 : Int32) with
  | true =>
    rw [hb3] at h
    simp only [cond_true] at h
    refine iv_brt (mi' := 38) (pc' := 35) (ls' := [.ref 8, .int (0 : Int32), .int y0, .int (2 : Int32), .int (2 : Int32)]) (st' := [.int (2 : Int32), .ref 9]) (A' := im_H (im_w (im_w g 6 1 y1) 7 1 (-1 : Int32)) u o Y) (c' := 0) (s' := 0) (mi'' := 38) (pc'' := 31) (ls'' := [.ref 8, .int (0 : Int32), .int y0, .int (2 : Int32), .int (2 : Int32)]) (st'' := [.int (2 : Int32), .ref 9]) (A'' := im_H (im_w (im_w g 6 1 y1) 7 1 (-1 : Int32)) u o Y) (c'' := 0) (s'' := 0) 20 0 0 hb3 (fun n => rfl) ?_
    exact iv_blk 4 (fun n => rfl) (x38_r5_0_3_ok (g := (im_w (im_w g 6 1 y1) 7 1 (-1 : Int32))) (y0 := y0) (y1 := (g 7 2)) h)
  | false =>
    rw [hb3] at h
    simp only [cond_false] at h
    refine iv_brf (mi' := 38) (pc' := 35) (ls' := [.ref 8, .int (0 : Int32), .int y0, .int (2 : Int32), .int (2 : Int32)]) (st' := [.int (2 : Int32), .ref 9]) (A' := im_H (im_w (im_w g 6 1 y1) 7 1 (-1 : Int32)) u o Y) (c' := 0) (s' := 0) (mi'' := 38) (pc'' := 31) (ls'' := [.ref 8, .int (0 : Int32), .int y0, .int (2 : Int32), .int (2 : Int32)]) (st'' := [.int (2 : Int32), .ref 9]) (A'' := im_H (im_w (im_w g 6 1 y1) 7 1 (-1 : Int32)) u o Y) (c'' := 0) (s'' := 0) 20 0 0 hb3 (fun n => rfl) ?_
    exact iv_blk 2 (fun n => rfl) (x38_r5_0_3_ok (g := (im_w (im_w g 6 1 y1) 7 1 (-1 : Int32))) (y0 := y0) (y1 := y0) h)
def x38_r5_0_1 (g : im_M) (y0 : Int32) (y1 : Int32) : Option (Int32 × im_M) :=
  bif Op.if_icmp.holds .ne (g 7 1) (-1 : Int32) then
    (x38_r5_0_2 (im_w (im_w g 6 0 y1) 7 0 (-1 : Int32)) y0 (g 7 1))
  else
    (x38_r5_0_2 (im_w (im_w g 6 0 y1) 7 0 (-1 : Int32)) y0 y0)
set_option maxRecDepth 100000 in
set_option maxHeartbeats 4000000 in
theorem x38_r5_0_1_ok {L : Nat} {xs : Nat → Int32} {g u mm : im_M} {o : Nat → Int64} {Y : iv_A} {y0 y1 ret : Int32} (h : x38_r5_0_1 g y0 y1 = some (ret, mm)) : iv_ev (iv_Xs L xs) 38 42 [.ref 8, .int (0 : Int32), .int y0, .int (0 : Int32), .int (0 : Int32)] [.int y1, .int (0 : Int32), .ref 9] (im_H g u o Y) 0 0 (.inl none, im_H mm u o Y) := by
  unfold x38_r5_0_1 at h
  refine iv_blk (mi' := 38) (pc' := 43) (ls' := [.ref 8, .int (0 : Int32), .int y0, .int (0 : Int32), .int (0 : Int32)]) (st' := []) (A' := List.set (im_H g u o Y) 6 (.inl (0, 16, .inl (upd (g 6) 0 y1)))) (c' := 0) (s' := 0) 1 (fun n => rfl) ?_
  rw [im_a6]
  refine iv_blk (mi' := 38) (pc' := 51) (ls' := [.ref 8, .int (0 : Int32), .int y0, .int (0 : Int32), .int (0 : Int32)]) (st' := []) (A' := List.set (im_H (im_w g 6 0 y1) u o Y) 7 (.inl (0, 16, .inl (upd ((im_w g 6 0 y1) 7) 0 (-1 : Int32))))) (c' := 0) (s' := 0) 5 (fun n => rfl) ?_
  rw [im_a7]
  cases hb2 : Op.if_icmp.holds .ne (g 7 1) (-1 : Int32) with
  | true =>
    rw [hb2] at h
    simp only [cond_true] at h
    refine iv_brt (mi' := 38) (pc' := 35) (ls' := [.ref 8, .int (0 : Int32), .int y0, .int (1 : Int32), .int (1 : Int32)]) (st' := [.int (1 : Int32), .ref 9]) (A' := im_H (im_w (im_w g 6 0 y1) 7 0 (-1 : Int32)) u o Y) (c' := 0) (s' := 0) (mi'' := 38) (pc'' := 31) (ls'' := [.ref 8, .int (0 : Int32), .int y0, .int (1 : Int32), .int (1 : Int32)]) (st'' := [.int (1 : Int32), .ref 9]) (A'' := im_H (im_w (im_w g 6 0 y1) 7 0 (-1 : Int32)) u o Y) (c'' := 0) (s'' := 0) 20 0 0 hb2 (fun n => rfl) ?_
    exact iv_blk 4 (fun n => rfl) (x38_r5_0_2_ok (g := (im_w (im_w g 6 0 y1) 7 0 (-1 : Int32))) (y0 := y0) (y1 := (g 7 1)) h)
  | false =>
    rw [hb2] at h
    simp only [cond_false] at h
    refine iv_brf (mi' := 38) (pc' := 35) (ls' := [.ref 8, .int (0 : Int32), .int y0, .int (1 : Int32), .int (1 : Int32)]) (st' := [.int (1 : Int32), .ref 9]) (A' := im_H (im_w (im_w g 6 0 y1) 7 0 (-1 : Int32)) u o Y) (c' := 0) (s' := 0) (mi'' := 38) (pc'' := 31) (ls'' := [.ref 8, .int (0 : Int32), .int y0, .int (1 : Int32), .int (1 : Int32)]) (st'' := [.int (1 : Int32), .ref 9]) (A'' := im_H (im_w (im_w g 6 0 y1) 7 0 (-1 : Int32)) u o Y) (c'' := 0) (s'' := 0) 20 0 0 hb2 (fun n => rfl) ?_
    exact iv_blk 2 (fun n => rfl) (x38_r5_0_2_ok (g := (im_w (im_w g 6 0 y1) 7 0 (-1 : Int32))) (y0 := y0) (y1 := y0) h)
def x38_r5_0 (g : im_M) (a : Int32) : Option (Int32 × im_M) :=
  bif Op.if_icmp.holds .ne (g 7 0) (-1 : Int32) then
    (x38_r5_0_1 g a (g 7 0))
  else
    (x38_r5_0_1 g a a)
set_option maxRecDepth 100000 in
set_option maxHeartbeats 4000000 in
theorem x38_r5_0_ok {L : Nat} {xs : Nat → Int32} {g u mm : im_M} {o : Nat → Int64} {Y : iv_A} {a ret : Int32} (h : x38_r5_0 g a = some (ret, mm)) : iv_ev (iv_Xs L xs) 38 0 [.ref 8, .int (0 : Int32), .int a, .retAddr 0, .retAddr 0] [] (im_H g u o Y) 0 0 (.inl none, im_H mm u o Y) := by
  unfold x38_r5_0 at h
  cases hb1 : Op.if_icmp.holds .ne (g 7 0) (-1 : Int32) with
  | true =>
    rw [hb1] at h
    simp only [cond_true] at h
    refine iv_brt (mi' := 38) (pc' := 35) (ls' := [.ref 8, .int (0 : Int32), .int a, .int (0 : Int32), .int (0 : Int32)]) (st' := [.int (0 : Int32), .ref 9]) (A' := im_H g u o Y) (c' := 0) (s' := 0) (mi'' := 38) (pc'' := 31) (ls'' := [.ref 8, .int (0 : Int32), .int a, .int (0 : Int32), .int (0 : Int32)]) (st'' := [.int (0 : Int32), .ref 9]) (A'' := im_H g u o Y) (c'' := 0) (s'' := 0) 20 0 0 hb1 (fun n => rfl) ?_
    exact iv_blk 4 (fun n => rfl) (x38_r5_0_1_ok (g := g) (y0 := a) (y1 := (g 7 0)) h)
  | false =>
    rw [hb1] at h
    simp only [cond_false] at h
    refine iv_brf (mi' := 38) (pc' := 35) (ls' := [.ref 8, .int (0 : Int32), .int a, .int (0 : Int32), .int (0 : Int32)]) (st' := [.int (0 : Int32), .ref 9]) (A' := im_H g u o Y) (c' := 0) (s' := 0) (mi'' := 38) (pc'' := 31) (ls'' := [.ref 8, .int (0 : Int32), .int a, .int (0 : Int32), .int (0 : Int32)]) (st'' := [.int (0 : Int32), .ref 9]) (A'' := im_H g u o Y) (c'' := 0) (s'' := 0) 20 0 0 hb1 (fun n => rfl) ?_
    exact iv_blk 2 (fun n => rfl) (x38_r5_0_1_ok (g := g) (y0 := a) (y1 := a) h)
def x38_r5_1_4 (g : im_M) (y0 : Int32) (y1 : Int32) : Option (Int32 × im_M) :=
  some (0, (im_w (im_w g 6 7 y1) 7 7 (-1 : Int32)))
set_option maxRecDepth 100000 in
set_option maxHeartbeats 4000000 in
theorem x38_r5_1_4_ok {L : Nat} {xs : Nat → Int32} {g u mm : im_M} {o : Nat → Int64} {Y : iv_A} {y0 y1 ret : Int32} (h : x38_r5_1_4 g y0 y1 = some (ret, mm)) : iv_ev (iv_Xs L xs) 38 42 [.ref 8, .int (1 : Int32), .int y0, .int (3 : Int32), .int (7 : Int32)] [.int y1, .int (7 : Int32), .ref 9] (im_H g u o Y) 0 0 (.inl none, im_H mm u o Y) := by
  unfold x38_r5_1_4 at h
  refine iv_blk (mi' := 38) (pc' := 43) (ls' := [.ref 8, .int (1 : Int32), .int y0, .int (3 : Int32), .int (7 : Int32)]) (st' := []) (A' := List.set (im_H g u o Y) 6 (.inl (0, 16, .inl (upd (g 6) 7 y1)))) (c' := 0) (s' := 0) 1 (fun n => rfl) ?_
  rw [im_a6]
  refine iv_blk (mi' := 38) (pc' := 51) (ls' := [.ref 8, .int (1 : Int32), .int y0, .int (3 : Int32), .int (7 : Int32)]) (st' := []) (A' := List.set (im_H (im_w g 6 7 y1) u o Y) 7 (.inl (0, 16, .inl (upd ((im_w g 6 7 y1) 7) 7 (-1 : Int32))))) (c' := 0) (s' := 0) 5 (fun n => rfl) ?_
  rw [im_a7]
  cases h
  exact iv_ret 6 (fun n => rfl)
def x38_r5_1_3 (g : im_M) (y0 : Int32) (y1 : Int32) : Option (Int32 × im_M) :=
  bif Op.if_icmp.holds .ne (g 7 7) (-1 : Int32) then
    (x38_r5_1_4 (im_w (im_w g 6 6 y1) 7 6 (-1 : Int32)) y0 (g 7 7))
  else
    (x38_r5_1_4 (im_w (im_w g 6 6 y1) 7 6 (-1 : Int32)) y0 y0)
set_option maxRecDepth 100000 in
set_option maxHeartbeats 4000000 in
theorem x38_r5_1_3_ok {L : Nat} {xs : Nat → Int32} {g u mm : im_M} {o : Nat → Int64} {Y : iv_A} {y0 y1 ret : Int32} (h : x38_r5_1_3 g y0 y1 = some (ret, mm)) : iv_ev (iv_Xs L xs) 38 42 [.ref 8, .int (1 : Int32), .int y0, .int (2 : Int32), .int (6 : Int32)] [.int y1, .int (6 : Int32), .ref 9] (im_H g u o Y) 0 0 (.inl none, im_H mm u o Y) := by
  unfold x38_r5_1_3 at h
  refine iv_blk (mi' := 38) (pc' := 43) (ls' := [.ref 8, .int (1 : Int32), .int y0, .int (2 : Int32), .int (6 : Int32)]) (st' := []) (A' := List.set (im_H g u o Y) 6 (.inl (0, 16, .inl (upd (g 6) 6 y1)))) (c' := 0) (s' := 0) 1 (fun n => rfl) ?_
  rw [im_a6]
  refine iv_blk (mi' := 38) (pc' := 51) (ls' := [.ref 8, .int (1 : Int32), .int y0, .int (2 : Int32), .int (6 : Int32)]) (st' := []) (A' := List.set (im_H (im_w g 6 6 y1) u o Y) 7 (.inl (0, 16, .inl (upd ((im_w g 6 6 y1) 7) 6 (-1 : Int32))))) (c' := 0) (s' := 0) 5 (fun n => rfl) ?_
  rw [im_a7]
  cases hb4 : Op.if_icmp.holds .ne (g 7 7) (-1 : Int32) with
  | true =>
    rw [hb4] at h
    simp only [cond_true] at h
    refine iv_brt (mi' := 38) (pc' := 35) (ls' := [.ref 8, .int (1 : Int32), .int y0, .int (3 : Int32), .int (7 : Int32)]) (st' := [.int (7 : Int32), .ref 9]) (A' := im_H (im_w (im_w g 6 6 y1) 7 6 (-1 : Int32)) u o Y) (c' := 0) (s' := 0) (mi'' := 38) (pc'' := 31) (ls'' := [.ref 8, .int (1 : Int32), .int y0, .int (3 : Int32), .int (7 : Int32)]) (st'' := [.int (7 : Int32), .ref 9]) (A'' := im_H (im_w (im_w g 6 6 y1) 7 6 (-1 : Int32)) u o Y) (c'' := 0) (s'' := 0) 20 0 0 hb4 (fun n => rfl) ?_
    exact iv_blk 4 (fun n => rfl) (x38_r5_1_4_ok (g := (im_w (im_w g 6 6 y1) 7 6 (-1 : Int32))) (y0 := y0) (y1 := (g 7 7)) h)
  | false =>
    rw [hb4] at h
    simp only [cond_false] at h
    refine iv_brf (mi' := 38) (pc' := 35) (ls' := [.ref 8, .int (1 : Int32), .int y0, .int (3 : Int32), .int (7 : Int32)]) (st' := [.int (7 : Int32), .ref 9]) (A' := im_H (im_w (im_w g 6 6 y1) 7 6 (-1 : Int32)) u o Y) (c' := 0) (s' := 0) (mi'' := 38) (pc'' := 31) (ls'' := [.ref 8, .int (1 : Int32), .int y0, .int (3 : Int32), .int (7 : Int32)]) (st'' := [.int (7 : Int32), .ref 9]) (A'' := im_H (im_w (im_w g 6 6 y1) 7 6 (-1 : Int32)) u o Y) (c'' := 0) (s'' := 0) 20 0 0 hb4 (fun n => rfl) ?_
    exact iv_blk 2 (fun n => rfl) (x38_r5_1_4_ok (g := (im_w (im_w g 6 6 y1) 7 6 (-1 : Int32))) (y0 := y0) (y1 := y0) h)
def x38_r5_1_2 (g : im_M) (y0 : Int32) (y1 : Int32) : Option (Int32 × im_M) :=
  bif Op.if_icmp.holds .ne (g 7 6) (-1 : Int32) then
    (x38_r5_1_3 (im_w (im_w g 6 5 y1) 7 5 (-1 : Int32)) y0 (g 7 6))
  else
    (x38_r5_1_3 (im_w (im_w g 6 5 y1) 7 5 (-1 : Int32)) y0 y0)
set_option maxRecDepth 100000 in
set_option maxHeartbeats 4000000 in
theorem x38_r5_1_2_ok {L : Nat} {xs : Nat → Int32} {g u mm : im_M} {o : Nat → Int64} {Y : iv_A} {y0 y1 ret : Int32} (h : x38_r5_1_2 g y0 y1 = some (ret, mm)) : iv_ev (iv_Xs L xs) 38 42 [.ref 8, .int (1 : Int32), .int y0, .int (1 : Int32), .int (5 : Int32)] [.int y1, .int (5 : Int32), .ref 9] (im_H g u o Y) 0 0 (.inl none, im_H mm u o Y) := by
  unfold x38_r5_1_2 at h
  refine iv_blk (mi' := 38) (pc' := 43) (ls' := [.ref 8, .int (1 : Int32), .int y0, .int (1 : Int32), .int (5 : Int32)]) (st' := []) (A' := List.set (im_H g u o Y) 6 (.inl (0, 16, .inl (upd (g 6) 5 y1)))) (c' := 0) (s' := 0) 1 (fun n => rfl) ?_
  rw [im_a6]
  refine iv_blk (mi' := 38) (pc' := 51) (ls' := [.ref 8, .int (1 : Int32), .int y0, .int (1 : Int32), .int (5 : Int32)]) (st' := []) (A' := List.set (im_H (im_w g 6 5 y1) u o Y) 7 (.inl (0, 16, .inl (upd ((im_w g 6 5 y1) 7) 5 (-1 : Int32))))) (c' := 0) (s' := 0) 5 (fun n => rfl) ?_
  rw [im_a7]
  cases hb3 : Op.if_icmp.holds .ne (g 7 6) (-1 : Int32) with
  | true =>
    rw [hb3] at h
    simp only [cond_true] at h
    refine iv_brt (mi' := 38) (pc' := 35) (ls' := [.ref 8, .int (1 : Int32), .int y0, .int (2 : Int32), .int (6 : Int32)]) (st' := [.int (6 : Int32), .ref 9]) (A' := im_H (im_w (im_w g 6 5 y1) 7 5 (-1 : Int32)) u o Y) (c' := 0) (s' := 0) (mi'' := 38) (pc'' := 31) (ls'' := [.ref 8, .int (1 : Int32), .int y0, .int (2 : Int32), .int (6 : Int32)]) (st'' := [.int (6 : Int32), .ref 9]) (A'' := im_H (im_w (im_w g 6 5 y1) 7 5 (-1 : Int32)) u o Y) (c'' := 0) (s'' := 0) 20 0 0 hb3 (fun n => rfl) ?_
    exact iv_blk 4 (fun n => rfl) (x38_r5_1_3_ok (g := (im_w (im_w g 6 5 y1) 7 5 (-1 : Int32))) (y0 := y0) (y1 := (g 7 6)) h)
  | false =>
    rw [hb3] at h
    simp only [cond_false] at h
    refine iv_brf (mi' := 38) (pc' := 35) (ls' := [.ref 8, .int (1 : Int32), .int y0, .int (2 : Int32), .int (6 : Int32)]) (st' := [.int (6 : Int32), .ref 9]) (A' := im_H (im_w (im_w g 6 5 y1) 7 5 (-1 : Int32)) u o Y) (c' := 0) (s' := 0) (mi'' := 38) (pc'' := 31) (ls'' := [.ref 8, .int (1 : Int32), .int y0, .int (2 : Int32), .int (6 : Int32)]) (st'' := [.int (6 : Int32), .ref 9]) (A'' := im_H (im_w (im_w g 6 5 y1) 7 5 (-1 : Int32)) u o Y) (c'' := 0) (s'' := 0) 20 0 0 hb3 (fun n => rfl) ?_
    exact iv_blk 2 (fun n => rfl) (x38_r5_1_3_ok (g := (im_w (im_w g 6 5 y1) 7 5 (-1 : Int32))) (y0 := y0) (y1 := y0) h)
def x38_r5_1_1 (g : im_M) (y0 : Int32) (y1 : Int32) : Option (Int32 × im_M) :=
  bif Op.if_icmp.holds .ne (g 7 5) (-1 : Int32) then
    (x38_r5_1_2 (im_w (im_w g 6 4 y1) 7 4 (-1 : Int32)) y0 (g 7 5))
  else
    (x38_r5_1_2 (im_w (im_w g 6 4 y1) 7 4 (-1 : Int32)) y0 y0)
set_option maxRecDepth 100000 in
set_option maxHeartbeats 4000000 in
theorem x38_r5_1_1_ok {L : Nat} {xs : Nat → Int32} {g u mm : im_M} {o : Nat → Int64} {Y : iv_A} {y0 y1 ret : Int32} (h : x38_r5_1_1 g y0 y1 = some (ret, mm)) : iv_ev (iv_Xs L xs) 38 42 [.ref 8, .int (1 : Int32), .int y0, .int (0 : Int32), .int (4 : Int32)] [.int y1, .int (4 : Int32), .ref 9] (im_H g u o Y) 0 0 (.inl none, im_H mm u o Y) := by
  unfold x38_r5_1_1 at h
  refine iv_blk (mi' := 38) (pc' := 43) (ls' := [.ref 8, .int (1 : Int32), .int y0, .int (0 : Int32), .int (4 : Int32)]) (st' := []) (A' := List.set (im_H g u o Y) 6 (.inl (0, 16, .inl (upd (g 6) 4 y1)))) (c' := 0) (s' := 0) 1 (fun n => rfl) ?_
  rw [im_a6]
  refine iv_blk (mi' := 38) (pc' := 51) (ls' := [.ref 8, .int (1 : Int32), .int y0, .int (0 : Int32), .int (4 : Int32)]) (st' := []) (A' := List.set (im_H (im_w g 6 4 y1) u o Y) 7 (.inl (0, 16, .inl (upd ((im_w g 6 4 y1) 7) 4 (-1 : Int32))))) (c' := 0) (s' := 0) 5 (fun n => rfl) ?_
  rw [im_a7]
  cases hb2 : Op.if_icmp.holds .ne (g 7 5) (-1 : Int32) with
  | true =>
    rw [hb2] at h
    simp only [cond_true] at h
    refine iv_brt (mi' := 38) (pc' := 35) (ls' := [.ref 8, .int (1 : Int32), .int y0, .int (1 : Int32), .int (5 : Int32)]) (st' := [.int (5 : Int32), .ref 9]) (A' := im_H (im_w (im_w g 6 4 y1) 7 4 (-1 : Int32)) u o Y) (c' := 0) (s' := 0) (mi'' := 38) (pc'' := 31) (ls'' := [.ref 8, .int (1 : Int32), .int y0, .int (1 : Int32), .int (5 : Int32)]) (st'' := [.int (5 : Int32), .ref 9]) (A'' := im_H (im_w (im_w g 6 4 y1) 7 4 (-1 : Int32)) u o Y) (c'' := 0) (s'' := 0) 20 0 0 hb2 (fun n => rfl) ?_
    exact iv_blk 4 (fun n => rfl) (x38_r5_1_2_ok (g := (im_w (im_w g 6 4 y1) 7 4 (-1 : Int32))) (y0 := y0) (y1 := (g 7 5)) h)
  | false =>
    rw [hb2] at h
    simp only [cond_false] at h
    refine iv_brf (mi' := 38) (pc' := 35) (ls' := [.ref 8, .int (1 : Int32), .int y0, .int (1 : Int32), .int (5 : Int32)]) (st' := [.int (5 : Int32), .ref 9]) (A' := im_H (im_w (im_w g 6 4 y1) 7 4 (-1 : Int32)) u o Y) (c' := 0) (s' := 0) (mi'' := 38) (pc'' := 31) (ls'' := [.ref 8, .int (1 : Int32), .int y0, .int (1 : Int32), .int (5 : Int32)]) (st'' := [.int (5 : Int32), .ref 9]) (A'' := im_H (im_w (im_w g 6 4 y1) 7 4 (-1 : Int32)) u o Y) (c'' := 0) (s'' := 0) 20 0 0 hb2 (fun n => rfl) ?_
    exact iv_blk 2 (fun n => rfl) (x38_r5_1_2_ok (g := (im_w (im_w g 6 4 y1) 7 4 (-1 : Int32))) (y0 := y0) (y1 := y0) h)
def x38_r5_1 (g : im_M) (a : Int32) : Option (Int32 × im_M) :=
  bif Op.if_icmp.holds .ne (g 7 4) (-1 : Int32) then
    (x38_r5_1_1 g a (g 7 4))
  else
    (x38_r5_1_1 g a a)
set_option maxRecDepth 100000 in
set_option maxHeartbeats 4000000 in
theorem x38_r5_1_ok {L : Nat} {xs : Nat → Int32} {g u mm : im_M} {o : Nat → Int64} {Y : iv_A} {a ret : Int32} (h : x38_r5_1 g a = some (ret, mm)) : iv_ev (iv_Xs L xs) 38 0 [.ref 8, .int (1 : Int32), .int a, .retAddr 0, .retAddr 0] [] (im_H g u o Y) 0 0 (.inl none, im_H mm u o Y) := by
  unfold x38_r5_1 at h
  cases hb1 : Op.if_icmp.holds .ne (g 7 4) (-1 : Int32) with
  | true =>
    rw [hb1] at h
    simp only [cond_true] at h
    refine iv_brt (mi' := 38) (pc' := 35) (ls' := [.ref 8, .int (1 : Int32), .int a, .int (0 : Int32), .int (4 : Int32)]) (st' := [.int (4 : Int32), .ref 9]) (A' := im_H g u o Y) (c' := 0) (s' := 0) (mi'' := 38) (pc'' := 31) (ls'' := [.ref 8, .int (1 : Int32), .int a, .int (0 : Int32), .int (4 : Int32)]) (st'' := [.int (4 : Int32), .ref 9]) (A'' := im_H g u o Y) (c'' := 0) (s'' := 0) 20 0 0 hb1 (fun n => rfl) ?_
    exact iv_blk 4 (fun n => rfl) (x38_r5_1_1_ok (g := g) (y0 := a) (y1 := (g 7 4)) h)
  | false =>
    rw [hb1] at h
    simp only [cond_false] at h
    refine iv_brf (mi' := 38) (pc' := 35) (ls' := [.ref 8, .int (1 : Int32), .int a, .int (0 : Int32), .int (4 : Int32)]) (st' := [.int (4 : Int32), .ref 9]) (A' := im_H g u o Y) (c' := 0) (s' := 0) (mi'' := 38) (pc'' := 31) (ls'' := [.ref 8, .int (1 : Int32), .int a, .int (0 : Int32), .int (4 : Int32)]) (st'' := [.int (4 : Int32), .ref 9]) (A'' := im_H g u o Y) (c'' := 0) (s'' := 0) 20 0 0 hb1 (fun n => rfl) ?_
    exact iv_blk 2 (fun n => rfl) (x38_r5_1_1_ok (g := g) (y0 := a) (y1 := a) h)
def x38_r5_2_4 (g : im_M) (y0 : Int32) (y1 : Int32) : Option (Int32 × im_M) :=
  some (0, (im_w (im_w g 6 11 y1) 7 11 (-1 : Int32)))
set_option maxRecDepth 100000 in
set_option maxHeartbeats 4000000 in
theorem x38_r5_2_4_ok {L : Nat} {xs : Nat → Int32} {g u mm : im_M} {o : Nat → Int64} {Y : iv_A} {y0 y1 ret : Int32} (h : x38_r5_2_4 g y0 y1 = some (ret, mm)) : iv_ev (iv_Xs L xs) 38 42 [.ref 8, .int (2 : Int32), .int y0, .int (3 : Int32), .int (11 : Int32)] [.int y1, .int (11 : Int32), .ref 9] (im_H g u o Y) 0 0 (.inl none, im_H mm u o Y) := by
  unfold x38_r5_2_4 at h
  refine iv_blk (mi' := 38) (pc' := 43) (ls' := [.ref 8, .int (2 : Int32), .int y0, .int (3 : Int32), .int (11 : Int32)]) (st' := []) (A' := List.set (im_H g u o Y) 6 (.inl (0, 16, .inl (upd (g 6) 11 y1)))) (c' := 0) (s' := 0) 1 (fun n => rfl) ?_
  rw [im_a6]
  refine iv_blk (mi' := 38) (pc' := 51) (ls' := [.ref 8, .int (2 : Int32), .int y0, .int (3 : Int32), .int (11 : Int32)]) (st' := []) (A' := List.set (im_H (im_w g 6 11 y1) u o Y) 7 (.inl (0, 16, .inl (upd ((im_w g 6 11 y1) 7) 11 (-1 : Int32))))) (c' := 0) (s' := 0) 5 (fun n => rfl) ?_
  rw [im_a7]
  cases h
  exact iv_ret 6 (fun n => rfl)
def x38_r5_2_3 (g : im_M) (y0 : Int32) (y1 : Int32) : Option (Int32 × im_M) :=
  bif Op.if_icmp.holds .ne (g 7 11) (-1 : Int32) then
    (x38_r5_2_4 (im_w (im_w g 6 10 y1) 7 10 (-1 : Int32)) y0 (g 7 11))
  else
    (x38_r5_2_4 (im_w (im_w g 6 10 y1) 7 10 (-1 : Int32)) y0 y0)
set_option maxRecDepth 100000 in
set_option maxHeartbeats 4000000 in
theorem x38_r5_2_3_ok {L : Nat} {xs : Nat → Int32} {g u mm : im_M} {o : Nat → Int64} {Y : iv_A} {y0 y1 ret : Int32} (h : x38_r5_2_3 g y0 y1 = some (ret, mm)) : iv_ev (iv_Xs L xs) 38 42 [.ref 8, .int (2 : Int32), .int y0, .int (2 : Int32), .int (10 : Int32)] [.int y1, .int (10 : Int32), .ref 9] (im_H g u o Y) 0 0 (.inl none, im_H mm u o Y) := by
  unfold x38_r5_2_3 at h
  refine iv_blk (mi' := 38) (pc' := 43) (ls' := [.ref 8, .int (2 : Int32), .int y0, .int (2 : Int32), .int (10 : Int32)]) (st' := []) (A' := List.set (im_H g u o Y) 6 (.inl (0, 16, .inl (upd (g 6) 10 y1)))) (c' := 0) (s' := 0) 1 (fun n => rfl) ?_
  rw [im_a6]
  refine iv_blk (mi' := 38) (pc' := 51) (ls' := [.ref 8, .int (2 : Int32), .int y0, .int (2 : Int32), .int (10 : Int32)]) (st' := []) (A' := List.set (im_H (im_w g 6 10 y1) u o Y) 7 (.inl (0, 16, .inl (upd ((im_w g 6 10 y1) 7) 10 (-1 : Int32))))) (c' := 0) (s' := 0) 5 (fun n => rfl) ?_
  rw [im_a7]
  cases hb4 : Op.if_icmp.holds .ne (g 7 11) (-1 : Int32) with
  | true =>
    rw [hb4] at h
    simp only [cond_true] at h
    refine iv_brt (mi' := 38) (pc' := 35) (ls' := [.ref 8, .int (2 : Int32), .int y0, .int (3 : Int32), .int (11 : Int32)]) (st' := [.int (11 : Int32), .ref 9]) (A' := im_H (im_w (im_w g 6 10 y1) 7 10 (-1 : Int32)) u o Y) (c' := 0) (s' := 0) (mi'' := 38) (pc'' := 31) (ls'' := [.ref 8, .int (2 : Int32), .int y0, .int (3 : Int32), .int (11 : Int32)]) (st'' := [.int (11 : Int32), .ref 9]) (A'' := im_H (im_w (im_w g 6 10 y1) 7 10 (-1 : Int32)) u o Y) (c'' := 0) (s'' := 0) 20 0 0 hb4 (fun n => rfl) ?_
    exact iv_blk 4 (fun n => rfl) (x38_r5_2_4_ok (g := (im_w (im_w g 6 10 y1) 7 10 (-1 : Int32))) (y0 := y0) (y1 := (g 7 11)) h)
  | false =>
    rw [hb4] at h
    simp only [cond_false] at h
    refine iv_brf (mi' := 38) (pc' := 35) (ls' := [.ref 8, .int (2 : Int32), .int y0, .int (3 : Int32), .int (11 : Int32)]) (st' := [.int (11 : Int32), .ref 9]) (A' := im_H (im_w (im_w g 6 10 y1) 7 10 (-1 : Int32)) u o Y) (c' := 0) (s' := 0) (mi'' := 38) (pc'' := 31) (ls'' := [.ref 8, .int (2 : Int32), .int y0, .int (3 : Int32), .int (11 : Int32)]) (st'' := [.int (11 : Int32), .ref 9]) (A'' := im_H (im_w (im_w g 6 10 y1) 7 10 (-1 : Int32)) u o Y) (c'' := 0) (s'' := 0) 20 0 0 hb4 (fun n => rfl) ?_
    exact iv_blk 2 (fun n => rfl) (x38_r5_2_4_ok (g := (im_w (im_w g 6 10 y1) 7 10 (-1 : Int32))) (y0 := y0) (y1 := y0) h)
def x38_r5_2_2 (g : im_M) (y0 : Int32) (y1 : Int32) : Option (Int32 × im_M) :=
  bif Op.if_icmp.holds .ne (g 7 10) (-1 : Int32) then
    (x38_r5_2_3 (im_w (im_w g 6 9 y1) 7 9 (-1 : Int32)) y0 (g 7 10))
  else
    (x38_r5_2_3 (im_w (im_w g 6 9 y1) 7 9 (-1 : Int32)) y0 y0)
set_option maxRecDepth 100000 in
set_option maxHeartbeats 4000000 in
theorem x38_r5_2_2_ok {L : Nat} {xs : Nat → Int32} {g u mm : im_M} {o : Nat → Int64} {Y : iv_A} {y0 y1 ret : Int32} (h : x38_r5_2_2 g y0 y1 = some (ret, mm)) : iv_ev (iv_Xs L xs) 38 42 [.ref 8, .int (2 : Int32), .int y0, .int (1 : Int32), .int (9 : Int32)] [.int y1, .int (9 : Int32), .ref 9] (im_H g u o Y) 0 0 (.inl none, im_H mm u o Y) := by
  unfold x38_r5_2_2 at h
  refine iv_blk (mi' := 38) (pc' := 43) (ls' := [.ref 8, .int (2 : Int32), .int y0, .int (1 : Int32), .int (9 : Int32)]) (st' := []) (A' := List.set (im_H g u o Y) 6 (.inl (0, 16, .inl (upd (g 6) 9 y1)))) (c' := 0) (s' := 0) 1 (fun n => rfl) ?_
  rw [im_a6]
  refine iv_blk (mi' := 38) (pc' := 51) (ls' := [.ref 8, .int (2 : Int32), .int y0, .int (1 : Int32), .int (9 : Int32)]) (st' := []) (A' := List.set (im_H (im_w g 6 9 y1) u o Y) 7 (.inl (0, 16, .inl (upd ((im_w g 6 9 y1) 7) 9 (-1 : Int32))))) (c' := 0) (s' := 0) 5 (fun n => rfl) ?_
  rw [im_a7]
  cases hb3 : Op.if_icmp.holds .ne (g 7 10) (-1 : Int32) with
  | true =>
    rw [hb3] at h
    simp only [cond_true] at h
    refine iv_brt (mi' := 38) (pc' := 35) (ls' := [.ref 8, .int (2 : Int32), .int y0, .int (2 : Int32), .int (10 : Int32)]) (st' := [.int (10 : Int32), .ref 9]) (A' := im_H (im_w (im_w g 6 9 y1) 7 9 (-1 : Int32)) u o Y) (c' := 0) (s' := 0) (mi'' := 38) (pc'' := 31) (ls'' := [.ref 8, .int (2 : Int32), .int y0, .int (2 : Int32), .int (10 : Int32)]) (st'' := [.int (10 : Int32), .ref 9]) (A'' := im_H (im_w (im_w g 6 9 y1) 7 9 (-1 : Int32)) u o Y) (c'' := 0) (s'' := 0) 20 0 0 hb3 (fun n => rfl) ?_
    exact iv_blk 4 (fun n => rfl) (x38_r5_2_3_ok (g := (im_w (im_w g 6 9 y1) 7 9 (-1 : Int32))) (y0 := y0) (y1 := (g 7 10)) h)
  | false =>
    rw [hb3] at h
    simp only [cond_false] at h
    refine iv_brf (mi' := 38) (pc' := 35) (ls' := [.ref 8, .int (2 : Int32), .int y0, .int (2 : Int32), .int (10 : Int32)]) (st' := [.int (10 : Int32), .ref 9]) (A' := im_H (im_w (im_w g 6 9 y1) 7 9 (-1 : Int32)) u o Y) (c' := 0) (s' := 0) (mi'' := 38) (pc'' := 31) (ls'' := [.ref 8, .int (2 : Int32), .int y0, .int (2 : Int32), .int (10 : Int32)]) (st'' := [.int (10 : Int32), .ref 9]) (A'' := im_H (im_w (im_w g 6 9 y1) 7 9 (-1 : Int32)) u o Y) (c'' := 0) (s'' := 0) 20 0 0 hb3 (fun n => rfl) ?_
    exact iv_blk 2 (fun n => rfl) (x38_r5_2_3_ok (g := (im_w (im_w g 6 9 y1) 7 9 (-1 : Int32))) (y0 := y0) (y1 := y0) h)
def x38_r5_2_1 (g : im_M) (y0 : Int32) (y1 : Int32) : Option (Int32 × im_M) :=
  bif Op.if_icmp.holds .ne (g 7 9) (-1 : Int32) then
    (x38_r5_2_2 (im_w (im_w g 6 8 y1) 7 8 (-1 : Int32)) y0 (g 7 9))
  else
    (x38_r5_2_2 (im_w (im_w g 6 8 y1) 7 8 (-1 : Int32)) y0 y0)
set_option maxRecDepth 100000 in
set_option maxHeartbeats 4000000 in
theorem x38_r5_2_1_ok {L : Nat} {xs : Nat → Int32} {g u mm : im_M} {o : Nat → Int64} {Y : iv_A} {y0 y1 ret : Int32} (h : x38_r5_2_1 g y0 y1 = some (ret, mm)) : iv_ev (iv_Xs L xs) 38 42 [.ref 8, .int (2 : Int32), .int y0, .int (0 : Int32), .int (8 : Int32)] [.int y1, .int (8 : Int32), .ref 9] (im_H g u o Y) 0 0 (.inl none, im_H mm u o Y) := by
  unfold x38_r5_2_1 at h
  refine iv_blk (mi' := 38) (pc' := 43) (ls' := [.ref 8, .int (2 : Int32), .int y0, .int (0 : Int32), .int (8 : Int32)]) (st' := []) (A' := List.set (im_H g u o Y) 6 (.inl (0, 16, .inl (upd (g 6) 8 y1)))) (c' := 0) (s' := 0) 1 (fun n => rfl) ?_
  rw [im_a6]
  refine iv_blk (mi' := 38) (pc' := 51) (ls' := [.ref 8, .int (2 : Int32), .int y0, .int (0 : Int32), .int (8 : Int32)]) (st' := []) (A' := List.set (im_H (im_w g 6 8 y1) u o Y) 7 (.inl (0, 16, .inl (upd ((im_w g 6 8 y1) 7) 8 (-1 : Int32))))) (c' := 0) (s' := 0) 5 (fun n => rfl) ?_
  rw [im_a7]
  cases hb2 : Op.if_icmp.holds .ne (g 7 9) (-1 : Int32) with
  | true =>
    rw [hb2] at h
    simp only [cond_true] at h
    refine iv_brt (mi' := 38) (pc' := 35) (ls' := [.ref 8, .int (2 : Int32), .int y0, .int (1 : Int32), .int (9 : Int32)]) (st' := [.int (9 : Int32), .ref 9]) (A' := im_H (im_w (im_w g 6 8 y1) 7 8 (-1 : Int32)) u o Y) (c' := 0) (s' := 0) (mi'' := 38) (pc'' := 31) (ls'' := [.ref 8, .int (2 : Int32), .int y0, .int (1 : Int32), .int (9 : Int32)]) (st'' := [.int (9 : Int32), .ref 9]) (A'' := im_H (im_w (im_w g 6 8 y1) 7 8 (-1 : Int32)) u o Y) (c'' := 0) (s'' := 0) 20 0 0 hb2 (fun n => rfl) ?_
    exact iv_blk 4 (fun n => rfl) (x38_r5_2_2_ok (g := (im_w (im_w g 6 8 y1) 7 8 (-1 : Int32))) (y0 := y0) (y1 := (g 7 9)) h)
  | false =>
    rw [hb2] at h
    simp only [cond_false] at h
    refine iv_brf (mi' := 38) (pc' := 35) (ls' := [.ref 8, .int (2 : Int32), .int y0, .int (1 : Int32), .int (9 : Int32)]) (st' := [.int (9 : Int32), .ref 9]) (A' := im_H (im_w (im_w g 6 8 y1) 7 8 (-1 : Int32)) u o Y) (c' := 0) (s' := 0) (mi'' := 38) (pc'' := 31) (ls'' := [.ref 8, .int (2 : Int32), .int y0, .int (1 : Int32), .int (9 : Int32)]) (st'' := [.int (9 : Int32), .ref 9]) (A'' := im_H (im_w (im_w g 6 8 y1) 7 8 (-1 : Int32)) u o Y) (c'' := 0) (s'' := 0) 20 0 0 hb2 (fun n => rfl) ?_
    exact iv_blk 2 (fun n => rfl) (x38_r5_2_2_ok (g := (im_w (im_w g 6 8 y1) 7 8 (-1 : Int32))) (y0 := y0) (y1 := y0) h)
def x38_r5_2 (g : im_M) (a : Int32) : Option (Int32 × im_M) :=
  bif Op.if_icmp.holds .ne (g 7 8) (-1 : Int32) then
    (x38_r5_2_1 g a (g 7 8))
  else
    (x38_r5_2_1 g a a)
set_option maxRecDepth 100000 in
set_option maxHeartbeats 4000000 in
theorem x38_r5_2_ok {L : Nat} {xs : Nat → Int32} {g u mm : im_M} {o : Nat → Int64} {Y : iv_A} {a ret : Int32} (h : x38_r5_2 g a = some (ret, mm)) : iv_ev (iv_Xs L xs) 38 0 [.ref 8, .int (2 : Int32), .int a, .retAddr 0, .retAddr 0] [] (im_H g u o Y) 0 0 (.inl none, im_H mm u o Y) := by
  unfold x38_r5_2 at h
  cases hb1 : Op.if_icmp.holds .ne (g 7 8) (-1 : Int32) with
  | true =>
    rw [hb1] at h
    simp only [cond_true] at h
    refine iv_brt (mi' := 38) (pc' := 35) (ls' := [.ref 8, .int (2 : Int32), .int a, .int (0 : Int32), .int (8 : Int32)]) (st' := [.int (8 : Int32), .ref 9]) (A' := im_H g u o Y) (c' := 0) (s' := 0) (mi'' := 38) (pc'' := 31) (ls'' := [.ref 8, .int (2 : Int32), .int a, .int (0 : Int32), .int (8 : Int32)]) (st'' := [.int (8 : Int32), .ref 9]) (A'' := im_H g u o Y) (c'' := 0) (s'' := 0) 20 0 0 hb1 (fun n => rfl) ?_
    exact iv_blk 4 (fun n => rfl) (x38_r5_2_1_ok (g := g) (y0 := a) (y1 := (g 7 8)) h)
  | false =>
    rw [hb1] at h
    simp only [cond_false] at h
    refine iv_brf (mi' := 38) (pc' := 35) (ls' := [.ref 8, .int (2 : Int32), .int a, .int (0 : Int32), .int (8 : Int32)]) (st' := [.int (8 : Int32), .ref 9]) (A' := im_H g u o Y) (c' := 0) (s' := 0) (mi'' := 38) (pc'' := 31) (ls'' := [.ref 8, .int (2 : Int32), .int a, .int (0 : Int32), .int (8 : Int32)]) (st'' := [.int (8 : Int32), .ref 9]) (A'' := im_H g u o Y) (c'' := 0) (s'' := 0) 20 0 0 hb1 (fun n => rfl) ?_
    exact iv_blk 2 (fun n => rfl) (x38_r5_2_1_ok (g := g) (y0 := a) (y1 := a) h)
def x38_r5_3_4 (g : im_M) (y0 : Int32) (y1 : Int32) : Option (Int32 × im_M) :=
  some (0, (im_w (im_w g 6 15 y1) 7 15 (-1 : Int32)))
set_option maxRecDepth 100000 in
set_option maxHeartbeats 4000000 in
theorem x38_r5_3_4_ok {L : Nat} {xs : Nat → Int32} {g u mm : im_M} {o : Nat → Int64} {Y : iv_A} {y0 y1 ret : Int32} (h : x38_r5_3_4 g y0 y1 = some (ret, mm)) : iv_ev (iv_Xs L xs) 38 42 [.ref 8, .int (3 : Int32), .int y0, .int (3 : Int32), .int (15 : Int32)] [.int y1, .int (15 : Int32), .ref 9] (im_H g u o Y) 0 0 (.inl none, im_H mm u o Y) := by
  unfold x38_r5_3_4 at h
  refine iv_blk (mi' := 38) (pc' := 43) (ls' := [.ref 8, .int (3 : Int32), .int y0, .int (3 : Int32), .int (15 : Int32)]) (st' := []) (A' := List.set (im_H g u o Y) 6 (.inl (0, 16, .inl (upd (g 6) 15 y1)))) (c' := 0) (s' := 0) 1 (fun n => rfl) ?_
  rw [im_a6]
  refine iv_blk (mi' := 38) (pc' := 51) (ls' := [.ref 8, .int (3 : Int32), .int y0, .int (3 : Int32), .int (15 : Int32)]) (st' := []) (A' := List.set (im_H (im_w g 6 15 y1) u o Y) 7 (.inl (0, 16, .inl (upd ((im_w g 6 15 y1) 7) 15 (-1 : Int32))))) (c' := 0) (s' := 0) 5 (fun n => rfl) ?_
  rw [im_a7]
  cases h
  exact iv_ret 6 (fun n => rfl)
def x38_r5_3_3 (g : im_M) (y0 : Int32) (y1 : Int32) : Option (Int32 × im_M) :=
  bif Op.if_icmp.holds .ne (g 7 15) (-1 : Int32) then
    (x38_r5_3_4 (im_w (im_w g 6 14 y1) 7 14 (-1 : Int32)) y0 (g 7 15))
  else
    (x38_r5_3_4 (im_w (im_w g 6 14 y1) 7 14 (-1 : Int32)) y0 y0)
set_option maxRecDepth 100000 in
set_option maxHeartbeats 4000000 in
theorem x38_r5_3_3_ok {L : Nat} {xs : Nat → Int32} {g u mm : im_M} {o : Nat → Int64} {Y : iv_A} {y0 y1 ret : Int32} (h : x38_r5_3_3 g y0 y1 = some (ret, mm)) : iv_ev (iv_Xs L xs) 38 42 [.ref 8, .int (3 : Int32), .int y0, .int (2 : Int32), .int (14 : Int32)] [.int y1, .int (14 : Int32), .ref 9] (im_H g u o Y) 0 0 (.inl none, im_H mm u o Y) := by
  unfold x38_r5_3_3 at h
  refine iv_blk (mi' := 38) (pc' := 43) (ls' := [.ref 8, .int (3 : Int32), .int y0, .int (2 : Int32), .int (14 : Int32)]) (st' := []) (A' := List.set (im_H g u o Y) 6 (.inl (0, 16, .inl (upd (g 6) 14 y1)))) (c' := 0) (s' := 0) 1 (fun n => rfl) ?_
  rw [im_a6]
  refine iv_blk (mi' := 38) (pc' := 51) (ls' := [.ref 8, .int (3 : Int32), .int y0, .int (2 : Int32), .int (14 : Int32)]) (st' := []) (A' := List.set (im_H (im_w g 6 14 y1) u o Y) 7 (.inl (0, 16, .inl (upd ((im_w g 6 14 y1) 7) 14 (-1 : Int32))))) (c' := 0) (s' := 0) 5 (fun n => rfl) ?_
  rw [im_a7]
  cases hb4 : Op.if_icmp.holds .ne (g 7 15) (-1 : Int32) with
  | true =>
    rw [hb4] at h
    simp only [cond_true] at h
    refine iv_brt (mi' := 38) (pc' := 35) (ls' := [.ref 8, .int (3 : Int32), .int y0, .int (3 : Int32), .int (15 : Int32)]) (st' := [.int (15 : Int32), .ref 9]) (A' := im_H (im_w (im_w g 6 14 y1) 7 14 (-1 : Int32)) u o Y) (c' := 0) (s' := 0) (mi'' := 38) (pc'' := 31) (ls'' := [.ref 8, .int (3 : Int32), .int y0, .int (3 : Int32), .int (15 : Int32)]) (st'' := [.int (15 : Int32), .ref 9]) (A'' := im_H (im_w (im_w g 6 14 y1) 7 14 (-1 : Int32)) u o Y) (c'' := 0) (s'' := 0) 20 0 0 hb4 (fun n => rfl) ?_
    exact iv_blk 4 (fun n => rfl) (x38_r5_3_4_ok (g := (im_w (im_w g 6 14 y1) 7 14 (-1 : Int32))) (y0 := y0) (y1 := (g 7 15)) h)
  | false =>
    rw [hb4] at h
    simp only [cond_false] at h
    refine iv_brf (mi' := 38) (pc' := 35) (ls' := [.ref 8, .int (3 : Int32), .int y0, .int (3 : Int32), .int (15 : Int32)]) (st' := [.int (15 : Int32), .ref 9]) (A' := im_H (im_w (im_w g 6 14 y1) 7 14 (-1 : Int32)) u o Y) (c' := 0) (s' := 0) (mi'' := 38) (pc'' := 31) (ls'' := [.ref 8, .int (3 : Int32), .int y0, .int (3 : Int32), .int (15 : Int32)]) (st'' := [.int (15 : Int32), .ref 9]) (A'' := im_H (im_w (im_w g 6 14 y1) 7 14 (-1 : Int32)) u o Y) (c'' := 0) (s'' := 0) 20 0 0 hb4 (fun n => rfl) ?_
    exact iv_blk 2 (fun n => rfl) (x38_r5_3_4_ok (g := (im_w (im_w g 6 14 y1) 7 14 (-1 : Int32))) (y0 := y0) (y1 := y0) h)
def x38_r5_3_2 (g : im_M) (y0 : Int32) (y1 : Int32) : Option (Int32 × im_M) :=
  bif Op.if_icmp.holds .ne (g 7 14) (-1 : Int32) then
    (x38_r5_3_3 (im_w (im_w g 6 13 y1) 7 13 (-1 : Int32)) y0 (g 7 14))
  else
    (x38_r5_3_3 (im_w (im_w g 6 13 y1) 7 13 (-1 : Int32)) y0 y0)
set_option maxRecDepth 100000 in
set_option maxHeartbeats 4000000 in
theorem x38_r5_3_2_ok {L : Nat} {xs : Nat → Int32} {g u mm : im_M} {o : Nat → Int64} {Y : iv_A} {y0 y1 ret : Int32} (h : x38_r5_3_2 g y0 y1 = some (ret, mm)) : iv_ev (iv_Xs L xs) 38 42 [.ref 8, .int (3 : Int32), .int y0, .int (1 : Int32), .int (13 : Int32)] [.int y1, .int (13 : Int32), .ref 9] (im_H g u o Y) 0 0 (.inl none, im_H mm u o Y) := by
  unfold x38_r5_3_2 at h
  refine iv_blk (mi' := 38) (pc' := 43) (ls' := [.ref 8, .int (3 : Int32), .int y0, .int (1 : Int32), .int (13 : Int32)]) (st' := []) (A' := List.set (im_H g u o Y) 6 (.inl (0, 16, .inl (upd (g 6) 13 y1)))) (c' := 0) (s' := 0) 1 (fun n => rfl) ?_
  rw [im_a6]
  refine iv_blk (mi' := 38) (pc' := 51) (ls' := [.ref 8, .int (3 : Int32), .int y0, .int (1 : Int32), .int (13 : Int32)]) (st' := []) (A' := List.set (im_H (im_w g 6 13 y1) u o Y) 7 (.inl (0, 16, .inl (upd ((im_w g 6 13 y1) 7) 13 (-1 : Int32))))) (c' := 0) (s' := 0) 5 (fun n => rfl) ?_
  rw [im_a7]
  cases hb3 : Op.if_icmp.holds .ne (g 7 14) (-1 : Int32) with
  | true =>
    rw [hb3] at h
    simp only [cond_true] at h
    refine iv_brt (mi' := 38) (pc' := 35) (ls' := [.ref 8, .int (3 : Int32), .int y0, .int (2 : Int32), .int (14 : Int32)]) (st' := [.int (14 : Int32), .ref 9]) (A' := im_H (im_w (im_w g 6 13 y1) 7 13 (-1 : Int32)) u o Y) (c' := 0) (s' := 0) (mi'' := 38) (pc'' := 31) (ls'' := [.ref 8, .int (3 : Int32), .int y0, .int (2 : Int32), .int (14 : Int32)]) (st'' := [.int (14 : Int32), .ref 9]) (A'' := im_H (im_w (im_w g 6 13 y1) 7 13 (-1 : Int32)) u o Y) (c'' := 0) (s'' := 0) 20 0 0 hb3 (fun n => rfl) ?_
    exact iv_blk 4 (fun n => rfl) (x38_r5_3_3_ok (g := (im_w (im_w g 6 13 y1) 7 13 (-1 : Int32))) (y0 := y0) (y1 := (g 7 14)) h)
  | false =>
    rw [hb3] at h
    simp only [cond_false] at h
    refine iv_brf (mi' := 38) (pc' := 35) (ls' := [.ref 8, .int (3 : Int32), .int y0, .int (2 : Int32), .int (14 : Int32)]) (st' := [.int (14 : Int32), .ref 9]) (A' := im_H (im_w (im_w g 6 13 y1) 7 13 (-1 : Int32)) u o Y) (c' := 0) (s' := 0) (mi'' := 38) (pc'' := 31) (ls'' := [.ref 8, .int (3 : Int32), .int y0, .int (2 : Int32), .int (14 : Int32)]) (st'' := [.int (14 : Int32), .ref 9]) (A'' := im_H (im_w (im_w g 6 13 y1) 7 13 (-1 : Int32)) u o Y) (c'' := 0) (s'' := 0) 20 0 0 hb3 (fun n => rfl) ?_
    exact iv_blk 2 (fun n => rfl) (x38_r5_3_3_ok (g := (im_w (im_w g 6 13 y1) 7 13 (-1 : Int32))) (y0 := y0) (y1 := y0) h)
def x38_r5_3_1 (g : im_M) (y0 : Int32) (y1 : Int32) : Option (Int32 × im_M) :=
  bif Op.if_icmp.holds .ne (g 7 13) (-1 : Int32) then
    (x38_r5_3_2 (im_w (im_w g 6 12 y1) 7 12 (-1 : Int32)) y0 (g 7 13))
  else
    (x38_r5_3_2 (im_w (im_w g 6 12 y1) 7 12 (-1 : Int32)) y0 y0)
set_option maxRecDepth 100000 in
set_option maxHeartbeats 4000000 in
theorem x38_r5_3_1_ok {L : Nat} {xs : Nat → Int32} {g u mm : im_M} {o : Nat → Int64} {Y : iv_A} {y0 y1 ret : Int32} (h : x38_r5_3_1 g y0 y1 = some (ret, mm)) : iv_ev (iv_Xs L xs) 38 42 [.ref 8, .int (3 : Int32), .int y0, .int (0 : Int32), .int (12 : Int32)] [.int y1, .int (12 : Int32), .ref 9] (im_H g u o Y) 0 0 (.inl none, im_H mm u o Y) := by
  unfold x38_r5_3_1 at h
  refine iv_blk (mi' := 38) (pc' := 43) (ls' := [.ref 8, .int (3 : Int32), .int y0, .int (0 : Int32), .int (12 : Int32)]) (st' := []) (A' := List.set (im_H g u o Y) 6 (.inl (0, 16, .inl (upd (g 6) 12 y1)))) (c' := 0) (s' := 0) 1 (fun n => rfl) ?_
  rw [im_a6]
  refine iv_blk (mi' := 38) (pc' := 51) (ls' := [.ref 8, .int (3 : Int32), .int y0, .int (0 : Int32), .int (12 : Int32)]) (st' := []) (A' := List.set (im_H (im_w g 6 12 y1) u o Y) 7 (.inl (0, 16, .inl (upd ((im_w g 6 12 y1) 7) 12 (-1 : Int32))))) (c' := 0) (s' := 0) 5 (fun n => rfl) ?_
  rw [im_a7]
  cases hb2 : Op.if_icmp.holds .ne (g 7 13) (-1 : Int32) with
  | true =>
    rw [hb2] at h
    simp only [cond_true] at h
    refine iv_brt (mi' := 38) (pc' := 35) (ls' := [.ref 8, .int (3 : Int32), .int y0, .int (1 : Int32), .int (13 : Int32)]) (st' := [.int (13 : Int32), .ref 9]) (A' := im_H (im_w (im_w g 6 12 y1) 7 12 (-1 : Int32)) u o Y) (c' := 0) (s' := 0) (mi'' := 38) (pc'' := 31) (ls'' := [.ref 8, .int (3 : Int32), .int y0, .int (1 : Int32), .int (13 : Int32)]) (st'' := [.int (13 : Int32), .ref 9]) (A'' := im_H (im_w (im_w g 6 12 y1) 7 12 (-1 : Int32)) u o Y) (c'' := 0) (s'' := 0) 20 0 0 hb2 (fun n => rfl) ?_
    exact iv_blk 4 (fun n => rfl) (x38_r5_3_2_ok (g := (im_w (im_w g 6 12 y1) 7 12 (-1 : Int32))) (y0 := y0) (y1 := (g 7 13)) h)
  | false =>
    rw [hb2] at h
    simp only [cond_false] at h
    refine iv_brf (mi' := 38) (pc' := 35) (ls' := [.ref 8, .int (3 : Int32), .int y0, .int (1 : Int32), .int (13 : Int32)]) (st' := [.int (13 : Int32), .ref 9]) (A' := im_H (im_w (im_w g 6 12 y1) 7 12 (-1 : Int32)) u o Y) (c' := 0) (s' := 0) (mi'' := 38) (pc'' := 31) (ls'' := [.ref 8, .int (3 : Int32), .int y0, .int (1 : Int32), .int (13 : Int32)]) (st'' := [.int (13 : Int32), .ref 9]) (A'' := im_H (im_w (im_w g 6 12 y1) 7 12 (-1 : Int32)) u o Y) (c'' := 0) (s'' := 0) 20 0 0 hb2 (fun n => rfl) ?_
    exact iv_blk 2 (fun n => rfl) (x38_r5_3_2_ok (g := (im_w (im_w g 6 12 y1) 7 12 (-1 : Int32))) (y0 := y0) (y1 := y0) h)
def x38_r5_3 (g : im_M) (a : Int32) : Option (Int32 × im_M) :=
  bif Op.if_icmp.holds .ne (g 7 12) (-1 : Int32) then
    (x38_r5_3_1 g a (g 7 12))
  else
    (x38_r5_3_1 g a a)
set_option maxRecDepth 100000 in
set_option maxHeartbeats 4000000 in
theorem x38_r5_3_ok {L : Nat} {xs : Nat → Int32} {g u mm : im_M} {o : Nat → Int64} {Y : iv_A} {a ret : Int32} (h : x38_r5_3 g a = some (ret, mm)) : iv_ev (iv_Xs L xs) 38 0 [.ref 8, .int (3 : Int32), .int a, .retAddr 0, .retAddr 0] [] (im_H g u o Y) 0 0 (.inl none, im_H mm u o Y) := by
  unfold x38_r5_3 at h
  cases hb1 : Op.if_icmp.holds .ne (g 7 12) (-1 : Int32) with
  | true =>
    rw [hb1] at h
    simp only [cond_true] at h
    refine iv_brt (mi' := 38) (pc' := 35) (ls' := [.ref 8, .int (3 : Int32), .int a, .int (0 : Int32), .int (12 : Int32)]) (st' := [.int (12 : Int32), .ref 9]) (A' := im_H g u o Y) (c' := 0) (s' := 0) (mi'' := 38) (pc'' := 31) (ls'' := [.ref 8, .int (3 : Int32), .int a, .int (0 : Int32), .int (12 : Int32)]) (st'' := [.int (12 : Int32), .ref 9]) (A'' := im_H g u o Y) (c'' := 0) (s'' := 0) 20 0 0 hb1 (fun n => rfl) ?_
    exact iv_blk 4 (fun n => rfl) (x38_r5_3_1_ok (g := g) (y0 := a) (y1 := (g 7 12)) h)
  | false =>
    rw [hb1] at h
    simp only [cond_false] at h
    refine iv_brf (mi' := 38) (pc' := 35) (ls' := [.ref 8, .int (3 : Int32), .int a, .int (0 : Int32), .int (12 : Int32)]) (st' := [.int (12 : Int32), .ref 9]) (A' := im_H g u o Y) (c' := 0) (s' := 0) (mi'' := 38) (pc'' := 31) (ls'' := [.ref 8, .int (3 : Int32), .int a, .int (0 : Int32), .int (12 : Int32)]) (st'' := [.int (12 : Int32), .ref 9]) (A'' := im_H g u o Y) (c'' := 0) (s'' := 0) 20 0 0 hb1 (fun n => rfl) ?_
    exact iv_blk 2 (fun n => rfl) (x38_r5_3_1_ok (g := g) (y0 := a) (y1 := a) h)
def x35_r8_1 (g : im_M) (y0 : Int32) (y1 : Int32) : Option (Int32 × im_M) :=
  some (y1, g)
set_option maxRecDepth 100000 in
set_option maxHeartbeats 4000000 in
theorem x35_r8_1_ok {L : Nat} {xs : Nat → Int32} {g u mm : im_M} {o : Nat → Int64} {Y : iv_A} {y0 y1 ret : Int32} (h : x35_r8_1 g y0 y1 = some (ret, mm)) : iv_ev (iv_Xs L xs) 35 20 [.ref 11, .int y0] [.int y1] (im_H g u o Y) 0 0 (.inl (some (.int ret)), im_H mm u o Y) := by
  unfold x35_r8_1 at h
  cases h
  exact iv_ret 1 (fun n => rfl)
def x35_r8 (g : im_M) (a : Int32) : Option (Int32 × im_M) :=
  bif Op.if_icmp.holds .ne (g 8 0) a then
    (x35_r8_1 g a (0 : Int32))
  else
    (x35_r8_1 g a ((1 : Int32) <<< (((3 : Int32) + (g 8 1)) &&& 31)))
set_option maxRecDepth 100000 in
set_option maxHeartbeats 4000000 in
theorem x35_r8_ok {L : Nat} {xs : Nat → Int32} {g u mm : im_M} {o : Nat → Int64} {Y : iv_A} {a ret : Int32} (h : x35_r8 g a = some (ret, mm)) : iv_ev (iv_Xs L xs) 35 0 [.ref 11, .int a] [] (im_H g u o Y) 0 0 (.inl (some (.int ret)), im_H mm u o Y) := by
  unfold x35_r8 at h
  cases hb1 : Op.if_icmp.holds .ne (g 8 0) a with
  | true =>
    rw [hb1] at h
    simp only [cond_true] at h
    refine iv_brt (mi' := 35) (pc' := 19) (ls' := [.ref 11, .int a]) (st' := []) (A' := im_H g u o Y) (c' := 0) (s' := 0) (mi'' := 35) (pc'' := 8) (ls'' := [.ref 11, .int a]) (st'' := []) (A'' := im_H g u o Y) (c'' := 0) (s'' := 0) 4 0 0 hb1 (fun n => rfl) ?_
    exact iv_blk 1 (fun n => rfl) (x35_r8_1_ok (g := g) (y0 := a) (y1 := (0 : Int32)) h)
  | false =>
    rw [hb1] at h
    simp only [cond_false] at h
    refine iv_brf (mi' := 35) (pc' := 19) (ls' := [.ref 11, .int a]) (st' := []) (A' := im_H g u o Y) (c' := 0) (s' := 0) (mi'' := 35) (pc'' := 8) (ls'' := [.ref 11, .int a]) (st'' := []) (A'' := im_H g u o Y) (c'' := 0) (s'' := 0) 4 0 0 hb1 (fun n => rfl) ?_
    exact iv_blk 7 (fun n => rfl) (x35_r8_1_ok (g := g) (y0 := a) (y1 := ((1 : Int32) <<< (((3 : Int32) + (g 8 1)) &&& 31))) h)
def x36_r8_1 (g : im_M) (y0 : Int32) : Option (Int32 × im_M) :=
  some (0, (im_w g 8 0 (-1 : Int32)))
set_option maxRecDepth 100000 in
set_option maxHeartbeats 4000000 in
theorem x36_r8_1_ok {L : Nat} {xs : Nat → Int32} {g u mm : im_M} {o : Nat → Int64} {Y : iv_A} {y0 ret : Int32} (h : x36_r8_1 g y0 = some (ret, mm)) : iv_ev (iv_Xs L xs) 36 27 [.ref 11, .int y0] [] (im_H g u o Y) 0 0 (.inl none, im_H mm u o Y) := by
  unfold x36_r8_1 at h
  refine iv_blk (mi' := 36) (pc' := 32) (ls' := [.ref 11, .int y0]) (st' := []) (A' := List.set (im_H g u o Y) 8 (.inr (4, List.set [.int (g 8 0), .int (g 8 1), .int (g 8 2), .int (g 8 3), .int (g 8 4)] 0 (.int (-1 : Int32))))) (c' := 0) (s' := 0) 3 (fun n => rfl) ?_
  rw [im_f8_0]
  cases h
  exact iv_ret 1 (fun n => rfl)
def x36_r8 (g : im_M) (a : Int32) : Option (Int32 × im_M) :=
  bif Op.ifCond.holds .eq a then
    (x36_r8_1 (im_w g 8 4 ((g 8 4) + (1 : Int32))) a)
  else
    (x36_r8_1 (im_w g 8 3 ((g 8 3) + (1 : Int32))) a)
set_option maxRecDepth 100000 in
set_option maxHeartbeats 4000000 in
theorem x36_r8_ok {L : Nat} {xs : Nat → Int32} {g u mm : im_M} {o : Nat → Int64} {Y : iv_A} {a ret : Int32} (h : x36_r8 g a = some (ret, mm)) : iv_ev (iv_Xs L xs) 36 0 [.ref 11, .int a] [] (im_H g u o Y) 0 0 (.inl none, im_H mm u o Y) := by
  unfold x36_r8 at h
  cases hb1 : Op.ifCond.holds .eq a with
  | true =>
    rw [hb1] at h
    simp only [cond_true] at h
    refine iv_brt (mi' := 36) (pc' := 17) (ls' := [.ref 11, .int a]) (st' := []) (A' := im_H g u o Y) (c' := 0) (s' := 0) (mi'' := 36) (pc'' := 4) (ls'' := [.ref 11, .int a]) (st'' := []) (A'' := im_H g u o Y) (c'' := 0) (s'' := 0) 2 0 0 hb1 (fun n => rfl) ?_
    refine iv_blk (mi' := 36) (pc' := 27) (ls' := [.ref 11, .int a]) (st' := []) (A' := List.set (im_H g u o Y) 8 (.inr (4, List.set [.int (g 8 0), .int (g 8 1), .int (g 8 2), .int (g 8 3), .int (g 8 4)] 4 (.int ((g 8 4) + (1 : Int32)))))) (c' := 0) (s' := 0) 6 (fun n => rfl) ?_
    rw [im_f8_4]
    exact x36_r8_1_ok (g := (im_w g 8 4 ((g 8 4) + (1 : Int32)))) (y0 := a) h
  | false =>
    rw [hb1] at h
    simp only [cond_false] at h
    refine iv_brf (mi' := 36) (pc' := 17) (ls' := [.ref 11, .int a]) (st' := []) (A' := im_H g u o Y) (c' := 0) (s' := 0) (mi'' := 36) (pc'' := 4) (ls'' := [.ref 11, .int a]) (st'' := []) (A'' := im_H g u o Y) (c'' := 0) (s'' := 0) 2 0 0 hb1 (fun n => rfl) ?_
    refine iv_blk (mi' := 36) (pc' := 14) (ls' := [.ref 11, .int a]) (st' := []) (A' := List.set (im_H g u o Y) 8 (.inr (4, List.set [.int (g 8 0), .int (g 8 1), .int (g 8 2), .int (g 8 3), .int (g 8 4)] 3 (.int ((g 8 3) + (1 : Int32)))))) (c' := 0) (s' := 0) 6 (fun n => rfl) ?_
    rw [im_f8_3]
    exact iv_blk 1 (fun n => rfl) (x36_r8_1_ok (g := (im_w g 8 3 ((g 8 3) + (1 : Int32)))) (y0 := a) h)
def x61_r8 (g : im_M) (a : Int32) (b : Int32) : Option (Int32 × im_M) :=
  some (0, (im_w (im_w (im_w g 8 0 a) 8 1 b) 8 2 (0 : Int32)))
set_option maxRecDepth 100000 in
set_option maxHeartbeats 4000000 in
theorem x61_r8_ok {L : Nat} {xs : Nat → Int32} {g u mm : im_M} {o : Nat → Int64} {Y : iv_A} {a b ret : Int32} (h : x61_r8 g a b = some (ret, mm)) : iv_ev (iv_Xs L xs) 61 0 [.ref 11, .int a, .int b] [] (im_H g u o Y) 0 0 (.inl none, im_H mm u o Y) := by
  unfold x61_r8 at h
  refine iv_blk (mi' := 61) (pc' := 5) (ls' := [.ref 11, .int a, .int b]) (st' := []) (A' := List.set (im_H g u o Y) 8 (.inr (4, List.set [.int (g 8 0), .int (g 8 1), .int (g 8 2), .int (g 8 3), .int (g 8 4)] 0 (.int a)))) (c' := 0) (s' := 0) 3 (fun n => rfl) ?_
  rw [im_f8_0]
  refine iv_blk (mi' := 61) (pc' := 10) (ls' := [.ref 11, .int a, .int b]) (st' := []) (A' := List.set (im_H (im_w g 8 0 a) u o Y) 8 (.inr (4, List.set [.int ((im_w g 8 0 a) 8 0), .int ((im_w g 8 0 a) 8 1), .int ((im_w g 8 0 a) 8 2), .int ((im_w g 8 0 a) 8 3), .int ((im_w g 8 0 a) 8 4)] 1 (.int b)))) (c' := 0) (s' := 0) 3 (fun n => rfl) ?_
  rw [im_f8_1]
  refine iv_blk (mi' := 61) (pc' := 15) (ls' := [.ref 11, .int a, .int b]) (st' := []) (A' := List.set (im_H (im_w (im_w g 8 0 a) 8 1 b) u o Y) 8 (.inr (4, List.set [.int ((im_w (im_w g 8 0 a) 8 1 b) 8 0), .int ((im_w (im_w g 8 0 a) 8 1 b) 8 1), .int ((im_w (im_w g 8 0 a) 8 1 b) 8 2), .int ((im_w (im_w g 8 0 a) 8 1 b) 8 3), .int ((im_w (im_w g 8 0 a) 8 1 b) 8 4)] 2 (.int (0 : Int32))))) (c' := 0) (s' := 0) 3 (fun n => rfl) ?_
  rw [im_f8_2]
  cases h
  exact iv_ret 1 (fun n => rfl)
def x22_1000 (g : im_M) (a : Int32) : Option (Int32 × im_M) :=
  bif Op.ifCond.holds .ge (a ^^^ (1000 : Int32)) then
    (some ((a / (1000 : Int32)), g))
  else
    (bif Op.if_icmp.holds .eq ((a / (1000 : Int32)) * (1000 : Int32)) a then
      (some ((a / (1000 : Int32)), g))
    else
      (some (((a / (1000 : Int32)) - (1 : Int32)), g)))
set_option maxRecDepth 100000 in
set_option maxHeartbeats 4000000 in
theorem x22_1000_ok {L : Nat} {xs : Nat → Int32} {g u mm : im_M} {o : Nat → Int64} {Y : iv_A} {a ret : Int32} (h : x22_1000 g a = some (ret, mm)) : iv_ev (iv_Xs L xs) 22 0 [.int a, .int (1000 : Int32), .retAddr 0] [] (im_H g u o Y) 0 0 (.inl (some (.int ret)), im_H mm u o Y) := by
  unfold x22_1000 at h
  cases hb1 : Op.ifCond.holds .ge (a ^^^ (1000 : Int32)) with
  | true =>
    rw [hb1] at h
    simp only [cond_true] at h
    refine iv_brt (mi' := 22) (pc' := 21) (ls' := [.int a, .int (1000 : Int32), .int (a / (1000 : Int32))]) (st' := []) (A' := im_H g u o Y) (c' := 0) (s' := 0) (mi'' := 22) (pc'' := 10) (ls'' := [.int a, .int (1000 : Int32), .int (a / (1000 : Int32))]) (st'' := []) (A'' := im_H g u o Y) (c'' := 0) (s'' := 0) 8 0 0 hb1 (fun n => rfl) ?_
    cases h
    exact iv_ret 2 (fun n => rfl)
  | false =>
    rw [hb1] at h
    simp only [cond_false] at h
    refine iv_brf (mi' := 22) (pc' := 21) (ls' := [.int a, .int (1000 : Int32), .int (a / (1000 : Int32))]) (st' := []) (A' := im_H g u o Y) (c' := 0) (s' := 0) (mi'' := 22) (pc'' := 10) (ls'' := [.int a, .int (1000 : Int32), .int (a / (1000 : Int32))]) (st'' := []) (A'' := im_H g u o Y) (c'' := 0) (s'' := 0) 8 0 0 hb1 (fun n => rfl) ?_
    cases hb2 : Op.if_icmp.holds .eq ((a / (1000 : Int32)) * (1000 : Int32)) a with
    | true =>
      rw [hb2] at h
      simp only [cond_true] at h
      refine iv_brt (mi' := 22) (pc' := 21) (ls' := [.int a, .int (1000 : Int32), .int (a / (1000 : Int32))]) (st' := []) (A' := im_H g u o Y) (c' := 0) (s' := 0) (mi'' := 22) (pc'' := 17) (ls'' := [.int a, .int (1000 : Int32), .int (a / (1000 : Int32))]) (st'' := []) (A'' := im_H g u o Y) (c'' := 0) (s'' := 0) 5 0 0 hb2 (fun n => rfl) ?_
      cases h
      exact iv_ret 2 (fun n => rfl)
    | false =>
      rw [hb2] at h
      simp only [cond_false] at h
      refine iv_brf (mi' := 22) (pc' := 21) (ls' := [.int a, .int (1000 : Int32), .int (a / (1000 : Int32))]) (st' := []) (A' := im_H g u o Y) (c' := 0) (s' := 0) (mi'' := 22) (pc'' := 17) (ls'' := [.int a, .int (1000 : Int32), .int (a / (1000 : Int32))]) (st'' := []) (A'' := im_H g u o Y) (c'' := 0) (s'' := 0) 5 0 0 hb2 (fun n => rfl) ?_
      cases h
      exact iv_ret 4 (fun n => rfl)
def x21 (g : im_M) (a : Int32) : Option (Int32 × im_M) :=
  bif Op.if_icmp.holds .lt (a / (1000 : Int32)) (4 : Int32) then
    (bif iv_in ((a / (1000 : Int32)) + (1 : Int32)) 5 then
      bif iv_in (a / (1000 : Int32)) 5 then
        Option.bind (x22_1000 g (((([3600, 3300, 2900, 2200, 1500] : List Int32).getD (((a / (1000 : Int32)) + (1 : Int32))).toNatClampNeg 0) - (([3600, 3300, 2900, 2200, 1500] : List Int32).getD ((a / (1000 : Int32))).toNatClampNeg 0)) * (a - a / (1000 : Int32) * (1000 : Int32)))) (fun (v1, g1) =>
          some (((([3600, 3300, 2900, 2200, 1500] : List Int32).getD ((a / (1000 : Int32))).toNatClampNeg 0) + v1), g1))
      else none
    else none)
  else
    (some ((1500 : Int32), g))
set_option maxRecDepth 100000 in
set_option maxHeartbeats 4000000 in
theorem x21_ok {L : Nat} {xs : Nat → Int32} {g u mm : im_M} {o : Nat → Int64} {Y : iv_A} {a ret : Int32} (h : x21 g a = some (ret, mm)) : iv_ev (iv_Xs L xs) 21 0 [.int a, .retAddr 0, .retAddr 0] [] (im_H g u o Y) 0 0 (.inl (some (.int ret)), im_H mm u o Y) := by
  unfold x21 at h
  cases hb1 : Op.if_icmp.holds .lt (a / (1000 : Int32)) (4 : Int32) with
  | true =>
    rw [hb1] at h
    simp only [cond_true] at h
    refine iv_brt (mi' := 21) (pc' := 27) (ls' := [.int a, .int (a / (1000 : Int32)), .retAddr 0]) (st' := []) (A' := im_H g u o Y) (c' := 0) (s' := 0) (mi'' := 21) (pc'' := 16) (ls'' := [.int a, .int (a / (1000 : Int32)), .retAddr 0]) (st'' := []) (A'' := im_H g u o Y) (c'' := 0) (s'' := 0) 10 0 0 hb1 (fun n => rfl) ?_
    cases hb2 : iv_in ((a / (1000 : Int32)) + (1 : Int32)) 5 with
    | false => rw [hb2] at h; cases h
    | true =>
      rw [hb2] at h
      simp only [cond_true] at h
      refine iv_chk (mi' := 21) (pc' := 34) (ls' := [.int a, .int (a / (1000 : Int32)), .retAddr 0]) (st' := [.int (([3600, 3300, 2900, 2200, 1500] : List Int32).getD (((a / (1000 : Int32)) + (1 : Int32))).toNatClampNeg 0)]) (A' := im_H g u o Y) (c' := 0) (s' := 0) 5 hb2 (fun n => rfl) ?_
      cases hb3 : iv_in (a / (1000 : Int32)) 5 with
      | false => rw [hb3] at h; cases h
      | true =>
        rw [hb3] at h
        simp only [cond_true] at h
        refine iv_chk (mi' := 21) (pc' := 39) (ls' := [.int a, .int (a / (1000 : Int32)), .retAddr 0]) (st' := [.int (([3600, 3300, 2900, 2200, 1500] : List Int32).getD ((a / (1000 : Int32))).toNatClampNeg 0), .int (([3600, 3300, 2900, 2200, 1500] : List Int32).getD (((a / (1000 : Int32)) + (1 : Int32))).toNatClampNeg 0)]) (A' := im_H g u o Y) (c' := 0) (s' := 0) 3 hb3 (fun n => rfl) ?_
        refine iv_chk (mi' := 21) (pc' := 46) (ls' := [.int a, .int (a / (1000 : Int32)), .int ((([3600, 3300, 2900, 2200, 1500] : List Int32).getD (((a / (1000 : Int32)) + (1 : Int32))).toNatClampNeg 0) - (([3600, 3300, 2900, 2200, 1500] : List Int32).getD ((a / (1000 : Int32))).toNatClampNeg 0))]) (st' := [.int (([3600, 3300, 2900, 2200, 1500] : List Int32).getD ((a / (1000 : Int32))).toNatClampNeg 0)]) (A' := im_H g u o Y) (c' := 0) (s' := 0) 5 hb3 (fun n => rfl) ?_
        cases hc : x22_1000 g (((([3600, 3300, 2900, 2200, 1500] : List Int32).getD (((a / (1000 : Int32)) + (1 : Int32))).toNatClampNeg 0) - (([3600, 3300, 2900, 2200, 1500] : List Int32).getD ((a / (1000 : Int32))).toNatClampNeg 0)) * (a - a / (1000 : Int32) * (1000 : Int32))) with
        | none => rw [hc] at h; cases h
        | some q =>
          obtain ⟨v1, g1⟩ := q
          rw [hc] at h
          simp only [Option.bind_some] at h
          refine iv_cal (mi' := 21) (pc' := 56) (ls' := [.int a, .int (a / (1000 : Int32)), .int ((([3600, 3300, 2900, 2200, 1500] : List Int32).getD (((a / (1000 : Int32)) + (1 : Int32))).toNatClampNeg 0) - (([3600, 3300, 2900, 2200, 1500] : List Int32).getD ((a / (1000 : Int32))).toNatClampNeg 0))]) (rest := [.int (([3600, 3300, 2900, 2200, 1500] : List Int32).getD ((a / (1000 : Int32))).toNatClampNeg 0)]) (A' := im_H g u o Y) (c' := 0) (s' := 0) (as := [.int (((([3600, 3300, 2900, 2200, 1500] : List Int32).getD (((a / (1000 : Int32)) + (1 : Int32))).toNatClampNeg 0) - (([3600, 3300, 2900, 2200, 1500] : List Int32).getD ((a / (1000 : Int32))).toNatClampNeg 0)) * (a - a / (1000 : Int32) * (1000 : Int32))), .int (1000 : Int32)]) (v := some (.int v1)) (A'' := im_H g1 u o Y) 7 22 (fun n => rfl) rfl (x22_1000_ok (g := g) (a := (((([3600, 3300, 2900, 2200, 1500] : List Int32).getD (((a / (1000 : Int32)) + (1 : Int32))).toNatClampNeg 0) - (([3600, 3300, 2900, 2200, 1500] : List Int32).getD ((a / (1000 : Int32))).toNatClampNeg 0)) * (a - a / (1000 : Int32) * (1000 : Int32)))) hc) ?_
          show iv_ev (iv_Xs L xs) 21 59 [.int a, .int (a / (1000 : Int32)), .int ((([3600, 3300, 2900, 2200, 1500] : List Int32).getD (((a / (1000 : Int32)) + (1 : Int32))).toNatClampNeg 0) - (([3600, 3300, 2900, 2200, 1500] : List Int32).getD ((a / (1000 : Int32))).toNatClampNeg 0))] [.int v1, .int (([3600, 3300, 2900, 2200, 1500] : List Int32).getD ((a / (1000 : Int32))).toNatClampNeg 0)] (im_H g1 u o Y) 0 0 _
          cases h
          exact iv_ret 2 (fun n => rfl)
  | false =>
    rw [hb1] at h
    simp only [cond_false] at h
    refine iv_brf (mi' := 21) (pc' := 27) (ls' := [.int a, .int (a / (1000 : Int32)), .retAddr 0]) (st' := []) (A' := im_H g u o Y) (c' := 0) (s' := 0) (mi'' := 21) (pc'' := 16) (ls'' := [.int a, .int (a / (1000 : Int32)), .retAddr 0]) (st'' := []) (A'' := im_H g u o Y) (c'' := 0) (s'' := 0) 10 0 0 hb1 (fun n => rfl) ?_
    cases h
    exact iv_ret 7 (fun n => rfl)
