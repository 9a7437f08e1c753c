/-! Printed by wip/gen/lay1.py: methods as functions of the memory. -/
def x17_40 (g : im_M) (a : Int32) : Option (Int32 × im_M) :=
  bif Op.ifCond.holds .ge (a ^^^ (40 : Int32)) then
    (some ((a - a / (40 : Int32) * (40 : Int32)), g))
  else
    (bif Op.ifCond.holds .eq (a - a / (40 : Int32) * (40 : Int32)) then
      (some ((a - a / (40 : Int32) * (40 : Int32)), g))
    else
      (some (((a - a / (40 : Int32) * (40 : Int32)) + (40 : Int32)), g)))
set_option maxRecDepth 100000 in
theorem x17_40_ok {X : Nat → Option (Nat × (Nat → Int32))} {g u mm : im_M} {o : Nat → Int64} {Y : iv_A} {a ret : Int32} (h : x17_40 g a = some (ret, mm)) : iv_ev X 17 0 [.int a, .int (40 : Int32), .retAddr 0] [] (im_H g u o Y) 0 0 (.inl (some (.int ret)), im_H mm u o Y) := by
  unfold x17_40 at h
  cases hb : Op.ifCond.holds .ge (a ^^^ (40 : Int32)) with
  | true =>
    rw [hb] at h
    simp only [cond_true] at h
    refine iv_brt (mi' := 17) (pc' := 18) (ls' := [.int a, .int (40 : Int32), .int (a - a / (40 : Int32) * (40 : Int32))]) (st' := []) (A' := im_H g u o Y) (c' := 0) (s' := 0) (mi'' := 17) (pc'' := 10) (ls'' := [.int a, .int (40 : Int32), .int (a - a / (40 : Int32) * (40 : Int32))]) (st'' := []) (A'' := im_H g u o Y) (c'' := 0) (s'' := 0) 8 0 0 hb (fun n => rfl) ?_
    cases h
    exact iv_ret 2 (fun n => rfl)
  | false =>
    rw [hb] at h
    simp only [cond_false] at h
    refine iv_brf (mi' := 17) (pc' := 18) (ls' := [.int a, .int (40 : Int32), .int (a - a / (40 : Int32) * (40 : Int32))]) (st' := []) (A' := im_H g u o Y) (c' := 0) (s' := 0) (mi'' := 17) (pc'' := 10) (ls'' := [.int a, .int (40 : Int32), .int (a - a / (40 : Int32) * (40 : Int32))]) (st'' := []) (A'' := im_H g u o Y) (c'' := 0) (s'' := 0) 8 0 0 hb (fun n => rfl) ?_
    cases hb : Op.ifCond.holds .eq (a - a / (40 : Int32) * (40 : Int32)) with
    | true =>
      rw [hb] at h
      simp only [cond_true] at h
      refine iv_brt (mi' := 17) (pc' := 18) (ls' := [.int a, .int (40 : Int32), .int (a - a / (40 : Int32) * (40 : Int32))]) (st' := []) (A' := im_H g u o Y) (c' := 0) (s' := 0) (mi'' := 17) (pc'' := 14) (ls'' := [.int a, .int (40 : Int32), .int (a - a / (40 : Int32) * (40 : Int32))]) (st'' := []) (A'' := im_H g u o Y) (c'' := 0) (s'' := 0) 2 0 0 hb (fun n => rfl) ?_
      cases h
      exact iv_ret 2 (fun n => rfl)
    | false =>
      rw [hb] at h
      simp only [cond_false] at h
      refine iv_brf (mi' := 17) (pc' := 18) (ls' := [.int a, .int (40 : Int32), .int (a - a / (40 : Int32) * (40 : Int32))]) (st' := []) (A' := im_H g u o Y) (c' := 0) (s' := 0) (mi'' := 17) (pc'' := 14) (ls'' := [.int a, .int (40 : Int32), .int (a - a / (40 : Int32) * (40 : Int32))]) (st'' := []) (A'' := im_H g u o Y) (c'' := 0) (s'' := 0) 2 0 0 hb (fun n => rfl) ?_
      cases h
      exact iv_ret 4 (fun n => rfl)
def x16 (g : im_M) (a : Int32) : Option (Int32 × im_M) :=
  Option.bind (x17_40 g a) (fun (v1, g1) =>
    some ((v1 * (4 : Int32)), g1))
set_option maxRecDepth 100000 in
theorem x16_ok {X : Nat → Option (Nat × (Nat → Int32))} {g u mm : im_M} {o : Nat → Int64} {Y : iv_A} {a ret : Int32} (h : x16 g a = some (ret, mm)) : iv_ev X 16 0 [.int a] [] (im_H g u o Y) 0 0 (.inl (some (.int ret)), im_H mm u o Y) := by
  unfold x16 at h
  cases hc : x17_40 g a with
  | none => rw [hc] at h; cases h
  | some q =>
    obtain ⟨v1, g1⟩ := q
    rw [hc] at h
    simp only [Option.bind_some] at h
    refine iv_cal (mi' := 16) (pc' := 3) (ls' := [.int a]) (rest := []) (A' := im_H g u o Y) (c' := 0) (s' := 0) (as := [.int a, .int (40 : Int32)]) (v := some (.int v1)) (A'' := im_H g1 u o Y) 3 17 (fun n => rfl) rfl (x17_40_ok hc) ?_
    show iv_ev X 16 6 [.int a] [.int v1] (im_H g1 u o Y) 0 0 _
    cases h
    exact iv_ret 3 (fun n => rfl)
def x15_r1 (g : im_M) (a : Int32) (b : Int32) (c : Int32) : Option (Int32 × im_M) :=
  Option.bind (x16 g (g 1 2)) (fun (v1, g1) =>
    bif iv_in v1 160 then
      bif iv_in (v1 + (1 : Int32)) 160 then
        bif iv_in (v1 + (2 : Int32)) 160 then
          bif iv_in (v1 + (3 : Int32)) 160 then
            some (0, (im_w (im_w (im_w (im_w (im_w g1 2 (v1).toNatClampNeg (g1 1 1)) 2 ((v1 + (1 : Int32))).toNatClampNeg a) 2 ((v1 + (2 : Int32))).toNatClampNeg b) 2 ((v1 + (3 : Int32))).toNatClampNeg c) 1 2 ((g1 1 2) + (1 : Int32))))
          else none
        else none
      else none
    else none)
set_option maxRecDepth 100000 in
theorem x15_r1_ok {X : Nat → Option (Nat × (Nat → Int32))} {g u mm : im_M} {o : Nat → Int64} {Y : iv_A} {a b c ret : Int32} (h : x15_r1 g a b c = some (ret, mm)) : iv_ev X 15 0 [.ref 4, .int a, .int b, .int c, .retAddr 0] [] (im_H g u o Y) 0 0 (.inl none, im_H mm u o Y) := by
  unfold x15_r1 at h
  cases hc : x16 g (g 1 2) with
  | none => rw [hc] at h; cases h
  | some q =>
    obtain ⟨v1, g1⟩ := q
    rw [hc] at h
    simp only [Option.bind_some] at h
    refine iv_cal (mi' := 15) (pc' := 4) (ls' := [.ref 4, .int a, .int b, .int c, .retAddr 0]) (rest := []) (A' := im_H g u o Y) (c' := 0) (s' := 0) (as := [.int (g 1 2)]) (v := some (.int v1)) (A'' := im_H g1 u o Y) 3 16 (fun n => rfl) rfl (x16_ok hc) ?_
    show iv_ev X 15 7 [.ref 4, .int a, .int b, .int c, .retAddr 0] [.int v1] (im_H g1 u o Y) 0 0 _
    cases hb : iv_in v1 160 with
    | false => rw [hb] at h; cases h
    | true =>
      rw [hb] at h
      refine iv_chk (mi' := 15) (pc' := 20) (ls' := [.ref 4, .int a, .int b, .int c, .int v1]) (st' := []) (A' := List.set (im_H g1 u o Y) 2 (.inl (0, 160, .inl (upd (g1 2) (v1).toNatClampNeg (g1 1 1))))) (c' := 0) (s' := 0) 7 hb (fun n => rfl) ?_
      simp only [cond_true] at h
      rw [im_a2]
      cases hb : iv_in (v1 + (1 : Int32)) 160 with
      | false => rw [hb] at h; cases h
      | true =>
        rw [hb] at h
        refine iv_chk (mi' := 15) (pc' := 30) (ls' := [.ref 4, .int a, .int b, .int c, .int v1]) (st' := []) (A' := List.set (im_H (im_w g1 2 (v1).toNatClampNeg (g1 1 1)) u o Y) 2 (.inl (0, 160, .inl (upd ((im_w g1 2 (v1).toNatClampNeg (g1 1 1)) 2) ((v1 + (1 : Int32))).toNatClampNeg a)))) (c' := 0) (s' := 0) 7 hb (fun n => rfl) ?_
        simp only [cond_true] at h
        rw [im_a2]
        cases hb : iv_in (v1 + (2 : Int32)) 160 with
        | false => rw [hb] at h; cases h
        | true =>
          rw [hb] at h
          refine iv_chk (mi' := 15) (pc' := 40) (ls' := [.ref 4, .int a, .int b, .int c, .int v1]) (st' := []) (A' := List.set (im_H (im_w (im_w g1 2 (v1).toNatClampNeg (g1 1 1)) 2 ((v1 + (1 : Int32))).toNatClampNeg a) u o Y) 2 (.inl (0, 160, .inl (upd ((im_w (im_w g1 2 (v1).toNatClampNeg (g1 1 1)) 2 ((v1 + (1 : Int32))).toNatClampNeg a) 2) ((v1 + (2 : Int32))).toNatClampNeg b)))) (c' := 0) (s' := 0) 7 hb (fun n => rfl) ?_
          simp only [cond_true] at h
          rw [im_a2]
          cases hb : iv_in (v1 + (3 : Int32)) 160 with
          | false => rw [hb] at h; cases h
          | true =>
            rw [hb] at h
            refine iv_chk (mi' := 15) (pc' := 50) (ls' := [.ref 4, .int a, .int b, .int c, .int v1]) (st' := []) (A' := List.set (im_H (im_w (im_w (im_w g1 2 (v1).toNatClampNeg (g1 1 1)) 2 ((v1 + (1 : Int32))).toNatClampNeg a) 2 ((v1 + (2 : Int32))).toNatClampNeg b) u o Y) 2 (.inl (0, 160, .inl (upd ((im_w (im_w (im_w g1 2 (v1).toNatClampNeg (g1 1 1)) 2 ((v1 + (1 : Int32))).toNatClampNeg a) 2 ((v1 + (2 : Int32))).toNatClampNeg b) 2) ((v1 + (3 : Int32))).toNatClampNeg c)))) (c' := 0) (s' := 0) 7 hb (fun n => rfl) ?_
            simp only [cond_true] at h
            rw [im_a2]
            refine iv_blk (mi' := 15) (pc' := 60) (ls' := [.ref 4, .int a, .int b, .int c, .int v1]) (st' := []) (A' := List.set (im_H (im_w (im_w (im_w (im_w g1 2 (v1).toNatClampNeg (g1 1 1)) 2 ((v1 + (1 : Int32))).toNatClampNeg a) 2 ((v1 + (2 : Int32))).toNatClampNeg b) 2 ((v1 + (3 : Int32))).toNatClampNeg c) u o Y) 1 (.inr (1, List.set [.ref 5, .int ((im_w (im_w (im_w (im_w g1 2 (v1).toNatClampNeg (g1 1 1)) 2 ((v1 + (1 : Int32))).toNatClampNeg a) 2 ((v1 + (2 : Int32))).toNatClampNeg b) 2 ((v1 + (3 : Int32))).toNatClampNeg c) 1 1), .int ((im_w (im_w (im_w (im_w g1 2 (v1).toNatClampNeg (g1 1 1)) 2 ((v1 + (1 : Int32))).toNatClampNeg a) 2 ((v1 + (2 : Int32))).toNatClampNeg b) 2 ((v1 + (3 : Int32))).toNatClampNeg c) 1 2)] 2 (.int ((g1 1 2) + (1 : Int32)))))) (c' := 0) (s' := 0) 6 (fun n => rfl) ?_
            rw [im_f1_2]
            cases h
            exact iv_ret 1 (fun n => rfl)
def x30_8 (g : im_M) (y0 : Int32) (y1 : Int32) (y2 : Int32) : Option (Int32 × im_M) :=
  some (y2, g)
set_option maxRecDepth 100000 in
theorem x30_8_ok {X : Nat → Option (Nat × (Nat → Int32))} {g u mm : im_M} {o : Nat → Int64} {Y : iv_A} {y0 y1 y2 ret : Int32} (h : x30_8 g y0 y1 y2 = some (ret, mm)) : iv_ev X 30 29 [.int y0, .int y1, .int y2, .int (7 : Int32)] [] (im_H g u o Y) 0 0 (.inl (some (.int ret)), im_H mm u o Y) := by
  unfold x30_8 at h
  cases h
  exact iv_ret 7 (fun n => rfl)
def x30_7 (g : im_M) (y0 : Int32) (y1 : Int32) (y2 : Int32) : Option (Int32 × im_M) :=
  bif Op.if_icmp.holds .le (y2 <<< ((1 : Int32) &&& 31)) (255 : Int32) then
    (x30_8 g y0 y1 (y2 <<< ((1 : Int32) &&& 31)))
  else
    (x30_8 g y0 y1 ((y2 <<< ((1 : Int32) &&& 31)) ^^^ (263 : Int32)))
set_option maxRecDepth 100000 in
theorem x30_7_ok {X : Nat → Option (Nat × (Nat → Int32))} {g u mm : im_M} {o : Nat → Int64} {Y : iv_A} {y0 y1 y2 ret : Int32} (h : x30_7 g y0 y1 y2 = some (ret, mm)) : iv_ev X 30 29 [.int y0, .int y1, .int y2, .int (6 : Int32)] [] (im_H g u o Y) 0 0 (.inl (some (.int ret)), im_H mm u o Y) := by
  unfold x30_7 at h
  cases hb : Op.if_icmp.holds .le (y2 <<< ((1 : Int32) &&& 31)) (255 : Int32) with
  | true =>
    rw [hb] at h
    simp only [cond_true] at h
    refine iv_brt (mi' := 30) (pc' := 29) (ls' := [.int y0, .int y1, .int (y2 <<< ((1 : Int32) &&& 31)), .int (7 : Int32)]) (st' := []) (A' := im_H g u o Y) (c' := 0) (s' := 0) (mi'' := 30) (pc'' := 23) (ls'' := [.int y0, .int y1, .int (y2 <<< ((1 : Int32) &&& 31)), .int (7 : Int32)]) (st'' := []) (A'' := im_H g u o Y) (c'' := 0) (s'' := 0) 12 0 0 hb (fun n => rfl) ?_
    exact x30_8_ok h
  | false =>
    rw [hb] at h
    simp only [cond_false] at h
    refine iv_brf (mi' := 30) (pc' := 29) (ls' := [.int y0, .int y1, .int (y2 <<< ((1 : Int32) &&& 31)), .int (7 : Int32)]) (st' := []) (A' := im_H g u o Y) (c' := 0) (s' := 0) (mi'' := 30) (pc'' := 23) (ls'' := [.int y0, .int y1, .int (y2 <<< ((1 : Int32) &&& 31)), .int (7 : Int32)]) (st'' := []) (A'' := im_H g u o Y) (c'' := 0) (s'' := 0) 12 0 0 hb (fun n => rfl) ?_
    exact iv_blk 4 (fun n => rfl) (x30_8_ok h)
def x30_6 (g : im_M) (y0 : Int32) (y1 : Int32) (y2 : Int32) : Option (Int32 × im_M) :=
  bif Op.if_icmp.holds .le (y2 <<< ((1 : Int32) &&& 31)) (255 : Int32) then
    (x30_7 g y0 y1 (y2 <<< ((1 : Int32) &&& 31)))
  else
    (x30_7 g y0 y1 ((y2 <<< ((1 : Int32) &&& 31)) ^^^ (263 : Int32)))
set_option maxRecDepth 100000 in
theorem x30_6_ok {X : Nat → Option (Nat × (Nat → Int32))} {g u mm : im_M} {o : Nat → Int64} {Y : iv_A} {y0 y1 y2 ret : Int32} (h : x30_6 g y0 y1 y2 = some (ret, mm)) : iv_ev X 30 29 [.int y0, .int y1, .int y2, .int (5 : Int32)] [] (im_H g u o Y) 0 0 (.inl (some (.int ret)), im_H mm u o Y) := by
  unfold x30_6 at h
  cases hb : Op.if_icmp.holds .le (y2 <<< ((1 : Int32) &&& 31)) (255 : Int32) with
  | true =>
    rw [hb] at h
    simp only [cond_true] at h
    refine iv_brt (mi' := 30) (pc' := 29) (ls' := [.int y0, .int y1, .int (y2 <<< ((1 : Int32) &&& 31)), .int (6 : Int32)]) (st' := []) (A' := im_H g u o Y) (c' := 0) (s' := 0) (mi'' := 30) (pc'' := 23) (ls'' := [.int y0, .int y1, .int (y2 <<< ((1 : Int32) &&& 31)), .int (6 : Int32)]) (st'' := []) (A'' := im_H g u o Y) (c'' := 0) (s'' := 0) 12 0 0 hb (fun n => rfl) ?_
    exact x30_7_ok h
  | false =>
    rw [hb] at h
    simp only [cond_false] at h
    refine iv_brf (mi' := 30) (pc' := 29) (ls' := [.int y0, .int y1, .int (y2 <<< ((1 : Int32) &&& 31)), .int (6 : Int32)]) (st' := []) (A' := im_H g u o Y) (c' := 0) (s' := 0) (mi'' := 30) (pc'' := 23) (ls'' := [.int y0, .int y1, .int (y2 <<< ((1 : Int32) &&& 31)), .int (6 : Int32)]) (st'' := []) (A'' := im_H g u o Y) (c'' := 0) (s'' := 0) 12 0 0 hb (fun n => rfl) ?_
    exact iv_blk 4 (fun n => rfl) (x30_7_ok h)
def x30_5 (g : im_M) (y0 : Int32) (y1 : Int32) (y2 : Int32) : Option (Int32 × im_M) :=
  bif Op.if_icmp.holds .le (y2 <<< ((1 : Int32) &&& 31)) (255 : Int32) then
    (x30_6 g y0 y1 (y2 <<< ((1 : Int32) &&& 31)))
  else
    (x30_6 g y0 y1 ((y2 <<< ((1 : Int32) &&& 31)) ^^^ (263 : Int32)))
set_option maxRecDepth 100000 in
theorem x30_5_ok {X : Nat → Option (Nat × (Nat → Int32))} {g u mm : im_M} {o : Nat → Int64} {Y : iv_A} {y0 y1 y2 ret : Int32} (h : x30_5 g y0 y1 y2 = some (ret, mm)) : iv_ev X 30 29 [.int y0, .int y1, .int y2, .int (4 : Int32)] [] (im_H g u o Y) 0 0 (.inl (some (.int ret)), im_H mm u o Y) := by
  unfold x30_5 at h
  cases hb : Op.if_icmp.holds .le (y2 <<< ((1 : Int32) &&& 31)) (255 : Int32) with
  | true =>
    rw [hb] at h
    simp only [cond_true] at h
    refine iv_brt (mi' := 30) (pc' := 29) (ls' := [.int y0, .int y1, .int (y2 <<< ((1 : Int32) &&& 31)), .int (5 : Int32)]) (st' := []) (A' := im_H g u o Y) (c' := 0) (s' := 0) (mi'' := 30) (pc'' := 23) (ls'' := [.int y0, .int y1, .int (y2 <<< ((1 : Int32) &&& 31)), .int (5 : Int32)]) (st'' := []) (A'' := im_H g u o Y) (c'' := 0) (s'' := 0) 12 0 0 hb (fun n => rfl) ?_
    exact x30_6_ok h
  | false =>
    rw [hb] at h
    simp only [cond_false] at h
    refine iv_brf (mi' := 30) (pc' := 29) (ls' := [.int y0, .int y1, .int (y2 <<< ((1 : Int32) &&& 31)), .int (5 : Int32)]) (st' := []) (A' := im_H g u o Y) (c' := 0) (s' := 0) (mi'' := 30) (pc'' := 23) (ls'' := [.int y0, .int y1, .int (y2 <<< ((1 : Int32) &&& 31)), .int (5 : Int32)]) (st'' := []) (A'' := im_H g u o Y) (c'' := 0) (s'' := 0) 12 0 0 hb (fun n => rfl) ?_
    exact iv_blk 4 (fun n => rfl) (x30_6_ok h)
def x30_4 (g : im_M) (y0 : Int32) (y1 : Int32) (y2 : Int32) : Option (Int32 × im_M) :=
  bif Op.if_icmp.holds .le (y2 <<< ((1 : Int32) &&& 31)) (255 : Int32) then
    (x30_5 g y0 y1 (y2 <<< ((1 : Int32) &&& 31)))
  else
    (x30_5 g y0 y1 ((y2 <<< ((1 : Int32) &&& 31)) ^^^ (263 : Int32)))
set_option maxRecDepth 100000 in
theorem x30_4_ok {X : Nat → Option (Nat × (Nat → Int32))} {g u mm : im_M} {o : Nat → Int64} {Y : iv_A} {y0 y1 y2 ret : Int32} (h : x30_4 g y0 y1 y2 = some (ret, mm)) : iv_ev X 30 29 [.int y0, .int y1, .int y2, .int (3 : Int32)] [] (im_H g u o Y) 0 0 (.inl (some (.int ret)), im_H mm u o Y) := by
  unfold x30_4 at h
  cases hb : Op.if_icmp.holds .le (y2 <<< ((1 : Int32) &&& 31)) (255 : Int32) with
  | true =>
    rw [hb] at h
    simp only [cond_true] at h
    refine iv_brt (mi' := 30) (pc' := 29) (ls' := [.int y0, .int y1, .int (y2 <<< ((1 : Int32) &&& 31)), .int (4 : Int32)]) (st' := []) (A' := im_H g u o Y) (c' := 0) (s' := 0) (mi'' := 30) (pc'' := 23) (ls'' := [.int y0, .int y1, .int (y2 <<< ((1 : Int32) &&& 31)), .int (4 : Int32)]) (st'' := []) (A'' := im_H g u o Y) (c'' := 0) (s'' := 0) 12 0 0 hb (fun n => rfl) ?_
    exact x30_5_ok h
  | false =>
    rw [hb] at h
    simp only [cond_false] at h
    refine iv_brf (mi' := 30) (pc' := 29) (ls' := [.int y0, .int y1, .int (y2 <<< ((1 : Int32) &&& 31)), .int (4 : Int32)]) (st' := []) (A' := im_H g u o Y) (c' := 0) (s' := 0) (mi'' := 30) (pc'' := 23) (ls'' := [.int y0, .int y1, .int (y2 <<< ((1 : Int32) &&& 31)), .int (4 : Int32)]) (st'' := []) (A'' := im_H g u o Y) (c'' := 0) (s'' := 0) 12 0 0 hb (fun n => rfl) ?_
    exact iv_blk 4 (fun n => rfl) (x30_5_ok h)
def x30_3 (g : im_M) (y0 : Int32) (y1 : Int32) (y2 : Int32) : Option (Int32 × im_M) :=
  bif Op.if_icmp.holds .le (y2 <<< ((1 : Int32) &&& 31)) (255 : Int32) then
    (x30_4 g y0 y1 (y2 <<< ((1 : Int32) &&& 31)))
  else
    (x30_4 g y0 y1 ((y2 <<< ((1 : Int32) &&& 31)) ^^^ (263 : Int32)))
set_option maxRecDepth 100000 in
theorem x30_3_ok {X : Nat → Option (Nat × (Nat → Int32))} {g u mm : im_M} {o : Nat → Int64} {Y : iv_A} {y0 y1 y2 ret : Int32} (h : x30_3 g y0 y1 y2 = some (ret, mm)) : iv_ev X 30 29 [.int y0, .int y1, .int y2, .int (2 : Int32)] [] (im_H g u o Y) 0 0 (.inl (some (.int ret)), im_H mm u o Y) := by
  unfold x30_3 at h
  cases hb : Op.if_icmp.holds .le (y2 <<< ((1 : Int32) &&& 31)) (255 : Int32) with
  | true =>
    rw [hb] at h
    simp only [cond_true] at h
    refine iv_brt (mi' := 30) (pc' := 29) (ls' := [.int y0, .int y1, .int (y2 <<< ((1 : Int32) &&& 31)), .int (3 : Int32)]) (st' := []) (A' := im_H g u o Y) (c' := 0) (s' := 0) (mi'' := 30) (pc'' := 23) (ls'' := [.int y0, .int y1, .int (y2 <<< ((1 : Int32) &&& 31)), .int (3 : Int32)]) (st'' := []) (A'' := im_H g u o Y) (c'' := 0) (s'' := 0) 12 0 0 hb (fun n => rfl) ?_
    exact x30_4_ok h
  | false =>
    rw [hb] at h
    simp only [cond_false] at h
    refine iv_brf (mi' := 30) (pc' := 29) (ls' := [.int y0, .int y1, .int (y2 <<< ((1 : Int32) &&& 31)), .int (3 : Int32)]) (st' := []) (A' := im_H g u o Y) (c' := 0) (s' := 0) (mi'' := 30) (pc'' := 23) (ls'' := [.int y0, .int y1, .int (y2 <<< ((1 : Int32) &&& 31)), .int (3 : Int32)]) (st'' := []) (A'' := im_H g u o Y) (c'' := 0) (s'' := 0) 12 0 0 hb (fun n => rfl) ?_
    exact iv_blk 4 (fun n => rfl) (x30_4_ok h)
def x30_2 (g : im_M) (y0 : Int32) (y1 : Int32) (y2 : Int32) : Option (Int32 × im_M) :=
  bif Op.if_icmp.holds .le (y2 <<< ((1 : Int32) &&& 31)) (255 : Int32) then
    (x30_3 g y0 y1 (y2 <<< ((1 : Int32) &&& 31)))
  else
    (x30_3 g y0 y1 ((y2 <<< ((1 : Int32) &&& 31)) ^^^ (263 : Int32)))
set_option maxRecDepth 100000 in
theorem x30_2_ok {X : Nat → Option (Nat × (Nat → Int32))} {g u mm : im_M} {o : Nat → Int64} {Y : iv_A} {y0 y1 y2 ret : Int32} (h : x30_2 g y0 y1 y2 = some (ret, mm)) : iv_ev X 30 29 [.int y0, .int y1, .int y2, .int (1 : Int32)] [] (im_H g u o Y) 0 0 (.inl (some (.int ret)), im_H mm u o Y) := by
  unfold x30_2 at h
  cases hb : Op.if_icmp.holds .le (y2 <<< ((1 : Int32) &&& 31)) (255 : Int32) with
  | true =>
    rw [hb] at h
    simp only [cond_true] at h
    refine iv_brt (mi' := 30) (pc' := 29) (ls' := [.int y0, .int y1, .int (y2 <<< ((1 : Int32) &&& 31)), .int (2 : Int32)]) (st' := []) (A' := im_H g u o Y) (c' := 0) (s' := 0) (mi'' := 30) (pc'' := 23) (ls'' := [.int y0, .int y1, .int (y2 <<< ((1 : Int32) &&& 31)), .int (2 : Int32)]) (st'' := []) (A'' := im_H g u o Y) (c'' := 0) (s'' := 0) 12 0 0 hb (fun n => rfl) ?_
    exact x30_3_ok h
  | false =>
    rw [hb] at h
    simp only [cond_false] at h
    refine iv_brf (mi' := 30) (pc' := 29) (ls' := [.int y0, .int y1, .int (y2 <<< ((1 : Int32) &&& 31)), .int (2 : Int32)]) (st' := []) (A' := im_H g u o Y) (c' := 0) (s' := 0) (mi'' := 30) (pc'' := 23) (ls'' := [.int y0, .int y1, .int (y2 <<< ((1 : Int32) &&& 31)), .int (2 : Int32)]) (st'' := []) (A'' := im_H g u o Y) (c'' := 0) (s'' := 0) 12 0 0 hb (fun n => rfl) ?_
    exact iv_blk 4 (fun n => rfl) (x30_3_ok h)
def x30_1 (g : im_M) (y0 : Int32) (y1 : Int32) (y2 : Int32) : Option (Int32 × im_M) :=
  bif Op.if_icmp.holds .le (y2 <<< ((1 : Int32) &&& 31)) (255 : Int32) then
    (x30_2 g y0 y1 (y2 <<< ((1 : Int32) &&& 31)))
  else
    (x30_2 g y0 y1 ((y2 <<< ((1 : Int32) &&& 31)) ^^^ (263 : Int32)))
set_option maxRecDepth 100000 in
theorem x30_1_ok {X : Nat → Option (Nat × (Nat → Int32))} {g u mm : im_M} {o : Nat → Int64} {Y : iv_A} {y0 y1 y2 ret : Int32} (h : x30_1 g y0 y1 y2 = some (ret, mm)) : iv_ev X 30 29 [.int y0, .int y1, .int y2, .int (0 : Int32)] [] (im_H g u o Y) 0 0 (.inl (some (.int ret)), im_H mm u o Y) := by
  unfold x30_1 at h
  cases hb : Op.if_icmp.holds .le (y2 <<< ((1 : Int32) &&& 31)) (255 : Int32) with
  | true =>
    rw [hb] at h
    simp only [cond_true] at h
    refine iv_brt (mi' := 30) (pc' := 29) (ls' := [.int y0, .int y1, .int (y2 <<< ((1 : Int32) &&& 31)), .int (1 : Int32)]) (st' := []) (A' := im_H g u o Y) (c' := 0) (s' := 0) (mi'' := 30) (pc'' := 23) (ls'' := [.int y0, .int y1, .int (y2 <<< ((1 : Int32) &&& 31)), .int (1 : Int32)]) (st'' := []) (A'' := im_H g u o Y) (c'' := 0) (s'' := 0) 12 0 0 hb (fun n => rfl) ?_
    exact x30_2_ok h
  | false =>
    rw [hb] at h
    simp only [cond_false] at h
    refine iv_brf (mi' := 30) (pc' := 29) (ls' := [.int y0, .int y1, .int (y2 <<< ((1 : Int32) &&& 31)), .int (1 : Int32)]) (st' := []) (A' := im_H g u o Y) (c' := 0) (s' := 0) (mi'' := 30) (pc'' := 23) (ls'' := [.int y0, .int y1, .int (y2 <<< ((1 : Int32) &&& 31)), .int (1 : Int32)]) (st'' := []) (A'' := im_H g u o Y) (c'' := 0) (s'' := 0) 12 0 0 hb (fun n => rfl) ?_
    exact iv_blk 4 (fun n => rfl) (x30_2_ok h)
def x30 (g : im_M) (a : Int32) (b : Int32) : Option (Int32 × im_M) :=
  bif Op.if_icmp.holds .le ((a ^^^ b) <<< ((1 : Int32) &&& 31)) (255 : Int32) then
    (x30_1 g a b ((a ^^^ b) <<< ((1 : Int32) &&& 31)))
  else
    (x30_1 g a b (((a ^^^ b) <<< ((1 : Int32) &&& 31)) ^^^ (263 : Int32)))
set_option maxRecDepth 100000 in
theorem x30_ok {X : Nat → Option (Nat × (Nat → Int32))} {g u mm : im_M} {o : Nat → Int64} {Y : iv_A} {a b ret : Int32} (h : x30 g a b = some (ret, mm)) : iv_ev X 30 0 [.int a, .int b, .retAddr 0, .retAddr 0] [] (im_H g u o Y) 0 0 (.inl (some (.int ret)), im_H mm u o Y) := by
  unfold x30 at h
  cases hb : Op.if_icmp.holds .le ((a ^^^ b) <<< ((1 : Int32) &&& 31)) (255 : Int32) with
  | true =>
    rw [hb] at h
    simp only [cond_true] at h
    refine iv_brt (mi' := 30) (pc' := 29) (ls' := [.int a, .int b, .int ((a ^^^ b) <<< ((1 : Int32) &&& 31)), .int (0 : Int32)]) (st' := []) (A' := im_H g u o Y) (c' := 0) (s' := 0) (mi'' := 30) (pc'' := 23) (ls'' := [.int a, .int b, .int ((a ^^^ b) <<< ((1 : Int32) &&& 31)), .int (0 : Int32)]) (st'' := []) (A'' := im_H g u o Y) (c'' := 0) (s'' := 0) 16 0 0 hb (fun n => rfl) ?_
    exact x30_1_ok h
  | false =>
    rw [hb] at h
    simp only [cond_false] at h
    refine iv_brf (mi' := 30) (pc' := 29) (ls' := [.int a, .int b, .int ((a ^^^ b) <<< ((1 : Int32) &&& 31)), .int (0 : Int32)]) (st' := []) (A' := im_H g u o Y) (c' := 0) (s' := 0) (mi'' := 30) (pc'' := 23) (ls'' := [.int a, .int b, .int ((a ^^^ b) <<< ((1 : Int32) &&& 31)), .int (0 : Int32)]) (st'' := []) (A'' := im_H g u o Y) (c'' := 0) (s'' := 0) 16 0 0 hb (fun n => rfl) ?_
    exact iv_blk 4 (fun n => rfl) (x30_1_ok h)
def x29 (g : im_M) (a : Int32) (b : Int32) : Option (Int32 × im_M) :=
  Option.bind (x30 g (0 : Int32) a) (fun (v1, g1) =>
    Option.bind (x30 g1 v1 b) (fun (v2, g2) =>
      some (v2, g2)))
set_option maxRecDepth 100000 in
theorem x29_ok {X : Nat → Option (Nat × (Nat → Int32))} {g u mm : im_M} {o : Nat → Int64} {Y : iv_A} {a b ret : Int32} (h : x29 g a b = some (ret, mm)) : iv_ev X 29 0 [.int a, .int b] [] (im_H g u o Y) 0 0 (.inl (some (.int ret)), im_H mm u o Y) := by
  unfold x29 at h
  cases hc : x30 g (0 : Int32) a with
  | none => rw [hc] at h; cases h
  | some q =>
    obtain ⟨v1, g1⟩ := q
    rw [hc] at h
    simp only [Option.bind_some] at h
    refine iv_cal (mi' := 29) (pc' := 2) (ls' := [.int a, .int b]) (rest := []) (A' := im_H g u o Y) (c' := 0) (s' := 0) (as := [.int (0 : Int32), .int a]) (v := some (.int v1)) (A'' := im_H g1 u o Y) 3 30 (fun n => rfl) rfl (x30_ok hc) ?_
    show iv_ev X 29 5 [.int a, .int b] [.int v1] (im_H g1 u o Y) 0 0 _
    cases hc : x30 g1 v1 b with
    | none => rw [hc] at h; cases h
    | some q =>
      obtain ⟨v2, g2⟩ := q
      rw [hc] at h
      simp only [Option.bind_some] at h
      refine iv_cal (mi' := 29) (pc' := 6) (ls' := [.int a, .int b]) (rest := []) (A' := im_H g1 u o Y) (c' := 0) (s' := 0) (as := [.int v1, .int b]) (v := some (.int v2)) (A'' := im_H g2 u o Y) 2 30 (fun n => rfl) rfl (x30_ok hc) ?_
      show iv_ev X 29 9 [.int a, .int b] [.int v2] (im_H g2 u o Y) 0 0 _
      cases h
      exact iv_ret 1 (fun n => rfl)
