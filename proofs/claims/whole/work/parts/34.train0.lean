/-! Train: countVotes (printed by wip/gen/lay1.py) -/
def x32_r29_0_4 (g : im_M) (y0 : Int32) (y1 : Int32) : Option (Int32 × im_M) :=
  some (y1, g)
set_option maxRecDepth 100000 in
set_option maxHeartbeats 4000000 in
theorem x32_r29_0_4_ok {L : Nat} {xs : Nat → Int32} {g u mm : im_M} {o : Nat → Int64} {Y : iv_A} {y0 y1 ret : Int32} (h : x32_r29_0_4 g y0 y1 = some (ret, mm)) : iv_ev (iv_Xs L xs) 32 31 [.ref 32, .int (0 : Int32), .int y0, .int y1, .int (3 : Int32)] [] (im_H g u o Y) 0 0 (.inl (some (.int ret)), im_H mm u o Y) := by
  unfold x32_r29_0_4 at h
  cases h
  exact iv_ret 7 (fun n => rfl)
def x32_r29_0_3 (g : im_M) (y0 : Int32) (y1 : Int32) : Option (Int32 × im_M) :=
  bif Op.if_icmp.holds .eq (3 : Int32) y0 then
    (x32_r29_0_4 g y0 y1)
  else
    (x32_r29_0_4 g y0 (y1 + (((g 30 3) >>> ((0 : Int32) &&& 31)) &&& (1 : Int32))))
set_option maxRecDepth 100000 in
set_option maxHeartbeats 4000000 in
theorem x32_r29_0_3_ok {L : Nat} {xs : Nat → Int32} {g u mm : im_M} {o : Nat → Int64} {Y : iv_A} {y0 y1 ret : Int32} (h : x32_r29_0_3 g y0 y1 = some (ret, mm)) : iv_ev (iv_Xs L xs) 32 31 [.ref 32, .int (0 : Int32), .int y0, .int y1, .int (2 : Int32)] [] (im_H g u o Y) 0 0 (.inl (some (.int ret)), im_H mm u o Y) := by
  unfold x32_r29_0_3 at h
  cases hb4 : Op.if_icmp.holds .eq (3 : Int32) y0 with
  | true =>
    rw [hb4] at h
    simp only [cond_true] at h
    refine iv_brt (mi' := 32) (pc' := 31) (ls' := [.ref 32, .int (0 : Int32), .int y0, .int y1, .int (3 : Int32)]) (st' := []) (A' := im_H g u o Y) (c' := 0) (s' := 0) (mi'' := 32) (pc'' := 17) (ls'' := [.ref 32, .int (0 : Int32), .int y0, .int y1, .int (3 : Int32)]) (st'' := []) (A'' := im_H g u o Y) (c'' := 0) (s'' := 0) 8 0 0 hb4 (fun n => rfl) ?_
    exact x32_r29_0_4_ok (g := g) (y0 := y0) (y1 := y1) h
  | false =>
    rw [hb4] at h
    simp only [cond_false] at h
    refine iv_brf (mi' := 32) (pc' := 31) (ls' := [.ref 32, .int (0 : Int32), .int y0, .int y1, .int (3 : Int32)]) (st' := []) (A' := im_H g u o Y) (c' := 0) (s' := 0) (mi'' := 32) (pc'' := 17) (ls'' := [.ref 32, .int (0 : Int32), .int y0, .int y1, .int (3 : Int32)]) (st'' := []) (A'' := im_H g u o Y) (c'' := 0) (s'' := 0) 8 0 0 hb4 (fun n => rfl) ?_
    exact iv_blk 11 (fun n => rfl) (x32_r29_0_4_ok (g := g) (y0 := y0) (y1 := (y1 + (((g 30 3) >>> ((0 : Int32) &&& 31)) &&& (1 : Int32)))) h)
def x32_r29_0_2 (g : im_M) (y0 : Int32) (y1 : Int32) : Option (Int32 × im_M) :=
  bif Op.if_icmp.holds .eq (2 : Int32) y0 then
    (x32_r29_0_3 g y0 y1)
  else
    (x32_r29_0_3 g y0 (y1 + (((g 30 2) >>> ((0 : Int32) &&& 31)) &&& (1 : Int32))))
set_option maxRecDepth 100000 in
set_option maxHeartbeats 4000000 in
theorem x32_r29_0_2_ok {L : Nat} {xs : Nat → Int32} {g u mm : im_M} {o : Nat → Int64} {Y : iv_A} {y0 y1 ret : Int32} (h : x32_r29_0_2 g y0 y1 = some (ret, mm)) : iv_ev (iv_Xs L xs) 32 31 [.ref 32, .int (0 : Int32), .int y0, .int y1, .int (1 : Int32)] [] (im_H g u o Y) 0 0 (.inl (some (.int ret)), im_H mm u o Y) := by
  unfold x32_r29_0_2 at h
  cases hb3 : Op.if_icmp.holds .eq (2 : Int32) y0 with
  | true =>
    rw [hb3] at h
    simp only [cond_true] at h
    refine iv_brt (mi' := 32) (pc' := 31) (ls' := [.ref 32, .int (0 : Int32), .int y0, .int y1, .int (2 : Int32)]) (st' := []) (A' := im_H g u o Y) (c' := 0) (s' := 0) (mi'' := 32) (pc'' := 17) (ls'' := [.ref 32, .int (0 : Int32), .int y0, .int y1, .int (2 : Int32)]) (st'' := []) (A'' := im_H g u o Y) (c'' := 0) (s'' := 0) 8 0 0 hb3 (fun n => rfl) ?_
    exact x32_r29_0_3_ok (g := g) (y0 := y0) (y1 := y1) h
  | false =>
    rw [hb3] at h
    simp only [cond_false] at h
    refine iv_brf (mi' := 32) (pc' := 31) (ls' := [.ref 32, .int (0 : Int32), .int y0, .int y1, .int (2 : Int32)]) (st' := []) (A' := im_H g u o Y) (c' := 0) (s' := 0) (mi'' := 32) (pc'' := 17) (ls'' := [.ref 32, .int (0 : Int32), .int y0, .int y1, .int (2 : Int32)]) (st'' := []) (A'' := im_H g u o Y) (c'' := 0) (s'' := 0) 8 0 0 hb3 (fun n => rfl) ?_
    exact iv_blk 11 (fun n => rfl) (x32_r29_0_3_ok (g := g) (y0 := y0) (y1 := (y1 + (((g 30 2) >>> ((0 : Int32) &&& 31)) &&& (1 : Int32)))) h)
def x32_r29_0_1 (g : im_M) (y0 : Int32) (y1 : Int32) : Option (Int32 × im_M) :=
  bif Op.if_icmp.holds .eq (1 : Int32) y0 then
    (x32_r29_0_2 g y0 y1)
  else
    (x32_r29_0_2 g y0 (y1 + (((g 30 1) >>> ((0 : Int32) &&& 31)) &&& (1 : Int32))))
set_option maxRecDepth 100000 in
set_option maxHeartbeats 4000000 in
theorem x32_r29_0_1_ok {L : Nat} {xs : Nat → Int32} {g u mm : im_M} {o : Nat → Int64} {Y : iv_A} {y0 y1 ret : Int32} (h : x32_r29_0_1 g y0 y1 = some (ret, mm)) : iv_ev (iv_Xs L xs) 32 31 [.ref 32, .int (0 : Int32), .int y0, .int y1, .int (0 : Int32)] [] (im_H g u o Y) 0 0 (.inl (some (.int ret)), im_H mm u o Y) := by
  unfold x32_r29_0_1 at h
  cases hb2 : Op.if_icmp.holds .eq (1 : Int32) y0 with
  | true =>
    rw [hb2] at h
    simp only [cond_true] at h
    refine iv_brt (mi' := 32) (pc' := 31) (ls' := [.ref 32, .int (0 : Int32), .int y0, .int y1, .int (1 : Int32)]) (st' := []) (A' := im_H g u o Y) (c' := 0) (s' := 0) (mi'' := 32) (pc'' := 17) (ls'' := [.ref 32, .int (0 : Int32), .int y0, .int y1, .int (1 : Int32)]) (st'' := []) (A'' := im_H g u o Y) (c'' := 0) (s'' := 0) 8 0 0 hb2 (fun n => rfl) ?_
    exact x32_r29_0_2_ok (g := g) (y0 := y0) (y1 := y1) h
  | false =>
    rw [hb2] at h
    simp only [cond_false] at h
    refine iv_brf (mi' := 32) (pc' := 31) (ls' := [.ref 32, .int (0 : Int32), .int y0, .int y1, .int (1 : Int32)]) (st' := []) (A' := im_H g u o Y) (c' := 0) (s' := 0) (mi'' := 32) (pc'' := 17) (ls'' := [.ref 32, .int (0 : Int32), .int y0, .int y1, .int (1 : Int32)]) (st'' := []) (A'' := im_H g u o Y) (c'' := 0) (s'' := 0) 8 0 0 hb2 (fun n => rfl) ?_
    exact iv_blk 11 (fun n => rfl) (x32_r29_0_2_ok (g := g) (y0 := y0) (y1 := (y1 + (((g 30 1) >>> ((0 : Int32) &&& 31)) &&& (1 : Int32)))) h)
def x32_r29_0 (g : im_M) (a : Int32) : Option (Int32 × im_M) :=
  bif Op.if_icmp.holds .eq (0 : Int32) a then
    (x32_r29_0_1 g a (0 : Int32))
  else
    (x32_r29_0_1 g a ((0 : Int32) + (((g 30 0) >>> ((0 : Int32) &&& 31)) &&& (1 : Int32))))
set_option maxRecDepth 100000 in
set_option maxHeartbeats 4000000 in
theorem x32_r29_0_ok {L : Nat} {xs : Nat → Int32} {g u mm : im_M} {o : Nat → Int64} {Y : iv_A} {a ret : Int32} (h : x32_r29_0 g a = some (ret, mm)) : iv_ev (iv_Xs L xs) 32 0 [.ref 32, .int (0 : Int32), .int a, .retAddr 0, .retAddr 0] [] (im_H g u o Y) 0 0 (.inl (some (.int ret)), im_H mm u o Y) := by
  unfold x32_r29_0 at h
  cases hb1 : Op.if_icmp.holds .eq (0 : Int32) a with
  | true =>
    rw [hb1] at h
    simp only [cond_true] at h
    refine iv_brt (mi' := 32) (pc' := 31) (ls' := [.ref 32, .int (0 : Int32), .int a, .int (0 : Int32), .int (0 : Int32)]) (st' := []) (A' := im_H g u o Y) (c' := 0) (s' := 0) (mi'' := 32) (pc'' := 17) (ls'' := [.ref 32, .int (0 : Int32), .int a, .int (0 : Int32), .int (0 : Int32)]) (st'' := []) (A'' := im_H g u o Y) (c'' := 0) (s'' := 0) 10 0 0 hb1 (fun n => rfl) ?_
    exact x32_r29_0_1_ok (g := g) (y0 := a) (y1 := (0 : Int32)) h
  | false =>
    rw [hb1] at h
    simp only [cond_false] at h
    refine iv_brf (mi' := 32) (pc' := 31) (ls' := [.ref 32, .int (0 : Int32), .int a, .int (0 : Int32), .int (0 : Int32)]) (st' := []) (A' := im_H g u o Y) (c' := 0) (s' := 0) (mi'' := 32) (pc'' := 17) (ls'' := [.ref 32, .int (0 : Int32), .int a, .int (0 : Int32), .int (0 : Int32)]) (st'' := []) (A'' := im_H g u o Y) (c'' := 0) (s'' := 0) 10 0 0 hb1 (fun n => rfl) ?_
    exact iv_blk 11 (fun n => rfl) (x32_r29_0_1_ok (g := g) (y0 := a) (y1 := ((0 : Int32) + (((g 30 0) >>> ((0 : Int32) &&& 31)) &&& (1 : Int32)))) h)
def x32_r29_1_4 (g : im_M) (y0 : Int32) (y1 : Int32) : Option (Int32 × im_M) :=
  some (y1, g)
set_option maxRecDepth 100000 in
set_option maxHeartbeats 4000000 in
theorem x32_r29_1_4_ok {L : Nat} {xs : Nat → Int32} {g u mm : im_M} {o : Nat → Int64} {Y : iv_A} {y0 y1 ret : Int32} (h : x32_r29_1_4 g y0 y1 = some (ret, mm)) : iv_ev (iv_Xs L xs) 32 31 [.ref 32, .int (1 : Int32), .int y0, .int y1, .int (3 : Int32)] [] (im_H g u o Y) 0 0 (.inl (some (.int ret)), im_H mm u o Y) := by
  unfold x32_r29_1_4 at h
  cases h
  exact iv_ret 7 (fun n => rfl)
def x32_r29_1_3 (g : im_M) (y0 : Int32) (y1 : Int32) : Option (Int32 × im_M) :=
  bif Op.if_icmp.holds .eq (3 : Int32) y0 then
    (x32_r29_1_4 g y0 y1)
  else
    (x32_r29_1_4 g y0 (y1 + (((g 30 3) >>> ((1 : Int32) &&& 31)) &&& (1 : Int32))))
set_option maxRecDepth 100000 in
set_option maxHeartbeats 4000000 in
theorem x32_r29_1_3_ok {L : Nat} {xs : Nat → Int32} {g u mm : im_M} {o : Nat → Int64} {Y : iv_A} {y0 y1 ret : Int32} (h : x32_r29_1_3 g y0 y1 = some (ret, mm)) : iv_ev (iv_Xs L xs) 32 31 [.ref 32, .int (1 : Int32), .int y0, .int y1, .int (2 : Int32)] [] (im_H g u o Y) 0 0 (.inl (some (.int ret)), im_H mm u o Y) := by
  unfold x32_r29_1_3 at h
  cases hb4 : Op.if_icmp.holds .eq (3 : Int32) y0 with
  | true =>
    rw [hb4] at h
    simp only [cond_true] at h
    refine iv_brt (mi' := 32) (pc' := 31) (ls' := [.ref 32, .int (1 : Int32), .int y0, .int y1, .int (3 : Int32)]) (st' := []) (A' := im_H g u o Y) (c' := 0) (s' := 0) (mi'' := 32) (pc'' := 17) (ls'' := [.ref 32, .int (1 : Int32), .int y0, .int y1, .int (3 : Int32)]) (st'' := []) (A'' := im_H g u o Y) (c'' := 0) (s'' := 0) 8 0 0 hb4 (fun n => rfl) ?_
    exact x32_r29_1_4_ok (g := g) (y0 := y0) (y1 := y1) h
  | false =>
    rw [hb4] at h
    simp only [cond_false] at h
    refine iv_brf (mi' := 32) (pc' := 31) (ls' := [.ref 32, .int (1 : Int32), .int y0, .int y1, .int (3 : Int32)]) (st' := []) (A' := im_H g u o Y) (c' := 0) (s' := 0) (mi'' := 32) (pc'' := 17) (ls'' := [.ref 32, .int (1 : Int32), .int y0, .int y1, .int (3 : Int32)]) (st'' := []) (A'' := im_H g u o Y) (c'' := 0) (s'' := 0) 8 0 0 hb4 (fun n => rfl) ?_
    exact iv_blk 11 (fun n => rfl) (x32_r29_1_4_ok (g := g) (y0 := y0) (y1 := (y1 + (((g 30 3) >>> ((1 : Int32) &&& 31)) &&& (1 : Int32)))) h)
def x32_r29_1_2 (g : im_M) (y0 : Int32) (y1 : Int32) : Option (Int32 × im_M) :=
  bif Op.if_icmp.holds .eq (2 : Int32) y0 then
    (x32_r29_1_3 g y0 y1)
  else
    (x32_r29_1_3 g y0 (y1 + (((g 30 2) >>> ((1 : Int32) &&& 31)) &&& (1 : Int32))))
set_option maxRecDepth 100000 in
set_option maxHeartbeats 4000000 in
theorem x32_r29_1_2_ok {L : Nat} {xs : Nat → Int32} {g u mm : im_M} {o : Nat → Int64} {Y : iv_A} {y0 y1 ret : Int32} (h : x32_r29_1_2 g y0 y1 = some (ret, mm)) : iv_ev (iv_Xs L xs) 32 31 [.ref 32, .int (1 : Int32), .int y0, .int y1, .int (1 : Int32)] [] (im_H g u o Y) 0 0 (.inl (some (.int ret)), im_H mm u o Y) := by
  unfold x32_r29_1_2 at h
  cases hb3 : Op.if_icmp.holds .eq (2 : Int32) y0 with
  | true =>
    rw [hb3] at h
    simp only [cond_true] at h
    refine iv_brt (mi' := 32) (pc' := 31) (ls' := [.ref 32, .int (1 : Int32), .int y0, .int y1, .int (2 : Int32)]) (st' := []) (A' := im_H g u o Y) (c' := 0) (s' := 0) (mi'' := 32) (pc'' := 17) (ls'' := [.ref 32, .int (1 : Int32), .int y0, .int y1, .int (2 : Int32)]) (st'' := []) (A'' := im_H g u o Y) (c'' := 0) (s'' := 0) 8 0 0 hb3 (fun n => rfl) ?_
    exact x32_r29_1_3_ok (g := g) (y0 := y0) (y1 := y1) h
  | false =>
    rw [hb3] at h
    simp only [cond_false] at h
    refine iv_brf (mi' := 32) (pc' := 31) (ls' := [.ref 32, .int (1 : Int32), .int y0, .int y1, .int (2 : Int32)]) (st' := []) (A' := im_H g u o Y) (c' := 0) (s' := 0) (mi'' := 32) (pc'' := 17) (ls'' := [.ref 32, .int (1 : Int32), .int y0, .int y1, .int (2 : Int32)]) (st'' := []) (A'' := im_H g u o Y) (c'' := 0) (s'' := 0) 8 0 0 hb3 (fun n => rfl) ?_
    exact iv_blk 11 (fun n => rfl) (x32_r29_1_3_ok (g := g) (y0 := y0) (y1 := (y1 + (((g 30 2) >>> ((1 : Int32) &&& 31)) &&& (1 : Int32)))) h)
def x32_r29_1_1 (g : im_M) (y0 : Int32) (y1 : Int32) : Option (Int32 × im_M) :=
  bif Op.if_icmp.holds .eq (1 : Int32) y0 then
    (x32_r29_1_2 g y0 y1)
  else
    (x32_r29_1_2 g y0 (y1 + (((g 30 1) >>> ((1 : Int32) &&& 31)) &&& (1 : Int32))))
set_option maxRecDepth 100000 in
set_option maxHeartbeats 4000000 in
theorem x32_r29_1_1_ok {L : Nat} {xs : Nat → Int32} {g u mm : im_M} {o : Nat → Int64} {Y : iv_A} {y0 y1 ret : Int32} (h : x32_r29_1_1 g y0 y1 = some (ret, mm)) : iv_ev (iv_Xs L xs) 32 31 [.ref 32, .int (1 : Int32), .int y0, .int y1, .int (0 : Int32)] [] (im_H g u o Y) 0 0 (.inl (some (.int ret)), im_H mm u o Y) := by
  unfold x32_r29_1_1 at h
  cases hb2 : Op.if_icmp.holds .eq (1 : Int32) y0 with
  | true =>
    rw [hb2] at h
    simp only [cond_true] at h
    refine iv_brt (mi' := 32) (pc' := 31) (ls' := [.ref 32, .int (1 : Int32), .int y0, .int y1, .int (1 : Int32)]) (st' := []) (A' := im_H g u o Y) (c' := 0) (s' := 0) (mi'' := 32) (pc'' := 17) (ls'' := [.ref 32, .int (1 : Int32), .int y0, .int y1, .int (1 : Int32)]) (st'' := []) (A'' := im_H g u o Y) (c'' := 0) (s'' := 0) 8 0 0 hb2 (fun n => rfl) ?_
    exact x32_r29_1_2_ok (g := g) (y0 := y0) (y1 := y1) h
  | false =>
    rw [hb2] at h
    simp only [cond_false] at h
    refine iv_brf (mi' := 32) (pc' := 31) (ls' := [.ref 32, .int (1 : Int32), .int y0, .int y1, .int (1 : Int32)]) (st' := []) (A' := im_H g u o Y) (c' := 0) (s' := 0) (mi'' := 32) (pc'' := 17) (ls'' := [.ref 32, .int (1 : Int32), .int y0, .int y1, .int (1 : Int32)]) (st'' := []) (A'' := im_H g u o Y) (c'' := 0) (s'' := 0) 8 0 0 hb2 (fun n => rfl) ?_
    exact iv_blk 11 (fun n => rfl) (x32_r29_1_2_ok (g := g) (y0 := y0) (y1 := (y1 + (((g 30 1) >>> ((1 : Int32) &&& 31)) &&& (1 : Int32)))) h)
def x32_r29_1 (g : im_M) (a : Int32) : Option (Int32 × im_M) :=
  bif Op.if_icmp.holds .eq (0 : Int32) a then
    (x32_r29_1_1 g a (0 : Int32))
  else
    (x32_r29_1_1 g a ((0 : Int32) + (((g 30 0) >>> ((1 : Int32) &&& 31)) &&& (1 : Int32))))
set_option maxRecDepth 100000 in
set_option maxHeartbeats 4000000 in
theorem x32_r29_1_ok {L : Nat} {xs : Nat → Int32} {g u mm : im_M} {o : Nat → Int64} {Y : iv_A} {a ret : Int32} (h : x32_r29_1 g a = some (ret, mm)) : iv_ev (iv_Xs L xs) 32 0 [.ref 32, .int (1 : Int32), .int a, .retAddr 0, .retAddr 0] [] (im_H g u o Y) 0 0 (.inl (some (.int ret)), im_H mm u o Y) := by
  unfold x32_r29_1 at h
  cases hb1 : Op.if_icmp.holds .eq (0 : Int32) a with
  | true =>
    rw [hb1] at h
    simp only [cond_true] at h
    refine iv_brt (mi' := 32) (pc' := 31) (ls' := [.ref 32, .int (1 : Int32), .int a, .int (0 : Int32), .int (0 : Int32)]) (st' := []) (A' := im_H g u o Y) (c' := 0) (s' := 0) (mi'' := 32) (pc'' := 17) (ls'' := [.ref 32, .int (1 : Int32), .int a, .int (0 : Int32), .int (0 : Int32)]) (st'' := []) (A'' := im_H g u o Y) (c'' := 0) (s'' := 0) 10 0 0 hb1 (fun n => rfl) ?_
    exact x32_r29_1_1_ok (g := g) (y0 := a) (y1 := (0 : Int32)) h
  | false =>
    rw [hb1] at h
    simp only [cond_false] at h
    refine iv_brf (mi' := 32) (pc' := 31) (ls' := [.ref 32, .int (1 : Int32), .int a, .int (0 : Int32), .int (0 : Int32)]) (st' := []) (A' := im_H g u o Y) (c' := 0) (s' := 0) (mi'' := 32) (pc'' := 17) (ls'' := [.ref 32, .int (1 : Int32), .int a, .int (0 : Int32), .int (0 : Int32)]) (st'' := []) (A'' := im_H g u o Y) (c'' := 0) (s'' := 0) 10 0 0 hb1 (fun n => rfl) ?_
    exact iv_blk 11 (fun n => rfl) (x32_r29_1_1_ok (g := g) (y0 := a) (y1 := ((0 : Int32) + (((g 30 0) >>> ((1 : Int32) &&& 31)) &&& (1 : Int32)))) h)
def x32_r29_2_4 (g : im_M) (y0 : Int32) (y1 : Int32) : Option (Int32 × im_M) :=
  some (y1, g)
set_option maxRecDepth 100000 in
set_option maxHeartbeats 4000000 in
theorem x32_r29_2_4_ok {L : Nat} {xs : Nat → Int32} {g u mm : im_M} {o : Nat → Int64} {Y : iv_A} {y0 y1 ret : Int32} (h : x32_r29_2_4 g y0 y1 = some (ret, mm)) : iv_ev (iv_Xs L xs) 32 31 [.ref 32, .int (2 : Int32), .int y0, .int y1, .int (3 : Int32)] [] (im_H g u o Y) 0 0 (.inl (some (.int ret)), im_H mm u o Y) := by
  unfold x32_r29_2_4 at h
  cases h
  exact iv_ret 7 (fun n => rfl)
def x32_r29_2_3 (g : im_M) (y0 : Int32) (y1 : Int32) : Option (Int32 × im_M) :=
  bif Op.if_icmp.holds .eq (3 : Int32) y0 then
    (x32_r29_2_4 g y0 y1)
  else
    (x32_r29_2_4 g y0 (y1 + (((g 30 3) >>> ((2 : Int32) &&& 31)) &&& (1 : Int32))))
set_option maxRecDepth 100000 in
set_option maxHeartbeats 4000000 in
theorem x32_r29_2_3_ok {L : Nat} {xs : Nat → Int32} {g u mm : im_M} {o : Nat → Int64} {Y : iv_A} {y0 y1 ret : Int32} (h : x32_r29_2_3 g y0 y1 = some (ret, mm)) : iv_ev (iv_Xs L xs) 32 31 [.ref 32, .int (2 : Int32), .int y0, .int y1, .int (2 : Int32)] [] (im_H g u o Y) 0 0 (.inl (some (.int ret)), im_H mm u o Y) := by
  unfold x32_r29_2_3 at h
  cases hb4 : Op.if_icmp.holds .eq (3 : Int32) y0 with
  | true =>
    rw [hb4] at h
    simp only [cond_true] at h
    refine iv_brt (mi' := 32) (pc' := 31) (ls' := [.ref 32, .int (2 : Int32), .int y0, .int y1, .int (3 : Int32)]) (st' := []) (A' := im_H g u o Y) (c' := 0) (s' := 0) (mi'' := 32) (pc'' := 17) (ls'' := [.ref 32, .int (2 : Int32), .int y0, .int y1, .int (3 : Int32)]) (st'' := []) (A'' := im_H g u o Y) (c'' := 0) (s'' := 0) 8 0 0 hb4 (fun n => rfl) ?_
    exact x32_r29_2_4_ok (g := g) (y0 := y0) (y1 := y1) h
  | false =>
    rw [hb4] at h
    simp only [cond_false] at h
    refine iv_brf (mi' := 32) (pc' := 31) (ls' := [.ref 32, .int (2 : Int32), .int y0, .int y1, .int (3 : Int32)]) (st' := []) (A' := im_H g u o Y) (c' := 0) (s' := 0) (mi'' := 32) (pc'' := 17) (ls'' := [.ref 32, .int (2 : Int32), .int y0, .int y1, .int (3 : Int32)]) (st'' := []) (A'' := im_H g u o Y) (c'' := 0) (s'' := 0) 8 0 0 hb4 (fun n => rfl) ?_
    exact iv_blk 11 (fun n => rfl) (x32_r29_2_4_ok (g := g) (y0 := y0) (y1 := (y1 + (((g 30 3) >>> ((2 : Int32) &&& 31)) &&& (1 : Int32)))) h)
def x32_r29_2_2 (g : im_M) (y0 : Int32) (y1 : Int32) : Option (Int32 × im_M) :=
  bif Op.if_icmp.holds .eq (2 : Int32) y0 then
    (x32_r29_2_3 g y0 y1)
  else
    (x32_r29_2_3 g y0 (y1 + (((g 30 2) >>> ((2 : Int32) &&& 31)) &&& (1 : Int32))))
set_option maxRecDepth 100000 in
set_option maxHeartbeats 4000000 in
theorem x32_r29_2_2_ok {L : Nat} {xs : Nat → Int32} {g u mm : im_M} {o : Nat → Int64} {Y : iv_A} {y0 y1 ret : Int32} (h : x32_r29_2_2 g y0 y1 = some (ret, mm)) : iv_ev (iv_Xs L xs) 32 31 [.ref 32, .int (2 : Int32), .int y0, .int y1, .int (1 : Int32)] [] (im_H g u o Y) 0 0 (.inl (some (.int ret)), im_H mm u o Y) := by
  unfold x32_r29_2_2 at h
  cases hb3 : Op.if_icmp.holds .eq (2 : Int32) y0 with
  | true =>
    rw [hb3] at h
    simp only [cond_true] at h
    refine iv_brt (mi' := 32) (pc' := 31) (ls' := [.ref 32, .int (2 : Int32), .int y0, .int y1, .int (2 : Int32)]) (st' := []) (A' := im_H g u o Y) (c' := 0) (s' := 0) (mi'' := 32) (pc'' := 17) (ls'' := [.ref 32, .int (2 : Int32), .int y0, .int y1, .int (2 : Int32)]) (st'' := []) (A'' := im_H g u o Y) (c'' := 0) (s'' := 0) 8 0 0 hb3 (fun n => rfl) ?_
    exact x32_r29_2_3_ok (g := g) (y0 := y0) (y1 := y1) h
  | false =>
    rw [hb3] at h
    simp only [cond_false] at h
    refine iv_brf (mi' := 32) (pc' := 31) (ls' := [.ref 32, .int (2 : Int32), .int y0, .int y1, .int (2 : Int32)]) (st' := []) (A' := im_H g u o Y) (c' := 0) (s' := 0) (mi'' := 32) (pc'' := 17) (ls'' := [.ref 32, .int (2 : Int32), .int y0, .int y1, .int (2 : Int32)]) (st'' := []) (A'' := im_H g u o Y) (c'' := 0) (s'' := 0) 8 0 0 hb3 (fun n => rfl) ?_
    exact iv_blk 11 (fun n => rfl) (x32_r29_2_3_ok (g := g) (y0 := y0) (y1 := (y1 + (((g 30 2) >>> ((2 : Int32) &&& 31)) &&& (1 : Int32)))) h)
def x32_r29_2_1 (g : im_M) (y0 : Int32) (y1 : Int32) : Option (Int32 × im_M) :=
  bif Op.if_icmp.holds .eq (1 : Int32) y0 then
    (x32_r29_2_2 g y0 y1)
  else
    (x32_r29_2_2 g y0 (y1 + (((g 30 1) >>> ((2 : Int32) &&& 31)) &&& (1 : Int32))))
set_option maxRecDepth 100000 in
set_option maxHeartbeats 4000000 in
theorem x32_r29_2_1_ok {L : Nat} {xs : Nat → Int32} {g u mm : im_M} {o : Nat → Int64} {Y : iv_A} {y0 y1 ret : Int32} (h : x32_r29_2_1 g y0 y1 = some (ret, mm)) : iv_ev (iv_Xs L xs) 32 31 [.ref 32, .int (2 : Int32), .int y0, .int y1, .int (0 : Int32)] [] (im_H g u o Y) 0 0 (.inl (some (.int ret)), im_H mm u o Y) := by
  unfold x32_r29_2_1 at h
  cases hb2 : Op.if_icmp.holds .eq (1 : Int32) y0 with
  | true =>
    rw [hb2] at h
    simp only [cond_true] at h
    refine iv_brt (mi' := 32) (pc' := 31) (ls' := [.ref 32, .int (2 : Int32), .int y0, .int y1, .int (1 : Int32)]) (st' := []) (A' := im_H g u o Y) (c' := 0) (s' := 0) (mi'' := 32) (pc'' := 17) (ls'' := [.ref 32, .int (2 : Int32), .int y0, .int y1, .int (1 : Int32)]) (st'' := []) (A'' := im_H g u o Y) (c'' := 0) (s'' := 0) 8 0 0 hb2 (fun n => rfl) ?_
    exact x32_r29_2_2_ok (g := g) (y0 := y0) (y1 := y1) h
  | false =>
    rw [hb2] at h
    simp only [cond_false] at h
    refine iv_brf (mi' := 32) (pc' := 31) (ls' := [.ref 32, .int (2 : Int32), .int y0, .int y1, .int (1 : Int32)]) (st' := []) (A' := im_H g u o Y) (c' := 0) (s' := 0) (mi'' := 32) (pc'' := 17) (ls'' := [.ref 32, .int (2 : Int32), .int y0, .int y1, .int (1 : Int32)]) (st'' := []) (A'' := im_H g u o Y) (c'' := 0) (s'' := 0) 8 0 0 hb2 (fun n => rfl) ?_
    exact iv_blk 11 (fun n => rfl) (x32_r29_2_2_ok (g := g) (y0 := y0) (y1 := (y1 + (((g 30 1) >>> ((2 : Int32) &&& 31)) &&& (1 : Int32)))) h)
def x32_r29_2 (g : im_M) (a : Int32) : Option (Int32 × im_M) :=
  bif Op.if_icmp.holds .eq (0 : Int32) a then
    (x32_r29_2_1 g a (0 : Int32))
  else
    (x32_r29_2_1 g a ((0 : Int32) + (((g 30 0) >>> ((2 : Int32) &&& 31)) &&& (1 : Int32))))
set_option maxRecDepth 100000 in
set_option maxHeartbeats 4000000 in
theorem x32_r29_2_ok {L : Nat} {xs : Nat → Int32} {g u mm : im_M} {o : Nat → Int64} {Y : iv_A} {a ret : Int32} (h : x32_r29_2 g a = some (ret, mm)) : iv_ev (iv_Xs L xs) 32 0 [.ref 32, .int (2 : Int32), .int a, .retAddr 0, .retAddr 0] [] (im_H g u o Y) 0 0 (.inl (some (.int ret)), im_H mm u o Y) := by
  unfold x32_r29_2 at h
  cases hb1 : Op.if_icmp.holds .eq (0 : Int32) a with
  | true =>
    rw [hb1] at h
    simp only [cond_true] at h
    refine iv_brt (mi' := 32) (pc' := 31) (ls' := [.ref 32, .int (2 : Int32), .int a, .int (0 : Int32), .int (0 : Int32)]) (st' := []) (A' := im_H g u o Y) (c' := 0) (s' := 0) (mi'' := 32) (pc'' := 17) (ls'' := [.ref 32, .int (2 : Int32), .int a, .int (0 : Int32), .int (0 : Int32)]) (st'' := []) (A'' := im_H g u o Y) (c'' := 0) (s'' := 0) 10 0 0 hb1 (fun n => rfl) ?_
    exact x32_r29_2_1_ok (g := g) (y0 := a) (y1 := (0 : Int32)) h
  | false =>
    rw [hb1] at h
    simp only [cond_false] at h
    refine iv_brf (mi' := 32) (pc' := 31) (ls' := [.ref 32, .int (2 : Int32), .int a, .int (0 : Int32), .int (0 : Int32)]) (st' := []) (A' := im_H g u o Y) (c' := 0) (s' := 0) (mi'' := 32) (pc'' := 17) (ls'' := [.ref 32, .int (2 : Int32), .int a, .int (0 : Int32), .int (0 : Int32)]) (st'' := []) (A'' := im_H g u o Y) (c'' := 0) (s'' := 0) 10 0 0 hb1 (fun n => rfl) ?_
    exact iv_blk 11 (fun n => rfl) (x32_r29_2_1_ok (g := g) (y0 := a) (y1 := ((0 : Int32) + (((g 30 0) >>> ((2 : Int32) &&& 31)) &&& (1 : Int32)))) h)
def x32_r31_0_4 (g : im_M) (y0 : Int32) (y1 : Int32) : Option (Int32 × im_M) :=
  some (y1, g)
set_option maxRecDepth 100000 in
set_option maxHeartbeats 4000000 in
theorem x32_r31_0_4_ok {L : Nat} {xs : Nat → Int32} {g u mm : im_M} {o : Nat → Int64} {Y : iv_A} {y0 y1 ret : Int32} (h : x32_r31_0_4 g y0 y1 = some (ret, mm)) : iv_ev (iv_Xs L xs) 32 31 [.ref 34, .int (0 : Int32), .int y0, .int y1, .int (3 : Int32)] [] (im_H g u o Y) 0 0 (.inl (some (.int ret)), im_H mm u o Y) := by
  unfold x32_r31_0_4 at h
  cases h
  exact iv_ret 7 (fun n => rfl)
def x32_r31_0_3 (g : im_M) (y0 : Int32) (y1 : Int32) : Option (Int32 × im_M) :=
  bif Op.if_icmp.holds .eq (3 : Int32) y0 then
    (x32_r31_0_4 g y0 y1)
  else
    (x32_r31_0_4 g y0 (y1 + (((g 32 3) >>> ((0 : Int32) &&& 31)) &&& (1 : Int32))))
set_option maxRecDepth 100000 in
set_option maxHeartbeats 4000000 in
theorem x32_r31_0_3_ok {L : Nat} {xs : Nat → Int32} {g u mm : im_M} {o : Nat → Int64} {Y : iv_A} {y0 y1 ret : Int32} (h : x32_r31_0_3 g y0 y1 = some (ret, mm)) : iv_ev (iv_Xs L xs) 32 31 [.ref 34, .int (0 : Int32), .int y0, .int y1, .int (2 : Int32)] [] (im_H g u o Y) 0 0 (.inl (some (.int ret)), im_H mm u o Y) := by
  unfold x32_r31_0_3 at h
  cases hb4 : Op.if_icmp.holds .eq (3 : Int32) y0 with
  | true =>
    rw [hb4] at h
    simp only [cond_true] at h
    refine iv_brt (mi' := 32) (pc' := 31) (ls' := [.ref 34, .int (0 : Int32), .int y0, .int y1, .int (3 : Int32)]) (st' := []) (A' := im_H g u o Y) (c' := 0) (s' := 0) (mi'' := 32) (pc'' := 17) (ls'' := [.ref 34, .int (0 : Int32), .int y0, .int y1, .int (3 : Int32)]) (st'' := []) (A'' := im_H g u o Y) (c'' := 0) (s'' := 0) 8 0 0 hb4 (fun n => rfl) ?_
    exact x32_r31_0_4_ok (g := g) (y0 := y0) (y1 := y1) h
  | false =>
    rw [hb4] at h
    simp only [cond_false] at h
    refine iv_brf (mi' := 32) (pc' := 31) (ls' := [.ref 34, .int (0 : Int32), .int y0, .int y1, .int (3 : Int32)]) (st' := []) (A' := im_H g u o Y) (c' := 0) (s' := 0) (mi'' := 32) (pc'' := 17) (ls'' := [.ref 34, .int (0 : Int32), .int y0, .int y1, .int (3 : Int32)]) (st'' := []) (A'' := im_H g u o Y) (c'' := 0) (s'' := 0) 8 0 0 hb4 (fun n => rfl) ?_
    exact iv_blk 11 (fun n => rfl) (x32_r31_0_4_ok (g := g) (y0 := y0) (y1 := (y1 + (((g 32 3) >>> ((0 : Int32) &&& 31)) &&& (1 : Int32)))) h)
def x32_r31_0_2 (g : im_M) (y0 : Int32) (y1 : Int32) : Option (Int32 × im_M) :=
  bif Op.if_icmp.holds .eq (2 : Int32) y0 then
    (x32_r31_0_3 g y0 y1)
  else
    (x32_r31_0_3 g y0 (y1 + (((g 32 2) >>> ((0 : Int32) &&& 31)) &&& (1 : Int32))))
set_option maxRecDepth 100000 in
set_option maxHeartbeats 4000000 in
theorem x32_r31_0_2_ok {L : Nat} {xs : Nat → Int32} {g u mm : im_M} {o : Nat → Int64} {Y : iv_A} {y0 y1 ret : Int32} (h : x32_r31_0_2 g y0 y1 = some (ret, mm)) : iv_ev (iv_Xs L xs) 32 31 [.ref 34, .int (0 : Int32), .int y0, .int y1, .int (1 : Int32)] [] (im_H g u o Y) 0 0 (.inl (some (.int ret)), im_H mm u o Y) := by
  unfold x32_r31_0_2 at h
  cases hb3 : Op.if_icmp.holds .eq (2 : Int32) y0 with
  | true =>
    rw [hb3] at h
    simp only [cond_true] at h
    refine iv_brt (mi' := 32) (pc' := 31) (ls' := [.ref 34, .int (0 : Int32), .int y0, .int y1, .int (2 : Int32)]) (st' := []) (A' := im_H g u o Y) (c' := 0) (s' := 0) (mi'' := 32) (pc'' := 17) (ls'' := [.ref 34, .int (0 : Int32), .int y0, .int y1, .int (2 : Int32)]) (st'' := []) (A'' := im_H g u o Y) (c'' := 0) (s'' := 0) 8 0 0 hb3 (fun n => rfl) ?_
    exact x32_r31_0_3_ok (g := g) (y0 := y0) (y1 := y1) h
  | false =>
    rw [hb3] at h
    simp only [cond_false] at h
    refine iv_brf (mi' := 32) (pc' := 31) (ls' := [.ref 34, .int (0 : Int32), .int y0, .int y1, .int (2 : Int32)]) (st' := []) (A' := im_H g u o Y) (c' := 0) (s' := 0) (mi'' := 32) (pc'' := 17) (ls'' := [.ref 34, .int (0 : Int32), .int y0, .int y1, .int (2 : Int32)]) (st'' := []) (A'' := im_H g u o Y) (c'' := 0) (s'' := 0) 8 0 0 hb3 (fun n => rfl) ?_
    exact iv_blk 11 (fun n => rfl) (x32_r31_0_3_ok (g := g) (y0 := y0) (y1 := (y1 + (((g 32 2) >>> ((0 : Int32) &&& 31)) &&& (1 : Int32)))) h)
def x32_r31_0_1 (g : im_M) (y0 : Int32) (y1 : Int32) : Option (Int32 × im_M) :=
  bif Op.if_icmp.holds .eq (1 : Int32) y0 then
    (x32_r31_0_2 g y0 y1)
  else
    (x32_r31_0_2 g y0 (y1 + (((g 32 1) >>> ((0 : Int32) &&& 31)) &&& (1 : Int32))))
set_option maxRecDepth 100000 in
set_option maxHeartbeats 4000000 in
theorem x32_r31_0_1_ok {L : Nat} {xs : Nat → Int32} {g u mm : im_M} {o : Nat → Int64} {Y : iv_A} {y0 y1 ret : Int32} (h : x32_r31_0_1 g y0 y1 = some (ret, mm)) : iv_ev (iv_Xs L xs) 32 31 [.ref 34, .int (0 : Int32), .int y0, .int y1, .int (0 : Int32)] [] (im_H g u o Y) 0 0 (.inl (some (.int ret)), im_H mm u o Y) := by
  unfold x32_r31_0_1 at h
  cases hb2 : Op.if_icmp.holds .eq (1 : Int32) y0 with
  | true =>
    rw [hb2] at h
    simp only [cond_true] at h
    refine iv_brt (mi' := 32) (pc' := 31) (ls' := [.ref 34, .int (0 : Int32), .int y0, .int y1, .int (1 : Int32)]) (st' := []) (A' := im_H g u o Y) (c' := 0) (s' := 0) (mi'' := 32) (pc'' := 17) (ls'' := [.ref 34, .int (0 : Int32), .int y0, .int y1, .int (1 : Int32)]) (st'' := []) (A'' := im_H g u o Y) (c'' := 0) (s'' := 0) 8 0 0 hb2 (fun n => rfl) ?_
    exact x32_r31_0_2_ok (g := g) (y0 := y0) (y1 := y1) h
  | false =>
    rw [hb2] at h
    simp only [cond_false] at h
    refine iv_brf (mi' := 32) (pc' := 31) (ls' := [.ref 34, .int (0 : Int32), .int y0, .int y1, .int (1 : Int32)]) (st' := []) (A' := im_H g u o Y) (c' := 0) (s' := 0) (mi'' := 32) (pc'' := 17) (ls'' := [.ref 34, .int (0 : Int32), .int y0, .int y1, .int (1 : Int32)]) (st'' := []) (A'' := im_H g u o Y) (c'' := 0) (s'' := 0) 8 0 0 hb2 (fun n => rfl) ?_
    exact iv_blk 11 (fun n => rfl) (x32_r31_0_2_ok (g := g) (y0 := y0) (y1 := (y1 + (((g 32 1) >>> ((0 : Int32) &&& 31)) &&& (1 : Int32)))) h)
def x32_r31_0 (g : im_M) (a : Int32) : Option (Int32 × im_M) :=
  bif Op.if_icmp.holds .eq (0 : Int32) a then
    (x32_r31_0_1 g a (0 : Int32))
  else
    (x32_r31_0_1 g a ((0 : Int32) + (((g 32 0) >>> ((0 : Int32) &&& 31)) &&& (1 : Int32))))
set_option maxRecDepth 100000 in
set_option maxHeartbeats 4000000 in
theorem x32_r31_0_ok {L : Nat} {xs : Nat → Int32} {g u mm : im_M} {o : Nat → Int64} {Y : iv_A} {a ret : Int32} (h : x32_r31_0 g a = some (ret, mm)) : iv_ev (iv_Xs L xs) 32 0 [.ref 34, .int (0 : Int32), .int a, .retAddr 0, .retAddr 0] [] (im_H g u o Y) 0 0 (.inl (some (.int ret)), im_H mm u o Y) := by
  unfold x32_r31_0 at h
  cases hb1 : Op.if_icmp.holds .eq (0 : Int32) a with
  | true =>
    rw [hb1] at h
    simp only [cond_true] at h
    refine iv_brt (mi' := 32) (pc' := 31) (ls' := [.ref 34, .int (0 : Int32), .int a, .int (0 : Int32), .int (0 : Int32)]) (st' := []) (A' := im_H g u o Y) (c' := 0) (s' := 0) (mi'' := 32) (pc'' := 17) (ls'' := [.ref 34, .int (0 : Int32), .int a, .int (0 : Int32), .int (0 : Int32)]) (st'' := []) (A'' := im_H g u o Y) (c'' := 0) (s'' := 0) 10 0 0 hb1 (fun n => rfl) ?_
    exact x32_r31_0_1_ok (g := g) (y0 := a) (y1 := (0 : Int32)) h
  | false =>
    rw [hb1] at h
    simp only [cond_false] at h
    refine iv_brf (mi' := 32) (pc' := 31) (ls' := [.ref 34, .int (0 : Int32), .int a, .int (0 : Int32), .int (0 : Int32)]) (st' := []) (A' := im_H g u o Y) (c' := 0) (s' := 0) (mi'' := 32) (pc'' := 17) (ls'' := [.ref 34, .int (0 : Int32), .int a, .int (0 : Int32), .int (0 : Int32)]) (st'' := []) (A'' := im_H g u o Y) (c'' := 0) (s'' := 0) 10 0 0 hb1 (fun n => rfl) ?_
    exact iv_blk 11 (fun n => rfl) (x32_r31_0_1_ok (g := g) (y0 := a) (y1 := ((0 : Int32) + (((g 32 0) >>> ((0 : Int32) &&& 31)) &&& (1 : Int32)))) h)
def x32_r31_1_4 (g : im_M) (y0 : Int32) (y1 : Int32) : Option (Int32 × im_M) :=
  some (y1, g)
set_option maxRecDepth 100000 in
set_option maxHeartbeats 4000000 in
theorem x32_r31_1_4_ok {L : Nat} {xs : Nat → Int32} {g u mm : im_M} {o : Nat → Int64} {Y : iv_A} {y0 y1 ret : Int32} (h : x32_r31_1_4 g y0 y1 = some (ret, mm)) : iv_ev (iv_Xs L xs) 32 31 [.ref 34, .int (1 : Int32), .int y0, .int y1, .int (3 : Int32)] [] (im_H g u o Y) 0 0 (.inl (some (.int ret)), im_H mm u o Y) := by
  unfold x32_r31_1_4 at h
  cases h
  exact iv_ret 7 (fun n => rfl)
def x32_r31_1_3 (g : im_M) (y0 : Int32) (y1 : Int32) : Option (Int32 × im_M) :=
  bif Op.if_icmp.holds .eq (3 : Int32) y0 then
    (x32_r31_1_4 g y0 y1)
  else
    (x32_r31_1_4 g y0 (y1 + (((g 32 3) >>> ((1 : Int32) &&& 31)) &&& (1 : Int32))))
set_option maxRecDepth 100000 in
set_option maxHeartbeats 4000000 in
theorem x32_r31_1_3_ok {L : Nat} {xs : Nat → Int32} {g u mm : im_M} {o : Nat → Int64} {Y : iv_A} {y0 y1 ret : Int32} (h : x32_r31_1_3 g y0 y1 = some (ret, mm)) : iv_ev (iv_Xs L xs) 32 31 [.ref 34, .int (1 : Int32), .int y0, .int y1, .int (2 : Int32)] [] (im_H g u o Y) 0 0 (.inl (some (.int ret)), im_H mm u o Y) := by
  unfold x32_r31_1_3 at h
  cases hb4 : Op.if_icmp.holds .eq (3 : Int32) y0 with
  | true =>
    rw [hb4] at h
    simp only [cond_true] at h
    refine iv_brt (mi' := 32) (pc' := 31) (ls' := [.ref 34, .int (1 : Int32), .int y0, .int y1, .int (3 : Int32)]) (st' := []) (A' := im_H g u o Y) (c' := 0) (s' := 0) (mi'' := 32) (pc'' := 17) (ls'' := [.ref 34, .int (1 : Int32), .int y0, .int y1, .int (3 : Int32)]) (st'' := []) (A'' := im_H g u o Y) (c'' := 0) (s'' := 0) 8 0 0 hb4 (fun n => rfl) ?_
    exact x32_r31_1_4_ok (g := g) (y0 := y0) (y1 := y1) h
  | false =>
    rw [hb4] at h
    simp only [cond_false] at h
    refine iv_brf (mi' := 32) (pc' := 31) (ls' := [.ref 34, .int (1 : Int32), .int y0, .int y1, .int (3 : Int32)]) (st' := []) (A' := im_H g u o Y) (c' := 0) (s' := 0) (mi'' := 32) (pc'' := 17) (ls'' := [.ref 34, .int (1 : Int32), .int y0, .int y1, .int (3 : Int32)]) (st'' := []) (A'' := im_H g u o Y) (c'' := 0) (s'' := 0) 8 0 0 hb4 (fun n => rfl) ?_
    exact iv_blk 11 (fun n => rfl) (x32_r31_1_4_ok (g := g) (y0 := y0) (y1 := (y1 + (((g 32 3) >>> ((1 : Int32) &&& 31)) &&& (1 : Int32)))) h)
def x32_r31_1_2 (g : im_M) (y0 : Int32) (y1 : Int32) : Option (Int32 × im_M) :=
  bif Op.if_icmp.holds .eq (2 : Int32) y0 then
    (x32_r31_1_3 g y0 y1)
  else
    (x32_r31_1_3 g y0 (y1 + (((g 32 2) >>> ((1 : Int32) &&& 31)) &&& (1 : Int32))))
set_option maxRecDepth 100000 in
set_option maxHeartbeats 4000000 in
theorem x32_r31_1_2_ok {L : Nat} {xs : Nat → Int32} {g u mm : im_M} {o : Nat → Int64} {Y : iv_A} {y0 y1 ret : Int32} (h : x32_r31_1_2 g y0 y1 = some (ret, mm)) : iv_ev (iv_Xs L xs) 32 31 [.ref 34, .int (1 : Int32), .int y0, .int y1, .int (1 : Int32)] [] (im_H g u o Y) 0 0 (.inl (some (.int ret)), im_H mm u o Y) := by
  unfold x32_r31_1_2 at h
  cases hb3 : Op.if_icmp.holds .eq (2 : Int32) y0 with
  | true =>
    rw [hb3] at h
    simp only [cond_true] at h
    refine iv_brt (mi' := 32) (pc' := 31) (ls' := [.ref 34, .int (1 : Int32), .int y0, .int y1, .int (2 : Int32)]) (st' := []) (A' := im_H g u o Y) (c' := 0) (s' := 0) (mi'' := 32) (pc'' := 17) (ls'' := [.ref 34, .int (1 : Int32), .int y0, .int y1, .int (2 : Int32)]) (st'' := []) (A'' := im_H g u o Y) (c'' := 0) (s'' := 0) 8 0 0 hb3 (fun n => rfl) ?_
    exact x32_r31_1_3_ok (g := g) (y0 := y0) (y1 := y1) h
  | false =>
    rw [hb3] at h
    simp only [cond_false] at h
    refine iv_brf (mi' := 32) (pc' := 31) (ls' := [.ref 34, .int (1 : Int32), .int y0, .int y1, .int (2 : Int32)]) (st' := []) (A' := im_H g u o Y) (c' := 0) (s' := 0) (mi'' := 32) (pc'' := 17) (ls'' := [.ref 34, .int (1 : Int32), .int y0, .int y1, .int (2 : Int32)]) (st'' := []) (A'' := im_H g u o Y) (c'' := 0) (s'' := 0) 8 0 0 hb3 (fun n => rfl) ?_
    exact iv_blk 11 (fun n => rfl) (x32_r31_1_3_ok (g := g) (y0 := y0) (y1 := (y1 + (((g 32 2) >>> ((1 : Int32) &&& 31)) &&& (1 : Int32)))) h)
def x32_r31_1_1 (g : im_M) (y0 : Int32) (y1 : Int32) : Option (Int32 × im_M) :=
  bif Op.if_icmp.holds .eq (1 : Int32) y0 then
    (x32_r31_1_2 g y0 y1)
  else
    (x32_r31_1_2 g y0 (y1 + (((g 32 1) >>> ((1 : Int32) &&& 31)) &&& (1 : Int32))))
set_option maxRecDepth 100000 in
set_option maxHeartbeats 4000000 in
theorem x32_r31_1_1_ok {L : Nat} {xs : Nat → Int32} {g u mm : im_M} {o : Nat → Int64} {Y : iv_A} {y0 y1 ret : Int32} (h : x32_r31_1_1 g y0 y1 = some (ret, mm)) : iv_ev (iv_Xs L xs) 32 31 [.ref 34, .int (1 : Int32), .int y0, .int y1, .int (0 : Int32)] [] (im_H g u o Y) 0 0 (.inl (some (.int ret)), im_H mm u o Y) := by
  unfold x32_r31_1_1 at h
  cases hb2 : Op.if_icmp.holds .eq (1 : Int32) y0 with
  | true =>
    rw [hb2] at h
    simp only [cond_true] at h
    refine iv_brt (mi' := 32) (pc' := 31) (ls' := [.ref 34, .int (1 : Int32), .int y0, .int y1, .int (1 : Int32)]) (st' := []) (A' := im_H g u o Y) (c' := 0) (s' := 0) (mi'' := 32) (pc'' := 17) (ls'' := [.ref 34, .int (1 : Int32), .int y0, .int y1, .int (1 : Int32)]) (st'' := []) (A'' := im_H g u o Y) (c'' := 0) (s'' := 0) 8 0 0 hb2 (fun n => rfl) ?_
    exact x32_r31_1_2_ok (g := g) (y0 := y0) (y1 := y1) h
  | false =>
    rw [hb2] at h
    simp only [cond_false] at h
    refine iv_brf (mi' := 32) (pc' := 31) (ls' := [.ref 34, .int (1 : Int32), .int y0, .int y1, .int (1 : Int32)]) (st' := []) (A' := im_H g u o Y) (c' := 0) (s' := 0) (mi'' := 32) (pc'' := 17) (ls'' := [.ref 34, .int (1 : Int32), .int y0, .int y1, .int (1 : Int32)]) (st'' := []) (A'' := im_H g u o Y) (c'' := 0) (s'' := 0) 8 0 0 hb2 (fun n => rfl) ?_
    exact iv_blk 11 (fun n => rfl) (x32_r31_1_2_ok (g := g) (y0 := y0) (y1 := (y1 + (((g 32 1) >>> ((1 : Int32) &&& 31)) &&& (1 : Int32)))) h)
def x32_r31_1 (g : im_M) (a : Int32) : Option (Int32 × im_M) :=
  bif Op.if_icmp.holds .eq (0 : Int32) a then
    (x32_r31_1_1 g a (0 : Int32))
  else
    (x32_r31_1_1 g a ((0 : Int32) + (((g 32 0) >>> ((1 : Int32) &&& 31)) &&& (1 : Int32))))
set_option maxRecDepth 100000 in
set_option maxHeartbeats 4000000 in
theorem x32_r31_1_ok {L : Nat} {xs : Nat → Int32} {g u mm : im_M} {o : Nat → Int64} {Y : iv_A} {a ret : Int32} (h : x32_r31_1 g a = some (ret, mm)) : iv_ev (iv_Xs L xs) 32 0 [.ref 34, .int (1 : Int32), .int a, .retAddr 0, .retAddr 0] [] (im_H g u o Y) 0 0 (.inl (some (.int ret)), im_H mm u o Y) := by
  unfold x32_r31_1 at h
  cases hb1 : Op.if_icmp.holds .eq (0 : Int32) a with
  | true =>
    rw [hb1] at h
    simp only [cond_true] at h
    refine iv_brt (mi' := 32) (pc' := 31) (ls' := [.ref 34, .int (1 : Int32), .int a, .int (0 : Int32), .int (0 : Int32)]) (st' := []) (A' := im_H g u o Y) (c' := 0) (s' := 0) (mi'' := 32) (pc'' := 17) (ls'' := [.ref 34, .int (1 : Int32), .int a, .int (0 : Int32), .int (0 : Int32)]) (st'' := []) (A'' := im_H g u o Y) (c'' := 0) (s'' := 0) 10 0 0 hb1 (fun n => rfl) ?_
    exact x32_r31_1_1_ok (g := g) (y0 := a) (y1 := (0 : Int32)) h
  | false =>
    rw [hb1] at h
    simp only [cond_false] at h
    refine iv_brf (mi' := 32) (pc' := 31) (ls' := [.ref 34, .int (1 : Int32), .int a, .int (0 : Int32), .int (0 : Int32)]) (st' := []) (A' := im_H g u o Y) (c' := 0) (s' := 0) (mi'' := 32) (pc'' := 17) (ls'' := [.ref 34, .int (1 : Int32), .int a, .int (0 : Int32), .int (0 : Int32)]) (st'' := []) (A'' := im_H g u o Y) (c'' := 0) (s'' := 0) 10 0 0 hb1 (fun n => rfl) ?_
    exact iv_blk 11 (fun n => rfl) (x32_r31_1_1_ok (g := g) (y0 := a) (y1 := ((0 : Int32) + (((g 32 0) >>> ((1 : Int32) &&& 31)) &&& (1 : Int32)))) h)
def x32_r31_2_4 (g : im_M) (y0 : Int32) (y1 : Int32) : Option (Int32 × im_M) :=
  some (y1, g)
set_option maxRecDepth 100000 in
set_option maxHeartbeats 4000000 in
theorem x32_r31_2_4_ok {L : Nat} {xs : Nat → Int32} {g u mm : im_M} {o : Nat → Int64} {Y : iv_A} {y0 y1 ret : Int32} (h : x32_r31_2_4 g y0 y1 = some (ret, mm)) : iv_ev (iv_Xs L xs) 32 31 [.ref 34, .int (2 : Int32), .int y0, .int y1, .int (3 : Int32)] [] (im_H g u o Y) 0 0 (.inl (some (.int ret)), im_H mm u o Y) := by
  unfold x32_r31_2_4 at h
  cases h
  exact iv_ret 7 (fun n => rfl)
def x32_r31_2_3 (g : im_M) (y0 : Int32) (y1 : Int32) : Option (Int32 × im_M) :=
  bif Op.if_icmp.holds .eq (3 : Int32) y0 then
    (x32_r31_2_4 g y0 y1)
  else
    (x32_r31_2_4 g y0 (y1 + (((g 32 3) >>> ((2 : Int32) &&& 31)) &&& (1 : Int32))))
set_option maxRecDepth 100000 in
set_option maxHeartbeats 4000000 in
theorem x32_r31_2_3_ok {L : Nat} {xs : Nat → Int32} {g u mm : im_M} {o : Nat → Int64} {Y : iv_A} {y0 y1 ret : Int32} (h : x32_r31_2_3 g y0 y1 = some (ret, mm)) : iv_ev (iv_Xs L xs) 32 31 [.ref 34, .int (2 : Int32), .int y0, .int y1, .int (2 : Int32)] [] (im_H g u o Y) 0 0 (.inl (some (.int ret)), im_H mm u o Y) := by
  unfold x32_r31_2_3 at h
  cases hb4 : Op.if_icmp.holds .eq (3 : Int32) y0 with
  | true =>
    rw [hb4] at h
    simp only [cond_true] at h
    refine iv_brt (mi' := 32) (pc' := 31) (ls' := [.ref 34, .int (2 : Int32), .int y0, .int y1, .int (3 : Int32)]) (st' := []) (A' := im_H g u o Y) (c' := 0) (s' := 0) (mi'' := 32) (pc'' := 17) (ls'' := [.ref 34, .int (2 : Int32), .int y0, .int y1, .int (3 : Int32)]) (st'' := []) (A'' := im_H g u o Y) (c'' := 0) (s'' := 0) 8 0 0 hb4 (fun n => rfl) ?_
    exact x32_r31_2_4_ok (g := g) (y0 := y0) (y1 := y1) h
  | false =>
    rw [hb4] at h
    simp only [cond_false] at h
    refine iv_brf (mi' := 32) (pc' := 31) (ls' := [.ref 34, .int (2 : Int32), .int y0, .int y1, .int (3 : Int32)]) (st' := []) (A' := im_H g u o Y) (c' := 0) (s' := 0) (mi'' := 32) (pc'' := 17) (ls'' := [.ref 34, .int (2 : Int32), .int y0, .int y1, .int (3 : Int32)]) (st'' := []) (A'' := im_H g u o Y) (c'' := 0) (s'' := 0) 8 0 0 hb4 (fun n => rfl) ?_
    exact iv_blk 11 (fun n => rfl) (x32_r31_2_4_ok (g := g) (y0 := y0) (y1 := (y1 + (((g 32 3) >>> ((2 : Int32) &&& 31)) &&& (1 : Int32)))) h)
def x32_r31_2_2 (g : im_M) (y0 : Int32) (y1 : Int32) : Option (Int32 × im_M) :=
  bif Op.if_icmp.holds .eq (2 : Int32) y0 then
    (x32_r31_2_3 g y0 y1)
  else
    (x32_r31_2_3 g y0 (y1 + (((g 32 2) >>> ((2 : Int32) &&& 31)) &&& (1 : Int32))))
set_option maxRecDepth 100000 in
set_option maxHeartbeats 4000000 in
theorem x32_r31_2_2_ok {L : Nat} {xs : Nat → Int32} {g u mm : im_M} {o : Nat → Int64} {Y : iv_A} {y0 y1 ret : Int32} (h : x32_r31_2_2 g y0 y1 = some (ret, mm)) : iv_ev (iv_Xs L xs) 32 31 [.ref 34, .int (2 : Int32), .int y0, .int y1, .int (1 : Int32)] [] (im_H g u o Y) 0 0 (.inl (some (.int ret)), im_H mm u o Y) := by
  unfold x32_r31_2_2 at h
  cases hb3 : Op.if_icmp.holds .eq (2 : Int32) y0 with
  | true =>
    rw [hb3] at h
    simp only [cond_true] at h
    refine iv_brt (mi' := 32) (pc' := 31) (ls' := [.ref 34, .int (2 : Int32), .int y0, .int y1, .int (2 : Int32)]) (st' := []) (A' := im_H g u o Y) (c' := 0) (s' := 0) (mi'' := 32) (pc'' := 17) (ls'' := [.ref 34, .int (2 : Int32), .int y0, .int y1, .int (2 : Int32)]) (st'' := []) (A'' := im_H g u o Y) (c'' := 0) (s'' := 0) 8 0 0 hb3 (fun n => rfl) ?_
    exact x32_r31_2_3_ok (g := g) (y0 := y0) (y1 := y1) h
  | false =>
    rw [hb3] at h
    simp only [cond_false] at h
    refine iv_brf (mi' := 32) (pc' := 31) (ls' := [.ref 34, .int (2 : Int32), .int y0, .int y1, .int (2 : Int32)]) (st' := []) (A' := im_H g u o Y) (c' := 0) (s' := 0) (mi'' := 32) (pc'' := 17) (ls'' := [.ref 34, .int (2 : Int32), .int y0, .int y1, .int (2 : Int32)]) (st'' := []) (A'' := im_H g u o Y) (c'' := 0) (s'' := 0) 8 0 0 hb3 (fun n => rfl) ?_
    exact iv_blk 11 (fun n => rfl) (x32_r31_2_3_ok (g := g) (y0 := y0) (y1 := (y1 + (((g 32 2) >>> ((2 : Int32) &&& 31)) &&& (1 : Int32)))) h)
def x32_r31_2_1 (g : im_M) (y0 : Int32) (y1 : Int32) : Option (Int32 × im_M) :=
  bif Op.if_icmp.holds .eq (1 : Int32) y0 then
    (x32_r31_2_2 g y0 y1)
  else
    (x32_r31_2_2 g y0 (y1 + (((g 32 1) >>> ((2 : Int32) &&& 31)) &&& (1 : Int32))))
set_option maxRecDepth 100000 in
set_option maxHeartbeats 4000000 in
theorem x32_r31_2_1_ok {L : Nat} {xs : Nat → Int32} {g u mm : im_M} {o : Nat → Int64} {Y : iv_A} {y0 y1 ret : Int32} (h : x32_r31_2_1 g y0 y1 = some (ret, mm)) : iv_ev (iv_Xs L xs) 32 31 [.ref 34, .int (2 : Int32), .int y0, .int y1, .int (0 : Int32)] [] (im_H g u o Y) 0 0 (.inl (some (.int ret)), im_H mm u o Y) := by
  unfold x32_r31_2_1 at h
  cases hb2 : Op.if_icmp.holds .eq (1 : Int32) y0 with
  | true =>
    rw [hb2] at h
    simp only [cond_true] at h
    refine iv_brt (mi' := 32) (pc' := 31) (ls' := [.ref 34, .int (2 : Int32), .int y0, .int y1, .int (1 : Int32)]) (st' := []) (A' := im_H g u o Y) (c' := 0) (s' := 0) (mi'' := 32) (pc'' := 17) (ls'' := [.ref 34, .int (2 : Int32), .int y0, .int y1, .int (1 : Int32)]) (st'' := []) (A'' := im_H g u o Y) (c'' := 0) (s'' := 0) 8 0 0 hb2 (fun n => rfl) ?_
    exact x32_r31_2_2_ok (g := g) (y0 := y0) (y1 := y1) h
  | false =>
    rw [hb2] at h
    simp only [cond_false] at h
    refine iv_brf (mi' := 32) (pc' := 31) (ls' := [.ref 34, .int (2 : Int32), .int y0, .int y1, .int (1 : Int32)]) (st' := []) (A' := im_H g u o Y) (c' := 0) (s' := 0) (mi'' := 32) (pc'' := 17) (ls'' := [.ref 34, .int (2 : Int32), .int y0, .int y1, .int (1 : Int32)]) (st'' := []) (A'' := im_H g u o Y) (c'' := 0) (s'' := 0) 8 0 0 hb2 (fun n => rfl) ?_
    exact iv_blk 11 (fun n => rfl) (x32_r31_2_2_ok (g := g) (y0 := y0) (y1 := (y1 + (((g 32 1) >>> ((2 : Int32) &&& 31)) &&& (1 : Int32)))) h)
def x32_r31_2 (g : im_M) (a : Int32) : Option (Int32 × im_M) :=
  bif Op.if_icmp.holds .eq (0 : Int32) a then
    (x32_r31_2_1 g a (0 : Int32))
  else
    (x32_r31_2_1 g a ((0 : Int32) + (((g 32 0) >>> ((2 : Int32) &&& 31)) &&& (1 : Int32))))
set_option maxRecDepth 100000 in
set_option maxHeartbeats 4000000 in
theorem x32_r31_2_ok {L : Nat} {xs : Nat → Int32} {g u mm : im_M} {o : Nat → Int64} {Y : iv_A} {a ret : Int32} (h : x32_r31_2 g a = some (ret, mm)) : iv_ev (iv_Xs L xs) 32 0 [.ref 34, .int (2 : Int32), .int a, .retAddr 0, .retAddr 0] [] (im_H g u o Y) 0 0 (.inl (some (.int ret)), im_H mm u o Y) := by
  unfold x32_r31_2 at h
  cases hb1 : Op.if_icmp.holds .eq (0 : Int32) a with
  | true =>
    rw [hb1] at h
    simp only [cond_true] at h
    refine iv_brt (mi' := 32) (pc' := 31) (ls' := [.ref 34, .int (2 : Int32), .int a, .int (0 : Int32), .int (0 : Int32)]) (st' := []) (A' := im_H g u o Y) (c' := 0) (s' := 0) (mi'' := 32) (pc'' := 17) (ls'' := [.ref 34, .int (2 : Int32), .int a, .int (0 : Int32), .int (0 : Int32)]) (st'' := []) (A'' := im_H g u o Y) (c'' := 0) (s'' := 0) 10 0 0 hb1 (fun n => rfl) ?_
    exact x32_r31_2_1_ok (g := g) (y0 := a) (y1 := (0 : Int32)) h
  | false =>
    rw [hb1] at h
    simp only [cond_false] at h
    refine iv_brf (mi' := 32) (pc' := 31) (ls' := [.ref 34, .int (2 : Int32), .int a, .int (0 : Int32), .int (0 : Int32)]) (st' := []) (A' := im_H g u o Y) (c' := 0) (s' := 0) (mi'' := 32) (pc'' := 17) (ls'' := [.ref 34, .int (2 : Int32), .int a, .int (0 : Int32), .int (0 : Int32)]) (st'' := []) (A'' := im_H g u o Y) (c'' := 0) (s'' := 0) 10 0 0 hb1 (fun n => rfl) ?_
    exact iv_blk 11 (fun n => rfl) (x32_r31_2_1_ok (g := g) (y0 := a) (y1 := ((0 : Int32) + (((g 32 0) >>> ((2 : Int32) &&& 31)) &&& (1 : Int32)))) h)
def x32_r33_0_4 (g : im_M) (y0 : Int32) (y1 : Int32) : Option (Int32 × im_M) :=
  some (y1, g)
set_option maxRecDepth 100000 in
set_option maxHeartbeats 4000000 in
theorem x32_r33_0_4_ok {L : Nat} {xs : Nat → Int32} {g u mm : im_M} {o : Nat → Int64} {Y : iv_A} {y0 y1 ret : Int32} (h : x32_r33_0_4 g y0 y1 = some (ret, mm)) : iv_ev (iv_Xs L xs) 32 31 [.ref 36, .int (0 : Int32), .int y0, .int y1, .int (3 : Int32)] [] (im_H g u o Y) 0 0 (.inl (some (.int ret)), im_H mm u o Y) := by
  unfold x32_r33_0_4 at h
  cases h
  exact iv_ret 7 (fun n => rfl)
def x32_r33_0_3 (g : im_M) (y0 : Int32) (y1 : Int32) : Option (Int32 × im_M) :=
  bif Op.if_icmp.holds .eq (3 : Int32) y0 then
    (x32_r33_0_4 g y0 y1)
  else
    (x32_r33_0_4 g y0 (y1 + (((g 34 3) >>> ((0 : Int32) &&& 31)) &&& (1 : Int32))))
set_option maxRecDepth 100000 in
set_option maxHeartbeats 4000000 in
theorem x32_r33_0_3_ok {L : Nat} {xs : Nat → Int32} {g u mm : im_M} {o : Nat → Int64} {Y : iv_A} {y0 y1 ret : Int32} (h : x32_r33_0_3 g y0 y1 = some (ret, mm)) : iv_ev (iv_Xs L xs) 32 31 [.ref 36, .int (0 : Int32), .int y0, .int y1, .int (2 : Int32)] [] (im_H g u o Y) 0 0 (.inl (some (.int ret)), im_H mm u o Y) := by
  unfold x32_r33_0_3 at h
  cases hb4 : Op.if_icmp.holds .eq (3 : Int32) y0 with
  | true =>
    rw [hb4] at h
    simp only [cond_true] at h
    refine iv_brt (mi' := 32) (pc' := 31) (ls' := [.ref 36, .int (0 : Int32), .int y0, .int y1, .int (3 : Int32)]) (st' := []) (A' := im_H g u o Y) (c' := 0) (s' := 0) (mi'' := 32) (pc'' := 17) (ls'' := [.ref 36, .int (0 : Int32), .int y0, .int y1, .int (3 : Int32)]) (st'' := []) (A'' := im_H g u o Y) (c'' := 0) (s'' := 0) 8 0 0 hb4 (fun n => rfl) ?_
    exact x32_r33_0_4_ok (g := g) (y0 := y0) (y1 := y1) h
  | false =>
    rw [hb4] at h
    simp only [cond_false] at h
    refine iv_brf (mi' := 32) (pc' := 31) (ls' := [.ref 36, .int (0 : Int32), .int y0, .int y1, .int (3 : Int32)]) (st' := []) (A' := im_H g u o Y) (c' := 0) (s' := 0) (mi'' := 32) (pc'' := 17) (ls'' := [.ref 36, .int (0 : Int32), .int y0, .int y1, .int (3 : Int32)]) (st'' := []) (A'' := im_H g u o Y) (c'' := 0) (s'' := 0) 8 0 0 hb4 (fun n => rfl) ?_
    exact iv_blk 11 (fun n => rfl) (x32_r33_0_4_ok (g := g) (y0 := y0) (y1 := (y1 + (((g 34 3) >>> ((0 : Int32) &&& 31)) &&& (1 : Int32)))) h)
def x32_r33_0_2 (g : im_M) (y0 : Int32) (y1 : Int32) : Option (Int32 × im_M) :=
  bif Op.if_icmp.holds .eq (2 : Int32) y0 then
    (x32_r33_0_3 g y0 y1)
  else
    (x32_r33_0_3 g y0 (y1 + (((g 34 2) >>> ((0 : Int32) &&& 31)) &&& (1 : Int32))))
set_option maxRecDepth 100000 in
set_option maxHeartbeats 4000000 in
theorem x32_r33_0_2_ok {L : Nat} {xs : Nat → Int32} {g u mm : im_M} {o : Nat → Int64} {Y : iv_A} {y0 y1 ret : Int32} (h : x32_r33_0_2 g y0 y1 = some (ret, mm)) : iv_ev (iv_Xs L xs) 32 31 [.ref 36, .int (0 : Int32), .int y0, .int y1, .int (1 : Int32)] [] (im_H g u o Y) 0 0 (.inl (some (.int ret)), im_H mm u o Y) := by
  unfold x32_r33_0_2 at h
  cases hb3 : Op.if_icmp.holds .eq (2 : Int32) y0 with
  | true =>
    rw [hb3] at h
    simp only [cond_true] at h
    refine iv_brt (mi' := 32) (pc' := 31) (ls' := [.ref 36, .int (0 : Int32), .int y0, .int y1, .int (2 : Int32)]) (st' := []) (A' := im_H g u o Y) (c' := 0) (s' := 0) (mi'' := 32) (pc'' := 17) (ls'' := [.ref 36, .int (0 : Int32), .int y0, .int y1, .int (2 : Int32)]) (st'' := []) (A'' := im_H g u o Y) (c'' := 0) (s'' := 0) 8 0 0 hb3 (fun n => rfl) ?_
    exact x32_r33_0_3_ok (g := g) (y0 := y0) (y1 := y1) h
  | false =>
    rw [hb3] at h
    simp only [cond_false] at h
    refine iv_brf (mi' := 32) (pc' := 31) (ls' := [.ref 36, .int (0 : Int32), .int y0, .int y1, .int (2 : Int32)]) (st' := []) (A' := im_H g u o Y) (c' := 0) (s' := 0) (mi'' := 32) (pc'' := 17) (ls'' := [.ref 36, .int (0 : Int32), .int y0, .int y1, .int (2 : Int32)]) (st'' := []) (A'' := im_H g u o Y) (c'' := 0) (s'' := 0) 8 0 0 hb3 (fun n => rfl) ?_
    exact iv_blk 11 (fun n => rfl) (x32_r33_0_3_ok (g := g) (y0 := y0) (y1 := (y1 + (((g 34 2) >>> ((0 : Int32) &&& 31)) &&& (1 : Int32)))) h)
def x32_r33_0_1 (g : im_M) (y0 : Int32) (y1 : Int32) : Option (Int32 × im_M) :=
  bif Op.if_icmp.holds .eq (1 : Int32) y0 then
    (x32_r33_0_2 g y0 y1)
  else
    (x32_r33_0_2 g y0 (y1 + (((g 34 1) >>> ((0 : Int32) &&& 31)) &&& (1 : Int32))))
set_option maxRecDepth 100000 in
set_option maxHeartbeats 4000000 in
theorem x32_r33_0_1_ok {L : Nat} {xs : Nat → Int32} {g u mm : im_M} {o : Nat → Int64} {Y : iv_A} {y0 y1 ret : Int32} (h : x32_r33_0_1 g y0 y1 = some (ret, mm)) : iv_ev (iv_Xs L xs) 32 31 [.ref 36, .int (0 : Int32), .int y0, .int y1, .int (0 : Int32)] [] (im_H g u o Y) 0 0 (.inl (some (.int ret)), im_H mm u o Y) := by
  unfold x32_r33_0_1 at h
  cases hb2 : Op.if_icmp.holds .eq (1 : Int32) y0 with
  | true =>
    rw [hb2] at h
    simp only [cond_true] at h
    refine iv_brt (mi' := 32) (pc' := 31) (ls' := [.ref 36, .int (0 : Int32), .int y0, .int y1, .int (1 : Int32)]) (st' := []) (A' := im_H g u o Y) (c' := 0) (s' := 0) (mi'' := 32) (pc'' := 17) (ls'' := [.ref 36, .int (0 : Int32), .int y0, .int y1, .int (1 : Int32)]) (st'' := []) (A'' := im_H g u o Y) (c'' := 0) (s'' := 0) 8 0 0 hb2 (fun n => rfl) ?_
    exact x32_r33_0_2_ok (g := g) (y0 := y0) (y1 := y1) h
  | false =>
    rw [hb2] at h
    simp only [cond_false] at h
    refine iv_brf (mi' := 32) (pc' := 31) (ls' := [.ref 36, .int (0 : Int32), .int y0, .int y1, .int (1 : Int32)]) (st' := []) (A' := im_H g u o Y) (c' := 0) (s' := 0) (mi'' := 32) (pc'' := 17) (ls'' := [.ref 36, .int (0 : Int32), .int y0, .int y1, .int (1 : Int32)]) (st'' := []) (A'' := im_H g u o Y) (c'' := 0) (s'' := 0) 8 0 0 hb2 (fun n => rfl) ?_
    exact iv_blk 11 (fun n => rfl) (x32_r33_0_2_ok (g := g) (y0 := y0) (y1 := (y1 + (((g 34 1) >>> ((0 : Int32) &&& 31)) &&& (1 : Int32)))) h)
def x32_r33_0 (g : im_M) (a : Int32) : Option (Int32 × im_M) :=
  bif Op.if_icmp.holds .eq (0 : Int32) a then
    (x32_r33_0_1 g a (0 : Int32))
  else
    (x32_r33_0_1 g a ((0 : Int32) + (((g 34 0) >>> ((0 : Int32) &&& 31)) &&& (1 : Int32))))
set_option maxRecDepth 100000 in
set_option maxHeartbeats 4000000 in
theorem x32_r33_0_ok {L : Nat} {xs : Nat → Int32} {g u mm : im_M} {o : Nat → Int64} {Y : iv_A} {a ret : Int32} (h : x32_r33_0 g a = some (ret, mm)) : iv_ev (iv_Xs L xs) 32 0 [.ref 36, .int (0 : Int32), .int a, .retAddr 0, .retAddr 0] [] (im_H g u o Y) 0 0 (.inl (some (.int ret)), im_H mm u o Y) := by
  unfold x32_r33_0 at h
  cases hb1 : Op.if_icmp.holds .eq (0 : Int32) a with
  | true =>
    rw [hb1] at h
    simp only [cond_true] at h
    refine iv_brt (mi' := 32) (pc' := 31) (ls' := [.ref 36, .int (0 : Int32), .int a, .int (0 : Int32), .int (0 : Int32)]) (st' := []) (A' := im_H g u o Y) (c' := 0) (s' := 0) (mi'' := 32) (pc'' := 17) (ls'' := [.ref 36, .int (0 : Int32), .int a, .int (0 : Int32), .int (0 : Int32)]) (st'' := []) (A'' := im_H g u o Y) (c'' := 0) (s'' := 0) 10 0 0 hb1 (fun n => rfl) ?_
    exact x32_r33_0_1_ok (g := g) (y0 := a) (y1 := (0 : Int32)) h
  | false =>
    rw [hb1] at h
    simp only [cond_false] at h
    refine iv_brf (mi' := 32) (pc' := 31) (ls' := [.ref 36, .int (0 : Int32), .int a, .int (0 : Int32), .int (0 : Int32)]) (st' := []) (A' := im_H g u o Y) (c' := 0) (s' := 0) (mi'' := 32) (pc'' := 17) (ls'' := [.ref 36, .int (0 : Int32), .int a, .int (0 : Int32), .int (0 : Int32)]) (st'' := []) (A'' := im_H g u o Y) (c'' := 0) (s'' := 0) 10 0 0 hb1 (fun n => rfl) ?_
    exact iv_blk 11 (fun n => rfl) (x32_r33_0_1_ok (g := g) (y0 := a) (y1 := ((0 : Int32) + (((g 34 0) >>> ((0 : Int32) &&& 31)) &&& (1 : Int32)))) h)
def x32_r33_1_4 (g : im_M) (y0 : Int32) (y1 : Int32) : Option (Int32 × im_M) :=
  some (y1, g)
set_option maxRecDepth 100000 in
set_option maxHeartbeats 4000000 in
theorem x32_r33_1_4_ok {L : Nat} {xs : Nat → Int32} {g u mm : im_M} {o : Nat → Int64} {Y : iv_A} {y0 y1 ret : Int32} (h : x32_r33_1_4 g y0 y1 = some (ret, mm)) : iv_ev (iv_Xs L xs) 32 31 [.ref 36, .int (1 : Int32), .int y0, .int y1, .int (3 : Int32)] [] (im_H g u o Y) 0 0 (.inl (some (.int ret)), im_H mm u o Y) := by
  unfold x32_r33_1_4 at h
  cases h
  exact iv_ret 7 (fun n => rfl)
def x32_r33_1_3 (g : im_M) (y0 : Int32) (y1 : Int32) : Option (Int32 × im_M) :=
  bif Op.if_icmp.holds .eq (3 : Int32) y0 then
    (x32_r33_1_4 g y0 y1)
  else
    (x32_r33_1_4 g y0 (y1 + (((g 34 3) >>> ((1 : Int32) &&& 31)) &&& (1 : Int32))))
set_option maxRecDepth 100000 in
set_option maxHeartbeats 4000000 in
theorem x32_r33_1_3_ok {L : Nat} {xs : Nat → Int32} {g u mm : im_M} {o : Nat → Int64} {Y : iv_A} {y0 y1 ret : Int32} (h : x32_r33_1_3 g y0 y1 = some (ret, mm)) : iv_ev (iv_Xs L xs) 32 31 [.ref 36, .int (1 : Int32), .int y0, .int y1, .int (2 : Int32)] [] (im_H g u o Y) 0 0 (.inl (some (.int ret)), im_H mm u o Y) := by
  unfold x32_r33_1_3 at h
  cases hb4 : Op.if_icmp.holds .eq (3 : Int32) y0 with
  | true =>
    rw [hb4] at h
    simp only [cond_true] at h
    refine iv_brt (mi' := 32) (pc' := 31) (ls' := [.ref 36, .int (1 : Int32), .int y0, .int y1, .int (3 : Int32)]) (st' := []) (A' := im_H g u o Y) (c' := 0) (s' := 0) (mi'' := 32) (pc'' := 17) (ls'' := [.ref 36, .int (1 : Int32), .int y0, .int y1, .int (3 : Int32)]) (st'' := []) (A'' := im_H g u o Y) (c'' := 0) (s'' := 0) 8 0 0 hb4 (fun n => rfl) ?_
    exact x32_r33_1_4_ok (g := g) (y0 := y0) (y1 := y1) h
  | false =>
    rw [hb4] at h
    simp only [cond_false] at h
    refine iv_brf (mi' := 32) (pc' := 31) (ls' := [.ref 36, .int (1 : Int32), .int y0, .int y1, .int (3 : Int32)]) (st' := []) (A' := im_H g u o Y) (c' := 0) (s' := 0) (mi'' := 32) (pc'' := 17) (ls'' := [.ref 36, .int (1 : Int32), .int y0, .int y1, .int (3 : Int32)]) (st'' := []) (A'' := im_H g u o Y) (c'' := 0) (s'' := 0) 8 0 0 hb4 (fun n => rfl) ?_
    exact iv_blk 11 (fun n => rfl) (x32_r33_1_4_ok (g := g) (y0 := y0) (y1 := (y1 + (((g 34 3) >>> ((1 : Int32) &&& 31)) &&& (1 : Int32)))) h)
def x32_r33_1_2 (g : im_M) (y0 : Int32) (y1 : Int32) : Option (Int32 × im_M) :=
  bif Op.if_icmp.holds .eq (2 : Int32) y0 then
    (x32_r33_1_3 g y0 y1)
  else
    (x32_r33_1_3 g y0 (y1 + (((g 34 2) >>> ((1 : Int32) &&& 31)) &&& (1 : Int32))))
set_option maxRecDepth 100000 in
set_option maxHeartbeats 4000000 in
theorem x32_r33_1_2_ok {L : Nat} {xs : Nat → Int32} {g u mm : im_M} {o : Nat → Int64} {Y : iv_A} {y0 y1 ret : Int32} (h : x32_r33_1_2 g y0 y1 = some (ret, mm)) : iv_ev (iv_Xs L xs) 32 31 [.ref 36, .int (1 : Int32), .int y0, .int y1, .int (1 : Int32)] [] (im_H g u o Y) 0 0 (.inl (some (.int ret)), im_H mm u o Y) := by
  unfold x32_r33_1_2 at h
  cases hb3 : Op.if_icmp.holds .eq (2 : Int32) y0 with
  | true =>
    rw [hb3] at h
    simp only [cond_true] at h
    refine iv_brt (mi' := 32) (pc' := 31) (ls' := [.ref 36, .int (1 : Int32), .int y0, .int y1, .int (2 : Int32)]) (st' := []) (A' := im_H g u o Y) (c' := 0) (s' := 0) (mi'' := 32) (pc'' := 17) (ls'' := [.ref 36, .int (1 : Int32), .int y0, .int y1, .int (2 : Int32)]) (st'' := []) (A'' := im_H g u o Y) (c'' := 0) (s'' := 0) 8 0 0 hb3 (fun n => rfl) ?_
    exact x32_r33_1_3_ok (g := g) (y0 := y0) (y1 := y1) h
  | false =>
    rw [hb3] at h
    simp only [cond_false] at h
    refine iv_brf (mi' := 32) (pc' := 31) (ls' := [.ref 36, .int (1 : Int32), .int y0, .int y1, .int (2 : Int32)]) (st' := []) (A' := im_H g u o Y) (c' := 0) (s' := 0) (mi'' := 32) (pc'' := 17) (ls'' := [.ref 36, .int (1 : Int32), .int y0, .int y1, .int (2 : Int32)]) (st'' := []) (A'' := im_H g u o Y) (c'' := 0) (s'' := 0) 8 0 0 hb3 (fun n => rfl) ?_
    exact iv_blk 11 (fun n => rfl) (x32_r33_1_3_ok (g := g) (y0 := y0) (y1 := (y1 + (((g 34 2) >>> ((1 : Int32) &&& 31)) &&& (1 : Int32)))) h)
def x32_r33_1_1 (g : im_M) (y0 : Int32) (y1 : Int32) : Option (Int32 × im_M) :=
  bif Op.if_icmp.holds .eq (1 : Int32) y0 then
    (x32_r33_1_2 g y0 y1)
  else
    (x32_r33_1_2 g y0 (y1 + (((g 34 1) >>> ((1 : Int32) &&& 31)) &&& (1 : Int32))))
set_option maxRecDepth 100000 in
set_option maxHeartbeats 4000000 in
theorem x32_r33_1_1_ok {L : Nat} {xs : Nat → Int32} {g u mm : im_M} {o : Nat → Int64} {Y : iv_A} {y0 y1 ret : Int32} (h : x32_r33_1_1 g y0 y1 = some (ret, mm)) : iv_ev (iv_Xs L xs) 32 31 [.ref 36, .int (1 : Int32), .int y0, .int y1, .int (0 : Int32)] [] (im_H g u o Y) 0 0 (.inl (some (.int ret)), im_H mm u o Y) := by
  unfold x32_r33_1_1 at h
  cases hb2 : Op.if_icmp.holds .eq (1 : Int32) y0 with
  | true =>
    rw [hb2] at h
    simp only [cond_true] at h
    refine iv_brt (mi' := 32) (pc' := 31) (ls' := [.ref 36, .int (1 : Int32), .int y0, .int y1, .int (1 : Int32)]) (st' := []) (A' := im_H g u o Y) (c' := 0) (s' := 0) (mi'' := 32) (pc'' := 17) (ls'' := [.ref 36, .int (1 : Int32), .int y0, .int y1, .int (1 : Int32)]) (st'' := []) (A'' := im_H g u o Y) (c'' := 0) (s'' := 0) 8 0 0 hb2 (fun n => rfl) ?_
    exact x32_r33_1_2_ok (g := g) (y0 := y0) (y1 := y1) h
  | false =>
    rw [hb2] at h
    simp only [cond_false] at h
    refine iv_brf (mi' := 32) (pc' := 31) (ls' := [.ref 36, .int (1 : Int32), .int y0, .int y1, .int (1 : Int32)]) (st' := []) (A' := im_H g u o Y) (c' := 0) (s' := 0) (mi'' := 32) (pc'' := 17) (ls'' := [.ref 36, .int (1 : Int32), .int y0, .int y1, .int (1 : Int32)]) (st'' := []) (A'' := im_H g u o Y) (c'' := 0) (s'' := 0) 8 0 0 hb2 (fun n => rfl) ?_
    exact iv_blk 11 (fun n => rfl) (x32_r33_1_2_ok (g := g) (y0 := y0) (y1 := (y1 + (((g 34 1) >>> ((1 : Int32) &&& 31)) &&& (1 : Int32)))) h)
def x32_r33_1 (g : im_M) (a : Int32) : Option (Int32 × im_M) :=
  bif Op.if_icmp.holds .eq (0 : Int32) a then
    (x32_r33_1_1 g a (0 : Int32))
  else
    (x32_r33_1_1 g a ((0 : Int32) + (((g 34 0) >>> ((1 : Int32) &&& 31)) &&& (1 : Int32))))
set_option maxRecDepth 100000 in
set_option maxHeartbeats 4000000 in
theorem x32_r33_1_ok {L : Nat} {xs : Nat → Int32} {g u mm : im_M} {o : Nat → Int64} {Y : iv_A} {a ret : Int32} (h : x32_r33_1 g a = some (ret, mm)) : iv_ev (iv_Xs L xs) 32 0 [.ref 36, .int (1 : Int32), .int a, .retAddr 0, .retAddr 0] [] (im_H g u o Y) 0 0 (.inl (some (.int ret)), im_H mm u o Y) := by
  unfold x32_r33_1 at h
  cases hb1 : Op.if_icmp.holds .eq (0 : Int32) a with
  | true =>
    rw [hb1] at h
    simp only [cond_true] at h
    refine iv_brt (mi' := 32) (pc' := 31) (ls' := [.ref 36, .int (1 : Int32), .int a, .int (0 : Int32), .int (0 : Int32)]) (st' := []) (A' := im_H g u o Y) (c' := 0) (s' := 0) (mi'' := 32) (pc'' := 17) (ls'' := [.ref 36, .int (1 : Int32), .int a, .int (0 : Int32), .int (0 : Int32)]) (st'' := []) (A'' := im_H g u o Y) (c'' := 0) (s'' := 0) 10 0 0 hb1 (fun n => rfl) ?_
    exact x32_r33_1_1_ok (g := g) (y0 := a) (y1 := (0 : Int32)) h
  | false =>
    rw [hb1] at h
    simp only [cond_false] at h
    refine iv_brf (mi' := 32) (pc' := 31) (ls' := [.ref 36, .int (1 : Int32), .int a, .int (0 : Int32), .int (0 : Int32)]) (st' := []) (A' := im_H g u o Y) (c' := 0) (s' := 0) (mi'' := 32) (pc'' := 17) (ls'' := [.ref 36, .int (1 : Int32), .int a, .int (0 : Int32), .int (0 : Int32)]) (st'' := []) (A'' := im_H g u o Y) (c'' := 0) (s'' := 0) 10 0 0 hb1 (fun n => rfl) ?_
    exact iv_blk 11 (fun n => rfl) (x32_r33_1_1_ok (g := g) (y0 := a) (y1 := ((0 : Int32) + (((g 34 0) >>> ((1 : Int32) &&& 31)) &&& (1 : Int32)))) h)
def x32_r33_2_4 (g : im_M) (y0 : Int32) (y1 : Int32) : Option (Int32 × im_M) :=
  some (y1, g)
set_option maxRecDepth 100000 in
set_option maxHeartbeats 4000000 in
theorem x32_r33_2_4_ok {L : Nat} {xs : Nat → Int32} {g u mm : im_M} {o : Nat → Int64} {Y : iv_A} {y0 y1 ret : Int32} (h : x32_r33_2_4 g y0 y1 = some (ret, mm)) : iv_ev (iv_Xs L xs) 32 31 [.ref 36, .int (2 : Int32), .int y0, .int y1, .int (3 : Int32)] [] (im_H g u o Y) 0 0 (.inl (some (.int ret)), im_H mm u o Y) := by
  unfold x32_r33_2_4 at h
  cases h
  exact iv_ret 7 (fun n => rfl)
def x32_r33_2_3 (g : im_M) (y0 : Int32) (y1 : Int32) : Option (Int32 × im_M) :=
  bif Op.if_icmp.holds .eq (3 : Int32) y0 then
    (x32_r33_2_4 g y0 y1)
  else
    (x32_r33_2_4 g y0 (y1 + (((g 34 3) >>> ((2 : Int32) &&& 31)) &&& (1 : Int32))))
set_option maxRecDepth 100000 in
set_option maxHeartbeats 4000000 in
theorem x32_r33_2_3_ok {L : Nat} {xs : Nat → Int32} {g u mm : im_M} {o : Nat → Int64} {Y : iv_A} {y0 y1 ret : Int32} (h : x32_r33_2_3 g y0 y1 = some (ret, mm)) : iv_ev (iv_Xs L xs) 32 31 [.ref 36, .int (2 : Int32), .int y0, .int y1, .int (2 : Int32)] [] (im_H g u o Y) 0 0 (.inl (some (.int ret)), im_H mm u o Y) := by
  unfold x32_r33_2_3 at h
  cases hb4 : Op.if_icmp.holds .eq (3 : Int32) y0 with
  | true =>
    rw [hb4] at h
    simp only [cond_true] at h
    refine iv_brt (mi' := 32) (pc' := 31) (ls' := [.ref 36, .int (2 : Int32), .int y0, .int y1, .int (3 : Int32)]) (st' := []) (A' := im_H g u o Y) (c' := 0) (s' := 0) (mi'' := 32) (pc'' := 17) (ls'' := [.ref 36, .int (2 : Int32), .int y0, .int y1, .int (3 : Int32)]) (st'' := []) (A'' := im_H g u o Y) (c'' := 0) (s'' := 0) 8 0 0 hb4 (fun n => rfl) ?_
    exact x32_r33_2_4_ok (g := g) (y0 := y0) (y1 := y1) h
  | false =>
    rw [hb4] at h
    simp only [cond_false] at h
    refine iv_brf (mi' := 32) (pc' := 31) (ls' := [.ref 36, .int (2 : Int32), .int y0, .int y1, .int (3 : Int32)]) (st' := []) (A' := im_H g u o Y) (c' := 0) (s' := 0) (mi'' := 32) (pc'' := 17) (ls'' := [.ref 36, .int (2 : Int32), .int y0, .int y1, .int (3 : Int32)]) (st'' := []) (A'' := im_H g u o Y) (c'' := 0) (s'' := 0) 8 0 0 hb4 (fun n => rfl) ?_
    exact iv_blk 11 (fun n => rfl) (x32_r33_2_4_ok (g := g) (y0 := y0) (y1 := (y1 + (((g 34 3) >>> ((2 : Int32) &&& 31)) &&& (1 : Int32)))) h)
def x32_r33_2_2 (g : im_M) (y0 : Int32) (y1 : Int32) : Option (Int32 × im_M) :=
  bif Op.if_icmp.holds .eq (2 : Int32) y0 then
    (x32_r33_2_3 g y0 y1)
  else
    (x32_r33_2_3 g y0 (y1 + (((g 34 2) >>> ((2 : Int32) &&& 31)) &&& (1 : Int32))))
set_option maxRecDepth 100000 in
set_option maxHeartbeats 4000000 in
theorem x32_r33_2_2_ok {L : Nat} {xs : Nat → Int32} {g u mm : im_M} {o : Nat → Int64} {Y : iv_A} {y0 y1 ret : Int32} (h : x32_r33_2_2 g y0 y1 = some (ret, mm)) : iv_ev (iv_Xs L xs) 32 31 [.ref 36, .int (2 : Int32), .int y0, .int y1, .int (1 : Int32)] [] (im_H g u o Y) 0 0 (.inl (some (.int ret)), im_H mm u o Y) := by
  unfold x32_r33_2_2 at h
  cases hb3 : Op.if_icmp.holds .eq (2 : Int32) y0 with
  | true =>
    rw [hb3] at h
    simp only [cond_true] at h
    refine iv_brt (mi' := 32) (pc' := 31) (ls' := [.ref 36, .int (2 : Int32), .int y0, .int y1, .int (2 : Int32)]) (st' := []) (A' := im_H g u o Y) (c' := 0) (s' := 0) (mi'' := 32) (pc'' := 17) (ls'' := [.ref 36, .int (2 : Int32), .int y0, .int y1, .int (2 : Int32)]) (st'' := []) (A'' := im_H g u o Y) (c'' := 0) (s'' := 0) 8 0 0 hb3 (fun n => rfl) ?_
    exact x32_r33_2_3_ok (g := g) (y0 := y0) (y1 := y1) h
  | false =>
    rw [hb3] at h
    simp only [cond_false] at h
    refine iv_brf (mi' := 32) (pc' := 31) (ls' := [.ref 36, .int (2 : Int32), .int y0, .int y1, .int (2 : Int32)]) (st' := []) (A' := im_H g u o Y) (c' := 0) (s' := 0) (mi'' := 32) (pc'' := 17) (ls'' := [.ref 36, .int (2 : Int32), .int y0, .int y1, .int (2 : Int32)]) (st'' := []) (A'' := im_H g u o Y) (c'' := 0) (s'' := 0) 8 0 0 hb3 (fun n => rfl) ?_
    exact iv_blk 11 (fun n => rfl) (x32_r33_2_3_ok (g := g) (y0 := y0) (y1 := (y1 + (((g 34 2) >>> ((2 : Int32) &&& 31)) &&& (1 : Int32)))) h)
def x32_r33_2_1 (g : im_M) (y0 : Int32) (y1 : Int32) : Option (Int32 × im_M) :=
  bif Op.if_icmp.holds .eq (1 : Int32) y0 then
    (x32_r33_2_2 g y0 y1)
  else
    (x32_r33_2_2 g y0 (y1 + (((g 34 1) >>> ((2 : Int32) &&& 31)) &&& (1 : Int32))))
set_option maxRecDepth 100000 in
set_option maxHeartbeats 4000000 in
theorem x32_r33_2_1_ok {L : Nat} {xs : Nat → Int32} {g u mm : im_M} {o : Nat → Int64} {Y : iv_A} {y0 y1 ret : Int32} (h : x32_r33_2_1 g y0 y1 = some (ret, mm)) : iv_ev (iv_Xs L xs) 32 31 [.ref 36, .int (2 : Int32), .int y0, .int y1, .int (0 : Int32)] [] (im_H g u o Y) 0 0 (.inl (some (.int ret)), im_H mm u o Y) := by
  unfold x32_r33_2_1 at h
  cases hb2 : Op.if_icmp.holds .eq (1 : Int32) y0 with
  | true =>
    rw [hb2] at h
    simp only [cond_true] at h
    refine iv_brt (mi' := 32) (pc' := 31) (ls' := [.ref 36, .int (2 : Int32), .int y0, .int y1, .int (1 : Int32)]) (st' := []) (A' := im_H g u o Y) (c' := 0) (s' := 0) (mi'' := 32) (pc'' := 17) (ls'' := [.ref 36, .int (2 : Int32), .int y0, .int y1, .int (1 : Int32)]) (st'' := []) (A'' := im_H g u o Y) (c'' := 0) (s'' := 0) 8 0 0 hb2 (fun n => rfl) ?_
    exact x32_r33_2_2_ok (g := g) (y0 := y0) (y1 := y1) h
  | false =>
    rw [hb2] at h
    simp only [cond_false] at h
    refine iv_brf (mi' := 32) (pc' := 31) (ls' := [.ref 36, .int (2 : Int32), .int y0, .int y1, .int (1 : Int32)]) (st' := []) (A' := im_H g u o Y) (c' := 0) (s' := 0) (mi'' := 32) (pc'' := 17) (ls'' := [.ref 36, .int (2 : Int32), .int y0, .int y1, .int (1 : Int32)]) (st'' := []) (A'' := im_H g u o Y) (c'' := 0) (s'' := 0) 8 0 0 hb2 (fun n => rfl) ?_
    exact iv_blk 11 (fun n => rfl) (x32_r33_2_2_ok (g := g) (y0 := y0) (y1 := (y1 + (((g 34 1) >>> ((2 : Int32) &&& 31)) &&& (1 : Int32)))) h)
def x32_r33_2 (g : im_M) (a : Int32) : Option (Int32 × im_M) :=
  bif Op.if_icmp.holds .eq (0 : Int32) a then
    (x32_r33_2_1 g a (0 : Int32))
  else
    (x32_r33_2_1 g a ((0 : Int32) + (((g 34 0) >>> ((2 : Int32) &&& 31)) &&& (1 : Int32))))
set_option maxRecDepth 100000 in
set_option maxHeartbeats 4000000 in
theorem x32_r33_2_ok {L : Nat} {xs : Nat → Int32} {g u mm : im_M} {o : Nat → Int64} {Y : iv_A} {a ret : Int32} (h : x32_r33_2 g a = some (ret, mm)) : iv_ev (iv_Xs L xs) 32 0 [.ref 36, .int (2 : Int32), .int a, .retAddr 0, .retAddr 0] [] (im_H g u o Y) 0 0 (.inl (some (.int ret)), im_H mm u o Y) := by
  unfold x32_r33_2 at h
  cases hb1 : Op.if_icmp.holds .eq (0 : Int32) a with
  | true =>
    rw [hb1] at h
    simp only [cond_true] at h
    refine iv_brt (mi' := 32) (pc' := 31) (ls' := [.ref 36, .int (2 : Int32), .int a, .int (0 : Int32), .int (0 : Int32)]) (st' := []) (A' := im_H g u o Y) (c' := 0) (s' := 0) (mi'' := 32) (pc'' := 17) (ls'' := [.ref 36, .int (2 : Int32), .int a, .int (0 : Int32), .int (0 : Int32)]) (st'' := []) (A'' := im_H g u o Y) (c'' := 0) (s'' := 0) 10 0 0 hb1 (fun n => rfl) ?_
    exact x32_r33_2_1_ok (g := g) (y0 := a) (y1 := (0 : Int32)) h
  | false =>
    rw [hb1] at h
    simp only [cond_false] at h
    refine iv_brf (mi' := 32) (pc' := 31) (ls' := [.ref 36, .int (2 : Int32), .int a, .int (0 : Int32), .int (0 : Int32)]) (st' := []) (A' := im_H g u o Y) (c' := 0) (s' := 0) (mi'' := 32) (pc'' := 17) (ls'' := [.ref 36, .int (2 : Int32), .int a, .int (0 : Int32), .int (0 : Int32)]) (st'' := []) (A'' := im_H g u o Y) (c'' := 0) (s'' := 0) 10 0 0 hb1 (fun n => rfl) ?_
    exact iv_blk 11 (fun n => rfl) (x32_r33_2_1_ok (g := g) (y0 := a) (y1 := ((0 : Int32) + (((g 34 0) >>> ((2 : Int32) &&& 31)) &&& (1 : Int32)))) h)
def x32_r35_0_4 (g : im_M) (y0 : Int32) (y1 : Int32) : Option (Int32 × im_M) :=
  some (y1, g)
set_option maxRecDepth 100000 in
set_option maxHeartbeats 4000000 in
theorem x32_r35_0_4_ok {L : Nat} {xs : Nat → Int32} {g u mm : im_M} {o : Nat → Int64} {Y : iv_A} {y0 y1 ret : Int32} (h : x32_r35_0_4 g y0 y1 = some (ret, mm)) : iv_ev (iv_Xs L xs) 32 31 [.ref 38, .int (0 : Int32), .int y0, .int y1, .int (3 : Int32)] [] (im_H g u o Y) 0 0 (.inl (some (.int ret)), im_H mm u o Y) := by
  unfold x32_r35_0_4 at h
  cases h
  exact iv_ret 7 (fun n => rfl)
def x32_r35_0_3 (g : im_M) (y0 : Int32) (y1 : Int32) : Option (Int32 × im_M) :=
  bif Op.if_icmp.holds .eq (3 : Int32) y0 then
    (x32_r35_0_4 g y0 y1)
  else
    (x32_r35_0_4 g y0 (y1 + (((g 36 3) >>> ((0 : Int32) &&& 31)) &&& (1 : Int32))))
set_option maxRecDepth 100000 in
set_option maxHeartbeats 4000000 in
theorem x32_r35_0_3_ok {L : Nat} {xs : Nat → Int32} {g u mm : im_M} {o : Nat → Int64} {Y : iv_A} {y0 y1 ret : Int32} (h : x32_r35_0_3 g y0 y1 = some (ret, mm)) : iv_ev (iv_Xs L xs) 32 31 [.ref 38, .int (0 : Int32), .int y0, .int y1, .int (2 : Int32)] [] (im_H g u o Y) 0 0 (.inl (some (.int ret)), im_H mm u o Y) := by
  unfold x32_r35_0_3 at h
  cases hb4 : Op.if_icmp.holds .eq (3 : Int32) y0 with
  | true =>
    rw [hb4] at h
    simp only [cond_true] at h
    refine iv_brt (mi' := 32) (pc' := 31) (ls' := [.ref 38, .int (0 : Int32), .int y0, .int y1, .int (3 : Int32)]) (st' := []) (A' := im_H g u o Y) (c' := 0) (s' := 0) (mi'' := 32) (pc'' := 17) (ls'' := [.ref 38, .int (0 : Int32), .int y0, .int y1, .int (3 : Int32)]) (st'' := []) (A'' := im_H g u o Y) (c'' := 0) (s'' := 0) 8 0 0 hb4 (fun n => rfl) ?_
    exact x32_r35_0_4_ok (g := g) (y0 := y0) (y1 := y1) h
  | false =>
    rw [hb4] at h
    simp only [cond_false] at h
    refine iv_brf (mi' := 32) (pc' := 31) (ls' := [.ref 38, .int (0 : Int32), .int y0, .int y1, .int (3 : Int32)]) (st' := []) (A' := im_H g u o Y) (c' := 0) (s' := 0) (mi'' := 32) (pc'' := 17) (ls'' := [.ref 38, .int (0 : Int32), .int y0, .int y1, .int (3 : Int32)]) (st'' := []) (A'' := im_H g u o Y) (c'' := 0) (s'' := 0) 8 0 0 hb4 (fun n => rfl) ?_
    exact iv_blk 11 (fun n => rfl) (x32_r35_0_4_ok (g := g) (y0 := y0) (y1 := (y1 + (((g 36 3) >>> ((0 : Int32) &&& 31)) &&& (1 : Int32)))) h)
def x32_r35_0_2 (g : im_M) (y0 : Int32) (y1 : Int32) : Option (Int32 × im_M) :=
  bif Op.if_icmp.holds .eq (2 : Int32) y0 then
    (x32_r35_0_3 g y0 y1)
  else
    (x32_r35_0_3 g y0 (y1 + (((g 36 2) >>> ((0 : Int32) &&& 31)) &&& (1 : Int32))))
set_option maxRecDepth 100000 in
set_option maxHeartbeats 4000000 in
theorem x32_r35_0_2_ok {L : Nat} {xs : Nat → Int32} {g u mm : im_M} {o : Nat → Int64} {Y : iv_A} {y0 y1 ret : Int32} (h : x32_r35_0_2 g y0 y1 = some (ret, mm)) : iv_ev (iv_Xs L xs) 32 31 [.ref 38, .int (0 : Int32), .int y0, .int y1, .int (1 : Int32)] [] (im_H g u o Y) 0 0 (.inl (some (.int ret)), im_H mm u o Y) := by
  unfold x32_r35_0_2 at h
  cases hb3 : Op.if_icmp.holds .eq (2 : Int32) y0 with
  | true =>
    rw [hb3] at h
    simp only [cond_true] at h
    refine iv_brt (mi' := 32) (pc' := 31) (ls' := [.ref 38, .int (0 : Int32), .int y0, .int y1, .int (2 : Int32)]) (st' := []) (A' := im_H g u o Y) (c' := 0) (s' := 0) (mi'' := 32) (pc'' := 17) (ls'' := [.ref 38, .int (0 : Int32), .int y0, .int y1, .int (2 : Int32)]) (st'' := []) (A'' := im_H g u o Y) (c'' := 0) (s'' := 0) 8 0 0 hb3 (fun n => rfl) ?_
    exact x32_r35_0_3_ok (g := g) (y0 := y0) (y1 := y1) h
  | false =>
    rw [hb3] at h
    simp only [cond_false] at h
    refine iv_brf (mi' := 32) (pc' := 31) (ls' := [.ref 38, .int (0 : Int32), .int y0, .int y1, .int (2 : Int32)]) (st' := []) (A' := im_H g u o Y) (c' := 0) (s' := 0) (mi'' := 32) (pc'' := 17) (ls'' := [.ref 38, .int (0 : Int32), .int y0, .int y1, .int (2 : Int32)]) (st'' := []) (A'' := im_H g u o Y) (c'' := 0) (s'' := 0) 8 0 0 hb3 (fun n => rfl) ?_
    exact iv_blk 11 (fun n => rfl) (x32_r35_0_3_ok (g := g) (y0 := y0) (y1 := (y1 + (((g 36 2) >>> ((0 : Int32) &&& 31)) &&& (1 : Int32)))) h)
def x32_r35_0_1 (g : im_M) (y0 : Int32) (y1 : Int32) : Option (Int32 × im_M) :=
  bif Op.if_icmp.holds .eq (1 : Int32) y0 then
    (x32_r35_0_2 g y0 y1)
  else
    (x32_r35_0_2 g y0 (y1 + (((g 36 1) >>> ((0 : Int32) &&& 31)) &&& (1 : Int32))))
set_option maxRecDepth 100000 in
set_option maxHeartbeats 4000000 in
theorem x32_r35_0_1_ok {L : Nat} {xs : Nat → Int32} {g u mm : im_M} {o : Nat → Int64} {Y : iv_A} {y0 y1 ret : Int32} (h : x32_r35_0_1 g y0 y1 = some (ret, mm)) : iv_ev (iv_Xs L xs) 32 31 [.ref 38, .int (0 : Int32), .int y0, .int y1, .int (0 : Int32)] [] (im_H g u o Y) 0 0 (.inl (some (.int ret)), im_H mm u o Y) := by
  unfold x32_r35_0_1 at h
  cases hb2 : Op.if_icmp.holds .eq (1 : Int32) y0 with
  | true =>
    rw [hb2] at h
    simp only [cond_true] at h
    refine iv_brt (mi' := 32) (pc' := 31) (ls' := [.ref 38, .int (0 : Int32), .int y0, .int y1, .int (1 : Int32)]) (st' := []) (A' := im_H g u o Y) (c' := 0) (s' := 0) (mi'' := 32) (pc'' := 17) (ls'' := [.ref 38, .int (0 : Int32), .int y0, .int y1, .int (1 : Int32)]) (st'' := []) (A'' := im_H g u o Y) (c'' := 0) (s'' := 0) 8 0 0 hb2 (fun n => rfl) ?_
    exact x32_r35_0_2_ok (g := g) (y0 := y0) (y1 := y1) h
  | false =>
    rw [hb2] at h
    simp only [cond_false] at h
    refine iv_brf (mi' := 32) (pc' := 31) (ls' := [.ref 38, .int (0 : Int32), .int y0, .int y1, .int (1 : Int32)]) (st' := []) (A' := im_H g u o Y) (c' := 0) (s' := 0) (mi'' := 32) (pc'' := 17) (ls'' := [.ref 38, .int (0 : Int32), .int y0, .int y1, .int (1 : Int32)]) (st'' := []) (A'' := im_H g u o Y) (c'' := 0) (s'' := 0) 8 0 0 hb2 (fun n => rfl) ?_
    exact iv_blk 11 (fun n => rfl) (x32_r35_0_2_ok (g := g) (y0 := y0) (y1 := (y1 + (((g 36 1) >>> ((0 : Int32) &&& 31)) &&& (1 : Int32)))) h)
def x32_r35_0 (g : im_M) (a : Int32) : Option (Int32 × im_M) :=
  bif Op.if_icmp.holds .eq (0 : Int32) a then
    (x32_r35_0_1 g a (0 : Int32))
  else
    (x32_r35_0_1 g a ((0 : Int32) + (((g 36 0) >>> ((0 : Int32) &&& 31)) &&& (1 : Int32))))
set_option maxRecDepth 100000 in
set_option maxHeartbeats 4000000 in
theorem x32_r35_0_ok {L : Nat} {xs : Nat → Int32} {g u mm : im_M} {o : Nat → Int64} {Y : iv_A} {a ret : Int32} (h : x32_r35_0 g a = some (ret, mm)) : iv_ev (iv_Xs L xs) 32 0 [.ref 38, .int (0 : Int32), .int a, .retAddr 0, .retAddr 0] [] (im_H g u o Y) 0 0 (.inl (some (.int ret)), im_H mm u o Y) := by
  unfold x32_r35_0 at h
  cases hb1 : Op.if_icmp.holds .eq (0 : Int32) a with
  | true =>
    rw [hb1] at h
    simp only [cond_true] at h
    refine iv_brt (mi' := 32) (pc' := 31) (ls' := [.ref 38, .int (0 : Int32), .int a, .int (0 : Int32), .int (0 : Int32)]) (st' := []) (A' := im_H g u o Y) (c' := 0) (s' := 0) (mi'' := 32) (pc'' := 17) (ls'' := [.ref 38, .int (0 : Int32), .int a, .int (0 : Int32), .int (0 : Int32)]) (st'' := []) (A'' := im_H g u o Y) (c'' := 0) (s'' := 0) 10 0 0 hb1 (fun n => rfl) ?_
    exact x32_r35_0_1_ok (g := g) (y0 := a) (y1 := (0 : Int32)) h
  | false =>
    rw [hb1] at h
    simp only [cond_false] at h
    refine iv_brf (mi' := 32) (pc' := 31) (ls' := [.ref 38, .int (0 : Int32), .int a, .int (0 : Int32), .int (0 : Int32)]) (st' := []) (A' := im_H g u o Y) (c' := 0) (s' := 0) (mi'' := 32) (pc'' := 17) (ls'' := [.ref 38, .int (0 : Int32), .int a, .int (0 : Int32), .int (0 : Int32)]) (st'' := []) (A'' := im_H g u o Y) (c'' := 0) (s'' := 0) 10 0 0 hb1 (fun n => rfl) ?_
    exact iv_blk 11 (fun n => rfl) (x32_r35_0_1_ok (g := g) (y0 := a) (y1 := ((0 : Int32) + (((g 36 0) >>> ((0 : Int32) &&& 31)) &&& (1 : Int32)))) h)
def x32_r35_1_4 (g : im_M) (y0 : Int32) (y1 : Int32) : Option (Int32 × im_M) :=
  some (y1, g)
set_option maxRecDepth 100000 in
set_option maxHeartbeats 4000000 in
theorem x32_r35_1_4_ok {L : Nat} {xs : Nat → Int32} {g u mm : im_M} {o : Nat → Int64} {Y : iv_A} {y0 y1 ret : Int32} (h : x32_r35_1_4 g y0 y1 = some (ret, mm)) : iv_ev (iv_Xs L xs) 32 31 [.ref 38, .int (1 : Int32), .int y0, .int y1, .int (3 : Int32)] [] (im_H g u o Y) 0 0 (.inl (some (.int ret)), im_H mm u o Y) := by
  unfold x32_r35_1_4 at h
  cases h
  exact iv_ret 7 (fun n => rfl)
def x32_r35_1_3 (g : im_M) (y0 : Int32) (y1 : Int32) : Option (Int32 × im_M) :=
  bif Op.if_icmp.holds .eq (3 : Int32) y0 then
    (x32_r35_1_4 g y0 y1)
  else
    (x32_r35_1_4 g y0 (y1 + (((g 36 3) >>> ((1 : Int32) &&& 31)) &&& (1 : Int32))))
set_option maxRecDepth 100000 in
set_option maxHeartbeats 4000000 in
theorem x32_r35_1_3_ok {L : Nat} {xs : Nat → Int32} {g u mm : im_M} {o : Nat → Int64} {Y : iv_A} {y0 y1 ret : Int32} (h : x32_r35_1_3 g y0 y1 = some (ret, mm)) : iv_ev (iv_Xs L xs) 32 31 [.ref 38, .int (1 : Int32), .int y0, .int y1, .int (2 : Int32)] [] (im_H g u o Y) 0 0 (.inl (some (.int ret)), im_H mm u o Y) := by
  unfold x32_r35_1_3 at h
  cases hb4 : Op.if_icmp.holds .eq (3 : Int32) y0 with
  | true =>
    rw [hb4] at h
    simp only [cond_true] at h
    refine iv_brt (mi' := 32) (pc' := 31) (ls' := [.ref 38, .int (1 : Int32), .int y0, .int y1, .int (3 : Int32)]) (st' := []) (A' := im_H g u o Y) (c' := 0) (s' := 0) (mi'' := 32) (pc'' := 17) (ls'' := [.ref 38, .int (1 : Int32), .int y0, .int y1, .int (3 : Int32)]) (st'' := []) (A'' := im_H g u o Y) (c'' := 0) (s'' := 0) 8 0 0 hb4 (fun n => rfl) ?_
    exact x32_r35_1_4_ok (g := g) (y0 := y0) (y1 := y1) h
  | false =>
    rw [hb4] at h
    simp only [cond_false] at h
    refine iv_brf (mi' := 32) (pc' := 31) (ls' := [.ref 38, .int (1 : Int32), .int y0, .int y1, .int (3 : Int32)]) (st' := []) (A' := im_H g u o Y) (c' := 0) (s' := 0) (mi'' := 32) (pc'' := 17) (ls'' := [.ref 38, .int (1 : Int32), .int y0, .int y1, .int (3 : Int32)]) (st'' := []) (A'' := im_H g u o Y) (c'' := 0) (s'' := 0) 8 0 0 hb4 (fun n => rfl) ?_
    exact iv_blk 11 (fun n => rfl) (x32_r35_1_4_ok (g := g) (y0 := y0) (y1 := (y1 + (((g 36 3) >>> ((1 : Int32) &&& 31)) &&& (1 : Int32)))) h)
def x32_r35_1_2 (g : im_M) (y0 : Int32) (y1 : Int32) : Option (Int32 × im_M) :=
  bif Op.if_icmp.holds .eq (2 : Int32) y0 then
    (x32_r35_1_3 g y0 y1)
  else
    (x32_r35_1_3 g y0 (y1 + (((g 36 2) >>> ((1 : Int32) &&& 31)) &&& (1 : Int32))))
set_option maxRecDepth 100000 in
set_option maxHeartbeats 4000000 in
theorem x32_r35_1_2_ok {L : Nat} {xs : Nat → Int32} {g u mm : im_M} {o : Nat → Int64} {Y : iv_A} {y0 y1 ret : Int32} (h : x32_r35_1_2 g y0 y1 = some (ret, mm)) : iv_ev (iv_Xs L xs) 32 31 [.ref 38, .int (1 : Int32), .int y0, .int y1, .int (1 : Int32)] [] (im_H g u o Y) 0 0 (.inl (some (.int ret)), im_H mm u o Y) := by
  unfold x32_r35_1_2 at h
  cases hb3 : Op.if_icmp.holds .eq (2 : Int32) y0 with
  | true =>
    rw [hb3] at h
    simp only [cond_true] at h
    refine iv_brt (mi' := 32) (pc' := 31) (ls' := [.ref 38, .int (1 : Int32), .int y0, .int y1, .int (2 : Int32)]) (st' := []) (A' := im_H g u o Y) (c' := 0) (s' := 0) (mi'' := 32) (pc'' := 17) (ls'' := [.ref 38, .int (1 : Int32), .int y0, .int y1, .int (2 : Int32)]) (st'' := []) (A'' := im_H g u o Y) (c'' := 0) (s'' := 0) 8 0 0 hb3 (fun n => rfl) ?_
    exact x32_r35_1_3_ok (g := g) (y0 := y0) (y1 := y1) h
  | false =>
    rw [hb3] at h
    simp only [cond_false] at h
    refine iv_brf (mi' := 32) (pc' := 31) (ls' := [.ref 38, .int (1 : Int32), .int y0, .int y1, .int (2 : Int32)]) (st' := []) (A' := im_H g u o Y) (c' := 0) (s' := 0) (mi'' := 32) (pc'' := 17) (ls'' := [.ref 38, .int (1 : Int32), .int y0, .int y1, .int (2 : Int32)]) (st'' := []) (A'' := im_H g u o Y) (c'' := 0) (s'' := 0) 8 0 0 hb3 (fun n => rfl) ?_
    exact iv_blk 11 (fun n => rfl) (x32_r35_1_3_ok (g := g) (y0 := y0) (y1 := (y1 + (((g 36 2) >>> ((1 : Int32) &&& 31)) &&& (1 : Int32)))) h)
def x32_r35_1_1 (g : im_M) (y0 : Int32) (y1 : Int32) : Option (Int32 × im_M) :=
  bif Op.if_icmp.holds .eq (1 : Int32) y0 then
    (x32_r35_1_2 g y0 y1)
  else
    (x32_r35_1_2 g y0 (y1 + (((g 36 1) >>> ((1 : Int32) &&& 31)) &&& (1 : Int32))))
set_option maxRecDepth 100000 in
set_option maxHeartbeats 4000000 in
theorem x32_r35_1_1_ok {L : Nat} {xs : Nat → Int32} {g u mm : im_M} {o : Nat → Int64} {Y : iv_A} {y0 y1 ret : Int32} (h : x32_r35_1_1 g y0 y1 = some (ret, mm)) : iv_ev (iv_Xs L xs) 32 31 [.ref 38, .int (1 : Int32), .int y0, .int y1, .int (0 : Int32)] [] (im_H g u o Y) 0 0 (.inl (some (.int ret)), im_H mm u o Y) := by
  unfold x32_r35_1_1 at h
  cases hb2 : Op.if_icmp.holds .eq (1 : Int32) y0 with
  | true =>
    rw [hb2] at h
    simp only [cond_true] at h
    refine iv_brt (mi' := 32) (pc' := 31) (ls' := [.ref 38, .int (1 : Int32), .int y0, .int y1, .int (1 : Int32)]) (st' := []) (A' := im_H g u o Y) (c' := 0) (s' := 0) (mi'' := 32) (pc'' := 17) (ls'' := [.ref 38, .int (1 : Int32), .int y0, .int y1, .int (1 : Int32)]) (st'' := []) (A'' := im_H g u o Y) (c'' := 0) (s'' := 0) 8 0 0 hb2 (fun n => rfl) ?_
    exact x32_r35_1_2_ok (g := g) (y0 := y0) (y1 := y1) h
  | false =>
    rw [hb2] at h
    simp only [cond_false] at h
    refine iv_brf (mi' := 32) (pc' := 31) (ls' := [.ref 38, .int (1 : Int32), .int y0, .int y1, .int (1 : Int32)]) (st' := []) (A' := im_H g u o Y) (c' := 0) (s' := 0) (mi'' := 32) (pc'' := 17) (ls'' := [.ref 38, .int (1 : Int32), .int y0, .int y1, .int (1 : Int32)]) (st'' := []) (A'' := im_H g u o Y) (c'' := 0) (s'' := 0) 8 0 0 hb2 (fun n => rfl) ?_
    exact iv_blk 11 (fun n => rfl) (x32_r35_1_2_ok (g := g) (y0 := y0) (y1 := (y1 + (((g 36 1) >>> ((1 : Int32) &&& 31)) &&& (1 : Int32)))) h)
def x32_r35_1 (g : im_M) (a : Int32) : Option (Int32 × im_M) :=
  bif Op.if_icmp.holds .eq (0 : Int32) a then
    (x32_r35_1_1 g a (0 : Int32))
  else
    (x32_r35_1_1 g a ((0 : Int32) + (((g 36 0) >>> ((1 : Int32) &&& 31)) &&& (1 : Int32))))
set_option maxRecDepth 100000 in
set_option maxHeartbeats 4000000 in
theorem x32_r35_1_ok {L : Nat} {xs : Nat → Int32} {g u mm : im_M} {o : Nat → Int64} {Y : iv_A} {a ret : Int32} (h : x32_r35_1 g a = some (ret, mm)) : iv_ev (iv_Xs L xs) 32 0 [.ref 38, .int (1 : Int32), .int a, .retAddr 0, .retAddr 0] [] (im_H g u o Y) 0 0 (.inl (some (.int ret)), im_H mm u o Y) := by
  unfold x32_r35_1 at h
  cases hb1 : Op.if_icmp.holds .eq (0 : Int32) a with
  | true =>
    rw [hb1] at h
    simp only [cond_true] at h
    refine iv_brt (mi' := 32) (pc' := 31) (ls' := [.ref 38, .int (1 : Int32), .int a, .int (0 : Int32), .int (0 : Int32)]) (st' := []) (A' := im_H g u o Y) (c' := 0) (s' := 0) (mi'' := 32) (pc'' := 17) (ls'' := [.ref 38, .int (1 : Int32), .int a, .int (0 : Int32), .int (0 : Int32)]) (st'' := []) (A'' := im_H g u o Y) (c'' := 0) (s'' := 0) 10 0 0 hb1 (fun n => rfl) ?_
    exact x32_r35_1_1_ok (g := g) (y0 := a) (y1 := (0 : Int32)) h
  | false =>
    rw [hb1] at h
    simp only [cond_false] at h
    refine iv_brf (mi' := 32) (pc' := 31) (ls' := [.ref 38, .int (1 : Int32), .int a, .int (0 : Int32), .int (0 : Int32)]) (st' := []) (A' := im_H g u o Y) (c' := 0) (s' := 0) (mi'' := 32) (pc'' := 17) (ls'' := [.ref 38, .int (1 : Int32), .int a, .int (0 : Int32), .int (0 : Int32)]) (st'' := []) (A'' := im_H g u o Y) (c'' := 0) (s'' := 0) 10 0 0 hb1 (fun n => rfl) ?_
    exact iv_blk 11 (fun n => rfl) (x32_r35_1_1_ok (g := g) (y0 := a) (y1 := ((0 : Int32) + (((g 36 0) >>> ((1 : Int32) &&& 31)) &&& (1 : Int32)))) h)
def x32_r35_2_4 (g : im_M) (y0 : Int32) (y1 : Int32) : Option (Int32 × im_M) :=
  some (y1, g)
set_option maxRecDepth 100000 in
set_option maxHeartbeats 4000000 in
theorem x32_r35_2_4_ok {L : Nat} {xs : Nat → Int32} {g u mm : im_M} {o : Nat → Int64} {Y : iv_A} {y0 y1 ret : Int32} (h : x32_r35_2_4 g y0 y1 = some (ret, mm)) : iv_ev (iv_Xs L xs) 32 31 [.ref 38, .int (2 : Int32), .int y0, .int y1, .int (3 : Int32)] [] (im_H g u o Y) 0 0 (.inl (some (.int ret)), im_H mm u o Y) := by
  unfold x32_r35_2_4 at h
  cases h
  exact iv_ret 7 (fun n => rfl)
def x32_r35_2_3 (g : im_M) (y0 : Int32) (y1 : Int32) : Option (Int32 × im_M) :=
  bif Op.if_icmp.holds .eq (3 : Int32) y0 then
    (x32_r35_2_4 g y0 y1)
  else
    (x32_r35_2_4 g y0 (y1 + (((g 36 3) >>> ((2 : Int32) &&& 31)) &&& (1 : Int32))))
set_option maxRecDepth 100000 in
set_option maxHeartbeats 4000000 in
theorem x32_r35_2_3_ok {L : Nat} {xs : Nat → Int32} {g u mm : im_M} {o : Nat → Int64} {Y : iv_A} {y0 y1 ret : Int32} (h : x32_r35_2_3 g y0 y1 = some (ret, mm)) : iv_ev (iv_Xs L xs) 32 31 [.ref 38, .int (2 : Int32), .int y0, .int y1, .int (2 : Int32)] [] (im_H g u o Y) 0 0 (.inl (some (.int ret)), im_H mm u o Y) := by
  unfold x32_r35_2_3 at h
  cases hb4 : Op.if_icmp.holds .eq (3 : Int32) y0 with
  | true =>
    rw [hb4] at h
    simp only [cond_true] at h
    refine iv_brt (mi' := 32) (pc' := 31) (ls' := [.ref 38, .int (2 : Int32), .int y0, .int y1, .int (3 : Int32)]) (st' := []) (A' := im_H g u o Y) (c' := 0) (s' := 0) (mi'' := 32) (pc'' := 17) (ls'' := [.ref 38, .int (2 : Int32), .int y0, .int y1, .int (3 : Int32)]) (st'' := []) (A'' := im_H g u o Y) (c'' := 0) (s'' := 0) 8 0 0 hb4 (fun n => rfl) ?_
    exact x32_r35_2_4_ok (g := g) (y0 := y0) (y1 := y1) h
  | false =>
    rw [hb4] at h
    simp only [cond_false] at h
    refine iv_brf (mi' := 32) (pc' := 31) (ls' := [.ref 38, .int (2 : Int32), .int y0, .int y1, .int (3 : Int32)]) (st' := []) (A' := im_H g u o Y) (c' := 0) (s' := 0) (mi'' := 32) (pc'' := 17) (ls'' := [.ref 38, .int (2 : Int32), .int y0, .int y1, .int (3 : Int32)]) (st'' := []) (A'' := im_H g u o Y) (c'' := 0) (s'' := 0) 8 0 0 hb4 (fun n => rfl) ?_
    exact iv_blk 11 (fun n => rfl) (x32_r35_2_4_ok (g := g) (y0 := y0) (y1 := (y1 + (((g 36 3) >>> ((2 : Int32) &&& 31)) &&& (1 : Int32)))) h)
def x32_r35_2_2 (g : im_M) (y0 : Int32) (y1 : Int32) : Option (Int32 × im_M) :=
  bif Op.if_icmp.holds .eq (2 : Int32) y0 then
    (x32_r35_2_3 g y0 y1)
  else
    (x32_r35_2_3 g y0 (y1 + (((g 36 2) >>> ((2 : Int32) &&& 31)) &&& (1 : Int32))))
set_option maxRecDepth 100000 in
set_option maxHeartbeats 4000000 in
theorem x32_r35_2_2_ok {L : Nat} {xs : Nat → Int32} {g u mm : im_M} {o : Nat → Int64} {Y : iv_A} {y0 y1 ret : Int32} (h : x32_r35_2_2 g y0 y1 = some (ret, mm)) : iv_ev (iv_Xs L xs) 32 31 [.ref 38, .int (2 : Int32), .int y0, .int y1, .int (1 : Int32)] [] (im_H g u o Y) 0 0 (.inl (some (.int ret)), im_H mm u o Y) := by
  unfold x32_r35_2_2 at h
  cases hb3 : Op.if_icmp.holds .eq (2 : Int32) y0 with
  | true =>
    rw [hb3] at h
    simp only [cond_true] at h
    refine iv_brt (mi' := 32) (pc' := 31) (ls' := [.ref 38, .int (2 : Int32), .int y0, .int y1, .int (2 : Int32)]) (st' := []) (A' := im_H g u o Y) (c' := 0) (s' := 0) (mi'' := 32) (pc'' := 17) (ls'' := [.ref 38, .int (2 : Int32), .int y0, .int y1, .int (2 : Int32)]) (st'' := []) (A'' := im_H g u o Y) (c'' := 0) (s'' := 0) 8 0 0 hb3 (fun n => rfl) ?_
    exact x32_r35_2_3_ok (g := g) (y0 := y0) (y1 := y1) h
  | false =>
    rw [hb3] at h
    simp only [cond_false] at h
    refine iv_brf (mi' := 32) (pc' := 31) (ls' := [.ref 38, .int (2 : Int32), .int y0, .int y1, .int (2 : Int32)]) (st' := []) (A' := im_H g u o Y) (c' := 0) (s' := 0) (mi'' := 32) (pc'' := 17) (ls'' := [.ref 38, .int (2 : Int32), .int y0, .int y1, .int (2 : Int32)]) (st'' := []) (A'' := im_H g u o Y) (c'' := 0) (s'' := 0) 8 0 0 hb3 (fun n => rfl) ?_
    exact iv_blk 11 (fun n => rfl) (x32_r35_2_3_ok (g := g) (y0 := y0) (y1 := (y1 + (((g 36 2) >>> ((2 : Int32) &&& 31)) &&& (1 : Int32)))) h)
def x32_r35_2_1 (g : im_M) (y0 : Int32) (y1 : Int32) : Option (Int32 × im_M) :=
  bif Op.if_icmp.holds .eq (1 : Int32) y0 then
    (x32_r35_2_2 g y0 y1)
  else
    (x32_r35_2_2 g y0 (y1 + (((g 36 1) >>> ((2 : Int32) &&& 31)) &&& (1 : Int32))))
set_option maxRecDepth 100000 in
set_option maxHeartbeats 4000000 in
theorem x32_r35_2_1_ok {L : Nat} {xs : Nat → Int32} {g u mm : im_M} {o : Nat → Int64} {Y : iv_A} {y0 y1 ret : Int32} (h : x32_r35_2_1 g y0 y1 = some (ret, mm)) : iv_ev (iv_Xs L xs) 32 31 [.ref 38, .int (2 : Int32), .int y0, .int y1, .int (0 : Int32)] [] (im_H g u o Y) 0 0 (.inl (some (.int ret)), im_H mm u o Y) := by
  unfold x32_r35_2_1 at h
  cases hb2 : Op.if_icmp.holds .eq (1 : Int32) y0 with
  | true =>
    rw [hb2] at h
    simp only [cond_true] at h
    refine iv_brt (mi' := 32) (pc' := 31) (ls' := [.ref 38, .int (2 : Int32), .int y0, .int y1, .int (1 : Int32)]) (st' := []) (A' := im_H g u o Y) (c' := 0) (s' := 0) (mi'' := 32) (pc'' := 17) (ls'' := [.ref 38, .int (2 : Int32), .int y0, .int y1, .int (1 : Int32)]) (st'' := []) (A'' := im_H g u o Y) (c'' := 0) (s'' := 0) 8 0 0 hb2 (fun n => rfl) ?_
    exact x32_r35_2_2_ok (g := g) (y0 := y0) (y1 := y1) h
  | false =>
    rw [hb2] at h
    simp only [cond_false] at h
    refine iv_brf (mi' := 32) (pc' := 31) (ls' := [.ref 38, .int (2 : Int32), .int y0, .int y1, .int (1 : Int32)]) (st' := []) (A' := im_H g u o Y) (c' := 0) (s' := 0) (mi'' := 32) (pc'' := 17) (ls'' := [.ref 38, .int (2 : Int32), .int y0, .int y1, .int (1 : Int32)]) (st'' := []) (A'' := im_H g u o Y) (c'' := 0) (s'' := 0) 8 0 0 hb2 (fun n => rfl) ?_
    exact iv_blk 11 (fun n => rfl) (x32_r35_2_2_ok (g := g) (y0 := y0) (y1 := (y1 + (((g 36 1) >>> ((2 : Int32) &&& 31)) &&& (1 : Int32)))) h)
def x32_r35_2 (g : im_M) (a : Int32) : Option (Int32 × im_M) :=
  bif Op.if_icmp.holds .eq (0 : Int32) a then
    (x32_r35_2_1 g a (0 : Int32))
  else
    (x32_r35_2_1 g a ((0 : Int32) + (((g 36 0) >>> ((2 : Int32) &&& 31)) &&& (1 : Int32))))
set_option maxRecDepth 100000 in
set_option maxHeartbeats 4000000 in
theorem x32_r35_2_ok {L : Nat} {xs : Nat → Int32} {g u mm : im_M} {o : Nat → Int64} {Y : iv_A} {a ret : Int32} (h : x32_r35_2 g a = some (ret, mm)) : iv_ev (iv_Xs L xs) 32 0 [.ref 38, .int (2 : Int32), .int a, .retAddr 0, .retAddr 0] [] (im_H g u o Y) 0 0 (.inl (some (.int ret)), im_H mm u o Y) := by
  unfold x32_r35_2 at h
  cases hb1 : Op.if_icmp.holds .eq (0 : Int32) a with
  | true =>
    rw [hb1] at h
    simp only [cond_true] at h
    refine iv_brt (mi' := 32) (pc' := 31) (ls' := [.ref 38, .int (2 : Int32), .int a, .int (0 : Int32), .int (0 : Int32)]) (st' := []) (A' := im_H g u o Y) (c' := 0) (s' := 0) (mi'' := 32) (pc'' := 17) (ls'' := [.ref 38, .int (2 : Int32), .int a, .int (0 : Int32), .int (0 : Int32)]) (st'' := []) (A'' := im_H g u o Y) (c'' := 0) (s'' := 0) 10 0 0 hb1 (fun n => rfl) ?_
    exact x32_r35_2_1_ok (g := g) (y0 := a) (y1 := (0 : Int32)) h
  | false =>
    rw [hb1] at h
    simp only [cond_false] at h
    refine iv_brf (mi' := 32) (pc' := 31) (ls' := [.ref 38, .int (2 : Int32), .int a, .int (0 : Int32), .int (0 : Int32)]) (st' := []) (A' := im_H g u o Y) (c' := 0) (s' := 0) (mi'' := 32) (pc'' := 17) (ls'' := [.ref 38, .int (2 : Int32), .int a, .int (0 : Int32), .int (0 : Int32)]) (st'' := []) (A'' := im_H g u o Y) (c'' := 0) (s'' := 0) 10 0 0 hb1 (fun n => rfl) ?_
    exact iv_blk 11 (fun n => rfl) (x32_r35_2_1_ok (g := g) (y0 := a) (y1 := ((0 : Int32) + (((g 36 0) >>> ((2 : Int32) &&& 31)) &&& (1 : Int32)))) h)
