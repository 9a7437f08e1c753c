/-! need, needState, needChannel, needParameter, needTrain (printed by wip/gen/lay1.py) -/
def x44 (g : im_M) (a : Int32) : Option (im_T × im_M) :=
  bif Op.ifCond.holds .ne a then
    (some (.inr 0, g))
  else
    (some (.inl 0, g))
set_option maxRecDepth 100000 in
set_option maxHeartbeats 4000000 in
theorem x44_ok {L : Nat} {xs : Nat → Int32} {g u mm : im_M} {o : Nat → Int64} {Y : iv_A} {a : Int32} {ret : im_T} (h : x44 g a = some (ret, mm)) : iv_ev (iv_Xs L xs) 44 0 [.int a] [] (im_H g u o Y) 0 0 (im_rev ret (im_H mm u o Y)) := by
  unfold x44 at h
  cases hb1 : Op.ifCond.holds .ne a with
  | true =>
    have h := iv_bt hb1 h
    refine iv_brt (mi' := 44) (pc' := 12) (ls' := [.int a]) (st' := []) (A' := im_H g u o Y) (c' := 0) (s' := 0) (mi'' := 44) (pc'' := 4) (ls'' := [.int a]) (st'' := []) (A'' := im_H g u o Y) (c'' := 0) (s'' := 0) 2 0 0 hb1 (fun n => rfl) ?_
    cases h
    exact iv_ret 1 (fun n => rfl)
  | false =>
    have h := iv_bf hb1 h
    refine iv_brf (mi' := 44) (pc' := 12) (ls' := [.int a]) (st' := []) (A' := im_H g u o Y) (c' := 0) (s' := 0) (mi'' := 44) (pc'' := 4) (ls'' := [.int a]) (st'' := []) (A'' := im_H g u o Y) (c'' := 0) (s'' := 0) 2 0 0 hb1 (fun n => rfl) ?_
    cases h
    exact iv_ret 1 (fun n => rfl)
def x55 (g : im_M) (a : Int32) : Option (im_T × im_M) :=
  bif Op.ifCond.holds .ne a then
    (some (.inr 0, g))
  else
    (some (.inl 1, g))
set_option maxRecDepth 100000 in
set_option maxHeartbeats 4000000 in
theorem x55_ok {L : Nat} {xs : Nat → Int32} {g u mm : im_M} {o : Nat → Int64} {Y : iv_A} {a : Int32} {ret : im_T} (h : x55 g a = some (ret, mm)) : iv_ev (iv_Xs L xs) 55 0 [.int a] [] (im_H g u o Y) 0 0 (im_rev ret (im_H mm u o Y)) := by
  unfold x55 at h
  cases hb1 : Op.ifCond.holds .ne a with
  | true =>
    have h := iv_bt hb1 h
    refine iv_brt (mi' := 55) (pc' := 12) (ls' := [.int a]) (st' := []) (A' := im_H g u o Y) (c' := 0) (s' := 0) (mi'' := 55) (pc'' := 4) (ls'' := [.int a]) (st'' := []) (A'' := im_H g u o Y) (c'' := 0) (s'' := 0) 2 0 0 hb1 (fun n => rfl) ?_
    cases h
    exact iv_ret 1 (fun n => rfl)
  | false =>
    have h := iv_bf hb1 h
    refine iv_brf (mi' := 55) (pc' := 12) (ls' := [.int a]) (st' := []) (A' := im_H g u o Y) (c' := 0) (s' := 0) (mi'' := 55) (pc'' := 4) (ls'' := [.int a]) (st'' := []) (A'' := im_H g u o Y) (c'' := 0) (s'' := 0) 2 0 0 hb1 (fun n => rfl) ?_
    cases h
    exact iv_ret 1 (fun n => rfl)
def x43_1 (g : im_M) (y0 : Int32) (y1 : Int32) : Option (im_T × im_M) :=
  Option.bind (x44 g y1) (fun q1 =>
    Sum.elim (fun z => some (.inl z, q1.2)) (fun _ =>
    some (.inr 0, q1.2)) q1.1)
set_option maxRecDepth 100000 in
set_option maxHeartbeats 4000000 in
theorem x43_1_ok {L : Nat} {xs : Nat → Int32} {g u mm : im_M} {o : Nat → Int64} {Y : iv_A} {y0 y1 : Int32} {ret : im_T} (h : x43_1 g y0 y1 = some (ret, mm)) : iv_ev (iv_Xs L xs) 43 14 [.int y0] [.int y1] (im_H g u o Y) 0 0 (im_rev ret (im_H mm u o Y)) := by
  unfold x43_1 at h
  obtain ⟨v1, g1, hc, h⟩ := iv_bd h
  cases v1 with
  | inl z =>
    have h := iv_sl h
    cases h
    exact iv_calu (mi' := 43) (pc' := 14) (ls' := [.int y0]) (rest := []) (A' := im_H g u o Y) (c' := 0) (s' := 0) (as := [.int y1]) (B := im_H g1 u o Y) 1 44 (z.val + 7) (fun n => rfl) rfl (im_zx z) rfl rfl (x44_ok (g := g) (a := y1) hc)
  | inr v1 =>
    have h := iv_sr h
    refine iv_cal (mi' := 43) (pc' := 14) (ls' := [.int y0]) (rest := []) (A' := im_H g u o Y) (c' := 0) (s' := 0) (as := [.int y1]) (v := none) (A'' := im_H g1 u o Y) 1 44 (fun n => rfl) rfl (x44_ok (g := g) (a := y1) hc) ?_
    show iv_ev (iv_Xs L xs) 43 17 [.int y0] [] (im_H g1 u o Y) 1 6 _
    cases h
    exact iv_ret 1 (fun n => rfl)
def x43 (g : im_M) (a : Int32) : Option (im_T × im_M) :=
  bif Op.ifCond.holds .lt a then
    (x43_1 g a (0 : Int32))
  else
    (bif Op.if_icmp.holds .ge a (4 : Int32) then
      (x43_1 g a (0 : Int32))
    else
      (x43_1 g a (1 : Int32)))
set_option maxRecDepth 100000 in
set_option maxHeartbeats 4000000 in
theorem x43_ok {L : Nat} {xs : Nat → Int32} {g u mm : im_M} {o : Nat → Int64} {Y : iv_A} {a : Int32} {ret : im_T} (h : x43 g a = some (ret, mm)) : iv_ev (iv_Xs L xs) 43 0 [.int a] [] (im_H g u o Y) 0 0 (im_rev ret (im_H mm u o Y)) := by
  unfold x43 at h
  cases hb1 : Op.ifCond.holds .lt a with
  | true =>
    have h := iv_bt hb1 h
    refine iv_brt (mi' := 43) (pc' := 13) (ls' := [.int a]) (st' := []) (A' := im_H g u o Y) (c' := 0) (s' := 0) (mi'' := 43) (pc'' := 4) (ls'' := [.int a]) (st'' := []) (A'' := im_H g u o Y) (c'' := 0) (s'' := 0) 2 0 0 hb1 (fun n => rfl) ?_
    refine iv_blk (mi' := 43) (pc' := 14) (ls' := [.int a]) (st' := [.int (0 : Int32)]) (A' := im_H g u o Y) (c' := 0) (s' := 0) 1 (fun n => rfl) ?_
    exact x43_1_ok (g := g) (y0 := a) (y1 := (0 : Int32)) h
  | false =>
    have h := iv_bf hb1 h
    refine iv_brf (mi' := 43) (pc' := 13) (ls' := [.int a]) (st' := []) (A' := im_H g u o Y) (c' := 0) (s' := 0) (mi'' := 43) (pc'' := 4) (ls'' := [.int a]) (st'' := []) (A'' := im_H g u o Y) (c'' := 0) (s'' := 0) 2 0 0 hb1 (fun n => rfl) ?_
    cases hb2 : Op.if_icmp.holds .ge a (4 : Int32) with
    | true =>
      have h := iv_bt hb2 h
      refine iv_brt (mi' := 43) (pc' := 13) (ls' := [.int a]) (st' := []) (A' := im_H g u o Y) (c' := 0) (s' := 0) (mi'' := 43) (pc'' := 9) (ls'' := [.int a]) (st'' := []) (A'' := im_H g u o Y) (c'' := 0) (s'' := 0) 3 0 0 hb2 (fun n => rfl) ?_
      refine iv_blk (mi' := 43) (pc' := 14) (ls' := [.int a]) (st' := [.int (0 : Int32)]) (A' := im_H g u o Y) (c' := 0) (s' := 0) 1 (fun n => rfl) ?_
      exact x43_1_ok (g := g) (y0 := a) (y1 := (0 : Int32)) h
    | false =>
      have h := iv_bf hb2 h
      refine iv_brf (mi' := 43) (pc' := 13) (ls' := [.int a]) (st' := []) (A' := im_H g u o Y) (c' := 0) (s' := 0) (mi'' := 43) (pc'' := 9) (ls'' := [.int a]) (st'' := []) (A'' := im_H g u o Y) (c'' := 0) (s'' := 0) 3 0 0 hb2 (fun n => rfl) ?_
      refine iv_blk (mi' := 43) (pc' := 14) (ls' := [.int a]) (st' := [.int (1 : Int32)]) (A' := im_H g u o Y) (c' := 0) (s' := 0) 2 (fun n => rfl) ?_
      exact x43_1_ok (g := g) (y0 := a) (y1 := (1 : Int32)) h
def x49_1 (g : im_M) (y0 : Int32) (y1 : Int32) : Option (im_T × im_M) :=
  Option.bind (x44 g y1) (fun q1 =>
    Sum.elim (fun z => some (.inl z, q1.2)) (fun _ =>
    some (.inr 0, q1.2)) q1.1)
set_option maxRecDepth 100000 in
set_option maxHeartbeats 4000000 in
theorem x49_1_ok {L : Nat} {xs : Nat → Int32} {g u mm : im_M} {o : Nat → Int64} {Y : iv_A} {y0 y1 : Int32} {ret : im_T} (h : x49_1 g y0 y1 = some (ret, mm)) : iv_ev (iv_Xs L xs) 49 14 [.int y0] [.int y1] (im_H g u o Y) 0 0 (im_rev ret (im_H mm u o Y)) := by
  unfold x49_1 at h
  obtain ⟨v1, g1, hc, h⟩ := iv_bd h
  cases v1 with
  | inl z =>
    have h := iv_sl h
    cases h
    exact iv_calu (mi' := 49) (pc' := 14) (ls' := [.int y0]) (rest := []) (A' := im_H g u o Y) (c' := 0) (s' := 0) (as := [.int y1]) (B := im_H g1 u o Y) 1 44 (z.val + 7) (fun n => rfl) rfl (im_zx z) rfl rfl (x44_ok (g := g) (a := y1) hc)
  | inr v1 =>
    have h := iv_sr h
    refine iv_cal (mi' := 49) (pc' := 14) (ls' := [.int y0]) (rest := []) (A' := im_H g u o Y) (c' := 0) (s' := 0) (as := [.int y1]) (v := none) (A'' := im_H g1 u o Y) 1 44 (fun n => rfl) rfl (x44_ok (g := g) (a := y1) hc) ?_
    show iv_ev (iv_Xs L xs) 49 17 [.int y0] [] (im_H g1 u o Y) 1 6 _
    cases h
    exact iv_ret 1 (fun n => rfl)
def x49 (g : im_M) (a : Int32) : Option (im_T × im_M) :=
  bif Op.ifCond.holds .lt a then
    (x49_1 g a (0 : Int32))
  else
    (bif Op.if_icmp.holds .ge a (3 : Int32) then
      (x49_1 g a (0 : Int32))
    else
      (x49_1 g a (1 : Int32)))
set_option maxRecDepth 100000 in
set_option maxHeartbeats 4000000 in
theorem x49_ok {L : Nat} {xs : Nat → Int32} {g u mm : im_M} {o : Nat → Int64} {Y : iv_A} {a : Int32} {ret : im_T} (h : x49 g a = some (ret, mm)) : iv_ev (iv_Xs L xs) 49 0 [.int a] [] (im_H g u o Y) 0 0 (im_rev ret (im_H mm u o Y)) := by
  unfold x49 at h
  cases hb1 : Op.ifCond.holds .lt a with
  | true =>
    have h := iv_bt hb1 h
    refine iv_brt (mi' := 49) (pc' := 13) (ls' := [.int a]) (st' := []) (A' := im_H g u o Y) (c' := 0) (s' := 0) (mi'' := 49) (pc'' := 4) (ls'' := [.int a]) (st'' := []) (A'' := im_H g u o Y) (c'' := 0) (s'' := 0) 2 0 0 hb1 (fun n => rfl) ?_
    refine iv_blk (mi' := 49) (pc' := 14) (ls' := [.int a]) (st' := [.int (0 : Int32)]) (A' := im_H g u o Y) (c' := 0) (s' := 0) 1 (fun n => rfl) ?_
    exact x49_1_ok (g := g) (y0 := a) (y1 := (0 : Int32)) h
  | false =>
    have h := iv_bf hb1 h
    refine iv_brf (mi' := 49) (pc' := 13) (ls' := [.int a]) (st' := []) (A' := im_H g u o Y) (c' := 0) (s' := 0) (mi'' := 49) (pc'' := 4) (ls'' := [.int a]) (st'' := []) (A'' := im_H g u o Y) (c'' := 0) (s'' := 0) 2 0 0 hb1 (fun n => rfl) ?_
    cases hb2 : Op.if_icmp.holds .ge a (3 : Int32) with
    | true =>
      have h := iv_bt hb2 h
      refine iv_brt (mi' := 49) (pc' := 13) (ls' := [.int a]) (st' := []) (A' := im_H g u o Y) (c' := 0) (s' := 0) (mi'' := 49) (pc'' := 9) (ls'' := [.int a]) (st'' := []) (A'' := im_H g u o Y) (c'' := 0) (s'' := 0) 3 0 0 hb2 (fun n => rfl) ?_
      refine iv_blk (mi' := 49) (pc' := 14) (ls' := [.int a]) (st' := [.int (0 : Int32)]) (A' := im_H g u o Y) (c' := 0) (s' := 0) 1 (fun n => rfl) ?_
      exact x49_1_ok (g := g) (y0 := a) (y1 := (0 : Int32)) h
    | false =>
      have h := iv_bf hb2 h
      refine iv_brf (mi' := 49) (pc' := 13) (ls' := [.int a]) (st' := []) (A' := im_H g u o Y) (c' := 0) (s' := 0) (mi'' := 49) (pc'' := 9) (ls'' := [.int a]) (st'' := []) (A'' := im_H g u o Y) (c'' := 0) (s'' := 0) 3 0 0 hb2 (fun n => rfl) ?_
      refine iv_blk (mi' := 49) (pc' := 14) (ls' := [.int a]) (st' := [.int (1 : Int32)]) (A' := im_H g u o Y) (c' := 0) (s' := 0) 2 (fun n => rfl) ?_
      exact x49_1_ok (g := g) (y0 := a) (y1 := (1 : Int32)) h
def x64_1 (g : im_M) (y0 : Int32) (y1 : Int32) : Option (im_T × im_M) :=
  Option.bind (x44 g y1) (fun q1 =>
    Sum.elim (fun z => some (.inl z, q1.2)) (fun _ =>
    some (.inr 0, q1.2)) q1.1)
set_option maxRecDepth 100000 in
set_option maxHeartbeats 4000000 in
theorem x64_1_ok {L : Nat} {xs : Nat → Int32} {g u mm : im_M} {o : Nat → Int64} {Y : iv_A} {y0 y1 : Int32} {ret : im_T} (h : x64_1 g y0 y1 = some (ret, mm)) : iv_ev (iv_Xs L xs) 64 14 [.int y0] [.int y1] (im_H g u o Y) 0 0 (im_rev ret (im_H mm u o Y)) := by
  unfold x64_1 at h
  obtain ⟨v1, g1, hc, h⟩ := iv_bd h
  cases v1 with
  | inl z =>
    have h := iv_sl h
    cases h
    exact iv_calu (mi' := 64) (pc' := 14) (ls' := [.int y0]) (rest := []) (A' := im_H g u o Y) (c' := 0) (s' := 0) (as := [.int y1]) (B := im_H g1 u o Y) 1 44 (z.val + 7) (fun n => rfl) rfl (im_zx z) rfl rfl (x44_ok (g := g) (a := y1) hc)
  | inr v1 =>
    have h := iv_sr h
    refine iv_cal (mi' := 64) (pc' := 14) (ls' := [.int y0]) (rest := []) (A' := im_H g u o Y) (c' := 0) (s' := 0) (as := [.int y1]) (v := none) (A'' := im_H g1 u o Y) 1 44 (fun n => rfl) rfl (x44_ok (g := g) (a := y1) hc) ?_
    show iv_ev (iv_Xs L xs) 64 17 [.int y0] [] (im_H g1 u o Y) 1 6 _
    cases h
    exact iv_ret 1 (fun n => rfl)
def x64 (g : im_M) (a : Int32) : Option (im_T × im_M) :=
  bif Op.ifCond.holds .lt a then
    (x64_1 g a (0 : Int32))
  else
    (bif Op.if_icmp.holds .ge a (4 : Int32) then
      (x64_1 g a (0 : Int32))
    else
      (x64_1 g a (1 : Int32)))
set_option maxRecDepth 100000 in
set_option maxHeartbeats 4000000 in
theorem x64_ok {L : Nat} {xs : Nat → Int32} {g u mm : im_M} {o : Nat → Int64} {Y : iv_A} {a : Int32} {ret : im_T} (h : x64 g a = some (ret, mm)) : iv_ev (iv_Xs L xs) 64 0 [.int a] [] (im_H g u o Y) 0 0 (im_rev ret (im_H mm u o Y)) := by
  unfold x64 at h
  cases hb1 : Op.ifCond.holds .lt a with
  | true =>
    have h := iv_bt hb1 h
    refine iv_brt (mi' := 64) (pc' := 13) (ls' := [.int a]) (st' := []) (A' := im_H g u o Y) (c' := 0) (s' := 0) (mi'' := 64) (pc'' := 4) (ls'' := [.int a]) (st'' := []) (A'' := im_H g u o Y) (c'' := 0) (s'' := 0) 2 0 0 hb1 (fun n => rfl) ?_
    refine iv_blk (mi' := 64) (pc' := 14) (ls' := [.int a]) (st' := [.int (0 : Int32)]) (A' := im_H g u o Y) (c' := 0) (s' := 0) 1 (fun n => rfl) ?_
    exact x64_1_ok (g := g) (y0 := a) (y1 := (0 : Int32)) h
  | false =>
    have h := iv_bf hb1 h
    refine iv_brf (mi' := 64) (pc' := 13) (ls' := [.int a]) (st' := []) (A' := im_H g u o Y) (c' := 0) (s' := 0) (mi'' := 64) (pc'' := 4) (ls'' := [.int a]) (st'' := []) (A'' := im_H g u o Y) (c'' := 0) (s'' := 0) 2 0 0 hb1 (fun n => rfl) ?_
    cases hb2 : Op.if_icmp.holds .ge a (4 : Int32) with
    | true =>
      have h := iv_bt hb2 h
      refine iv_brt (mi' := 64) (pc' := 13) (ls' := [.int a]) (st' := []) (A' := im_H g u o Y) (c' := 0) (s' := 0) (mi'' := 64) (pc'' := 9) (ls'' := [.int a]) (st'' := []) (A'' := im_H g u o Y) (c'' := 0) (s'' := 0) 3 0 0 hb2 (fun n => rfl) ?_
      refine iv_blk (mi' := 64) (pc' := 14) (ls' := [.int a]) (st' := [.int (0 : Int32)]) (A' := im_H g u o Y) (c' := 0) (s' := 0) 1 (fun n => rfl) ?_
      exact x64_1_ok (g := g) (y0 := a) (y1 := (0 : Int32)) h
    | false =>
      have h := iv_bf hb2 h
      refine iv_brf (mi' := 64) (pc' := 13) (ls' := [.int a]) (st' := []) (A' := im_H g u o Y) (c' := 0) (s' := 0) (mi'' := 64) (pc'' := 9) (ls'' := [.int a]) (st'' := []) (A'' := im_H g u o Y) (c'' := 0) (s'' := 0) 3 0 0 hb2 (fun n => rfl) ?_
      refine iv_blk (mi' := 64) (pc' := 14) (ls' := [.int a]) (st' := [.int (1 : Int32)]) (A' := im_H g u o Y) (c' := 0) (s' := 0) 2 (fun n => rfl) ?_
      exact x64_1_ok (g := g) (y0 := a) (y1 := (1 : Int32)) h
