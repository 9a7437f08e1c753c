/-! restore, reset, demands, latched, votes, event, figure (printed by wip/gen/lay1.py) -/
def x58_r0_1 (g : im_M) (y0 : Int32) : Option (im_T × im_M) :=
  Option.bind (x55 g y0) (fun q1 =>
    Sum.elim (fun z => some (.inl z, q1.2)) (fun _ =>
    Option.bind (x15_r1 q1.2 (12 : Int32) (q1.2 0 6) (0 : Int32)) (fun q2 =>
      some (.inr 0, (im_w q2.2 0 6 (-1 : Int32))))) q1.1)
set_option maxRecDepth 100000 in
set_option maxHeartbeats 4000000 in
theorem x58_r0_1_ok {L : Nat} {xs : Nat → Int32} {g u mm : im_M} {o : Nat → Int64} {Y : iv_A} {y0 : Int32} {ret : im_T} (h : x58_r0_1 g y0 = some (ret, mm)) : iv_ev (iv_Xs L xs) 58 13 [.ref 3] [.int y0] (im_H g u o Y) 0 0 (im_rev ret (im_H mm u o Y)) := by
  unfold x58_r0_1 at h
  obtain ⟨v1, g1, hc, h⟩ := iv_bd h
  cases v1 with
  | inl z =>
    have h := iv_sl h
    cases h
    exact iv_calu (mi' := 58) (pc' := 13) (ls' := [.ref 3]) (rest := []) (A' := im_H g u o Y) (c' := 0) (s' := 0) (as := [.int y0]) (B := im_H g1 u o Y) 1 55 (z.val + 7) (fun n => rfl) rfl (im_zx z) rfl rfl (x55_ok (g := g) (a := y0) hc)
  | inr v1 =>
    have h := iv_sr h
    refine iv_cal (mi' := 58) (pc' := 13) (ls' := [.ref 3]) (rest := []) (A' := im_H g u o Y) (c' := 0) (s' := 0) (as := [.int y0]) (v := none) (A'' := im_H g1 u o Y) 1 55 (fun n => rfl) rfl (x55_ok (g := g) (a := y0) hc) ?_
    show iv_ev (iv_Xs L xs) 58 16 [.ref 3] [] (im_H g1 u o Y) 1 6 _
    obtain ⟨v2, g2, hc, h⟩ := iv_bd h
    refine iv_cal (mi' := 58) (pc' := 27) (ls' := [.ref 3]) (rest := []) (A' := im_H g1 u o Y) (c' := 1) (s' := 6) (as := [.ref 4, .int (12 : Int32), .int (g1 0 6), .int (0 : Int32)]) (v := none) (A'' := im_H g2 u o Y) 7 15 (fun n => rfl) rfl (x15_r1_ok (g := g1) (a := (12 : Int32)) (b := (g1 0 6)) (c := (0 : Int32)) hc) ?_
    show iv_ev (iv_Xs L xs) 58 30 [.ref 3] [] (im_H g2 u o Y) 1 6 _
    refine iv_blk (mi' := 58) (pc' := 35) (ls' := [.ref 3]) (st' := []) (A' := List.set (im_H g2 u o Y) 0 (.inr (5, List.set [.int (g2 0 0), .ref 4, .ref 6, .ref 7, .ref 8, .ref 11, .int (g2 0 6), .int (g2 0 7)] 6 (.int (-1 : Int32))))) (c' := 1) (s' := 6) 3 (fun n => rfl) ?_
    rw [im_f0_6]
    cases h
    exact iv_ret 1 (fun n => rfl)
def x58_r0 (g : im_M) : Option (im_T × im_M) :=
  bif Op.if_icmp.holds .eq (g 0 6) (-1 : Int32) then
    (x58_r0_1 g (0 : Int32))
  else
    (x58_r0_1 g (1 : Int32))
set_option maxRecDepth 100000 in
set_option maxHeartbeats 4000000 in
theorem x58_r0_ok {L : Nat} {xs : Nat → Int32} {g u mm : im_M} {o : Nat → Int64} {Y : iv_A} {ret : im_T} (h : x58_r0 g  = some (ret, mm)) : iv_ev (iv_Xs L xs) 58 0 [.ref 3] [] (im_H g u o Y) 0 0 (im_rev ret (im_H mm u o Y)) := by
  unfold x58_r0 at h
  cases hb1 : Op.if_icmp.holds .eq (g 0 6) (-1 : Int32) with
  | true =>
    have h := iv_bt hb1 h
    refine iv_brt (mi' := 58) (pc' := 12) (ls' := [.ref 3]) (st' := []) (A' := im_H g u o Y) (c' := 0) (s' := 0) (mi'' := 58) (pc'' := 8) (ls'' := [.ref 3]) (st'' := []) (A'' := im_H g u o Y) (c'' := 0) (s'' := 0) 4 0 0 hb1 (fun n => rfl) ?_
    refine iv_blk (mi' := 58) (pc' := 13) (ls' := [.ref 3]) (st' := [.int (0 : Int32)]) (A' := im_H g u o Y) (c' := 0) (s' := 0) 1 (fun n => rfl) ?_
    exact x58_r0_1_ok (g := g) (y0 := (0 : Int32)) h
  | false =>
    have h := iv_bf hb1 h
    refine iv_brf (mi' := 58) (pc' := 12) (ls' := [.ref 3]) (st' := []) (A' := im_H g u o Y) (c' := 0) (s' := 0) (mi'' := 58) (pc'' := 8) (ls'' := [.ref 3]) (st'' := []) (A'' := im_H g u o Y) (c'' := 0) (s'' := 0) 4 0 0 hb1 (fun n => rfl) ?_
    refine iv_blk (mi' := 58) (pc' := 13) (ls' := [.ref 3]) (st' := [.int (1 : Int32)]) (A' := im_H g u o Y) (c' := 0) (s' := 0) 2 (fun n => rfl) ?_
    exact x58_r0_1_ok (g := g) (y0 := (1 : Int32)) h
def x63_r0_0_1 (g : im_M) (y0 : Int32) : Option (im_T × im_M) :=
  Option.bind (x55 g y0) (fun q2 =>
    Sum.elim (fun z => some (.inl z, q2.2)) (fun _ =>
    Option.bind (x15_r1 q2.2 (13 : Int32) (0 : Int32) (q2.2 29 3)) (fun q3 =>
      some (.inr 0, (im_w q3.2 29 3 (0 : Int32))))) q2.1)
set_option maxRecDepth 100000 in
set_option maxHeartbeats 4000000 in
theorem x63_r0_0_1_ok {L : Nat} {xs : Nat → Int32} {g u mm : im_M} {o : Nat → Int64} {Y : iv_A} {y0 : Int32} {ret : im_T} (h : x63_r0_0_1 g y0 = some (ret, mm)) : iv_ev (iv_Xs L xs) 63 30 [.ref 3, .int (0 : Int32), .ref 32] [.int y0] (im_H g u o Y) 1 6 (im_rev ret (im_H mm u o Y)) := by
  unfold x63_r0_0_1 at h
  obtain ⟨v2, g2, hc, h⟩ := iv_bd h
  cases v2 with
  | inl z =>
    have h := iv_sl h
    cases h
    exact iv_calu (mi' := 63) (pc' := 30) (ls' := [.ref 3, .int (0 : Int32), .ref 32]) (rest := []) (A' := im_H g u o Y) (c' := 1) (s' := 6) (as := [.int y0]) (B := im_H g2 u o Y) 1 55 (z.val + 7) (fun n => rfl) rfl (im_zx z) rfl rfl (x55_ok (g := g) (a := y0) hc)
  | inr v2 =>
    have h := iv_sr h
    refine iv_cal (mi' := 63) (pc' := 30) (ls' := [.ref 3, .int (0 : Int32), .ref 32]) (rest := []) (A' := im_H g u o Y) (c' := 1) (s' := 6) (as := [.int y0]) (v := none) (A'' := im_H g2 u o Y) 1 55 (fun n => rfl) rfl (x55_ok (g := g) (a := y0) hc) ?_
    show iv_ev (iv_Xs L xs) 63 33 [.ref 3, .int (0 : Int32), .ref 32] [] (im_H g2 u o Y) 2 12 _
    obtain ⟨v3, g3, hc, h⟩ := iv_bd h
    refine iv_cal (mi' := 63) (pc' := 44) (ls' := [.ref 3, .int (0 : Int32), .ref 32]) (rest := []) (A' := im_H g2 u o Y) (c' := 2) (s' := 12) (as := [.ref 4, .int (13 : Int32), .int (0 : Int32), .int (g2 29 3)]) (v := none) (A'' := im_H g3 u o Y) 7 15 (fun n => rfl) rfl (x15_r1_ok (g := g2) (a := (13 : Int32)) (b := (0 : Int32)) (c := (g2 29 3)) hc) ?_
    show iv_ev (iv_Xs L xs) 63 47 [.ref 3, .int (0 : Int32), .ref 32] [] (im_H g3 u o Y) 2 12 _
    refine iv_blk (mi' := 63) (pc' := 52) (ls' := [.ref 3, .int (0 : Int32), .ref 32]) (st' := []) (A' := List.set (im_H g3 u o Y) 29 (.inr (3, List.set [.int 0, .ref 33, .int (g3 29 2), .int (g3 29 3)] 3 (.int (0 : Int32))))) (c' := 2) (s' := 12) 3 (fun n => rfl) ?_
    rw [im_f29_3]
    cases h
    exact iv_ret 1 (fun n => rfl)
def x63_r0_0 (g : im_M) : Option (im_T × im_M) :=
  Option.bind (x64 g (0 : Int32)) (fun q1 =>
    Sum.elim (fun z => some (.inl z, q1.2)) (fun _ =>
    bif Op.ifCond.holds .eq (q1.2 29 3) then
      (x63_r0_0_1 q1.2 (0 : Int32))
    else
      (bif Op.ifCond.holds .ne (q1.2 29 2) then
        (x63_r0_0_1 q1.2 (0 : Int32))
      else
        (x63_r0_0_1 q1.2 (1 : Int32)))) q1.1)
set_option maxRecDepth 100000 in
set_option maxHeartbeats 4000000 in
theorem x63_r0_0_ok {L : Nat} {xs : Nat → Int32} {g u mm : im_M} {o : Nat → Int64} {Y : iv_A} {ret : im_T} (h : x63_r0_0 g  = some (ret, mm)) : iv_ev (iv_Xs L xs) 63 0 [.ref 3, .int (0 : Int32), .retAddr 0] [] (im_H g u o Y) 0 0 (im_rev ret (im_H mm u o Y)) := by
  unfold x63_r0_0 at h
  obtain ⟨v1, g1, hc, h⟩ := iv_bd h
  cases v1 with
  | inl z =>
    have h := iv_sl h
    cases h
    exact iv_calu (mi' := 63) (pc' := 1) (ls' := [.ref 3, .int (0 : Int32), .retAddr 0]) (rest := []) (A' := im_H g u o Y) (c' := 0) (s' := 0) (as := [.int (0 : Int32)]) (B := im_H g1 u o Y) 2 64 (z.val + 7) (fun n => rfl) rfl (im_zx z) rfl rfl (x64_ok (g := g) (a := (0 : Int32)) hc)
  | inr v1 =>
    have h := iv_sr h
    refine iv_cal (mi' := 63) (pc' := 1) (ls' := [.ref 3, .int (0 : Int32), .retAddr 0]) (rest := []) (A' := im_H g u o Y) (c' := 0) (s' := 0) (as := [.int (0 : Int32)]) (v := none) (A'' := im_H g1 u o Y) 2 64 (fun n => rfl) rfl (x64_ok (g := g) (a := (0 : Int32)) hc) ?_
    show iv_ev (iv_Xs L xs) 63 4 [.ref 3, .int (0 : Int32), .retAddr 0] [] (im_H g1 u o Y) 1 6 _
    cases hb1 : Op.ifCond.holds .eq (g1 29 3) with
    | true =>
      have h := iv_bt hb1 h
      refine iv_brt (mi' := 63) (pc' := 29) (ls' := [.ref 3, .int (0 : Int32), .ref 32]) (st' := []) (A' := im_H g1 u o Y) (c' := 1) (s' := 6) (mi'' := 63) (pc'' := 18) (ls'' := [.ref 3, .int (0 : Int32), .ref 32]) (st'' := []) (A'' := im_H g1 u o Y) (c'' := 1) (s'' := 6) 8 0 0 hb1 (fun n => rfl) ?_
      refine iv_blk (mi' := 63) (pc' := 30) (ls' := [.ref 3, .int (0 : Int32), .ref 32]) (st' := [.int (0 : Int32)]) (A' := im_H g1 u o Y) (c' := 1) (s' := 6) 1 (fun n => rfl) ?_
      exact x63_r0_0_1_ok (g := g1) (y0 := (0 : Int32)) h
    | false =>
      have h := iv_bf hb1 h
      refine iv_brf (mi' := 63) (pc' := 29) (ls' := [.ref 3, .int (0 : Int32), .ref 32]) (st' := []) (A' := im_H g1 u o Y) (c' := 1) (s' := 6) (mi'' := 63) (pc'' := 18) (ls'' := [.ref 3, .int (0 : Int32), .ref 32]) (st'' := []) (A'' := im_H g1 u o Y) (c'' := 1) (s'' := 6) 8 0 0 hb1 (fun n => rfl) ?_
      cases hb2 : Op.ifCond.holds .ne (g1 29 2) with
      | true =>
        have h := iv_bt hb2 h
        refine iv_brt (mi' := 63) (pc' := 29) (ls' := [.ref 3, .int (0 : Int32), .ref 32]) (st' := []) (A' := im_H g1 u o Y) (c' := 1) (s' := 6) (mi'' := 63) (pc'' := 25) (ls'' := [.ref 3, .int (0 : Int32), .ref 32]) (st'' := []) (A'' := im_H g1 u o Y) (c'' := 1) (s'' := 6) 3 0 0 hb2 (fun n => rfl) ?_
        refine iv_blk (mi' := 63) (pc' := 30) (ls' := [.ref 3, .int (0 : Int32), .ref 32]) (st' := [.int (0 : Int32)]) (A' := im_H g1 u o Y) (c' := 1) (s' := 6) 1 (fun n => rfl) ?_
        exact x63_r0_0_1_ok (g := g1) (y0 := (0 : Int32)) h
      | false =>
        have h := iv_bf hb2 h
        refine iv_brf (mi' := 63) (pc' := 29) (ls' := [.ref 3, .int (0 : Int32), .ref 32]) (st' := []) (A' := im_H g1 u o Y) (c' := 1) (s' := 6) (mi'' := 63) (pc'' := 25) (ls'' := [.ref 3, .int (0 : Int32), .ref 32]) (st'' := []) (A'' := im_H g1 u o Y) (c'' := 1) (s'' := 6) 3 0 0 hb2 (fun n => rfl) ?_
        refine iv_blk (mi' := 63) (pc' := 30) (ls' := [.ref 3, .int (0 : Int32), .ref 32]) (st' := [.int (1 : Int32)]) (A' := im_H g1 u o Y) (c' := 1) (s' := 6) 2 (fun n => rfl) ?_
        exact x63_r0_0_1_ok (g := g1) (y0 := (1 : Int32)) h
def x73_r0_0 (g : im_M) : Option (im_T × im_M) :=
  Option.bind (x64 g (0 : Int32)) (fun q1 =>
    Sum.elim (fun z => some (.inl z, q1.2)) (fun _ =>
    some (.inr (q1.2 29 2), q1.2)) q1.1)
set_option maxRecDepth 100000 in
set_option maxHeartbeats 4000000 in
theorem x73_r0_0_ok {L : Nat} {xs : Nat → Int32} {g u mm : im_M} {o : Nat → Int64} {Y : iv_A} {ret : im_T} (h : x73_r0_0 g  = some (ret, mm)) : iv_ev (iv_Xs L xs) 73 0 [.ref 3, .int (0 : Int32)] [] (im_H g u o Y) 0 0 (im_res ret (im_H mm u o Y)) := by
  unfold x73_r0_0 at h
  obtain ⟨v1, g1, hc, h⟩ := iv_bd h
  cases v1 with
  | inl z =>
    have h := iv_sl h
    cases h
    exact iv_calu (mi' := 73) (pc' := 1) (ls' := [.ref 3, .int (0 : Int32)]) (rest := []) (A' := im_H g u o Y) (c' := 0) (s' := 0) (as := [.int (0 : Int32)]) (B := im_H g1 u o Y) 2 64 (z.val + 7) (fun n => rfl) rfl (im_zx z) rfl rfl (x64_ok (g := g) (a := (0 : Int32)) hc)
  | inr v1 =>
    have h := iv_sr h
    refine iv_cal (mi' := 73) (pc' := 1) (ls' := [.ref 3, .int (0 : Int32)]) (rest := []) (A' := im_H g u o Y) (c' := 0) (s' := 0) (as := [.int (0 : Int32)]) (v := none) (A'' := im_H g1 u o Y) 2 64 (fun n => rfl) rfl (x64_ok (g := g) (a := (0 : Int32)) hc) ?_
    show iv_ev (iv_Xs L xs) 73 4 [.ref 3, .int (0 : Int32)] [] (im_H g1 u o Y) 1 6 _
    cases h
    exact iv_ret 6 (fun n => rfl)
def x75_r0_0 (g : im_M) : Option (im_T × im_M) :=
  Option.bind (x64 g (0 : Int32)) (fun q1 =>
    Sum.elim (fun z => some (.inl z, q1.2)) (fun _ =>
    some (.inr (q1.2 29 3), q1.2)) q1.1)
set_option maxRecDepth 100000 in
set_option maxHeartbeats 4000000 in
theorem x75_r0_0_ok {L : Nat} {xs : Nat → Int32} {g u mm : im_M} {o : Nat → Int64} {Y : iv_A} {ret : im_T} (h : x75_r0_0 g  = some (ret, mm)) : iv_ev (iv_Xs L xs) 75 0 [.ref 3, .int (0 : Int32)] [] (im_H g u o Y) 0 0 (im_res ret (im_H mm u o Y)) := by
  unfold x75_r0_0 at h
  obtain ⟨v1, g1, hc, h⟩ := iv_bd h
  cases v1 with
  | inl z =>
    have h := iv_sl h
    cases h
    exact iv_calu (mi' := 75) (pc' := 1) (ls' := [.ref 3, .int (0 : Int32)]) (rest := []) (A' := im_H g u o Y) (c' := 0) (s' := 0) (as := [.int (0 : Int32)]) (B := im_H g1 u o Y) 2 64 (z.val + 7) (fun n => rfl) rfl (im_zx z) rfl rfl (x64_ok (g := g) (a := (0 : Int32)) hc)
  | inr v1 =>
    have h := iv_sr h
    refine iv_cal (mi' := 75) (pc' := 1) (ls' := [.ref 3, .int (0 : Int32)]) (rest := []) (A' := im_H g u o Y) (c' := 0) (s' := 0) (as := [.int (0 : Int32)]) (v := none) (A'' := im_H g1 u o Y) 2 64 (fun n => rfl) rfl (x64_ok (g := g) (a := (0 : Int32)) hc) ?_
    show iv_ev (iv_Xs L xs) 75 4 [.ref 3, .int (0 : Int32)] [] (im_H g1 u o Y) 1 6 _
    cases h
    exact iv_ret 6 (fun n => rfl)
def x71_r0_0_0 (g : im_M) : Option (im_T × im_M) :=
  Option.bind (x64 g (0 : Int32)) (fun q1 =>
    Sum.elim (fun z => some (.inl z, q1.2)) (fun _ =>
    Option.bind (x43 q1.2 (0 : Int32)) (fun q2 =>
      Sum.elim (fun z => some (.inl z, q2.2)) (fun _ =>
      some (.inr ((q2.2 30 0) &&& (7 : Int32)), q2.2)) q2.1)) q1.1)
set_option maxRecDepth 100000 in
set_option maxHeartbeats 4000000 in
theorem x71_r0_0_0_ok {L : Nat} {xs : Nat → Int32} {g u mm : im_M} {o : Nat → Int64} {Y : iv_A} {ret : im_T} (h : x71_r0_0_0 g  = some (ret, mm)) : iv_ev (iv_Xs L xs) 71 0 [.ref 3, .int (0 : Int32), .int (0 : Int32)] [] (im_H g u o Y) 0 0 (im_res ret (im_H mm u o Y)) := by
  unfold x71_r0_0_0 at h
  obtain ⟨v1, g1, hc, h⟩ := iv_bd h
  cases v1 with
  | inl z =>
    have h := iv_sl h
    cases h
    exact iv_calu (mi' := 71) (pc' := 1) (ls' := [.ref 3, .int (0 : Int32), .int (0 : Int32)]) (rest := []) (A' := im_H g u o Y) (c' := 0) (s' := 0) (as := [.int (0 : Int32)]) (B := im_H g1 u o Y) 2 64 (z.val + 7) (fun n => rfl) rfl (im_zx z) rfl rfl (x64_ok (g := g) (a := (0 : Int32)) hc)
  | inr v1 =>
    have h := iv_sr h
    refine iv_cal (mi' := 71) (pc' := 1) (ls' := [.ref 3, .int (0 : Int32), .int (0 : Int32)]) (rest := []) (A' := im_H g u o Y) (c' := 0) (s' := 0) (as := [.int (0 : Int32)]) (v := none) (A'' := im_H g1 u o Y) 2 64 (fun n => rfl) rfl (x64_ok (g := g) (a := (0 : Int32)) hc) ?_
    show iv_ev (iv_Xs L xs) 71 4 [.ref 3, .int (0 : Int32), .int (0 : Int32)] [] (im_H g1 u o Y) 1 6 _
    obtain ⟨v2, g2, hc, h⟩ := iv_bd h
    cases v2 with
    | inl z =>
      have h := iv_sl h
      cases h
      exact iv_calu (mi' := 71) (pc' := 5) (ls' := [.ref 3, .int (0 : Int32), .int (0 : Int32)]) (rest := []) (A' := im_H g1 u o Y) (c' := 1) (s' := 6) (as := [.int (0 : Int32)]) (B := im_H g2 u o Y) 2 43 (z.val + 7) (fun n => rfl) rfl (im_zx z) rfl rfl (x43_ok (g := g1) (a := (0 : Int32)) hc)
    | inr v2 =>
      have h := iv_sr h
      refine iv_cal (mi' := 71) (pc' := 5) (ls' := [.ref 3, .int (0 : Int32), .int (0 : Int32)]) (rest := []) (A' := im_H g1 u o Y) (c' := 1) (s' := 6) (as := [.int (0 : Int32)]) (v := none) (A'' := im_H g2 u o Y) 2 43 (fun n => rfl) rfl (x43_ok (g := g1) (a := (0 : Int32)) hc) ?_
      show iv_ev (iv_Xs L xs) 71 8 [.ref 3, .int (0 : Int32), .int (0 : Int32)] [] (im_H g2 u o Y) 2 12 _
      cases h
      exact iv_ret 10 (fun n => rfl)
def x71_r0_0_1 (g : im_M) : Option (im_T × im_M) :=
  Option.bind (x64 g (0 : Int32)) (fun q1 =>
    Sum.elim (fun z => some (.inl z, q1.2)) (fun _ =>
    Option.bind (x43 q1.2 (1 : Int32)) (fun q2 =>
      Sum.elim (fun z => some (.inl z, q2.2)) (fun _ =>
      some (.inr ((q2.2 30 1) &&& (7 : Int32)), q2.2)) q2.1)) q1.1)
set_option maxRecDepth 100000 in
set_option maxHeartbeats 4000000 in
theorem x71_r0_0_1_ok {L : Nat} {xs : Nat → Int32} {g u mm : im_M} {o : Nat → Int64} {Y : iv_A} {ret : im_T} (h : x71_r0_0_1 g  = some (ret, mm)) : iv_ev (iv_Xs L xs) 71 0 [.ref 3, .int (0 : Int32), .int (1 : Int32)] [] (im_H g u o Y) 0 0 (im_res ret (im_H mm u o Y)) := by
  unfold x71_r0_0_1 at h
  obtain ⟨v1, g1, hc, h⟩ := iv_bd h
  cases v1 with
  | inl z =>
    have h := iv_sl h
    cases h
    exact iv_calu (mi' := 71) (pc' := 1) (ls' := [.ref 3, .int (0 : Int32), .int (1 : Int32)]) (rest := []) (A' := im_H g u o Y) (c' := 0) (s' := 0) (as := [.int (0 : Int32)]) (B := im_H g1 u o Y) 2 64 (z.val + 7) (fun n => rfl) rfl (im_zx z) rfl rfl (x64_ok (g := g) (a := (0 : Int32)) hc)
  | inr v1 =>
    have h := iv_sr h
    refine iv_cal (mi' := 71) (pc' := 1) (ls' := [.ref 3, .int (0 : Int32), .int (1 : Int32)]) (rest := []) (A' := im_H g u o Y) (c' := 0) (s' := 0) (as := [.int (0 : Int32)]) (v := none) (A'' := im_H g1 u o Y) 2 64 (fun n => rfl) rfl (x64_ok (g := g) (a := (0 : Int32)) hc) ?_
    show iv_ev (iv_Xs L xs) 71 4 [.ref 3, .int (0 : Int32), .int (1 : Int32)] [] (im_H g1 u o Y) 1 6 _
    obtain ⟨v2, g2, hc, h⟩ := iv_bd h
    cases v2 with
    | inl z =>
      have h := iv_sl h
      cases h
      exact iv_calu (mi' := 71) (pc' := 5) (ls' := [.ref 3, .int (0 : Int32), .int (1 : Int32)]) (rest := []) (A' := im_H g1 u o Y) (c' := 1) (s' := 6) (as := [.int (1 : Int32)]) (B := im_H g2 u o Y) 2 43 (z.val + 7) (fun n => rfl) rfl (im_zx z) rfl rfl (x43_ok (g := g1) (a := (1 : Int32)) hc)
    | inr v2 =>
      have h := iv_sr h
      refine iv_cal (mi' := 71) (pc' := 5) (ls' := [.ref 3, .int (0 : Int32), .int (1 : Int32)]) (rest := []) (A' := im_H g1 u o Y) (c' := 1) (s' := 6) (as := [.int (1 : Int32)]) (v := none) (A'' := im_H g2 u o Y) 2 43 (fun n => rfl) rfl (x43_ok (g := g1) (a := (1 : Int32)) hc) ?_
      show iv_ev (iv_Xs L xs) 71 8 [.ref 3, .int (0 : Int32), .int (1 : Int32)] [] (im_H g2 u o Y) 2 12 _
      cases h
      exact iv_ret 10 (fun n => rfl)
def x71_r0_0_2 (g : im_M) : Option (im_T × im_M) :=
  Option.bind (x64 g (0 : Int32)) (fun q1 =>
    Sum.elim (fun z => some (.inl z, q1.2)) (fun _ =>
    Option.bind (x43 q1.2 (2 : Int32)) (fun q2 =>
      Sum.elim (fun z => some (.inl z, q2.2)) (fun _ =>
      some (.inr ((q2.2 30 2) &&& (7 : Int32)), q2.2)) q2.1)) q1.1)
set_option maxRecDepth 100000 in
set_option maxHeartbeats 4000000 in
theorem x71_r0_0_2_ok {L : Nat} {xs : Nat → Int32} {g u mm : im_M} {o : Nat → Int64} {Y : iv_A} {ret : im_T} (h : x71_r0_0_2 g  = some (ret, mm)) : iv_ev (iv_Xs L xs) 71 0 [.ref 3, .int (0 : Int32), .int (2 : Int32)] [] (im_H g u o Y) 0 0 (im_res ret (im_H mm u o Y)) := by
  unfold x71_r0_0_2 at h
  obtain ⟨v1, g1, hc, h⟩ := iv_bd h
  cases v1 with
  | inl z =>
    have h := iv_sl h
    cases h
    exact iv_calu (mi' := 71) (pc' := 1) (ls' := [.ref 3, .int (0 : Int32), .int (2 : Int32)]) (rest := []) (A' := im_H g u o Y) (c' := 0) (s' := 0) (as := [.int (0 : Int32)]) (B := im_H g1 u o Y) 2 64 (z.val + 7) (fun n => rfl) rfl (im_zx z) rfl rfl (x64_ok (g := g) (a := (0 : Int32)) hc)
  | inr v1 =>
    have h := iv_sr h
    refine iv_cal (mi' := 71) (pc' := 1) (ls' := [.ref 3, .int (0 : Int32), .int (2 : Int32)]) (rest := []) (A' := im_H g u o Y) (c' := 0) (s' := 0) (as := [.int (0 : Int32)]) (v := none) (A'' := im_H g1 u o Y) 2 64 (fun n => rfl) rfl (x64_ok (g := g) (a := (0 : Int32)) hc) ?_
    show iv_ev (iv_Xs L xs) 71 4 [.ref 3, .int (0 : Int32), .int (2 : Int32)] [] (im_H g1 u o Y) 1 6 _
    obtain ⟨v2, g2, hc, h⟩ := iv_bd h
    cases v2 with
    | inl z =>
      have h := iv_sl h
      cases h
      exact iv_calu (mi' := 71) (pc' := 5) (ls' := [.ref 3, .int (0 : Int32), .int (2 : Int32)]) (rest := []) (A' := im_H g1 u o Y) (c' := 1) (s' := 6) (as := [.int (2 : Int32)]) (B := im_H g2 u o Y) 2 43 (z.val + 7) (fun n => rfl) rfl (im_zx z) rfl rfl (x43_ok (g := g1) (a := (2 : Int32)) hc)
    | inr v2 =>
      have h := iv_sr h
      refine iv_cal (mi' := 71) (pc' := 5) (ls' := [.ref 3, .int (0 : Int32), .int (2 : Int32)]) (rest := []) (A' := im_H g1 u o Y) (c' := 1) (s' := 6) (as := [.int (2 : Int32)]) (v := none) (A'' := im_H g2 u o Y) 2 43 (fun n => rfl) rfl (x43_ok (g := g1) (a := (2 : Int32)) hc) ?_
      show iv_ev (iv_Xs L xs) 71 8 [.ref 3, .int (0 : Int32), .int (2 : Int32)] [] (im_H g2 u o Y) 2 12 _
      cases h
      exact iv_ret 10 (fun n => rfl)
def x63_r0_1_1 (g : im_M) (y0 : Int32) : Option (im_T × im_M) :=
  Option.bind (x55 g y0) (fun q2 =>
    Sum.elim (fun z => some (.inl z, q2.2)) (fun _ =>
    Option.bind (x15_r1 q2.2 (13 : Int32) (1 : Int32) (q2.2 31 3)) (fun q3 =>
      some (.inr 0, (im_w q3.2 31 3 (0 : Int32))))) q2.1)
set_option maxRecDepth 100000 in
set_option maxHeartbeats 4000000 in
theorem x63_r0_1_1_ok {L : Nat} {xs : Nat → Int32} {g u mm : im_M} {o : Nat → Int64} {Y : iv_A} {y0 : Int32} {ret : im_T} (h : x63_r0_1_1 g y0 = some (ret, mm)) : iv_ev (iv_Xs L xs) 63 30 [.ref 3, .int (1 : Int32), .ref 34] [.int y0] (im_H g u o Y) 1 6 (im_rev ret (im_H mm u o Y)) := by
  unfold x63_r0_1_1 at h
  obtain ⟨v2, g2, hc, h⟩ := iv_bd h
  cases v2 with
  | inl z =>
    have h := iv_sl h
    cases h
    exact iv_calu (mi' := 63) (pc' := 30) (ls' := [.ref 3, .int (1 : Int32), .ref 34]) (rest := []) (A' := im_H g u o Y) (c' := 1) (s' := 6) (as := [.int y0]) (B := im_H g2 u o Y) 1 55 (z.val + 7) (fun n => rfl) rfl (im_zx z) rfl rfl (x55_ok (g := g) (a := y0) hc)
  | inr v2 =>
    have h := iv_sr h
    refine iv_cal (mi' := 63) (pc' := 30) (ls' := [.ref 3, .int (1 : Int32), .ref 34]) (rest := []) (A' := im_H g u o Y) (c' := 1) (s' := 6) (as := [.int y0]) (v := none) (A'' := im_H g2 u o Y) 1 55 (fun n => rfl) rfl (x55_ok (g := g) (a := y0) hc) ?_
    show iv_ev (iv_Xs L xs) 63 33 [.ref 3, .int (1 : Int32), .ref 34] [] (im_H g2 u o Y) 2 12 _
    obtain ⟨v3, g3, hc, h⟩ := iv_bd h
    refine iv_cal (mi' := 63) (pc' := 44) (ls' := [.ref 3, .int (1 : Int32), .ref 34]) (rest := []) (A' := im_H g2 u o Y) (c' := 2) (s' := 12) (as := [.ref 4, .int (13 : Int32), .int (1 : Int32), .int (g2 31 3)]) (v := none) (A'' := im_H g3 u o Y) 7 15 (fun n => rfl) rfl (x15_r1_ok (g := g2) (a := (13 : Int32)) (b := (1 : Int32)) (c := (g2 31 3)) hc) ?_
    show iv_ev (iv_Xs L xs) 63 47 [.ref 3, .int (1 : Int32), .ref 34] [] (im_H g3 u o Y) 2 12 _
    refine iv_blk (mi' := 63) (pc' := 52) (ls' := [.ref 3, .int (1 : Int32), .ref 34]) (st' := []) (A' := List.set (im_H g3 u o Y) 31 (.inr (3, List.set [.int 1, .ref 35, .int (g3 31 2), .int (g3 31 3)] 3 (.int (0 : Int32))))) (c' := 2) (s' := 12) 3 (fun n => rfl) ?_
    rw [im_f31_3]
    cases h
    exact iv_ret 1 (fun n => rfl)
def x63_r0_1 (g : im_M) : Option (im_T × im_M) :=
  Option.bind (x64 g (1 : Int32)) (fun q1 =>
    Sum.elim (fun z => some (.inl z, q1.2)) (fun _ =>
    bif Op.ifCond.holds .eq (q1.2 31 3) then
      (x63_r0_1_1 q1.2 (0 : Int32))
    else
      (bif Op.ifCond.holds .ne (q1.2 31 2) then
        (x63_r0_1_1 q1.2 (0 : Int32))
      else
        (x63_r0_1_1 q1.2 (1 : Int32)))) q1.1)
set_option maxRecDepth 100000 in
set_option maxHeartbeats 4000000 in
theorem x63_r0_1_ok {L : Nat} {xs : Nat → Int32} {g u mm : im_M} {o : Nat → Int64} {Y : iv_A} {ret : im_T} (h : x63_r0_1 g  = some (ret, mm)) : iv_ev (iv_Xs L xs) 63 0 [.ref 3, .int (1 : Int32), .retAddr 0] [] (im_H g u o Y) 0 0 (im_rev ret (im_H mm u o Y)) := by
  unfold x63_r0_1 at h
  obtain ⟨v1, g1, hc, h⟩ := iv_bd h
  cases v1 with
  | inl z =>
    have h := iv_sl h
    cases h
    exact iv_calu (mi' := 63) (pc' := 1) (ls' := [.ref 3, .int (1 : Int32), .retAddr 0]) (rest := []) (A' := im_H g u o Y) (c' := 0) (s' := 0) (as := [.int (1 : Int32)]) (B := im_H g1 u o Y) 2 64 (z.val + 7) (fun n => rfl) rfl (im_zx z) rfl rfl (x64_ok (g := g) (a := (1 : Int32)) hc)
  | inr v1 =>
    have h := iv_sr h
    refine iv_cal (mi' := 63) (pc' := 1) (ls' := [.ref 3, .int (1 : Int32), .retAddr 0]) (rest := []) (A' := im_H g u o Y) (c' := 0) (s' := 0) (as := [.int (1 : Int32)]) (v := none) (A'' := im_H g1 u o Y) 2 64 (fun n => rfl) rfl (x64_ok (g := g) (a := (1 : Int32)) hc) ?_
    show iv_ev (iv_Xs L xs) 63 4 [.ref 3, .int (1 : Int32), .retAddr 0] [] (im_H g1 u o Y) 1 6 _
    cases hb1 : Op.ifCond.holds .eq (g1 31 3) with
    | true =>
      have h := iv_bt hb1 h
      refine iv_brt (mi' := 63) (pc' := 29) (ls' := [.ref 3, .int (1 : Int32), .ref 34]) (st' := []) (A' := im_H g1 u o Y) (c' := 1) (s' := 6) (mi'' := 63) (pc'' := 18) (ls'' := [.ref 3, .int (1 : Int32), .ref 34]) (st'' := []) (A'' := im_H g1 u o Y) (c'' := 1) (s'' := 6) 8 0 0 hb1 (fun n => rfl) ?_
      refine iv_blk (mi' := 63) (pc' := 30) (ls' := [.ref 3, .int (1 : Int32), .ref 34]) (st' := [.int (0 : Int32)]) (A' := im_H g1 u o Y) (c' := 1) (s' := 6) 1 (fun n => rfl) ?_
      exact x63_r0_1_1_ok (g := g1) (y0 := (0 : Int32)) h
    | false =>
      have h := iv_bf hb1 h
      refine iv_brf (mi' := 63) (pc' := 29) (ls' := [.ref 3, .int (1 : Int32), .ref 34]) (st' := []) (A' := im_H g1 u o Y) (c' := 1) (s' := 6) (mi'' := 63) (pc'' := 18) (ls'' := [.ref 3, .int (1 : Int32), .ref 34]) (st'' := []) (A'' := im_H g1 u o Y) (c'' := 1) (s'' := 6) 8 0 0 hb1 (fun n => rfl) ?_
      cases hb2 : Op.ifCond.holds .ne (g1 31 2) with
      | true =>
        have h := iv_bt hb2 h
        refine iv_brt (mi' := 63) (pc' := 29) (ls' := [.ref 3, .int (1 : Int32), .ref 34]) (st' := []) (A' := im_H g1 u o Y) (c' := 1) (s' := 6) (mi'' := 63) (pc'' := 25) (ls'' := [.ref 3, .int (1 : Int32), .ref 34]) (st'' := []) (A'' := im_H g1 u o Y) (c'' := 1) (s'' := 6) 3 0 0 hb2 (fun n => rfl) ?_
        refine iv_blk (mi' := 63) (pc' := 30) (ls' := [.ref 3, .int (1 : Int32), .ref 34]) (st' := [.int (0 : Int32)]) (A' := im_H g1 u o Y) (c' := 1) (s' := 6) 1 (fun n => rfl) ?_
        exact x63_r0_1_1_ok (g := g1) (y0 := (0 : Int32)) h
      | false =>
        have h := iv_bf hb2 h
        refine iv_brf (mi' := 63) (pc' := 29) (ls' := [.ref 3, .int (1 : Int32), .ref 34]) (st' := []) (A' := im_H g1 u o Y) (c' := 1) (s' := 6) (mi'' := 63) (pc'' := 25) (ls'' := [.ref 3, .int (1 : Int32), .ref 34]) (st'' := []) (A'' := im_H g1 u o Y) (c'' := 1) (s'' := 6) 3 0 0 hb2 (fun n => rfl) ?_
        refine iv_blk (mi' := 63) (pc' := 30) (ls' := [.ref 3, .int (1 : Int32), .ref 34]) (st' := [.int (1 : Int32)]) (A' := im_H g1 u o Y) (c' := 1) (s' := 6) 2 (fun n => rfl) ?_
        exact x63_r0_1_1_ok (g := g1) (y0 := (1 : Int32)) h
def x73_r0_1 (g : im_M) : Option (im_T × im_M) :=
  Option.bind (x64 g (1 : Int32)) (fun q1 =>
    Sum.elim (fun z => some (.inl z, q1.2)) (fun _ =>
    some (.inr (q1.2 31 2), q1.2)) q1.1)
set_option maxRecDepth 100000 in
set_option maxHeartbeats 4000000 in
theorem x73_r0_1_ok {L : Nat} {xs : Nat → Int32} {g u mm : im_M} {o : Nat → Int64} {Y : iv_A} {ret : im_T} (h : x73_r0_1 g  = some (ret, mm)) : iv_ev (iv_Xs L xs) 73 0 [.ref 3, .int (1 : Int32)] [] (im_H g u o Y) 0 0 (im_res ret (im_H mm u o Y)) := by
  unfold x73_r0_1 at h
  obtain ⟨v1, g1, hc, h⟩ := iv_bd h
  cases v1 with
  | inl z =>
    have h := iv_sl h
    cases h
    exact iv_calu (mi' := 73) (pc' := 1) (ls' := [.ref 3, .int (1 : Int32)]) (rest := []) (A' := im_H g u o Y) (c' := 0) (s' := 0) (as := [.int (1 : Int32)]) (B := im_H g1 u o Y) 2 64 (z.val + 7) (fun n => rfl) rfl (im_zx z) rfl rfl (x64_ok (g := g) (a := (1 : Int32)) hc)
  | inr v1 =>
    have h := iv_sr h
    refine iv_cal (mi' := 73) (pc' := 1) (ls' := [.ref 3, .int (1 : Int32)]) (rest := []) (A' := im_H g u o Y) (c' := 0) (s' := 0) (as := [.int (1 : Int32)]) (v := none) (A'' := im_H g1 u o Y) 2 64 (fun n => rfl) rfl (x64_ok (g := g) (a := (1 : Int32)) hc) ?_
    show iv_ev (iv_Xs L xs) 73 4 [.ref 3, .int (1 : Int32)] [] (im_H g1 u o Y) 1 6 _
    cases h
    exact iv_ret 6 (fun n => rfl)
def x75_r0_1 (g : im_M) : Option (im_T × im_M) :=
  Option.bind (x64 g (1 : Int32)) (fun q1 =>
    Sum.elim (fun z => some (.inl z, q1.2)) (fun _ =>
    some (.inr (q1.2 31 3), q1.2)) q1.1)
set_option maxRecDepth 100000 in
set_option maxHeartbeats 4000000 in
theorem x75_r0_1_ok {L : Nat} {xs : Nat → Int32} {g u mm : im_M} {o : Nat → Int64} {Y : iv_A} {ret : im_T} (h : x75_r0_1 g  = some (ret, mm)) : iv_ev (iv_Xs L xs) 75 0 [.ref 3, .int (1 : Int32)] [] (im_H g u o Y) 0 0 (im_res ret (im_H mm u o Y)) := by
  unfold x75_r0_1 at h
  obtain ⟨v1, g1, hc, h⟩ := iv_bd h
  cases v1 with
  | inl z =>
    have h := iv_sl h
    cases h
    exact iv_calu (mi' := 75) (pc' := 1) (ls' := [.ref 3, .int (1 : Int32)]) (rest := []) (A' := im_H g u o Y) (c' := 0) (s' := 0) (as := [.int (1 : Int32)]) (B := im_H g1 u o Y) 2 64 (z.val + 7) (fun n => rfl) rfl (im_zx z) rfl rfl (x64_ok (g := g) (a := (1 : Int32)) hc)
  | inr v1 =>
    have h := iv_sr h
    refine iv_cal (mi' := 75) (pc' := 1) (ls' := [.ref 3, .int (1 : Int32)]) (rest := []) (A' := im_H g u o Y) (c' := 0) (s' := 0) (as := [.int (1 : Int32)]) (v := none) (A'' := im_H g1 u o Y) 2 64 (fun n => rfl) rfl (x64_ok (g := g) (a := (1 : Int32)) hc) ?_
    show iv_ev (iv_Xs L xs) 75 4 [.ref 3, .int (1 : Int32)] [] (im_H g1 u o Y) 1 6 _
    cases h
    exact iv_ret 6 (fun n => rfl)
def x71_r0_1_0 (g : im_M) : Option (im_T × im_M) :=
  Option.bind (x64 g (1 : Int32)) (fun q1 =>
    Sum.elim (fun z => some (.inl z, q1.2)) (fun _ =>
    Option.bind (x43 q1.2 (0 : Int32)) (fun q2 =>
      Sum.elim (fun z => some (.inl z, q2.2)) (fun _ =>
      some (.inr ((q2.2 32 0) &&& (7 : Int32)), q2.2)) q2.1)) q1.1)
set_option maxRecDepth 100000 in
set_option maxHeartbeats 4000000 in
theorem x71_r0_1_0_ok {L : Nat} {xs : Nat → Int32} {g u mm : im_M} {o : Nat → Int64} {Y : iv_A} {ret : im_T} (h : x71_r0_1_0 g  = some (ret, mm)) : iv_ev (iv_Xs L xs) 71 0 [.ref 3, .int (1 : Int32), .int (0 : Int32)] [] (im_H g u o Y) 0 0 (im_res ret (im_H mm u o Y)) := by
  unfold x71_r0_1_0 at h
  obtain ⟨v1, g1, hc, h⟩ := iv_bd h
  cases v1 with
  | inl z =>
    have h := iv_sl h
    cases h
    exact iv_calu (mi' := 71) (pc' := 1) (ls' := [.ref 3, .int (1 : Int32), .int (0 : Int32)]) (rest := []) (A' := im_H g u o Y) (c' := 0) (s' := 0) (as := [.int (1 : Int32)]) (B := im_H g1 u o Y) 2 64 (z.val + 7) (fun n => rfl) rfl (im_zx z) rfl rfl (x64_ok (g := g) (a := (1 : Int32)) hc)
  | inr v1 =>
    have h := iv_sr h
    refine iv_cal (mi' := 71) (pc' := 1) (ls' := [.ref 3, .int (1 : Int32), .int (0 : Int32)]) (rest := []) (A' := im_H g u o Y) (c' := 0) (s' := 0) (as := [.int (1 : Int32)]) (v := none) (A'' := im_H g1 u o Y) 2 64 (fun n => rfl) rfl (x64_ok (g := g) (a := (1 : Int32)) hc) ?_
    show iv_ev (iv_Xs L xs) 71 4 [.ref 3, .int (1 : Int32), .int (0 : Int32)] [] (im_H g1 u o Y) 1 6 _
    obtain ⟨v2, g2, hc, h⟩ := iv_bd h
    cases v2 with
    | inl z =>
      have h := iv_sl h
      cases h
      exact iv_calu (mi' := 71) (pc' := 5) (ls' := [.ref 3, .int (1 : Int32), .int (0 : Int32)]) (rest := []) (A' := im_H g1 u o Y) (c' := 1) (s' := 6) (as := [.int (0 : Int32)]) (B := im_H g2 u o Y) 2 43 (z.val + 7) (fun n => rfl) rfl (im_zx z) rfl rfl (x43_ok (g := g1) (a := (0 : Int32)) hc)
    | inr v2 =>
      have h := iv_sr h
      refine iv_cal (mi' := 71) (pc' := 5) (ls' := [.ref 3, .int (1 : Int32), .int (0 : Int32)]) (rest := []) (A' := im_H g1 u o Y) (c' := 1) (s' := 6) (as := [.int (0 : Int32)]) (v := none) (A'' := im_H g2 u o Y) 2 43 (fun n => rfl) rfl (x43_ok (g := g1) (a := (0 : Int32)) hc) ?_
      show iv_ev (iv_Xs L xs) 71 8 [.ref 3, .int (1 : Int32), .int (0 : Int32)] [] (im_H g2 u o Y) 2 12 _
      cases h
      exact iv_ret 10 (fun n => rfl)
def x71_r0_1_1 (g : im_M) : Option (im_T × im_M) :=
  Option.bind (x64 g (1 : Int32)) (fun q1 =>
    Sum.elim (fun z => some (.inl z, q1.2)) (fun _ =>
    Option.bind (x43 q1.2 (1 : Int32)) (fun q2 =>
      Sum.elim (fun z => some (.inl z, q2.2)) (fun _ =>
      some (.inr ((q2.2 32 1) &&& (7 : Int32)), q2.2)) q2.1)) q1.1)
set_option maxRecDepth 100000 in
set_option maxHeartbeats 4000000 in
theorem x71_r0_1_1_ok {L : Nat} {xs : Nat → Int32} {g u mm : im_M} {o : Nat → Int64} {Y : iv_A} {ret : im_T} (h : x71_r0_1_1 g  = some (ret, mm)) : iv_ev (iv_Xs L xs) 71 0 [.ref 3, .int (1 : Int32), .int (1 : Int32)] [] (im_H g u o Y) 0 0 (im_res ret (im_H mm u o Y)) := by
  unfold x71_r0_1_1 at h
  obtain ⟨v1, g1, hc, h⟩ := iv_bd h
  cases v1 with
  | inl z =>
    have h := iv_sl h
    cases h
    exact iv_calu (mi' := 71) (pc' := 1) (ls' := [.ref 3, .int (1 : Int32), .int (1 : Int32)]) (rest := []) (A' := im_H g u o Y) (c' := 0) (s' := 0) (as := [.int (1 : Int32)]) (B := im_H g1 u o Y) 2 64 (z.val + 7) (fun n => rfl) rfl (im_zx z) rfl rfl (x64_ok (g := g) (a := (1 : Int32)) hc)
  | inr v1 =>
    have h := iv_sr h
    refine iv_cal (mi' := 71) (pc' := 1) (ls' := [.ref 3, .int (1 : Int32), .int (1 : Int32)]) (rest := []) (A' := im_H g u o Y) (c' := 0) (s' := 0) (as := [.int (1 : Int32)]) (v := none) (A'' := im_H g1 u o Y) 2 64 (fun n => rfl) rfl (x64_ok (g := g) (a := (1 : Int32)) hc) ?_
    show iv_ev (iv_Xs L xs) 71 4 [.ref 3, .int (1 : Int32), .int (1 : Int32)] [] (im_H g1 u o Y) 1 6 _
    obtain ⟨v2, g2, hc, h⟩ := iv_bd h
    cases v2 with
    | inl z =>
      have h := iv_sl h
      cases h
      exact iv_calu (mi' := 71) (pc' := 5) (ls' := [.ref 3, .int (1 : Int32), .int (1 : Int32)]) (rest := []) (A' := im_H g1 u o Y) (c' := 1) (s' := 6) (as := [.int (1 : Int32)]) (B := im_H g2 u o Y) 2 43 (z.val + 7) (fun n => rfl) rfl (im_zx z) rfl rfl (x43_ok (g := g1) (a := (1 : Int32)) hc)
    | inr v2 =>
      have h := iv_sr h
      refine iv_cal (mi' := 71) (pc' := 5) (ls' := [.ref 3, .int (1 : Int32), .int (1 : Int32)]) (rest := []) (A' := im_H g1 u o Y) (c' := 1) (s' := 6) (as := [.int (1 : Int32)]) (v := none) (A'' := im_H g2 u o Y) 2 43 (fun n => rfl) rfl (x43_ok (g := g1) (a := (1 : Int32)) hc) ?_
      show iv_ev (iv_Xs L xs) 71 8 [.ref 3, .int (1 : Int32), .int (1 : Int32)] [] (im_H g2 u o Y) 2 12 _
      cases h
      exact iv_ret 10 (fun n => rfl)
def x71_r0_1_2 (g : im_M) : Option (im_T × im_M) :=
  Option.bind (x64 g (1 : Int32)) (fun q1 =>
    Sum.elim (fun z => some (.inl z, q1.2)) (fun _ =>
    Option.bind (x43 q1.2 (2 : Int32)) (fun q2 =>
      Sum.elim (fun z => some (.inl z, q2.2)) (fun _ =>
      some (.inr ((q2.2 32 2) &&& (7 : Int32)), q2.2)) q2.1)) q1.1)
set_option maxRecDepth 100000 in
set_option maxHeartbeats 4000000 in
theorem x71_r0_1_2_ok {L : Nat} {xs : Nat → Int32} {g u mm : im_M} {o : Nat → Int64} {Y : iv_A} {ret : im_T} (h : x71_r0_1_2 g  = some (ret, mm)) : iv_ev (iv_Xs L xs) 71 0 [.ref 3, .int (1 : Int32), .int (2 : Int32)] [] (im_H g u o Y) 0 0 (im_res ret (im_H mm u o Y)) := by
  unfold x71_r0_1_2 at h
  obtain ⟨v1, g1, hc, h⟩ := iv_bd h
  cases v1 with
  | inl z =>
    have h := iv_sl h
    cases h
    exact iv_calu (mi' := 71) (pc' := 1) (ls' := [.ref 3, .int (1 : Int32), .int (2 : Int32)]) (rest := []) (A' := im_H g u o Y) (c' := 0) (s' := 0) (as := [.int (1 : Int32)]) (B := im_H g1 u o Y) 2 64 (z.val + 7) (fun n => rfl) rfl (im_zx z) rfl rfl (x64_ok (g := g) (a := (1 : Int32)) hc)
  | inr v1 =>
    have h := iv_sr h
    refine iv_cal (mi' := 71) (pc' := 1) (ls' := [.ref 3, .int (1 : Int32), .int (2 : Int32)]) (rest := []) (A' := im_H g u o Y) (c' := 0) (s' := 0) (as := [.int (1 : Int32)]) (v := none) (A'' := im_H g1 u o Y) 2 64 (fun n => rfl) rfl (x64_ok (g := g) (a := (1 : Int32)) hc) ?_
    show iv_ev (iv_Xs L xs) 71 4 [.ref 3, .int (1 : Int32), .int (2 : Int32)] [] (im_H g1 u o Y) 1 6 _
    obtain ⟨v2, g2, hc, h⟩ := iv_bd h
    cases v2 with
    | inl z =>
      have h := iv_sl h
      cases h
      exact iv_calu (mi' := 71) (pc' := 5) (ls' := [.ref 3, .int (1 : Int32), .int (2 : Int32)]) (rest := []) (A' := im_H g1 u o Y) (c' := 1) (s' := 6) (as := [.int (2 : Int32)]) (B := im_H g2 u o Y) 2 43 (z.val + 7) (fun n => rfl) rfl (im_zx z) rfl rfl (x43_ok (g := g1) (a := (2 : Int32)) hc)
    | inr v2 =>
      have h := iv_sr h
      refine iv_cal (mi' := 71) (pc' := 5) (ls' := [.ref 3, .int (1 : Int32), .int (2 : Int32)]) (rest := []) (A' := im_H g1 u o Y) (c' := 1) (s' := 6) (as := [.int (2 : Int32)]) (v := none) (A'' := im_H g2 u o Y) 2 43 (fun n => rfl) rfl (x43_ok (g := g1) (a := (2 : Int32)) hc) ?_
      show iv_ev (iv_Xs L xs) 71 8 [.ref 3, .int (1 : Int32), .int (2 : Int32)] [] (im_H g2 u o Y) 2 12 _
      cases h
      exact iv_ret 10 (fun n => rfl)
def x63_r0_2_1 (g : im_M) (y0 : Int32) : Option (im_T × im_M) :=
  Option.bind (x55 g y0) (fun q2 =>
    Sum.elim (fun z => some (.inl z, q2.2)) (fun _ =>
    Option.bind (x15_r1 q2.2 (13 : Int32) (2 : Int32) (q2.2 33 3)) (fun q3 =>
      some (.inr 0, (im_w q3.2 33 3 (0 : Int32))))) q2.1)
set_option maxRecDepth 100000 in
set_option maxHeartbeats 4000000 in
theorem x63_r0_2_1_ok {L : Nat} {xs : Nat → Int32} {g u mm : im_M} {o : Nat → Int64} {Y : iv_A} {y0 : Int32} {ret : im_T} (h : x63_r0_2_1 g y0 = some (ret, mm)) : iv_ev (iv_Xs L xs) 63 30 [.ref 3, .int (2 : Int32), .ref 36] [.int y0] (im_H g u o Y) 1 6 (im_rev ret (im_H mm u o Y)) := by
  unfold x63_r0_2_1 at h
  obtain ⟨v2, g2, hc, h⟩ := iv_bd h
  cases v2 with
  | inl z =>
    have h := iv_sl h
    cases h
    exact iv_calu (mi' := 63) (pc' := 30) (ls' := [.ref 3, .int (2 : Int32), .ref 36]) (rest := []) (A' := im_H g u o Y) (c' := 1) (s' := 6) (as := [.int y0]) (B := im_H g2 u o Y) 1 55 (z.val + 7) (fun n => rfl) rfl (im_zx z) rfl rfl (x55_ok (g := g) (a := y0) hc)
  | inr v2 =>
    have h := iv_sr h
    refine iv_cal (mi' := 63) (pc' := 30) (ls' := [.ref 3, .int (2 : Int32), .ref 36]) (rest := []) (A' := im_H g u o Y) (c' := 1) (s' := 6) (as := [.int y0]) (v := none) (A'' := im_H g2 u o Y) 1 55 (fun n => rfl) rfl (x55_ok (g := g) (a := y0) hc) ?_
    show iv_ev (iv_Xs L xs) 63 33 [.ref 3, .int (2 : Int32), .ref 36] [] (im_H g2 u o Y) 2 12 _
    obtain ⟨v3, g3, hc, h⟩ := iv_bd h
    refine iv_cal (mi' := 63) (pc' := 44) (ls' := [.ref 3, .int (2 : Int32), .ref 36]) (rest := []) (A' := im_H g2 u o Y) (c' := 2) (s' := 12) (as := [.ref 4, .int (13 : Int32), .int (2 : Int32), .int (g2 33 3)]) (v := none) (A'' := im_H g3 u o Y) 7 15 (fun n => rfl) rfl (x15_r1_ok (g := g2) (a := (13 : Int32)) (b := (2 : Int32)) (c := (g2 33 3)) hc) ?_
    show iv_ev (iv_Xs L xs) 63 47 [.ref 3, .int (2 : Int32), .ref 36] [] (im_H g3 u o Y) 2 12 _
    refine iv_blk (mi' := 63) (pc' := 52) (ls' := [.ref 3, .int (2 : Int32), .ref 36]) (st' := []) (A' := List.set (im_H g3 u o Y) 33 (.inr (3, List.set [.int 2, .ref 37, .int (g3 33 2), .int (g3 33 3)] 3 (.int (0 : Int32))))) (c' := 2) (s' := 12) 3 (fun n => rfl) ?_
    rw [im_f33_3]
    cases h
    exact iv_ret 1 (fun n => rfl)
def x63_r0_2 (g : im_M) : Option (im_T × im_M) :=
  Option.bind (x64 g (2 : Int32)) (fun q1 =>
    Sum.elim (fun z => some (.inl z, q1.2)) (fun _ =>
    bif Op.ifCond.holds .eq (q1.2 33 3) then
      (x63_r0_2_1 q1.2 (0 : Int32))
    else
      (bif Op.ifCond.holds .ne (q1.2 33 2) then
        (x63_r0_2_1 q1.2 (0 : Int32))
      else
        (x63_r0_2_1 q1.2 (1 : Int32)))) q1.1)
set_option maxRecDepth 100000 in
set_option maxHeartbeats 4000000 in
theorem x63_r0_2_ok {L : Nat} {xs : Nat → Int32} {g u mm : im_M} {o : Nat → Int64} {Y : iv_A} {ret : im_T} (h : x63_r0_2 g  = some (ret, mm)) : iv_ev (iv_Xs L xs) 63 0 [.ref 3, .int (2 : Int32), .retAddr 0] [] (im_H g u o Y) 0 0 (im_rev ret (im_H mm u o Y)) := by
  unfold x63_r0_2 at h
  obtain ⟨v1, g1, hc, h⟩ := iv_bd h
  cases v1 with
  | inl z =>
    have h := iv_sl h
    cases h
    exact iv_calu (mi' := 63) (pc' := 1) (ls' := [.ref 3, .int (2 : Int32), .retAddr 0]) (rest := []) (A' := im_H g u o Y) (c' := 0) (s' := 0) (as := [.int (2 : Int32)]) (B := im_H g1 u o Y) 2 64 (z.val + 7) (fun n => rfl) rfl (im_zx z) rfl rfl (x64_ok (g := g) (a := (2 : Int32)) hc)
  | inr v1 =>
    have h := iv_sr h
    refine iv_cal (mi' := 63) (pc' := 1) (ls' := [.ref 3, .int (2 : Int32), .retAddr 0]) (rest := []) (A' := im_H g u o Y) (c' := 0) (s' := 0) (as := [.int (2 : Int32)]) (v := none) (A'' := im_H g1 u o Y) 2 64 (fun n => rfl) rfl (x64_ok (g := g) (a := (2 : Int32)) hc) ?_
    show iv_ev (iv_Xs L xs) 63 4 [.ref 3, .int (2 : Int32), .retAddr 0] [] (im_H g1 u o Y) 1 6 _
    cases hb1 : Op.ifCond.holds .eq (g1 33 3) with
    | true =>
      have h := iv_bt hb1 h
      refine iv_brt (mi' := 63) (pc' := 29) (ls' := [.ref 3, .int (2 : Int32), .ref 36]) (st' := []) (A' := im_H g1 u o Y) (c' := 1) (s' := 6) (mi'' := 63) (pc'' := 18) (ls'' := [.ref 3, .int (2 : Int32), .ref 36]) (st'' := []) (A'' := im_H g1 u o Y) (c'' := 1) (s'' := 6) 8 0 0 hb1 (fun n => rfl) ?_
      refine iv_blk (mi' := 63) (pc' := 30) (ls' := [.ref 3, .int (2 : Int32), .ref 36]) (st' := [.int (0 : Int32)]) (A' := im_H g1 u o Y) (c' := 1) (s' := 6) 1 (fun n => rfl) ?_
      exact x63_r0_2_1_ok (g := g1) (y0 := (0 : Int32)) h
    | false =>
      have h := iv_bf hb1 h
      refine iv_brf (mi' := 63) (pc' := 29) (ls' := [.ref 3, .int (2 : Int32), .ref 36]) (st' := []) (A' := im_H g1 u o Y) (c' := 1) (s' := 6) (mi'' := 63) (pc'' := 18) (ls'' := [.ref 3, .int (2 : Int32), .ref 36]) (st'' := []) (A'' := im_H g1 u o Y) (c'' := 1) (s'' := 6) 8 0 0 hb1 (fun n => rfl) ?_
      cases hb2 : Op.ifCond.holds .ne (g1 33 2) with
      | true =>
        have h := iv_bt hb2 h
        refine iv_brt (mi' := 63) (pc' := 29) (ls' := [.ref 3, .int (2 : Int32), .ref 36]) (st' := []) (A' := im_H g1 u o Y) (c' := 1) (s' := 6) (mi'' := 63) (pc'' := 25) (ls'' := [.ref 3, .int (2 : Int32), .ref 36]) (st'' := []) (A'' := im_H g1 u o Y) (c'' := 1) (s'' := 6) 3 0 0 hb2 (fun n => rfl) ?_
        refine iv_blk (mi' := 63) (pc' := 30) (ls' := [.ref 3, .int (2 : Int32), .ref 36]) (st' := [.int (0 : Int32)]) (A' := im_H g1 u o Y) (c' := 1) (s' := 6) 1 (fun n => rfl) ?_
        exact x63_r0_2_1_ok (g := g1) (y0 := (0 : Int32)) h
      | false =>
        have h := iv_bf hb2 h
        refine iv_brf (mi' := 63) (pc' := 29) (ls' := [.ref 3, .int (2 : Int32), .ref 36]) (st' := []) (A' := im_H g1 u o Y) (c' := 1) (s' := 6) (mi'' := 63) (pc'' := 25) (ls'' := [.ref 3, .int (2 : Int32), .ref 36]) (st'' := []) (A'' := im_H g1 u o Y) (c'' := 1) (s'' := 6) 3 0 0 hb2 (fun n => rfl) ?_
        refine iv_blk (mi' := 63) (pc' := 30) (ls' := [.ref 3, .int (2 : Int32), .ref 36]) (st' := [.int (1 : Int32)]) (A' := im_H g1 u o Y) (c' := 1) (s' := 6) 2 (fun n => rfl) ?_
        exact x63_r0_2_1_ok (g := g1) (y0 := (1 : Int32)) h
def x73_r0_2 (g : im_M) : Option (im_T × im_M) :=
  Option.bind (x64 g (2 : Int32)) (fun q1 =>
    Sum.elim (fun z => some (.inl z, q1.2)) (fun _ =>
    some (.inr (q1.2 33 2), q1.2)) q1.1)
set_option maxRecDepth 100000 in
set_option maxHeartbeats 4000000 in
theorem x73_r0_2_ok {L : Nat} {xs : Nat → Int32} {g u mm : im_M} {o : Nat → Int64} {Y : iv_A} {ret : im_T} (h : x73_r0_2 g  = some (ret, mm)) : iv_ev (iv_Xs L xs) 73 0 [.ref 3, .int (2 : Int32)] [] (im_H g u o Y) 0 0 (im_res ret (im_H mm u o Y)) := by
  unfold x73_r0_2 at h
  obtain ⟨v1, g1, hc, h⟩ := iv_bd h
  cases v1 with
  | inl z =>
    have h := iv_sl h
    cases h
    exact iv_calu (mi' := 73) (pc' := 1) (ls' := [.ref 3, .int (2 : Int32)]) (rest := []) (A' := im_H g u o Y) (c' := 0) (s' := 0) (as := [.int (2 : Int32)]) (B := im_H g1 u o Y) 2 64 (z.val + 7) (fun n => rfl) rfl (im_zx z) rfl rfl (x64_ok (g := g) (a := (2 : Int32)) hc)
  | inr v1 =>
    have h := iv_sr h
    refine iv_cal (mi' := 73) (pc' := 1) (ls' := [.ref 3, .int (2 : Int32)]) (rest := []) (A' := im_H g u o Y) (c' := 0) (s' := 0) (as := [.int (2 : Int32)]) (v := none) (A'' := im_H g1 u o Y) 2 64 (fun n => rfl) rfl (x64_ok (g := g) (a := (2 : Int32)) hc) ?_
    show iv_ev (iv_Xs L xs) 73 4 [.ref 3, .int (2 : Int32)] [] (im_H g1 u o Y) 1 6 _
    cases h
    exact iv_ret 6 (fun n => rfl)
def x75_r0_2 (g : im_M) : Option (im_T × im_M) :=
  Option.bind (x64 g (2 : Int32)) (fun q1 =>
    Sum.elim (fun z => some (.inl z, q1.2)) (fun _ =>
    some (.inr (q1.2 33 3), q1.2)) q1.1)
set_option maxRecDepth 100000 in
set_option maxHeartbeats 4000000 in
theorem x75_r0_2_ok {L : Nat} {xs : Nat → Int32} {g u mm : im_M} {o : Nat → Int64} {Y : iv_A} {ret : im_T} (h : x75_r0_2 g  = some (ret, mm)) : iv_ev (iv_Xs L xs) 75 0 [.ref 3, .int (2 : Int32)] [] (im_H g u o Y) 0 0 (im_res ret (im_H mm u o Y)) := by
  unfold x75_r0_2 at h
  obtain ⟨v1, g1, hc, h⟩ := iv_bd h
  cases v1 with
  | inl z =>
    have h := iv_sl h
    cases h
    exact iv_calu (mi' := 75) (pc' := 1) (ls' := [.ref 3, .int (2 : Int32)]) (rest := []) (A' := im_H g u o Y) (c' := 0) (s' := 0) (as := [.int (2 : Int32)]) (B := im_H g1 u o Y) 2 64 (z.val + 7) (fun n => rfl) rfl (im_zx z) rfl rfl (x64_ok (g := g) (a := (2 : Int32)) hc)
  | inr v1 =>
    have h := iv_sr h
    refine iv_cal (mi' := 75) (pc' := 1) (ls' := [.ref 3, .int (2 : Int32)]) (rest := []) (A' := im_H g u o Y) (c' := 0) (s' := 0) (as := [.int (2 : Int32)]) (v := none) (A'' := im_H g1 u o Y) 2 64 (fun n => rfl) rfl (x64_ok (g := g) (a := (2 : Int32)) hc) ?_
    show iv_ev (iv_Xs L xs) 75 4 [.ref 3, .int (2 : Int32)] [] (im_H g1 u o Y) 1 6 _
    cases h
    exact iv_ret 6 (fun n => rfl)
def x71_r0_2_0 (g : im_M) : Option (im_T × im_M) :=
  Option.bind (x64 g (2 : Int32)) (fun q1 =>
    Sum.elim (fun z => some (.inl z, q1.2)) (fun _ =>
    Option.bind (x43 q1.2 (0 : Int32)) (fun q2 =>
      Sum.elim (fun z => some (.inl z, q2.2)) (fun _ =>
      some (.inr ((q2.2 34 0) &&& (7 : Int32)), q2.2)) q2.1)) q1.1)
set_option maxRecDepth 100000 in
set_option maxHeartbeats 4000000 in
theorem x71_r0_2_0_ok {L : Nat} {xs : Nat → Int32} {g u mm : im_M} {o : Nat → Int64} {Y : iv_A} {ret : im_T} (h : x71_r0_2_0 g  = some (ret, mm)) : iv_ev (iv_Xs L xs) 71 0 [.ref 3, .int (2 : Int32), .int (0 : Int32)] [] (im_H g u o Y) 0 0 (im_res ret (im_H mm u o Y)) := by
  unfold x71_r0_2_0 at h
  obtain ⟨v1, g1, hc, h⟩ := iv_bd h
  cases v1 with
  | inl z =>
    have h := iv_sl h
    cases h
    exact iv_calu (mi' := 71) (pc' := 1) (ls' := [.ref 3, .int (2 : Int32), .int (0 : Int32)]) (rest := []) (A' := im_H g u o Y) (c' := 0) (s' := 0) (as := [.int (2 : Int32)]) (B := im_H g1 u o Y) 2 64 (z.val + 7) (fun n => rfl) rfl (im_zx z) rfl rfl (x64_ok (g := g) (a := (2 : Int32)) hc)
  | inr v1 =>
    have h := iv_sr h
    refine iv_cal (mi' := 71) (pc' := 1) (ls' := [.ref 3, .int (2 : Int32), .int (0 : Int32)]) (rest := []) (A' := im_H g u o Y) (c' := 0) (s' := 0) (as := [.int (2 : Int32)]) (v := none) (A'' := im_H g1 u o Y) 2 64 (fun n => rfl) rfl (x64_ok (g := g) (a := (2 : Int32)) hc) ?_
    show iv_ev (iv_Xs L xs) 71 4 [.ref 3, .int (2 : Int32), .int (0 : Int32)] [] (im_H g1 u o Y) 1 6 _
    obtain ⟨v2, g2, hc, h⟩ := iv_bd h
    cases v2 with
    | inl z =>
      have h := iv_sl h
      cases h
      exact iv_calu (mi' := 71) (pc' := 5) (ls' := [.ref 3, .int (2 : Int32), .int (0 : Int32)]) (rest := []) (A' := im_H g1 u o Y) (c' := 1) (s' := 6) (as := [.int (0 : Int32)]) (B := im_H g2 u o Y) 2 43 (z.val + 7) (fun n => rfl) rfl (im_zx z) rfl rfl (x43_ok (g := g1) (a := (0 : Int32)) hc)
    | inr v2 =>
      have h := iv_sr h
      refine iv_cal (mi' := 71) (pc' := 5) (ls' := [.ref 3, .int (2 : Int32), .int (0 : Int32)]) (rest := []) (A' := im_H g1 u o Y) (c' := 1) (s' := 6) (as := [.int (0 : Int32)]) (v := none) (A'' := im_H g2 u o Y) 2 43 (fun n => rfl) rfl (x43_ok (g := g1) (a := (0 : Int32)) hc) ?_
      show iv_ev (iv_Xs L xs) 71 8 [.ref 3, .int (2 : Int32), .int (0 : Int32)] [] (im_H g2 u o Y) 2 12 _
      cases h
      exact iv_ret 10 (fun n => rfl)
def x71_r0_2_1 (g : im_M) : Option (im_T × im_M) :=
  Option.bind (x64 g (2 : Int32)) (fun q1 =>
    Sum.elim (fun z => some (.inl z, q1.2)) (fun _ =>
    Option.bind (x43 q1.2 (1 : Int32)) (fun q2 =>
      Sum.elim (fun z => some (.inl z, q2.2)) (fun _ =>
      some (.inr ((q2.2 34 1) &&& (7 : Int32)), q2.2)) q2.1)) q1.1)
set_option maxRecDepth 100000 in
set_option maxHeartbeats 4000000 in
theorem x71_r0_2_1_ok {L : Nat} {xs : Nat → Int32} {g u mm : im_M} {o : Nat → Int64} {Y : iv_A} {ret : im_T} (h : x71_r0_2_1 g  = some (ret, mm)) : iv_ev (iv_Xs L xs) 71 0 [.ref 3, .int (2 : Int32), .int (1 : Int32)] [] (im_H g u o Y) 0 0 (im_res ret (im_H mm u o Y)) := by
  unfold x71_r0_2_1 at h
  obtain ⟨v1, g1, hc, h⟩ := iv_bd h
  cases v1 with
  | inl z =>
    have h := iv_sl h
    cases h
    exact iv_calu (mi' := 71) (pc' := 1) (ls' := [.ref 3, .int (2 : Int32), .int (1 : Int32)]) (rest := []) (A' := im_H g u o Y) (c' := 0) (s' := 0) (as := [.int (2 : Int32)]) (B := im_H g1 u o Y) 2 64 (z.val + 7) (fun n => rfl) rfl (im_zx z) rfl rfl (x64_ok (g := g) (a := (2 : Int32)) hc)
  | inr v1 =>
    have h := iv_sr h
    refine iv_cal (mi' := 71) (pc' := 1) (ls' := [.ref 3, .int (2 : Int32), .int (1 : Int32)]) (rest := []) (A' := im_H g u o Y) (c' := 0) (s' := 0) (as := [.int (2 : Int32)]) (v := none) (A'' := im_H g1 u o Y) 2 64 (fun n => rfl) rfl (x64_ok (g := g) (a := (2 : Int32)) hc) ?_
    show iv_ev (iv_Xs L xs) 71 4 [.ref 3, .int (2 : Int32), .int (1 : Int32)] [] (im_H g1 u o Y) 1 6 _
    obtain ⟨v2, g2, hc, h⟩ := iv_bd h
    cases v2 with
    | inl z =>
      have h := iv_sl h
      cases h
      exact iv_calu (mi' := 71) (pc' := 5) (ls' := [.ref 3, .int (2 : Int32), .int (1 : Int32)]) (rest := []) (A' := im_H g1 u o Y) (c' := 1) (s' := 6) (as := [.int (1 : Int32)]) (B := im_H g2 u o Y) 2 43 (z.val + 7) (fun n => rfl) rfl (im_zx z) rfl rfl (x43_ok (g := g1) (a := (1 : Int32)) hc)
    | inr v2 =>
      have h := iv_sr h
      refine iv_cal (mi' := 71) (pc' := 5) (ls' := [.ref 3, .int (2 : Int32), .int (1 : Int32)]) (rest := []) (A' := im_H g1 u o Y) (c' := 1) (s' := 6) (as := [.int (1 : Int32)]) (v := none) (A'' := im_H g2 u o Y) 2 43 (fun n => rfl) rfl (x43_ok (g := g1) (a := (1 : Int32)) hc) ?_
      show iv_ev (iv_Xs L xs) 71 8 [.ref 3, .int (2 : Int32), .int (1 : Int32)] [] (im_H g2 u o Y) 2 12 _
      cases h
      exact iv_ret 10 (fun n => rfl)
def x71_r0_2_2 (g : im_M) : Option (im_T × im_M) :=
  Option.bind (x64 g (2 : Int32)) (fun q1 =>
    Sum.elim (fun z => some (.inl z, q1.2)) (fun _ =>
    Option.bind (x43 q1.2 (2 : Int32)) (fun q2 =>
      Sum.elim (fun z => some (.inl z, q2.2)) (fun _ =>
      some (.inr ((q2.2 34 2) &&& (7 : Int32)), q2.2)) q2.1)) q1.1)
set_option maxRecDepth 100000 in
set_option maxHeartbeats 4000000 in
theorem x71_r0_2_2_ok {L : Nat} {xs : Nat → Int32} {g u mm : im_M} {o : Nat → Int64} {Y : iv_A} {ret : im_T} (h : x71_r0_2_2 g  = some (ret, mm)) : iv_ev (iv_Xs L xs) 71 0 [.ref 3, .int (2 : Int32), .int (2 : Int32)] [] (im_H g u o Y) 0 0 (im_res ret (im_H mm u o Y)) := by
  unfold x71_r0_2_2 at h
  obtain ⟨v1, g1, hc, h⟩ := iv_bd h
  cases v1 with
  | inl z =>
    have h := iv_sl h
    cases h
    exact iv_calu (mi' := 71) (pc' := 1) (ls' := [.ref 3, .int (2 : Int32), .int (2 : Int32)]) (rest := []) (A' := im_H g u o Y) (c' := 0) (s' := 0) (as := [.int (2 : Int32)]) (B := im_H g1 u o Y) 2 64 (z.val + 7) (fun n => rfl) rfl (im_zx z) rfl rfl (x64_ok (g := g) (a := (2 : Int32)) hc)
  | inr v1 =>
    have h := iv_sr h
    refine iv_cal (mi' := 71) (pc' := 1) (ls' := [.ref 3, .int (2 : Int32), .int (2 : Int32)]) (rest := []) (A' := im_H g u o Y) (c' := 0) (s' := 0) (as := [.int (2 : Int32)]) (v := none) (A'' := im_H g1 u o Y) 2 64 (fun n => rfl) rfl (x64_ok (g := g) (a := (2 : Int32)) hc) ?_
    show iv_ev (iv_Xs L xs) 71 4 [.ref 3, .int (2 : Int32), .int (2 : Int32)] [] (im_H g1 u o Y) 1 6 _
    obtain ⟨v2, g2, hc, h⟩ := iv_bd h
    cases v2 with
    | inl z =>
      have h := iv_sl h
      cases h
      exact iv_calu (mi' := 71) (pc' := 5) (ls' := [.ref 3, .int (2 : Int32), .int (2 : Int32)]) (rest := []) (A' := im_H g1 u o Y) (c' := 1) (s' := 6) (as := [.int (2 : Int32)]) (B := im_H g2 u o Y) 2 43 (z.val + 7) (fun n => rfl) rfl (im_zx z) rfl rfl (x43_ok (g := g1) (a := (2 : Int32)) hc)
    | inr v2 =>
      have h := iv_sr h
      refine iv_cal (mi' := 71) (pc' := 5) (ls' := [.ref 3, .int (2 : Int32), .int (2 : Int32)]) (rest := []) (A' := im_H g1 u o Y) (c' := 1) (s' := 6) (as := [.int (2 : Int32)]) (v := none) (A'' := im_H g2 u o Y) 2 43 (fun n => rfl) rfl (x43_ok (g := g1) (a := (2 : Int32)) hc) ?_
      show iv_ev (iv_Xs L xs) 71 8 [.ref 3, .int (2 : Int32), .int (2 : Int32)] [] (im_H g2 u o Y) 2 12 _
      cases h
      exact iv_ret 10 (fun n => rfl)
def x63_r0_3_1 (g : im_M) (y0 : Int32) : Option (im_T × im_M) :=
  Option.bind (x55 g y0) (fun q2 =>
    Sum.elim (fun z => some (.inl z, q2.2)) (fun _ =>
    Option.bind (x15_r1 q2.2 (13 : Int32) (3 : Int32) (q2.2 35 3)) (fun q3 =>
      some (.inr 0, (im_w q3.2 35 3 (0 : Int32))))) q2.1)
set_option maxRecDepth 100000 in
set_option maxHeartbeats 4000000 in
theorem x63_r0_3_1_ok {L : Nat} {xs : Nat → Int32} {g u mm : im_M} {o : Nat → Int64} {Y : iv_A} {y0 : Int32} {ret : im_T} (h : x63_r0_3_1 g y0 = some (ret, mm)) : iv_ev (iv_Xs L xs) 63 30 [.ref 3, .int (3 : Int32), .ref 38] [.int y0] (im_H g u o Y) 1 6 (im_rev ret (im_H mm u o Y)) := by
  unfold x63_r0_3_1 at h
  obtain ⟨v2, g2, hc, h⟩ := iv_bd h
  cases v2 with
  | inl z =>
    have h := iv_sl h
    cases h
    exact iv_calu (mi' := 63) (pc' := 30) (ls' := [.ref 3, .int (3 : Int32), .ref 38]) (rest := []) (A' := im_H g u o Y) (c' := 1) (s' := 6) (as := [.int y0]) (B := im_H g2 u o Y) 1 55 (z.val + 7) (fun n => rfl) rfl (im_zx z) rfl rfl (x55_ok (g := g) (a := y0) hc)
  | inr v2 =>
    have h := iv_sr h
    refine iv_cal (mi' := 63) (pc' := 30) (ls' := [.ref 3, .int (3 : Int32), .ref 38]) (rest := []) (A' := im_H g u o Y) (c' := 1) (s' := 6) (as := [.int y0]) (v := none) (A'' := im_H g2 u o Y) 1 55 (fun n => rfl) rfl (x55_ok (g := g) (a := y0) hc) ?_
    show iv_ev (iv_Xs L xs) 63 33 [.ref 3, .int (3 : Int32), .ref 38] [] (im_H g2 u o Y) 2 12 _
    obtain ⟨v3, g3, hc, h⟩ := iv_bd h
    refine iv_cal (mi' := 63) (pc' := 44) (ls' := [.ref 3, .int (3 : Int32), .ref 38]) (rest := []) (A' := im_H g2 u o Y) (c' := 2) (s' := 12) (as := [.ref 4, .int (13 : Int32), .int (3 : Int32), .int (g2 35 3)]) (v := none) (A'' := im_H g3 u o Y) 7 15 (fun n => rfl) rfl (x15_r1_ok (g := g2) (a := (13 : Int32)) (b := (3 : Int32)) (c := (g2 35 3)) hc) ?_
    show iv_ev (iv_Xs L xs) 63 47 [.ref 3, .int (3 : Int32), .ref 38] [] (im_H g3 u o Y) 2 12 _
    refine iv_blk (mi' := 63) (pc' := 52) (ls' := [.ref 3, .int (3 : Int32), .ref 38]) (st' := []) (A' := List.set (im_H g3 u o Y) 35 (.inr (3, List.set [.int 3, .ref 39, .int (g3 35 2), .int (g3 35 3)] 3 (.int (0 : Int32))))) (c' := 2) (s' := 12) 3 (fun n => rfl) ?_
    rw [im_f35_3]
    cases h
    exact iv_ret 1 (fun n => rfl)
def x63_r0_3 (g : im_M) : Option (im_T × im_M) :=
  Option.bind (x64 g (3 : Int32)) (fun q1 =>
    Sum.elim (fun z => some (.inl z, q1.2)) (fun _ =>
    bif Op.ifCond.holds .eq (q1.2 35 3) then
      (x63_r0_3_1 q1.2 (0 : Int32))
    else
      (bif Op.ifCond.holds .ne (q1.2 35 2) then
        (x63_r0_3_1 q1.2 (0 : Int32))
      else
        (x63_r0_3_1 q1.2 (1 : Int32)))) q1.1)
set_option maxRecDepth 100000 in
set_option maxHeartbeats 4000000 in
theorem x63_r0_3_ok {L : Nat} {xs : Nat → Int32} {g u mm : im_M} {o : Nat → Int64} {Y : iv_A} {ret : im_T} (h : x63_r0_3 g  = some (ret, mm)) : iv_ev (iv_Xs L xs) 63 0 [.ref 3, .int (3 : Int32), .retAddr 0] [] (im_H g u o Y) 0 0 (im_rev ret (im_H mm u o Y)) := by
  unfold x63_r0_3 at h
  obtain ⟨v1, g1, hc, h⟩ := iv_bd h
  cases v1 with
  | inl z =>
    have h := iv_sl h
    cases h
    exact iv_calu (mi' := 63) (pc' := 1) (ls' := [.ref 3, .int (3 : Int32), .retAddr 0]) (rest := []) (A' := im_H g u o Y) (c' := 0) (s' := 0) (as := [.int (3 : Int32)]) (B := im_H g1 u o Y) 2 64 (z.val + 7) (fun n => rfl) rfl (im_zx z) rfl rfl (x64_ok (g := g) (a := (3 : Int32)) hc)
  | inr v1 =>
    have h := iv_sr h
    refine iv_cal (mi' := 63) (pc' := 1) (ls' := [.ref 3, .int (3 : Int32), .retAddr 0]) (rest := []) (A' := im_H g u o Y) (c' := 0) (s' := 0) (as := [.int (3 : Int32)]) (v := none) (A'' := im_H g1 u o Y) 2 64 (fun n => rfl) rfl (x64_ok (g := g) (a := (3 : Int32)) hc) ?_
    show iv_ev (iv_Xs L xs) 63 4 [.ref 3, .int (3 : Int32), .retAddr 0] [] (im_H g1 u o Y) 1 6 _
    cases hb1 : Op.ifCond.holds .eq (g1 35 3) with
    | true =>
      have h := iv_bt hb1 h
      refine iv_brt (mi' := 63) (pc' := 29) (ls' := [.ref 3, .int (3 : Int32), .ref 38]) (st' := []) (A' := im_H g1 u o Y) (c' := 1) (s' := 6) (mi'' := 63) (pc'' := 18) (ls'' := [.ref 3, .int (3 : Int32), .ref 38]) (st'' := []) (A'' := im_H g1 u o Y) (c'' := 1) (s'' := 6) 8 0 0 hb1 (fun n => rfl) ?_
      refine iv_blk (mi' := 63) (pc' := 30) (ls' := [.ref 3, .int (3 : Int32), .ref 38]) (st' := [.int (0 : Int32)]) (A' := im_H g1 u o Y) (c' := 1) (s' := 6) 1 (fun n => rfl) ?_
      exact x63_r0_3_1_ok (g := g1) (y0 := (0 : Int32)) h
    | false =>
      have h := iv_bf hb1 h
      refine iv_brf (mi' := 63) (pc' := 29) (ls' := [.ref 3, .int (3 : Int32), .ref 38]) (st' := []) (A' := im_H g1 u o Y) (c' := 1) (s' := 6) (mi'' := 63) (pc'' := 18) (ls'' := [.ref 3, .int (3 : Int32), .ref 38]) (st'' := []) (A'' := im_H g1 u o Y) (c'' := 1) (s'' := 6) 8 0 0 hb1 (fun n => rfl) ?_
      cases hb2 : Op.ifCond.holds .ne (g1 35 2) with
      | true =>
        have h := iv_bt hb2 h
        refine iv_brt (mi' := 63) (pc' := 29) (ls' := [.ref 3, .int (3 : Int32), .ref 38]) (st' := []) (A' := im_H g1 u o Y) (c' := 1) (s' := 6) (mi'' := 63) (pc'' := 25) (ls'' := [.ref 3, .int (3 : Int32), .ref 38]) (st'' := []) (A'' := im_H g1 u o Y) (c'' := 1) (s'' := 6) 3 0 0 hb2 (fun n => rfl) ?_
        refine iv_blk (mi' := 63) (pc' := 30) (ls' := [.ref 3, .int (3 : Int32), .ref 38]) (st' := [.int (0 : Int32)]) (A' := im_H g1 u o Y) (c' := 1) (s' := 6) 1 (fun n => rfl) ?_
        exact x63_r0_3_1_ok (g := g1) (y0 := (0 : Int32)) h
      | false =>
        have h := iv_bf hb2 h
        refine iv_brf (mi' := 63) (pc' := 29) (ls' := [.ref 3, .int (3 : Int32), .ref 38]) (st' := []) (A' := im_H g1 u o Y) (c' := 1) (s' := 6) (mi'' := 63) (pc'' := 25) (ls'' := [.ref 3, .int (3 : Int32), .ref 38]) (st'' := []) (A'' := im_H g1 u o Y) (c'' := 1) (s'' := 6) 3 0 0 hb2 (fun n => rfl) ?_
        refine iv_blk (mi' := 63) (pc' := 30) (ls' := [.ref 3, .int (3 : Int32), .ref 38]) (st' := [.int (1 : Int32)]) (A' := im_H g1 u o Y) (c' := 1) (s' := 6) 2 (fun n => rfl) ?_
        exact x63_r0_3_1_ok (g := g1) (y0 := (1 : Int32)) h
def x73_r0_3 (g : im_M) : Option (im_T × im_M) :=
  Option.bind (x64 g (3 : Int32)) (fun q1 =>
    Sum.elim (fun z => some (.inl z, q1.2)) (fun _ =>
    some (.inr (q1.2 35 2), q1.2)) q1.1)
set_option maxRecDepth 100000 in
set_option maxHeartbeats 4000000 in
theorem x73_r0_3_ok {L : Nat} {xs : Nat → Int32} {g u mm : im_M} {o : Nat → Int64} {Y : iv_A} {ret : im_T} (h : x73_r0_3 g  = some (ret, mm)) : iv_ev (iv_Xs L xs) 73 0 [.ref 3, .int (3 : Int32)] [] (im_H g u o Y) 0 0 (im_res ret (im_H mm u o Y)) := by
  unfold x73_r0_3 at h
  obtain ⟨v1, g1, hc, h⟩ := iv_bd h
  cases v1 with
  | inl z =>
    have h := iv_sl h
    cases h
    exact iv_calu (mi' := 73) (pc' := 1) (ls' := [.ref 3, .int (3 : Int32)]) (rest := []) (A' := im_H g u o Y) (c' := 0) (s' := 0) (as := [.int (3 : Int32)]) (B := im_H g1 u o Y) 2 64 (z.val + 7) (fun n => rfl) rfl (im_zx z) rfl rfl (x64_ok (g := g) (a := (3 : Int32)) hc)
  | inr v1 =>
    have h := iv_sr h
    refine iv_cal (mi' := 73) (pc' := 1) (ls' := [.ref 3, .int (3 : Int32)]) (rest := []) (A' := im_H g u o Y) (c' := 0) (s' := 0) (as := [.int (3 : Int32)]) (v := none) (A'' := im_H g1 u o Y) 2 64 (fun n => rfl) rfl (x64_ok (g := g) (a := (3 : Int32)) hc) ?_
    show iv_ev (iv_Xs L xs) 73 4 [.ref 3, .int (3 : Int32)] [] (im_H g1 u o Y) 1 6 _
    cases h
    exact iv_ret 6 (fun n => rfl)
def x75_r0_3 (g : im_M) : Option (im_T × im_M) :=
  Option.bind (x64 g (3 : Int32)) (fun q1 =>
    Sum.elim (fun z => some (.inl z, q1.2)) (fun _ =>
    some (.inr (q1.2 35 3), q1.2)) q1.1)
set_option maxRecDepth 100000 in
set_option maxHeartbeats 4000000 in
theorem x75_r0_3_ok {L : Nat} {xs : Nat → Int32} {g u mm : im_M} {o : Nat → Int64} {Y : iv_A} {ret : im_T} (h : x75_r0_3 g  = some (ret, mm)) : iv_ev (iv_Xs L xs) 75 0 [.ref 3, .int (3 : Int32)] [] (im_H g u o Y) 0 0 (im_res ret (im_H mm u o Y)) := by
  unfold x75_r0_3 at h
  obtain ⟨v1, g1, hc, h⟩ := iv_bd h
  cases v1 with
  | inl z =>
    have h := iv_sl h
    cases h
    exact iv_calu (mi' := 75) (pc' := 1) (ls' := [.ref 3, .int (3 : Int32)]) (rest := []) (A' := im_H g u o Y) (c' := 0) (s' := 0) (as := [.int (3 : Int32)]) (B := im_H g1 u o Y) 2 64 (z.val + 7) (fun n => rfl) rfl (im_zx z) rfl rfl (x64_ok (g := g) (a := (3 : Int32)) hc)
  | inr v1 =>
    have h := iv_sr h
    refine iv_cal (mi' := 75) (pc' := 1) (ls' := [.ref 3, .int (3 : Int32)]) (rest := []) (A' := im_H g u o Y) (c' := 0) (s' := 0) (as := [.int (3 : Int32)]) (v := none) (A'' := im_H g1 u o Y) 2 64 (fun n => rfl) rfl (x64_ok (g := g) (a := (3 : Int32)) hc) ?_
    show iv_ev (iv_Xs L xs) 75 4 [.ref 3, .int (3 : Int32)] [] (im_H g1 u o Y) 1 6 _
    cases h
    exact iv_ret 6 (fun n => rfl)
def x71_r0_3_0 (g : im_M) : Option (im_T × im_M) :=
  Option.bind (x64 g (3 : Int32)) (fun q1 =>
    Sum.elim (fun z => some (.inl z, q1.2)) (fun _ =>
    Option.bind (x43 q1.2 (0 : Int32)) (fun q2 =>
      Sum.elim (fun z => some (.inl z, q2.2)) (fun _ =>
      some (.inr ((q2.2 36 0) &&& (7 : Int32)), q2.2)) q2.1)) q1.1)
set_option maxRecDepth 100000 in
set_option maxHeartbeats 4000000 in
theorem x71_r0_3_0_ok {L : Nat} {xs : Nat → Int32} {g u mm : im_M} {o : Nat → Int64} {Y : iv_A} {ret : im_T} (h : x71_r0_3_0 g  = some (ret, mm)) : iv_ev (iv_Xs L xs) 71 0 [.ref 3, .int (3 : Int32), .int (0 : Int32)] [] (im_H g u o Y) 0 0 (im_res ret (im_H mm u o Y)) := by
  unfold x71_r0_3_0 at h
  obtain ⟨v1, g1, hc, h⟩ := iv_bd h
  cases v1 with
  | inl z =>
    have h := iv_sl h
    cases h
    exact iv_calu (mi' := 71) (pc' := 1) (ls' := [.ref 3, .int (3 : Int32), .int (0 : Int32)]) (rest := []) (A' := im_H g u o Y) (c' := 0) (s' := 0) (as := [.int (3 : Int32)]) (B := im_H g1 u o Y) 2 64 (z.val + 7) (fun n => rfl) rfl (im_zx z) rfl rfl (x64_ok (g := g) (a := (3 : Int32)) hc)
  | inr v1 =>
    have h := iv_sr h
    refine iv_cal (mi' := 71) (pc' := 1) (ls' := [.ref 3, .int (3 : Int32), .int (0 : Int32)]) (rest := []) (A' := im_H g u o Y) (c' := 0) (s' := 0) (as := [.int (3 : Int32)]) (v := none) (A'' := im_H g1 u o Y) 2 64 (fun n => rfl) rfl (x64_ok (g := g) (a := (3 : Int32)) hc) ?_
    show iv_ev (iv_Xs L xs) 71 4 [.ref 3, .int (3 : Int32), .int (0 : Int32)] [] (im_H g1 u o Y) 1 6 _
    obtain ⟨v2, g2, hc, h⟩ := iv_bd h
    cases v2 with
    | inl z =>
      have h := iv_sl h
      cases h
      exact iv_calu (mi' := 71) (pc' := 5) (ls' := [.ref 3, .int (3 : Int32), .int (0 : Int32)]) (rest := []) (A' := im_H g1 u o Y) (c' := 1) (s' := 6) (as := [.int (0 : Int32)]) (B := im_H g2 u o Y) 2 43 (z.val + 7) (fun n => rfl) rfl (im_zx z) rfl rfl (x43_ok (g := g1) (a := (0 : Int32)) hc)
    | inr v2 =>
      have h := iv_sr h
      refine iv_cal (mi' := 71) (pc' := 5) (ls' := [.ref 3, .int (3 : Int32), .int (0 : Int32)]) (rest := []) (A' := im_H g1 u o Y) (c' := 1) (s' := 6) (as := [.int (0 : Int32)]) (v := none) (A'' := im_H g2 u o Y) 2 43 (fun n => rfl) rfl (x43_ok (g := g1) (a := (0 : Int32)) hc) ?_
      show iv_ev (iv_Xs L xs) 71 8 [.ref 3, .int (3 : Int32), .int (0 : Int32)] [] (im_H g2 u o Y) 2 12 _
      cases h
      exact iv_ret 10 (fun n => rfl)
def x71_r0_3_1 (g : im_M) : Option (im_T × im_M) :=
  Option.bind (x64 g (3 : Int32)) (fun q1 =>
    Sum.elim (fun z => some (.inl z, q1.2)) (fun _ =>
    Option.bind (x43 q1.2 (1 : Int32)) (fun q2 =>
      Sum.elim (fun z => some (.inl z, q2.2)) (fun _ =>
      some (.inr ((q2.2 36 1) &&& (7 : Int32)), q2.2)) q2.1)) q1.1)
set_option maxRecDepth 100000 in
set_option maxHeartbeats 4000000 in
theorem x71_r0_3_1_ok {L : Nat} {xs : Nat → Int32} {g u mm : im_M} {o : Nat → Int64} {Y : iv_A} {ret : im_T} (h : x71_r0_3_1 g  = some (ret, mm)) : iv_ev (iv_Xs L xs) 71 0 [.ref 3, .int (3 : Int32), .int (1 : Int32)] [] (im_H g u o Y) 0 0 (im_res ret (im_H mm u o Y)) := by
  unfold x71_r0_3_1 at h
  obtain ⟨v1, g1, hc, h⟩ := iv_bd h
  cases v1 with
  | inl z =>
    have h := iv_sl h
    cases h
    exact iv_calu (mi' := 71) (pc' := 1) (ls' := [.ref 3, .int (3 : Int32), .int (1 : Int32)]) (rest := []) (A' := im_H g u o Y) (c' := 0) (s' := 0) (as := [.int (3 : Int32)]) (B := im_H g1 u o Y) 2 64 (z.val + 7) (fun n => rfl) rfl (im_zx z) rfl rfl (x64_ok (g := g) (a := (3 : Int32)) hc)
  | inr v1 =>
    have h := iv_sr h
    refine iv_cal (mi' := 71) (pc' := 1) (ls' := [.ref 3, .int (3 : Int32), .int (1 : Int32)]) (rest := []) (A' := im_H g u o Y) (c' := 0) (s' := 0) (as := [.int (3 : Int32)]) (v := none) (A'' := im_H g1 u o Y) 2 64 (fun n => rfl) rfl (x64_ok (g := g) (a := (3 : Int32)) hc) ?_
    show iv_ev (iv_Xs L xs) 71 4 [.ref 3, .int (3 : Int32), .int (1 : Int32)] [] (im_H g1 u o Y) 1 6 _
    obtain ⟨v2, g2, hc, h⟩ := iv_bd h
    cases v2 with
    | inl z =>
      have h := iv_sl h
      cases h
      exact iv_calu (mi' := 71) (pc' := 5) (ls' := [.ref 3, .int (3 : Int32), .int (1 : Int32)]) (rest := []) (A' := im_H g1 u o Y) (c' := 1) (s' := 6) (as := [.int (1 : Int32)]) (B := im_H g2 u o Y) 2 43 (z.val + 7) (fun n => rfl) rfl (im_zx z) rfl rfl (x43_ok (g := g1) (a := (1 : Int32)) hc)
    | inr v2 =>
      have h := iv_sr h
      refine iv_cal (mi' := 71) (pc' := 5) (ls' := [.ref 3, .int (3 : Int32), .int (1 : Int32)]) (rest := []) (A' := im_H g1 u o Y) (c' := 1) (s' := 6) (as := [.int (1 : Int32)]) (v := none) (A'' := im_H g2 u o Y) 2 43 (fun n => rfl) rfl (x43_ok (g := g1) (a := (1 : Int32)) hc) ?_
      show iv_ev (iv_Xs L xs) 71 8 [.ref 3, .int (3 : Int32), .int (1 : Int32)] [] (im_H g2 u o Y) 2 12 _
      cases h
      exact iv_ret 10 (fun n => rfl)
def x71_r0_3_2 (g : im_M) : Option (im_T × im_M) :=
  Option.bind (x64 g (3 : Int32)) (fun q1 =>
    Sum.elim (fun z => some (.inl z, q1.2)) (fun _ =>
    Option.bind (x43 q1.2 (2 : Int32)) (fun q2 =>
      Sum.elim (fun z => some (.inl z, q2.2)) (fun _ =>
      some (.inr ((q2.2 36 2) &&& (7 : Int32)), q2.2)) q2.1)) q1.1)
set_option maxRecDepth 100000 in
set_option maxHeartbeats 4000000 in
theorem x71_r0_3_2_ok {L : Nat} {xs : Nat → Int32} {g u mm : im_M} {o : Nat → Int64} {Y : iv_A} {ret : im_T} (h : x71_r0_3_2 g  = some (ret, mm)) : iv_ev (iv_Xs L xs) 71 0 [.ref 3, .int (3 : Int32), .int (2 : Int32)] [] (im_H g u o Y) 0 0 (im_res ret (im_H mm u o Y)) := by
  unfold x71_r0_3_2 at h
  obtain ⟨v1, g1, hc, h⟩ := iv_bd h
  cases v1 with
  | inl z =>
    have h := iv_sl h
    cases h
    exact iv_calu (mi' := 71) (pc' := 1) (ls' := [.ref 3, .int (3 : Int32), .int (2 : Int32)]) (rest := []) (A' := im_H g u o Y) (c' := 0) (s' := 0) (as := [.int (3 : Int32)]) (B := im_H g1 u o Y) 2 64 (z.val + 7) (fun n => rfl) rfl (im_zx z) rfl rfl (x64_ok (g := g) (a := (3 : Int32)) hc)
  | inr v1 =>
    have h := iv_sr h
    refine iv_cal (mi' := 71) (pc' := 1) (ls' := [.ref 3, .int (3 : Int32), .int (2 : Int32)]) (rest := []) (A' := im_H g u o Y) (c' := 0) (s' := 0) (as := [.int (3 : Int32)]) (v := none) (A'' := im_H g1 u o Y) 2 64 (fun n => rfl) rfl (x64_ok (g := g) (a := (3 : Int32)) hc) ?_
    show iv_ev (iv_Xs L xs) 71 4 [.ref 3, .int (3 : Int32), .int (2 : Int32)] [] (im_H g1 u o Y) 1 6 _
    obtain ⟨v2, g2, hc, h⟩ := iv_bd h
    cases v2 with
    | inl z =>
      have h := iv_sl h
      cases h
      exact iv_calu (mi' := 71) (pc' := 5) (ls' := [.ref 3, .int (3 : Int32), .int (2 : Int32)]) (rest := []) (A' := im_H g1 u o Y) (c' := 1) (s' := 6) (as := [.int (2 : Int32)]) (B := im_H g2 u o Y) 2 43 (z.val + 7) (fun n => rfl) rfl (im_zx z) rfl rfl (x43_ok (g := g1) (a := (2 : Int32)) hc)
    | inr v2 =>
      have h := iv_sr h
      refine iv_cal (mi' := 71) (pc' := 5) (ls' := [.ref 3, .int (3 : Int32), .int (2 : Int32)]) (rest := []) (A' := im_H g1 u o Y) (c' := 1) (s' := 6) (as := [.int (2 : Int32)]) (v := none) (A'' := im_H g2 u o Y) 2 43 (fun n => rfl) rfl (x43_ok (g := g1) (a := (2 : Int32)) hc) ?_
      show iv_ev (iv_Xs L xs) 71 8 [.ref 3, .int (3 : Int32), .int (2 : Int32)] [] (im_H g2 u o Y) 2 12 _
      cases h
      exact iv_ret 10 (fun n => rfl)
def x77_r0_1 (g : im_M) (y0 : Int32) (y1 : Int32) (y2 : Int32) : Option (im_T × im_M) :=
  Option.bind (x44 g y2) (fun q2 =>
    Sum.elim (fun z => some (.inl z, q2.2)) (fun _ =>
    Option.bind (x80_r1 q2.2 y0 y1) (fun q3 =>
      some (.inr q3.1, q3.2))) q2.1)
set_option maxRecDepth 100000 in
set_option maxHeartbeats 4000000 in
theorem x77_r0_1_ok {L : Nat} {xs : Nat → Int32} {g u mm : im_M} {o : Nat → Int64} {Y : iv_A} {y0 y1 y2 : Int32} {ret : im_T} (h : x77_r0_1 g y0 y1 y2 = some (ret, mm)) : iv_ev (iv_Xs L xs) 77 33 [.ref 3, .int y0, .int y1] [.int y2] (im_H g u o Y) 0 0 (im_res ret (im_H mm u o Y)) := by
  unfold x77_r0_1 at h
  obtain ⟨v2, g2, hc, h⟩ := iv_bd h
  cases v2 with
  | inl z =>
    have h := iv_sl h
    cases h
    exact iv_calu (mi' := 77) (pc' := 33) (ls' := [.ref 3, .int y0, .int y1]) (rest := []) (A' := im_H g u o Y) (c' := 0) (s' := 0) (as := [.int y2]) (B := im_H g2 u o Y) 1 44 (z.val + 7) (fun n => rfl) rfl (im_zx z) rfl rfl (x44_ok (g := g) (a := y2) hc)
  | inr v2 =>
    have h := iv_sr h
    refine iv_cal (mi' := 77) (pc' := 33) (ls' := [.ref 3, .int y0, .int y1]) (rest := []) (A' := im_H g u o Y) (c' := 0) (s' := 0) (as := [.int y2]) (v := none) (A'' := im_H g2 u o Y) 1 44 (fun n => rfl) rfl (x44_ok (g := g) (a := y2) hc) ?_
    show iv_ev (iv_Xs L xs) 77 36 [.ref 3, .int y0, .int y1] [] (im_H g2 u o Y) 1 6 _
    obtain ⟨v3, g3, hc, h⟩ := iv_bd h
    refine iv_cal (mi' := 77) (pc' := 42) (ls' := [.ref 3, .int y0, .int y1]) (rest := []) (A' := im_H g2 u o Y) (c' := 1) (s' := 6) (as := [.ref 4, .int y0, .int y1]) (v := some (.int v3)) (A'' := im_H g3 u o Y) 5 80 (fun n => rfl) rfl (x80_r1_ok (g := g2) (a := y0) (b := y1) hc) ?_
    show iv_ev (iv_Xs L xs) 77 45 [.ref 3, .int y0, .int y1] [.int v3] (im_H g3 u o Y) 1 6 _
    cases h
    exact iv_ret 1 (fun n => rfl)
def x77_r0 (g : im_M) (a : Int32) (b : Int32) : Option (im_T × im_M) :=
  Option.bind (x78_r1 g a) (fun q1 =>
    bif Op.ifCond.holds .ne q1.1 then
      (bif Op.ifCond.holds .lt b then
        (x77_r0_1 q1.2 a b (0 : Int32))
      else
        (bif Op.if_icmp.holds .ge b (4 : Int32) then
          (x77_r0_1 q1.2 a b (0 : Int32))
        else
          (x77_r0_1 q1.2 a b (1 : Int32))))
    else
      (some (.inl 2, q1.2)))
set_option maxRecDepth 100000 in
set_option maxHeartbeats 4000000 in
theorem x77_r0_ok {L : Nat} {xs : Nat → Int32} {g u mm : im_M} {o : Nat → Int64} {Y : iv_A} {a b : Int32} {ret : im_T} (h : x77_r0 g a b = some (ret, mm)) : iv_ev (iv_Xs L xs) 77 0 [.ref 3, .int a, .int b] [] (im_H g u o Y) 0 0 (im_res ret (im_H mm u o Y)) := by
  unfold x77_r0 at h
  obtain ⟨v1, g1, hc, h⟩ := iv_bd h
  refine iv_cal (mi' := 77) (pc' := 5) (ls' := [.ref 3, .int a, .int b]) (rest := []) (A' := im_H g u o Y) (c' := 0) (s' := 0) (as := [.ref 4, .int a]) (v := some (.int v1)) (A'' := im_H g1 u o Y) 4 78 (fun n => rfl) rfl (x78_r1_ok (g := g) (a := a) hc) ?_
  show iv_ev (iv_Xs L xs) 77 8 [.ref 3, .int a, .int b] [.int v1] (im_H g1 u o Y) 0 0 _
  cases hb1 : Op.ifCond.holds .ne v1 with
  | true =>
    have h := iv_bt hb1 h
    refine iv_brt (mi' := 77) (pc' := 19) (ls' := [.ref 3, .int a, .int b]) (st' := []) (A' := im_H g1 u o Y) (c' := 0) (s' := 0) (mi'' := 77) (pc'' := 11) (ls'' := [.ref 3, .int a, .int b]) (st'' := []) (A'' := im_H g1 u o Y) (c'' := 0) (s'' := 0) 1 0 0 hb1 (fun n => rfl) ?_
    cases hb2 : Op.ifCond.holds .lt b with
    | true =>
      have h := iv_bt hb2 h
      refine iv_brt (mi' := 77) (pc' := 32) (ls' := [.ref 3, .int a, .int b]) (st' := []) (A' := im_H g1 u o Y) (c' := 0) (s' := 0) (mi'' := 77) (pc'' := 23) (ls'' := [.ref 3, .int a, .int b]) (st'' := []) (A'' := im_H g1 u o Y) (c'' := 0) (s'' := 0) 2 0 0 hb2 (fun n => rfl) ?_
      refine iv_blk (mi' := 77) (pc' := 33) (ls' := [.ref 3, .int a, .int b]) (st' := [.int (0 : Int32)]) (A' := im_H g1 u o Y) (c' := 0) (s' := 0) 1 (fun n => rfl) ?_
      exact x77_r0_1_ok (g := g1) (y0 := a) (y1 := b) (y2 := (0 : Int32)) h
    | false =>
      have h := iv_bf hb2 h
      refine iv_brf (mi' := 77) (pc' := 32) (ls' := [.ref 3, .int a, .int b]) (st' := []) (A' := im_H g1 u o Y) (c' := 0) (s' := 0) (mi'' := 77) (pc'' := 23) (ls'' := [.ref 3, .int a, .int b]) (st'' := []) (A'' := im_H g1 u o Y) (c'' := 0) (s'' := 0) 2 0 0 hb2 (fun n => rfl) ?_
      cases hb3 : Op.if_icmp.holds .ge b (4 : Int32) with
      | true =>
        have h := iv_bt hb3 h
        refine iv_brt (mi' := 77) (pc' := 32) (ls' := [.ref 3, .int a, .int b]) (st' := []) (A' := im_H g1 u o Y) (c' := 0) (s' := 0) (mi'' := 77) (pc'' := 28) (ls'' := [.ref 3, .int a, .int b]) (st'' := []) (A'' := im_H g1 u o Y) (c'' := 0) (s'' := 0) 3 0 0 hb3 (fun n => rfl) ?_
        refine iv_blk (mi' := 77) (pc' := 33) (ls' := [.ref 3, .int a, .int b]) (st' := [.int (0 : Int32)]) (A' := im_H g1 u o Y) (c' := 0) (s' := 0) 1 (fun n => rfl) ?_
        exact x77_r0_1_ok (g := g1) (y0 := a) (y1 := b) (y2 := (0 : Int32)) h
      | false =>
        have h := iv_bf hb3 h
        refine iv_brf (mi' := 77) (pc' := 32) (ls' := [.ref 3, .int a, .int b]) (st' := []) (A' := im_H g1 u o Y) (c' := 0) (s' := 0) (mi'' := 77) (pc'' := 28) (ls'' := [.ref 3, .int a, .int b]) (st'' := []) (A'' := im_H g1 u o Y) (c'' := 0) (s'' := 0) 3 0 0 hb3 (fun n => rfl) ?_
        refine iv_blk (mi' := 77) (pc' := 33) (ls' := [.ref 3, .int a, .int b]) (st' := [.int (1 : Int32)]) (A' := im_H g1 u o Y) (c' := 0) (s' := 0) 2 (fun n => rfl) ?_
        exact x77_r0_1_ok (g := g1) (y0 := a) (y1 := b) (y2 := (1 : Int32)) h
  | false =>
    have h := iv_bf hb1 h
    refine iv_brf (mi' := 77) (pc' := 19) (ls' := [.ref 3, .int a, .int b]) (st' := []) (A' := im_H g1 u o Y) (c' := 0) (s' := 0) (mi'' := 77) (pc'' := 11) (ls'' := [.ref 3, .int a, .int b]) (st'' := []) (A'' := im_H g1 u o Y) (c'' := 0) (s'' := 0) 1 0 0 hb1 (fun n => rfl) ?_
    cases h
    exact iv_ret 1 (fun n => rfl)
