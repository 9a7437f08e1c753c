/-! numbers out of range: the throws (printed by wip/gen/lay1.py) -/
def x42_t_1 (g : im_M) (y0 : Int32) (y1 : Int32) (y2 : Int32) (y3 : Int32) : Option (im_T × im_M) :=
  Option.bind (x44 g y3) (fun q3 =>
    Sum.elim (fun z => some (.inl z, q3.2)) (fun _ =>
    none) q3.1)
set_option maxRecDepth 100000 in
set_option maxHeartbeats 4000000 in
theorem x42_t_1_ok {L : Nat} {xs : Nat → Int32} {g u mm : im_M} {o : Nat → Int64} {Y : iv_A} {y0 y1 y2 y3 : Int32} {ret : im_T} (h : x42_t_1 g y0 y1 y2 y3 = some (ret, mm)) : iv_ev (iv_Xs L xs) 42 24 [.ref 3, .int y0, .int y1, .int y2] [.int y3] (im_H g u o Y) 2 12 (im_rev ret (im_H mm u o Y)) := by
  unfold x42_t_1 at h
  obtain ⟨v3, g3, hc, h⟩ := iv_bd h
  cases v3 with
  | inl z =>
    have h := iv_sl h
    cases h
    exact iv_calu (mi' := 42) (pc' := 24) (ls' := [.ref 3, .int y0, .int y1, .int y2]) (rest := []) (A' := im_H g u o Y) (c' := 2) (s' := 12) (as := [.int y3]) (B := im_H g3 u o Y) 1 44 (z.val + 7) (fun n => rfl) rfl (im_zx z) rfl rfl (x44_ok (g := g) (a := y3) hc)
  | inr v3 =>
    have h := iv_sr h
    refine iv_cal (mi' := 42) (pc' := 24) (ls' := [.ref 3, .int y0, .int y1, .int y2]) (rest := []) (A' := im_H g u o Y) (c' := 2) (s' := 12) (as := [.int y3]) (v := none) (A'' := im_H g3 u o Y) 1 44 (fun n => rfl) rfl (x44_ok (g := g) (a := y3) hc) ?_
    show iv_ev (iv_Xs L xs) 42 27 [.ref 3, .int y0, .int y1, .int y2] [] (im_H g3 u o Y) 3 18 _
    cases h
def x42_t (g : im_M) (a : Int32) (b : Int32) (c : Int32) : Option (im_T × im_M) :=
  Option.bind (x43 g a) (fun q1 =>
    Sum.elim (fun z => some (.inl z, q1.2)) (fun _ =>
    Option.bind (x49 q1.2 b) (fun q2 =>
      Sum.elim (fun z => some (.inl z, q2.2)) (fun _ =>
      bif Op.ifCond.holds .lt c then
        (x42_t_1 q2.2 a b c (0 : Int32))
      else
        (bif Op.if_icmp.holds .gt c (4095 : Int32) then
          (x42_t_1 q2.2 a b c (0 : Int32))
        else
          (x42_t_1 q2.2 a b c (1 : Int32)))) q2.1)) q1.1)
set_option maxRecDepth 100000 in
set_option maxHeartbeats 4000000 in
theorem x42_t_ok {L : Nat} {xs : Nat → Int32} {g u mm : im_M} {o : Nat → Int64} {Y : iv_A} {a b c : Int32} {ret : im_T} (h : x42_t g a b c = some (ret, mm)) : iv_ev (iv_Xs L xs) 42 0 [.ref 3, .int a, .int b, .int c] [] (im_H g u o Y) 0 0 (im_rev ret (im_H mm u o Y)) := by
  unfold x42_t at h
  obtain ⟨v1, g1, hc, h⟩ := iv_bd h
  cases v1 with
  | inl z =>
    have h := iv_sl h
    cases h
    exact iv_calu (mi' := 42) (pc' := 1) (ls' := [.ref 3, .int a, .int b, .int c]) (rest := []) (A' := im_H g u o Y) (c' := 0) (s' := 0) (as := [.int a]) (B := im_H g1 u o Y) 2 43 (z.val + 7) (fun n => rfl) rfl (im_zx z) rfl rfl (x43_ok (g := g) (a := a) hc)
  | inr v1 =>
    have h := iv_sr h
    refine iv_cal (mi' := 42) (pc' := 1) (ls' := [.ref 3, .int a, .int b, .int c]) (rest := []) (A' := im_H g u o Y) (c' := 0) (s' := 0) (as := [.int a]) (v := none) (A'' := im_H g1 u o Y) 2 43 (fun n => rfl) rfl (x43_ok (g := g) (a := a) hc) ?_
    show iv_ev (iv_Xs L xs) 42 4 [.ref 3, .int a, .int b, .int c] [] (im_H g1 u o Y) 1 6 _
    obtain ⟨v2, g2, hc, h⟩ := iv_bd h
    cases v2 with
    | inl z =>
      have h := iv_sl h
      cases h
      exact iv_calu (mi' := 42) (pc' := 5) (ls' := [.ref 3, .int a, .int b, .int c]) (rest := []) (A' := im_H g1 u o Y) (c' := 1) (s' := 6) (as := [.int b]) (B := im_H g2 u o Y) 2 49 (z.val + 7) (fun n => rfl) rfl (im_zx z) rfl rfl (x49_ok (g := g1) (a := b) hc)
    | inr v2 =>
      have h := iv_sr h
      refine iv_cal (mi' := 42) (pc' := 5) (ls' := [.ref 3, .int a, .int b, .int c]) (rest := []) (A' := im_H g1 u o Y) (c' := 1) (s' := 6) (as := [.int b]) (v := none) (A'' := im_H g2 u o Y) 2 49 (fun n => rfl) rfl (x49_ok (g := g1) (a := b) hc) ?_
      show iv_ev (iv_Xs L xs) 42 8 [.ref 3, .int a, .int b, .int c] [] (im_H g2 u o Y) 2 12 _
      cases hb1 : Op.ifCond.holds .lt c with
      | true =>
        have h := iv_bt hb1 h
        refine iv_brt (mi' := 42) (pc' := 23) (ls' := [.ref 3, .int a, .int b, .int c]) (st' := []) (A' := im_H g2 u o Y) (c' := 2) (s' := 12) (mi'' := 42) (pc'' := 12) (ls'' := [.ref 3, .int a, .int b, .int c]) (st'' := []) (A'' := im_H g2 u o Y) (c'' := 2) (s'' := 12) 2 0 0 hb1 (fun n => rfl) ?_
        refine iv_blk (mi' := 42) (pc' := 24) (ls' := [.ref 3, .int a, .int b, .int c]) (st' := [.int (0 : Int32)]) (A' := im_H g2 u o Y) (c' := 2) (s' := 12) 1 (fun n => rfl) ?_
        exact x42_t_1_ok (g := g2) (y0 := a) (y1 := b) (y2 := c) (y3 := (0 : Int32)) h
      | false =>
        have h := iv_bf hb1 h
        refine iv_brf (mi' := 42) (pc' := 23) (ls' := [.ref 3, .int a, .int b, .int c]) (st' := []) (A' := im_H g2 u o Y) (c' := 2) (s' := 12) (mi'' := 42) (pc'' := 12) (ls'' := [.ref 3, .int a, .int b, .int c]) (st'' := []) (A'' := im_H g2 u o Y) (c'' := 2) (s'' := 12) 2 0 0 hb1 (fun n => rfl) ?_
        cases hb2 : Op.if_icmp.holds .gt c (4095 : Int32) with
        | true =>
          have h := iv_bt hb2 h
          refine iv_brt (mi' := 42) (pc' := 23) (ls' := [.ref 3, .int a, .int b, .int c]) (st' := []) (A' := im_H g2 u o Y) (c' := 2) (s' := 12) (mi'' := 42) (pc'' := 19) (ls'' := [.ref 3, .int a, .int b, .int c]) (st'' := []) (A'' := im_H g2 u o Y) (c'' := 2) (s'' := 12) 3 0 0 hb2 (fun n => rfl) ?_
          refine iv_blk (mi' := 42) (pc' := 24) (ls' := [.ref 3, .int a, .int b, .int c]) (st' := [.int (0 : Int32)]) (A' := im_H g2 u o Y) (c' := 2) (s' := 12) 1 (fun n => rfl) ?_
          exact x42_t_1_ok (g := g2) (y0 := a) (y1 := b) (y2 := c) (y3 := (0 : Int32)) h
        | false =>
          have h := iv_bf hb2 h
          refine iv_brf (mi' := 42) (pc' := 23) (ls' := [.ref 3, .int a, .int b, .int c]) (st' := []) (A' := im_H g2 u o Y) (c' := 2) (s' := 12) (mi'' := 42) (pc'' := 19) (ls'' := [.ref 3, .int a, .int b, .int c]) (st'' := []) (A'' := im_H g2 u o Y) (c'' := 2) (s'' := 12) 3 0 0 hb2 (fun n => rfl) ?_
          refine iv_blk (mi' := 42) (pc' := 24) (ls' := [.ref 3, .int a, .int b, .int c]) (st' := [.int (1 : Int32)]) (A' := im_H g2 u o Y) (c' := 2) (s' := 12) 2 (fun n => rfl) ?_
          exact x42_t_1_ok (g := g2) (y0 := a) (y1 := b) (y2 := c) (y3 := (1 : Int32)) h
def x52_t (g : im_M) (a : Int32) (b : Int32) : Option (im_T × im_M) :=
  Option.bind (x43 g a) (fun q1 =>
    Sum.elim (fun z => some (.inl z, q1.2)) (fun _ =>
    Option.bind (x49 q1.2 b) (fun q2 =>
      Sum.elim (fun z => some (.inl z, q2.2)) (fun _ =>
      none) q2.1)) q1.1)
set_option maxRecDepth 100000 in
set_option maxHeartbeats 4000000 in
theorem x52_t_ok {L : Nat} {xs : Nat → Int32} {g u mm : im_M} {o : Nat → Int64} {Y : iv_A} {a b : Int32} {ret : im_T} (h : x52_t g a b = some (ret, mm)) : iv_ev (iv_Xs L xs) 52 0 [.ref 3, .int a, .int b] [] (im_H g u o Y) 0 0 (im_res ret (im_H mm u o Y)) := by
  unfold x52_t at h
  obtain ⟨v1, g1, hc, h⟩ := iv_bd h
  cases v1 with
  | inl z =>
    have h := iv_sl h
    cases h
    exact iv_calu (mi' := 52) (pc' := 1) (ls' := [.ref 3, .int a, .int b]) (rest := []) (A' := im_H g u o Y) (c' := 0) (s' := 0) (as := [.int a]) (B := im_H g1 u o Y) 2 43 (z.val + 7) (fun n => rfl) rfl (im_zx z) rfl rfl (x43_ok (g := g) (a := a) hc)
  | inr v1 =>
    have h := iv_sr h
    refine iv_cal (mi' := 52) (pc' := 1) (ls' := [.ref 3, .int a, .int b]) (rest := []) (A' := im_H g u o Y) (c' := 0) (s' := 0) (as := [.int a]) (v := none) (A'' := im_H g1 u o Y) 2 43 (fun n => rfl) rfl (x43_ok (g := g) (a := a) hc) ?_
    show iv_ev (iv_Xs L xs) 52 4 [.ref 3, .int a, .int b] [] (im_H g1 u o Y) 1 6 _
    obtain ⟨v2, g2, hc, h⟩ := iv_bd h
    cases v2 with
    | inl z =>
      have h := iv_sl h
      cases h
      exact iv_calu (mi' := 52) (pc' := 5) (ls' := [.ref 3, .int a, .int b]) (rest := []) (A' := im_H g1 u o Y) (c' := 1) (s' := 6) (as := [.int b]) (B := im_H g2 u o Y) 2 49 (z.val + 7) (fun n => rfl) rfl (im_zx z) rfl rfl (x49_ok (g := g1) (a := b) hc)
    | inr v2 =>
      have h := iv_sr h
      refine iv_cal (mi' := 52) (pc' := 5) (ls' := [.ref 3, .int a, .int b]) (rest := []) (A' := im_H g1 u o Y) (c' := 1) (s' := 6) (as := [.int b]) (v := none) (A'' := im_H g2 u o Y) 2 49 (fun n => rfl) rfl (x49_ok (g := g1) (a := b) hc) ?_
      show iv_ev (iv_Xs L xs) 52 8 [.ref 3, .int a, .int b] [] (im_H g2 u o Y) 2 12 _
      cases h
def x54_t_1 (g : im_M) (y0 : Int32) (y1 : Int32) : Option (im_T × im_M) :=
  Option.bind (x55 g y1) (fun q2 =>
    Sum.elim (fun z => some (.inl z, q2.2)) (fun _ =>
    Option.bind (x15_r1 (im_w q2.2 0 6 y0) (11 : Int32) y0 (0 : Int32)) (fun q3 =>
      some (.inr 0, q3.2))) q2.1)
set_option maxRecDepth 100000 in
set_option maxHeartbeats 4000000 in
theorem x54_t_1_ok {L : Nat} {xs : Nat → Int32} {g u mm : im_M} {o : Nat → Int64} {Y : iv_A} {y0 y1 : Int32} {ret : im_T} (h : x54_t_1 g y0 y1 = some (ret, mm)) : iv_ev (iv_Xs L xs) 54 28 [.ref 3, .int y0] [.int y1] (im_H g u o Y) 1 6 (im_rev ret (im_H mm u o Y)) := by
  unfold x54_t_1 at h
  obtain ⟨v2, g2, hc, h⟩ := iv_bd h
  cases v2 with
  | inl z =>
    have h := iv_sl h
    cases h
    exact iv_calu (mi' := 54) (pc' := 28) (ls' := [.ref 3, .int y0]) (rest := []) (A' := im_H g u o Y) (c' := 1) (s' := 6) (as := [.int y1]) (B := im_H g2 u o Y) 1 55 (z.val + 7) (fun n => rfl) rfl (im_zx z) rfl rfl (x55_ok (g := g) (a := y1) hc)
  | inr v2 =>
    have h := iv_sr h
    refine iv_cal (mi' := 54) (pc' := 28) (ls' := [.ref 3, .int y0]) (rest := []) (A' := im_H g u o Y) (c' := 1) (s' := 6) (as := [.int y1]) (v := none) (A'' := im_H g2 u o Y) 1 55 (fun n => rfl) rfl (x55_ok (g := g) (a := y1) hc) ?_
    show iv_ev (iv_Xs L xs) 54 31 [.ref 3, .int y0] [] (im_H g2 u o Y) 2 12 _
    refine iv_blk (mi' := 54) (pc' := 36) (ls' := [.ref 3, .int y0]) (st' := []) (A' := List.set (im_H g2 u o Y) 0 (.inr (5, List.set [.int (g2 0 0), .ref 4, .ref 6, .ref 7, .ref 8, .ref 11, .int (g2 0 6), .int (g2 0 7)] 6 (.int y0)))) (c' := 2) (s' := 12) 3 (fun n => rfl) ?_
    rw [im_f0_6]
    obtain ⟨v3, g3, hc, h⟩ := iv_bd h
    refine iv_cal (mi' := 54) (pc' := 44) (ls' := [.ref 3, .int y0]) (rest := []) (A' := im_H (im_w g2 0 6 y0) u o Y) (c' := 2) (s' := 12) (as := [.ref 4, .int (11 : Int32), .int y0, .int (0 : Int32)]) (v := none) (A'' := im_H g3 u o Y) 6 15 (fun n => rfl) rfl (x15_r1_ok (g := (im_w g2 0 6 y0)) (a := (11 : Int32)) (b := y0) (c := (0 : Int32)) hc) ?_
    show iv_ev (iv_Xs L xs) 54 47 [.ref 3, .int y0] [] (im_H g3 u o Y) 2 12 _
    cases h
    exact iv_ret 1 (fun n => rfl)
def x54_t (g : im_M) (a : Int32) : Option (im_T × im_M) :=
  Option.bind (x43 g a) (fun q1 =>
    Sum.elim (fun z => some (.inl z, q1.2)) (fun _ =>
    bif Op.if_icmp.holds .ne (q1.2 0 6) (-1 : Int32) then
      (x54_t_1 q1.2 a (0 : Int32))
    else
      (bif Op.if_icmp.holds .eq (q1.2 8 0) a then
        (x54_t_1 q1.2 a (0 : Int32))
      else
        (x54_t_1 q1.2 a (1 : Int32)))) q1.1)
set_option maxRecDepth 100000 in
set_option maxHeartbeats 4000000 in
theorem x54_t_ok {L : Nat} {xs : Nat → Int32} {g u mm : im_M} {o : Nat → Int64} {Y : iv_A} {a : Int32} {ret : im_T} (h : x54_t g a = some (ret, mm)) : iv_ev (iv_Xs L xs) 54 0 [.ref 3, .int a] [] (im_H g u o Y) 0 0 (im_rev ret (im_H mm u o Y)) := by
  unfold x54_t at h
  obtain ⟨v1, g1, hc, h⟩ := iv_bd h
  cases v1 with
  | inl z =>
    have h := iv_sl h
    cases h
    exact iv_calu (mi' := 54) (pc' := 1) (ls' := [.ref 3, .int a]) (rest := []) (A' := im_H g u o Y) (c' := 0) (s' := 0) (as := [.int a]) (B := im_H g1 u o Y) 2 43 (z.val + 7) (fun n => rfl) rfl (im_zx z) rfl rfl (x43_ok (g := g) (a := a) hc)
  | inr v1 =>
    have h := iv_sr h
    refine iv_cal (mi' := 54) (pc' := 1) (ls' := [.ref 3, .int a]) (rest := []) (A' := im_H g u o Y) (c' := 0) (s' := 0) (as := [.int a]) (v := none) (A'' := im_H g1 u o Y) 2 43 (fun n => rfl) rfl (x43_ok (g := g) (a := a) hc) ?_
    show iv_ev (iv_Xs L xs) 54 4 [.ref 3, .int a] [] (im_H g1 u o Y) 1 6 _
    cases hb1 : Op.if_icmp.holds .ne (g1 0 6) (-1 : Int32) with
    | true =>
      have h := iv_bt hb1 h
      refine iv_brt (mi' := 54) (pc' := 27) (ls' := [.ref 3, .int a]) (st' := []) (A' := im_H g1 u o Y) (c' := 1) (s' := 6) (mi'' := 54) (pc'' := 12) (ls'' := [.ref 3, .int a]) (st'' := []) (A'' := im_H g1 u o Y) (c'' := 1) (s'' := 6) 4 0 0 hb1 (fun n => rfl) ?_
      refine iv_blk (mi' := 54) (pc' := 28) (ls' := [.ref 3, .int a]) (st' := [.int (0 : Int32)]) (A' := im_H g1 u o Y) (c' := 1) (s' := 6) 1 (fun n => rfl) ?_
      exact x54_t_1_ok (g := g1) (y0 := a) (y1 := (0 : Int32)) h
    | false =>
      have h := iv_bf hb1 h
      refine iv_brf (mi' := 54) (pc' := 27) (ls' := [.ref 3, .int a]) (st' := []) (A' := im_H g1 u o Y) (c' := 1) (s' := 6) (mi'' := 54) (pc'' := 12) (ls'' := [.ref 3, .int a]) (st'' := []) (A'' := im_H g1 u o Y) (c'' := 1) (s'' := 6) 4 0 0 hb1 (fun n => rfl) ?_
      cases hb2 : Op.if_icmp.holds .eq (g1 8 0) a with
      | true =>
        have h := iv_bt hb2 h
        refine iv_brt (mi' := 54) (pc' := 27) (ls' := [.ref 3, .int a]) (st' := []) (A' := im_H g1 u o Y) (c' := 1) (s' := 6) (mi'' := 54) (pc'' := 23) (ls'' := [.ref 3, .int a]) (st'' := []) (A'' := im_H g1 u o Y) (c'' := 1) (s'' := 6) 5 0 0 hb2 (fun n => rfl) ?_
        refine iv_blk (mi' := 54) (pc' := 28) (ls' := [.ref 3, .int a]) (st' := [.int (0 : Int32)]) (A' := im_H g1 u o Y) (c' := 1) (s' := 6) 1 (fun n => rfl) ?_
        exact x54_t_1_ok (g := g1) (y0 := a) (y1 := (0 : Int32)) h
      | false =>
        have h := iv_bf hb2 h
        refine iv_brf (mi' := 54) (pc' := 27) (ls' := [.ref 3, .int a]) (st' := []) (A' := im_H g1 u o Y) (c' := 1) (s' := 6) (mi'' := 54) (pc'' := 23) (ls'' := [.ref 3, .int a]) (st'' := []) (A'' := im_H g1 u o Y) (c'' := 1) (s'' := 6) 5 0 0 hb2 (fun n => rfl) ?_
        refine iv_blk (mi' := 54) (pc' := 28) (ls' := [.ref 3, .int a]) (st' := [.int (1 : Int32)]) (A' := im_H g1 u o Y) (c' := 1) (s' := 6) 2 (fun n => rfl) ?_
        exact x54_t_1_ok (g := g1) (y0 := a) (y1 := (1 : Int32)) h
def x60_t_1 (g : im_M) (y0 : Int32) (y1 : Int32) (y2 : Int32) : Option (im_T × im_M) :=
  Option.bind (x55 g y2) (fun q3 =>
    Sum.elim (fun z => some (.inl z, q3.2)) (fun _ =>
    Option.bind (x61_r8 q3.2 y0 y1) (fun q4 =>
      some (.inr 0, q4.2))) q3.1)
set_option maxRecDepth 100000 in
set_option maxHeartbeats 4000000 in
theorem x60_t_1_ok {L : Nat} {xs : Nat → Int32} {g u mm : im_M} {o : Nat → Int64} {Y : iv_A} {y0 y1 y2 : Int32} {ret : im_T} (h : x60_t_1 g y0 y1 y2 = some (ret, mm)) : iv_ev (iv_Xs L xs) 60 32 [.ref 3, .int y0, .int y1] [.int y2] (im_H g u o Y) 2 12 (im_rev ret (im_H mm u o Y)) := by
  unfold x60_t_1 at h
  obtain ⟨v3, g3, hc, h⟩ := iv_bd h
  cases v3 with
  | inl z =>
    have h := iv_sl h
    cases h
    exact iv_calu (mi' := 60) (pc' := 32) (ls' := [.ref 3, .int y0, .int y1]) (rest := []) (A' := im_H g u o Y) (c' := 2) (s' := 12) (as := [.int y2]) (B := im_H g3 u o Y) 1 55 (z.val + 7) (fun n => rfl) rfl (im_zx z) rfl rfl (x55_ok (g := g) (a := y2) hc)
  | inr v3 =>
    have h := iv_sr h
    refine iv_cal (mi' := 60) (pc' := 32) (ls' := [.ref 3, .int y0, .int y1]) (rest := []) (A' := im_H g u o Y) (c' := 2) (s' := 12) (as := [.int y2]) (v := none) (A'' := im_H g3 u o Y) 1 55 (fun n => rfl) rfl (x55_ok (g := g) (a := y2) hc) ?_
    show iv_ev (iv_Xs L xs) 60 35 [.ref 3, .int y0, .int y1] [] (im_H g3 u o Y) 3 18 _
    obtain ⟨v4, g4, hc, h⟩ := iv_bd h
    refine iv_cal (mi' := 60) (pc' := 41) (ls' := [.ref 3, .int y0, .int y1]) (rest := []) (A' := im_H g3 u o Y) (c' := 3) (s' := 18) (as := [.ref 11, .int y0, .int y1]) (v := none) (A'' := im_H g4 u o Y) 5 61 (fun n => rfl) rfl (x61_r8_ok (g := g3) (a := y0) (b := y1) hc) ?_
    show iv_ev (iv_Xs L xs) 60 44 [.ref 3, .int y0, .int y1] [] (im_H g4 u o Y) 3 18 _
    cases h
    exact iv_ret 1 (fun n => rfl)
def x60_t (g : im_M) (a : Int32) (b : Int32) : Option (im_T × im_M) :=
  Option.bind (x43 g a) (fun q1 =>
    Sum.elim (fun z => some (.inl z, q1.2)) (fun _ =>
    Option.bind (x49 q1.2 b) (fun q2 =>
      Sum.elim (fun z => some (.inl z, q2.2)) (fun _ =>
      bif Op.if_icmp.holds .ne (q2.2 8 0) (-1 : Int32) then
        (x60_t_1 q2.2 a b (0 : Int32))
      else
        (bif Op.if_icmp.holds .eq (q2.2 0 6) a then
          (x60_t_1 q2.2 a b (0 : Int32))
        else
          (x60_t_1 q2.2 a b (1 : Int32)))) q2.1)) q1.1)
set_option maxRecDepth 100000 in
set_option maxHeartbeats 4000000 in
theorem x60_t_ok {L : Nat} {xs : Nat → Int32} {g u mm : im_M} {o : Nat → Int64} {Y : iv_A} {a b : Int32} {ret : im_T} (h : x60_t g a b = some (ret, mm)) : iv_ev (iv_Xs L xs) 60 0 [.ref 3, .int a, .int b] [] (im_H g u o Y) 0 0 (im_rev ret (im_H mm u o Y)) := by
  unfold x60_t at h
  obtain ⟨v1, g1, hc, h⟩ := iv_bd h
  cases v1 with
  | inl z =>
    have h := iv_sl h
    cases h
    exact iv_calu (mi' := 60) (pc' := 1) (ls' := [.ref 3, .int a, .int b]) (rest := []) (A' := im_H g u o Y) (c' := 0) (s' := 0) (as := [.int a]) (B := im_H g1 u o Y) 2 43 (z.val + 7) (fun n => rfl) rfl (im_zx z) rfl rfl (x43_ok (g := g) (a := a) hc)
  | inr v1 =>
    have h := iv_sr h
    refine iv_cal (mi' := 60) (pc' := 1) (ls' := [.ref 3, .int a, .int b]) (rest := []) (A' := im_H g u o Y) (c' := 0) (s' := 0) (as := [.int a]) (v := none) (A'' := im_H g1 u o Y) 2 43 (fun n => rfl) rfl (x43_ok (g := g) (a := a) hc) ?_
    show iv_ev (iv_Xs L xs) 60 4 [.ref 3, .int a, .int b] [] (im_H g1 u o Y) 1 6 _
    obtain ⟨v2, g2, hc, h⟩ := iv_bd h
    cases v2 with
    | inl z =>
      have h := iv_sl h
      cases h
      exact iv_calu (mi' := 60) (pc' := 5) (ls' := [.ref 3, .int a, .int b]) (rest := []) (A' := im_H g1 u o Y) (c' := 1) (s' := 6) (as := [.int b]) (B := im_H g2 u o Y) 2 49 (z.val + 7) (fun n => rfl) rfl (im_zx z) rfl rfl (x49_ok (g := g1) (a := b) hc)
    | inr v2 =>
      have h := iv_sr h
      refine iv_cal (mi' := 60) (pc' := 5) (ls' := [.ref 3, .int a, .int b]) (rest := []) (A' := im_H g1 u o Y) (c' := 1) (s' := 6) (as := [.int b]) (v := none) (A'' := im_H g2 u o Y) 2 49 (fun n => rfl) rfl (x49_ok (g := g1) (a := b) hc) ?_
      show iv_ev (iv_Xs L xs) 60 8 [.ref 3, .int a, .int b] [] (im_H g2 u o Y) 2 12 _
      cases hb1 : Op.if_icmp.holds .ne (g2 8 0) (-1 : Int32) with
      | true =>
        have h := iv_bt hb1 h
        refine iv_brt (mi' := 60) (pc' := 31) (ls' := [.ref 3, .int a, .int b]) (st' := []) (A' := im_H g2 u o Y) (c' := 2) (s' := 12) (mi'' := 60) (pc'' := 19) (ls'' := [.ref 3, .int a, .int b]) (st'' := []) (A'' := im_H g2 u o Y) (c'' := 2) (s'' := 12) 5 0 0 hb1 (fun n => rfl) ?_
        refine iv_blk (mi' := 60) (pc' := 32) (ls' := [.ref 3, .int a, .int b]) (st' := [.int (0 : Int32)]) (A' := im_H g2 u o Y) (c' := 2) (s' := 12) 1 (fun n => rfl) ?_
        exact x60_t_1_ok (g := g2) (y0 := a) (y1 := b) (y2 := (0 : Int32)) h
      | false =>
        have h := iv_bf hb1 h
        refine iv_brf (mi' := 60) (pc' := 31) (ls' := [.ref 3, .int a, .int b]) (st' := []) (A' := im_H g2 u o Y) (c' := 2) (s' := 12) (mi'' := 60) (pc'' := 19) (ls'' := [.ref 3, .int a, .int b]) (st'' := []) (A'' := im_H g2 u o Y) (c'' := 2) (s'' := 12) 5 0 0 hb1 (fun n => rfl) ?_
        cases hb2 : Op.if_icmp.holds .eq (g2 0 6) a with
        | true =>
          have h := iv_bt hb2 h
          refine iv_brt (mi' := 60) (pc' := 31) (ls' := [.ref 3, .int a, .int b]) (st' := []) (A' := im_H g2 u o Y) (c' := 2) (s' := 12) (mi'' := 60) (pc'' := 27) (ls'' := [.ref 3, .int a, .int b]) (st'' := []) (A'' := im_H g2 u o Y) (c'' := 2) (s'' := 12) 4 0 0 hb2 (fun n => rfl) ?_
          refine iv_blk (mi' := 60) (pc' := 32) (ls' := [.ref 3, .int a, .int b]) (st' := [.int (0 : Int32)]) (A' := im_H g2 u o Y) (c' := 2) (s' := 12) 1 (fun n => rfl) ?_
          exact x60_t_1_ok (g := g2) (y0 := a) (y1 := b) (y2 := (0 : Int32)) h
        | false =>
          have h := iv_bf hb2 h
          refine iv_brf (mi' := 60) (pc' := 31) (ls' := [.ref 3, .int a, .int b]) (st' := []) (A' := im_H g2 u o Y) (c' := 2) (s' := 12) (mi'' := 60) (pc'' := 27) (ls'' := [.ref 3, .int a, .int b]) (st'' := []) (A'' := im_H g2 u o Y) (c'' := 2) (s'' := 12) 4 0 0 hb2 (fun n => rfl) ?_
          refine iv_blk (mi' := 60) (pc' := 32) (ls' := [.ref 3, .int a, .int b]) (st' := [.int (1 : Int32)]) (A' := im_H g2 u o Y) (c' := 2) (s' := 12) 2 (fun n => rfl) ?_
          exact x60_t_1_ok (g := g2) (y0 := a) (y1 := b) (y2 := (1 : Int32)) h
def x63_t (g : im_M) (a : Int32) : Option (im_T × im_M) :=
  Option.bind (x64 g a) (fun q1 =>
    Sum.elim (fun z => some (.inl z, q1.2)) (fun _ =>
    none) q1.1)
set_option maxRecDepth 100000 in
set_option maxHeartbeats 4000000 in
theorem x63_t_ok {L : Nat} {xs : Nat → Int32} {g u mm : im_M} {o : Nat → Int64} {Y : iv_A} {a : Int32} {ret : im_T} (h : x63_t g a = some (ret, mm)) : iv_ev (iv_Xs L xs) 63 0 [.ref 3, .int a, .retAddr 0] [] (im_H g u o Y) 0 0 (im_rev ret (im_H mm u o Y)) := by
  unfold x63_t at h
  obtain ⟨v1, g1, hc, h⟩ := iv_bd h
  cases v1 with
  | inl z =>
    have h := iv_sl h
    cases h
    exact iv_calu (mi' := 63) (pc' := 1) (ls' := [.ref 3, .int a, .retAddr 0]) (rest := []) (A' := im_H g u o Y) (c' := 0) (s' := 0) (as := [.int a]) (B := im_H g1 u o Y) 2 64 (z.val + 7) (fun n => rfl) rfl (im_zx z) rfl rfl (x64_ok (g := g) (a := a) hc)
  | inr v1 =>
    have h := iv_sr h
    refine iv_cal (mi' := 63) (pc' := 1) (ls' := [.ref 3, .int a, .retAddr 0]) (rest := []) (A' := im_H g u o Y) (c' := 0) (s' := 0) (as := [.int a]) (v := none) (A'' := im_H g1 u o Y) 2 64 (fun n => rfl) rfl (x64_ok (g := g) (a := a) hc) ?_
    show iv_ev (iv_Xs L xs) 63 4 [.ref 3, .int a, .retAddr 0] [] (im_H g1 u o Y) 1 6 _
    cases h
def x66_t (g : im_M) (a : Int32) (b : Int32) (c : Int32) : Option (im_T × im_M) :=
  Option.bind (x43 g a) (fun q1 =>
    Sum.elim (fun z => some (.inl z, q1.2)) (fun _ =>
    Option.bind (x64 q1.2 b) (fun q2 =>
      Sum.elim (fun z => some (.inl z, q2.2)) (fun _ =>
      none) q2.1)) q1.1)
set_option maxRecDepth 100000 in
set_option maxHeartbeats 4000000 in
theorem x66_t_ok {L : Nat} {xs : Nat → Int32} {g u mm : im_M} {o : Nat → Int64} {Y : iv_A} {a b c : Int32} {ret : im_T} (h : x66_t g a b c = some (ret, mm)) : iv_ev (iv_Xs L xs) 66 0 [.ref 3, .int a, .int b, .int c] [] (im_H g u o Y) 0 0 (im_rev ret (im_H mm u o Y)) := by
  unfold x66_t at h
  obtain ⟨v1, g1, hc, h⟩ := iv_bd h
  cases v1 with
  | inl z =>
    have h := iv_sl h
    cases h
    exact iv_calu (mi' := 66) (pc' := 1) (ls' := [.ref 3, .int a, .int b, .int c]) (rest := []) (A' := im_H g u o Y) (c' := 0) (s' := 0) (as := [.int a]) (B := im_H g1 u o Y) 2 43 (z.val + 7) (fun n => rfl) rfl (im_zx z) rfl rfl (x43_ok (g := g) (a := a) hc)
  | inr v1 =>
    have h := iv_sr h
    refine iv_cal (mi' := 66) (pc' := 1) (ls' := [.ref 3, .int a, .int b, .int c]) (rest := []) (A' := im_H g u o Y) (c' := 0) (s' := 0) (as := [.int a]) (v := none) (A'' := im_H g1 u o Y) 2 43 (fun n => rfl) rfl (x43_ok (g := g) (a := a) hc) ?_
    show iv_ev (iv_Xs L xs) 66 4 [.ref 3, .int a, .int b, .int c] [] (im_H g1 u o Y) 1 6 _
    obtain ⟨v2, g2, hc, h⟩ := iv_bd h
    cases v2 with
    | inl z =>
      have h := iv_sl h
      cases h
      exact iv_calu (mi' := 66) (pc' := 5) (ls' := [.ref 3, .int a, .int b, .int c]) (rest := []) (A' := im_H g1 u o Y) (c' := 1) (s' := 6) (as := [.int b]) (B := im_H g2 u o Y) 2 64 (z.val + 7) (fun n => rfl) rfl (im_zx z) rfl rfl (x64_ok (g := g1) (a := b) hc)
    | inr v2 =>
      have h := iv_sr h
      refine iv_cal (mi' := 66) (pc' := 5) (ls' := [.ref 3, .int a, .int b, .int c]) (rest := []) (A' := im_H g1 u o Y) (c' := 1) (s' := 6) (as := [.int b]) (v := none) (A'' := im_H g2 u o Y) 2 64 (fun n => rfl) rfl (x64_ok (g := g1) (a := b) hc) ?_
      show iv_ev (iv_Xs L xs) 66 8 [.ref 3, .int a, .int b, .int c] [] (im_H g2 u o Y) 2 12 _
      cases h
def x69_t_1 (g : im_M) (y0 : Int32) (y1 : Int32) (y2 : Int32) : Option (im_T × im_M) :=
  Option.bind (x44 g y2) (fun q2 =>
    Sum.elim (fun z => some (.inl z, q2.2)) (fun _ =>
    none) q2.1)
set_option maxRecDepth 100000 in
set_option maxHeartbeats 4000000 in
theorem x69_t_1_ok {L : Nat} {xs : Nat → Int32} {g u mm : im_M} {o : Nat → Int64} {Y : iv_A} {y0 y1 y2 : Int32} {ret : im_T} (h : x69_t_1 g y0 y1 y2 = some (ret, mm)) : iv_ev (iv_Xs L xs) 69 18 [.ref 3, .int y0, .int y1, .retAddr 0] [.int y2] (im_H g u o Y) 1 6 (im_res ret (im_H mm u o Y)) := by
  unfold x69_t_1 at h
  obtain ⟨v2, g2, hc, h⟩ := iv_bd h
  cases v2 with
  | inl z =>
    have h := iv_sl h
    cases h
    exact iv_calu (mi' := 69) (pc' := 18) (ls' := [.ref 3, .int y0, .int y1, .retAddr 0]) (rest := []) (A' := im_H g u o Y) (c' := 1) (s' := 6) (as := [.int y2]) (B := im_H g2 u o Y) 1 44 (z.val + 7) (fun n => rfl) rfl (im_zx z) rfl rfl (x44_ok (g := g) (a := y2) hc)
  | inr v2 =>
    have h := iv_sr h
    refine iv_cal (mi' := 69) (pc' := 18) (ls' := [.ref 3, .int y0, .int y1, .retAddr 0]) (rest := []) (A' := im_H g u o Y) (c' := 1) (s' := 6) (as := [.int y2]) (v := none) (A'' := im_H g2 u o Y) 1 44 (fun n => rfl) rfl (x44_ok (g := g) (a := y2) hc) ?_
    show iv_ev (iv_Xs L xs) 69 21 [.ref 3, .int y0, .int y1, .retAddr 0] [] (im_H g2 u o Y) 2 12 _
    cases h
def x69_t (g : im_M) (a : Int32) (b : Int32) : Option (im_T × im_M) :=
  Option.bind (x43 g a) (fun q1 =>
    Sum.elim (fun z => some (.inl z, q1.2)) (fun _ =>
    bif Op.ifCond.holds .lt b then
      (x69_t_1 q1.2 a b (0 : Int32))
    else
      (bif Op.if_icmp.holds .gt b (2 : Int32) then
        (x69_t_1 q1.2 a b (0 : Int32))
      else
        (x69_t_1 q1.2 a b (1 : Int32)))) q1.1)
set_option maxRecDepth 100000 in
set_option maxHeartbeats 4000000 in
theorem x69_t_ok {L : Nat} {xs : Nat → Int32} {g u mm : im_M} {o : Nat → Int64} {Y : iv_A} {a b : Int32} {ret : im_T} (h : x69_t g a b = some (ret, mm)) : iv_ev (iv_Xs L xs) 69 0 [.ref 3, .int a, .int b, .retAddr 0] [] (im_H g u o Y) 0 0 (im_res ret (im_H mm u o Y)) := by
  unfold x69_t at h
  obtain ⟨v1, g1, hc, h⟩ := iv_bd h
  cases v1 with
  | inl z =>
    have h := iv_sl h
    cases h
    exact iv_calu (mi' := 69) (pc' := 1) (ls' := [.ref 3, .int a, .int b, .retAddr 0]) (rest := []) (A' := im_H g u o Y) (c' := 0) (s' := 0) (as := [.int a]) (B := im_H g1 u o Y) 2 43 (z.val + 7) (fun n => rfl) rfl (im_zx z) rfl rfl (x43_ok (g := g) (a := a) hc)
  | inr v1 =>
    have h := iv_sr h
    refine iv_cal (mi' := 69) (pc' := 1) (ls' := [.ref 3, .int a, .int b, .retAddr 0]) (rest := []) (A' := im_H g u o Y) (c' := 0) (s' := 0) (as := [.int a]) (v := none) (A'' := im_H g1 u o Y) 2 43 (fun n => rfl) rfl (x43_ok (g := g) (a := a) hc) ?_
    show iv_ev (iv_Xs L xs) 69 4 [.ref 3, .int a, .int b, .retAddr 0] [] (im_H g1 u o Y) 1 6 _
    cases hb1 : Op.ifCond.holds .lt b with
    | true =>
      have h := iv_bt hb1 h
      refine iv_brt (mi' := 69) (pc' := 17) (ls' := [.ref 3, .int a, .int b, .retAddr 0]) (st' := []) (A' := im_H g1 u o Y) (c' := 1) (s' := 6) (mi'' := 69) (pc'' := 8) (ls'' := [.ref 3, .int a, .int b, .retAddr 0]) (st'' := []) (A'' := im_H g1 u o Y) (c'' := 1) (s'' := 6) 2 0 0 hb1 (fun n => rfl) ?_
      refine iv_blk (mi' := 69) (pc' := 18) (ls' := [.ref 3, .int a, .int b, .retAddr 0]) (st' := [.int (0 : Int32)]) (A' := im_H g1 u o Y) (c' := 1) (s' := 6) 1 (fun n => rfl) ?_
      exact x69_t_1_ok (g := g1) (y0 := a) (y1 := b) (y2 := (0 : Int32)) h
    | false =>
      have h := iv_bf hb1 h
      refine iv_brf (mi' := 69) (pc' := 17) (ls' := [.ref 3, .int a, .int b, .retAddr 0]) (st' := []) (A' := im_H g1 u o Y) (c' := 1) (s' := 6) (mi'' := 69) (pc'' := 8) (ls'' := [.ref 3, .int a, .int b, .retAddr 0]) (st'' := []) (A'' := im_H g1 u o Y) (c'' := 1) (s'' := 6) 2 0 0 hb1 (fun n => rfl) ?_
      cases hb2 : Op.if_icmp.holds .gt b (2 : Int32) with
      | true =>
        have h := iv_bt hb2 h
        refine iv_brt (mi' := 69) (pc' := 17) (ls' := [.ref 3, .int a, .int b, .retAddr 0]) (st' := []) (A' := im_H g1 u o Y) (c' := 1) (s' := 6) (mi'' := 69) (pc'' := 13) (ls'' := [.ref 3, .int a, .int b, .retAddr 0]) (st'' := []) (A'' := im_H g1 u o Y) (c'' := 1) (s'' := 6) 3 0 0 hb2 (fun n => rfl) ?_
        refine iv_blk (mi' := 69) (pc' := 18) (ls' := [.ref 3, .int a, .int b, .retAddr 0]) (st' := [.int (0 : Int32)]) (A' := im_H g1 u o Y) (c' := 1) (s' := 6) 1 (fun n => rfl) ?_
        exact x69_t_1_ok (g := g1) (y0 := a) (y1 := b) (y2 := (0 : Int32)) h
      | false =>
        have h := iv_bf hb2 h
        refine iv_brf (mi' := 69) (pc' := 17) (ls' := [.ref 3, .int a, .int b, .retAddr 0]) (st' := []) (A' := im_H g1 u o Y) (c' := 1) (s' := 6) (mi'' := 69) (pc'' := 13) (ls'' := [.ref 3, .int a, .int b, .retAddr 0]) (st'' := []) (A'' := im_H g1 u o Y) (c'' := 1) (s'' := 6) 3 0 0 hb2 (fun n => rfl) ?_
        refine iv_blk (mi' := 69) (pc' := 18) (ls' := [.ref 3, .int a, .int b, .retAddr 0]) (st' := [.int (1 : Int32)]) (A' := im_H g1 u o Y) (c' := 1) (s' := 6) 2 (fun n => rfl) ?_
        exact x69_t_1_ok (g := g1) (y0 := a) (y1 := b) (y2 := (1 : Int32)) h
def x71_t (g : im_M) (a : Int32) (b : Int32) : Option (im_T × im_M) :=
  Option.bind (x64 g a) (fun q1 =>
    Sum.elim (fun z => some (.inl z, q1.2)) (fun _ =>
    Option.bind (x43 q1.2 b) (fun q2 =>
      Sum.elim (fun z => some (.inl z, q2.2)) (fun _ =>
      none) q2.1)) q1.1)
set_option maxRecDepth 100000 in
set_option maxHeartbeats 4000000 in
theorem x71_t_ok {L : Nat} {xs : Nat → Int32} {g u mm : im_M} {o : Nat → Int64} {Y : iv_A} {a b : Int32} {ret : im_T} (h : x71_t g a b = some (ret, mm)) : iv_ev (iv_Xs L xs) 71 0 [.ref 3, .int a, .int b] [] (im_H g u o Y) 0 0 (im_res ret (im_H mm u o Y)) := by
  unfold x71_t at h
  obtain ⟨v1, g1, hc, h⟩ := iv_bd h
  cases v1 with
  | inl z =>
    have h := iv_sl h
    cases h
    exact iv_calu (mi' := 71) (pc' := 1) (ls' := [.ref 3, .int a, .int b]) (rest := []) (A' := im_H g u o Y) (c' := 0) (s' := 0) (as := [.int a]) (B := im_H g1 u o Y) 2 64 (z.val + 7) (fun n => rfl) rfl (im_zx z) rfl rfl (x64_ok (g := g) (a := a) hc)
  | inr v1 =>
    have h := iv_sr h
    refine iv_cal (mi' := 71) (pc' := 1) (ls' := [.ref 3, .int a, .int b]) (rest := []) (A' := im_H g u o Y) (c' := 0) (s' := 0) (as := [.int a]) (v := none) (A'' := im_H g1 u o Y) 2 64 (fun n => rfl) rfl (x64_ok (g := g) (a := a) hc) ?_
    show iv_ev (iv_Xs L xs) 71 4 [.ref 3, .int a, .int b] [] (im_H g1 u o Y) 1 6 _
    obtain ⟨v2, g2, hc, h⟩ := iv_bd h
    cases v2 with
    | inl z =>
      have h := iv_sl h
      cases h
      exact iv_calu (mi' := 71) (pc' := 5) (ls' := [.ref 3, .int a, .int b]) (rest := []) (A' := im_H g1 u o Y) (c' := 1) (s' := 6) (as := [.int b]) (B := im_H g2 u o Y) 2 43 (z.val + 7) (fun n => rfl) rfl (im_zx z) rfl rfl (x43_ok (g := g1) (a := b) hc)
    | inr v2 =>
      have h := iv_sr h
      refine iv_cal (mi' := 71) (pc' := 5) (ls' := [.ref 3, .int a, .int b]) (rest := []) (A' := im_H g1 u o Y) (c' := 1) (s' := 6) (as := [.int b]) (v := none) (A'' := im_H g2 u o Y) 2 43 (fun n => rfl) rfl (x43_ok (g := g1) (a := b) hc) ?_
      show iv_ev (iv_Xs L xs) 71 8 [.ref 3, .int a, .int b] [] (im_H g2 u o Y) 2 12 _
      cases h
def x73_t (g : im_M) (a : Int32) : Option (im_T × im_M) :=
  Option.bind (x64 g a) (fun q1 =>
    Sum.elim (fun z => some (.inl z, q1.2)) (fun _ =>
    none) q1.1)
set_option maxRecDepth 100000 in
set_option maxHeartbeats 4000000 in
theorem x73_t_ok {L : Nat} {xs : Nat → Int32} {g u mm : im_M} {o : Nat → Int64} {Y : iv_A} {a : Int32} {ret : im_T} (h : x73_t g a = some (ret, mm)) : iv_ev (iv_Xs L xs) 73 0 [.ref 3, .int a] [] (im_H g u o Y) 0 0 (im_res ret (im_H mm u o Y)) := by
  unfold x73_t at h
  obtain ⟨v1, g1, hc, h⟩ := iv_bd h
  cases v1 with
  | inl z =>
    have h := iv_sl h
    cases h
    exact iv_calu (mi' := 73) (pc' := 1) (ls' := [.ref 3, .int a]) (rest := []) (A' := im_H g u o Y) (c' := 0) (s' := 0) (as := [.int a]) (B := im_H g1 u o Y) 2 64 (z.val + 7) (fun n => rfl) rfl (im_zx z) rfl rfl (x64_ok (g := g) (a := a) hc)
  | inr v1 =>
    have h := iv_sr h
    refine iv_cal (mi' := 73) (pc' := 1) (ls' := [.ref 3, .int a]) (rest := []) (A' := im_H g u o Y) (c' := 0) (s' := 0) (as := [.int a]) (v := none) (A'' := im_H g1 u o Y) 2 64 (fun n => rfl) rfl (x64_ok (g := g) (a := a) hc) ?_
    show iv_ev (iv_Xs L xs) 73 4 [.ref 3, .int a] [] (im_H g1 u o Y) 1 6 _
    cases h
def x75_t (g : im_M) (a : Int32) : Option (im_T × im_M) :=
  Option.bind (x64 g a) (fun q1 =>
    Sum.elim (fun z => some (.inl z, q1.2)) (fun _ =>
    none) q1.1)
set_option maxRecDepth 100000 in
set_option maxHeartbeats 4000000 in
theorem x75_t_ok {L : Nat} {xs : Nat → Int32} {g u mm : im_M} {o : Nat → Int64} {Y : iv_A} {a : Int32} {ret : im_T} (h : x75_t g a = some (ret, mm)) : iv_ev (iv_Xs L xs) 75 0 [.ref 3, .int a] [] (im_H g u o Y) 0 0 (im_res ret (im_H mm u o Y)) := by
  unfold x75_t at h
  obtain ⟨v1, g1, hc, h⟩ := iv_bd h
  cases v1 with
  | inl z =>
    have h := iv_sl h
    cases h
    exact iv_calu (mi' := 75) (pc' := 1) (ls' := [.ref 3, .int a]) (rest := []) (A' := im_H g u o Y) (c' := 0) (s' := 0) (as := [.int a]) (B := im_H g1 u o Y) 2 64 (z.val + 7) (fun n => rfl) rfl (im_zx z) rfl rfl (x64_ok (g := g) (a := a) hc)
  | inr v1 =>
    have h := iv_sr h
    refine iv_cal (mi' := 75) (pc' := 1) (ls' := [.ref 3, .int a]) (rest := []) (A' := im_H g u o Y) (c' := 0) (s' := 0) (as := [.int a]) (v := none) (A'' := im_H g1 u o Y) 2 64 (fun n => rfl) rfl (x64_ok (g := g) (a := a) hc) ?_
    show iv_ev (iv_Xs L xs) 75 4 [.ref 3, .int a] [] (im_H g1 u o Y) 1 6 _
    cases h
