/-! channel, figure (printed by wip/gen/lay1.py) -/
def x69_r0_0_0 (g : im_M) : Option (im_T × im_M) :=
  Option.bind (x43 g (0 : Int32)) (fun q1 =>
    Sum.elim (fun z => some (.inl z, q1.2)) (fun _ =>
    Option.bind (x44 q1.2 (1 : Int32)) (fun q2 =>
      Sum.elim (fun z => some (.inl z, q2.2)) (fun _ =>
      some (.inr ((q2.2 9 6) ||| (q2.2 9 7)), q2.2)) q2.1)) q1.1)
set_option maxRecDepth 100000 in
set_option maxHeartbeats 4000000 in
theorem x69_r0_0_0_ok {L : Nat} {xs : Nat → Int32} {g u mm : im_M} {o : Nat → Int64} {Y : iv_A} {ret : im_T} (h : x69_r0_0_0 g  = some (ret, mm)) : iv_ev (iv_Xs L xs) 69 0 [.ref 3, .int (0 : Int32), .int (0 : Int32), .retAddr 0] [] (im_H g u o Y) 0 0 (im_res ret (im_H mm u o Y)) := by
  unfold x69_r0_0_0 at h
  obtain ⟨v1, g1, hc, h⟩ := iv_bd h
  cases v1 with
  | inl z =>
    have h := iv_sl h
    cases h
    exact iv_calu (mi' := 69) (pc' := 1) (ls' := [.ref 3, .int (0 : Int32), .int (0 : Int32), .retAddr 0]) (rest := []) (A' := im_H g u o Y) (c' := 0) (s' := 0) (as := [.int (0 : Int32)]) (B := im_H g1 u o Y) 2 43 (z.val + 7) (fun n => rfl) rfl (im_zx z) rfl rfl (x43_ok (g := g) (a := (0 : Int32)) hc)
  | inr v1 =>
    have h := iv_sr h
    refine iv_cal (mi' := 69) (pc' := 1) (ls' := [.ref 3, .int (0 : Int32), .int (0 : Int32), .retAddr 0]) (rest := []) (A' := im_H g u o Y) (c' := 0) (s' := 0) (as := [.int (0 : Int32)]) (v := none) (A'' := im_H g1 u o Y) 2 43 (fun n => rfl) rfl (x43_ok (g := g) (a := (0 : Int32)) hc) ?_
    show iv_ev (iv_Xs L xs) 69 4 [.ref 3, .int (0 : Int32), .int (0 : Int32), .retAddr 0] [] (im_H g1 u o Y) 1 6 _
    obtain ⟨v2, g2, hc, h⟩ := iv_bd h
    cases v2 with
    | inl z =>
      have h := iv_sl h
      cases h
      exact iv_calu (mi' := 69) (pc' := 18) (ls' := [.ref 3, .int (0 : Int32), .int (0 : Int32), .retAddr 0]) (rest := []) (A' := im_H g1 u o Y) (c' := 1) (s' := 6) (as := [.int (1 : Int32)]) (B := im_H g2 u o Y) 8 44 (z.val + 7) (fun n => rfl) rfl (im_zx z) rfl rfl (x44_ok (g := g1) (a := (1 : Int32)) hc)
    | inr v2 =>
      have h := iv_sr h
      refine iv_cal (mi' := 69) (pc' := 18) (ls' := [.ref 3, .int (0 : Int32), .int (0 : Int32), .retAddr 0]) (rest := []) (A' := im_H g1 u o Y) (c' := 1) (s' := 6) (as := [.int (1 : Int32)]) (v := none) (A'' := im_H g2 u o Y) 8 44 (fun n => rfl) rfl (x44_ok (g := g1) (a := (1 : Int32)) hc) ?_
      show iv_ev (iv_Xs L xs) 69 21 [.ref 3, .int (0 : Int32), .int (0 : Int32), .retAddr 0] [] (im_H g2 u o Y) 2 12 _
      cases h
      exact iv_ret 13 (fun n => rfl)
def x69_r0_0_1 (g : im_M) : Option (im_T × im_M) :=
  Option.bind (x43 g (0 : Int32)) (fun q1 =>
    Sum.elim (fun z => some (.inl z, q1.2)) (fun _ =>
    Option.bind (x44 q1.2 (1 : Int32)) (fun q2 =>
      Sum.elim (fun z => some (.inl z, q2.2)) (fun _ =>
      some (.inr (q2.2 9 6), q2.2)) q2.1)) q1.1)
set_option maxRecDepth 100000 in
set_option maxHeartbeats 4000000 in
theorem x69_r0_0_1_ok {L : Nat} {xs : Nat → Int32} {g u mm : im_M} {o : Nat → Int64} {Y : iv_A} {ret : im_T} (h : x69_r0_0_1 g  = some (ret, mm)) : iv_ev (iv_Xs L xs) 69 0 [.ref 3, .int (0 : Int32), .int (1 : Int32), .retAddr 0] [] (im_H g u o Y) 0 0 (im_res ret (im_H mm u o Y)) := by
  unfold x69_r0_0_1 at h
  obtain ⟨v1, g1, hc, h⟩ := iv_bd h
  cases v1 with
  | inl z =>
    have h := iv_sl h
    cases h
    exact iv_calu (mi' := 69) (pc' := 1) (ls' := [.ref 3, .int (0 : Int32), .int (1 : Int32), .retAddr 0]) (rest := []) (A' := im_H g u o Y) (c' := 0) (s' := 0) (as := [.int (0 : Int32)]) (B := im_H g1 u o Y) 2 43 (z.val + 7) (fun n => rfl) rfl (im_zx z) rfl rfl (x43_ok (g := g) (a := (0 : Int32)) hc)
  | inr v1 =>
    have h := iv_sr h
    refine iv_cal (mi' := 69) (pc' := 1) (ls' := [.ref 3, .int (0 : Int32), .int (1 : Int32), .retAddr 0]) (rest := []) (A' := im_H g u o Y) (c' := 0) (s' := 0) (as := [.int (0 : Int32)]) (v := none) (A'' := im_H g1 u o Y) 2 43 (fun n => rfl) rfl (x43_ok (g := g) (a := (0 : Int32)) hc) ?_
    show iv_ev (iv_Xs L xs) 69 4 [.ref 3, .int (0 : Int32), .int (1 : Int32), .retAddr 0] [] (im_H g1 u o Y) 1 6 _
    obtain ⟨v2, g2, hc, h⟩ := iv_bd h
    cases v2 with
    | inl z =>
      have h := iv_sl h
      cases h
      exact iv_calu (mi' := 69) (pc' := 18) (ls' := [.ref 3, .int (0 : Int32), .int (1 : Int32), .retAddr 0]) (rest := []) (A' := im_H g1 u o Y) (c' := 1) (s' := 6) (as := [.int (1 : Int32)]) (B := im_H g2 u o Y) 8 44 (z.val + 7) (fun n => rfl) rfl (im_zx z) rfl rfl (x44_ok (g := g1) (a := (1 : Int32)) hc)
    | inr v2 =>
      have h := iv_sr h
      refine iv_cal (mi' := 69) (pc' := 18) (ls' := [.ref 3, .int (0 : Int32), .int (1 : Int32), .retAddr 0]) (rest := []) (A' := im_H g1 u o Y) (c' := 1) (s' := 6) (as := [.int (1 : Int32)]) (v := none) (A'' := im_H g2 u o Y) 8 44 (fun n => rfl) rfl (x44_ok (g := g1) (a := (1 : Int32)) hc) ?_
      show iv_ev (iv_Xs L xs) 69 21 [.ref 3, .int (0 : Int32), .int (1 : Int32), .retAddr 0] [] (im_H g2 u o Y) 2 12 _
      cases h
      exact iv_ret 10 (fun n => rfl)
def x69_r0_0_2 (g : im_M) : Option (im_T × im_M) :=
  Option.bind (x43 g (0 : Int32)) (fun q1 =>
    Sum.elim (fun z => some (.inl z, q1.2)) (fun _ =>
    Option.bind (x44 q1.2 (1 : Int32)) (fun q2 =>
      Sum.elim (fun z => some (.inl z, q2.2)) (fun _ =>
      some (.inr (q2.2 9 7), q2.2)) q2.1)) q1.1)
set_option maxRecDepth 100000 in
set_option maxHeartbeats 4000000 in
theorem x69_r0_0_2_ok {L : Nat} {xs : Nat → Int32} {g u mm : im_M} {o : Nat → Int64} {Y : iv_A} {ret : im_T} (h : x69_r0_0_2 g  = some (ret, mm)) : iv_ev (iv_Xs L xs) 69 0 [.ref 3, .int (0 : Int32), .int (2 : Int32), .retAddr 0] [] (im_H g u o Y) 0 0 (im_res ret (im_H mm u o Y)) := by
  unfold x69_r0_0_2 at h
  obtain ⟨v1, g1, hc, h⟩ := iv_bd h
  cases v1 with
  | inl z =>
    have h := iv_sl h
    cases h
    exact iv_calu (mi' := 69) (pc' := 1) (ls' := [.ref 3, .int (0 : Int32), .int (2 : Int32), .retAddr 0]) (rest := []) (A' := im_H g u o Y) (c' := 0) (s' := 0) (as := [.int (0 : Int32)]) (B := im_H g1 u o Y) 2 43 (z.val + 7) (fun n => rfl) rfl (im_zx z) rfl rfl (x43_ok (g := g) (a := (0 : Int32)) hc)
  | inr v1 =>
    have h := iv_sr h
    refine iv_cal (mi' := 69) (pc' := 1) (ls' := [.ref 3, .int (0 : Int32), .int (2 : Int32), .retAddr 0]) (rest := []) (A' := im_H g u o Y) (c' := 0) (s' := 0) (as := [.int (0 : Int32)]) (v := none) (A'' := im_H g1 u o Y) 2 43 (fun n => rfl) rfl (x43_ok (g := g) (a := (0 : Int32)) hc) ?_
    show iv_ev (iv_Xs L xs) 69 4 [.ref 3, .int (0 : Int32), .int (2 : Int32), .retAddr 0] [] (im_H g1 u o Y) 1 6 _
    obtain ⟨v2, g2, hc, h⟩ := iv_bd h
    cases v2 with
    | inl z =>
      have h := iv_sl h
      cases h
      exact iv_calu (mi' := 69) (pc' := 18) (ls' := [.ref 3, .int (0 : Int32), .int (2 : Int32), .retAddr 0]) (rest := []) (A' := im_H g1 u o Y) (c' := 1) (s' := 6) (as := [.int (1 : Int32)]) (B := im_H g2 u o Y) 8 44 (z.val + 7) (fun n => rfl) rfl (im_zx z) rfl rfl (x44_ok (g := g1) (a := (1 : Int32)) hc)
    | inr v2 =>
      have h := iv_sr h
      refine iv_cal (mi' := 69) (pc' := 18) (ls' := [.ref 3, .int (0 : Int32), .int (2 : Int32), .retAddr 0]) (rest := []) (A' := im_H g1 u o Y) (c' := 1) (s' := 6) (as := [.int (1 : Int32)]) (v := none) (A'' := im_H g2 u o Y) 8 44 (fun n => rfl) rfl (x44_ok (g := g1) (a := (1 : Int32)) hc) ?_
      show iv_ev (iv_Xs L xs) 69 21 [.ref 3, .int (0 : Int32), .int (2 : Int32), .retAddr 0] [] (im_H g2 u o Y) 2 12 _
      cases h
      exact iv_ret 10 (fun n => rfl)
def x69_r0_1_0 (g : im_M) : Option (im_T × im_M) :=
  Option.bind (x43 g (1 : Int32)) (fun q1 =>
    Sum.elim (fun z => some (.inl z, q1.2)) (fun _ =>
    Option.bind (x44 q1.2 (1 : Int32)) (fun q2 =>
      Sum.elim (fun z => some (.inl z, q2.2)) (fun _ =>
      some (.inr ((q2.2 14 6) ||| (q2.2 14 7)), q2.2)) q2.1)) q1.1)
set_option maxRecDepth 100000 in
set_option maxHeartbeats 4000000 in
theorem x69_r0_1_0_ok {L : Nat} {xs : Nat → Int32} {g u mm : im_M} {o : Nat → Int64} {Y : iv_A} {ret : im_T} (h : x69_r0_1_0 g  = some (ret, mm)) : iv_ev (iv_Xs L xs) 69 0 [.ref 3, .int (1 : Int32), .int (0 : Int32), .retAddr 0] [] (im_H g u o Y) 0 0 (im_res ret (im_H mm u o Y)) := by
  unfold x69_r0_1_0 at h
  obtain ⟨v1, g1, hc, h⟩ := iv_bd h
  cases v1 with
  | inl z =>
    have h := iv_sl h
    cases h
    exact iv_calu (mi' := 69) (pc' := 1) (ls' := [.ref 3, .int (1 : Int32), .int (0 : Int32), .retAddr 0]) (rest := []) (A' := im_H g u o Y) (c' := 0) (s' := 0) (as := [.int (1 : Int32)]) (B := im_H g1 u o Y) 2 43 (z.val + 7) (fun n => rfl) rfl (im_zx z) rfl rfl (x43_ok (g := g) (a := (1 : Int32)) hc)
  | inr v1 =>
    have h := iv_sr h
    refine iv_cal (mi' := 69) (pc' := 1) (ls' := [.ref 3, .int (1 : Int32), .int (0 : Int32), .retAddr 0]) (rest := []) (A' := im_H g u o Y) (c' := 0) (s' := 0) (as := [.int (1 : Int32)]) (v := none) (A'' := im_H g1 u o Y) 2 43 (fun n => rfl) rfl (x43_ok (g := g) (a := (1 : Int32)) hc) ?_
    show iv_ev (iv_Xs L xs) 69 4 [.ref 3, .int (1 : Int32), .int (0 : Int32), .retAddr 0] [] (im_H g1 u o Y) 1 6 _
    obtain ⟨v2, g2, hc, h⟩ := iv_bd h
    cases v2 with
    | inl z =>
      have h := iv_sl h
      cases h
      exact iv_calu (mi' := 69) (pc' := 18) (ls' := [.ref 3, .int (1 : Int32), .int (0 : Int32), .retAddr 0]) (rest := []) (A' := im_H g1 u o Y) (c' := 1) (s' := 6) (as := [.int (1 : Int32)]) (B := im_H g2 u o Y) 8 44 (z.val + 7) (fun n => rfl) rfl (im_zx z) rfl rfl (x44_ok (g := g1) (a := (1 : Int32)) hc)
    | inr v2 =>
      have h := iv_sr h
      refine iv_cal (mi' := 69) (pc' := 18) (ls' := [.ref 3, .int (1 : Int32), .int (0 : Int32), .retAddr 0]) (rest := []) (A' := im_H g1 u o Y) (c' := 1) (s' := 6) (as := [.int (1 : Int32)]) (v := none) (A'' := im_H g2 u o Y) 8 44 (fun n => rfl) rfl (x44_ok (g := g1) (a := (1 : Int32)) hc) ?_
      show iv_ev (iv_Xs L xs) 69 21 [.ref 3, .int (1 : Int32), .int (0 : Int32), .retAddr 0] [] (im_H g2 u o Y) 2 12 _
      cases h
      exact iv_ret 13 (fun n => rfl)
def x69_r0_1_1 (g : im_M) : Option (im_T × im_M) :=
  Option.bind (x43 g (1 : Int32)) (fun q1 =>
    Sum.elim (fun z => some (.inl z, q1.2)) (fun _ =>
    Option.bind (x44 q1.2 (1 : Int32)) (fun q2 =>
      Sum.elim (fun z => some (.inl z, q2.2)) (fun _ =>
      some (.inr (q2.2 14 6), q2.2)) q2.1)) q1.1)
set_option maxRecDepth 100000 in
set_option maxHeartbeats 4000000 in
theorem x69_r0_1_1_ok {L : Nat} {xs : Nat → Int32} {g u mm : im_M} {o : Nat → Int64} {Y : iv_A} {ret : im_T} (h : x69_r0_1_1 g  = some (ret, mm)) : iv_ev (iv_Xs L xs) 69 0 [.ref 3, .int (1 : Int32), .int (1 : Int32), .retAddr 0] [] (im_H g u o Y) 0 0 (im_res ret (im_H mm u o Y)) := by
  unfold x69_r0_1_1 at h
  obtain ⟨v1, g1, hc, h⟩ := iv_bd h
  cases v1 with
  | inl z =>
    have h := iv_sl h
    cases h
    exact iv_calu (mi' := 69) (pc' := 1) (ls' := [.ref 3, .int (1 : Int32), .int (1 : Int32), .retAddr 0]) (rest := []) (A' := im_H g u o Y) (c' := 0) (s' := 0) (as := [.int (1 : Int32)]) (B := im_H g1 u o Y) 2 43 (z.val + 7) (fun n => rfl) rfl (im_zx z) rfl rfl (x43_ok (g := g) (a := (1 : Int32)) hc)
  | inr v1 =>
    have h := iv_sr h
    refine iv_cal (mi' := 69) (pc' := 1) (ls' := [.ref 3, .int (1 : Int32), .int (1 : Int32), .retAddr 0]) (rest := []) (A' := im_H g u o Y) (c' := 0) (s' := 0) (as := [.int (1 : Int32)]) (v := none) (A'' := im_H g1 u o Y) 2 43 (fun n => rfl) rfl (x43_ok (g := g) (a := (1 : Int32)) hc) ?_
    show iv_ev (iv_Xs L xs) 69 4 [.ref 3, .int (1 : Int32), .int (1 : Int32), .retAddr 0] [] (im_H g1 u o Y) 1 6 _
    obtain ⟨v2, g2, hc, h⟩ := iv_bd h
    cases v2 with
    | inl z =>
      have h := iv_sl h
      cases h
      exact iv_calu (mi' := 69) (pc' := 18) (ls' := [.ref 3, .int (1 : Int32), .int (1 : Int32), .retAddr 0]) (rest := []) (A' := im_H g1 u o Y) (c' := 1) (s' := 6) (as := [.int (1 : Int32)]) (B := im_H g2 u o Y) 8 44 (z.val + 7) (fun n => rfl) rfl (im_zx z) rfl rfl (x44_ok (g := g1) (a := (1 : Int32)) hc)
    | inr v2 =>
      have h := iv_sr h
      refine iv_cal (mi' := 69) (pc' := 18) (ls' := [.ref 3, .int (1 : Int32), .int (1 : Int32), .retAddr 0]) (rest := []) (A' := im_H g1 u o Y) (c' := 1) (s' := 6) (as := [.int (1 : Int32)]) (v := none) (A'' := im_H g2 u o Y) 8 44 (fun n => rfl) rfl (x44_ok (g := g1) (a := (1 : Int32)) hc) ?_
      show iv_ev (iv_Xs L xs) 69 21 [.ref 3, .int (1 : Int32), .int (1 : Int32), .retAddr 0] [] (im_H g2 u o Y) 2 12 _
      cases h
      exact iv_ret 10 (fun n => rfl)
def x69_r0_1_2 (g : im_M) : Option (im_T × im_M) :=
  Option.bind (x43 g (1 : Int32)) (fun q1 =>
    Sum.elim (fun z => some (.inl z, q1.2)) (fun _ =>
    Option.bind (x44 q1.2 (1 : Int32)) (fun q2 =>
      Sum.elim (fun z => some (.inl z, q2.2)) (fun _ =>
      some (.inr (q2.2 14 7), q2.2)) q2.1)) q1.1)
set_option maxRecDepth 100000 in
set_option maxHeartbeats 4000000 in
theorem x69_r0_1_2_ok {L : Nat} {xs : Nat → Int32} {g u mm : im_M} {o : Nat → Int64} {Y : iv_A} {ret : im_T} (h : x69_r0_1_2 g  = some (ret, mm)) : iv_ev (iv_Xs L xs) 69 0 [.ref 3, .int (1 : Int32), .int (2 : Int32), .retAddr 0] [] (im_H g u o Y) 0 0 (im_res ret (im_H mm u o Y)) := by
  unfold x69_r0_1_2 at h
  obtain ⟨v1, g1, hc, h⟩ := iv_bd h
  cases v1 with
  | inl z =>
    have h := iv_sl h
    cases h
    exact iv_calu (mi' := 69) (pc' := 1) (ls' := [.ref 3, .int (1 : Int32), .int (2 : Int32), .retAddr 0]) (rest := []) (A' := im_H g u o Y) (c' := 0) (s' := 0) (as := [.int (1 : Int32)]) (B := im_H g1 u o Y) 2 43 (z.val + 7) (fun n => rfl) rfl (im_zx z) rfl rfl (x43_ok (g := g) (a := (1 : Int32)) hc)
  | inr v1 =>
    have h := iv_sr h
    refine iv_cal (mi' := 69) (pc' := 1) (ls' := [.ref 3, .int (1 : Int32), .int (2 : Int32), .retAddr 0]) (rest := []) (A' := im_H g u o Y) (c' := 0) (s' := 0) (as := [.int (1 : Int32)]) (v := none) (A'' := im_H g1 u o Y) 2 43 (fun n => rfl) rfl (x43_ok (g := g) (a := (1 : Int32)) hc) ?_
    show iv_ev (iv_Xs L xs) 69 4 [.ref 3, .int (1 : Int32), .int (2 : Int32), .retAddr 0] [] (im_H g1 u o Y) 1 6 _
    obtain ⟨v2, g2, hc, h⟩ := iv_bd h
    cases v2 with
    | inl z =>
      have h := iv_sl h
      cases h
      exact iv_calu (mi' := 69) (pc' := 18) (ls' := [.ref 3, .int (1 : Int32), .int (2 : Int32), .retAddr 0]) (rest := []) (A' := im_H g1 u o Y) (c' := 1) (s' := 6) (as := [.int (1 : Int32)]) (B := im_H g2 u o Y) 8 44 (z.val + 7) (fun n => rfl) rfl (im_zx z) rfl rfl (x44_ok (g := g1) (a := (1 : Int32)) hc)
    | inr v2 =>
      have h := iv_sr h
      refine iv_cal (mi' := 69) (pc' := 18) (ls' := [.ref 3, .int (1 : Int32), .int (2 : Int32), .retAddr 0]) (rest := []) (A' := im_H g1 u o Y) (c' := 1) (s' := 6) (as := [.int (1 : Int32)]) (v := none) (A'' := im_H g2 u o Y) 8 44 (fun n => rfl) rfl (x44_ok (g := g1) (a := (1 : Int32)) hc) ?_
      show iv_ev (iv_Xs L xs) 69 21 [.ref 3, .int (1 : Int32), .int (2 : Int32), .retAddr 0] [] (im_H g2 u o Y) 2 12 _
      cases h
      exact iv_ret 10 (fun n => rfl)
def x69_r0_2_0 (g : im_M) : Option (im_T × im_M) :=
  Option.bind (x43 g (2 : Int32)) (fun q1 =>
    Sum.elim (fun z => some (.inl z, q1.2)) (fun _ =>
    Option.bind (x44 q1.2 (1 : Int32)) (fun q2 =>
      Sum.elim (fun z => some (.inl z, q2.2)) (fun _ =>
      some (.inr ((q2.2 19 6) ||| (q2.2 19 7)), q2.2)) q2.1)) q1.1)
set_option maxRecDepth 100000 in
set_option maxHeartbeats 4000000 in
theorem x69_r0_2_0_ok {L : Nat} {xs : Nat → Int32} {g u mm : im_M} {o : Nat → Int64} {Y : iv_A} {ret : im_T} (h : x69_r0_2_0 g  = some (ret, mm)) : iv_ev (iv_Xs L xs) 69 0 [.ref 3, .int (2 : Int32), .int (0 : Int32), .retAddr 0] [] (im_H g u o Y) 0 0 (im_res ret (im_H mm u o Y)) := by
  unfold x69_r0_2_0 at h
  obtain ⟨v1, g1, hc, h⟩ := iv_bd h
  cases v1 with
  | inl z =>
    have h := iv_sl h
    cases h
    exact iv_calu (mi' := 69) (pc' := 1) (ls' := [.ref 3, .int (2 : Int32), .int (0 : Int32), .retAddr 0]) (rest := []) (A' := im_H g u o Y) (c' := 0) (s' := 0) (as := [.int (2 : Int32)]) (B := im_H g1 u o Y) 2 43 (z.val + 7) (fun n => rfl) rfl (im_zx z) rfl rfl (x43_ok (g := g) (a := (2 : Int32)) hc)
  | inr v1 =>
    have h := iv_sr h
    refine iv_cal (mi' := 69) (pc' := 1) (ls' := [.ref 3, .int (2 : Int32), .int (0 : Int32), .retAddr 0]) (rest := []) (A' := im_H g u o Y) (c' := 0) (s' := 0) (as := [.int (2 : Int32)]) (v := none) (A'' := im_H g1 u o Y) 2 43 (fun n => rfl) rfl (x43_ok (g := g) (a := (2 : Int32)) hc) ?_
    show iv_ev (iv_Xs L xs) 69 4 [.ref 3, .int (2 : Int32), .int (0 : Int32), .retAddr 0] [] (im_H g1 u o Y) 1 6 _
    obtain ⟨v2, g2, hc, h⟩ := iv_bd h
    cases v2 with
    | inl z =>
      have h := iv_sl h
      cases h
      exact iv_calu (mi' := 69) (pc' := 18) (ls' := [.ref 3, .int (2 : Int32), .int (0 : Int32), .retAddr 0]) (rest := []) (A' := im_H g1 u o Y) (c' := 1) (s' := 6) (as := [.int (1 : Int32)]) (B := im_H g2 u o Y) 8 44 (z.val + 7) (fun n => rfl) rfl (im_zx z) rfl rfl (x44_ok (g := g1) (a := (1 : Int32)) hc)
    | inr v2 =>
      have h := iv_sr h
      refine iv_cal (mi' := 69) (pc' := 18) (ls' := [.ref 3, .int (2 : Int32), .int (0 : Int32), .retAddr 0]) (rest := []) (A' := im_H g1 u o Y) (c' := 1) (s' := 6) (as := [.int (1 : Int32)]) (v := none) (A'' := im_H g2 u o Y) 8 44 (fun n => rfl) rfl (x44_ok (g := g1) (a := (1 : Int32)) hc) ?_
      show iv_ev (iv_Xs L xs) 69 21 [.ref 3, .int (2 : Int32), .int (0 : Int32), .retAddr 0] [] (im_H g2 u o Y) 2 12 _
      cases h
      exact iv_ret 13 (fun n => rfl)
def x69_r0_2_1 (g : im_M) : Option (im_T × im_M) :=
  Option.bind (x43 g (2 : Int32)) (fun q1 =>
    Sum.elim (fun z => some (.inl z, q1.2)) (fun _ =>
    Option.bind (x44 q1.2 (1 : Int32)) (fun q2 =>
      Sum.elim (fun z => some (.inl z, q2.2)) (fun _ =>
      some (.inr (q2.2 19 6), q2.2)) q2.1)) q1.1)
set_option maxRecDepth 100000 in
set_option maxHeartbeats 4000000 in
theorem x69_r0_2_1_ok {L : Nat} {xs : Nat → Int32} {g u mm : im_M} {o : Nat → Int64} {Y : iv_A} {ret : im_T} (h : x69_r0_2_1 g  = some (ret, mm)) : iv_ev (iv_Xs L xs) 69 0 [.ref 3, .int (2 : Int32), .int (1 : Int32), .retAddr 0] [] (im_H g u o Y) 0 0 (im_res ret (im_H mm u o Y)) := by
  unfold x69_r0_2_1 at h
  obtain ⟨v1, g1, hc, h⟩ := iv_bd h
  cases v1 with
  | inl z =>
    have h := iv_sl h
    cases h
    exact iv_calu (mi' := 69) (pc' := 1) (ls' := [.ref 3, .int (2 : Int32), .int (1 : Int32), .retAddr 0]) (rest := []) (A' := im_H g u o Y) (c' := 0) (s' := 0) (as := [.int (2 : Int32)]) (B := im_H g1 u o Y) 2 43 (z.val + 7) (fun n => rfl) rfl (im_zx z) rfl rfl (x43_ok (g := g) (a := (2 : Int32)) hc)
  | inr v1 =>
    have h := iv_sr h
    refine iv_cal (mi' := 69) (pc' := 1) (ls' := [.ref 3, .int (2 : Int32), .int (1 : Int32), .retAddr 0]) (rest := []) (A' := im_H g u o Y) (c' := 0) (s' := 0) (as := [.int (2 : Int32)]) (v := none) (A'' := im_H g1 u o Y) 2 43 (fun n => rfl) rfl (x43_ok (g := g) (a := (2 : Int32)) hc) ?_
    show iv_ev (iv_Xs L xs) 69 4 [.ref 3, .int (2 : Int32), .int (1 : Int32), .retAddr 0] [] (im_H g1 u o Y) 1 6 _
    obtain ⟨v2, g2, hc, h⟩ := iv_bd h
    cases v2 with
    | inl z =>
      have h := iv_sl h
      cases h
      exact iv_calu (mi' := 69) (pc' := 18) (ls' := [.ref 3, .int (2 : Int32), .int (1 : Int32), .retAddr 0]) (rest := []) (A' := im_H g1 u o Y) (c' := 1) (s' := 6) (as := [.int (1 : Int32)]) (B := im_H g2 u o Y) 8 44 (z.val + 7) (fun n => rfl) rfl (im_zx z) rfl rfl (x44_ok (g := g1) (a := (1 : Int32)) hc)
    | inr v2 =>
      have h := iv_sr h
      refine iv_cal (mi' := 69) (pc' := 18) (ls' := [.ref 3, .int (2 : Int32), .int (1 : Int32), .retAddr 0]) (rest := []) (A' := im_H g1 u o Y) (c' := 1) (s' := 6) (as := [.int (1 : Int32)]) (v := none) (A'' := im_H g2 u o Y) 8 44 (fun n => rfl) rfl (x44_ok (g := g1) (a := (1 : Int32)) hc) ?_
      show iv_ev (iv_Xs L xs) 69 21 [.ref 3, .int (2 : Int32), .int (1 : Int32), .retAddr 0] [] (im_H g2 u o Y) 2 12 _
      cases h
      exact iv_ret 10 (fun n => rfl)
def x69_r0_2_2 (g : im_M) : Option (im_T × im_M) :=
  Option.bind (x43 g (2 : Int32)) (fun q1 =>
    Sum.elim (fun z => some (.inl z, q1.2)) (fun _ =>
    Option.bind (x44 q1.2 (1 : Int32)) (fun q2 =>
      Sum.elim (fun z => some (.inl z, q2.2)) (fun _ =>
      some (.inr (q2.2 19 7), q2.2)) q2.1)) q1.1)
set_option maxRecDepth 100000 in
set_option maxHeartbeats 4000000 in
theorem x69_r0_2_2_ok {L : Nat} {xs : Nat → Int32} {g u mm : im_M} {o : Nat → Int64} {Y : iv_A} {ret : im_T} (h : x69_r0_2_2 g  = some (ret, mm)) : iv_ev (iv_Xs L xs) 69 0 [.ref 3, .int (2 : Int32), .int (2 : Int32), .retAddr 0] [] (im_H g u o Y) 0 0 (im_res ret (im_H mm u o Y)) := by
  unfold x69_r0_2_2 at h
  obtain ⟨v1, g1, hc, h⟩ := iv_bd h
  cases v1 with
  | inl z =>
    have h := iv_sl h
    cases h
    exact iv_calu (mi' := 69) (pc' := 1) (ls' := [.ref 3, .int (2 : Int32), .int (2 : Int32), .retAddr 0]) (rest := []) (A' := im_H g u o Y) (c' := 0) (s' := 0) (as := [.int (2 : Int32)]) (B := im_H g1 u o Y) 2 43 (z.val + 7) (fun n => rfl) rfl (im_zx z) rfl rfl (x43_ok (g := g) (a := (2 : Int32)) hc)
  | inr v1 =>
    have h := iv_sr h
    refine iv_cal (mi' := 69) (pc' := 1) (ls' := [.ref 3, .int (2 : Int32), .int (2 : Int32), .retAddr 0]) (rest := []) (A' := im_H g u o Y) (c' := 0) (s' := 0) (as := [.int (2 : Int32)]) (v := none) (A'' := im_H g1 u o Y) 2 43 (fun n => rfl) rfl (x43_ok (g := g) (a := (2 : Int32)) hc) ?_
    show iv_ev (iv_Xs L xs) 69 4 [.ref 3, .int (2 : Int32), .int (2 : Int32), .retAddr 0] [] (im_H g1 u o Y) 1 6 _
    obtain ⟨v2, g2, hc, h⟩ := iv_bd h
    cases v2 with
    | inl z =>
      have h := iv_sl h
      cases h
      exact iv_calu (mi' := 69) (pc' := 18) (ls' := [.ref 3, .int (2 : Int32), .int (2 : Int32), .retAddr 0]) (rest := []) (A' := im_H g1 u o Y) (c' := 1) (s' := 6) (as := [.int (1 : Int32)]) (B := im_H g2 u o Y) 8 44 (z.val + 7) (fun n => rfl) rfl (im_zx z) rfl rfl (x44_ok (g := g1) (a := (1 : Int32)) hc)
    | inr v2 =>
      have h := iv_sr h
      refine iv_cal (mi' := 69) (pc' := 18) (ls' := [.ref 3, .int (2 : Int32), .int (2 : Int32), .retAddr 0]) (rest := []) (A' := im_H g1 u o Y) (c' := 1) (s' := 6) (as := [.int (1 : Int32)]) (v := none) (A'' := im_H g2 u o Y) 8 44 (fun n => rfl) rfl (x44_ok (g := g1) (a := (1 : Int32)) hc) ?_
      show iv_ev (iv_Xs L xs) 69 21 [.ref 3, .int (2 : Int32), .int (2 : Int32), .retAddr 0] [] (im_H g2 u o Y) 2 12 _
      cases h
      exact iv_ret 10 (fun n => rfl)
def x69_r0_3_0 (g : im_M) : Option (im_T × im_M) :=
  Option.bind (x43 g (3 : Int32)) (fun q1 =>
    Sum.elim (fun z => some (.inl z, q1.2)) (fun _ =>
    Option.bind (x44 q1.2 (1 : Int32)) (fun q2 =>
      Sum.elim (fun z => some (.inl z, q2.2)) (fun _ =>
      some (.inr ((q2.2 24 6) ||| (q2.2 24 7)), q2.2)) q2.1)) q1.1)
set_option maxRecDepth 100000 in
set_option maxHeartbeats 4000000 in
theorem x69_r0_3_0_ok {L : Nat} {xs : Nat → Int32} {g u mm : im_M} {o : Nat → Int64} {Y : iv_A} {ret : im_T} (h : x69_r0_3_0 g  = some (ret, mm)) : iv_ev (iv_Xs L xs) 69 0 [.ref 3, .int (3 : Int32), .int (0 : Int32), .retAddr 0] [] (im_H g u o Y) 0 0 (im_res ret (im_H mm u o Y)) := by
  unfold x69_r0_3_0 at h
  obtain ⟨v1, g1, hc, h⟩ := iv_bd h
  cases v1 with
  | inl z =>
    have h := iv_sl h
    cases h
    exact iv_calu (mi' := 69) (pc' := 1) (ls' := [.ref 3, .int (3 : Int32), .int (0 : Int32), .retAddr 0]) (rest := []) (A' := im_H g u o Y) (c' := 0) (s' := 0) (as := [.int (3 : Int32)]) (B := im_H g1 u o Y) 2 43 (z.val + 7) (fun n => rfl) rfl (im_zx z) rfl rfl (x43_ok (g := g) (a := (3 : Int32)) hc)
  | inr v1 =>
    have h := iv_sr h
    refine iv_cal (mi' := 69) (pc' := 1) (ls' := [.ref 3, .int (3 : Int32), .int (0 : Int32), .retAddr 0]) (rest := []) (A' := im_H g u o Y) (c' := 0) (s' := 0) (as := [.int (3 : Int32)]) (v := none) (A'' := im_H g1 u o Y) 2 43 (fun n => rfl) rfl (x43_ok (g := g) (a := (3 : Int32)) hc) ?_
    show iv_ev (iv_Xs L xs) 69 4 [.ref 3, .int (3 : Int32), .int (0 : Int32), .retAddr 0] [] (im_H g1 u o Y) 1 6 _
    obtain ⟨v2, g2, hc, h⟩ := iv_bd h
    cases v2 with
    | inl z =>
      have h := iv_sl h
      cases h
      exact iv_calu (mi' := 69) (pc' := 18) (ls' := [.ref 3, .int (3 : Int32), .int (0 : Int32), .retAddr 0]) (rest := []) (A' := im_H g1 u o Y) (c' := 1) (s' := 6) (as := [.int (1 : Int32)]) (B := im_H g2 u o Y) 8 44 (z.val + 7) (fun n => rfl) rfl (im_zx z) rfl rfl (x44_ok (g := g1) (a := (1 : Int32)) hc)
    | inr v2 =>
      have h := iv_sr h
      refine iv_cal (mi' := 69) (pc' := 18) (ls' := [.ref 3, .int (3 : Int32), .int (0 : Int32), .retAddr 0]) (rest := []) (A' := im_H g1 u o Y) (c' := 1) (s' := 6) (as := [.int (1 : Int32)]) (v := none) (A'' := im_H g2 u o Y) 8 44 (fun n => rfl) rfl (x44_ok (g := g1) (a := (1 : Int32)) hc) ?_
      show iv_ev (iv_Xs L xs) 69 21 [.ref 3, .int (3 : Int32), .int (0 : Int32), .retAddr 0] [] (im_H g2 u o Y) 2 12 _
      cases h
      exact iv_ret 13 (fun n => rfl)
def x69_r0_3_1 (g : im_M) : Option (im_T × im_M) :=
  Option.bind (x43 g (3 : Int32)) (fun q1 =>
    Sum.elim (fun z => some (.inl z, q1.2)) (fun _ =>
    Option.bind (x44 q1.2 (1 : Int32)) (fun q2 =>
      Sum.elim (fun z => some (.inl z, q2.2)) (fun _ =>
      some (.inr (q2.2 24 6), q2.2)) q2.1)) q1.1)
set_option maxRecDepth 100000 in
set_option maxHeartbeats 4000000 in
theorem x69_r0_3_1_ok {L : Nat} {xs : Nat → Int32} {g u mm : im_M} {o : Nat → Int64} {Y : iv_A} {ret : im_T} (h : x69_r0_3_1 g  = some (ret, mm)) : iv_ev (iv_Xs L xs) 69 0 [.ref 3, .int (3 : Int32), .int (1 : Int32), .retAddr 0] [] (im_H g u o Y) 0 0 (im_res ret (im_H mm u o Y)) := by
  unfold x69_r0_3_1 at h
  obtain ⟨v1, g1, hc, h⟩ := iv_bd h
  cases v1 with
  | inl z =>
    have h := iv_sl h
    cases h
    exact iv_calu (mi' := 69) (pc' := 1) (ls' := [.ref 3, .int (3 : Int32), .int (1 : Int32), .retAddr 0]) (rest := []) (A' := im_H g u o Y) (c' := 0) (s' := 0) (as := [.int (3 : Int32)]) (B := im_H g1 u o Y) 2 43 (z.val + 7) (fun n => rfl) rfl (im_zx z) rfl rfl (x43_ok (g := g) (a := (3 : Int32)) hc)
  | inr v1 =>
    have h := iv_sr h
    refine iv_cal (mi' := 69) (pc' := 1) (ls' := [.ref 3, .int (3 : Int32), .int (1 : Int32), .retAddr 0]) (rest := []) (A' := im_H g u o Y) (c' := 0) (s' := 0) (as := [.int (3 : Int32)]) (v := none) (A'' := im_H g1 u o Y) 2 43 (fun n => rfl) rfl (x43_ok (g := g) (a := (3 : Int32)) hc) ?_
    show iv_ev (iv_Xs L xs) 69 4 [.ref 3, .int (3 : Int32), .int (1 : Int32), .retAddr 0] [] (im_H g1 u o Y) 1 6 _
    obtain ⟨v2, g2, hc, h⟩ := iv_bd h
    cases v2 with
    | inl z =>
      have h := iv_sl h
      cases h
      exact iv_calu (mi' := 69) (pc' := 18) (ls' := [.ref 3, .int (3 : Int32), .int (1 : Int32), .retAddr 0]) (rest := []) (A' := im_H g1 u o Y) (c' := 1) (s' := 6) (as := [.int (1 : Int32)]) (B := im_H g2 u o Y) 8 44 (z.val + 7) (fun n => rfl) rfl (im_zx z) rfl rfl (x44_ok (g := g1) (a := (1 : Int32)) hc)
    | inr v2 =>
      have h := iv_sr h
      refine iv_cal (mi' := 69) (pc' := 18) (ls' := [.ref 3, .int (3 : Int32), .int (1 : Int32), .retAddr 0]) (rest := []) (A' := im_H g1 u o Y) (c' := 1) (s' := 6) (as := [.int (1 : Int32)]) (v := none) (A'' := im_H g2 u o Y) 8 44 (fun n => rfl) rfl (x44_ok (g := g1) (a := (1 : Int32)) hc) ?_
      show iv_ev (iv_Xs L xs) 69 21 [.ref 3, .int (3 : Int32), .int (1 : Int32), .retAddr 0] [] (im_H g2 u o Y) 2 12 _
      cases h
      exact iv_ret 10 (fun n => rfl)
def x69_r0_3_2 (g : im_M) : Option (im_T × im_M) :=
  Option.bind (x43 g (3 : Int32)) (fun q1 =>
    Sum.elim (fun z => some (.inl z, q1.2)) (fun _ =>
    Option.bind (x44 q1.2 (1 : Int32)) (fun q2 =>
      Sum.elim (fun z => some (.inl z, q2.2)) (fun _ =>
      some (.inr (q2.2 24 7), q2.2)) q2.1)) q1.1)
set_option maxRecDepth 100000 in
set_option maxHeartbeats 4000000 in
theorem x69_r0_3_2_ok {L : Nat} {xs : Nat → Int32} {g u mm : im_M} {o : Nat → Int64} {Y : iv_A} {ret : im_T} (h : x69_r0_3_2 g  = some (ret, mm)) : iv_ev (iv_Xs L xs) 69 0 [.ref 3, .int (3 : Int32), .int (2 : Int32), .retAddr 0] [] (im_H g u o Y) 0 0 (im_res ret (im_H mm u o Y)) := by
  unfold x69_r0_3_2 at h
  obtain ⟨v1, g1, hc, h⟩ := iv_bd h
  cases v1 with
  | inl z =>
    have h := iv_sl h
    cases h
    exact iv_calu (mi' := 69) (pc' := 1) (ls' := [.ref 3, .int (3 : Int32), .int (2 : Int32), .retAddr 0]) (rest := []) (A' := im_H g u o Y) (c' := 0) (s' := 0) (as := [.int (3 : Int32)]) (B := im_H g1 u o Y) 2 43 (z.val + 7) (fun n => rfl) rfl (im_zx z) rfl rfl (x43_ok (g := g) (a := (3 : Int32)) hc)
  | inr v1 =>
    have h := iv_sr h
    refine iv_cal (mi' := 69) (pc' := 1) (ls' := [.ref 3, .int (3 : Int32), .int (2 : Int32), .retAddr 0]) (rest := []) (A' := im_H g u o Y) (c' := 0) (s' := 0) (as := [.int (3 : Int32)]) (v := none) (A'' := im_H g1 u o Y) 2 43 (fun n => rfl) rfl (x43_ok (g := g) (a := (3 : Int32)) hc) ?_
    show iv_ev (iv_Xs L xs) 69 4 [.ref 3, .int (3 : Int32), .int (2 : Int32), .retAddr 0] [] (im_H g1 u o Y) 1 6 _
    obtain ⟨v2, g2, hc, h⟩ := iv_bd h
    cases v2 with
    | inl z =>
      have h := iv_sl h
      cases h
      exact iv_calu (mi' := 69) (pc' := 18) (ls' := [.ref 3, .int (3 : Int32), .int (2 : Int32), .retAddr 0]) (rest := []) (A' := im_H g1 u o Y) (c' := 1) (s' := 6) (as := [.int (1 : Int32)]) (B := im_H g2 u o Y) 8 44 (z.val + 7) (fun n => rfl) rfl (im_zx z) rfl rfl (x44_ok (g := g1) (a := (1 : Int32)) hc)
    | inr v2 =>
      have h := iv_sr h
      refine iv_cal (mi' := 69) (pc' := 18) (ls' := [.ref 3, .int (3 : Int32), .int (2 : Int32), .retAddr 0]) (rest := []) (A' := im_H g1 u o Y) (c' := 1) (s' := 6) (as := [.int (1 : Int32)]) (v := none) (A'' := im_H g2 u o Y) 8 44 (fun n => rfl) rfl (x44_ok (g := g1) (a := (1 : Int32)) hc) ?_
      show iv_ev (iv_Xs L xs) 69 21 [.ref 3, .int (3 : Int32), .int (2 : Int32), .retAddr 0] [] (im_H g2 u o Y) 2 12 _
      cases h
      exact iv_ret 10 (fun n => rfl)
def x82_r0_0 (g : im_M) : Option (im_T × im_M) :=
  some (.inr (g 1 1), g)
set_option maxRecDepth 100000 in
set_option maxHeartbeats 4000000 in
theorem x82_r0_0_ok {L : Nat} {xs : Nat → Int32} {g u mm : im_M} {o : Nat → Int64} {Y : iv_A} {ret : im_T} (h : x82_r0_0 g  = some (ret, mm)) : iv_ev (iv_Xs L xs) 82 0 [.ref 3, .int (0 : Int32)] [] (im_H g u o Y) 0 0 (im_res ret (im_H mm u o Y)) := by
  unfold x82_r0_0 at h
  cases h
  exact iv_ret 6 (fun n => rfl)
def x82_r0_1 (g : im_M) : Option (im_T × im_M) :=
  some (.inr (g 1 2), g)
set_option maxRecDepth 100000 in
set_option maxHeartbeats 4000000 in
theorem x82_r0_1_ok {L : Nat} {xs : Nat → Int32} {g u mm : im_M} {o : Nat → Int64} {Y : iv_A} {ret : im_T} (h : x82_r0_1 g  = some (ret, mm)) : iv_ev (iv_Xs L xs) 82 0 [.ref 3, .int (1 : Int32)] [] (im_H g u o Y) 0 0 (im_res ret (im_H mm u o Y)) := by
  unfold x82_r0_1 at h
  cases h
  exact iv_ret 6 (fun n => rfl)
def x82_r0_2 (g : im_M) : Option (im_T × im_M) :=
  some (.inr (g 0 7), g)
set_option maxRecDepth 100000 in
set_option maxHeartbeats 4000000 in
theorem x82_r0_2_ok {L : Nat} {xs : Nat → Int32} {g u mm : im_M} {o : Nat → Int64} {Y : iv_A} {ret : im_T} (h : x82_r0_2 g  = some (ret, mm)) : iv_ev (iv_Xs L xs) 82 0 [.ref 3, .int (2 : Int32)] [] (im_H g u o Y) 0 0 (im_res ret (im_H mm u o Y)) := by
  unfold x82_r0_2 at h
  cases h
  exact iv_ret 5 (fun n => rfl)
def x82_r0_3 (g : im_M) : Option (im_T × im_M) :=
  some (.inr (g 8 3), g)
set_option maxRecDepth 100000 in
set_option maxHeartbeats 4000000 in
theorem x82_r0_3_ok {L : Nat} {xs : Nat → Int32} {g u mm : im_M} {o : Nat → Int64} {Y : iv_A} {ret : im_T} (h : x82_r0_3 g  = some (ret, mm)) : iv_ev (iv_Xs L xs) 82 0 [.ref 3, .int (3 : Int32)] [] (im_H g u o Y) 0 0 (im_res ret (im_H mm u o Y)) := by
  unfold x82_r0_3 at h
  cases h
  exact iv_ret 6 (fun n => rfl)
def x82_r0_4 (g : im_M) : Option (im_T × im_M) :=
  some (.inr (g 8 4), g)
set_option maxRecDepth 100000 in
set_option maxHeartbeats 4000000 in
theorem x82_r0_4_ok {L : Nat} {xs : Nat → Int32} {g u mm : im_M} {o : Nat → Int64} {Y : iv_A} {ret : im_T} (h : x82_r0_4 g  = some (ret, mm)) : iv_ev (iv_Xs L xs) 82 0 [.ref 3, .int (4 : Int32)] [] (im_H g u o Y) 0 0 (im_res ret (im_H mm u o Y)) := by
  unfold x82_r0_4 at h
  cases h
  exact iv_ret 6 (fun n => rfl)
def x82_r0_5 (g : im_M) : Option (im_T × im_M) :=
  some (.inr (g 0 6), g)
set_option maxRecDepth 100000 in
set_option maxHeartbeats 4000000 in
theorem x82_r0_5_ok {L : Nat} {xs : Nat → Int32} {g u mm : im_M} {o : Nat → Int64} {Y : iv_A} {ret : im_T} (h : x82_r0_5 g  = some (ret, mm)) : iv_ev (iv_Xs L xs) 82 0 [.ref 3, .int (5 : Int32)] [] (im_H g u o Y) 0 0 (im_res ret (im_H mm u o Y)) := by
  unfold x82_r0_5 at h
  cases h
  exact iv_ret 5 (fun n => rfl)
def x82_r0_6 (g : im_M) : Option (im_T × im_M) :=
  some (.inr (g 8 0), g)
set_option maxRecDepth 100000 in
set_option maxHeartbeats 4000000 in
theorem x82_r0_6_ok {L : Nat} {xs : Nat → Int32} {g u mm : im_M} {o : Nat → Int64} {Y : iv_A} {ret : im_T} (h : x82_r0_6 g  = some (ret, mm)) : iv_ev (iv_Xs L xs) 82 0 [.ref 3, .int (6 : Int32)] [] (im_H g u o Y) 0 0 (im_res ret (im_H mm u o Y)) := by
  unfold x82_r0_6 at h
  cases h
  exact iv_ret 6 (fun n => rfl)
