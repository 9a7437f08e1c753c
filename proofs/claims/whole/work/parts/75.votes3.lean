/-! votes of channel 3 (printed by wip/gen/lay1.py) -/
def x71_r0_0_3 (g : im_M) : Option (im_T × im_M) :=
  Option.bind (x64 g (0 : Int32)) (fun q1 =>
    Sum.elim (fun z => some (.inl z, q1.2)) (fun _ =>
    Option.bind (x43 q1.2 (3 : Int32)) (fun q2 =>
      Sum.elim (fun z => some (.inl z, q2.2)) (fun _ =>
      some (.inr ((q2.2 30 3) &&& (7 : Int32)), q2.2)) q2.1)) q1.1)
set_option maxRecDepth 100000 in
set_option maxHeartbeats 4000000 in
theorem x71_r0_0_3_ok {L : Nat} {xs : Nat → Int32} {g u mm : im_M} {o : Nat → Int64} {Y : iv_A} {ret : im_T} (h : x71_r0_0_3 g  = some (ret, mm)) : iv_ev (iv_Xs L xs) 71 0 [.ref 3, .int (0 : Int32), .int (3 : Int32)] [] (im_H g u o Y) 0 0 (im_res ret (im_H mm u o Y)) := by
  unfold x71_r0_0_3 at h
  obtain ⟨v1, g1, hc, h⟩ := iv_bd h
  cases v1 with
  | inl z =>
    have h := iv_sl h
    cases h
    exact iv_calu (mi' := 71) (pc' := 1) (ls' := [.ref 3, .int (0 : Int32), .int (3 : Int32)]) (rest := []) (A' := im_H g u o Y) (c' := 0) (s' := 0) (as := [.int (0 : Int32)]) (B := im_H g1 u o Y) 2 64 (z.val + 7) (fun n => rfl) rfl (im_zx z) rfl rfl (x64_ok (g := g) (a := (0 : Int32)) hc)
  | inr v1 =>
    have h := iv_sr h
    refine iv_cal (mi' := 71) (pc' := 1) (ls' := [.ref 3, .int (0 : Int32), .int (3 : Int32)]) (rest := []) (A' := im_H g u o Y) (c' := 0) (s' := 0) (as := [.int (0 : Int32)]) (v := none) (A'' := im_H g1 u o Y) 2 64 (fun n => rfl) rfl (x64_ok (g := g) (a := (0 : Int32)) hc) ?_
    show iv_ev (iv_Xs L xs) 71 4 [.ref 3, .int (0 : Int32), .int (3 : Int32)] [] (im_H g1 u o Y) 1 6 _
    obtain ⟨v2, g2, hc, h⟩ := iv_bd h
    cases v2 with
    | inl z =>
      have h := iv_sl h
      cases h
      exact iv_calu (mi' := 71) (pc' := 5) (ls' := [.ref 3, .int (0 : Int32), .int (3 : Int32)]) (rest := []) (A' := im_H g1 u o Y) (c' := 1) (s' := 6) (as := [.int (3 : Int32)]) (B := im_H g2 u o Y) 2 43 (z.val + 7) (fun n => rfl) rfl (im_zx z) rfl rfl (x43_ok (g := g1) (a := (3 : Int32)) hc)
    | inr v2 =>
      have h := iv_sr h
      refine iv_cal (mi' := 71) (pc' := 5) (ls' := [.ref 3, .int (0 : Int32), .int (3 : Int32)]) (rest := []) (A' := im_H g1 u o Y) (c' := 1) (s' := 6) (as := [.int (3 : Int32)]) (v := none) (A'' := im_H g2 u o Y) 2 43 (fun n => rfl) rfl (x43_ok (g := g1) (a := (3 : Int32)) hc) ?_
      show iv_ev (iv_Xs L xs) 71 8 [.ref 3, .int (0 : Int32), .int (3 : Int32)] [] (im_H g2 u o Y) 2 12 _
      cases h
      exact iv_ret 10 (fun n => rfl)
def x71_r0_1_3 (g : im_M) : Option (im_T × im_M) :=
  Option.bind (x64 g (1 : Int32)) (fun q1 =>
    Sum.elim (fun z => some (.inl z, q1.2)) (fun _ =>
    Option.bind (x43 q1.2 (3 : Int32)) (fun q2 =>
      Sum.elim (fun z => some (.inl z, q2.2)) (fun _ =>
      some (.inr ((q2.2 32 3) &&& (7 : Int32)), q2.2)) q2.1)) q1.1)
set_option maxRecDepth 100000 in
set_option maxHeartbeats 4000000 in
theorem x71_r0_1_3_ok {L : Nat} {xs : Nat → Int32} {g u mm : im_M} {o : Nat → Int64} {Y : iv_A} {ret : im_T} (h : x71_r0_1_3 g  = some (ret, mm)) : iv_ev (iv_Xs L xs) 71 0 [.ref 3, .int (1 : Int32), .int (3 : Int32)] [] (im_H g u o Y) 0 0 (im_res ret (im_H mm u o Y)) := by
  unfold x71_r0_1_3 at h
  obtain ⟨v1, g1, hc, h⟩ := iv_bd h
  cases v1 with
  | inl z =>
    have h := iv_sl h
    cases h
    exact iv_calu (mi' := 71) (pc' := 1) (ls' := [.ref 3, .int (1 : Int32), .int (3 : Int32)]) (rest := []) (A' := im_H g u o Y) (c' := 0) (s' := 0) (as := [.int (1 : Int32)]) (B := im_H g1 u o Y) 2 64 (z.val + 7) (fun n => rfl) rfl (im_zx z) rfl rfl (x64_ok (g := g) (a := (1 : Int32)) hc)
  | inr v1 =>
    have h := iv_sr h
    refine iv_cal (mi' := 71) (pc' := 1) (ls' := [.ref 3, .int (1 : Int32), .int (3 : Int32)]) (rest := []) (A' := im_H g u o Y) (c' := 0) (s' := 0) (as := [.int (1 : Int32)]) (v := none) (A'' := im_H g1 u o Y) 2 64 (fun n => rfl) rfl (x64_ok (g := g) (a := (1 : Int32)) hc) ?_
    show iv_ev (iv_Xs L xs) 71 4 [.ref 3, .int (1 : Int32), .int (3 : Int32)] [] (im_H g1 u o Y) 1 6 _
    obtain ⟨v2, g2, hc, h⟩ := iv_bd h
    cases v2 with
    | inl z =>
      have h := iv_sl h
      cases h
      exact iv_calu (mi' := 71) (pc' := 5) (ls' := [.ref 3, .int (1 : Int32), .int (3 : Int32)]) (rest := []) (A' := im_H g1 u o Y) (c' := 1) (s' := 6) (as := [.int (3 : Int32)]) (B := im_H g2 u o Y) 2 43 (z.val + 7) (fun n => rfl) rfl (im_zx z) rfl rfl (x43_ok (g := g1) (a := (3 : Int32)) hc)
    | inr v2 =>
      have h := iv_sr h
      refine iv_cal (mi' := 71) (pc' := 5) (ls' := [.ref 3, .int (1 : Int32), .int (3 : Int32)]) (rest := []) (A' := im_H g1 u o Y) (c' := 1) (s' := 6) (as := [.int (3 : Int32)]) (v := none) (A'' := im_H g2 u o Y) 2 43 (fun n => rfl) rfl (x43_ok (g := g1) (a := (3 : Int32)) hc) ?_
      show iv_ev (iv_Xs L xs) 71 8 [.ref 3, .int (1 : Int32), .int (3 : Int32)] [] (im_H g2 u o Y) 2 12 _
      cases h
      exact iv_ret 10 (fun n => rfl)
def x71_r0_2_3 (g : im_M) : Option (im_T × im_M) :=
  Option.bind (x64 g (2 : Int32)) (fun q1 =>
    Sum.elim (fun z => some (.inl z, q1.2)) (fun _ =>
    Option.bind (x43 q1.2 (3 : Int32)) (fun q2 =>
      Sum.elim (fun z => some (.inl z, q2.2)) (fun _ =>
      some (.inr ((q2.2 34 3) &&& (7 : Int32)), q2.2)) q2.1)) q1.1)
set_option maxRecDepth 100000 in
set_option maxHeartbeats 4000000 in
theorem x71_r0_2_3_ok {L : Nat} {xs : Nat → Int32} {g u mm : im_M} {o : Nat → Int64} {Y : iv_A} {ret : im_T} (h : x71_r0_2_3 g  = some (ret, mm)) : iv_ev (iv_Xs L xs) 71 0 [.ref 3, .int (2 : Int32), .int (3 : Int32)] [] (im_H g u o Y) 0 0 (im_res ret (im_H mm u o Y)) := by
  unfold x71_r0_2_3 at h
  obtain ⟨v1, g1, hc, h⟩ := iv_bd h
  cases v1 with
  | inl z =>
    have h := iv_sl h
    cases h
    exact iv_calu (mi' := 71) (pc' := 1) (ls' := [.ref 3, .int (2 : Int32), .int (3 : Int32)]) (rest := []) (A' := im_H g u o Y) (c' := 0) (s' := 0) (as := [.int (2 : Int32)]) (B := im_H g1 u o Y) 2 64 (z.val + 7) (fun n => rfl) rfl (im_zx z) rfl rfl (x64_ok (g := g) (a := (2 : Int32)) hc)
  | inr v1 =>
    have h := iv_sr h
    refine iv_cal (mi' := 71) (pc' := 1) (ls' := [.ref 3, .int (2 : Int32), .int (3 : Int32)]) (rest := []) (A' := im_H g u o Y) (c' := 0) (s' := 0) (as := [.int (2 : Int32)]) (v := none) (A'' := im_H g1 u o Y) 2 64 (fun n => rfl) rfl (x64_ok (g := g) (a := (2 : Int32)) hc) ?_
    show iv_ev (iv_Xs L xs) 71 4 [.ref 3, .int (2 : Int32), .int (3 : Int32)] [] (im_H g1 u o Y) 1 6 _
    obtain ⟨v2, g2, hc, h⟩ := iv_bd h
    cases v2 with
    | inl z =>
      have h := iv_sl h
      cases h
      exact iv_calu (mi' := 71) (pc' := 5) (ls' := [.ref 3, .int (2 : Int32), .int (3 : Int32)]) (rest := []) (A' := im_H g1 u o Y) (c' := 1) (s' := 6) (as := [.int (3 : Int32)]) (B := im_H g2 u o Y) 2 43 (z.val + 7) (fun n => rfl) rfl (im_zx z) rfl rfl (x43_ok (g := g1) (a := (3 : Int32)) hc)
    | inr v2 =>
      have h := iv_sr h
      refine iv_cal (mi' := 71) (pc' := 5) (ls' := [.ref 3, .int (2 : Int32), .int (3 : Int32)]) (rest := []) (A' := im_H g1 u o Y) (c' := 1) (s' := 6) (as := [.int (3 : Int32)]) (v := none) (A'' := im_H g2 u o Y) 2 43 (fun n => rfl) rfl (x43_ok (g := g1) (a := (3 : Int32)) hc) ?_
      show iv_ev (iv_Xs L xs) 71 8 [.ref 3, .int (2 : Int32), .int (3 : Int32)] [] (im_H g2 u o Y) 2 12 _
      cases h
      exact iv_ret 10 (fun n => rfl)
def x71_r0_3_3 (g : im_M) : Option (im_T × im_M) :=
  Option.bind (x64 g (3 : Int32)) (fun q1 =>
    Sum.elim (fun z => some (.inl z, q1.2)) (fun _ =>
    Option.bind (x43 q1.2 (3 : Int32)) (fun q2 =>
      Sum.elim (fun z => some (.inl z, q2.2)) (fun _ =>
      some (.inr ((q2.2 36 3) &&& (7 : Int32)), q2.2)) q2.1)) q1.1)
set_option maxRecDepth 100000 in
set_option maxHeartbeats 4000000 in
theorem x71_r0_3_3_ok {L : Nat} {xs : Nat → Int32} {g u mm : im_M} {o : Nat → Int64} {Y : iv_A} {ret : im_T} (h : x71_r0_3_3 g  = some (ret, mm)) : iv_ev (iv_Xs L xs) 71 0 [.ref 3, .int (3 : Int32), .int (3 : Int32)] [] (im_H g u o Y) 0 0 (im_res ret (im_H mm u o Y)) := by
  unfold x71_r0_3_3 at h
  obtain ⟨v1, g1, hc, h⟩ := iv_bd h
  cases v1 with
  | inl z =>
    have h := iv_sl h
    cases h
    exact iv_calu (mi' := 71) (pc' := 1) (ls' := [.ref 3, .int (3 : Int32), .int (3 : Int32)]) (rest := []) (A' := im_H g u o Y) (c' := 0) (s' := 0) (as := [.int (3 : Int32)]) (B := im_H g1 u o Y) 2 64 (z.val + 7) (fun n => rfl) rfl (im_zx z) rfl rfl (x64_ok (g := g) (a := (3 : Int32)) hc)
  | inr v1 =>
    have h := iv_sr h
    refine iv_cal (mi' := 71) (pc' := 1) (ls' := [.ref 3, .int (3 : Int32), .int (3 : Int32)]) (rest := []) (A' := im_H g u o Y) (c' := 0) (s' := 0) (as := [.int (3 : Int32)]) (v := none) (A'' := im_H g1 u o Y) 2 64 (fun n => rfl) rfl (x64_ok (g := g) (a := (3 : Int32)) hc) ?_
    show iv_ev (iv_Xs L xs) 71 4 [.ref 3, .int (3 : Int32), .int (3 : Int32)] [] (im_H g1 u o Y) 1 6 _
    obtain ⟨v2, g2, hc, h⟩ := iv_bd h
    cases v2 with
    | inl z =>
      have h := iv_sl h
      cases h
      exact iv_calu (mi' := 71) (pc' := 5) (ls' := [.ref 3, .int (3 : Int32), .int (3 : Int32)]) (rest := []) (A' := im_H g1 u o Y) (c' := 1) (s' := 6) (as := [.int (3 : Int32)]) (B := im_H g2 u o Y) 2 43 (z.val + 7) (fun n => rfl) rfl (im_zx z) rfl rfl (x43_ok (g := g1) (a := (3 : Int32)) hc)
    | inr v2 =>
      have h := iv_sr h
      refine iv_cal (mi' := 71) (pc' := 5) (ls' := [.ref 3, .int (3 : Int32), .int (3 : Int32)]) (rest := []) (A' := im_H g1 u o Y) (c' := 1) (s' := 6) (as := [.int (3 : Int32)]) (v := none) (A'' := im_H g2 u o Y) 2 43 (fun n => rfl) rfl (x43_ok (g := g1) (a := (3 : Int32)) hc) ?_
      show iv_ev (iv_Xs L xs) 71 8 [.ref 3, .int (3 : Int32), .int (3 : Int32)] [] (im_H g2 u o Y) 2 12 _
      cases h
      exact iv_ret 10 (fun n => rfl)
