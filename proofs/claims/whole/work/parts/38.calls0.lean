/-! bypass, sense, limit, test, channel, fault (printed by wip/gen/lay1.py) -/
def x67_r5_0_0 (g : im_M) (a : Int32) : Option (Int32 × im_M) :=
  some (0, (im_w g 7 0 (a &&& (16777215 : Int32))))
set_option maxRecDepth 100000 in
set_option maxHeartbeats 4000000 in
theorem x67_r5_0_0_ok {L : Nat} {xs : Nat → Int32} {g u mm : im_M} {o : Nat → Int64} {Y : iv_A} {a ret : Int32} (h : x67_r5_0_0 g a = some (ret, mm)) : iv_ev (iv_Xs L xs) 67 0 [.ref 8, .int (0 : Int32), .int (0 : Int32), .int a] [] (im_H g u o Y) 0 0 (.inl none, im_H mm u o Y) := by
  unfold x67_r5_0_0 at h
  refine iv_blk (mi' := 67) (pc' := 14) (ls' := [.ref 8, .int (0 : Int32), .int (0 : Int32), .int a]) (st' := []) (A' := List.set (im_H g u o Y) 7 (.inl (0, 16, .inl (upd (g 7) 0 (a &&& (16777215 : Int32)))))) (c' := 0) (s' := 0) 11 (fun n => rfl) ?_
  rw [im_a7]
  cases h
  exact iv_ret 1 (fun n => rfl)
def x67_r5_0_1 (g : im_M) (a : Int32) : Option (Int32 × im_M) :=
  some (0, (im_w g 7 1 (a &&& (16777215 : Int32))))
set_option maxRecDepth 100000 in
set_option maxHeartbeats 4000000 in
theorem x67_r5_0_1_ok {L : Nat} {xs : Nat → Int32} {g u mm : im_M} {o : Nat → Int64} {Y : iv_A} {a ret : Int32} (h : x67_r5_0_1 g a = some (ret, mm)) : iv_ev (iv_Xs L xs) 67 0 [.ref 8, .int (0 : Int32), .int (1 : Int32), .int a] [] (im_H g u o Y) 0 0 (.inl none, im_H mm u o Y) := by
  unfold x67_r5_0_1 at h
  refine iv_blk (mi' := 67) (pc' := 14) (ls' := [.ref 8, .int (0 : Int32), .int (1 : Int32), .int a]) (st' := []) (A' := List.set (im_H g u o Y) 7 (.inl (0, 16, .inl (upd (g 7) 1 (a &&& (16777215 : Int32)))))) (c' := 0) (s' := 0) 11 (fun n => rfl) ?_
  rw [im_a7]
  cases h
  exact iv_ret 1 (fun n => rfl)
def x67_r5_0_2 (g : im_M) (a : Int32) : Option (Int32 × im_M) :=
  some (0, (im_w g 7 2 (a &&& (16777215 : Int32))))
set_option maxRecDepth 100000 in
set_option maxHeartbeats 4000000 in
theorem x67_r5_0_2_ok {L : Nat} {xs : Nat → Int32} {g u mm : im_M} {o : Nat → Int64} {Y : iv_A} {a ret : Int32} (h : x67_r5_0_2 g a = some (ret, mm)) : iv_ev (iv_Xs L xs) 67 0 [.ref 8, .int (0 : Int32), .int (2 : Int32), .int a] [] (im_H g u o Y) 0 0 (.inl none, im_H mm u o Y) := by
  unfold x67_r5_0_2 at h
  refine iv_blk (mi' := 67) (pc' := 14) (ls' := [.ref 8, .int (0 : Int32), .int (2 : Int32), .int a]) (st' := []) (A' := List.set (im_H g u o Y) 7 (.inl (0, 16, .inl (upd (g 7) 2 (a &&& (16777215 : Int32)))))) (c' := 0) (s' := 0) 11 (fun n => rfl) ?_
  rw [im_a7]
  cases h
  exact iv_ret 1 (fun n => rfl)
def x67_r5_0_3 (g : im_M) (a : Int32) : Option (Int32 × im_M) :=
  some (0, (im_w g 7 3 (a &&& (16777215 : Int32))))
set_option maxRecDepth 100000 in
set_option maxHeartbeats 4000000 in
theorem x67_r5_0_3_ok {L : Nat} {xs : Nat → Int32} {g u mm : im_M} {o : Nat → Int64} {Y : iv_A} {a ret : Int32} (h : x67_r5_0_3 g a = some (ret, mm)) : iv_ev (iv_Xs L xs) 67 0 [.ref 8, .int (0 : Int32), .int (3 : Int32), .int a] [] (im_H g u o Y) 0 0 (.inl none, im_H mm u o Y) := by
  unfold x67_r5_0_3 at h
  refine iv_blk (mi' := 67) (pc' := 14) (ls' := [.ref 8, .int (0 : Int32), .int (3 : Int32), .int a]) (st' := []) (A' := List.set (im_H g u o Y) 7 (.inl (0, 16, .inl (upd (g 7) 3 (a &&& (16777215 : Int32)))))) (c' := 0) (s' := 0) 11 (fun n => rfl) ?_
  rw [im_a7]
  cases h
  exact iv_ret 1 (fun n => rfl)
def x67_r5_1_0 (g : im_M) (a : Int32) : Option (Int32 × im_M) :=
  some (0, (im_w g 7 4 (a &&& (16777215 : Int32))))
set_option maxRecDepth 100000 in
set_option maxHeartbeats 4000000 in
theorem x67_r5_1_0_ok {L : Nat} {xs : Nat → Int32} {g u mm : im_M} {o : Nat → Int64} {Y : iv_A} {a ret : Int32} (h : x67_r5_1_0 g a = some (ret, mm)) : iv_ev (iv_Xs L xs) 67 0 [.ref 8, .int (1 : Int32), .int (0 : Int32), .int a] [] (im_H g u o Y) 0 0 (.inl none, im_H mm u o Y) := by
  unfold x67_r5_1_0 at h
  refine iv_blk (mi' := 67) (pc' := 14) (ls' := [.ref 8, .int (1 : Int32), .int (0 : Int32), .int a]) (st' := []) (A' := List.set (im_H g u o Y) 7 (.inl (0, 16, .inl (upd (g 7) 4 (a &&& (16777215 : Int32)))))) (c' := 0) (s' := 0) 11 (fun n => rfl) ?_
  rw [im_a7]
  cases h
  exact iv_ret 1 (fun n => rfl)
def x67_r5_1_1 (g : im_M) (a : Int32) : Option (Int32 × im_M) :=
  some (0, (im_w g 7 5 (a &&& (16777215 : Int32))))
set_option maxRecDepth 100000 in
set_option maxHeartbeats 4000000 in
theorem x67_r5_1_1_ok {L : Nat} {xs : Nat → Int32} {g u mm : im_M} {o : Nat → Int64} {Y : iv_A} {a ret : Int32} (h : x67_r5_1_1 g a = some (ret, mm)) : iv_ev (iv_Xs L xs) 67 0 [.ref 8, .int (1 : Int32), .int (1 : Int32), .int a] [] (im_H g u o Y) 0 0 (.inl none, im_H mm u o Y) := by
  unfold x67_r5_1_1 at h
  refine iv_blk (mi' := 67) (pc' := 14) (ls' := [.ref 8, .int (1 : Int32), .int (1 : Int32), .int a]) (st' := []) (A' := List.set (im_H g u o Y) 7 (.inl (0, 16, .inl (upd (g 7) 5 (a &&& (16777215 : Int32)))))) (c' := 0) (s' := 0) 11 (fun n => rfl) ?_
  rw [im_a7]
  cases h
  exact iv_ret 1 (fun n => rfl)
def x67_r5_1_2 (g : im_M) (a : Int32) : Option (Int32 × im_M) :=
  some (0, (im_w g 7 6 (a &&& (16777215 : Int32))))
set_option maxRecDepth 100000 in
set_option maxHeartbeats 4000000 in
theorem x67_r5_1_2_ok {L : Nat} {xs : Nat → Int32} {g u mm : im_M} {o : Nat → Int64} {Y : iv_A} {a ret : Int32} (h : x67_r5_1_2 g a = some (ret, mm)) : iv_ev (iv_Xs L xs) 67 0 [.ref 8, .int (1 : Int32), .int (2 : Int32), .int a] [] (im_H g u o Y) 0 0 (.inl none, im_H mm u o Y) := by
  unfold x67_r5_1_2 at h
  refine iv_blk (mi' := 67) (pc' := 14) (ls' := [.ref 8, .int (1 : Int32), .int (2 : Int32), .int a]) (st' := []) (A' := List.set (im_H g u o Y) 7 (.inl (0, 16, .inl (upd (g 7) 6 (a &&& (16777215 : Int32)))))) (c' := 0) (s' := 0) 11 (fun n => rfl) ?_
  rw [im_a7]
  cases h
  exact iv_ret 1 (fun n => rfl)
def x67_r5_1_3 (g : im_M) (a : Int32) : Option (Int32 × im_M) :=
  some (0, (im_w g 7 7 (a &&& (16777215 : Int32))))
set_option maxRecDepth 100000 in
set_option maxHeartbeats 4000000 in
theorem x67_r5_1_3_ok {L : Nat} {xs : Nat → Int32} {g u mm : im_M} {o : Nat → Int64} {Y : iv_A} {a ret : Int32} (h : x67_r5_1_3 g a = some (ret, mm)) : iv_ev (iv_Xs L xs) 67 0 [.ref 8, .int (1 : Int32), .int (3 : Int32), .int a] [] (im_H g u o Y) 0 0 (.inl none, im_H mm u o Y) := by
  unfold x67_r5_1_3 at h
  refine iv_blk (mi' := 67) (pc' := 14) (ls' := [.ref 8, .int (1 : Int32), .int (3 : Int32), .int a]) (st' := []) (A' := List.set (im_H g u o Y) 7 (.inl (0, 16, .inl (upd (g 7) 7 (a &&& (16777215 : Int32)))))) (c' := 0) (s' := 0) 11 (fun n => rfl) ?_
  rw [im_a7]
  cases h
  exact iv_ret 1 (fun n => rfl)
def x67_r5_2_0 (g : im_M) (a : Int32) : Option (Int32 × im_M) :=
  some (0, (im_w g 7 8 (a &&& (16777215 : Int32))))
set_option maxRecDepth 100000 in
set_option maxHeartbeats 4000000 in
theorem x67_r5_2_0_ok {L : Nat} {xs : Nat → Int32} {g u mm : im_M} {o : Nat → Int64} {Y : iv_A} {a ret : Int32} (h : x67_r5_2_0 g a = some (ret, mm)) : iv_ev (iv_Xs L xs) 67 0 [.ref 8, .int (2 : Int32), .int (0 : Int32), .int a] [] (im_H g u o Y) 0 0 (.inl none, im_H mm u o Y) := by
  unfold x67_r5_2_0 at h
  refine iv_blk (mi' := 67) (pc' := 14) (ls' := [.ref 8, .int (2 : Int32), .int (0 : Int32), .int a]) (st' := []) (A' := List.set (im_H g u o Y) 7 (.inl (0, 16, .inl (upd (g 7) 8 (a &&& (16777215 : Int32)))))) (c' := 0) (s' := 0) 11 (fun n => rfl) ?_
  rw [im_a7]
  cases h
  exact iv_ret 1 (fun n => rfl)
def x67_r5_2_1 (g : im_M) (a : Int32) : Option (Int32 × im_M) :=
  some (0, (im_w g 7 9 (a &&& (16777215 : Int32))))
set_option maxRecDepth 100000 in
set_option maxHeartbeats 4000000 in
theorem x67_r5_2_1_ok {L : Nat} {xs : Nat → Int32} {g u mm : im_M} {o : Nat → Int64} {Y : iv_A} {a ret : Int32} (h : x67_r5_2_1 g a = some (ret, mm)) : iv_ev (iv_Xs L xs) 67 0 [.ref 8, .int (2 : Int32), .int (1 : Int32), .int a] [] (im_H g u o Y) 0 0 (.inl none, im_H mm u o Y) := by
  unfold x67_r5_2_1 at h
  refine iv_blk (mi' := 67) (pc' := 14) (ls' := [.ref 8, .int (2 : Int32), .int (1 : Int32), .int a]) (st' := []) (A' := List.set (im_H g u o Y) 7 (.inl (0, 16, .inl (upd (g 7) 9 (a &&& (16777215 : Int32)))))) (c' := 0) (s' := 0) 11 (fun n => rfl) ?_
  rw [im_a7]
  cases h
  exact iv_ret 1 (fun n => rfl)
def x67_r5_2_2 (g : im_M) (a : Int32) : Option (Int32 × im_M) :=
  some (0, (im_w g 7 10 (a &&& (16777215 : Int32))))
set_option maxRecDepth 100000 in
set_option maxHeartbeats 4000000 in
theorem x67_r5_2_2_ok {L : Nat} {xs : Nat → Int32} {g u mm : im_M} {o : Nat → Int64} {Y : iv_A} {a ret : Int32} (h : x67_r5_2_2 g a = some (ret, mm)) : iv_ev (iv_Xs L xs) 67 0 [.ref 8, .int (2 : Int32), .int (2 : Int32), .int a] [] (im_H g u o Y) 0 0 (.inl none, im_H mm u o Y) := by
  unfold x67_r5_2_2 at h
  refine iv_blk (mi' := 67) (pc' := 14) (ls' := [.ref 8, .int (2 : Int32), .int (2 : Int32), .int a]) (st' := []) (A' := List.set (im_H g u o Y) 7 (.inl (0, 16, .inl (upd (g 7) 10 (a &&& (16777215 : Int32)))))) (c' := 0) (s' := 0) 11 (fun n => rfl) ?_
  rw [im_a7]
  cases h
  exact iv_ret 1 (fun n => rfl)
def x67_r5_2_3 (g : im_M) (a : Int32) : Option (Int32 × im_M) :=
  some (0, (im_w g 7 11 (a &&& (16777215 : Int32))))
set_option maxRecDepth 100000 in
set_option maxHeartbeats 4000000 in
theorem x67_r5_2_3_ok {L : Nat} {xs : Nat → Int32} {g u mm : im_M} {o : Nat → Int64} {Y : iv_A} {a ret : Int32} (h : x67_r5_2_3 g a = some (ret, mm)) : iv_ev (iv_Xs L xs) 67 0 [.ref 8, .int (2 : Int32), .int (3 : Int32), .int a] [] (im_H g u o Y) 0 0 (.inl none, im_H mm u o Y) := by
  unfold x67_r5_2_3 at h
  refine iv_blk (mi' := 67) (pc' := 14) (ls' := [.ref 8, .int (2 : Int32), .int (3 : Int32), .int a]) (st' := []) (A' := List.set (im_H g u o Y) 7 (.inl (0, 16, .inl (upd (g 7) 11 (a &&& (16777215 : Int32)))))) (c' := 0) (s' := 0) 11 (fun n => rfl) ?_
  rw [im_a7]
  cases h
  exact iv_ret 1 (fun n => rfl)
def x67_r5_3_0 (g : im_M) (a : Int32) : Option (Int32 × im_M) :=
  some (0, (im_w g 7 12 (a &&& (16777215 : Int32))))
set_option maxRecDepth 100000 in
set_option maxHeartbeats 4000000 in
theorem x67_r5_3_0_ok {L : Nat} {xs : Nat → Int32} {g u mm : im_M} {o : Nat → Int64} {Y : iv_A} {a ret : Int32} (h : x67_r5_3_0 g a = some (ret, mm)) : iv_ev (iv_Xs L xs) 67 0 [.ref 8, .int (3 : Int32), .int (0 : Int32), .int a] [] (im_H g u o Y) 0 0 (.inl none, im_H mm u o Y) := by
  unfold x67_r5_3_0 at h
  refine iv_blk (mi' := 67) (pc' := 14) (ls' := [.ref 8, .int (3 : Int32), .int (0 : Int32), .int a]) (st' := []) (A' := List.set (im_H g u o Y) 7 (.inl (0, 16, .inl (upd (g 7) 12 (a &&& (16777215 : Int32)))))) (c' := 0) (s' := 0) 11 (fun n => rfl) ?_
  rw [im_a7]
  cases h
  exact iv_ret 1 (fun n => rfl)
def x67_r5_3_1 (g : im_M) (a : Int32) : Option (Int32 × im_M) :=
  some (0, (im_w g 7 13 (a &&& (16777215 : Int32))))
set_option maxRecDepth 100000 in
set_option maxHeartbeats 4000000 in
theorem x67_r5_3_1_ok {L : Nat} {xs : Nat → Int32} {g u mm : im_M} {o : Nat → Int64} {Y : iv_A} {a ret : Int32} (h : x67_r5_3_1 g a = some (ret, mm)) : iv_ev (iv_Xs L xs) 67 0 [.ref 8, .int (3 : Int32), .int (1 : Int32), .int a] [] (im_H g u o Y) 0 0 (.inl none, im_H mm u o Y) := by
  unfold x67_r5_3_1 at h
  refine iv_blk (mi' := 67) (pc' := 14) (ls' := [.ref 8, .int (3 : Int32), .int (1 : Int32), .int a]) (st' := []) (A' := List.set (im_H g u o Y) 7 (.inl (0, 16, .inl (upd (g 7) 13 (a &&& (16777215 : Int32)))))) (c' := 0) (s' := 0) 11 (fun n => rfl) ?_
  rw [im_a7]
  cases h
  exact iv_ret 1 (fun n => rfl)
def x67_r5_3_2 (g : im_M) (a : Int32) : Option (Int32 × im_M) :=
  some (0, (im_w g 7 14 (a &&& (16777215 : Int32))))
set_option maxRecDepth 100000 in
set_option maxHeartbeats 4000000 in
theorem x67_r5_3_2_ok {L : Nat} {xs : Nat → Int32} {g u mm : im_M} {o : Nat → Int64} {Y : iv_A} {a ret : Int32} (h : x67_r5_3_2 g a = some (ret, mm)) : iv_ev (iv_Xs L xs) 67 0 [.ref 8, .int (3 : Int32), .int (2 : Int32), .int a] [] (im_H g u o Y) 0 0 (.inl none, im_H mm u o Y) := by
  unfold x67_r5_3_2 at h
  refine iv_blk (mi' := 67) (pc' := 14) (ls' := [.ref 8, .int (3 : Int32), .int (2 : Int32), .int a]) (st' := []) (A' := List.set (im_H g u o Y) 7 (.inl (0, 16, .inl (upd (g 7) 14 (a &&& (16777215 : Int32)))))) (c' := 0) (s' := 0) 11 (fun n => rfl) ?_
  rw [im_a7]
  cases h
  exact iv_ret 1 (fun n => rfl)
def x67_r5_3_3 (g : im_M) (a : Int32) : Option (Int32 × im_M) :=
  some (0, (im_w g 7 15 (a &&& (16777215 : Int32))))
set_option maxRecDepth 100000 in
set_option maxHeartbeats 4000000 in
theorem x67_r5_3_3_ok {L : Nat} {xs : Nat → Int32} {g u mm : im_M} {o : Nat → Int64} {Y : iv_A} {a ret : Int32} (h : x67_r5_3_3 g a = some (ret, mm)) : iv_ev (iv_Xs L xs) 67 0 [.ref 8, .int (3 : Int32), .int (3 : Int32), .int a] [] (im_H g u o Y) 0 0 (.inl none, im_H mm u o Y) := by
  unfold x67_r5_3_3 at h
  refine iv_blk (mi' := 67) (pc' := 14) (ls' := [.ref 8, .int (3 : Int32), .int (3 : Int32), .int a]) (st' := []) (A' := List.set (im_H g u o Y) 7 (.inl (0, 16, .inl (upd (g 7) 15 (a &&& (16777215 : Int32)))))) (c' := 0) (s' := 0) 11 (fun n => rfl) ?_
  rw [im_a7]
  cases h
  exact iv_ret 1 (fun n => rfl)
def x54_r0_0_1 (g : im_M) (y0 : Int32) : Option (im_T × im_M) :=
  Option.bind (x55 g y0) (fun q2 =>
    Sum.elim (fun z => some (.inl z, q2.2)) (fun _ =>
    Option.bind (x15_r1 (im_w q2.2 0 6 (0 : Int32)) (11 : Int32) (0 : Int32) (0 : Int32)) (fun q3 =>
      some (.inr 0, q3.2))) q2.1)
set_option maxRecDepth 100000 in
set_option maxHeartbeats 4000000 in
theorem x54_r0_0_1_ok {L : Nat} {xs : Nat → Int32} {g u mm : im_M} {o : Nat → Int64} {Y : iv_A} {y0 : Int32} {ret : im_T} (h : x54_r0_0_1 g y0 = some (ret, mm)) : iv_ev (iv_Xs L xs) 54 28 [.ref 3, .int (0 : Int32)] [.int y0] (im_H g u o Y) 1 6 (im_rev ret (im_H mm u o Y)) := by
  unfold x54_r0_0_1 at h
  obtain ⟨v2, g2, hc, h⟩ := iv_bd h
  cases v2 with
  | inl z =>
    have h := iv_sl h
    cases h
    exact iv_calu (mi' := 54) (pc' := 28) (ls' := [.ref 3, .int (0 : Int32)]) (rest := []) (A' := im_H g u o Y) (c' := 1) (s' := 6) (as := [.int y0]) (B := im_H g2 u o Y) 1 55 (z.val + 7) (fun n => rfl) rfl (im_zx z) rfl rfl (x55_ok (g := g) (a := y0) hc)
  | inr v2 =>
    have h := iv_sr h
    refine iv_cal (mi' := 54) (pc' := 28) (ls' := [.ref 3, .int (0 : Int32)]) (rest := []) (A' := im_H g u o Y) (c' := 1) (s' := 6) (as := [.int y0]) (v := none) (A'' := im_H g2 u o Y) 1 55 (fun n => rfl) rfl (x55_ok (g := g) (a := y0) hc) ?_
    show iv_ev (iv_Xs L xs) 54 31 [.ref 3, .int (0 : Int32)] [] (im_H g2 u o Y) 2 12 _
    refine iv_blk (mi' := 54) (pc' := 36) (ls' := [.ref 3, .int (0 : Int32)]) (st' := []) (A' := List.set (im_H g2 u o Y) 0 (.inr (5, List.set [.int (g2 0 0), .ref 4, .ref 6, .ref 7, .ref 8, .ref 11, .int (g2 0 6), .int (g2 0 7)] 6 (.int (0 : Int32))))) (c' := 2) (s' := 12) 3 (fun n => rfl) ?_
    rw [im_f0_6]
    obtain ⟨v3, g3, hc, h⟩ := iv_bd h
    refine iv_cal (mi' := 54) (pc' := 44) (ls' := [.ref 3, .int (0 : Int32)]) (rest := []) (A' := im_H (im_w g2 0 6 (0 : Int32)) u o Y) (c' := 2) (s' := 12) (as := [.ref 4, .int (11 : Int32), .int (0 : Int32), .int (0 : Int32)]) (v := none) (A'' := im_H g3 u o Y) 6 15 (fun n => rfl) rfl (x15_r1_ok (g := (im_w g2 0 6 (0 : Int32))) (a := (11 : Int32)) (b := (0 : Int32)) (c := (0 : Int32)) hc) ?_
    show iv_ev (iv_Xs L xs) 54 47 [.ref 3, .int (0 : Int32)] [] (im_H g3 u o Y) 2 12 _
    cases h
    exact iv_ret 1 (fun n => rfl)
def x54_r0_0 (g : im_M) : Option (im_T × im_M) :=
  Option.bind (x43 g (0 : Int32)) (fun q1 =>
    Sum.elim (fun z => some (.inl z, q1.2)) (fun _ =>
    bif Op.if_icmp.holds .ne (q1.2 0 6) (-1 : Int32) then
      (x54_r0_0_1 q1.2 (0 : Int32))
    else
      (bif Op.if_icmp.holds .eq (q1.2 8 0) (0 : Int32) then
        (x54_r0_0_1 q1.2 (0 : Int32))
      else
        (x54_r0_0_1 q1.2 (1 : Int32)))) q1.1)
set_option maxRecDepth 100000 in
set_option maxHeartbeats 4000000 in
theorem x54_r0_0_ok {L : Nat} {xs : Nat → Int32} {g u mm : im_M} {o : Nat → Int64} {Y : iv_A} {ret : im_T} (h : x54_r0_0 g  = some (ret, mm)) : iv_ev (iv_Xs L xs) 54 0 [.ref 3, .int (0 : Int32)] [] (im_H g u o Y) 0 0 (im_rev ret (im_H mm u o Y)) := by
  unfold x54_r0_0 at h
  obtain ⟨v1, g1, hc, h⟩ := iv_bd h
  cases v1 with
  | inl z =>
    have h := iv_sl h
    cases h
    exact iv_calu (mi' := 54) (pc' := 1) (ls' := [.ref 3, .int (0 : Int32)]) (rest := []) (A' := im_H g u o Y) (c' := 0) (s' := 0) (as := [.int (0 : Int32)]) (B := im_H g1 u o Y) 2 43 (z.val + 7) (fun n => rfl) rfl (im_zx z) rfl rfl (x43_ok (g := g) (a := (0 : Int32)) hc)
  | inr v1 =>
    have h := iv_sr h
    refine iv_cal (mi' := 54) (pc' := 1) (ls' := [.ref 3, .int (0 : Int32)]) (rest := []) (A' := im_H g u o Y) (c' := 0) (s' := 0) (as := [.int (0 : Int32)]) (v := none) (A'' := im_H g1 u o Y) 2 43 (fun n => rfl) rfl (x43_ok (g := g) (a := (0 : Int32)) hc) ?_
    show iv_ev (iv_Xs L xs) 54 4 [.ref 3, .int (0 : Int32)] [] (im_H g1 u o Y) 1 6 _
    cases hb1 : Op.if_icmp.holds .ne (g1 0 6) (-1 : Int32) with
    | true =>
      have h := iv_bt hb1 h
      refine iv_brt (mi' := 54) (pc' := 27) (ls' := [.ref 3, .int (0 : Int32)]) (st' := []) (A' := im_H g1 u o Y) (c' := 1) (s' := 6) (mi'' := 54) (pc'' := 12) (ls'' := [.ref 3, .int (0 : Int32)]) (st'' := []) (A'' := im_H g1 u o Y) (c'' := 1) (s'' := 6) 4 0 0 hb1 (fun n => rfl) ?_
      refine iv_blk (mi' := 54) (pc' := 28) (ls' := [.ref 3, .int (0 : Int32)]) (st' := [.int (0 : Int32)]) (A' := im_H g1 u o Y) (c' := 1) (s' := 6) 1 (fun n => rfl) ?_
      exact x54_r0_0_1_ok (g := g1) (y0 := (0 : Int32)) h
    | false =>
      have h := iv_bf hb1 h
      refine iv_brf (mi' := 54) (pc' := 27) (ls' := [.ref 3, .int (0 : Int32)]) (st' := []) (A' := im_H g1 u o Y) (c' := 1) (s' := 6) (mi'' := 54) (pc'' := 12) (ls'' := [.ref 3, .int (0 : Int32)]) (st'' := []) (A'' := im_H g1 u o Y) (c'' := 1) (s'' := 6) 4 0 0 hb1 (fun n => rfl) ?_
      cases hb2 : Op.if_icmp.holds .eq (g1 8 0) (0 : Int32) with
      | true =>
        have h := iv_bt hb2 h
        refine iv_brt (mi' := 54) (pc' := 27) (ls' := [.ref 3, .int (0 : Int32)]) (st' := []) (A' := im_H g1 u o Y) (c' := 1) (s' := 6) (mi'' := 54) (pc'' := 23) (ls'' := [.ref 3, .int (0 : Int32)]) (st'' := []) (A'' := im_H g1 u o Y) (c'' := 1) (s'' := 6) 5 0 0 hb2 (fun n => rfl) ?_
        refine iv_blk (mi' := 54) (pc' := 28) (ls' := [.ref 3, .int (0 : Int32)]) (st' := [.int (0 : Int32)]) (A' := im_H g1 u o Y) (c' := 1) (s' := 6) 1 (fun n => rfl) ?_
        exact x54_r0_0_1_ok (g := g1) (y0 := (0 : Int32)) h
      | false =>
        have h := iv_bf hb2 h
        refine iv_brf (mi' := 54) (pc' := 27) (ls' := [.ref 3, .int (0 : Int32)]) (st' := []) (A' := im_H g1 u o Y) (c' := 1) (s' := 6) (mi'' := 54) (pc'' := 23) (ls'' := [.ref 3, .int (0 : Int32)]) (st'' := []) (A'' := im_H g1 u o Y) (c'' := 1) (s'' := 6) 5 0 0 hb2 (fun n => rfl) ?_
        refine iv_blk (mi' := 54) (pc' := 28) (ls' := [.ref 3, .int (0 : Int32)]) (st' := [.int (1 : Int32)]) (A' := im_H g1 u o Y) (c' := 1) (s' := 6) 2 (fun n => rfl) ?_
        exact x54_r0_0_1_ok (g := g1) (y0 := (1 : Int32)) h
def x42_r0_0_0_1 (g : im_M) (y0 : Int32) (y1 : Int32) : Option (im_T × im_M) :=
  Option.bind (x44 g y1) (fun q3 =>
    Sum.elim (fun z => some (.inl z, q3.2)) (fun _ =>
    Option.bind (x50_r9_0 q3.2 y0) (fun q4 =>
      some (.inr 0, q4.2))) q3.1)
set_option maxRecDepth 100000 in
set_option maxHeartbeats 4000000 in
theorem x42_r0_0_0_1_ok {L : Nat} {xs : Nat → Int32} {g u mm : im_M} {o : Nat → Int64} {Y : iv_A} {y0 y1 : Int32} {ret : im_T} (h : x42_r0_0_0_1 g y0 y1 = some (ret, mm)) : iv_ev (iv_Xs L xs) 42 24 [.ref 3, .int (0 : Int32), .int (0 : Int32), .int y0] [.int y1] (im_H g u o Y) 2 12 (im_rev ret (im_H mm u o Y)) := by
  unfold x42_r0_0_0_1 at h
  obtain ⟨v3, g3, hc, h⟩ := iv_bd h
  cases v3 with
  | inl z =>
    have h := iv_sl h
    cases h
    exact iv_calu (mi' := 42) (pc' := 24) (ls' := [.ref 3, .int (0 : Int32), .int (0 : Int32), .int y0]) (rest := []) (A' := im_H g u o Y) (c' := 2) (s' := 12) (as := [.int y1]) (B := im_H g3 u o Y) 1 44 (z.val + 7) (fun n => rfl) rfl (im_zx z) rfl rfl (x44_ok (g := g) (a := y1) hc)
  | inr v3 =>
    have h := iv_sr h
    refine iv_cal (mi' := 42) (pc' := 24) (ls' := [.ref 3, .int (0 : Int32), .int (0 : Int32), .int y0]) (rest := []) (A' := im_H g u o Y) (c' := 2) (s' := 12) (as := [.int y1]) (v := none) (A'' := im_H g3 u o Y) 1 44 (fun n => rfl) rfl (x44_ok (g := g) (a := y1) hc) ?_
    show iv_ev (iv_Xs L xs) 42 27 [.ref 3, .int (0 : Int32), .int (0 : Int32), .int y0] [] (im_H g3 u o Y) 3 18 _
    obtain ⟨v4, g4, hc, h⟩ := iv_bd h
    refine iv_cal (mi' := 42) (pc' := 35) (ls' := [.ref 3, .int (0 : Int32), .int (0 : Int32), .int y0]) (rest := []) (A' := im_H g3 u o Y) (c' := 3) (s' := 18) (as := [.ref 12, .int (0 : Int32), .int y0]) (v := none) (A'' := im_H g4 u o Y) 7 50 (fun n => rfl) rfl (x50_r9_0_ok (g := g3) (a := y0) hc) ?_
    show iv_ev (iv_Xs L xs) 42 38 [.ref 3, .int (0 : Int32), .int (0 : Int32), .int y0] [] (im_H g4 u o Y) 3 18 _
    cases h
    exact iv_ret 1 (fun n => rfl)
def x42_r0_0_0 (g : im_M) (a : Int32) : Option (im_T × im_M) :=
  Option.bind (x43 g (0 : Int32)) (fun q1 =>
    Sum.elim (fun z => some (.inl z, q1.2)) (fun _ =>
    Option.bind (x49 q1.2 (0 : Int32)) (fun q2 =>
      Sum.elim (fun z => some (.inl z, q2.2)) (fun _ =>
      bif Op.ifCond.holds .lt a then
        (x42_r0_0_0_1 q2.2 a (0 : Int32))
      else
        (bif Op.if_icmp.holds .gt a (4095 : Int32) then
          (x42_r0_0_0_1 q2.2 a (0 : Int32))
        else
          (x42_r0_0_0_1 q2.2 a (1 : Int32)))) q2.1)) q1.1)
set_option maxRecDepth 100000 in
set_option maxHeartbeats 4000000 in
theorem x42_r0_0_0_ok {L : Nat} {xs : Nat → Int32} {g u mm : im_M} {o : Nat → Int64} {Y : iv_A} {a : Int32} {ret : im_T} (h : x42_r0_0_0 g a = some (ret, mm)) : iv_ev (iv_Xs L xs) 42 0 [.ref 3, .int (0 : Int32), .int (0 : Int32), .int a] [] (im_H g u o Y) 0 0 (im_rev ret (im_H mm u o Y)) := by
  unfold x42_r0_0_0 at h
  obtain ⟨v1, g1, hc, h⟩ := iv_bd h
  cases v1 with
  | inl z =>
    have h := iv_sl h
    cases h
    exact iv_calu (mi' := 42) (pc' := 1) (ls' := [.ref 3, .int (0 : Int32), .int (0 : Int32), .int a]) (rest := []) (A' := im_H g u o Y) (c' := 0) (s' := 0) (as := [.int (0 : Int32)]) (B := im_H g1 u o Y) 2 43 (z.val + 7) (fun n => rfl) rfl (im_zx z) rfl rfl (x43_ok (g := g) (a := (0 : Int32)) hc)
  | inr v1 =>
    have h := iv_sr h
    refine iv_cal (mi' := 42) (pc' := 1) (ls' := [.ref 3, .int (0 : Int32), .int (0 : Int32), .int a]) (rest := []) (A' := im_H g u o Y) (c' := 0) (s' := 0) (as := [.int (0 : Int32)]) (v := none) (A'' := im_H g1 u o Y) 2 43 (fun n => rfl) rfl (x43_ok (g := g) (a := (0 : Int32)) hc) ?_
    show iv_ev (iv_Xs L xs) 42 4 [.ref 3, .int (0 : Int32), .int (0 : Int32), .int a] [] (im_H g1 u o Y) 1 6 _
    obtain ⟨v2, g2, hc, h⟩ := iv_bd h
    cases v2 with
    | inl z =>
      have h := iv_sl h
      cases h
      exact iv_calu (mi' := 42) (pc' := 5) (ls' := [.ref 3, .int (0 : Int32), .int (0 : Int32), .int a]) (rest := []) (A' := im_H g1 u o Y) (c' := 1) (s' := 6) (as := [.int (0 : Int32)]) (B := im_H g2 u o Y) 2 49 (z.val + 7) (fun n => rfl) rfl (im_zx z) rfl rfl (x49_ok (g := g1) (a := (0 : Int32)) hc)
    | inr v2 =>
      have h := iv_sr h
      refine iv_cal (mi' := 42) (pc' := 5) (ls' := [.ref 3, .int (0 : Int32), .int (0 : Int32), .int a]) (rest := []) (A' := im_H g1 u o Y) (c' := 1) (s' := 6) (as := [.int (0 : Int32)]) (v := none) (A'' := im_H g2 u o Y) 2 49 (fun n => rfl) rfl (x49_ok (g := g1) (a := (0 : Int32)) hc) ?_
      show iv_ev (iv_Xs L xs) 42 8 [.ref 3, .int (0 : Int32), .int (0 : Int32), .int a] [] (im_H g2 u o Y) 2 12 _
      cases hb1 : Op.ifCond.holds .lt a with
      | true =>
        have h := iv_bt hb1 h
        refine iv_brt (mi' := 42) (pc' := 23) (ls' := [.ref 3, .int (0 : Int32), .int (0 : Int32), .int a]) (st' := []) (A' := im_H g2 u o Y) (c' := 2) (s' := 12) (mi'' := 42) (pc'' := 12) (ls'' := [.ref 3, .int (0 : Int32), .int (0 : Int32), .int a]) (st'' := []) (A'' := im_H g2 u o Y) (c'' := 2) (s'' := 12) 2 0 0 hb1 (fun n => rfl) ?_
        refine iv_blk (mi' := 42) (pc' := 24) (ls' := [.ref 3, .int (0 : Int32), .int (0 : Int32), .int a]) (st' := [.int (0 : Int32)]) (A' := im_H g2 u o Y) (c' := 2) (s' := 12) 1 (fun n => rfl) ?_
        exact x42_r0_0_0_1_ok (g := g2) (y0 := a) (y1 := (0 : Int32)) h
      | false =>
        have h := iv_bf hb1 h
        refine iv_brf (mi' := 42) (pc' := 23) (ls' := [.ref 3, .int (0 : Int32), .int (0 : Int32), .int a]) (st' := []) (A' := im_H g2 u o Y) (c' := 2) (s' := 12) (mi'' := 42) (pc'' := 12) (ls'' := [.ref 3, .int (0 : Int32), .int (0 : Int32), .int a]) (st'' := []) (A'' := im_H g2 u o Y) (c'' := 2) (s'' := 12) 2 0 0 hb1 (fun n => rfl) ?_
        cases hb2 : Op.if_icmp.holds .gt a (4095 : Int32) with
        | true =>
          have h := iv_bt hb2 h
          refine iv_brt (mi' := 42) (pc' := 23) (ls' := [.ref 3, .int (0 : Int32), .int (0 : Int32), .int a]) (st' := []) (A' := im_H g2 u o Y) (c' := 2) (s' := 12) (mi'' := 42) (pc'' := 19) (ls'' := [.ref 3, .int (0 : Int32), .int (0 : Int32), .int a]) (st'' := []) (A'' := im_H g2 u o Y) (c'' := 2) (s'' := 12) 3 0 0 hb2 (fun n => rfl) ?_
          refine iv_blk (mi' := 42) (pc' := 24) (ls' := [.ref 3, .int (0 : Int32), .int (0 : Int32), .int a]) (st' := [.int (0 : Int32)]) (A' := im_H g2 u o Y) (c' := 2) (s' := 12) 1 (fun n => rfl) ?_
          exact x42_r0_0_0_1_ok (g := g2) (y0 := a) (y1 := (0 : Int32)) h
        | false =>
          have h := iv_bf hb2 h
          refine iv_brf (mi' := 42) (pc' := 23) (ls' := [.ref 3, .int (0 : Int32), .int (0 : Int32), .int a]) (st' := []) (A' := im_H g2 u o Y) (c' := 2) (s' := 12) (mi'' := 42) (pc'' := 19) (ls'' := [.ref 3, .int (0 : Int32), .int (0 : Int32), .int a]) (st'' := []) (A'' := im_H g2 u o Y) (c'' := 2) (s'' := 12) 3 0 0 hb2 (fun n => rfl) ?_
          refine iv_blk (mi' := 42) (pc' := 24) (ls' := [.ref 3, .int (0 : Int32), .int (0 : Int32), .int a]) (st' := [.int (1 : Int32)]) (A' := im_H g2 u o Y) (c' := 2) (s' := 12) 2 (fun n => rfl) ?_
          exact x42_r0_0_0_1_ok (g := g2) (y0 := a) (y1 := (1 : Int32)) h
def x52_r0_0_0 (g : im_M) : Option (im_T × im_M) :=
  Option.bind (x43 g (0 : Int32)) (fun q1 =>
    Sum.elim (fun z => some (.inl z, q1.2)) (fun _ =>
    Option.bind (x49 q1.2 (0 : Int32)) (fun q2 =>
      Sum.elim (fun z => some (.inl z, q2.2)) (fun _ =>
      Option.bind (x20_r9_0 q2.2 ) (fun q3 =>
        some (.inr q3.1, q3.2))) q2.1)) q1.1)
set_option maxRecDepth 100000 in
set_option maxHeartbeats 4000000 in
theorem x52_r0_0_0_ok {L : Nat} {xs : Nat → Int32} {g u mm : im_M} {o : Nat → Int64} {Y : iv_A} {ret : im_T} (h : x52_r0_0_0 g  = some (ret, mm)) : iv_ev (iv_Xs L xs) 52 0 [.ref 3, .int (0 : Int32), .int (0 : Int32)] [] (im_H g u o Y) 0 0 (im_res ret (im_H mm u o Y)) := by
  unfold x52_r0_0_0 at h
  obtain ⟨v1, g1, hc, h⟩ := iv_bd h
  cases v1 with
  | inl z =>
    have h := iv_sl h
    cases h
    exact iv_calu (mi' := 52) (pc' := 1) (ls' := [.ref 3, .int (0 : Int32), .int (0 : Int32)]) (rest := []) (A' := im_H g u o Y) (c' := 0) (s' := 0) (as := [.int (0 : Int32)]) (B := im_H g1 u o Y) 2 43 (z.val + 7) (fun n => rfl) rfl (im_zx z) rfl rfl (x43_ok (g := g) (a := (0 : Int32)) hc)
  | inr v1 =>
    have h := iv_sr h
    refine iv_cal (mi' := 52) (pc' := 1) (ls' := [.ref 3, .int (0 : Int32), .int (0 : Int32)]) (rest := []) (A' := im_H g u o Y) (c' := 0) (s' := 0) (as := [.int (0 : Int32)]) (v := none) (A'' := im_H g1 u o Y) 2 43 (fun n => rfl) rfl (x43_ok (g := g) (a := (0 : Int32)) hc) ?_
    show iv_ev (iv_Xs L xs) 52 4 [.ref 3, .int (0 : Int32), .int (0 : Int32)] [] (im_H g1 u o Y) 1 6 _
    obtain ⟨v2, g2, hc, h⟩ := iv_bd h
    cases v2 with
    | inl z =>
      have h := iv_sl h
      cases h
      exact iv_calu (mi' := 52) (pc' := 5) (ls' := [.ref 3, .int (0 : Int32), .int (0 : Int32)]) (rest := []) (A' := im_H g1 u o Y) (c' := 1) (s' := 6) (as := [.int (0 : Int32)]) (B := im_H g2 u o Y) 2 49 (z.val + 7) (fun n => rfl) rfl (im_zx z) rfl rfl (x49_ok (g := g1) (a := (0 : Int32)) hc)
    | inr v2 =>
      have h := iv_sr h
      refine iv_cal (mi' := 52) (pc' := 5) (ls' := [.ref 3, .int (0 : Int32), .int (0 : Int32)]) (rest := []) (A' := im_H g1 u o Y) (c' := 1) (s' := 6) (as := [.int (0 : Int32)]) (v := none) (A'' := im_H g2 u o Y) 2 49 (fun n => rfl) rfl (x49_ok (g := g1) (a := (0 : Int32)) hc) ?_
      show iv_ev (iv_Xs L xs) 52 8 [.ref 3, .int (0 : Int32), .int (0 : Int32)] [] (im_H g2 u o Y) 2 12 _
      obtain ⟨v3, g3, hc, h⟩ := iv_bd h
      refine iv_cal (mi' := 52) (pc' := 15) (ls' := [.ref 3, .int (0 : Int32), .int (0 : Int32)]) (rest := []) (A' := im_H g2 u o Y) (c' := 2) (s' := 12) (as := [.ref 12, .int (0 : Int32)]) (v := some (.int v3)) (A'' := im_H g3 u o Y) 6 20 (fun n => rfl) rfl (x20_r9_0_ok (g := g2)  hc) ?_
      show iv_ev (iv_Xs L xs) 52 18 [.ref 3, .int (0 : Int32), .int (0 : Int32)] [.int v3] (im_H g3 u o Y) 2 12 _
      cases h
      exact iv_ret 1 (fun n => rfl)
def x60_r0_0_0_1 (g : im_M) (y0 : Int32) : Option (im_T × im_M) :=
  Option.bind (x55 g y0) (fun q3 =>
    Sum.elim (fun z => some (.inl z, q3.2)) (fun _ =>
    Option.bind (x61_r8 q3.2 (0 : Int32) (0 : Int32)) (fun q4 =>
      some (.inr 0, q4.2))) q3.1)
set_option maxRecDepth 100000 in
set_option maxHeartbeats 4000000 in
theorem x60_r0_0_0_1_ok {L : Nat} {xs : Nat → Int32} {g u mm : im_M} {o : Nat → Int64} {Y : iv_A} {y0 : Int32} {ret : im_T} (h : x60_r0_0_0_1 g y0 = some (ret, mm)) : iv_ev (iv_Xs L xs) 60 32 [.ref 3, .int (0 : Int32), .int (0 : Int32)] [.int y0] (im_H g u o Y) 2 12 (im_rev ret (im_H mm u o Y)) := by
  unfold x60_r0_0_0_1 at h
  obtain ⟨v3, g3, hc, h⟩ := iv_bd h
  cases v3 with
  | inl z =>
    have h := iv_sl h
    cases h
    exact iv_calu (mi' := 60) (pc' := 32) (ls' := [.ref 3, .int (0 : Int32), .int (0 : Int32)]) (rest := []) (A' := im_H g u o Y) (c' := 2) (s' := 12) (as := [.int y0]) (B := im_H g3 u o Y) 1 55 (z.val + 7) (fun n => rfl) rfl (im_zx z) rfl rfl (x55_ok (g := g) (a := y0) hc)
  | inr v3 =>
    have h := iv_sr h
    refine iv_cal (mi' := 60) (pc' := 32) (ls' := [.ref 3, .int (0 : Int32), .int (0 : Int32)]) (rest := []) (A' := im_H g u o Y) (c' := 2) (s' := 12) (as := [.int y0]) (v := none) (A'' := im_H g3 u o Y) 1 55 (fun n => rfl) rfl (x55_ok (g := g) (a := y0) hc) ?_
    show iv_ev (iv_Xs L xs) 60 35 [.ref 3, .int (0 : Int32), .int (0 : Int32)] [] (im_H g3 u o Y) 3 18 _
    obtain ⟨v4, g4, hc, h⟩ := iv_bd h
    refine iv_cal (mi' := 60) (pc' := 41) (ls' := [.ref 3, .int (0 : Int32), .int (0 : Int32)]) (rest := []) (A' := im_H g3 u o Y) (c' := 3) (s' := 18) (as := [.ref 11, .int (0 : Int32), .int (0 : Int32)]) (v := none) (A'' := im_H g4 u o Y) 5 61 (fun n => rfl) rfl (x61_r8_ok (g := g3) (a := (0 : Int32)) (b := (0 : Int32)) hc) ?_
    show iv_ev (iv_Xs L xs) 60 44 [.ref 3, .int (0 : Int32), .int (0 : Int32)] [] (im_H g4 u o Y) 3 18 _
    cases h
    exact iv_ret 1 (fun n => rfl)
def x60_r0_0_0 (g : im_M) : Option (im_T × im_M) :=
  Option.bind (x43 g (0 : Int32)) (fun q1 =>
    Sum.elim (fun z => some (.inl z, q1.2)) (fun _ =>
    Option.bind (x49 q1.2 (0 : Int32)) (fun q2 =>
      Sum.elim (fun z => some (.inl z, q2.2)) (fun _ =>
      bif Op.if_icmp.holds .ne (q2.2 8 0) (-1 : Int32) then
        (x60_r0_0_0_1 q2.2 (0 : Int32))
      else
        (bif Op.if_icmp.holds .eq (q2.2 0 6) (0 : Int32) then
          (x60_r0_0_0_1 q2.2 (0 : Int32))
        else
          (x60_r0_0_0_1 q2.2 (1 : Int32)))) q2.1)) q1.1)
set_option maxRecDepth 100000 in
set_option maxHeartbeats 4000000 in
theorem x60_r0_0_0_ok {L : Nat} {xs : Nat → Int32} {g u mm : im_M} {o : Nat → Int64} {Y : iv_A} {ret : im_T} (h : x60_r0_0_0 g  = some (ret, mm)) : iv_ev (iv_Xs L xs) 60 0 [.ref 3, .int (0 : Int32), .int (0 : Int32)] [] (im_H g u o Y) 0 0 (im_rev ret (im_H mm u o Y)) := by
  unfold x60_r0_0_0 at h
  obtain ⟨v1, g1, hc, h⟩ := iv_bd h
  cases v1 with
  | inl z =>
    have h := iv_sl h
    cases h
    exact iv_calu (mi' := 60) (pc' := 1) (ls' := [.ref 3, .int (0 : Int32), .int (0 : Int32)]) (rest := []) (A' := im_H g u o Y) (c' := 0) (s' := 0) (as := [.int (0 : Int32)]) (B := im_H g1 u o Y) 2 43 (z.val + 7) (fun n => rfl) rfl (im_zx z) rfl rfl (x43_ok (g := g) (a := (0 : Int32)) hc)
  | inr v1 =>
    have h := iv_sr h
    refine iv_cal (mi' := 60) (pc' := 1) (ls' := [.ref 3, .int (0 : Int32), .int (0 : Int32)]) (rest := []) (A' := im_H g u o Y) (c' := 0) (s' := 0) (as := [.int (0 : Int32)]) (v := none) (A'' := im_H g1 u o Y) 2 43 (fun n => rfl) rfl (x43_ok (g := g) (a := (0 : Int32)) hc) ?_
    show iv_ev (iv_Xs L xs) 60 4 [.ref 3, .int (0 : Int32), .int (0 : Int32)] [] (im_H g1 u o Y) 1 6 _
    obtain ⟨v2, g2, hc, h⟩ := iv_bd h
    cases v2 with
    | inl z =>
      have h := iv_sl h
      cases h
      exact iv_calu (mi' := 60) (pc' := 5) (ls' := [.ref 3, .int (0 : Int32), .int (0 : Int32)]) (rest := []) (A' := im_H g1 u o Y) (c' := 1) (s' := 6) (as := [.int (0 : Int32)]) (B := im_H g2 u o Y) 2 49 (z.val + 7) (fun n => rfl) rfl (im_zx z) rfl rfl (x49_ok (g := g1) (a := (0 : Int32)) hc)
    | inr v2 =>
      have h := iv_sr h
      refine iv_cal (mi' := 60) (pc' := 5) (ls' := [.ref 3, .int (0 : Int32), .int (0 : Int32)]) (rest := []) (A' := im_H g1 u o Y) (c' := 1) (s' := 6) (as := [.int (0 : Int32)]) (v := none) (A'' := im_H g2 u o Y) 2 49 (fun n => rfl) rfl (x49_ok (g := g1) (a := (0 : Int32)) hc) ?_
      show iv_ev (iv_Xs L xs) 60 8 [.ref 3, .int (0 : Int32), .int (0 : Int32)] [] (im_H g2 u o Y) 2 12 _
      cases hb1 : Op.if_icmp.holds .ne (g2 8 0) (-1 : Int32) with
      | true =>
        have h := iv_bt hb1 h
        refine iv_brt (mi' := 60) (pc' := 31) (ls' := [.ref 3, .int (0 : Int32), .int (0 : Int32)]) (st' := []) (A' := im_H g2 u o Y) (c' := 2) (s' := 12) (mi'' := 60) (pc'' := 19) (ls'' := [.ref 3, .int (0 : Int32), .int (0 : Int32)]) (st'' := []) (A'' := im_H g2 u o Y) (c'' := 2) (s'' := 12) 5 0 0 hb1 (fun n => rfl) ?_
        refine iv_blk (mi' := 60) (pc' := 32) (ls' := [.ref 3, .int (0 : Int32), .int (0 : Int32)]) (st' := [.int (0 : Int32)]) (A' := im_H g2 u o Y) (c' := 2) (s' := 12) 1 (fun n => rfl) ?_
        exact x60_r0_0_0_1_ok (g := g2) (y0 := (0 : Int32)) h
      | false =>
        have h := iv_bf hb1 h
        refine iv_brf (mi' := 60) (pc' := 31) (ls' := [.ref 3, .int (0 : Int32), .int (0 : Int32)]) (st' := []) (A' := im_H g2 u o Y) (c' := 2) (s' := 12) (mi'' := 60) (pc'' := 19) (ls'' := [.ref 3, .int (0 : Int32), .int (0 : Int32)]) (st'' := []) (A'' := im_H g2 u o Y) (c'' := 2) (s'' := 12) 5 0 0 hb1 (fun n => rfl) ?_
        cases hb2 : Op.if_icmp.holds .eq (g2 0 6) (0 : Int32) with
        | true =>
          have h := iv_bt hb2 h
          refine iv_brt (mi' := 60) (pc' := 31) (ls' := [.ref 3, .int (0 : Int32), .int (0 : Int32)]) (st' := []) (A' := im_H g2 u o Y) (c' := 2) (s' := 12) (mi'' := 60) (pc'' := 27) (ls'' := [.ref 3, .int (0 : Int32), .int (0 : Int32)]) (st'' := []) (A'' := im_H g2 u o Y) (c'' := 2) (s'' := 12) 4 0 0 hb2 (fun n => rfl) ?_
          refine iv_blk (mi' := 60) (pc' := 32) (ls' := [.ref 3, .int (0 : Int32), .int (0 : Int32)]) (st' := [.int (0 : Int32)]) (A' := im_H g2 u o Y) (c' := 2) (s' := 12) 1 (fun n => rfl) ?_
          exact x60_r0_0_0_1_ok (g := g2) (y0 := (0 : Int32)) h
        | false =>
          have h := iv_bf hb2 h
          refine iv_brf (mi' := 60) (pc' := 31) (ls' := [.ref 3, .int (0 : Int32), .int (0 : Int32)]) (st' := []) (A' := im_H g2 u o Y) (c' := 2) (s' := 12) (mi'' := 60) (pc'' := 27) (ls'' := [.ref 3, .int (0 : Int32), .int (0 : Int32)]) (st'' := []) (A'' := im_H g2 u o Y) (c'' := 2) (s'' := 12) 4 0 0 hb2 (fun n => rfl) ?_
          refine iv_blk (mi' := 60) (pc' := 32) (ls' := [.ref 3, .int (0 : Int32), .int (0 : Int32)]) (st' := [.int (1 : Int32)]) (A' := im_H g2 u o Y) (c' := 2) (s' := 12) 2 (fun n => rfl) ?_
          exact x60_r0_0_0_1_ok (g := g2) (y0 := (1 : Int32)) h
def x42_r0_0_1_1 (g : im_M) (y0 : Int32) (y1 : Int32) : Option (im_T × im_M) :=
  Option.bind (x44 g y1) (fun q3 =>
    Sum.elim (fun z => some (.inl z, q3.2)) (fun _ =>
    Option.bind (x50_r9_1 q3.2 y0) (fun q4 =>
      some (.inr 0, q4.2))) q3.1)
set_option maxRecDepth 100000 in
set_option maxHeartbeats 4000000 in
theorem x42_r0_0_1_1_ok {L : Nat} {xs : Nat → Int32} {g u mm : im_M} {o : Nat → Int64} {Y : iv_A} {y0 y1 : Int32} {ret : im_T} (h : x42_r0_0_1_1 g y0 y1 = some (ret, mm)) : iv_ev (iv_Xs L xs) 42 24 [.ref 3, .int (0 : Int32), .int (1 : Int32), .int y0] [.int y1] (im_H g u o Y) 2 12 (im_rev ret (im_H mm u o Y)) := by
  unfold x42_r0_0_1_1 at h
  obtain ⟨v3, g3, hc, h⟩ := iv_bd h
  cases v3 with
  | inl z =>
    have h := iv_sl h
    cases h
    exact iv_calu (mi' := 42) (pc' := 24) (ls' := [.ref 3, .int (0 : Int32), .int (1 : Int32), .int y0]) (rest := []) (A' := im_H g u o Y) (c' := 2) (s' := 12) (as := [.int y1]) (B := im_H g3 u o Y) 1 44 (z.val + 7) (fun n => rfl) rfl (im_zx z) rfl rfl (x44_ok (g := g) (a := y1) hc)
  | inr v3 =>
    have h := iv_sr h
    refine iv_cal (mi' := 42) (pc' := 24) (ls' := [.ref 3, .int (0 : Int32), .int (1 : Int32), .int y0]) (rest := []) (A' := im_H g u o Y) (c' := 2) (s' := 12) (as := [.int y1]) (v := none) (A'' := im_H g3 u o Y) 1 44 (fun n => rfl) rfl (x44_ok (g := g) (a := y1) hc) ?_
    show iv_ev (iv_Xs L xs) 42 27 [.ref 3, .int (0 : Int32), .int (1 : Int32), .int y0] [] (im_H g3 u o Y) 3 18 _
    obtain ⟨v4, g4, hc, h⟩ := iv_bd h
    refine iv_cal (mi' := 42) (pc' := 35) (ls' := [.ref 3, .int (0 : Int32), .int (1 : Int32), .int y0]) (rest := []) (A' := im_H g3 u o Y) (c' := 3) (s' := 18) (as := [.ref 12, .int (1 : Int32), .int y0]) (v := none) (A'' := im_H g4 u o Y) 7 50 (fun n => rfl) rfl (x50_r9_1_ok (g := g3) (a := y0) hc) ?_
    show iv_ev (iv_Xs L xs) 42 38 [.ref 3, .int (0 : Int32), .int (1 : Int32), .int y0] [] (im_H g4 u o Y) 3 18 _
    cases h
    exact iv_ret 1 (fun n => rfl)
def x42_r0_0_1 (g : im_M) (a : Int32) : Option (im_T × im_M) :=
  Option.bind (x43 g (0 : Int32)) (fun q1 =>
    Sum.elim (fun z => some (.inl z, q1.2)) (fun _ =>
    Option.bind (x49 q1.2 (1 : Int32)) (fun q2 =>
      Sum.elim (fun z => some (.inl z, q2.2)) (fun _ =>
      bif Op.ifCond.holds .lt a then
        (x42_r0_0_1_1 q2.2 a (0 : Int32))
      else
        (bif Op.if_icmp.holds .gt a (4095 : Int32) then
          (x42_r0_0_1_1 q2.2 a (0 : Int32))
        else
          (x42_r0_0_1_1 q2.2 a (1 : Int32)))) q2.1)) q1.1)
set_option maxRecDepth 100000 in
set_option maxHeartbeats 4000000 in
theorem x42_r0_0_1_ok {L : Nat} {xs : Nat → Int32} {g u mm : im_M} {o : Nat → Int64} {Y : iv_A} {a : Int32} {ret : im_T} (h : x42_r0_0_1 g a = some (ret, mm)) : iv_ev (iv_Xs L xs) 42 0 [.ref 3, .int (0 : Int32), .int (1 : Int32), .int a] [] (im_H g u o Y) 0 0 (im_rev ret (im_H mm u o Y)) := by
  unfold x42_r0_0_1 at h
  obtain ⟨v1, g1, hc, h⟩ := iv_bd h
  cases v1 with
  | inl z =>
    have h := iv_sl h
    cases h
    exact iv_calu (mi' := 42) (pc' := 1) (ls' := [.ref 3, .int (0 : Int32), .int (1 : Int32), .int a]) (rest := []) (A' := im_H g u o Y) (c' := 0) (s' := 0) (as := [.int (0 : Int32)]) (B := im_H g1 u o Y) 2 43 (z.val + 7) (fun n => rfl) rfl (im_zx z) rfl rfl (x43_ok (g := g) (a := (0 : Int32)) hc)
  | inr v1 =>
    have h := iv_sr h
    refine iv_cal (mi' := 42) (pc' := 1) (ls' := [.ref 3, .int (0 : Int32), .int (1 : Int32), .int a]) (rest := []) (A' := im_H g u o Y) (c' := 0) (s' := 0) (as := [.int (0 : Int32)]) (v := none) (A'' := im_H g1 u o Y) 2 43 (fun n => rfl) rfl (x43_ok (g := g) (a := (0 : Int32)) hc) ?_
    show iv_ev (iv_Xs L xs) 42 4 [.ref 3, .int (0 : Int32), .int (1 : Int32), .int a] [] (im_H g1 u o Y) 1 6 _
    obtain ⟨v2, g2, hc, h⟩ := iv_bd h
    cases v2 with
    | inl z =>
      have h := iv_sl h
      cases h
      exact iv_calu (mi' := 42) (pc' := 5) (ls' := [.ref 3, .int (0 : Int32), .int (1 : Int32), .int a]) (rest := []) (A' := im_H g1 u o Y) (c' := 1) (s' := 6) (as := [.int (1 : Int32)]) (B := im_H g2 u o Y) 2 49 (z.val + 7) (fun n => rfl) rfl (im_zx z) rfl rfl (x49_ok (g := g1) (a := (1 : Int32)) hc)
    | inr v2 =>
      have h := iv_sr h
      refine iv_cal (mi' := 42) (pc' := 5) (ls' := [.ref 3, .int (0 : Int32), .int (1 : Int32), .int a]) (rest := []) (A' := im_H g1 u o Y) (c' := 1) (s' := 6) (as := [.int (1 : Int32)]) (v := none) (A'' := im_H g2 u o Y) 2 49 (fun n => rfl) rfl (x49_ok (g := g1) (a := (1 : Int32)) hc) ?_
      show iv_ev (iv_Xs L xs) 42 8 [.ref 3, .int (0 : Int32), .int (1 : Int32), .int a] [] (im_H g2 u o Y) 2 12 _
      cases hb1 : Op.ifCond.holds .lt a with
      | true =>
        have h := iv_bt hb1 h
        refine iv_brt (mi' := 42) (pc' := 23) (ls' := [.ref 3, .int (0 : Int32), .int (1 : Int32), .int a]) (st' := []) (A' := im_H g2 u o Y) (c' := 2) (s' := 12) (mi'' := 42) (pc'' := 12) (ls'' := [.ref 3, .int (0 : Int32), .int (1 : Int32), .int a]) (st'' := []) (A'' := im_H g2 u o Y) (c'' := 2) (s'' := 12) 2 0 0 hb1 (fun n => rfl) ?_
        refine iv_blk (mi' := 42) (pc' := 24) (ls' := [.ref 3, .int (0 : Int32), .int (1 : Int32), .int a]) (st' := [.int (0 : Int32)]) (A' := im_H g2 u o Y) (c' := 2) (s' := 12) 1 (fun n => rfl) ?_
        exact x42_r0_0_1_1_ok (g := g2) (y0 := a) (y1 := (0 : Int32)) h
      | false =>
        have h := iv_bf hb1 h
        refine iv_brf (mi' := 42) (pc' := 23) (ls' := [.ref 3, .int (0 : Int32), .int (1 : Int32), .int a]) (st' := []) (A' := im_H g2 u o Y) (c' := 2) (s' := 12) (mi'' := 42) (pc'' := 12) (ls'' := [.ref 3, .int (0 : Int32), .int (1 : Int32), .int a]) (st'' := []) (A'' := im_H g2 u o Y) (c'' := 2) (s'' := 12) 2 0 0 hb1 (fun n => rfl) ?_
        cases hb2 : Op.if_icmp.holds .gt a (4095 : Int32) with
        | true =>
          have h := iv_bt hb2 h
          refine iv_brt (mi' := 42) (pc' := 23) (ls' := [.ref 3, .int (0 : Int32), .int (1 : Int32), .int a]) (st' := []) (A' := im_H g2 u o Y) (c' := 2) (s' := 12) (mi'' := 42) (pc'' := 19) (ls'' := [.ref 3, .int (0 : Int32), .int (1 : Int32), .int a]) (st'' := []) (A'' := im_H g2 u o Y) (c'' := 2) (s'' := 12) 3 0 0 hb2 (fun n => rfl) ?_
          refine iv_blk (mi' := 42) (pc' := 24) (ls' := [.ref 3, .int (0 : Int32), .int (1 : Int32), .int a]) (st' := [.int (0 : Int32)]) (A' := im_H g2 u o Y) (c' := 2) (s' := 12) 1 (fun n => rfl) ?_
          exact x42_r0_0_1_1_ok (g := g2) (y0 := a) (y1 := (0 : Int32)) h
        | false =>
          have h := iv_bf hb2 h
          refine iv_brf (mi' := 42) (pc' := 23) (ls' := [.ref 3, .int (0 : Int32), .int (1 : Int32), .int a]) (st' := []) (A' := im_H g2 u o Y) (c' := 2) (s' := 12) (mi'' := 42) (pc'' := 19) (ls'' := [.ref 3, .int (0 : Int32), .int (1 : Int32), .int a]) (st'' := []) (A'' := im_H g2 u o Y) (c'' := 2) (s'' := 12) 3 0 0 hb2 (fun n => rfl) ?_
          refine iv_blk (mi' := 42) (pc' := 24) (ls' := [.ref 3, .int (0 : Int32), .int (1 : Int32), .int a]) (st' := [.int (1 : Int32)]) (A' := im_H g2 u o Y) (c' := 2) (s' := 12) 2 (fun n => rfl) ?_
          exact x42_r0_0_1_1_ok (g := g2) (y0 := a) (y1 := (1 : Int32)) h
def x52_r0_0_1 (g : im_M) : Option (im_T × im_M) :=
  Option.bind (x43 g (0 : Int32)) (fun q1 =>
    Sum.elim (fun z => some (.inl z, q1.2)) (fun _ =>
    Option.bind (x49 q1.2 (1 : Int32)) (fun q2 =>
      Sum.elim (fun z => some (.inl z, q2.2)) (fun _ =>
      Option.bind (x20_r9_1 q2.2 ) (fun q3 =>
        some (.inr q3.1, q3.2))) q2.1)) q1.1)
set_option maxRecDepth 100000 in
set_option maxHeartbeats 4000000 in
theorem x52_r0_0_1_ok {L : Nat} {xs : Nat → Int32} {g u mm : im_M} {o : Nat → Int64} {Y : iv_A} {ret : im_T} (h : x52_r0_0_1 g  = some (ret, mm)) : iv_ev (iv_Xs L xs) 52 0 [.ref 3, .int (0 : Int32), .int (1 : Int32)] [] (im_H g u o Y) 0 0 (im_res ret (im_H mm u o Y)) := by
  unfold x52_r0_0_1 at h
  obtain ⟨v1, g1, hc, h⟩ := iv_bd h
  cases v1 with
  | inl z =>
    have h := iv_sl h
    cases h
    exact iv_calu (mi' := 52) (pc' := 1) (ls' := [.ref 3, .int (0 : Int32), .int (1 : Int32)]) (rest := []) (A' := im_H g u o Y) (c' := 0) (s' := 0) (as := [.int (0 : Int32)]) (B := im_H g1 u o Y) 2 43 (z.val + 7) (fun n => rfl) rfl (im_zx z) rfl rfl (x43_ok (g := g) (a := (0 : Int32)) hc)
  | inr v1 =>
    have h := iv_sr h
    refine iv_cal (mi' := 52) (pc' := 1) (ls' := [.ref 3, .int (0 : Int32), .int (1 : Int32)]) (rest := []) (A' := im_H g u o Y) (c' := 0) (s' := 0) (as := [.int (0 : Int32)]) (v := none) (A'' := im_H g1 u o Y) 2 43 (fun n => rfl) rfl (x43_ok (g := g) (a := (0 : Int32)) hc) ?_
    show iv_ev (iv_Xs L xs) 52 4 [.ref 3, .int (0 : Int32), .int (1 : Int32)] [] (im_H g1 u o Y) 1 6 _
    obtain ⟨v2, g2, hc, h⟩ := iv_bd h
    cases v2 with
    | inl z =>
      have h := iv_sl h
      cases h
      exact iv_calu (mi' := 52) (pc' := 5) (ls' := [.ref 3, .int (0 : Int32), .int (1 : Int32)]) (rest := []) (A' := im_H g1 u o Y) (c' := 1) (s' := 6) (as := [.int (1 : Int32)]) (B := im_H g2 u o Y) 2 49 (z.val + 7) (fun n => rfl) rfl (im_zx z) rfl rfl (x49_ok (g := g1) (a := (1 : Int32)) hc)
    | inr v2 =>
      have h := iv_sr h
      refine iv_cal (mi' := 52) (pc' := 5) (ls' := [.ref 3, .int (0 : Int32), .int (1 : Int32)]) (rest := []) (A' := im_H g1 u o Y) (c' := 1) (s' := 6) (as := [.int (1 : Int32)]) (v := none) (A'' := im_H g2 u o Y) 2 49 (fun n => rfl) rfl (x49_ok (g := g1) (a := (1 : Int32)) hc) ?_
      show iv_ev (iv_Xs L xs) 52 8 [.ref 3, .int (0 : Int32), .int (1 : Int32)] [] (im_H g2 u o Y) 2 12 _
      obtain ⟨v3, g3, hc, h⟩ := iv_bd h
      refine iv_cal (mi' := 52) (pc' := 15) (ls' := [.ref 3, .int (0 : Int32), .int (1 : Int32)]) (rest := []) (A' := im_H g2 u o Y) (c' := 2) (s' := 12) (as := [.ref 12, .int (1 : Int32)]) (v := some (.int v3)) (A'' := im_H g3 u o Y) 6 20 (fun n => rfl) rfl (x20_r9_1_ok (g := g2)  hc) ?_
      show iv_ev (iv_Xs L xs) 52 18 [.ref 3, .int (0 : Int32), .int (1 : Int32)] [.int v3] (im_H g3 u o Y) 2 12 _
      cases h
      exact iv_ret 1 (fun n => rfl)
def x60_r0_0_1_1 (g : im_M) (y0 : Int32) : Option (im_T × im_M) :=
  Option.bind (x55 g y0) (fun q3 =>
    Sum.elim (fun z => some (.inl z, q3.2)) (fun _ =>
    Option.bind (x61_r8 q3.2 (0 : Int32) (1 : Int32)) (fun q4 =>
      some (.inr 0, q4.2))) q3.1)
set_option maxRecDepth 100000 in
set_option maxHeartbeats 4000000 in
theorem x60_r0_0_1_1_ok {L : Nat} {xs : Nat → Int32} {g u mm : im_M} {o : Nat → Int64} {Y : iv_A} {y0 : Int32} {ret : im_T} (h : x60_r0_0_1_1 g y0 = some (ret, mm)) : iv_ev (iv_Xs L xs) 60 32 [.ref 3, .int (0 : Int32), .int (1 : Int32)] [.int y0] (im_H g u o Y) 2 12 (im_rev ret (im_H mm u o Y)) := by
  unfold x60_r0_0_1_1 at h
  obtain ⟨v3, g3, hc, h⟩ := iv_bd h
  cases v3 with
  | inl z =>
    have h := iv_sl h
    cases h
    exact iv_calu (mi' := 60) (pc' := 32) (ls' := [.ref 3, .int (0 : Int32), .int (1 : Int32)]) (rest := []) (A' := im_H g u o Y) (c' := 2) (s' := 12) (as := [.int y0]) (B := im_H g3 u o Y) 1 55 (z.val + 7) (fun n => rfl) rfl (im_zx z) rfl rfl (x55_ok (g := g) (a := y0) hc)
  | inr v3 =>
    have h := iv_sr h
    refine iv_cal (mi' := 60) (pc' := 32) (ls' := [.ref 3, .int (0 : Int32), .int (1 : Int32)]) (rest := []) (A' := im_H g u o Y) (c' := 2) (s' := 12) (as := [.int y0]) (v := none) (A'' := im_H g3 u o Y) 1 55 (fun n => rfl) rfl (x55_ok (g := g) (a := y0) hc) ?_
    show iv_ev (iv_Xs L xs) 60 35 [.ref 3, .int (0 : Int32), .int (1 : Int32)] [] (im_H g3 u o Y) 3 18 _
    obtain ⟨v4, g4, hc, h⟩ := iv_bd h
    refine iv_cal (mi' := 60) (pc' := 41) (ls' := [.ref 3, .int (0 : Int32), .int (1 : Int32)]) (rest := []) (A' := im_H g3 u o Y) (c' := 3) (s' := 18) (as := [.ref 11, .int (0 : Int32), .int (1 : Int32)]) (v := none) (A'' := im_H g4 u o Y) 5 61 (fun n => rfl) rfl (x61_r8_ok (g := g3) (a := (0 : Int32)) (b := (1 : Int32)) hc) ?_
    show iv_ev (iv_Xs L xs) 60 44 [.ref 3, .int (0 : Int32), .int (1 : Int32)] [] (im_H g4 u o Y) 3 18 _
    cases h
    exact iv_ret 1 (fun n => rfl)
def x60_r0_0_1 (g : im_M) : Option (im_T × im_M) :=
  Option.bind (x43 g (0 : Int32)) (fun q1 =>
    Sum.elim (fun z => some (.inl z, q1.2)) (fun _ =>
    Option.bind (x49 q1.2 (1 : Int32)) (fun q2 =>
      Sum.elim (fun z => some (.inl z, q2.2)) (fun _ =>
      bif Op.if_icmp.holds .ne (q2.2 8 0) (-1 : Int32) then
        (x60_r0_0_1_1 q2.2 (0 : Int32))
      else
        (bif Op.if_icmp.holds .eq (q2.2 0 6) (0 : Int32) then
          (x60_r0_0_1_1 q2.2 (0 : Int32))
        else
          (x60_r0_0_1_1 q2.2 (1 : Int32)))) q2.1)) q1.1)
set_option maxRecDepth 100000 in
set_option maxHeartbeats 4000000 in
theorem x60_r0_0_1_ok {L : Nat} {xs : Nat → Int32} {g u mm : im_M} {o : Nat → Int64} {Y : iv_A} {ret : im_T} (h : x60_r0_0_1 g  = some (ret, mm)) : iv_ev (iv_Xs L xs) 60 0 [.ref 3, .int (0 : Int32), .int (1 : Int32)] [] (im_H g u o Y) 0 0 (im_rev ret (im_H mm u o Y)) := by
  unfold x60_r0_0_1 at h
  obtain ⟨v1, g1, hc, h⟩ := iv_bd h
  cases v1 with
  | inl z =>
    have h := iv_sl h
    cases h
    exact iv_calu (mi' := 60) (pc' := 1) (ls' := [.ref 3, .int (0 : Int32), .int (1 : Int32)]) (rest := []) (A' := im_H g u o Y) (c' := 0) (s' := 0) (as := [.int (0 : Int32)]) (B := im_H g1 u o Y) 2 43 (z.val + 7) (fun n => rfl) rfl (im_zx z) rfl rfl (x43_ok (g := g) (a := (0 : Int32)) hc)
  | inr v1 =>
    have h := iv_sr h
    refine iv_cal (mi' := 60) (pc' := 1) (ls' := [.ref 3, .int (0 : Int32), .int (1 : Int32)]) (rest := []) (A' := im_H g u o Y) (c' := 0) (s' := 0) (as := [.int (0 : Int32)]) (v := none) (A'' := im_H g1 u o Y) 2 43 (fun n => rfl) rfl (x43_ok (g := g) (a := (0 : Int32)) hc) ?_
    show iv_ev (iv_Xs L xs) 60 4 [.ref 3, .int (0 : Int32), .int (1 : Int32)] [] (im_H g1 u o Y) 1 6 _
    obtain ⟨v2, g2, hc, h⟩ := iv_bd h
    cases v2 with
    | inl z =>
      have h := iv_sl h
      cases h
      exact iv_calu (mi' := 60) (pc' := 5) (ls' := [.ref 3, .int (0 : Int32), .int (1 : Int32)]) (rest := []) (A' := im_H g1 u o Y) (c' := 1) (s' := 6) (as := [.int (1 : Int32)]) (B := im_H g2 u o Y) 2 49 (z.val + 7) (fun n => rfl) rfl (im_zx z) rfl rfl (x49_ok (g := g1) (a := (1 : Int32)) hc)
    | inr v2 =>
      have h := iv_sr h
      refine iv_cal (mi' := 60) (pc' := 5) (ls' := [.ref 3, .int (0 : Int32), .int (1 : Int32)]) (rest := []) (A' := im_H g1 u o Y) (c' := 1) (s' := 6) (as := [.int (1 : Int32)]) (v := none) (A'' := im_H g2 u o Y) 2 49 (fun n => rfl) rfl (x49_ok (g := g1) (a := (1 : Int32)) hc) ?_
      show iv_ev (iv_Xs L xs) 60 8 [.ref 3, .int (0 : Int32), .int (1 : Int32)] [] (im_H g2 u o Y) 2 12 _
      cases hb1 : Op.if_icmp.holds .ne (g2 8 0) (-1 : Int32) with
      | true =>
        have h := iv_bt hb1 h
        refine iv_brt (mi' := 60) (pc' := 31) (ls' := [.ref 3, .int (0 : Int32), .int (1 : Int32)]) (st' := []) (A' := im_H g2 u o Y) (c' := 2) (s' := 12) (mi'' := 60) (pc'' := 19) (ls'' := [.ref 3, .int (0 : Int32), .int (1 : Int32)]) (st'' := []) (A'' := im_H g2 u o Y) (c'' := 2) (s'' := 12) 5 0 0 hb1 (fun n => rfl) ?_
        refine iv_blk (mi' := 60) (pc' := 32) (ls' := [.ref 3, .int (0 : Int32), .int (1 : Int32)]) (st' := [.int (0 : Int32)]) (A' := im_H g2 u o Y) (c' := 2) (s' := 12) 1 (fun n => rfl) ?_
        exact x60_r0_0_1_1_ok (g := g2) (y0 := (0 : Int32)) h
      | false =>
        have h := iv_bf hb1 h
        refine iv_brf (mi' := 60) (pc' := 31) (ls' := [.ref 3, .int (0 : Int32), .int (1 : Int32)]) (st' := []) (A' := im_H g2 u o Y) (c' := 2) (s' := 12) (mi'' := 60) (pc'' := 19) (ls'' := [.ref 3, .int (0 : Int32), .int (1 : Int32)]) (st'' := []) (A'' := im_H g2 u o Y) (c'' := 2) (s'' := 12) 5 0 0 hb1 (fun n => rfl) ?_
        cases hb2 : Op.if_icmp.holds .eq (g2 0 6) (0 : Int32) with
        | true =>
          have h := iv_bt hb2 h
          refine iv_brt (mi' := 60) (pc' := 31) (ls' := [.ref 3, .int (0 : Int32), .int (1 : Int32)]) (st' := []) (A' := im_H g2 u o Y) (c' := 2) (s' := 12) (mi'' := 60) (pc'' := 27) (ls'' := [.ref 3, .int (0 : Int32), .int (1 : Int32)]) (st'' := []) (A'' := im_H g2 u o Y) (c'' := 2) (s'' := 12) 4 0 0 hb2 (fun n => rfl) ?_
          refine iv_blk (mi' := 60) (pc' := 32) (ls' := [.ref 3, .int (0 : Int32), .int (1 : Int32)]) (st' := [.int (0 : Int32)]) (A' := im_H g2 u o Y) (c' := 2) (s' := 12) 1 (fun n => rfl) ?_
          exact x60_r0_0_1_1_ok (g := g2) (y0 := (0 : Int32)) h
        | false =>
          have h := iv_bf hb2 h
          refine iv_brf (mi' := 60) (pc' := 31) (ls' := [.ref 3, .int (0 : Int32), .int (1 : Int32)]) (st' := []) (A' := im_H g2 u o Y) (c' := 2) (s' := 12) (mi'' := 60) (pc'' := 27) (ls'' := [.ref 3, .int (0 : Int32), .int (1 : Int32)]) (st'' := []) (A'' := im_H g2 u o Y) (c'' := 2) (s'' := 12) 4 0 0 hb2 (fun n => rfl) ?_
          refine iv_blk (mi' := 60) (pc' := 32) (ls' := [.ref 3, .int (0 : Int32), .int (1 : Int32)]) (st' := [.int (1 : Int32)]) (A' := im_H g2 u o Y) (c' := 2) (s' := 12) 2 (fun n => rfl) ?_
          exact x60_r0_0_1_1_ok (g := g2) (y0 := (1 : Int32)) h
def x42_r0_0_2_1 (g : im_M) (y0 : Int32) (y1 : Int32) : Option (im_T × im_M) :=
  Option.bind (x44 g y1) (fun q3 =>
    Sum.elim (fun z => some (.inl z, q3.2)) (fun _ =>
    Option.bind (x50_r9_2 q3.2 y0) (fun q4 =>
      some (.inr 0, q4.2))) q3.1)
set_option maxRecDepth 100000 in
set_option maxHeartbeats 4000000 in
theorem x42_r0_0_2_1_ok {L : Nat} {xs : Nat → Int32} {g u mm : im_M} {o : Nat → Int64} {Y : iv_A} {y0 y1 : Int32} {ret : im_T} (h : x42_r0_0_2_1 g y0 y1 = some (ret, mm)) : iv_ev (iv_Xs L xs) 42 24 [.ref 3, .int (0 : Int32), .int (2 : Int32), .int y0] [.int y1] (im_H g u o Y) 2 12 (im_rev ret (im_H mm u o Y)) := by
  unfold x42_r0_0_2_1 at h
  obtain ⟨v3, g3, hc, h⟩ := iv_bd h
  cases v3 with
  | inl z =>
    have h := iv_sl h
    cases h
    exact iv_calu (mi' := 42) (pc' := 24) (ls' := [.ref 3, .int (0 : Int32), .int (2 : Int32), .int y0]) (rest := []) (A' := im_H g u o Y) (c' := 2) (s' := 12) (as := [.int y1]) (B := im_H g3 u o Y) 1 44 (z.val + 7) (fun n => rfl) rfl (im_zx z) rfl rfl (x44_ok (g := g) (a := y1) hc)
  | inr v3 =>
    have h := iv_sr h
    refine iv_cal (mi' := 42) (pc' := 24) (ls' := [.ref 3, .int (0 : Int32), .int (2 : Int32), .int y0]) (rest := []) (A' := im_H g u o Y) (c' := 2) (s' := 12) (as := [.int y1]) (v := none) (A'' := im_H g3 u o Y) 1 44 (fun n => rfl) rfl (x44_ok (g := g) (a := y1) hc) ?_
    show iv_ev (iv_Xs L xs) 42 27 [.ref 3, .int (0 : Int32), .int (2 : Int32), .int y0] [] (im_H g3 u o Y) 3 18 _
    obtain ⟨v4, g4, hc, h⟩ := iv_bd h
    refine iv_cal (mi' := 42) (pc' := 35) (ls' := [.ref 3, .int (0 : Int32), .int (2 : Int32), .int y0]) (rest := []) (A' := im_H g3 u o Y) (c' := 3) (s' := 18) (as := [.ref 12, .int (2 : Int32), .int y0]) (v := none) (A'' := im_H g4 u o Y) 7 50 (fun n => rfl) rfl (x50_r9_2_ok (g := g3) (a := y0) hc) ?_
    show iv_ev (iv_Xs L xs) 42 38 [.ref 3, .int (0 : Int32), .int (2 : Int32), .int y0] [] (im_H g4 u o Y) 3 18 _
    cases h
    exact iv_ret 1 (fun n => rfl)
def x42_r0_0_2 (g : im_M) (a : Int32) : Option (im_T × im_M) :=
  Option.bind (x43 g (0 : Int32)) (fun q1 =>
    Sum.elim (fun z => some (.inl z, q1.2)) (fun _ =>
    Option.bind (x49 q1.2 (2 : Int32)) (fun q2 =>
      Sum.elim (fun z => some (.inl z, q2.2)) (fun _ =>
      bif Op.ifCond.holds .lt a then
        (x42_r0_0_2_1 q2.2 a (0 : Int32))
      else
        (bif Op.if_icmp.holds .gt a (4095 : Int32) then
          (x42_r0_0_2_1 q2.2 a (0 : Int32))
        else
          (x42_r0_0_2_1 q2.2 a (1 : Int32)))) q2.1)) q1.1)
set_option maxRecDepth 100000 in
set_option maxHeartbeats 4000000 in
theorem x42_r0_0_2_ok {L : Nat} {xs : Nat → Int32} {g u mm : im_M} {o : Nat → Int64} {Y : iv_A} {a : Int32} {ret : im_T} (h : x42_r0_0_2 g a = some (ret, mm)) : iv_ev (iv_Xs L xs) 42 0 [.ref 3, .int (0 : Int32), .int (2 : Int32), .int a] [] (im_H g u o Y) 0 0 (im_rev ret (im_H mm u o Y)) := by
  unfold x42_r0_0_2 at h
  obtain ⟨v1, g1, hc, h⟩ := iv_bd h
  cases v1 with
  | inl z =>
    have h := iv_sl h
    cases h
    exact iv_calu (mi' := 42) (pc' := 1) (ls' := [.ref 3, .int (0 : Int32), .int (2 : Int32), .int a]) (rest := []) (A' := im_H g u o Y) (c' := 0) (s' := 0) (as := [.int (0 : Int32)]) (B := im_H g1 u o Y) 2 43 (z.val + 7) (fun n => rfl) rfl (im_zx z) rfl rfl (x43_ok (g := g) (a := (0 : Int32)) hc)
  | inr v1 =>
    have h := iv_sr h
    refine iv_cal (mi' := 42) (pc' := 1) (ls' := [.ref 3, .int (0 : Int32), .int (2 : Int32), .int a]) (rest := []) (A' := im_H g u o Y) (c' := 0) (s' := 0) (as := [.int (0 : Int32)]) (v := none) (A'' := im_H g1 u o Y) 2 43 (fun n => rfl) rfl (x43_ok (g := g) (a := (0 : Int32)) hc) ?_
    show iv_ev (iv_Xs L xs) 42 4 [.ref 3, .int (0 : Int32), .int (2 : Int32), .int a] [] (im_H g1 u o Y) 1 6 _
    obtain ⟨v2, g2, hc, h⟩ := iv_bd h
    cases v2 with
    | inl z =>
      have h := iv_sl h
      cases h
      exact iv_calu (mi' := 42) (pc' := 5) (ls' := [.ref 3, .int (0 : Int32), .int (2 : Int32), .int a]) (rest := []) (A' := im_H g1 u o Y) (c' := 1) (s' := 6) (as := [.int (2 : Int32)]) (B := im_H g2 u o Y) 2 49 (z.val + 7) (fun n => rfl) rfl (im_zx z) rfl rfl (x49_ok (g := g1) (a := (2 : Int32)) hc)
    | inr v2 =>
      have h := iv_sr h
      refine iv_cal (mi' := 42) (pc' := 5) (ls' := [.ref 3, .int (0 : Int32), .int (2 : Int32), .int a]) (rest := []) (A' := im_H g1 u o Y) (c' := 1) (s' := 6) (as := [.int (2 : Int32)]) (v := none) (A'' := im_H g2 u o Y) 2 49 (fun n => rfl) rfl (x49_ok (g := g1) (a := (2 : Int32)) hc) ?_
      show iv_ev (iv_Xs L xs) 42 8 [.ref 3, .int (0 : Int32), .int (2 : Int32), .int a] [] (im_H g2 u o Y) 2 12 _
      cases hb1 : Op.ifCond.holds .lt a with
      | true =>
        have h := iv_bt hb1 h
        refine iv_brt (mi' := 42) (pc' := 23) (ls' := [.ref 3, .int (0 : Int32), .int (2 : Int32), .int a]) (st' := []) (A' := im_H g2 u o Y) (c' := 2) (s' := 12) (mi'' := 42) (pc'' := 12) (ls'' := [.ref 3, .int (0 : Int32), .int (2 : Int32), .int a]) (st'' := []) (A'' := im_H g2 u o Y) (c'' := 2) (s'' := 12) 2 0 0 hb1 (fun n => rfl) ?_
        refine iv_blk (mi' := 42) (pc' := 24) (ls' := [.ref 3, .int (0 : Int32), .int (2 : Int32), .int a]) (st' := [.int (0 : Int32)]) (A' := im_H g2 u o Y) (c' := 2) (s' := 12) 1 (fun n => rfl) ?_
        exact x42_r0_0_2_1_ok (g := g2) (y0 := a) (y1 := (0 : Int32)) h
      | false =>
        have h := iv_bf hb1 h
        refine iv_brf (mi' := 42) (pc' := 23) (ls' := [.ref 3, .int (0 : Int32), .int (2 : Int32), .int a]) (st' := []) (A' := im_H g2 u o Y) (c' := 2) (s' := 12) (mi'' := 42) (pc'' := 12) (ls'' := [.ref 3, .int (0 : Int32), .int (2 : Int32), .int a]) (st'' := []) (A'' := im_H g2 u o Y) (c'' := 2) (s'' := 12) 2 0 0 hb1 (fun n => rfl) ?_
        cases hb2 : Op.if_icmp.holds .gt a (4095 : Int32) with
        | true =>
          have h := iv_bt hb2 h
          refine iv_brt (mi' := 42) (pc' := 23) (ls' := [.ref 3, .int (0 : Int32), .int (2 : Int32), .int a]) (st' := []) (A' := im_H g2 u o Y) (c' := 2) (s' := 12) (mi'' := 42) (pc'' := 19) (ls'' := [.ref 3, .int (0 : Int32), .int (2 : Int32), .int a]) (st'' := []) (A'' := im_H g2 u o Y) (c'' := 2) (s'' := 12) 3 0 0 hb2 (fun n => rfl) ?_
          refine iv_blk (mi' := 42) (pc' := 24) (ls' := [.ref 3, .int (0 : Int32), .int (2 : Int32), .int a]) (st' := [.int (0 : Int32)]) (A' := im_H g2 u o Y) (c' := 2) (s' := 12) 1 (fun n => rfl) ?_
          exact x42_r0_0_2_1_ok (g := g2) (y0 := a) (y1 := (0 : Int32)) h
        | false =>
          have h := iv_bf hb2 h
          refine iv_brf (mi' := 42) (pc' := 23) (ls' := [.ref 3, .int (0 : Int32), .int (2 : Int32), .int a]) (st' := []) (A' := im_H g2 u o Y) (c' := 2) (s' := 12) (mi'' := 42) (pc'' := 19) (ls'' := [.ref 3, .int (0 : Int32), .int (2 : Int32), .int a]) (st'' := []) (A'' := im_H g2 u o Y) (c'' := 2) (s'' := 12) 3 0 0 hb2 (fun n => rfl) ?_
          refine iv_blk (mi' := 42) (pc' := 24) (ls' := [.ref 3, .int (0 : Int32), .int (2 : Int32), .int a]) (st' := [.int (1 : Int32)]) (A' := im_H g2 u o Y) (c' := 2) (s' := 12) 2 (fun n => rfl) ?_
          exact x42_r0_0_2_1_ok (g := g2) (y0 := a) (y1 := (1 : Int32)) h
def x52_r0_0_2 (g : im_M) : Option (im_T × im_M) :=
  Option.bind (x43 g (0 : Int32)) (fun q1 =>
    Sum.elim (fun z => some (.inl z, q1.2)) (fun _ =>
    Option.bind (x49 q1.2 (2 : Int32)) (fun q2 =>
      Sum.elim (fun z => some (.inl z, q2.2)) (fun _ =>
      Option.bind (x20_r9_2 q2.2 ) (fun q3 =>
        some (.inr q3.1, q3.2))) q2.1)) q1.1)
set_option maxRecDepth 100000 in
set_option maxHeartbeats 4000000 in
theorem x52_r0_0_2_ok {L : Nat} {xs : Nat → Int32} {g u mm : im_M} {o : Nat → Int64} {Y : iv_A} {ret : im_T} (h : x52_r0_0_2 g  = some (ret, mm)) : iv_ev (iv_Xs L xs) 52 0 [.ref 3, .int (0 : Int32), .int (2 : Int32)] [] (im_H g u o Y) 0 0 (im_res ret (im_H mm u o Y)) := by
  unfold x52_r0_0_2 at h
  obtain ⟨v1, g1, hc, h⟩ := iv_bd h
  cases v1 with
  | inl z =>
    have h := iv_sl h
    cases h
    exact iv_calu (mi' := 52) (pc' := 1) (ls' := [.ref 3, .int (0 : Int32), .int (2 : Int32)]) (rest := []) (A' := im_H g u o Y) (c' := 0) (s' := 0) (as := [.int (0 : Int32)]) (B := im_H g1 u o Y) 2 43 (z.val + 7) (fun n => rfl) rfl (im_zx z) rfl rfl (x43_ok (g := g) (a := (0 : Int32)) hc)
  | inr v1 =>
    have h := iv_sr h
    refine iv_cal (mi' := 52) (pc' := 1) (ls' := [.ref 3, .int (0 : Int32), .int (2 : Int32)]) (rest := []) (A' := im_H g u o Y) (c' := 0) (s' := 0) (as := [.int (0 : Int32)]) (v := none) (A'' := im_H g1 u o Y) 2 43 (fun n => rfl) rfl (x43_ok (g := g) (a := (0 : Int32)) hc) ?_
    show iv_ev (iv_Xs L xs) 52 4 [.ref 3, .int (0 : Int32), .int (2 : Int32)] [] (im_H g1 u o Y) 1 6 _
    obtain ⟨v2, g2, hc, h⟩ := iv_bd h
    cases v2 with
    | inl z =>
      have h := iv_sl h
      cases h
      exact iv_calu (mi' := 52) (pc' := 5) (ls' := [.ref 3, .int (0 : Int32), .int (2 : Int32)]) (rest := []) (A' := im_H g1 u o Y) (c' := 1) (s' := 6) (as := [.int (2 : Int32)]) (B := im_H g2 u o Y) 2 49 (z.val + 7) (fun n => rfl) rfl (im_zx z) rfl rfl (x49_ok (g := g1) (a := (2 : Int32)) hc)
    | inr v2 =>
      have h := iv_sr h
      refine iv_cal (mi' := 52) (pc' := 5) (ls' := [.ref 3, .int (0 : Int32), .int (2 : Int32)]) (rest := []) (A' := im_H g1 u o Y) (c' := 1) (s' := 6) (as := [.int (2 : Int32)]) (v := none) (A'' := im_H g2 u o Y) 2 49 (fun n => rfl) rfl (x49_ok (g := g1) (a := (2 : Int32)) hc) ?_
      show iv_ev (iv_Xs L xs) 52 8 [.ref 3, .int (0 : Int32), .int (2 : Int32)] [] (im_H g2 u o Y) 2 12 _
      obtain ⟨v3, g3, hc, h⟩ := iv_bd h
      refine iv_cal (mi' := 52) (pc' := 15) (ls' := [.ref 3, .int (0 : Int32), .int (2 : Int32)]) (rest := []) (A' := im_H g2 u o Y) (c' := 2) (s' := 12) (as := [.ref 12, .int (2 : Int32)]) (v := some (.int v3)) (A'' := im_H g3 u o Y) 6 20 (fun n => rfl) rfl (x20_r9_2_ok (g := g2)  hc) ?_
      show iv_ev (iv_Xs L xs) 52 18 [.ref 3, .int (0 : Int32), .int (2 : Int32)] [.int v3] (im_H g3 u o Y) 2 12 _
      cases h
      exact iv_ret 1 (fun n => rfl)
def x60_r0_0_2_1 (g : im_M) (y0 : Int32) : Option (im_T × im_M) :=
  Option.bind (x55 g y0) (fun q3 =>
    Sum.elim (fun z => some (.inl z, q3.2)) (fun _ =>
    Option.bind (x61_r8 q3.2 (0 : Int32) (2 : Int32)) (fun q4 =>
      some (.inr 0, q4.2))) q3.1)
set_option maxRecDepth 100000 in
set_option maxHeartbeats 4000000 in
theorem x60_r0_0_2_1_ok {L : Nat} {xs : Nat → Int32} {g u mm : im_M} {o : Nat → Int64} {Y : iv_A} {y0 : Int32} {ret : im_T} (h : x60_r0_0_2_1 g y0 = some (ret, mm)) : iv_ev (iv_Xs L xs) 60 32 [.ref 3, .int (0 : Int32), .int (2 : Int32)] [.int y0] (im_H g u o Y) 2 12 (im_rev ret (im_H mm u o Y)) := by
  unfold x60_r0_0_2_1 at h
  obtain ⟨v3, g3, hc, h⟩ := iv_bd h
  cases v3 with
  | inl z =>
    have h := iv_sl h
    cases h
    exact iv_calu (mi' := 60) (pc' := 32) (ls' := [.ref 3, .int (0 : Int32), .int (2 : Int32)]) (rest := []) (A' := im_H g u o Y) (c' := 2) (s' := 12) (as := [.int y0]) (B := im_H g3 u o Y) 1 55 (z.val + 7) (fun n => rfl) rfl (im_zx z) rfl rfl (x55_ok (g := g) (a := y0) hc)
  | inr v3 =>
    have h := iv_sr h
    refine iv_cal (mi' := 60) (pc' := 32) (ls' := [.ref 3, .int (0 : Int32), .int (2 : Int32)]) (rest := []) (A' := im_H g u o Y) (c' := 2) (s' := 12) (as := [.int y0]) (v := none) (A'' := im_H g3 u o Y) 1 55 (fun n => rfl) rfl (x55_ok (g := g) (a := y0) hc) ?_
    show iv_ev (iv_Xs L xs) 60 35 [.ref 3, .int (0 : Int32), .int (2 : Int32)] [] (im_H g3 u o Y) 3 18 _
    obtain ⟨v4, g4, hc, h⟩ := iv_bd h
    refine iv_cal (mi' := 60) (pc' := 41) (ls' := [.ref 3, .int (0 : Int32), .int (2 : Int32)]) (rest := []) (A' := im_H g3 u o Y) (c' := 3) (s' := 18) (as := [.ref 11, .int (0 : Int32), .int (2 : Int32)]) (v := none) (A'' := im_H g4 u o Y) 5 61 (fun n => rfl) rfl (x61_r8_ok (g := g3) (a := (0 : Int32)) (b := (2 : Int32)) hc) ?_
    show iv_ev (iv_Xs L xs) 60 44 [.ref 3, .int (0 : Int32), .int (2 : Int32)] [] (im_H g4 u o Y) 3 18 _
    cases h
    exact iv_ret 1 (fun n => rfl)
def x60_r0_0_2 (g : im_M) : Option (im_T × im_M) :=
  Option.bind (x43 g (0 : Int32)) (fun q1 =>
    Sum.elim (fun z => some (.inl z, q1.2)) (fun _ =>
    Option.bind (x49 q1.2 (2 : Int32)) (fun q2 =>
      Sum.elim (fun z => some (.inl z, q2.2)) (fun _ =>
      bif Op.if_icmp.holds .ne (q2.2 8 0) (-1 : Int32) then
        (x60_r0_0_2_1 q2.2 (0 : Int32))
      else
        (bif Op.if_icmp.holds .eq (q2.2 0 6) (0 : Int32) then
          (x60_r0_0_2_1 q2.2 (0 : Int32))
        else
          (x60_r0_0_2_1 q2.2 (1 : Int32)))) q2.1)) q1.1)
set_option maxRecDepth 100000 in
set_option maxHeartbeats 4000000 in
theorem x60_r0_0_2_ok {L : Nat} {xs : Nat → Int32} {g u mm : im_M} {o : Nat → Int64} {Y : iv_A} {ret : im_T} (h : x60_r0_0_2 g  = some (ret, mm)) : iv_ev (iv_Xs L xs) 60 0 [.ref 3, .int (0 : Int32), .int (2 : Int32)] [] (im_H g u o Y) 0 0 (im_rev ret (im_H mm u o Y)) := by
  unfold x60_r0_0_2 at h
  obtain ⟨v1, g1, hc, h⟩ := iv_bd h
  cases v1 with
  | inl z =>
    have h := iv_sl h
    cases h
    exact iv_calu (mi' := 60) (pc' := 1) (ls' := [.ref 3, .int (0 : Int32), .int (2 : Int32)]) (rest := []) (A' := im_H g u o Y) (c' := 0) (s' := 0) (as := [.int (0 : Int32)]) (B := im_H g1 u o Y) 2 43 (z.val + 7) (fun n => rfl) rfl (im_zx z) rfl rfl (x43_ok (g := g) (a := (0 : Int32)) hc)
  | inr v1 =>
    have h := iv_sr h
    refine iv_cal (mi' := 60) (pc' := 1) (ls' := [.ref 3, .int (0 : Int32), .int (2 : Int32)]) (rest := []) (A' := im_H g u o Y) (c' := 0) (s' := 0) (as := [.int (0 : Int32)]) (v := none) (A'' := im_H g1 u o Y) 2 43 (fun n => rfl) rfl (x43_ok (g := g) (a := (0 : Int32)) hc) ?_
    show iv_ev (iv_Xs L xs) 60 4 [.ref 3, .int (0 : Int32), .int (2 : Int32)] [] (im_H g1 u o Y) 1 6 _
    obtain ⟨v2, g2, hc, h⟩ := iv_bd h
    cases v2 with
    | inl z =>
      have h := iv_sl h
      cases h
      exact iv_calu (mi' := 60) (pc' := 5) (ls' := [.ref 3, .int (0 : Int32), .int (2 : Int32)]) (rest := []) (A' := im_H g1 u o Y) (c' := 1) (s' := 6) (as := [.int (2 : Int32)]) (B := im_H g2 u o Y) 2 49 (z.val + 7) (fun n => rfl) rfl (im_zx z) rfl rfl (x49_ok (g := g1) (a := (2 : Int32)) hc)
    | inr v2 =>
      have h := iv_sr h
      refine iv_cal (mi' := 60) (pc' := 5) (ls' := [.ref 3, .int (0 : Int32), .int (2 : Int32)]) (rest := []) (A' := im_H g1 u o Y) (c' := 1) (s' := 6) (as := [.int (2 : Int32)]) (v := none) (A'' := im_H g2 u o Y) 2 49 (fun n => rfl) rfl (x49_ok (g := g1) (a := (2 : Int32)) hc) ?_
      show iv_ev (iv_Xs L xs) 60 8 [.ref 3, .int (0 : Int32), .int (2 : Int32)] [] (im_H g2 u o Y) 2 12 _
      cases hb1 : Op.if_icmp.holds .ne (g2 8 0) (-1 : Int32) with
      | true =>
        have h := iv_bt hb1 h
        refine iv_brt (mi' := 60) (pc' := 31) (ls' := [.ref 3, .int (0 : Int32), .int (2 : Int32)]) (st' := []) (A' := im_H g2 u o Y) (c' := 2) (s' := 12) (mi'' := 60) (pc'' := 19) (ls'' := [.ref 3, .int (0 : Int32), .int (2 : Int32)]) (st'' := []) (A'' := im_H g2 u o Y) (c'' := 2) (s'' := 12) 5 0 0 hb1 (fun n => rfl) ?_
        refine iv_blk (mi' := 60) (pc' := 32) (ls' := [.ref 3, .int (0 : Int32), .int (2 : Int32)]) (st' := [.int (0 : Int32)]) (A' := im_H g2 u o Y) (c' := 2) (s' := 12) 1 (fun n => rfl) ?_
        exact x60_r0_0_2_1_ok (g := g2) (y0 := (0 : Int32)) h
      | false =>
        have h := iv_bf hb1 h
        refine iv_brf (mi' := 60) (pc' := 31) (ls' := [.ref 3, .int (0 : Int32), .int (2 : Int32)]) (st' := []) (A' := im_H g2 u o Y) (c' := 2) (s' := 12) (mi'' := 60) (pc'' := 19) (ls'' := [.ref 3, .int (0 : Int32), .int (2 : Int32)]) (st'' := []) (A'' := im_H g2 u o Y) (c'' := 2) (s'' := 12) 5 0 0 hb1 (fun n => rfl) ?_
        cases hb2 : Op.if_icmp.holds .eq (g2 0 6) (0 : Int32) with
        | true =>
          have h := iv_bt hb2 h
          refine iv_brt (mi' := 60) (pc' := 31) (ls' := [.ref 3, .int (0 : Int32), .int (2 : Int32)]) (st' := []) (A' := im_H g2 u o Y) (c' := 2) (s' := 12) (mi'' := 60) (pc'' := 27) (ls'' := [.ref 3, .int (0 : Int32), .int (2 : Int32)]) (st'' := []) (A'' := im_H g2 u o Y) (c'' := 2) (s'' := 12) 4 0 0 hb2 (fun n => rfl) ?_
          refine iv_blk (mi' := 60) (pc' := 32) (ls' := [.ref 3, .int (0 : Int32), .int (2 : Int32)]) (st' := [.int (0 : Int32)]) (A' := im_H g2 u o Y) (c' := 2) (s' := 12) 1 (fun n => rfl) ?_
          exact x60_r0_0_2_1_ok (g := g2) (y0 := (0 : Int32)) h
        | false =>
          have h := iv_bf hb2 h
          refine iv_brf (mi' := 60) (pc' := 31) (ls' := [.ref 3, .int (0 : Int32), .int (2 : Int32)]) (st' := []) (A' := im_H g2 u o Y) (c' := 2) (s' := 12) (mi'' := 60) (pc'' := 27) (ls'' := [.ref 3, .int (0 : Int32), .int (2 : Int32)]) (st'' := []) (A'' := im_H g2 u o Y) (c'' := 2) (s'' := 12) 4 0 0 hb2 (fun n => rfl) ?_
          refine iv_blk (mi' := 60) (pc' := 32) (ls' := [.ref 3, .int (0 : Int32), .int (2 : Int32)]) (st' := [.int (1 : Int32)]) (A' := im_H g2 u o Y) (c' := 2) (s' := 12) 2 (fun n => rfl) ?_
          exact x60_r0_0_2_1_ok (g := g2) (y0 := (1 : Int32)) h
def x66_r0_0_0 (g : im_M) (a : Int32) : Option (im_T × im_M) :=
  Option.bind (x43 g (0 : Int32)) (fun q1 =>
    Sum.elim (fun z => some (.inl z, q1.2)) (fun _ =>
    Option.bind (x64 q1.2 (0 : Int32)) (fun q2 =>
      Sum.elim (fun z => some (.inl z, q2.2)) (fun _ =>
      Option.bind (x67_r5_0_0 q2.2 a) (fun q3 =>
        some (.inr 0, q3.2))) q2.1)) q1.1)
set_option maxRecDepth 100000 in
set_option maxHeartbeats 4000000 in
theorem x66_r0_0_0_ok {L : Nat} {xs : Nat → Int32} {g u mm : im_M} {o : Nat → Int64} {Y : iv_A} {a : Int32} {ret : im_T} (h : x66_r0_0_0 g a = some (ret, mm)) : iv_ev (iv_Xs L xs) 66 0 [.ref 3, .int (0 : Int32), .int (0 : Int32), .int a] [] (im_H g u o Y) 0 0 (im_rev ret (im_H mm u o Y)) := by
  unfold x66_r0_0_0 at h
  obtain ⟨v1, g1, hc, h⟩ := iv_bd h
  cases v1 with
  | inl z =>
    have h := iv_sl h
    cases h
    exact iv_calu (mi' := 66) (pc' := 1) (ls' := [.ref 3, .int (0 : Int32), .int (0 : Int32), .int a]) (rest := []) (A' := im_H g u o Y) (c' := 0) (s' := 0) (as := [.int (0 : Int32)]) (B := im_H g1 u o Y) 2 43 (z.val + 7) (fun n => rfl) rfl (im_zx z) rfl rfl (x43_ok (g := g) (a := (0 : Int32)) hc)
  | inr v1 =>
    have h := iv_sr h
    refine iv_cal (mi' := 66) (pc' := 1) (ls' := [.ref 3, .int (0 : Int32), .int (0 : Int32), .int a]) (rest := []) (A' := im_H g u o Y) (c' := 0) (s' := 0) (as := [.int (0 : Int32)]) (v := none) (A'' := im_H g1 u o Y) 2 43 (fun n => rfl) rfl (x43_ok (g := g) (a := (0 : Int32)) hc) ?_
    show iv_ev (iv_Xs L xs) 66 4 [.ref 3, .int (0 : Int32), .int (0 : Int32), .int a] [] (im_H g1 u o Y) 1 6 _
    obtain ⟨v2, g2, hc, h⟩ := iv_bd h
    cases v2 with
    | inl z =>
      have h := iv_sl h
      cases h
      exact iv_calu (mi' := 66) (pc' := 5) (ls' := [.ref 3, .int (0 : Int32), .int (0 : Int32), .int a]) (rest := []) (A' := im_H g1 u o Y) (c' := 1) (s' := 6) (as := [.int (0 : Int32)]) (B := im_H g2 u o Y) 2 64 (z.val + 7) (fun n => rfl) rfl (im_zx z) rfl rfl (x64_ok (g := g1) (a := (0 : Int32)) hc)
    | inr v2 =>
      have h := iv_sr h
      refine iv_cal (mi' := 66) (pc' := 5) (ls' := [.ref 3, .int (0 : Int32), .int (0 : Int32), .int a]) (rest := []) (A' := im_H g1 u o Y) (c' := 1) (s' := 6) (as := [.int (0 : Int32)]) (v := none) (A'' := im_H g2 u o Y) 2 64 (fun n => rfl) rfl (x64_ok (g := g1) (a := (0 : Int32)) hc) ?_
      show iv_ev (iv_Xs L xs) 66 8 [.ref 3, .int (0 : Int32), .int (0 : Int32), .int a] [] (im_H g2 u o Y) 2 12 _
      obtain ⟨v3, g3, hc, h⟩ := iv_bd h
      refine iv_cal (mi' := 66) (pc' := 15) (ls' := [.ref 3, .int (0 : Int32), .int (0 : Int32), .int a]) (rest := []) (A' := im_H g2 u o Y) (c' := 2) (s' := 12) (as := [.ref 8, .int (0 : Int32), .int (0 : Int32), .int a]) (v := none) (A'' := im_H g3 u o Y) 6 67 (fun n => rfl) rfl (x67_r5_0_0_ok (g := g2) (a := a) hc) ?_
      show iv_ev (iv_Xs L xs) 66 18 [.ref 3, .int (0 : Int32), .int (0 : Int32), .int a] [] (im_H g3 u o Y) 2 12 _
      cases h
      exact iv_ret 1 (fun n => rfl)
def x66_r0_0_1 (g : im_M) (a : Int32) : Option (im_T × im_M) :=
  Option.bind (x43 g (0 : Int32)) (fun q1 =>
    Sum.elim (fun z => some (.inl z, q1.2)) (fun _ =>
    Option.bind (x64 q1.2 (1 : Int32)) (fun q2 =>
      Sum.elim (fun z => some (.inl z, q2.2)) (fun _ =>
      Option.bind (x67_r5_0_1 q2.2 a) (fun q3 =>
        some (.inr 0, q3.2))) q2.1)) q1.1)
set_option maxRecDepth 100000 in
set_option maxHeartbeats 4000000 in
theorem x66_r0_0_1_ok {L : Nat} {xs : Nat → Int32} {g u mm : im_M} {o : Nat → Int64} {Y : iv_A} {a : Int32} {ret : im_T} (h : x66_r0_0_1 g a = some (ret, mm)) : iv_ev (iv_Xs L xs) 66 0 [.ref 3, .int (0 : Int32), .int (1 : Int32), .int a] [] (im_H g u o Y) 0 0 (im_rev ret (im_H mm u o Y)) := by
  unfold x66_r0_0_1 at h
  obtain ⟨v1, g1, hc, h⟩ := iv_bd h
  cases v1 with
  | inl z =>
    have h := iv_sl h
    cases h
    exact iv_calu (mi' := 66) (pc' := 1) (ls' := [.ref 3, .int (0 : Int32), .int (1 : Int32), .int a]) (rest := []) (A' := im_H g u o Y) (c' := 0) (s' := 0) (as := [.int (0 : Int32)]) (B := im_H g1 u o Y) 2 43 (z.val + 7) (fun n => rfl) rfl (im_zx z) rfl rfl (x43_ok (g := g) (a := (0 : Int32)) hc)
  | inr v1 =>
    have h := iv_sr h
    refine iv_cal (mi' := 66) (pc' := 1) (ls' := [.ref 3, .int (0 : Int32), .int (1 : Int32), .int a]) (rest := []) (A' := im_H g u o Y) (c' := 0) (s' := 0) (as := [.int (0 : Int32)]) (v := none) (A'' := im_H g1 u o Y) 2 43 (fun n => rfl) rfl (x43_ok (g := g) (a := (0 : Int32)) hc) ?_
    show iv_ev (iv_Xs L xs) 66 4 [.ref 3, .int (0 : Int32), .int (1 : Int32), .int a] [] (im_H g1 u o Y) 1 6 _
    obtain ⟨v2, g2, hc, h⟩ := iv_bd h
    cases v2 with
    | inl z =>
      have h := iv_sl h
      cases h
      exact iv_calu (mi' := 66) (pc' := 5) (ls' := [.ref 3, .int (0 : Int32), .int (1 : Int32), .int a]) (rest := []) (A' := im_H g1 u o Y) (c' := 1) (s' := 6) (as := [.int (1 : Int32)]) (B := im_H g2 u o Y) 2 64 (z.val + 7) (fun n => rfl) rfl (im_zx z) rfl rfl (x64_ok (g := g1) (a := (1 : Int32)) hc)
    | inr v2 =>
      have h := iv_sr h
      refine iv_cal (mi' := 66) (pc' := 5) (ls' := [.ref 3, .int (0 : Int32), .int (1 : Int32), .int a]) (rest := []) (A' := im_H g1 u o Y) (c' := 1) (s' := 6) (as := [.int (1 : Int32)]) (v := none) (A'' := im_H g2 u o Y) 2 64 (fun n => rfl) rfl (x64_ok (g := g1) (a := (1 : Int32)) hc) ?_
      show iv_ev (iv_Xs L xs) 66 8 [.ref 3, .int (0 : Int32), .int (1 : Int32), .int a] [] (im_H g2 u o Y) 2 12 _
      obtain ⟨v3, g3, hc, h⟩ := iv_bd h
      refine iv_cal (mi' := 66) (pc' := 15) (ls' := [.ref 3, .int (0 : Int32), .int (1 : Int32), .int a]) (rest := []) (A' := im_H g2 u o Y) (c' := 2) (s' := 12) (as := [.ref 8, .int (0 : Int32), .int (1 : Int32), .int a]) (v := none) (A'' := im_H g3 u o Y) 6 67 (fun n => rfl) rfl (x67_r5_0_1_ok (g := g2) (a := a) hc) ?_
      show iv_ev (iv_Xs L xs) 66 18 [.ref 3, .int (0 : Int32), .int (1 : Int32), .int a] [] (im_H g3 u o Y) 2 12 _
      cases h
      exact iv_ret 1 (fun n => rfl)
def x66_r0_0_2 (g : im_M) (a : Int32) : Option (im_T × im_M) :=
  Option.bind (x43 g (0 : Int32)) (fun q1 =>
    Sum.elim (fun z => some (.inl z, q1.2)) (fun _ =>
    Option.bind (x64 q1.2 (2 : Int32)) (fun q2 =>
      Sum.elim (fun z => some (.inl z, q2.2)) (fun _ =>
      Option.bind (x67_r5_0_2 q2.2 a) (fun q3 =>
        some (.inr 0, q3.2))) q2.1)) q1.1)
set_option maxRecDepth 100000 in
set_option maxHeartbeats 4000000 in
theorem x66_r0_0_2_ok {L : Nat} {xs : Nat → Int32} {g u mm : im_M} {o : Nat → Int64} {Y : iv_A} {a : Int32} {ret : im_T} (h : x66_r0_0_2 g a = some (ret, mm)) : iv_ev (iv_Xs L xs) 66 0 [.ref 3, .int (0 : Int32), .int (2 : Int32), .int a] [] (im_H g u o Y) 0 0 (im_rev ret (im_H mm u o Y)) := by
  unfold x66_r0_0_2 at h
  obtain ⟨v1, g1, hc, h⟩ := iv_bd h
  cases v1 with
  | inl z =>
    have h := iv_sl h
    cases h
    exact iv_calu (mi' := 66) (pc' := 1) (ls' := [.ref 3, .int (0 : Int32), .int (2 : Int32), .int a]) (rest := []) (A' := im_H g u o Y) (c' := 0) (s' := 0) (as := [.int (0 : Int32)]) (B := im_H g1 u o Y) 2 43 (z.val + 7) (fun n => rfl) rfl (im_zx z) rfl rfl (x43_ok (g := g) (a := (0 : Int32)) hc)
  | inr v1 =>
    have h := iv_sr h
    refine iv_cal (mi' := 66) (pc' := 1) (ls' := [.ref 3, .int (0 : Int32), .int (2 : Int32), .int a]) (rest := []) (A' := im_H g u o Y) (c' := 0) (s' := 0) (as := [.int (0 : Int32)]) (v := none) (A'' := im_H g1 u o Y) 2 43 (fun n => rfl) rfl (x43_ok (g := g) (a := (0 : Int32)) hc) ?_
    show iv_ev (iv_Xs L xs) 66 4 [.ref 3, .int (0 : Int32), .int (2 : Int32), .int a] [] (im_H g1 u o Y) 1 6 _
    obtain ⟨v2, g2, hc, h⟩ := iv_bd h
    cases v2 with
    | inl z =>
      have h := iv_sl h
      cases h
      exact iv_calu (mi' := 66) (pc' := 5) (ls' := [.ref 3, .int (0 : Int32), .int (2 : Int32), .int a]) (rest := []) (A' := im_H g1 u o Y) (c' := 1) (s' := 6) (as := [.int (2 : Int32)]) (B := im_H g2 u o Y) 2 64 (z.val + 7) (fun n => rfl) rfl (im_zx z) rfl rfl (x64_ok (g := g1) (a := (2 : Int32)) hc)
    | inr v2 =>
      have h := iv_sr h
      refine iv_cal (mi' := 66) (pc' := 5) (ls' := [.ref 3, .int (0 : Int32), .int (2 : Int32), .int a]) (rest := []) (A' := im_H g1 u o Y) (c' := 1) (s' := 6) (as := [.int (2 : Int32)]) (v := none) (A'' := im_H g2 u o Y) 2 64 (fun n => rfl) rfl (x64_ok (g := g1) (a := (2 : Int32)) hc) ?_
      show iv_ev (iv_Xs L xs) 66 8 [.ref 3, .int (0 : Int32), .int (2 : Int32), .int a] [] (im_H g2 u o Y) 2 12 _
      obtain ⟨v3, g3, hc, h⟩ := iv_bd h
      refine iv_cal (mi' := 66) (pc' := 15) (ls' := [.ref 3, .int (0 : Int32), .int (2 : Int32), .int a]) (rest := []) (A' := im_H g2 u o Y) (c' := 2) (s' := 12) (as := [.ref 8, .int (0 : Int32), .int (2 : Int32), .int a]) (v := none) (A'' := im_H g3 u o Y) 6 67 (fun n => rfl) rfl (x67_r5_0_2_ok (g := g2) (a := a) hc) ?_
      show iv_ev (iv_Xs L xs) 66 18 [.ref 3, .int (0 : Int32), .int (2 : Int32), .int a] [] (im_H g3 u o Y) 2 12 _
      cases h
      exact iv_ret 1 (fun n => rfl)
def x66_r0_0_3 (g : im_M) (a : Int32) : Option (im_T × im_M) :=
  Option.bind (x43 g (0 : Int32)) (fun q1 =>
    Sum.elim (fun z => some (.inl z, q1.2)) (fun _ =>
    Option.bind (x64 q1.2 (3 : Int32)) (fun q2 =>
      Sum.elim (fun z => some (.inl z, q2.2)) (fun _ =>
      Option.bind (x67_r5_0_3 q2.2 a) (fun q3 =>
        some (.inr 0, q3.2))) q2.1)) q1.1)
set_option maxRecDepth 100000 in
set_option maxHeartbeats 4000000 in
theorem x66_r0_0_3_ok {L : Nat} {xs : Nat → Int32} {g u mm : im_M} {o : Nat → Int64} {Y : iv_A} {a : Int32} {ret : im_T} (h : x66_r0_0_3 g a = some (ret, mm)) : iv_ev (iv_Xs L xs) 66 0 [.ref 3, .int (0 : Int32), .int (3 : Int32), .int a] [] (im_H g u o Y) 0 0 (im_rev ret (im_H mm u o Y)) := by
  unfold x66_r0_0_3 at h
  obtain ⟨v1, g1, hc, h⟩ := iv_bd h
  cases v1 with
  | inl z =>
    have h := iv_sl h
    cases h
    exact iv_calu (mi' := 66) (pc' := 1) (ls' := [.ref 3, .int (0 : Int32), .int (3 : Int32), .int a]) (rest := []) (A' := im_H g u o Y) (c' := 0) (s' := 0) (as := [.int (0 : Int32)]) (B := im_H g1 u o Y) 2 43 (z.val + 7) (fun n => rfl) rfl (im_zx z) rfl rfl (x43_ok (g := g) (a := (0 : Int32)) hc)
  | inr v1 =>
    have h := iv_sr h
    refine iv_cal (mi' := 66) (pc' := 1) (ls' := [.ref 3, .int (0 : Int32), .int (3 : Int32), .int a]) (rest := []) (A' := im_H g u o Y) (c' := 0) (s' := 0) (as := [.int (0 : Int32)]) (v := none) (A'' := im_H g1 u o Y) 2 43 (fun n => rfl) rfl (x43_ok (g := g) (a := (0 : Int32)) hc) ?_
    show iv_ev (iv_Xs L xs) 66 4 [.ref 3, .int (0 : Int32), .int (3 : Int32), .int a] [] (im_H g1 u o Y) 1 6 _
    obtain ⟨v2, g2, hc, h⟩ := iv_bd h
    cases v2 with
    | inl z =>
      have h := iv_sl h
      cases h
      exact iv_calu (mi' := 66) (pc' := 5) (ls' := [.ref 3, .int (0 : Int32), .int (3 : Int32), .int a]) (rest := []) (A' := im_H g1 u o Y) (c' := 1) (s' := 6) (as := [.int (3 : Int32)]) (B := im_H g2 u o Y) 2 64 (z.val + 7) (fun n => rfl) rfl (im_zx z) rfl rfl (x64_ok (g := g1) (a := (3 : Int32)) hc)
    | inr v2 =>
      have h := iv_sr h
      refine iv_cal (mi' := 66) (pc' := 5) (ls' := [.ref 3, .int (0 : Int32), .int (3 : Int32), .int a]) (rest := []) (A' := im_H g1 u o Y) (c' := 1) (s' := 6) (as := [.int (3 : Int32)]) (v := none) (A'' := im_H g2 u o Y) 2 64 (fun n => rfl) rfl (x64_ok (g := g1) (a := (3 : Int32)) hc) ?_
      show iv_ev (iv_Xs L xs) 66 8 [.ref 3, .int (0 : Int32), .int (3 : Int32), .int a] [] (im_H g2 u o Y) 2 12 _
      obtain ⟨v3, g3, hc, h⟩ := iv_bd h
      refine iv_cal (mi' := 66) (pc' := 15) (ls' := [.ref 3, .int (0 : Int32), .int (3 : Int32), .int a]) (rest := []) (A' := im_H g2 u o Y) (c' := 2) (s' := 12) (as := [.ref 8, .int (0 : Int32), .int (3 : Int32), .int a]) (v := none) (A'' := im_H g3 u o Y) 6 67 (fun n => rfl) rfl (x67_r5_0_3_ok (g := g2) (a := a) hc) ?_
      show iv_ev (iv_Xs L xs) 66 18 [.ref 3, .int (0 : Int32), .int (3 : Int32), .int a] [] (im_H g3 u o Y) 2 12 _
      cases h
      exact iv_ret 1 (fun n => rfl)
def x54_r0_1_1 (g : im_M) (y0 : Int32) : Option (im_T × im_M) :=
  Option.bind (x55 g y0) (fun q2 =>
    Sum.elim (fun z => some (.inl z, q2.2)) (fun _ =>
    Option.bind (x15_r1 (im_w q2.2 0 6 (1 : Int32)) (11 : Int32) (1 : Int32) (0 : Int32)) (fun q3 =>
      some (.inr 0, q3.2))) q2.1)
set_option maxRecDepth 100000 in
set_option maxHeartbeats 4000000 in
theorem x54_r0_1_1_ok {L : Nat} {xs : Nat → Int32} {g u mm : im_M} {o : Nat → Int64} {Y : iv_A} {y0 : Int32} {ret : im_T} (h : x54_r0_1_1 g y0 = some (ret, mm)) : iv_ev (iv_Xs L xs) 54 28 [.ref 3, .int (1 : Int32)] [.int y0] (im_H g u o Y) 1 6 (im_rev ret (im_H mm u o Y)) := by
  unfold x54_r0_1_1 at h
  obtain ⟨v2, g2, hc, h⟩ := iv_bd h
  cases v2 with
  | inl z =>
    have h := iv_sl h
    cases h
    exact iv_calu (mi' := 54) (pc' := 28) (ls' := [.ref 3, .int (1 : Int32)]) (rest := []) (A' := im_H g u o Y) (c' := 1) (s' := 6) (as := [.int y0]) (B := im_H g2 u o Y) 1 55 (z.val + 7) (fun n => rfl) rfl (im_zx z) rfl rfl (x55_ok (g := g) (a := y0) hc)
  | inr v2 =>
    have h := iv_sr h
    refine iv_cal (mi' := 54) (pc' := 28) (ls' := [.ref 3, .int (1 : Int32)]) (rest := []) (A' := im_H g u o Y) (c' := 1) (s' := 6) (as := [.int y0]) (v := none) (A'' := im_H g2 u o Y) 1 55 (fun n => rfl) rfl (x55_ok (g := g) (a := y0) hc) ?_
    show iv_ev (iv_Xs L xs) 54 31 [.ref 3, .int (1 : Int32)] [] (im_H g2 u o Y) 2 12 _
    refine iv_blk (mi' := 54) (pc' := 36) (ls' := [.ref 3, .int (1 : Int32)]) (st' := []) (A' := List.set (im_H g2 u o Y) 0 (.inr (5, List.set [.int (g2 0 0), .ref 4, .ref 6, .ref 7, .ref 8, .ref 11, .int (g2 0 6), .int (g2 0 7)] 6 (.int (1 : Int32))))) (c' := 2) (s' := 12) 3 (fun n => rfl) ?_
    rw [im_f0_6]
    obtain ⟨v3, g3, hc, h⟩ := iv_bd h
    refine iv_cal (mi' := 54) (pc' := 44) (ls' := [.ref 3, .int (1 : Int32)]) (rest := []) (A' := im_H (im_w g2 0 6 (1 : Int32)) u o Y) (c' := 2) (s' := 12) (as := [.ref 4, .int (11 : Int32), .int (1 : Int32), .int (0 : Int32)]) (v := none) (A'' := im_H g3 u o Y) 6 15 (fun n => rfl) rfl (x15_r1_ok (g := (im_w g2 0 6 (1 : Int32))) (a := (11 : Int32)) (b := (1 : Int32)) (c := (0 : Int32)) hc) ?_
    show iv_ev (iv_Xs L xs) 54 47 [.ref 3, .int (1 : Int32)] [] (im_H g3 u o Y) 2 12 _
    cases h
    exact iv_ret 1 (fun n => rfl)
def x54_r0_1 (g : im_M) : Option (im_T × im_M) :=
  Option.bind (x43 g (1 : Int32)) (fun q1 =>
    Sum.elim (fun z => some (.inl z, q1.2)) (fun _ =>
    bif Op.if_icmp.holds .ne (q1.2 0 6) (-1 : Int32) then
      (x54_r0_1_1 q1.2 (0 : Int32))
    else
      (bif Op.if_icmp.holds .eq (q1.2 8 0) (1 : Int32) then
        (x54_r0_1_1 q1.2 (0 : Int32))
      else
        (x54_r0_1_1 q1.2 (1 : Int32)))) q1.1)
set_option maxRecDepth 100000 in
set_option maxHeartbeats 4000000 in
theorem x54_r0_1_ok {L : Nat} {xs : Nat → Int32} {g u mm : im_M} {o : Nat → Int64} {Y : iv_A} {ret : im_T} (h : x54_r0_1 g  = some (ret, mm)) : iv_ev (iv_Xs L xs) 54 0 [.ref 3, .int (1 : Int32)] [] (im_H g u o Y) 0 0 (im_rev ret (im_H mm u o Y)) := by
  unfold x54_r0_1 at h
  obtain ⟨v1, g1, hc, h⟩ := iv_bd h
  cases v1 with
  | inl z =>
    have h := iv_sl h
    cases h
    exact iv_calu (mi' := 54) (pc' := 1) (ls' := [.ref 3, .int (1 : Int32)]) (rest := []) (A' := im_H g u o Y) (c' := 0) (s' := 0) (as := [.int (1 : Int32)]) (B := im_H g1 u o Y) 2 43 (z.val + 7) (fun n => rfl) rfl (im_zx z) rfl rfl (x43_ok (g := g) (a := (1 : Int32)) hc)
  | inr v1 =>
    have h := iv_sr h
    refine iv_cal (mi' := 54) (pc' := 1) (ls' := [.ref 3, .int (1 : Int32)]) (rest := []) (A' := im_H g u o Y) (c' := 0) (s' := 0) (as := [.int (1 : Int32)]) (v := none) (A'' := im_H g1 u o Y) 2 43 (fun n => rfl) rfl (x43_ok (g := g) (a := (1 : Int32)) hc) ?_
    show iv_ev (iv_Xs L xs) 54 4 [.ref 3, .int (1 : Int32)] [] (im_H g1 u o Y) 1 6 _
    cases hb1 : Op.if_icmp.holds .ne (g1 0 6) (-1 : Int32) with
    | true =>
      have h := iv_bt hb1 h
      refine iv_brt (mi' := 54) (pc' := 27) (ls' := [.ref 3, .int (1 : Int32)]) (st' := []) (A' := im_H g1 u o Y) (c' := 1) (s' := 6) (mi'' := 54) (pc'' := 12) (ls'' := [.ref 3, .int (1 : Int32)]) (st'' := []) (A'' := im_H g1 u o Y) (c'' := 1) (s'' := 6) 4 0 0 hb1 (fun n => rfl) ?_
      refine iv_blk (mi' := 54) (pc' := 28) (ls' := [.ref 3, .int (1 : Int32)]) (st' := [.int (0 : Int32)]) (A' := im_H g1 u o Y) (c' := 1) (s' := 6) 1 (fun n => rfl) ?_
      exact x54_r0_1_1_ok (g := g1) (y0 := (0 : Int32)) h
    | false =>
      have h := iv_bf hb1 h
      refine iv_brf (mi' := 54) (pc' := 27) (ls' := [.ref 3, .int (1 : Int32)]) (st' := []) (A' := im_H g1 u o Y) (c' := 1) (s' := 6) (mi'' := 54) (pc'' := 12) (ls'' := [.ref 3, .int (1 : Int32)]) (st'' := []) (A'' := im_H g1 u o Y) (c'' := 1) (s'' := 6) 4 0 0 hb1 (fun n => rfl) ?_
      cases hb2 : Op.if_icmp.holds .eq (g1 8 0) (1 : Int32) with
      | true =>
        have h := iv_bt hb2 h
        refine iv_brt (mi' := 54) (pc' := 27) (ls' := [.ref 3, .int (1 : Int32)]) (st' := []) (A' := im_H g1 u o Y) (c' := 1) (s' := 6) (mi'' := 54) (pc'' := 23) (ls'' := [.ref 3, .int (1 : Int32)]) (st'' := []) (A'' := im_H g1 u o Y) (c'' := 1) (s'' := 6) 5 0 0 hb2 (fun n => rfl) ?_
        refine iv_blk (mi' := 54) (pc' := 28) (ls' := [.ref 3, .int (1 : Int32)]) (st' := [.int (0 : Int32)]) (A' := im_H g1 u o Y) (c' := 1) (s' := 6) 1 (fun n => rfl) ?_
        exact x54_r0_1_1_ok (g := g1) (y0 := (0 : Int32)) h
      | false =>
        have h := iv_bf hb2 h
        refine iv_brf (mi' := 54) (pc' := 27) (ls' := [.ref 3, .int (1 : Int32)]) (st' := []) (A' := im_H g1 u o Y) (c' := 1) (s' := 6) (mi'' := 54) (pc'' := 23) (ls'' := [.ref 3, .int (1 : Int32)]) (st'' := []) (A'' := im_H g1 u o Y) (c'' := 1) (s'' := 6) 5 0 0 hb2 (fun n => rfl) ?_
        refine iv_blk (mi' := 54) (pc' := 28) (ls' := [.ref 3, .int (1 : Int32)]) (st' := [.int (1 : Int32)]) (A' := im_H g1 u o Y) (c' := 1) (s' := 6) 2 (fun n => rfl) ?_
        exact x54_r0_1_1_ok (g := g1) (y0 := (1 : Int32)) h
def x42_r0_1_0_1 (g : im_M) (y0 : Int32) (y1 : Int32) : Option (im_T × im_M) :=
  Option.bind (x44 g y1) (fun q3 =>
    Sum.elim (fun z => some (.inl z, q3.2)) (fun _ =>
    Option.bind (x50_r14_0 q3.2 y0) (fun q4 =>
      some (.inr 0, q4.2))) q3.1)
set_option maxRecDepth 100000 in
set_option maxHeartbeats 4000000 in
theorem x42_r0_1_0_1_ok {L : Nat} {xs : Nat → Int32} {g u mm : im_M} {o : Nat → Int64} {Y : iv_A} {y0 y1 : Int32} {ret : im_T} (h : x42_r0_1_0_1 g y0 y1 = some (ret, mm)) : iv_ev (iv_Xs L xs) 42 24 [.ref 3, .int (1 : Int32), .int (0 : Int32), .int y0] [.int y1] (im_H g u o Y) 2 12 (im_rev ret (im_H mm u o Y)) := by
  unfold x42_r0_1_0_1 at h
  obtain ⟨v3, g3, hc, h⟩ := iv_bd h
  cases v3 with
  | inl z =>
    have h := iv_sl h
    cases h
    exact iv_calu (mi' := 42) (pc' := 24) (ls' := [.ref 3, .int (1 : Int32), .int (0 : Int32), .int y0]) (rest := []) (A' := im_H g u o Y) (c' := 2) (s' := 12) (as := [.int y1]) (B := im_H g3 u o Y) 1 44 (z.val + 7) (fun n => rfl) rfl (im_zx z) rfl rfl (x44_ok (g := g) (a := y1) hc)
  | inr v3 =>
    have h := iv_sr h
    refine iv_cal (mi' := 42) (pc' := 24) (ls' := [.ref 3, .int (1 : Int32), .int (0 : Int32), .int y0]) (rest := []) (A' := im_H g u o Y) (c' := 2) (s' := 12) (as := [.int y1]) (v := none) (A'' := im_H g3 u o Y) 1 44 (fun n => rfl) rfl (x44_ok (g := g) (a := y1) hc) ?_
    show iv_ev (iv_Xs L xs) 42 27 [.ref 3, .int (1 : Int32), .int (0 : Int32), .int y0] [] (im_H g3 u o Y) 3 18 _
    obtain ⟨v4, g4, hc, h⟩ := iv_bd h
    refine iv_cal (mi' := 42) (pc' := 35) (ls' := [.ref 3, .int (1 : Int32), .int (0 : Int32), .int y0]) (rest := []) (A' := im_H g3 u o Y) (c' := 3) (s' := 18) (as := [.ref 17, .int (0 : Int32), .int y0]) (v := none) (A'' := im_H g4 u o Y) 7 50 (fun n => rfl) rfl (x50_r14_0_ok (g := g3) (a := y0) hc) ?_
    show iv_ev (iv_Xs L xs) 42 38 [.ref 3, .int (1 : Int32), .int (0 : Int32), .int y0] [] (im_H g4 u o Y) 3 18 _
    cases h
    exact iv_ret 1 (fun n => rfl)
def x42_r0_1_0 (g : im_M) (a : Int32) : Option (im_T × im_M) :=
  Option.bind (x43 g (1 : Int32)) (fun q1 =>
    Sum.elim (fun z => some (.inl z, q1.2)) (fun _ =>
    Option.bind (x49 q1.2 (0 : Int32)) (fun q2 =>
      Sum.elim (fun z => some (.inl z, q2.2)) (fun _ =>
      bif Op.ifCond.holds .lt a then
        (x42_r0_1_0_1 q2.2 a (0 : Int32))
      else
        (bif Op.if_icmp.holds .gt a (4095 : Int32) then
          (x42_r0_1_0_1 q2.2 a (0 : Int32))
        else
          (x42_r0_1_0_1 q2.2 a (1 : Int32)))) q2.1)) q1.1)
set_option maxRecDepth 100000 in
set_option maxHeartbeats 4000000 in
theorem x42_r0_1_0_ok {L : Nat} {xs : Nat → Int32} {g u mm : im_M} {o : Nat → Int64} {Y : iv_A} {a : Int32} {ret : im_T} (h : x42_r0_1_0 g a = some (ret, mm)) : iv_ev (iv_Xs L xs) 42 0 [.ref 3, .int (1 : Int32), .int (0 : Int32), .int a] [] (im_H g u o Y) 0 0 (im_rev ret (im_H mm u o Y)) := by
  unfold x42_r0_1_0 at h
  obtain ⟨v1, g1, hc, h⟩ := iv_bd h
  cases v1 with
  | inl z =>
    have h := iv_sl h
    cases h
    exact iv_calu (mi' := 42) (pc' := 1) (ls' := [.ref 3, .int (1 : Int32), .int (0 : Int32), .int a]) (rest := []) (A' := im_H g u o Y) (c' := 0) (s' := 0) (as := [.int (1 : Int32)]) (B := im_H g1 u o Y) 2 43 (z.val + 7) (fun n => rfl) rfl (im_zx z) rfl rfl (x43_ok (g := g) (a := (1 : Int32)) hc)
  | inr v1 =>
    have h := iv_sr h
    refine iv_cal (mi' := 42) (pc' := 1) (ls' := [.ref 3, .int (1 : Int32), .int (0 : Int32), .int a]) (rest := []) (A' := im_H g u o Y) (c' := 0) (s' := 0) (as := [.int (1 : Int32)]) (v := none) (A'' := im_H g1 u o Y) 2 43 (fun n => rfl) rfl (x43_ok (g := g) (a := (1 : Int32)) hc) ?_
    show iv_ev (iv_Xs L xs) 42 4 [.ref 3, .int (1 : Int32), .int (0 : Int32), .int a] [] (im_H g1 u o Y) 1 6 _
    obtain ⟨v2, g2, hc, h⟩ := iv_bd h
    cases v2 with
    | inl z =>
      have h := iv_sl h
      cases h
      exact iv_calu (mi' := 42) (pc' := 5) (ls' := [.ref 3, .int (1 : Int32), .int (0 : Int32), .int a]) (rest := []) (A' := im_H g1 u o Y) (c' := 1) (s' := 6) (as := [.int (0 : Int32)]) (B := im_H g2 u o Y) 2 49 (z.val + 7) (fun n => rfl) rfl (im_zx z) rfl rfl (x49_ok (g := g1) (a := (0 : Int32)) hc)
    | inr v2 =>
      have h := iv_sr h
      refine iv_cal (mi' := 42) (pc' := 5) (ls' := [.ref 3, .int (1 : Int32), .int (0 : Int32), .int a]) (rest := []) (A' := im_H g1 u o Y) (c' := 1) (s' := 6) (as := [.int (0 : Int32)]) (v := none) (A'' := im_H g2 u o Y) 2 49 (fun n => rfl) rfl (x49_ok (g := g1) (a := (0 : Int32)) hc) ?_
      show iv_ev (iv_Xs L xs) 42 8 [.ref 3, .int (1 : Int32), .int (0 : Int32), .int a] [] (im_H g2 u o Y) 2 12 _
      cases hb1 : Op.ifCond.holds .lt a with
      | true =>
        have h := iv_bt hb1 h
        refine iv_brt (mi' := 42) (pc' := 23) (ls' := [.ref 3, .int (1 : Int32), .int (0 : Int32), .int a]) (st' := []) (A' := im_H g2 u o Y) (c' := 2) (s' := 12) (mi'' := 42) (pc'' := 12) (ls'' := [.ref 3, .int (1 : Int32), .int (0 : Int32), .int a]) (st'' := []) (A'' := im_H g2 u o Y) (c'' := 2) (s'' := 12) 2 0 0 hb1 (fun n => rfl) ?_
        refine iv_blk (mi' := 42) (pc' := 24) (ls' := [.ref 3, .int (1 : Int32), .int (0 : Int32), .int a]) (st' := [.int (0 : Int32)]) (A' := im_H g2 u o Y) (c' := 2) (s' := 12) 1 (fun n => rfl) ?_
        exact x42_r0_1_0_1_ok (g := g2) (y0 := a) (y1 := (0 : Int32)) h
      | false =>
        have h := iv_bf hb1 h
        refine iv_brf (mi' := 42) (pc' := 23) (ls' := [.ref 3, .int (1 : Int32), .int (0 : Int32), .int a]) (st' := []) (A' := im_H g2 u o Y) (c' := 2) (s' := 12) (mi'' := 42) (pc'' := 12) (ls'' := [.ref 3, .int (1 : Int32), .int (0 : Int32), .int a]) (st'' := []) (A'' := im_H g2 u o Y) (c'' := 2) (s'' := 12) 2 0 0 hb1 (fun n => rfl) ?_
        cases hb2 : Op.if_icmp.holds .gt a (4095 : Int32) with
        | true =>
          have h := iv_bt hb2 h
          refine iv_brt (mi' := 42) (pc' := 23) (ls' := [.ref 3, .int (1 : Int32), .int (0 : Int32), .int a]) (st' := []) (A' := im_H g2 u o Y) (c' := 2) (s' := 12) (mi'' := 42) (pc'' := 19) (ls'' := [.ref 3, .int (1 : Int32), .int (0 : Int32), .int a]) (st'' := []) (A'' := im_H g2 u o Y) (c'' := 2) (s'' := 12) 3 0 0 hb2 (fun n => rfl) ?_
          refine iv_blk (mi' := 42) (pc' := 24) (ls' := [.ref 3, .int (1 : Int32), .int (0 : Int32), .int a]) (st' := [.int (0 : Int32)]) (A' := im_H g2 u o Y) (c' := 2) (s' := 12) 1 (fun n => rfl) ?_
          exact x42_r0_1_0_1_ok (g := g2) (y0 := a) (y1 := (0 : Int32)) h
        | false =>
          have h := iv_bf hb2 h
          refine iv_brf (mi' := 42) (pc' := 23) (ls' := [.ref 3, .int (1 : Int32), .int (0 : Int32), .int a]) (st' := []) (A' := im_H g2 u o Y) (c' := 2) (s' := 12) (mi'' := 42) (pc'' := 19) (ls'' := [.ref 3, .int (1 : Int32), .int (0 : Int32), .int a]) (st'' := []) (A'' := im_H g2 u o Y) (c'' := 2) (s'' := 12) 3 0 0 hb2 (fun n => rfl) ?_
          refine iv_blk (mi' := 42) (pc' := 24) (ls' := [.ref 3, .int (1 : Int32), .int (0 : Int32), .int a]) (st' := [.int (1 : Int32)]) (A' := im_H g2 u o Y) (c' := 2) (s' := 12) 2 (fun n => rfl) ?_
          exact x42_r0_1_0_1_ok (g := g2) (y0 := a) (y1 := (1 : Int32)) h
def x52_r0_1_0 (g : im_M) : Option (im_T × im_M) :=
  Option.bind (x43 g (1 : Int32)) (fun q1 =>
    Sum.elim (fun z => some (.inl z, q1.2)) (fun _ =>
    Option.bind (x49 q1.2 (0 : Int32)) (fun q2 =>
      Sum.elim (fun z => some (.inl z, q2.2)) (fun _ =>
      Option.bind (x20_r14_0 q2.2 ) (fun q3 =>
        some (.inr q3.1, q3.2))) q2.1)) q1.1)
set_option maxRecDepth 100000 in
set_option maxHeartbeats 4000000 in
theorem x52_r0_1_0_ok {L : Nat} {xs : Nat → Int32} {g u mm : im_M} {o : Nat → Int64} {Y : iv_A} {ret : im_T} (h : x52_r0_1_0 g  = some (ret, mm)) : iv_ev (iv_Xs L xs) 52 0 [.ref 3, .int (1 : Int32), .int (0 : Int32)] [] (im_H g u o Y) 0 0 (im_res ret (im_H mm u o Y)) := by
  unfold x52_r0_1_0 at h
  obtain ⟨v1, g1, hc, h⟩ := iv_bd h
  cases v1 with
  | inl z =>
    have h := iv_sl h
    cases h
    exact iv_calu (mi' := 52) (pc' := 1) (ls' := [.ref 3, .int (1 : Int32), .int (0 : Int32)]) (rest := []) (A' := im_H g u o Y) (c' := 0) (s' := 0) (as := [.int (1 : Int32)]) (B := im_H g1 u o Y) 2 43 (z.val + 7) (fun n => rfl) rfl (im_zx z) rfl rfl (x43_ok (g := g) (a := (1 : Int32)) hc)
  | inr v1 =>
    have h := iv_sr h
    refine iv_cal (mi' := 52) (pc' := 1) (ls' := [.ref 3, .int (1 : Int32), .int (0 : Int32)]) (rest := []) (A' := im_H g u o Y) (c' := 0) (s' := 0) (as := [.int (1 : Int32)]) (v := none) (A'' := im_H g1 u o Y) 2 43 (fun n => rfl) rfl (x43_ok (g := g) (a := (1 : Int32)) hc) ?_
    show iv_ev (iv_Xs L xs) 52 4 [.ref 3, .int (1 : Int32), .int (0 : Int32)] [] (im_H g1 u o Y) 1 6 _
    obtain ⟨v2, g2, hc, h⟩ := iv_bd h
    cases v2 with
    | inl z =>
      have h := iv_sl h
      cases h
      exact iv_calu (mi' := 52) (pc' := 5) (ls' := [.ref 3, .int (1 : Int32), .int (0 : Int32)]) (rest := []) (A' := im_H g1 u o Y) (c' := 1) (s' := 6) (as := [.int (0 : Int32)]) (B := im_H g2 u o Y) 2 49 (z.val + 7) (fun n => rfl) rfl (im_zx z) rfl rfl (x49_ok (g := g1) (a := (0 : Int32)) hc)
    | inr v2 =>
      have h := iv_sr h
      refine iv_cal (mi' := 52) (pc' := 5) (ls' := [.ref 3, .int (1 : Int32), .int (0 : Int32)]) (rest := []) (A' := im_H g1 u o Y) (c' := 1) (s' := 6) (as := [.int (0 : Int32)]) (v := none) (A'' := im_H g2 u o Y) 2 49 (fun n => rfl) rfl (x49_ok (g := g1) (a := (0 : Int32)) hc) ?_
      show iv_ev (iv_Xs L xs) 52 8 [.ref 3, .int (1 : Int32), .int (0 : Int32)] [] (im_H g2 u o Y) 2 12 _
      obtain ⟨v3, g3, hc, h⟩ := iv_bd h
      refine iv_cal (mi' := 52) (pc' := 15) (ls' := [.ref 3, .int (1 : Int32), .int (0 : Int32)]) (rest := []) (A' := im_H g2 u o Y) (c' := 2) (s' := 12) (as := [.ref 17, .int (0 : Int32)]) (v := some (.int v3)) (A'' := im_H g3 u o Y) 6 20 (fun n => rfl) rfl (x20_r14_0_ok (g := g2)  hc) ?_
      show iv_ev (iv_Xs L xs) 52 18 [.ref 3, .int (1 : Int32), .int (0 : Int32)] [.int v3] (im_H g3 u o Y) 2 12 _
      cases h
      exact iv_ret 1 (fun n => rfl)
def x60_r0_1_0_1 (g : im_M) (y0 : Int32) : Option (im_T × im_M) :=
  Option.bind (x55 g y0) (fun q3 =>
    Sum.elim (fun z => some (.inl z, q3.2)) (fun _ =>
    Option.bind (x61_r8 q3.2 (1 : Int32) (0 : Int32)) (fun q4 =>
      some (.inr 0, q4.2))) q3.1)
set_option maxRecDepth 100000 in
set_option maxHeartbeats 4000000 in
theorem x60_r0_1_0_1_ok {L : Nat} {xs : Nat → Int32} {g u mm : im_M} {o : Nat → Int64} {Y : iv_A} {y0 : Int32} {ret : im_T} (h : x60_r0_1_0_1 g y0 = some (ret, mm)) : iv_ev (iv_Xs L xs) 60 32 [.ref 3, .int (1 : Int32), .int (0 : Int32)] [.int y0] (im_H g u o Y) 2 12 (im_rev ret (im_H mm u o Y)) := by
  unfold x60_r0_1_0_1 at h
  obtain ⟨v3, g3, hc, h⟩ := iv_bd h
  cases v3 with
  | inl z =>
    have h := iv_sl h
    cases h
    exact iv_calu (mi' := 60) (pc' := 32) (ls' := [.ref 3, .int (1 : Int32), .int (0 : Int32)]) (rest := []) (A' := im_H g u o Y) (c' := 2) (s' := 12) (as := [.int y0]) (B := im_H g3 u o Y) 1 55 (z.val + 7) (fun n => rfl) rfl (im_zx z) rfl rfl (x55_ok (g := g) (a := y0) hc)
  | inr v3 =>
    have h := iv_sr h
    refine iv_cal (mi' := 60) (pc' := 32) (ls' := [.ref 3, .int (1 : Int32), .int (0 : Int32)]) (rest := []) (A' := im_H g u o Y) (c' := 2) (s' := 12) (as := [.int y0]) (v := none) (A'' := im_H g3 u o Y) 1 55 (fun n => rfl) rfl (x55_ok (g := g) (a := y0) hc) ?_
    show iv_ev (iv_Xs L xs) 60 35 [.ref 3, .int (1 : Int32), .int (0 : Int32)] [] (im_H g3 u o Y) 3 18 _
    obtain ⟨v4, g4, hc, h⟩ := iv_bd h
    refine iv_cal (mi' := 60) (pc' := 41) (ls' := [.ref 3, .int (1 : Int32), .int (0 : Int32)]) (rest := []) (A' := im_H g3 u o Y) (c' := 3) (s' := 18) (as := [.ref 11, .int (1 : Int32), .int (0 : Int32)]) (v := none) (A'' := im_H g4 u o Y) 5 61 (fun n => rfl) rfl (x61_r8_ok (g := g3) (a := (1 : Int32)) (b := (0 : Int32)) hc) ?_
    show iv_ev (iv_Xs L xs) 60 44 [.ref 3, .int (1 : Int32), .int (0 : Int32)] [] (im_H g4 u o Y) 3 18 _
    cases h
    exact iv_ret 1 (fun n => rfl)
def x60_r0_1_0 (g : im_M) : Option (im_T × im_M) :=
  Option.bind (x43 g (1 : Int32)) (fun q1 =>
    Sum.elim (fun z => some (.inl z, q1.2)) (fun _ =>
    Option.bind (x49 q1.2 (0 : Int32)) (fun q2 =>
      Sum.elim (fun z => some (.inl z, q2.2)) (fun _ =>
      bif Op.if_icmp.holds .ne (q2.2 8 0) (-1 : Int32) then
        (x60_r0_1_0_1 q2.2 (0 : Int32))
      else
        (bif Op.if_icmp.holds .eq (q2.2 0 6) (1 : Int32) then
          (x60_r0_1_0_1 q2.2 (0 : Int32))
        else
          (x60_r0_1_0_1 q2.2 (1 : Int32)))) q2.1)) q1.1)
set_option maxRecDepth 100000 in
set_option maxHeartbeats 4000000 in
theorem x60_r0_1_0_ok {L : Nat} {xs : Nat → Int32} {g u mm : im_M} {o : Nat → Int64} {Y : iv_A} {ret : im_T} (h : x60_r0_1_0 g  = some (ret, mm)) : iv_ev (iv_Xs L xs) 60 0 [.ref 3, .int (1 : Int32), .int (0 : Int32)] [] (im_H g u o Y) 0 0 (im_rev ret (im_H mm u o Y)) := by
  unfold x60_r0_1_0 at h
  obtain ⟨v1, g1, hc, h⟩ := iv_bd h
  cases v1 with
  | inl z =>
    have h := iv_sl h
    cases h
    exact iv_calu (mi' := 60) (pc' := 1) (ls' := [.ref 3, .int (1 : Int32), .int (0 : Int32)]) (rest := []) (A' := im_H g u o Y) (c' := 0) (s' := 0) (as := [.int (1 : Int32)]) (B := im_H g1 u o Y) 2 43 (z.val + 7) (fun n => rfl) rfl (im_zx z) rfl rfl (x43_ok (g := g) (a := (1 : Int32)) hc)
  | inr v1 =>
    have h := iv_sr h
    refine iv_cal (mi' := 60) (pc' := 1) (ls' := [.ref 3, .int (1 : Int32), .int (0 : Int32)]) (rest := []) (A' := im_H g u o Y) (c' := 0) (s' := 0) (as := [.int (1 : Int32)]) (v := none) (A'' := im_H g1 u o Y) 2 43 (fun n => rfl) rfl (x43_ok (g := g) (a := (1 : Int32)) hc) ?_
    show iv_ev (iv_Xs L xs) 60 4 [.ref 3, .int (1 : Int32), .int (0 : Int32)] [] (im_H g1 u o Y) 1 6 _
    obtain ⟨v2, g2, hc, h⟩ := iv_bd h
    cases v2 with
    | inl z =>
      have h := iv_sl h
      cases h
      exact iv_calu (mi' := 60) (pc' := 5) (ls' := [.ref 3, .int (1 : Int32), .int (0 : Int32)]) (rest := []) (A' := im_H g1 u o Y) (c' := 1) (s' := 6) (as := [.int (0 : Int32)]) (B := im_H g2 u o Y) 2 49 (z.val + 7) (fun n => rfl) rfl (im_zx z) rfl rfl (x49_ok (g := g1) (a := (0 : Int32)) hc)
    | inr v2 =>
      have h := iv_sr h
      refine iv_cal (mi' := 60) (pc' := 5) (ls' := [.ref 3, .int (1 : Int32), .int (0 : Int32)]) (rest := []) (A' := im_H g1 u o Y) (c' := 1) (s' := 6) (as := [.int (0 : Int32)]) (v := none) (A'' := im_H g2 u o Y) 2 49 (fun n => rfl) rfl (x49_ok (g := g1) (a := (0 : Int32)) hc) ?_
      show iv_ev (iv_Xs L xs) 60 8 [.ref 3, .int (1 : Int32), .int (0 : Int32)] [] (im_H g2 u o Y) 2 12 _
      cases hb1 : Op.if_icmp.holds .ne (g2 8 0) (-1 : Int32) with
      | true =>
        have h := iv_bt hb1 h
        refine iv_brt (mi' := 60) (pc' := 31) (ls' := [.ref 3, .int (1 : Int32), .int (0 : Int32)]) (st' := []) (A' := im_H g2 u o Y) (c' := 2) (s' := 12) (mi'' := 60) (pc'' := 19) (ls'' := [.ref 3, .int (1 : Int32), .int (0 : Int32)]) (st'' := []) (A'' := im_H g2 u o Y) (c'' := 2) (s'' := 12) 5 0 0 hb1 (fun n => rfl) ?_
        refine iv_blk (mi' := 60) (pc' := 32) (ls' := [.ref 3, .int (1 : Int32), .int (0 : Int32)]) (st' := [.int (0 : Int32)]) (A' := im_H g2 u o Y) (c' := 2) (s' := 12) 1 (fun n => rfl) ?_
        exact x60_r0_1_0_1_ok (g := g2) (y0 := (0 : Int32)) h
      | false =>
        have h := iv_bf hb1 h
        refine iv_brf (mi' := 60) (pc' := 31) (ls' := [.ref 3, .int (1 : Int32), .int (0 : Int32)]) (st' := []) (A' := im_H g2 u o Y) (c' := 2) (s' := 12) (mi'' := 60) (pc'' := 19) (ls'' := [.ref 3, .int (1 : Int32), .int (0 : Int32)]) (st'' := []) (A'' := im_H g2 u o Y) (c'' := 2) (s'' := 12) 5 0 0 hb1 (fun n => rfl) ?_
        cases hb2 : Op.if_icmp.holds .eq (g2 0 6) (1 : Int32) with
        | true =>
          have h := iv_bt hb2 h
          refine iv_brt (mi' := 60) (pc' := 31) (ls' := [.ref 3, .int (1 : Int32), .int (0 : Int32)]) (st' := []) (A' := im_H g2 u o Y) (c' := 2) (s' := 12) (mi'' := 60) (pc'' := 27) (ls'' := [.ref 3, .int (1 : Int32), .int (0 : Int32)]) (st'' := []) (A'' := im_H g2 u o Y) (c'' := 2) (s'' := 12) 4 0 0 hb2 (fun n => rfl) ?_
          refine iv_blk (mi' := 60) (pc' := 32) (ls' := [.ref 3, .int (1 : Int32), .int (0 : Int32)]) (st' := [.int (0 : Int32)]) (A' := im_H g2 u o Y) (c' := 2) (s' := 12) 1 (fun n => rfl) ?_
          exact x60_r0_1_0_1_ok (g := g2) (y0 := (0 : Int32)) h
        | false =>
          have h := iv_bf hb2 h
          refine iv_brf (mi' := 60) (pc' := 31) (ls' := [.ref 3, .int (1 : Int32), .int (0 : Int32)]) (st' := []) (A' := im_H g2 u o Y) (c' := 2) (s' := 12) (mi'' := 60) (pc'' := 27) (ls'' := [.ref 3, .int (1 : Int32), .int (0 : Int32)]) (st'' := []) (A'' := im_H g2 u o Y) (c'' := 2) (s'' := 12) 4 0 0 hb2 (fun n => rfl) ?_
          refine iv_blk (mi' := 60) (pc' := 32) (ls' := [.ref 3, .int (1 : Int32), .int (0 : Int32)]) (st' := [.int (1 : Int32)]) (A' := im_H g2 u o Y) (c' := 2) (s' := 12) 2 (fun n => rfl) ?_
          exact x60_r0_1_0_1_ok (g := g2) (y0 := (1 : Int32)) h
def x42_r0_1_1_1 (g : im_M) (y0 : Int32) (y1 : Int32) : Option (im_T × im_M) :=
  Option.bind (x44 g y1) (fun q3 =>
    Sum.elim (fun z => some (.inl z, q3.2)) (fun _ =>
    Option.bind (x50_r14_1 q3.2 y0) (fun q4 =>
      some (.inr 0, q4.2))) q3.1)
set_option maxRecDepth 100000 in
set_option maxHeartbeats 4000000 in
theorem x42_r0_1_1_1_ok {L : Nat} {xs : Nat → Int32} {g u mm : im_M} {o : Nat → Int64} {Y : iv_A} {y0 y1 : Int32} {ret : im_T} (h : x42_r0_1_1_1 g y0 y1 = some (ret, mm)) : iv_ev (iv_Xs L xs) 42 24 [.ref 3, .int (1 : Int32), .int (1 : Int32), .int y0] [.int y1] (im_H g u o Y) 2 12 (im_rev ret (im_H mm u o Y)) := by
  unfold x42_r0_1_1_1 at h
  obtain ⟨v3, g3, hc, h⟩ := iv_bd h
  cases v3 with
  | inl z =>
    have h := iv_sl h
    cases h
    exact iv_calu (mi' := 42) (pc' := 24) (ls' := [.ref 3, .int (1 : Int32), .int (1 : Int32), .int y0]) (rest := []) (A' := im_H g u o Y) (c' := 2) (s' := 12) (as := [.int y1]) (B := im_H g3 u o Y) 1 44 (z.val + 7) (fun n => rfl) rfl (im_zx z) rfl rfl (x44_ok (g := g) (a := y1) hc)
  | inr v3 =>
    have h := iv_sr h
    refine iv_cal (mi' := 42) (pc' := 24) (ls' := [.ref 3, .int (1 : Int32), .int (1 : Int32), .int y0]) (rest := []) (A' := im_H g u o Y) (c' := 2) (s' := 12) (as := [.int y1]) (v := none) (A'' := im_H g3 u o Y) 1 44 (fun n => rfl) rfl (x44_ok (g := g) (a := y1) hc) ?_
    show iv_ev (iv_Xs L xs) 42 27 [.ref 3, .int (1 : Int32), .int (1 : Int32), .int y0] [] (im_H g3 u o Y) 3 18 _
    obtain ⟨v4, g4, hc, h⟩ := iv_bd h
    refine iv_cal (mi' := 42) (pc' := 35) (ls' := [.ref 3, .int (1 : Int32), .int (1 : Int32), .int y0]) (rest := []) (A' := im_H g3 u o Y) (c' := 3) (s' := 18) (as := [.ref 17, .int (1 : Int32), .int y0]) (v := none) (A'' := im_H g4 u o Y) 7 50 (fun n => rfl) rfl (x50_r14_1_ok (g := g3) (a := y0) hc) ?_
    show iv_ev (iv_Xs L xs) 42 38 [.ref 3, .int (1 : Int32), .int (1 : Int32), .int y0] [] (im_H g4 u o Y) 3 18 _
    cases h
    exact iv_ret 1 (fun n => rfl)
def x42_r0_1_1 (g : im_M) (a : Int32) : Option (im_T × im_M) :=
  Option.bind (x43 g (1 : Int32)) (fun q1 =>
    Sum.elim (fun z => some (.inl z, q1.2)) (fun _ =>
    Option.bind (x49 q1.2 (1 : Int32)) (fun q2 =>
      Sum.elim (fun z => some (.inl z, q2.2)) (fun _ =>
      bif Op.ifCond.holds .lt a then
        (x42_r0_1_1_1 q2.2 a (0 : Int32))
      else
        (bif Op.if_icmp.holds .gt a (4095 : Int32) then
          (x42_r0_1_1_1 q2.2 a (0 : Int32))
        else
          (x42_r0_1_1_1 q2.2 a (1 : Int32)))) q2.1)) q1.1)
set_option maxRecDepth 100000 in
set_option maxHeartbeats 4000000 in
theorem x42_r0_1_1_ok {L : Nat} {xs : Nat → Int32} {g u mm : im_M} {o : Nat → Int64} {Y : iv_A} {a : Int32} {ret : im_T} (h : x42_r0_1_1 g a = some (ret, mm)) : iv_ev (iv_Xs L xs) 42 0 [.ref 3, .int (1 : Int32), .int (1 : Int32), .int a] [] (im_H g u o Y) 0 0 (im_rev ret (im_H mm u o Y)) := by
  unfold x42_r0_1_1 at h
  obtain ⟨v1, g1, hc, h⟩ := iv_bd h
  cases v1 with
  | inl z =>
    have h := iv_sl h
    cases h
    exact iv_calu (mi' := 42) (pc' := 1) (ls' := [.ref 3, .int (1 : Int32), .int (1 : Int32), .int a]) (rest := []) (A' := im_H g u o Y) (c' := 0) (s' := 0) (as := [.int (1 : Int32)]) (B := im_H g1 u o Y) 2 43 (z.val + 7) (fun n => rfl) rfl (im_zx z) rfl rfl (x43_ok (g := g) (a := (1 : Int32)) hc)
  | inr v1 =>
    have h := iv_sr h
    refine iv_cal (mi' := 42) (pc' := 1) (ls' := [.ref 3, .int (1 : Int32), .int (1 : Int32), .int a]) (rest := []) (A' := im_H g u o Y) (c' := 0) (s' := 0) (as := [.int (1 : Int32)]) (v := none) (A'' := im_H g1 u o Y) 2 43 (fun n => rfl) rfl (x43_ok (g := g) (a := (1 : Int32)) hc) ?_
    show iv_ev (iv_Xs L xs) 42 4 [.ref 3, .int (1 : Int32), .int (1 : Int32), .int a] [] (im_H g1 u o Y) 1 6 _
    obtain ⟨v2, g2, hc, h⟩ := iv_bd h
    cases v2 with
    | inl z =>
      have h := iv_sl h
      cases h
      exact iv_calu (mi' := 42) (pc' := 5) (ls' := [.ref 3, .int (1 : Int32), .int (1 : Int32), .int a]) (rest := []) (A' := im_H g1 u o Y) (c' := 1) (s' := 6) (as := [.int (1 : Int32)]) (B := im_H g2 u o Y) 2 49 (z.val + 7) (fun n => rfl) rfl (im_zx z) rfl rfl (x49_ok (g := g1) (a := (1 : Int32)) hc)
    | inr v2 =>
      have h := iv_sr h
      refine iv_cal (mi' := 42) (pc' := 5) (ls' := [.ref 3, .int (1 : Int32), .int (1 : Int32), .int a]) (rest := []) (A' := im_H g1 u o Y) (c' := 1) (s' := 6) (as := [.int (1 : Int32)]) (v := none) (A'' := im_H g2 u o Y) 2 49 (fun n => rfl) rfl (x49_ok (g := g1) (a := (1 : Int32)) hc) ?_
      show iv_ev (iv_Xs L xs) 42 8 [.ref 3, .int (1 : Int32), .int (1 : Int32), .int a] [] (im_H g2 u o Y) 2 12 _
      cases hb1 : Op.ifCond.holds .lt a with
      | true =>
        have h := iv_bt hb1 h
        refine iv_brt (mi' := 42) (pc' := 23) (ls' := [.ref 3, .int (1 : Int32), .int (1 : Int32), .int a]) (st' := []) (A' := im_H g2 u o Y) (c' := 2) (s' := 12) (mi'' := 42) (pc'' := 12) (ls'' := [.ref 3, .int (1 : Int32), .int (1 : Int32), .int a]) (st'' := []) (A'' := im_H g2 u o Y) (c'' := 2) (s'' := 12) 2 0 0 hb1 (fun n => rfl) ?_
        refine iv_blk (mi' := 42) (pc' := 24) (ls' := [.ref 3, .int (1 : Int32), .int (1 : Int32), .int a]) (st' := [.int (0 : Int32)]) (A' := im_H g2 u o Y) (c' := 2) (s' := 12) 1 (fun n => rfl) ?_
        exact x42_r0_1_1_1_ok (g := g2) (y0 := a) (y1 := (0 : Int32)) h
      | false =>
        have h := iv_bf hb1 h
        refine iv_brf (mi' := 42) (pc' := 23) (ls' := [.ref 3, .int (1 : Int32), .int (1 : Int32), .int a]) (st' := []) (A' := im_H g2 u o Y) (c' := 2) (s' := 12) (mi'' := 42) (pc'' := 12) (ls'' := [.ref 3, .int (1 : Int32), .int (1 : Int32), .int a]) (st'' := []) (A'' := im_H g2 u o Y) (c'' := 2) (s'' := 12) 2 0 0 hb1 (fun n => rfl) ?_
        cases hb2 : Op.if_icmp.holds .gt a (4095 : Int32) with
        | true =>
          have h := iv_bt hb2 h
          refine iv_brt (mi' := 42) (pc' := 23) (ls' := [.ref 3, .int (1 : Int32), .int (1 : Int32), .int a]) (st' := []) (A' := im_H g2 u o Y) (c' := 2) (s' := 12) (mi'' := 42) (pc'' := 19) (ls'' := [.ref 3, .int (1 : Int32), .int (1 : Int32), .int a]) (st'' := []) (A'' := im_H g2 u o Y) (c'' := 2) (s'' := 12) 3 0 0 hb2 (fun n => rfl) ?_
          refine iv_blk (mi' := 42) (pc' := 24) (ls' := [.ref 3, .int (1 : Int32), .int (1 : Int32), .int a]) (st' := [.int (0 : Int32)]) (A' := im_H g2 u o Y) (c' := 2) (s' := 12) 1 (fun n => rfl) ?_
          exact x42_r0_1_1_1_ok (g := g2) (y0 := a) (y1 := (0 : Int32)) h
        | false =>
          have h := iv_bf hb2 h
          refine iv_brf (mi' := 42) (pc' := 23) (ls' := [.ref 3, .int (1 : Int32), .int (1 : Int32), .int a]) (st' := []) (A' := im_H g2 u o Y) (c' := 2) (s' := 12) (mi'' := 42) (pc'' := 19) (ls'' := [.ref 3, .int (1 : Int32), .int (1 : Int32), .int a]) (st'' := []) (A'' := im_H g2 u o Y) (c'' := 2) (s'' := 12) 3 0 0 hb2 (fun n => rfl) ?_
          refine iv_blk (mi' := 42) (pc' := 24) (ls' := [.ref 3, .int (1 : Int32), .int (1 : Int32), .int a]) (st' := [.int (1 : Int32)]) (A' := im_H g2 u o Y) (c' := 2) (s' := 12) 2 (fun n => rfl) ?_
          exact x42_r0_1_1_1_ok (g := g2) (y0 := a) (y1 := (1 : Int32)) h
def x52_r0_1_1 (g : im_M) : Option (im_T × im_M) :=
  Option.bind (x43 g (1 : Int32)) (fun q1 =>
    Sum.elim (fun z => some (.inl z, q1.2)) (fun _ =>
    Option.bind (x49 q1.2 (1 : Int32)) (fun q2 =>
      Sum.elim (fun z => some (.inl z, q2.2)) (fun _ =>
      Option.bind (x20_r14_1 q2.2 ) (fun q3 =>
        some (.inr q3.1, q3.2))) q2.1)) q1.1)
set_option maxRecDepth 100000 in
set_option maxHeartbeats 4000000 in
theorem x52_r0_1_1_ok {L : Nat} {xs : Nat → Int32} {g u mm : im_M} {o : Nat → Int64} {Y : iv_A} {ret : im_T} (h : x52_r0_1_1 g  = some (ret, mm)) : iv_ev (iv_Xs L xs) 52 0 [.ref 3, .int (1 : Int32), .int (1 : Int32)] [] (im_H g u o Y) 0 0 (im_res ret (im_H mm u o Y)) := by
  unfold x52_r0_1_1 at h
  obtain ⟨v1, g1, hc, h⟩ := iv_bd h
  cases v1 with
  | inl z =>
    have h := iv_sl h
    cases h
    exact iv_calu (mi' := 52) (pc' := 1) (ls' := [.ref 3, .int (1 : Int32), .int (1 : Int32)]) (rest := []) (A' := im_H g u o Y) (c' := 0) (s' := 0) (as := [.int (1 : Int32)]) (B := im_H g1 u o Y) 2 43 (z.val + 7) (fun n => rfl) rfl (im_zx z) rfl rfl (x43_ok (g := g) (a := (1 : Int32)) hc)
  | inr v1 =>
    have h := iv_sr h
    refine iv_cal (mi' := 52) (pc' := 1) (ls' := [.ref 3, .int (1 : Int32), .int (1 : Int32)]) (rest := []) (A' := im_H g u o Y) (c' := 0) (s' := 0) (as := [.int (1 : Int32)]) (v := none) (A'' := im_H g1 u o Y) 2 43 (fun n => rfl) rfl (x43_ok (g := g) (a := (1 : Int32)) hc) ?_
    show iv_ev (iv_Xs L xs) 52 4 [.ref 3, .int (1 : Int32), .int (1 : Int32)] [] (im_H g1 u o Y) 1 6 _
    obtain ⟨v2, g2, hc, h⟩ := iv_bd h
    cases v2 with
    | inl z =>
      have h := iv_sl h
      cases h
      exact iv_calu (mi' := 52) (pc' := 5) (ls' := [.ref 3, .int (1 : Int32), .int (1 : Int32)]) (rest := []) (A' := im_H g1 u o Y) (c' := 1) (s' := 6) (as := [.int (1 : Int32)]) (B := im_H g2 u o Y) 2 49 (z.val + 7) (fun n => rfl) rfl (im_zx z) rfl rfl (x49_ok (g := g1) (a := (1 : Int32)) hc)
    | inr v2 =>
      have h := iv_sr h
      refine iv_cal (mi' := 52) (pc' := 5) (ls' := [.ref 3, .int (1 : Int32), .int (1 : Int32)]) (rest := []) (A' := im_H g1 u o Y) (c' := 1) (s' := 6) (as := [.int (1 : Int32)]) (v := none) (A'' := im_H g2 u o Y) 2 49 (fun n => rfl) rfl (x49_ok (g := g1) (a := (1 : Int32)) hc) ?_
      show iv_ev (iv_Xs L xs) 52 8 [.ref 3, .int (1 : Int32), .int (1 : Int32)] [] (im_H g2 u o Y) 2 12 _
      obtain ⟨v3, g3, hc, h⟩ := iv_bd h
      refine iv_cal (mi' := 52) (pc' := 15) (ls' := [.ref 3, .int (1 : Int32), .int (1 : Int32)]) (rest := []) (A' := im_H g2 u o Y) (c' := 2) (s' := 12) (as := [.ref 17, .int (1 : Int32)]) (v := some (.int v3)) (A'' := im_H g3 u o Y) 6 20 (fun n => rfl) rfl (x20_r14_1_ok (g := g2)  hc) ?_
      show iv_ev (iv_Xs L xs) 52 18 [.ref 3, .int (1 : Int32), .int (1 : Int32)] [.int v3] (im_H g3 u o Y) 2 12 _
      cases h
      exact iv_ret 1 (fun n => rfl)
def x60_r0_1_1_1 (g : im_M) (y0 : Int32) : Option (im_T × im_M) :=
  Option.bind (x55 g y0) (fun q3 =>
    Sum.elim (fun z => some (.inl z, q3.2)) (fun _ =>
    Option.bind (x61_r8 q3.2 (1 : Int32) (1 : Int32)) (fun q4 =>
      some (.inr 0, q4.2))) q3.1)
set_option maxRecDepth 100000 in
set_option maxHeartbeats 4000000 in
theorem x60_r0_1_1_1_ok {L : Nat} {xs : Nat → Int32} {g u mm : im_M} {o : Nat → Int64} {Y : iv_A} {y0 : Int32} {ret : im_T} (h : x60_r0_1_1_1 g y0 = some (ret, mm)) : iv_ev (iv_Xs L xs) 60 32 [.ref 3, .int (1 : Int32), .int (1 : Int32)] [.int y0] (im_H g u o Y) 2 12 (im_rev ret (im_H mm u o Y)) := by
  unfold x60_r0_1_1_1 at h
  obtain ⟨v3, g3, hc, h⟩ := iv_bd h
  cases v3 with
  | inl z =>
    have h := iv_sl h
    cases h
    exact iv_calu (mi' := 60) (pc' := 32) (ls' := [.ref 3, .int (1 : Int32), .int (1 : Int32)]) (rest := []) (A' := im_H g u o Y) (c' := 2) (s' := 12) (as := [.int y0]) (B := im_H g3 u o Y) 1 55 (z.val + 7) (fun n => rfl) rfl (im_zx z) rfl rfl (x55_ok (g := g) (a := y0) hc)
  | inr v3 =>
    have h := iv_sr h
    refine iv_cal (mi' := 60) (pc' := 32) (ls' := [.ref 3, .int (1 : Int32), .int (1 : Int32)]) (rest := []) (A' := im_H g u o Y) (c' := 2) (s' := 12) (as := [.int y0]) (v := none) (A'' := im_H g3 u o Y) 1 55 (fun n => rfl) rfl (x55_ok (g := g) (a := y0) hc) ?_
    show iv_ev (iv_Xs L xs) 60 35 [.ref 3, .int (1 : Int32), .int (1 : Int32)] [] (im_H g3 u o Y) 3 18 _
    obtain ⟨v4, g4, hc, h⟩ := iv_bd h
    refine iv_cal (mi' := 60) (pc' := 41) (ls' := [.ref 3, .int (1 : Int32), .int (1 : Int32)]) (rest := []) (A' := im_H g3 u o Y) (c' := 3) (s' := 18) (as := [.ref 11, .int (1 : Int32), .int (1 : Int32)]) (v := none) (A'' := im_H g4 u o Y) 5 61 (fun n => rfl) rfl (x61_r8_ok (g := g3) (a := (1 : Int32)) (b := (1 : Int32)) hc) ?_
    show iv_ev (iv_Xs L xs) 60 44 [.ref 3, .int (1 : Int32), .int (1 : Int32)] [] (im_H g4 u o Y) 3 18 _
    cases h
    exact iv_ret 1 (fun n => rfl)
def x60_r0_1_1 (g : im_M) : Option (im_T × im_M) :=
  Option.bind (x43 g (1 : Int32)) (fun q1 =>
    Sum.elim (fun z => some (.inl z, q1.2)) (fun _ =>
    Option.bind (x49 q1.2 (1 : Int32)) (fun q2 =>
      Sum.elim (fun z => some (.inl z, q2.2)) (fun _ =>
      bif Op.if_icmp.holds .ne (q2.2 8 0) (-1 : Int32) then
        (x60_r0_1_1_1 q2.2 (0 : Int32))
      else
        (bif Op.if_icmp.holds .eq (q2.2 0 6) (1 : Int32) then
          (x60_r0_1_1_1 q2.2 (0 : Int32))
        else
          (x60_r0_1_1_1 q2.2 (1 : Int32)))) q2.1)) q1.1)
set_option maxRecDepth 100000 in
set_option maxHeartbeats 4000000 in
theorem x60_r0_1_1_ok {L : Nat} {xs : Nat → Int32} {g u mm : im_M} {o : Nat → Int64} {Y : iv_A} {ret : im_T} (h : x60_r0_1_1 g  = some (ret, mm)) : iv_ev (iv_Xs L xs) 60 0 [.ref 3, .int (1 : Int32), .int (1 : Int32)] [] (im_H g u o Y) 0 0 (im_rev ret (im_H mm u o Y)) := by
  unfold x60_r0_1_1 at h
  obtain ⟨v1, g1, hc, h⟩ := iv_bd h
  cases v1 with
  | inl z =>
    have h := iv_sl h
    cases h
    exact iv_calu (mi' := 60) (pc' := 1) (ls' := [.ref 3, .int (1 : Int32), .int (1 : Int32)]) (rest := []) (A' := im_H g u o Y) (c' := 0) (s' := 0) (as := [.int (1 : Int32)]) (B := im_H g1 u o Y) 2 43 (z.val + 7) (fun n => rfl) rfl (im_zx z) rfl rfl (x43_ok (g := g) (a := (1 : Int32)) hc)
  | inr v1 =>
    have h := iv_sr h
    refine iv_cal (mi' := 60) (pc' := 1) (ls' := [.ref 3, .int (1 : Int32), .int (1 : Int32)]) (rest := []) (A' := im_H g u o Y) (c' := 0) (s' := 0) (as := [.int (1 : Int32)]) (v := none) (A'' := im_H g1 u o Y) 2 43 (fun n => rfl) rfl (x43_ok (g := g) (a := (1 : Int32)) hc) ?_
    show iv_ev (iv_Xs L xs) 60 4 [.ref 3, .int (1 : Int32), .int (1 : Int32)] [] (im_H g1 u o Y) 1 6 _
    obtain ⟨v2, g2, hc, h⟩ := iv_bd h
    cases v2 with
    | inl z =>
      have h := iv_sl h
      cases h
      exact iv_calu (mi' := 60) (pc' := 5) (ls' := [.ref 3, .int (1 : Int32), .int (1 : Int32)]) (rest := []) (A' := im_H g1 u o Y) (c' := 1) (s' := 6) (as := [.int (1 : Int32)]) (B := im_H g2 u o Y) 2 49 (z.val + 7) (fun n => rfl) rfl (im_zx z) rfl rfl (x49_ok (g := g1) (a := (1 : Int32)) hc)
    | inr v2 =>
      have h := iv_sr h
      refine iv_cal (mi' := 60) (pc' := 5) (ls' := [.ref 3, .int (1 : Int32), .int (1 : Int32)]) (rest := []) (A' := im_H g1 u o Y) (c' := 1) (s' := 6) (as := [.int (1 : Int32)]) (v := none) (A'' := im_H g2 u o Y) 2 49 (fun n => rfl) rfl (x49_ok (g := g1) (a := (1 : Int32)) hc) ?_
      show iv_ev (iv_Xs L xs) 60 8 [.ref 3, .int (1 : Int32), .int (1 : Int32)] [] (im_H g2 u o Y) 2 12 _
      cases hb1 : Op.if_icmp.holds .ne (g2 8 0) (-1 : Int32) with
      | true =>
        have h := iv_bt hb1 h
        refine iv_brt (mi' := 60) (pc' := 31) (ls' := [.ref 3, .int (1 : Int32), .int (1 : Int32)]) (st' := []) (A' := im_H g2 u o Y) (c' := 2) (s' := 12) (mi'' := 60) (pc'' := 19) (ls'' := [.ref 3, .int (1 : Int32), .int (1 : Int32)]) (st'' := []) (A'' := im_H g2 u o Y) (c'' := 2) (s'' := 12) 5 0 0 hb1 (fun n => rfl) ?_
        refine iv_blk (mi' := 60) (pc' := 32) (ls' := [.ref 3, .int (1 : Int32), .int (1 : Int32)]) (st' := [.int (0 : Int32)]) (A' := im_H g2 u o Y) (c' := 2) (s' := 12) 1 (fun n => rfl) ?_
        exact x60_r0_1_1_1_ok (g := g2) (y0 := (0 : Int32)) h
      | false =>
        have h := iv_bf hb1 h
        refine iv_brf (mi' := 60) (pc' := 31) (ls' := [.ref 3, .int (1 : Int32), .int (1 : Int32)]) (st' := []) (A' := im_H g2 u o Y) (c' := 2) (s' := 12) (mi'' := 60) (pc'' := 19) (ls'' := [.ref 3, .int (1 : Int32), .int (1 : Int32)]) (st'' := []) (A'' := im_H g2 u o Y) (c'' := 2) (s'' := 12) 5 0 0 hb1 (fun n => rfl) ?_
        cases hb2 : Op.if_icmp.holds .eq (g2 0 6) (1 : Int32) with
        | true =>
          have h := iv_bt hb2 h
          refine iv_brt (mi' := 60) (pc' := 31) (ls' := [.ref 3, .int (1 : Int32), .int (1 : Int32)]) (st' := []) (A' := im_H g2 u o Y) (c' := 2) (s' := 12) (mi'' := 60) (pc'' := 27) (ls'' := [.ref 3, .int (1 : Int32), .int (1 : Int32)]) (st'' := []) (A'' := im_H g2 u o Y) (c'' := 2) (s'' := 12) 4 0 0 hb2 (fun n => rfl) ?_
          refine iv_blk (mi' := 60) (pc' := 32) (ls' := [.ref 3, .int (1 : Int32), .int (1 : Int32)]) (st' := [.int (0 : Int32)]) (A' := im_H g2 u o Y) (c' := 2) (s' := 12) 1 (fun n => rfl) ?_
          exact x60_r0_1_1_1_ok (g := g2) (y0 := (0 : Int32)) h
        | false =>
          have h := iv_bf hb2 h
          refine iv_brf (mi' := 60) (pc' := 31) (ls' := [.ref 3, .int (1 : Int32), .int (1 : Int32)]) (st' := []) (A' := im_H g2 u o Y) (c' := 2) (s' := 12) (mi'' := 60) (pc'' := 27) (ls'' := [.ref 3, .int (1 : Int32), .int (1 : Int32)]) (st'' := []) (A'' := im_H g2 u o Y) (c'' := 2) (s'' := 12) 4 0 0 hb2 (fun n => rfl) ?_
          refine iv_blk (mi' := 60) (pc' := 32) (ls' := [.ref 3, .int (1 : Int32), .int (1 : Int32)]) (st' := [.int (1 : Int32)]) (A' := im_H g2 u o Y) (c' := 2) (s' := 12) 2 (fun n => rfl) ?_
          exact x60_r0_1_1_1_ok (g := g2) (y0 := (1 : Int32)) h
def x42_r0_1_2_1 (g : im_M) (y0 : Int32) (y1 : Int32) : Option (im_T × im_M) :=
  Option.bind (x44 g y1) (fun q3 =>
    Sum.elim (fun z => some (.inl z, q3.2)) (fun _ =>
    Option.bind (x50_r14_2 q3.2 y0) (fun q4 =>
      some (.inr 0, q4.2))) q3.1)
set_option maxRecDepth 100000 in
set_option maxHeartbeats 4000000 in
theorem x42_r0_1_2_1_ok {L : Nat} {xs : Nat → Int32} {g u mm : im_M} {o : Nat → Int64} {Y : iv_A} {y0 y1 : Int32} {ret : im_T} (h : x42_r0_1_2_1 g y0 y1 = some (ret, mm)) : iv_ev (iv_Xs L xs) 42 24 [.ref 3, .int (1 : Int32), .int (2 : Int32), .int y0] [.int y1] (im_H g u o Y) 2 12 (im_rev ret (im_H mm u o Y)) := by
  unfold x42_r0_1_2_1 at h
  obtain ⟨v3, g3, hc, h⟩ := iv_bd h
  cases v3 with
  | inl z =>
    have h := iv_sl h
    cases h
    exact iv_calu (mi' := 42) (pc' := 24) (ls' := [.ref 3, .int (1 : Int32), .int (2 : Int32), .int y0]) (rest := []) (A' := im_H g u o Y) (c' := 2) (s' := 12) (as := [.int y1]) (B := im_H g3 u o Y) 1 44 (z.val + 7) (fun n => rfl) rfl (im_zx z) rfl rfl (x44_ok (g := g) (a := y1) hc)
  | inr v3 =>
    have h := iv_sr h
    refine iv_cal (mi' := 42) (pc' := 24) (ls' := [.ref 3, .int (1 : Int32), .int (2 : Int32), .int y0]) (rest := []) (A' := im_H g u o Y) (c' := 2) (s' := 12) (as := [.int y1]) (v := none) (A'' := im_H g3 u o Y) 1 44 (fun n => rfl) rfl (x44_ok (g := g) (a := y1) hc) ?_
    show iv_ev (iv_Xs L xs) 42 27 [.ref 3, .int (1 : Int32), .int (2 : Int32), .int y0] [] (im_H g3 u o Y) 3 18 _
    obtain ⟨v4, g4, hc, h⟩ := iv_bd h
    refine iv_cal (mi' := 42) (pc' := 35) (ls' := [.ref 3, .int (1 : Int32), .int (2 : Int32), .int y0]) (rest := []) (A' := im_H g3 u o Y) (c' := 3) (s' := 18) (as := [.ref 17, .int (2 : Int32), .int y0]) (v := none) (A'' := im_H g4 u o Y) 7 50 (fun n => rfl) rfl (x50_r14_2_ok (g := g3) (a := y0) hc) ?_
    show iv_ev (iv_Xs L xs) 42 38 [.ref 3, .int (1 : Int32), .int (2 : Int32), .int y0] [] (im_H g4 u o Y) 3 18 _
    cases h
    exact iv_ret 1 (fun n => rfl)
def x42_r0_1_2 (g : im_M) (a : Int32) : Option (im_T × im_M) :=
  Option.bind (x43 g (1 : Int32)) (fun q1 =>
    Sum.elim (fun z => some (.inl z, q1.2)) (fun _ =>
    Option.bind (x49 q1.2 (2 : Int32)) (fun q2 =>
      Sum.elim (fun z => some (.inl z, q2.2)) (fun _ =>
      bif Op.ifCond.holds .lt a then
        (x42_r0_1_2_1 q2.2 a (0 : Int32))
      else
        (bif Op.if_icmp.holds .gt a (4095 : Int32) then
          (x42_r0_1_2_1 q2.2 a (0 : Int32))
        else
          (x42_r0_1_2_1 q2.2 a (1 : Int32)))) q2.1)) q1.1)
set_option maxRecDepth 100000 in
set_option maxHeartbeats 4000000 in
theorem x42_r0_1_2_ok {L : Nat} {xs : Nat → Int32} {g u mm : im_M} {o : Nat → Int64} {Y : iv_A} {a : Int32} {ret : im_T} (h : x42_r0_1_2 g a = some (ret, mm)) : iv_ev (iv_Xs L xs) 42 0 [.ref 3, .int (1 : Int32), .int (2 : Int32), .int a] [] (im_H g u o Y) 0 0 (im_rev ret (im_H mm u o Y)) := by
  unfold x42_r0_1_2 at h
  obtain ⟨v1, g1, hc, h⟩ := iv_bd h
  cases v1 with
  | inl z =>
    have h := iv_sl h
    cases h
    exact iv_calu (mi' := 42) (pc' := 1) (ls' := [.ref 3, .int (1 : Int32), .int (2 : Int32), .int a]) (rest := []) (A' := im_H g u o Y) (c' := 0) (s' := 0) (as := [.int (1 : Int32)]) (B := im_H g1 u o Y) 2 43 (z.val + 7) (fun n => rfl) rfl (im_zx z) rfl rfl (x43_ok (g := g) (a := (1 : Int32)) hc)
  | inr v1 =>
    have h := iv_sr h
    refine iv_cal (mi' := 42) (pc' := 1) (ls' := [.ref 3, .int (1 : Int32), .int (2 : Int32), .int a]) (rest := []) (A' := im_H g u o Y) (c' := 0) (s' := 0) (as := [.int (1 : Int32)]) (v := none) (A'' := im_H g1 u o Y) 2 43 (fun n => rfl) rfl (x43_ok (g := g) (a := (1 : Int32)) hc) ?_
    show iv_ev (iv_Xs L xs) 42 4 [.ref 3, .int (1 : Int32), .int (2 : Int32), .int a] [] (im_H g1 u o Y) 1 6 _
    obtain ⟨v2, g2, hc, h⟩ := iv_bd h
    cases v2 with
    | inl z =>
      have h := iv_sl h
      cases h
      exact iv_calu (mi' := 42) (pc' := 5) (ls' := [.ref 3, .int (1 : Int32), .int (2 : Int32), .int a]) (rest := []) (A' := im_H g1 u o Y) (c' := 1) (s' := 6) (as := [.int (2 : Int32)]) (B := im_H g2 u o Y) 2 49 (z.val + 7) (fun n => rfl) rfl (im_zx z) rfl rfl (x49_ok (g := g1) (a := (2 : Int32)) hc)
    | inr v2 =>
      have h := iv_sr h
      refine iv_cal (mi' := 42) (pc' := 5) (ls' := [.ref 3, .int (1 : Int32), .int (2 : Int32), .int a]) (rest := []) (A' := im_H g1 u o Y) (c' := 1) (s' := 6) (as := [.int (2 : Int32)]) (v := none) (A'' := im_H g2 u o Y) 2 49 (fun n => rfl) rfl (x49_ok (g := g1) (a := (2 : Int32)) hc) ?_
      show iv_ev (iv_Xs L xs) 42 8 [.ref 3, .int (1 : Int32), .int (2 : Int32), .int a] [] (im_H g2 u o Y) 2 12 _
      cases hb1 : Op.ifCond.holds .lt a with
      | true =>
        have h := iv_bt hb1 h
        refine iv_brt (mi' := 42) (pc' := 23) (ls' := [.ref 3, .int (1 : Int32), .int (2 : Int32), .int a]) (st' := []) (A' := im_H g2 u o Y) (c' := 2) (s' := 12) (mi'' := 42) (pc'' := 12) (ls'' := [.ref 3, .int (1 : Int32), .int (2 : Int32), .int a]) (st'' := []) (A'' := im_H g2 u o Y) (c'' := 2) (s'' := 12) 2 0 0 hb1 (fun n => rfl) ?_
        refine iv_blk (mi' := 42) (pc' := 24) (ls' := [.ref 3, .int (1 : Int32), .int (2 : Int32), .int a]) (st' := [.int (0 : Int32)]) (A' := im_H g2 u o Y) (c' := 2) (s' := 12) 1 (fun n => rfl) ?_
        exact x42_r0_1_2_1_ok (g := g2) (y0 := a) (y1 := (0 : Int32)) h
      | false =>
        have h := iv_bf hb1 h
        refine iv_brf (mi' := 42) (pc' := 23) (ls' := [.ref 3, .int (1 : Int32), .int (2 : Int32), .int a]) (st' := []) (A' := im_H g2 u o Y) (c' := 2) (s' := 12) (mi'' := 42) (pc'' := 12) (ls'' := [.ref 3, .int (1 : Int32), .int (2 : Int32), .int a]) (st'' := []) (A'' := im_H g2 u o Y) (c'' := 2) (s'' := 12) 2 0 0 hb1 (fun n => rfl) ?_
        cases hb2 : Op.if_icmp.holds .gt a (4095 : Int32) with
        | true =>
          have h := iv_bt hb2 h
          refine iv_brt (mi' := 42) (pc' := 23) (ls' := [.ref 3, .int (1 : Int32), .int (2 : Int32), .int a]) (st' := []) (A' := im_H g2 u o Y) (c' := 2) (s' := 12) (mi'' := 42) (pc'' := 19) (ls'' := [.ref 3, .int (1 : Int32), .int (2 : Int32), .int a]) (st'' := []) (A'' := im_H g2 u o Y) (c'' := 2) (s'' := 12) 3 0 0 hb2 (fun n => rfl) ?_
          refine iv_blk (mi' := 42) (pc' := 24) (ls' := [.ref 3, .int (1 : Int32), .int (2 : Int32), .int a]) (st' := [.int (0 : Int32)]) (A' := im_H g2 u o Y) (c' := 2) (s' := 12) 1 (fun n => rfl) ?_
          exact x42_r0_1_2_1_ok (g := g2) (y0 := a) (y1 := (0 : Int32)) h
        | false =>
          have h := iv_bf hb2 h
          refine iv_brf (mi' := 42) (pc' := 23) (ls' := [.ref 3, .int (1 : Int32), .int (2 : Int32), .int a]) (st' := []) (A' := im_H g2 u o Y) (c' := 2) (s' := 12) (mi'' := 42) (pc'' := 19) (ls'' := [.ref 3, .int (1 : Int32), .int (2 : Int32), .int a]) (st'' := []) (A'' := im_H g2 u o Y) (c'' := 2) (s'' := 12) 3 0 0 hb2 (fun n => rfl) ?_
          refine iv_blk (mi' := 42) (pc' := 24) (ls' := [.ref 3, .int (1 : Int32), .int (2 : Int32), .int a]) (st' := [.int (1 : Int32)]) (A' := im_H g2 u o Y) (c' := 2) (s' := 12) 2 (fun n => rfl) ?_
          exact x42_r0_1_2_1_ok (g := g2) (y0 := a) (y1 := (1 : Int32)) h
def x52_r0_1_2 (g : im_M) : Option (im_T × im_M) :=
  Option.bind (x43 g (1 : Int32)) (fun q1 =>
    Sum.elim (fun z => some (.inl z, q1.2)) (fun _ =>
    Option.bind (x49 q1.2 (2 : Int32)) (fun q2 =>
      Sum.elim (fun z => some (.inl z, q2.2)) (fun _ =>
      Option.bind (x20_r14_2 q2.2 ) (fun q3 =>
        some (.inr q3.1, q3.2))) q2.1)) q1.1)
set_option maxRecDepth 100000 in
set_option maxHeartbeats 4000000 in
theorem x52_r0_1_2_ok {L : Nat} {xs : Nat → Int32} {g u mm : im_M} {o : Nat → Int64} {Y : iv_A} {ret : im_T} (h : x52_r0_1_2 g  = some (ret, mm)) : iv_ev (iv_Xs L xs) 52 0 [.ref 3, .int (1 : Int32), .int (2 : Int32)] [] (im_H g u o Y) 0 0 (im_res ret (im_H mm u o Y)) := by
  unfold x52_r0_1_2 at h
  obtain ⟨v1, g1, hc, h⟩ := iv_bd h
  cases v1 with
  | inl z =>
    have h := iv_sl h
    cases h
    exact iv_calu (mi' := 52) (pc' := 1) (ls' := [.ref 3, .int (1 : Int32), .int (2 : Int32)]) (rest := []) (A' := im_H g u o Y) (c' := 0) (s' := 0) (as := [.int (1 : Int32)]) (B := im_H g1 u o Y) 2 43 (z.val + 7) (fun n => rfl) rfl (im_zx z) rfl rfl (x43_ok (g := g) (a := (1 : Int32)) hc)
  | inr v1 =>
    have h := iv_sr h
    refine iv_cal (mi' := 52) (pc' := 1) (ls' := [.ref 3, .int (1 : Int32), .int (2 : Int32)]) (rest := []) (A' := im_H g u o Y) (c' := 0) (s' := 0) (as := [.int (1 : Int32)]) (v := none) (A'' := im_H g1 u o Y) 2 43 (fun n => rfl) rfl (x43_ok (g := g) (a := (1 : Int32)) hc) ?_
    show iv_ev (iv_Xs L xs) 52 4 [.ref 3, .int (1 : Int32), .int (2 : Int32)] [] (im_H g1 u o Y) 1 6 _
    obtain ⟨v2, g2, hc, h⟩ := iv_bd h
    cases v2 with
    | inl z =>
      have h := iv_sl h
      cases h
      exact iv_calu (mi' := 52) (pc' := 5) (ls' := [.ref 3, .int (1 : Int32), .int (2 : Int32)]) (rest := []) (A' := im_H g1 u o Y) (c' := 1) (s' := 6) (as := [.int (2 : Int32)]) (B := im_H g2 u o Y) 2 49 (z.val + 7) (fun n => rfl) rfl (im_zx z) rfl rfl (x49_ok (g := g1) (a := (2 : Int32)) hc)
    | inr v2 =>
      have h := iv_sr h
      refine iv_cal (mi' := 52) (pc' := 5) (ls' := [.ref 3, .int (1 : Int32), .int (2 : Int32)]) (rest := []) (A' := im_H g1 u o Y) (c' := 1) (s' := 6) (as := [.int (2 : Int32)]) (v := none) (A'' := im_H g2 u o Y) 2 49 (fun n => rfl) rfl (x49_ok (g := g1) (a := (2 : Int32)) hc) ?_
      show iv_ev (iv_Xs L xs) 52 8 [.ref 3, .int (1 : Int32), .int (2 : Int32)] [] (im_H g2 u o Y) 2 12 _
      obtain ⟨v3, g3, hc, h⟩ := iv_bd h
      refine iv_cal (mi' := 52) (pc' := 15) (ls' := [.ref 3, .int (1 : Int32), .int (2 : Int32)]) (rest := []) (A' := im_H g2 u o Y) (c' := 2) (s' := 12) (as := [.ref 17, .int (2 : Int32)]) (v := some (.int v3)) (A'' := im_H g3 u o Y) 6 20 (fun n => rfl) rfl (x20_r14_2_ok (g := g2)  hc) ?_
      show iv_ev (iv_Xs L xs) 52 18 [.ref 3, .int (1 : Int32), .int (2 : Int32)] [.int v3] (im_H g3 u o Y) 2 12 _
      cases h
      exact iv_ret 1 (fun n => rfl)
def x60_r0_1_2_1 (g : im_M) (y0 : Int32) : Option (im_T × im_M) :=
  Option.bind (x55 g y0) (fun q3 =>
    Sum.elim (fun z => some (.inl z, q3.2)) (fun _ =>
    Option.bind (x61_r8 q3.2 (1 : Int32) (2 : Int32)) (fun q4 =>
      some (.inr 0, q4.2))) q3.1)
set_option maxRecDepth 100000 in
set_option maxHeartbeats 4000000 in
theorem x60_r0_1_2_1_ok {L : Nat} {xs : Nat → Int32} {g u mm : im_M} {o : Nat → Int64} {Y : iv_A} {y0 : Int32} {ret : im_T} (h : x60_r0_1_2_1 g y0 = some (ret, mm)) : iv_ev (iv_Xs L xs) 60 32 [.ref 3, .int (1 : Int32), .int (2 : Int32)] [.int y0] (im_H g u o Y) 2 12 (im_rev ret (im_H mm u o Y)) := by
  unfold x60_r0_1_2_1 at h
  obtain ⟨v3, g3, hc, h⟩ := iv_bd h
  cases v3 with
  | inl z =>
    have h := iv_sl h
    cases h
    exact iv_calu (mi' := 60) (pc' := 32) (ls' := [.ref 3, .int (1 : Int32), .int (2 : Int32)]) (rest := []) (A' := im_H g u o Y) (c' := 2) (s' := 12) (as := [.int y0]) (B := im_H g3 u o Y) 1 55 (z.val + 7) (fun n => rfl) rfl (im_zx z) rfl rfl (x55_ok (g := g) (a := y0) hc)
  | inr v3 =>
    have h := iv_sr h
    refine iv_cal (mi' := 60) (pc' := 32) (ls' := [.ref 3, .int (1 : Int32), .int (2 : Int32)]) (rest := []) (A' := im_H g u o Y) (c' := 2) (s' := 12) (as := [.int y0]) (v := none) (A'' := im_H g3 u o Y) 1 55 (fun n => rfl) rfl (x55_ok (g := g) (a := y0) hc) ?_
    show iv_ev (iv_Xs L xs) 60 35 [.ref 3, .int (1 : Int32), .int (2 : Int32)] [] (im_H g3 u o Y) 3 18 _
    obtain ⟨v4, g4, hc, h⟩ := iv_bd h
    refine iv_cal (mi' := 60) (pc' := 41) (ls' := [.ref 3, .int (1 : Int32), .int (2 : Int32)]) (rest := []) (A' := im_H g3 u o Y) (c' := 3) (s' := 18) (as := [.ref 11, .int (1 : Int32), .int (2 : Int32)]) (v := none) (A'' := im_H g4 u o Y) 5 61 (fun n => rfl) rfl (x61_r8_ok (g := g3) (a := (1 : Int32)) (b := (2 : Int32)) hc) ?_
    show iv_ev (iv_Xs L xs) 60 44 [.ref 3, .int (1 : Int32), .int (2 : Int32)] [] (im_H g4 u o Y) 3 18 _
    cases h
    exact iv_ret 1 (fun n => rfl)
def x60_r0_1_2 (g : im_M) : Option (im_T × im_M) :=
  Option.bind (x43 g (1 : Int32)) (fun q1 =>
    Sum.elim (fun z => some (.inl z, q1.2)) (fun _ =>
    Option.bind (x49 q1.2 (2 : Int32)) (fun q2 =>
      Sum.elim (fun z => some (.inl z, q2.2)) (fun _ =>
      bif Op.if_icmp.holds .ne (q2.2 8 0) (-1 : Int32) then
        (x60_r0_1_2_1 q2.2 (0 : Int32))
      else
        (bif Op.if_icmp.holds .eq (q2.2 0 6) (1 : Int32) then
          (x60_r0_1_2_1 q2.2 (0 : Int32))
        else
          (x60_r0_1_2_1 q2.2 (1 : Int32)))) q2.1)) q1.1)
set_option maxRecDepth 100000 in
set_option maxHeartbeats 4000000 in
theorem x60_r0_1_2_ok {L : Nat} {xs : Nat → Int32} {g u mm : im_M} {o : Nat → Int64} {Y : iv_A} {ret : im_T} (h : x60_r0_1_2 g  = some (ret, mm)) : iv_ev (iv_Xs L xs) 60 0 [.ref 3, .int (1 : Int32), .int (2 : Int32)] [] (im_H g u o Y) 0 0 (im_rev ret (im_H mm u o Y)) := by
  unfold x60_r0_1_2 at h
  obtain ⟨v1, g1, hc, h⟩ := iv_bd h
  cases v1 with
  | inl z =>
    have h := iv_sl h
    cases h
    exact iv_calu (mi' := 60) (pc' := 1) (ls' := [.ref 3, .int (1 : Int32), .int (2 : Int32)]) (rest := []) (A' := im_H g u o Y) (c' := 0) (s' := 0) (as := [.int (1 : Int32)]) (B := im_H g1 u o Y) 2 43 (z.val + 7) (fun n => rfl) rfl (im_zx z) rfl rfl (x43_ok (g := g) (a := (1 : Int32)) hc)
  | inr v1 =>
    have h := iv_sr h
    refine iv_cal (mi' := 60) (pc' := 1) (ls' := [.ref 3, .int (1 : Int32), .int (2 : Int32)]) (rest := []) (A' := im_H g u o Y) (c' := 0) (s' := 0) (as := [.int (1 : Int32)]) (v := none) (A'' := im_H g1 u o Y) 2 43 (fun n => rfl) rfl (x43_ok (g := g) (a := (1 : Int32)) hc) ?_
    show iv_ev (iv_Xs L xs) 60 4 [.ref 3, .int (1 : Int32), .int (2 : Int32)] [] (im_H g1 u o Y) 1 6 _
    obtain ⟨v2, g2, hc, h⟩ := iv_bd h
    cases v2 with
    | inl z =>
      have h := iv_sl h
      cases h
      exact iv_calu (mi' := 60) (pc' := 5) (ls' := [.ref 3, .int (1 : Int32), .int (2 : Int32)]) (rest := []) (A' := im_H g1 u o Y) (c' := 1) (s' := 6) (as := [.int (2 : Int32)]) (B := im_H g2 u o Y) 2 49 (z.val + 7) (fun n => rfl) rfl (im_zx z) rfl rfl (x49_ok (g := g1) (a := (2 : Int32)) hc)
    | inr v2 =>
      have h := iv_sr h
      refine iv_cal (mi' := 60) (pc' := 5) (ls' := [.ref 3, .int (1 : Int32), .int (2 : Int32)]) (rest := []) (A' := im_H g1 u o Y) (c' := 1) (s' := 6) (as := [.int (2 : Int32)]) (v := none) (A'' := im_H g2 u o Y) 2 49 (fun n => rfl) rfl (x49_ok (g := g1) (a := (2 : Int32)) hc) ?_
      show iv_ev (iv_Xs L xs) 60 8 [.ref 3, .int (1 : Int32), .int (2 : Int32)] [] (im_H g2 u o Y) 2 12 _
      cases hb1 : Op.if_icmp.holds .ne (g2 8 0) (-1 : Int32) with
      | true =>
        have h := iv_bt hb1 h
        refine iv_brt (mi' := 60) (pc' := 31) (ls' := [.ref 3, .int (1 : Int32), .int (2 : Int32)]) (st' := []) (A' := im_H g2 u o Y) (c' := 2) (s' := 12) (mi'' := 60) (pc'' := 19) (ls'' := [.ref 3, .int (1 : Int32), .int (2 : Int32)]) (st'' := []) (A'' := im_H g2 u o Y) (c'' := 2) (s'' := 12) 5 0 0 hb1 (fun n => rfl) ?_
        refine iv_blk (mi' := 60) (pc' := 32) (ls' := [.ref 3, .int (1 : Int32), .int (2 : Int32)]) (st' := [.int (0 : Int32)]) (A' := im_H g2 u o Y) (c' := 2) (s' := 12) 1 (fun n => rfl) ?_
        exact x60_r0_1_2_1_ok (g := g2) (y0 := (0 : Int32)) h
      | false =>
        have h := iv_bf hb1 h
        refine iv_brf (mi' := 60) (pc' := 31) (ls' := [.ref 3, .int (1 : Int32), .int (2 : Int32)]) (st' := []) (A' := im_H g2 u o Y) (c' := 2) (s' := 12) (mi'' := 60) (pc'' := 19) (ls'' := [.ref 3, .int (1 : Int32), .int (2 : Int32)]) (st'' := []) (A'' := im_H g2 u o Y) (c'' := 2) (s'' := 12) 5 0 0 hb1 (fun n => rfl) ?_
        cases hb2 : Op.if_icmp.holds .eq (g2 0 6) (1 : Int32) with
        | true =>
          have h := iv_bt hb2 h
          refine iv_brt (mi' := 60) (pc' := 31) (ls' := [.ref 3, .int (1 : Int32), .int (2 : Int32)]) (st' := []) (A' := im_H g2 u o Y) (c' := 2) (s' := 12) (mi'' := 60) (pc'' := 27) (ls'' := [.ref 3, .int (1 : Int32), .int (2 : Int32)]) (st'' := []) (A'' := im_H g2 u o Y) (c'' := 2) (s'' := 12) 4 0 0 hb2 (fun n => rfl) ?_
          refine iv_blk (mi' := 60) (pc' := 32) (ls' := [.ref 3, .int (1 : Int32), .int (2 : Int32)]) (st' := [.int (0 : Int32)]) (A' := im_H g2 u o Y) (c' := 2) (s' := 12) 1 (fun n => rfl) ?_
          exact x60_r0_1_2_1_ok (g := g2) (y0 := (0 : Int32)) h
        | false =>
          have h := iv_bf hb2 h
          refine iv_brf (mi' := 60) (pc' := 31) (ls' := [.ref 3, .int (1 : Int32), .int (2 : Int32)]) (st' := []) (A' := im_H g2 u o Y) (c' := 2) (s' := 12) (mi'' := 60) (pc'' := 27) (ls'' := [.ref 3, .int (1 : Int32), .int (2 : Int32)]) (st'' := []) (A'' := im_H g2 u o Y) (c'' := 2) (s'' := 12) 4 0 0 hb2 (fun n => rfl) ?_
          refine iv_blk (mi' := 60) (pc' := 32) (ls' := [.ref 3, .int (1 : Int32), .int (2 : Int32)]) (st' := [.int (1 : Int32)]) (A' := im_H g2 u o Y) (c' := 2) (s' := 12) 2 (fun n => rfl) ?_
          exact x60_r0_1_2_1_ok (g := g2) (y0 := (1 : Int32)) h
def x66_r0_1_0 (g : im_M) (a : Int32) : Option (im_T × im_M) :=
  Option.bind (x43 g (1 : Int32)) (fun q1 =>
    Sum.elim (fun z => some (.inl z, q1.2)) (fun _ =>
    Option.bind (x64 q1.2 (0 : Int32)) (fun q2 =>
      Sum.elim (fun z => some (.inl z, q2.2)) (fun _ =>
      Option.bind (x67_r5_1_0 q2.2 a) (fun q3 =>
        some (.inr 0, q3.2))) q2.1)) q1.1)
set_option maxRecDepth 100000 in
set_option maxHeartbeats 4000000 in
theorem x66_r0_1_0_ok {L : Nat} {xs : Nat → Int32} {g u mm : im_M} {o : Nat → Int64} {Y : iv_A} {a : Int32} {ret : im_T} (h : x66_r0_1_0 g a = some (ret, mm)) : iv_ev (iv_Xs L xs) 66 0 [.ref 3, .int (1 : Int32), .int (0 : Int32), .int a] [] (im_H g u o Y) 0 0 (im_rev ret (im_H mm u o Y)) := by
  unfold x66_r0_1_0 at h
  obtain ⟨v1, g1, hc, h⟩ := iv_bd h
  cases v1 with
  | inl z =>
    have h := iv_sl h
    cases h
    exact iv_calu (mi' := 66) (pc' := 1) (ls' := [.ref 3, .int (1 : Int32), .int (0 : Int32), .int a]) (rest := []) (A' := im_H g u o Y) (c' := 0) (s' := 0) (as := [.int (1 : Int32)]) (B := im_H g1 u o Y) 2 43 (z.val + 7) (fun n => rfl) rfl (im_zx z) rfl rfl (x43_ok (g := g) (a := (1 : Int32)) hc)
  | inr v1 =>
    have h := iv_sr h
    refine iv_cal (mi' := 66) (pc' := 1) (ls' := [.ref 3, .int (1 : Int32), .int (0 : Int32), .int a]) (rest := []) (A' := im_H g u o Y) (c' := 0) (s' := 0) (as := [.int (1 : Int32)]) (v := none) (A'' := im_H g1 u o Y) 2 43 (fun n => rfl) rfl (x43_ok (g := g) (a := (1 : Int32)) hc) ?_
    show iv_ev (iv_Xs L xs) 66 4 [.ref 3, .int (1 : Int32), .int (0 : Int32), .int a] [] (im_H g1 u o Y) 1 6 _
    obtain ⟨v2, g2, hc, h⟩ := iv_bd h
    cases v2 with
    | inl z =>
      have h := iv_sl h
      cases h
      exact iv_calu (mi' := 66) (pc' := 5) (ls' := [.ref 3, .int (1 : Int32), .int (0 : Int32), .int a]) (rest := []) (A' := im_H g1 u o Y) (c' := 1) (s' := 6) (as := [.int (0 : Int32)]) (B := im_H g2 u o Y) 2 64 (z.val + 7) (fun n => rfl) rfl (im_zx z) rfl rfl (x64_ok (g := g1) (a := (0 : Int32)) hc)
    | inr v2 =>
      have h := iv_sr h
      refine iv_cal (mi' := 66) (pc' := 5) (ls' := [.ref 3, .int (1 : Int32), .int (0 : Int32), .int a]) (rest := []) (A' := im_H g1 u o Y) (c' := 1) (s' := 6) (as := [.int (0 : Int32)]) (v := none) (A'' := im_H g2 u o Y) 2 64 (fun n => rfl) rfl (x64_ok (g := g1) (a := (0 : Int32)) hc) ?_
      show iv_ev (iv_Xs L xs) 66 8 [.ref 3, .int (1 : Int32), .int (0 : Int32), .int a] [] (im_H g2 u o Y) 2 12 _
      obtain ⟨v3, g3, hc, h⟩ := iv_bd h
      refine iv_cal (mi' := 66) (pc' := 15) (ls' := [.ref 3, .int (1 : Int32), .int (0 : Int32), .int a]) (rest := []) (A' := im_H g2 u o Y) (c' := 2) (s' := 12) (as := [.ref 8, .int (1 : Int32), .int (0 : Int32), .int a]) (v := none) (A'' := im_H g3 u o Y) 6 67 (fun n => rfl) rfl (x67_r5_1_0_ok (g := g2) (a := a) hc) ?_
      show iv_ev (iv_Xs L xs) 66 18 [.ref 3, .int (1 : Int32), .int (0 : Int32), .int a] [] (im_H g3 u o Y) 2 12 _
      cases h
      exact iv_ret 1 (fun n => rfl)
def x66_r0_1_1 (g : im_M) (a : Int32) : Option (im_T × im_M) :=
  Option.bind (x43 g (1 : Int32)) (fun q1 =>
    Sum.elim (fun z => some (.inl z, q1.2)) (fun _ =>
    Option.bind (x64 q1.2 (1 : Int32)) (fun q2 =>
      Sum.elim (fun z => some (.inl z, q2.2)) (fun _ =>
      Option.bind (x67_r5_1_1 q2.2 a) (fun q3 =>
        some (.inr 0, q3.2))) q2.1)) q1.1)
set_option maxRecDepth 100000 in
set_option maxHeartbeats 4000000 in
theorem x66_r0_1_1_ok {L : Nat} {xs : Nat → Int32} {g u mm : im_M} {o : Nat → Int64} {Y : iv_A} {a : Int32} {ret : im_T} (h : x66_r0_1_1 g a = some (ret, mm)) : iv_ev (iv_Xs L xs) 66 0 [.ref 3, .int (1 : Int32), .int (1 : Int32), .int a] [] (im_H g u o Y) 0 0 (im_rev ret (im_H mm u o Y)) := by
  unfold x66_r0_1_1 at h
  obtain ⟨v1, g1, hc, h⟩ := iv_bd h
  cases v1 with
  | inl z =>
    have h := iv_sl h
    cases h
    exact iv_calu (mi' := 66) (pc' := 1) (ls' := [.ref 3, .int (1 : Int32), .int (1 : Int32), .int a]) (rest := []) (A' := im_H g u o Y) (c' := 0) (s' := 0) (as := [.int (1 : Int32)]) (B := im_H g1 u o Y) 2 43 (z.val + 7) (fun n => rfl) rfl (im_zx z) rfl rfl (x43_ok (g := g) (a := (1 : Int32)) hc)
  | inr v1 =>
    have h := iv_sr h
    refine iv_cal (mi' := 66) (pc' := 1) (ls' := [.ref 3, .int (1 : Int32), .int (1 : Int32), .int a]) (rest := []) (A' := im_H g u o Y) (c' := 0) (s' := 0) (as := [.int (1 : Int32)]) (v := none) (A'' := im_H g1 u o Y) 2 43 (fun n => rfl) rfl (x43_ok (g := g) (a := (1 : Int32)) hc) ?_
    show iv_ev (iv_Xs L xs) 66 4 [.ref 3, .int (1 : Int32), .int (1 : Int32), .int a] [] (im_H g1 u o Y) 1 6 _
    obtain ⟨v2, g2, hc, h⟩ := iv_bd h
    cases v2 with
    | inl z =>
      have h := iv_sl h
      cases h
      exact iv_calu (mi' := 66) (pc' := 5) (ls' := [.ref 3, .int (1 : Int32), .int (1 : Int32), .int a]) (rest := []) (A' := im_H g1 u o Y) (c' := 1) (s' := 6) (as := [.int (1 : Int32)]) (B := im_H g2 u o Y) 2 64 (z.val + 7) (fun n => rfl) rfl (im_zx z) rfl rfl (x64_ok (g := g1) (a := (1 : Int32)) hc)
    | inr v2 =>
      have h := iv_sr h
      refine iv_cal (mi' := 66) (pc' := 5) (ls' := [.ref 3, .int (1 : Int32), .int (1 : Int32), .int a]) (rest := []) (A' := im_H g1 u o Y) (c' := 1) (s' := 6) (as := [.int (1 : Int32)]) (v := none) (A'' := im_H g2 u o Y) 2 64 (fun n => rfl) rfl (x64_ok (g := g1) (a := (1 : Int32)) hc) ?_
      show iv_ev (iv_Xs L xs) 66 8 [.ref 3, .int (1 : Int32), .int (1 : Int32), .int a] [] (im_H g2 u o Y) 2 12 _
      obtain ⟨v3, g3, hc, h⟩ := iv_bd h
      refine iv_cal (mi' := 66) (pc' := 15) (ls' := [.ref 3, .int (1 : Int32), .int (1 : Int32), .int a]) (rest := []) (A' := im_H g2 u o Y) (c' := 2) (s' := 12) (as := [.ref 8, .int (1 : Int32), .int (1 : Int32), .int a]) (v := none) (A'' := im_H g3 u o Y) 6 67 (fun n => rfl) rfl (x67_r5_1_1_ok (g := g2) (a := a) hc) ?_
      show iv_ev (iv_Xs L xs) 66 18 [.ref 3, .int (1 : Int32), .int (1 : Int32), .int a] [] (im_H g3 u o Y) 2 12 _
      cases h
      exact iv_ret 1 (fun n => rfl)
def x66_r0_1_2 (g : im_M) (a : Int32) : Option (im_T × im_M) :=
  Option.bind (x43 g (1 : Int32)) (fun q1 =>
    Sum.elim (fun z => some (.inl z, q1.2)) (fun _ =>
    Option.bind (x64 q1.2 (2 : Int32)) (fun q2 =>
      Sum.elim (fun z => some (.inl z, q2.2)) (fun _ =>
      Option.bind (x67_r5_1_2 q2.2 a) (fun q3 =>
        some (.inr 0, q3.2))) q2.1)) q1.1)
set_option maxRecDepth 100000 in
set_option maxHeartbeats 4000000 in
theorem x66_r0_1_2_ok {L : Nat} {xs : Nat → Int32} {g u mm : im_M} {o : Nat → Int64} {Y : iv_A} {a : Int32} {ret : im_T} (h : x66_r0_1_2 g a = some (ret, mm)) : iv_ev (iv_Xs L xs) 66 0 [.ref 3, .int (1 : Int32), .int (2 : Int32), .int a] [] (im_H g u o Y) 0 0 (im_rev ret (im_H mm u o Y)) := by
  unfold x66_r0_1_2 at h
  obtain ⟨v1, g1, hc, h⟩ := iv_bd h
  cases v1 with
  | inl z =>
    have h := iv_sl h
    cases h
    exact iv_calu (mi' := 66) (pc' := 1) (ls' := [.ref 3, .int (1 : Int32), .int (2 : Int32), .int a]) (rest := []) (A' := im_H g u o Y) (c' := 0) (s' := 0) (as := [.int (1 : Int32)]) (B := im_H g1 u o Y) 2 43 (z.val + 7) (fun n => rfl) rfl (im_zx z) rfl rfl (x43_ok (g := g) (a := (1 : Int32)) hc)
  | inr v1 =>
    have h := iv_sr h
    refine iv_cal (mi' := 66) (pc' := 1) (ls' := [.ref 3, .int (1 : Int32), .int (2 : Int32), .int a]) (rest := []) (A' := im_H g u o Y) (c' := 0) (s' := 0) (as := [.int (1 : Int32)]) (v := none) (A'' := im_H g1 u o Y) 2 43 (fun n => rfl) rfl (x43_ok (g := g) (a := (1 : Int32)) hc) ?_
    show iv_ev (iv_Xs L xs) 66 4 [.ref 3, .int (1 : Int32), .int (2 : Int32), .int a] [] (im_H g1 u o Y) 1 6 _
    obtain ⟨v2, g2, hc, h⟩ := iv_bd h
    cases v2 with
    | inl z =>
      have h := iv_sl h
      cases h
      exact iv_calu (mi' := 66) (pc' := 5) (ls' := [.ref 3, .int (1 : Int32), .int (2 : Int32), .int a]) (rest := []) (A' := im_H g1 u o Y) (c' := 1) (s' := 6) (as := [.int (2 : Int32)]) (B := im_H g2 u o Y) 2 64 (z.val + 7) (fun n => rfl) rfl (im_zx z) rfl rfl (x64_ok (g := g1) (a := (2 : Int32)) hc)
    | inr v2 =>
      have h := iv_sr h
      refine iv_cal (mi' := 66) (pc' := 5) (ls' := [.ref 3, .int (1 : Int32), .int (2 : Int32), .int a]) (rest := []) (A' := im_H g1 u o Y) (c' := 1) (s' := 6) (as := [.int (2 : Int32)]) (v := none) (A'' := im_H g2 u o Y) 2 64 (fun n => rfl) rfl (x64_ok (g := g1) (a := (2 : Int32)) hc) ?_
      show iv_ev (iv_Xs L xs) 66 8 [.ref 3, .int (1 : Int32), .int (2 : Int32), .int a] [] (im_H g2 u o Y) 2 12 _
      obtain ⟨v3, g3, hc, h⟩ := iv_bd h
      refine iv_cal (mi' := 66) (pc' := 15) (ls' := [.ref 3, .int (1 : Int32), .int (2 : Int32), .int a]) (rest := []) (A' := im_H g2 u o Y) (c' := 2) (s' := 12) (as := [.ref 8, .int (1 : Int32), .int (2 : Int32), .int a]) (v := none) (A'' := im_H g3 u o Y) 6 67 (fun n => rfl) rfl (x67_r5_1_2_ok (g := g2) (a := a) hc) ?_
      show iv_ev (iv_Xs L xs) 66 18 [.ref 3, .int (1 : Int32), .int (2 : Int32), .int a] [] (im_H g3 u o Y) 2 12 _
      cases h
      exact iv_ret 1 (fun n => rfl)
def x66_r0_1_3 (g : im_M) (a : Int32) : Option (im_T × im_M) :=
  Option.bind (x43 g (1 : Int32)) (fun q1 =>
    Sum.elim (fun z => some (.inl z, q1.2)) (fun _ =>
    Option.bind (x64 q1.2 (3 : Int32)) (fun q2 =>
      Sum.elim (fun z => some (.inl z, q2.2)) (fun _ =>
      Option.bind (x67_r5_1_3 q2.2 a) (fun q3 =>
        some (.inr 0, q3.2))) q2.1)) q1.1)
set_option maxRecDepth 100000 in
set_option maxHeartbeats 4000000 in
theorem x66_r0_1_3_ok {L : Nat} {xs : Nat → Int32} {g u mm : im_M} {o : Nat → Int64} {Y : iv_A} {a : Int32} {ret : im_T} (h : x66_r0_1_3 g a = some (ret, mm)) : iv_ev (iv_Xs L xs) 66 0 [.ref 3, .int (1 : Int32), .int (3 : Int32), .int a] [] (im_H g u o Y) 0 0 (im_rev ret (im_H mm u o Y)) := by
  unfold x66_r0_1_3 at h
  obtain ⟨v1, g1, hc, h⟩ := iv_bd h
  cases v1 with
  | inl z =>
    have h := iv_sl h
    cases h
    exact iv_calu (mi' := 66) (pc' := 1) (ls' := [.ref 3, .int (1 : Int32), .int (3 : Int32), .int a]) (rest := []) (A' := im_H g u o Y) (c' := 0) (s' := 0) (as := [.int (1 : Int32)]) (B := im_H g1 u o Y) 2 43 (z.val + 7) (fun n => rfl) rfl (im_zx z) rfl rfl (x43_ok (g := g) (a := (1 : Int32)) hc)
  | inr v1 =>
    have h := iv_sr h
    refine iv_cal (mi' := 66) (pc' := 1) (ls' := [.ref 3, .int (1 : Int32), .int (3 : Int32), .int a]) (rest := []) (A' := im_H g u o Y) (c' := 0) (s' := 0) (as := [.int (1 : Int32)]) (v := none) (A'' := im_H g1 u o Y) 2 43 (fun n => rfl) rfl (x43_ok (g := g) (a := (1 : Int32)) hc) ?_
    show iv_ev (iv_Xs L xs) 66 4 [.ref 3, .int (1 : Int32), .int (3 : Int32), .int a] [] (im_H g1 u o Y) 1 6 _
    obtain ⟨v2, g2, hc, h⟩ := iv_bd h
    cases v2 with
    | inl z =>
      have h := iv_sl h
      cases h
      exact iv_calu (mi' := 66) (pc' := 5) (ls' := [.ref 3, .int (1 : Int32), .int (3 : Int32), .int a]) (rest := []) (A' := im_H g1 u o Y) (c' := 1) (s' := 6) (as := [.int (3 : Int32)]) (B := im_H g2 u o Y) 2 64 (z.val + 7) (fun n => rfl) rfl (im_zx z) rfl rfl (x64_ok (g := g1) (a := (3 : Int32)) hc)
    | inr v2 =>
      have h := iv_sr h
      refine iv_cal (mi' := 66) (pc' := 5) (ls' := [.ref 3, .int (1 : Int32), .int (3 : Int32), .int a]) (rest := []) (A' := im_H g1 u o Y) (c' := 1) (s' := 6) (as := [.int (3 : Int32)]) (v := none) (A'' := im_H g2 u o Y) 2 64 (fun n => rfl) rfl (x64_ok (g := g1) (a := (3 : Int32)) hc) ?_
      show iv_ev (iv_Xs L xs) 66 8 [.ref 3, .int (1 : Int32), .int (3 : Int32), .int a] [] (im_H g2 u o Y) 2 12 _
      obtain ⟨v3, g3, hc, h⟩ := iv_bd h
      refine iv_cal (mi' := 66) (pc' := 15) (ls' := [.ref 3, .int (1 : Int32), .int (3 : Int32), .int a]) (rest := []) (A' := im_H g2 u o Y) (c' := 2) (s' := 12) (as := [.ref 8, .int (1 : Int32), .int (3 : Int32), .int a]) (v := none) (A'' := im_H g3 u o Y) 6 67 (fun n => rfl) rfl (x67_r5_1_3_ok (g := g2) (a := a) hc) ?_
      show iv_ev (iv_Xs L xs) 66 18 [.ref 3, .int (1 : Int32), .int (3 : Int32), .int a] [] (im_H g3 u o Y) 2 12 _
      cases h
      exact iv_ret 1 (fun n => rfl)
def x54_r0_2_1 (g : im_M) (y0 : Int32) : Option (im_T × im_M) :=
  Option.bind (x55 g y0) (fun q2 =>
    Sum.elim (fun z => some (.inl z, q2.2)) (fun _ =>
    Option.bind (x15_r1 (im_w q2.2 0 6 (2 : Int32)) (11 : Int32) (2 : Int32) (0 : Int32)) (fun q3 =>
      some (.inr 0, q3.2))) q2.1)
set_option maxRecDepth 100000 in
set_option maxHeartbeats 4000000 in
theorem x54_r0_2_1_ok {L : Nat} {xs : Nat → Int32} {g u mm : im_M} {o : Nat → Int64} {Y : iv_A} {y0 : Int32} {ret : im_T} (h : x54_r0_2_1 g y0 = some (ret, mm)) : iv_ev (iv_Xs L xs) 54 28 [.ref 3, .int (2 : Int32)] [.int y0] (im_H g u o Y) 1 6 (im_rev ret (im_H mm u o Y)) := by
  unfold x54_r0_2_1 at h
  obtain ⟨v2, g2, hc, h⟩ := iv_bd h
  cases v2 with
  | inl z =>
    have h := iv_sl h
    cases h
    exact iv_calu (mi' := 54) (pc' := 28) (ls' := [.ref 3, .int (2 : Int32)]) (rest := []) (A' := im_H g u o Y) (c' := 1) (s' := 6) (as := [.int y0]) (B := im_H g2 u o Y) 1 55 (z.val + 7) (fun n => rfl) rfl (im_zx z) rfl rfl (x55_ok (g := g) (a := y0) hc)
  | inr v2 =>
    have h := iv_sr h
    refine iv_cal (mi' := 54) (pc' := 28) (ls' := [.ref 3, .int (2 : Int32)]) (rest := []) (A' := im_H g u o Y) (c' := 1) (s' := 6) (as := [.int y0]) (v := none) (A'' := im_H g2 u o Y) 1 55 (fun n => rfl) rfl (x55_ok (g := g) (a := y0) hc) ?_
    show iv_ev (iv_Xs L xs) 54 31 [.ref 3, .int (2 : Int32)] [] (im_H g2 u o Y) 2 12 _
    refine iv_blk (mi' := 54) (pc' := 36) (ls' := [.ref 3, .int (2 : Int32)]) (st' := []) (A' := List.set (im_H g2 u o Y) 0 (.inr (5, List.set [.int (g2 0 0), .ref 4, .ref 6, .ref 7, .ref 8, .ref 11, .int (g2 0 6), .int (g2 0 7)] 6 (.int (2 : Int32))))) (c' := 2) (s' := 12) 3 (fun n => rfl) ?_
    rw [im_f0_6]
    obtain ⟨v3, g3, hc, h⟩ := iv_bd h
    refine iv_cal (mi' := 54) (pc' := 44) (ls' := [.ref 3, .int (2 : Int32)]) (rest := []) (A' := im_H (im_w g2 0 6 (2 : Int32)) u o Y) (c' := 2) (s' := 12) (as := [.ref 4, .int (11 : Int32), .int (2 : Int32), .int (0 : Int32)]) (v := none) (A'' := im_H g3 u o Y) 6 15 (fun n => rfl) rfl (x15_r1_ok (g := (im_w g2 0 6 (2 : Int32))) (a := (11 : Int32)) (b := (2 : Int32)) (c := (0 : Int32)) hc) ?_
    show iv_ev (iv_Xs L xs) 54 47 [.ref 3, .int (2 : Int32)] [] (im_H g3 u o Y) 2 12 _
    cases h
    exact iv_ret 1 (fun n => rfl)
def x54_r0_2 (g : im_M) : Option (im_T × im_M) :=
  Option.bind (x43 g (2 : Int32)) (fun q1 =>
    Sum.elim (fun z => some (.inl z, q1.2)) (fun _ =>
    bif Op.if_icmp.holds .ne (q1.2 0 6) (-1 : Int32) then
      (x54_r0_2_1 q1.2 (0 : Int32))
    else
      (bif Op.if_icmp.holds .eq (q1.2 8 0) (2 : Int32) then
        (x54_r0_2_1 q1.2 (0 : Int32))
      else
        (x54_r0_2_1 q1.2 (1 : Int32)))) q1.1)
set_option maxRecDepth 100000 in
set_option maxHeartbeats 4000000 in
theorem x54_r0_2_ok {L : Nat} {xs : Nat → Int32} {g u mm : im_M} {o : Nat → Int64} {Y : iv_A} {ret : im_T} (h : x54_r0_2 g  = some (ret, mm)) : iv_ev (iv_Xs L xs) 54 0 [.ref 3, .int (2 : Int32)] [] (im_H g u o Y) 0 0 (im_rev ret (im_H mm u o Y)) := by
  unfold x54_r0_2 at h
  obtain ⟨v1, g1, hc, h⟩ := iv_bd h
  cases v1 with
  | inl z =>
    have h := iv_sl h
    cases h
    exact iv_calu (mi' := 54) (pc' := 1) (ls' := [.ref 3, .int (2 : Int32)]) (rest := []) (A' := im_H g u o Y) (c' := 0) (s' := 0) (as := [.int (2 : Int32)]) (B := im_H g1 u o Y) 2 43 (z.val + 7) (fun n => rfl) rfl (im_zx z) rfl rfl (x43_ok (g := g) (a := (2 : Int32)) hc)
  | inr v1 =>
    have h := iv_sr h
    refine iv_cal (mi' := 54) (pc' := 1) (ls' := [.ref 3, .int (2 : Int32)]) (rest := []) (A' := im_H g u o Y) (c' := 0) (s' := 0) (as := [.int (2 : Int32)]) (v := none) (A'' := im_H g1 u o Y) 2 43 (fun n => rfl) rfl (x43_ok (g := g) (a := (2 : Int32)) hc) ?_
    show iv_ev (iv_Xs L xs) 54 4 [.ref 3, .int (2 : Int32)] [] (im_H g1 u o Y) 1 6 _
    cases hb1 : Op.if_icmp.holds .ne (g1 0 6) (-1 : Int32) with
    | true =>
      have h := iv_bt hb1 h
      refine iv_brt (mi' := 54) (pc' := 27) (ls' := [.ref 3, .int (2 : Int32)]) (st' := []) (A' := im_H g1 u o Y) (c' := 1) (s' := 6) (mi'' := 54) (pc'' := 12) (ls'' := [.ref 3, .int (2 : Int32)]) (st'' := []) (A'' := im_H g1 u o Y) (c'' := 1) (s'' := 6) 4 0 0 hb1 (fun n => rfl) ?_
      refine iv_blk (mi' := 54) (pc' := 28) (ls' := [.ref 3, .int (2 : Int32)]) (st' := [.int (0 : Int32)]) (A' := im_H g1 u o Y) (c' := 1) (s' := 6) 1 (fun n => rfl) ?_
      exact x54_r0_2_1_ok (g := g1) (y0 := (0 : Int32)) h
    | false =>
      have h := iv_bf hb1 h
      refine iv_brf (mi' := 54) (pc' := 27) (ls' := [.ref 3, .int (2 : Int32)]) (st' := []) (A' := im_H g1 u o Y) (c' := 1) (s' := 6) (mi'' := 54) (pc'' := 12) (ls'' := [.ref 3, .int (2 : Int32)]) (st'' := []) (A'' := im_H g1 u o Y) (c'' := 1) (s'' := 6) 4 0 0 hb1 (fun n => rfl) ?_
      cases hb2 : Op.if_icmp.holds .eq (g1 8 0) (2 : Int32) with
      | true =>
        have h := iv_bt hb2 h
        refine iv_brt (mi' := 54) (pc' := 27) (ls' := [.ref 3, .int (2 : Int32)]) (st' := []) (A' := im_H g1 u o Y) (c' := 1) (s' := 6) (mi'' := 54) (pc'' := 23) (ls'' := [.ref 3, .int (2 : Int32)]) (st'' := []) (A'' := im_H g1 u o Y) (c'' := 1) (s'' := 6) 5 0 0 hb2 (fun n => rfl) ?_
        refine iv_blk (mi' := 54) (pc' := 28) (ls' := [.ref 3, .int (2 : Int32)]) (st' := [.int (0 : Int32)]) (A' := im_H g1 u o Y) (c' := 1) (s' := 6) 1 (fun n => rfl) ?_
        exact x54_r0_2_1_ok (g := g1) (y0 := (0 : Int32)) h
      | false =>
        have h := iv_bf hb2 h
        refine iv_brf (mi' := 54) (pc' := 27) (ls' := [.ref 3, .int (2 : Int32)]) (st' := []) (A' := im_H g1 u o Y) (c' := 1) (s' := 6) (mi'' := 54) (pc'' := 23) (ls'' := [.ref 3, .int (2 : Int32)]) (st'' := []) (A'' := im_H g1 u o Y) (c'' := 1) (s'' := 6) 5 0 0 hb2 (fun n => rfl) ?_
        refine iv_blk (mi' := 54) (pc' := 28) (ls' := [.ref 3, .int (2 : Int32)]) (st' := [.int (1 : Int32)]) (A' := im_H g1 u o Y) (c' := 1) (s' := 6) 2 (fun n => rfl) ?_
        exact x54_r0_2_1_ok (g := g1) (y0 := (1 : Int32)) h
def x42_r0_2_0_1 (g : im_M) (y0 : Int32) (y1 : Int32) : Option (im_T × im_M) :=
  Option.bind (x44 g y1) (fun q3 =>
    Sum.elim (fun z => some (.inl z, q3.2)) (fun _ =>
    Option.bind (x50_r19_0 q3.2 y0) (fun q4 =>
      some (.inr 0, q4.2))) q3.1)
set_option maxRecDepth 100000 in
set_option maxHeartbeats 4000000 in
theorem x42_r0_2_0_1_ok {L : Nat} {xs : Nat → Int32} {g u mm : im_M} {o : Nat → Int64} {Y : iv_A} {y0 y1 : Int32} {ret : im_T} (h : x42_r0_2_0_1 g y0 y1 = some (ret, mm)) : iv_ev (iv_Xs L xs) 42 24 [.ref 3, .int (2 : Int32), .int (0 : Int32), .int y0] [.int y1] (im_H g u o Y) 2 12 (im_rev ret (im_H mm u o Y)) := by
  unfold x42_r0_2_0_1 at h
  obtain ⟨v3, g3, hc, h⟩ := iv_bd h
  cases v3 with
  | inl z =>
    have h := iv_sl h
    cases h
    exact iv_calu (mi' := 42) (pc' := 24) (ls' := [.ref 3, .int (2 : Int32), .int (0 : Int32), .int y0]) (rest := []) (A' := im_H g u o Y) (c' := 2) (s' := 12) (as := [.int y1]) (B := im_H g3 u o Y) 1 44 (z.val + 7) (fun n => rfl) rfl (im_zx z) rfl rfl (x44_ok (g := g) (a := y1) hc)
  | inr v3 =>
    have h := iv_sr h
    refine iv_cal (mi' := 42) (pc' := 24) (ls' := [.ref 3, .int (2 : Int32), .int (0 : Int32), .int y0]) (rest := []) (A' := im_H g u o Y) (c' := 2) (s' := 12) (as := [.int y1]) (v := none) (A'' := im_H g3 u o Y) 1 44 (fun n => rfl) rfl (x44_ok (g := g) (a := y1) hc) ?_
    show iv_ev (iv_Xs L xs) 42 27 [.ref 3, .int (2 : Int32), .int (0 : Int32), .int y0] [] (im_H g3 u o Y) 3 18 _
    obtain ⟨v4, g4, hc, h⟩ := iv_bd h
    refine iv_cal (mi' := 42) (pc' := 35) (ls' := [.ref 3, .int (2 : Int32), .int (0 : Int32), .int y0]) (rest := []) (A' := im_H g3 u o Y) (c' := 3) (s' := 18) (as := [.ref 22, .int (0 : Int32), .int y0]) (v := none) (A'' := im_H g4 u o Y) 7 50 (fun n => rfl) rfl (x50_r19_0_ok (g := g3) (a := y0) hc) ?_
    show iv_ev (iv_Xs L xs) 42 38 [.ref 3, .int (2 : Int32), .int (0 : Int32), .int y0] [] (im_H g4 u o Y) 3 18 _
    cases h
    exact iv_ret 1 (fun n => rfl)
def x42_r0_2_0 (g : im_M) (a : Int32) : Option (im_T × im_M) :=
  Option.bind (x43 g (2 : Int32)) (fun q1 =>
    Sum.elim (fun z => some (.inl z, q1.2)) (fun _ =>
    Option.bind (x49 q1.2 (0 : Int32)) (fun q2 =>
      Sum.elim (fun z => some (.inl z, q2.2)) (fun _ =>
      bif Op.ifCond.holds .lt a then
        (x42_r0_2_0_1 q2.2 a (0 : Int32))
      else
        (bif Op.if_icmp.holds .gt a (4095 : Int32) then
          (x42_r0_2_0_1 q2.2 a (0 : Int32))
        else
          (x42_r0_2_0_1 q2.2 a (1 : Int32)))) q2.1)) q1.1)
set_option maxRecDepth 100000 in
set_option maxHeartbeats 4000000 in
theorem x42_r0_2_0_ok {L : Nat} {xs : Nat → Int32} {g u mm : im_M} {o : Nat → Int64} {Y : iv_A} {a : Int32} {ret : im_T} (h : x42_r0_2_0 g a = some (ret, mm)) : iv_ev (iv_Xs L xs) 42 0 [.ref 3, .int (2 : Int32), .int (0 : Int32), .int a] [] (im_H g u o Y) 0 0 (im_rev ret (im_H mm u o Y)) := by
  unfold x42_r0_2_0 at h
  obtain ⟨v1, g1, hc, h⟩ := iv_bd h
  cases v1 with
  | inl z =>
    have h := iv_sl h
    cases h
    exact iv_calu (mi' := 42) (pc' := 1) (ls' := [.ref 3, .int (2 : Int32), .int (0 : Int32), .int a]) (rest := []) (A' := im_H g u o Y) (c' := 0) (s' := 0) (as := [.int (2 : Int32)]) (B := im_H g1 u o Y) 2 43 (z.val + 7) (fun n => rfl) rfl (im_zx z) rfl rfl (x43_ok (g := g) (a := (2 : Int32)) hc)
  | inr v1 =>
    have h := iv_sr h
    refine iv_cal (mi' := 42) (pc' := 1) (ls' := [.ref 3, .int (2 : Int32), .int (0 : Int32), .int a]) (rest := []) (A' := im_H g u o Y) (c' := 0) (s' := 0) (as := [.int (2 : Int32)]) (v := none) (A'' := im_H g1 u o Y) 2 43 (fun n => rfl) rfl (x43_ok (g := g) (a := (2 : Int32)) hc) ?_
    show iv_ev (iv_Xs L xs) 42 4 [.ref 3, .int (2 : Int32), .int (0 : Int32), .int a] [] (im_H g1 u o Y) 1 6 _
    obtain ⟨v2, g2, hc, h⟩ := iv_bd h
    cases v2 with
    | inl z =>
      have h := iv_sl h
      cases h
      exact iv_calu (mi' := 42) (pc' := 5) (ls' := [.ref 3, .int (2 : Int32), .int (0 : Int32), .int a]) (rest := []) (A' := im_H g1 u o Y) (c' := 1) (s' := 6) (as := [.int (0 : Int32)]) (B := im_H g2 u o Y) 2 49 (z.val + 7) (fun n => rfl) rfl (im_zx z) rfl rfl (x49_ok (g := g1) (a := (0 : Int32)) hc)
    | inr v2 =>
      have h := iv_sr h
      refine iv_cal (mi' := 42) (pc' := 5) (ls' := [.ref 3, .int (2 : Int32), .int (0 : Int32), .int a]) (rest := []) (A' := im_H g1 u o Y) (c' := 1) (s' := 6) (as := [.int (0 : Int32)]) (v := none) (A'' := im_H g2 u o Y) 2 49 (fun n => rfl) rfl (x49_ok (g := g1) (a := (0 : Int32)) hc) ?_
      show iv_ev (iv_Xs L xs) 42 8 [.ref 3, .int (2 : Int32), .int (0 : Int32), .int a] [] (im_H g2 u o Y) 2 12 _
      cases hb1 : Op.ifCond.holds .lt a with
      | true =>
        have h := iv_bt hb1 h
        refine iv_brt (mi' := 42) (pc' := 23) (ls' := [.ref 3, .int (2 : Int32), .int (0 : Int32), .int a]) (st' := []) (A' := im_H g2 u o Y) (c' := 2) (s' := 12) (mi'' := 42) (pc'' := 12) (ls'' := [.ref 3, .int (2 : Int32), .int (0 : Int32), .int a]) (st'' := []) (A'' := im_H g2 u o Y) (c'' := 2) (s'' := 12) 2 0 0 hb1 (fun n => rfl) ?_
        refine iv_blk (mi' := 42) (pc' := 24) (ls' := [.ref 3, .int (2 : Int32), .int (0 : Int32), .int a]) (st' := [.int (0 : Int32)]) (A' := im_H g2 u o Y) (c' := 2) (s' := 12) 1 (fun n => rfl) ?_
        exact x42_r0_2_0_1_ok (g := g2) (y0 := a) (y1 := (0 : Int32)) h
      | false =>
        have h := iv_bf hb1 h
        refine iv_brf (mi' := 42) (pc' := 23) (ls' := [.ref 3, .int (2 : Int32), .int (0 : Int32), .int a]) (st' := []) (A' := im_H g2 u o Y) (c' := 2) (s' := 12) (mi'' := 42) (pc'' := 12) (ls'' := [.ref 3, .int (2 : Int32), .int (0 : Int32), .int a]) (st'' := []) (A'' := im_H g2 u o Y) (c'' := 2) (s'' := 12) 2 0 0 hb1 (fun n => rfl) ?_
        cases hb2 : Op.if_icmp.holds .gt a (4095 : Int32) with
        | true =>
          have h := iv_bt hb2 h
          refine iv_brt (mi' := 42) (pc' := 23) (ls' := [.ref 3, .int (2 : Int32), .int (0 : Int32), .int a]) (st' := []) (A' := im_H g2 u o Y) (c' := 2) (s' := 12) (mi'' := 42) (pc'' := 19) (ls'' := [.ref 3, .int (2 : Int32), .int (0 : Int32), .int a]) (st'' := []) (A'' := im_H g2 u o Y) (c'' := 2) (s'' := 12) 3 0 0 hb2 (fun n => rfl) ?_
          refine iv_blk (mi' := 42) (pc' := 24) (ls' := [.ref 3, .int (2 : Int32), .int (0 : Int32), .int a]) (st' := [.int (0 : Int32)]) (A' := im_H g2 u o Y) (c' := 2) (s' := 12) 1 (fun n => rfl) ?_
          exact x42_r0_2_0_1_ok (g := g2) (y0 := a) (y1 := (0 : Int32)) h
        | false =>
          have h := iv_bf hb2 h
          refine iv_brf (mi' := 42) (pc' := 23) (ls' := [.ref 3, .int (2 : Int32), .int (0 : Int32), .int a]) (st' := []) (A' := im_H g2 u o Y) (c' := 2) (s' := 12) (mi'' := 42) (pc'' := 19) (ls'' := [.ref 3, .int (2 : Int32), .int (0 : Int32), .int a]) (st'' := []) (A'' := im_H g2 u o Y) (c'' := 2) (s'' := 12) 3 0 0 hb2 (fun n => rfl) ?_
          refine iv_blk (mi' := 42) (pc' := 24) (ls' := [.ref 3, .int (2 : Int32), .int (0 : Int32), .int a]) (st' := [.int (1 : Int32)]) (A' := im_H g2 u o Y) (c' := 2) (s' := 12) 2 (fun n => rfl) ?_
          exact x42_r0_2_0_1_ok (g := g2) (y0 := a) (y1 := (1 : Int32)) h
def x52_r0_2_0 (g : im_M) : Option (im_T × im_M) :=
  Option.bind (x43 g (2 : Int32)) (fun q1 =>
    Sum.elim (fun z => some (.inl z, q1.2)) (fun _ =>
    Option.bind (x49 q1.2 (0 : Int32)) (fun q2 =>
      Sum.elim (fun z => some (.inl z, q2.2)) (fun _ =>
      Option.bind (x20_r19_0 q2.2 ) (fun q3 =>
        some (.inr q3.1, q3.2))) q2.1)) q1.1)
set_option maxRecDepth 100000 in
set_option maxHeartbeats 4000000 in
theorem x52_r0_2_0_ok {L : Nat} {xs : Nat → Int32} {g u mm : im_M} {o : Nat → Int64} {Y : iv_A} {ret : im_T} (h : x52_r0_2_0 g  = some (ret, mm)) : iv_ev (iv_Xs L xs) 52 0 [.ref 3, .int (2 : Int32), .int (0 : Int32)] [] (im_H g u o Y) 0 0 (im_res ret (im_H mm u o Y)) := by
  unfold x52_r0_2_0 at h
  obtain ⟨v1, g1, hc, h⟩ := iv_bd h
  cases v1 with
  | inl z =>
    have h := iv_sl h
    cases h
    exact iv_calu (mi' := 52) (pc' := 1) (ls' := [.ref 3, .int (2 : Int32), .int (0 : Int32)]) (rest := []) (A' := im_H g u o Y) (c' := 0) (s' := 0) (as := [.int (2 : Int32)]) (B := im_H g1 u o Y) 2 43 (z.val + 7) (fun n => rfl) rfl (im_zx z) rfl rfl (x43_ok (g := g) (a := (2 : Int32)) hc)
  | inr v1 =>
    have h := iv_sr h
    refine iv_cal (mi' := 52) (pc' := 1) (ls' := [.ref 3, .int (2 : Int32), .int (0 : Int32)]) (rest := []) (A' := im_H g u o Y) (c' := 0) (s' := 0) (as := [.int (2 : Int32)]) (v := none) (A'' := im_H g1 u o Y) 2 43 (fun n => rfl) rfl (x43_ok (g := g) (a := (2 : Int32)) hc) ?_
    show iv_ev (iv_Xs L xs) 52 4 [.ref 3, .int (2 : Int32), .int (0 : Int32)] [] (im_H g1 u o Y) 1 6 _
    obtain ⟨v2, g2, hc, h⟩ := iv_bd h
    cases v2 with
    | inl z =>
      have h := iv_sl h
      cases h
      exact iv_calu (mi' := 52) (pc' := 5) (ls' := [.ref 3, .int (2 : Int32), .int (0 : Int32)]) (rest := []) (A' := im_H g1 u o Y) (c' := 1) (s' := 6) (as := [.int (0 : Int32)]) (B := im_H g2 u o Y) 2 49 (z.val + 7) (fun n => rfl) rfl (im_zx z) rfl rfl (x49_ok (g := g1) (a := (0 : Int32)) hc)
    | inr v2 =>
      have h := iv_sr h
      refine iv_cal (mi' := 52) (pc' := 5) (ls' := [.ref 3, .int (2 : Int32), .int (0 : Int32)]) (rest := []) (A' := im_H g1 u o Y) (c' := 1) (s' := 6) (as := [.int (0 : Int32)]) (v := none) (A'' := im_H g2 u o Y) 2 49 (fun n => rfl) rfl (x49_ok (g := g1) (a := (0 : Int32)) hc) ?_
      show iv_ev (iv_Xs L xs) 52 8 [.ref 3, .int (2 : Int32), .int (0 : Int32)] [] (im_H g2 u o Y) 2 12 _
      obtain ⟨v3, g3, hc, h⟩ := iv_bd h
      refine iv_cal (mi' := 52) (pc' := 15) (ls' := [.ref 3, .int (2 : Int32), .int (0 : Int32)]) (rest := []) (A' := im_H g2 u o Y) (c' := 2) (s' := 12) (as := [.ref 22, .int (0 : Int32)]) (v := some (.int v3)) (A'' := im_H g3 u o Y) 6 20 (fun n => rfl) rfl (x20_r19_0_ok (g := g2)  hc) ?_
      show iv_ev (iv_Xs L xs) 52 18 [.ref 3, .int (2 : Int32), .int (0 : Int32)] [.int v3] (im_H g3 u o Y) 2 12 _
      cases h
      exact iv_ret 1 (fun n => rfl)
def x60_r0_2_0_1 (g : im_M) (y0 : Int32) : Option (im_T × im_M) :=
  Option.bind (x55 g y0) (fun q3 =>
    Sum.elim (fun z => some (.inl z, q3.2)) (fun _ =>
    Option.bind (x61_r8 q3.2 (2 : Int32) (0 : Int32)) (fun q4 =>
      some (.inr 0, q4.2))) q3.1)
set_option maxRecDepth 100000 in
set_option maxHeartbeats 4000000 in
theorem x60_r0_2_0_1_ok {L : Nat} {xs : Nat → Int32} {g u mm : im_M} {o : Nat → Int64} {Y : iv_A} {y0 : Int32} {ret : im_T} (h : x60_r0_2_0_1 g y0 = some (ret, mm)) : iv_ev (iv_Xs L xs) 60 32 [.ref 3, .int (2 : Int32), .int (0 : Int32)] [.int y0] (im_H g u o Y) 2 12 (im_rev ret (im_H mm u o Y)) := by
  unfold x60_r0_2_0_1 at h
  obtain ⟨v3, g3, hc, h⟩ := iv_bd h
  cases v3 with
  | inl z =>
    have h := iv_sl h
    cases h
    exact iv_calu (mi' := 60) (pc' := 32) (ls' := [.ref 3, .int (2 : Int32), .int (0 : Int32)]) (rest := []) (A' := im_H g u o Y) (c' := 2) (s' := 12) (as := [.int y0]) (B := im_H g3 u o Y) 1 55 (z.val + 7) (fun n => rfl) rfl (im_zx z) rfl rfl (x55_ok (g := g) (a := y0) hc)
  | inr v3 =>
    have h := iv_sr h
    refine iv_cal (mi' := 60) (pc' := 32) (ls' := [.ref 3, .int (2 : Int32), .int (0 : Int32)]) (rest := []) (A' := im_H g u o Y) (c' := 2) (s' := 12) (as := [.int y0]) (v := none) (A'' := im_H g3 u o Y) 1 55 (fun n => rfl) rfl (x55_ok (g := g) (a := y0) hc) ?_
    show iv_ev (iv_Xs L xs) 60 35 [.ref 3, .int (2 : Int32), .int (0 : Int32)] [] (im_H g3 u o Y) 3 18 _
    obtain ⟨v4, g4, hc, h⟩ := iv_bd h
    refine iv_cal (mi' := 60) (pc' := 41) (ls' := [.ref 3, .int (2 : Int32), .int (0 : Int32)]) (rest := []) (A' := im_H g3 u o Y) (c' := 3) (s' := 18) (as := [.ref 11, .int (2 : Int32), .int (0 : Int32)]) (v := none) (A'' := im_H g4 u o Y) 5 61 (fun n => rfl) rfl (x61_r8_ok (g := g3) (a := (2 : Int32)) (b := (0 : Int32)) hc) ?_
    show iv_ev (iv_Xs L xs) 60 44 [.ref 3, .int (2 : Int32), .int (0 : Int32)] [] (im_H g4 u o Y) 3 18 _
    cases h
    exact iv_ret 1 (fun n => rfl)
def x60_r0_2_0 (g : im_M) : Option (im_T × im_M) :=
  Option.bind (x43 g (2 : Int32)) (fun q1 =>
    Sum.elim (fun z => some (.inl z, q1.2)) (fun _ =>
    Option.bind (x49 q1.2 (0 : Int32)) (fun q2 =>
      Sum.elim (fun z => some (.inl z, q2.2)) (fun _ =>
      bif Op.if_icmp.holds .ne (q2.2 8 0) (-1 : Int32) then
        (x60_r0_2_0_1 q2.2 (0 : Int32))
      else
        (bif Op.if_icmp.holds .eq (q2.2 0 6) (2 : Int32) then
          (x60_r0_2_0_1 q2.2 (0 : Int32))
        else
          (x60_r0_2_0_1 q2.2 (1 : Int32)))) q2.1)) q1.1)
set_option maxRecDepth 100000 in
set_option maxHeartbeats 4000000 in
theorem x60_r0_2_0_ok {L : Nat} {xs : Nat → Int32} {g u mm : im_M} {o : Nat → Int64} {Y : iv_A} {ret : im_T} (h : x60_r0_2_0 g  = some (ret, mm)) : iv_ev (iv_Xs L xs) 60 0 [.ref 3, .int (2 : Int32), .int (0 : Int32)] [] (im_H g u o Y) 0 0 (im_rev ret (im_H mm u o Y)) := by
  unfold x60_r0_2_0 at h
  obtain ⟨v1, g1, hc, h⟩ := iv_bd h
  cases v1 with
  | inl z =>
    have h := iv_sl h
    cases h
    exact iv_calu (mi' := 60) (pc' := 1) (ls' := [.ref 3, .int (2 : Int32), .int (0 : Int32)]) (rest := []) (A' := im_H g u o Y) (c' := 0) (s' := 0) (as := [.int (2 : Int32)]) (B := im_H g1 u o Y) 2 43 (z.val + 7) (fun n => rfl) rfl (im_zx z) rfl rfl (x43_ok (g := g) (a := (2 : Int32)) hc)
  | inr v1 =>
    have h := iv_sr h
    refine iv_cal (mi' := 60) (pc' := 1) (ls' := [.ref 3, .int (2 : Int32), .int (0 : Int32)]) (rest := []) (A' := im_H g u o Y) (c' := 0) (s' := 0) (as := [.int (2 : Int32)]) (v := none) (A'' := im_H g1 u o Y) 2 43 (fun n => rfl) rfl (x43_ok (g := g) (a := (2 : Int32)) hc) ?_
    show iv_ev (iv_Xs L xs) 60 4 [.ref 3, .int (2 : Int32), .int (0 : Int32)] [] (im_H g1 u o Y) 1 6 _
    obtain ⟨v2, g2, hc, h⟩ := iv_bd h
    cases v2 with
    | inl z =>
      have h := iv_sl h
      cases h
      exact iv_calu (mi' := 60) (pc' := 5) (ls' := [.ref 3, .int (2 : Int32), .int (0 : Int32)]) (rest := []) (A' := im_H g1 u o Y) (c' := 1) (s' := 6) (as := [.int (0 : Int32)]) (B := im_H g2 u o Y) 2 49 (z.val + 7) (fun n => rfl) rfl (im_zx z) rfl rfl (x49_ok (g := g1) (a := (0 : Int32)) hc)
    | inr v2 =>
      have h := iv_sr h
      refine iv_cal (mi' := 60) (pc' := 5) (ls' := [.ref 3, .int (2 : Int32), .int (0 : Int32)]) (rest := []) (A' := im_H g1 u o Y) (c' := 1) (s' := 6) (as := [.int (0 : Int32)]) (v := none) (A'' := im_H g2 u o Y) 2 49 (fun n => rfl) rfl (x49_ok (g := g1) (a := (0 : Int32)) hc) ?_
      show iv_ev (iv_Xs L xs) 60 8 [.ref 3, .int (2 : Int32), .int (0 : Int32)] [] (im_H g2 u o Y) 2 12 _
      cases hb1 : Op.if_icmp.holds .ne (g2 8 0) (-1 : Int32) with
      | true =>
        have h := iv_bt hb1 h
        refine iv_brt (mi' := 60) (pc' := 31) (ls' := [.ref 3, .int (2 : Int32), .int (0 : Int32)]) (st' := []) (A' := im_H g2 u o Y) (c' := 2) (s' := 12) (mi'' := 60) (pc'' := 19) (ls'' := [.ref 3, .int (2 : Int32), .int (0 : Int32)]) (st'' := []) (A'' := im_H g2 u o Y) (c'' := 2) (s'' := 12) 5 0 0 hb1 (fun n => rfl) ?_
        refine iv_blk (mi' := 60) (pc' := 32) (ls' := [.ref 3, .int (2 : Int32), .int (0 : Int32)]) (st' := [.int (0 : Int32)]) (A' := im_H g2 u o Y) (c' := 2) (s' := 12) 1 (fun n => rfl) ?_
        exact x60_r0_2_0_1_ok (g := g2) (y0 := (0 : Int32)) h
      | false =>
        have h := iv_bf hb1 h
        refine iv_brf (mi' := 60) (pc' := 31) (ls' := [.ref 3, .int (2 : Int32), .int (0 : Int32)]) (st' := []) (A' := im_H g2 u o Y) (c' := 2) (s' := 12) (mi'' := 60) (pc'' := 19) (ls'' := [.ref 3, .int (2 : Int32), .int (0 : Int32)]) (st'' := []) (A'' := im_H g2 u o Y) (c'' := 2) (s'' := 12) 5 0 0 hb1 (fun n => rfl) ?_
        cases hb2 : Op.if_icmp.holds .eq (g2 0 6) (2 : Int32) with
        | true =>
          have h := iv_bt hb2 h
          refine iv_brt (mi' := 60) (pc' := 31) (ls' := [.ref 3, .int (2 : Int32), .int (0 : Int32)]) (st' := []) (A' := im_H g2 u o Y) (c' := 2) (s' := 12) (mi'' := 60) (pc'' := 27) (ls'' := [.ref 3, .int (2 : Int32), .int (0 : Int32)]) (st'' := []) (A'' := im_H g2 u o Y) (c'' := 2) (s'' := 12) 4 0 0 hb2 (fun n => rfl) ?_
          refine iv_blk (mi' := 60) (pc' := 32) (ls' := [.ref 3, .int (2 : Int32), .int (0 : Int32)]) (st' := [.int (0 : Int32)]) (A' := im_H g2 u o Y) (c' := 2) (s' := 12) 1 (fun n => rfl) ?_
          exact x60_r0_2_0_1_ok (g := g2) (y0 := (0 : Int32)) h
        | false =>
          have h := iv_bf hb2 h
          refine iv_brf (mi' := 60) (pc' := 31) (ls' := [.ref 3, .int (2 : Int32), .int (0 : Int32)]) (st' := []) (A' := im_H g2 u o Y) (c' := 2) (s' := 12) (mi'' := 60) (pc'' := 27) (ls'' := [.ref 3, .int (2 : Int32), .int (0 : Int32)]) (st'' := []) (A'' := im_H g2 u o Y) (c'' := 2) (s'' := 12) 4 0 0 hb2 (fun n => rfl) ?_
          refine iv_blk (mi' := 60) (pc' := 32) (ls' := [.ref 3, .int (2 : Int32), .int (0 : Int32)]) (st' := [.int (1 : Int32)]) (A' := im_H g2 u o Y) (c' := 2) (s' := 12) 2 (fun n => rfl) ?_
          exact x60_r0_2_0_1_ok (g := g2) (y0 := (1 : Int32)) h
def x42_r0_2_1_1 (g : im_M) (y0 : Int32) (y1 : Int32) : Option (im_T × im_M) :=
  Option.bind (x44 g y1) (fun q3 =>
    Sum.elim (fun z => some (.inl z, q3.2)) (fun _ =>
    Option.bind (x50_r19_1 q3.2 y0) (fun q4 =>
      some (.inr 0, q4.2))) q3.1)
set_option maxRecDepth 100000 in
set_option maxHeartbeats 4000000 in
theorem x42_r0_2_1_1_ok {L : Nat} {xs : Nat → Int32} {g u mm : im_M} {o : Nat → Int64} {Y : iv_A} {y0 y1 : Int32} {ret : im_T} (h : x42_r0_2_1_1 g y0 y1 = some (ret, mm)) : iv_ev (iv_Xs L xs) 42 24 [.ref 3, .int (2 : Int32), .int (1 : Int32), .int y0] [.int y1] (im_H g u o Y) 2 12 (im_rev ret (im_H mm u o Y)) := by
  unfold x42_r0_2_1_1 at h
  obtain ⟨v3, g3, hc, h⟩ := iv_bd h
  cases v3 with
  | inl z =>
    have h := iv_sl h
    cases h
    exact iv_calu (mi' := 42) (pc' := 24) (ls' := [.ref 3, .int (2 : Int32), .int (1 : Int32), .int y0]) (rest := []) (A' := im_H g u o Y) (c' := 2) (s' := 12) (as := [.int y1]) (B := im_H g3 u o Y) 1 44 (z.val + 7) (fun n => rfl) rfl (im_zx z) rfl rfl (x44_ok (g := g) (a := y1) hc)
  | inr v3 =>
    have h := iv_sr h
    refine iv_cal (mi' := 42) (pc' := 24) (ls' := [.ref 3, .int (2 : Int32), .int (1 : Int32), .int y0]) (rest := []) (A' := im_H g u o Y) (c' := 2) (s' := 12) (as := [.int y1]) (v := none) (A'' := im_H g3 u o Y) 1 44 (fun n => rfl) rfl (x44_ok (g := g) (a := y1) hc) ?_
    show iv_ev (iv_Xs L xs) 42 27 [.ref 3, .int (2 : Int32), .int (1 : Int32), .int y0] [] (im_H g3 u o Y) 3 18 _
    obtain ⟨v4, g4, hc, h⟩ := iv_bd h
    refine iv_cal (mi' := 42) (pc' := 35) (ls' := [.ref 3, .int (2 : Int32), .int (1 : Int32), .int y0]) (rest := []) (A' := im_H g3 u o Y) (c' := 3) (s' := 18) (as := [.ref 22, .int (1 : Int32), .int y0]) (v := none) (A'' := im_H g4 u o Y) 7 50 (fun n => rfl) rfl (x50_r19_1_ok (g := g3) (a := y0) hc) ?_
    show iv_ev (iv_Xs L xs) 42 38 [.ref 3, .int (2 : Int32), .int (1 : Int32), .int y0] [] (im_H g4 u o Y) 3 18 _
    cases h
    exact iv_ret 1 (fun n => rfl)
def x42_r0_2_1 (g : im_M) (a : Int32) : Option (im_T × im_M) :=
  Option.bind (x43 g (2 : Int32)) (fun q1 =>
    Sum.elim (fun z => some (.inl z, q1.2)) (fun _ =>
    Option.bind (x49 q1.2 (1 : Int32)) (fun q2 =>
      Sum.elim (fun z => some (.inl z, q2.2)) (fun _ =>
      bif Op.ifCond.holds .lt a then
        (x42_r0_2_1_1 q2.2 a (0 : Int32))
      else
        (bif Op.if_icmp.holds .gt a (4095 : Int32) then
          (x42_r0_2_1_1 q2.2 a (0 : Int32))
        else
          (x42_r0_2_1_1 q2.2 a (1 : Int32)))) q2.1)) q1.1)
set_option maxRecDepth 100000 in
set_option maxHeartbeats 4000000 in
theorem x42_r0_2_1_ok {L : Nat} {xs : Nat → Int32} {g u mm : im_M} {o : Nat → Int64} {Y : iv_A} {a : Int32} {ret : im_T} (h : x42_r0_2_1 g a = some (ret, mm)) : iv_ev (iv_Xs L xs) 42 0 [.ref 3, .int (2 : Int32), .int (1 : Int32), .int a] [] (im_H g u o Y) 0 0 (im_rev ret (im_H mm u o Y)) := by
  unfold x42_r0_2_1 at h
  obtain ⟨v1, g1, hc, h⟩ := iv_bd h
  cases v1 with
  | inl z =>
    have h := iv_sl h
    cases h
    exact iv_calu (mi' := 42) (pc' := 1) (ls' := [.ref 3, .int (2 : Int32), .int (1 : Int32), .int a]) (rest := []) (A' := im_H g u o Y) (c' := 0) (s' := 0) (as := [.int (2 : Int32)]) (B := im_H g1 u o Y) 2 43 (z.val + 7) (fun n => rfl) rfl (im_zx z) rfl rfl (x43_ok (g := g) (a := (2 : Int32)) hc)
  | inr v1 =>
    have h := iv_sr h
    refine iv_cal (mi' := 42) (pc' := 1) (ls' := [.ref 3, .int (2 : Int32), .int (1 : Int32), .int a]) (rest := []) (A' := im_H g u o Y) (c' := 0) (s' := 0) (as := [.int (2 : Int32)]) (v := none) (A'' := im_H g1 u o Y) 2 43 (fun n => rfl) rfl (x43_ok (g := g) (a := (2 : Int32)) hc) ?_
    show iv_ev (iv_Xs L xs) 42 4 [.ref 3, .int (2 : Int32), .int (1 : Int32), .int a] [] (im_H g1 u o Y) 1 6 _
    obtain ⟨v2, g2, hc, h⟩ := iv_bd h
    cases v2 with
    | inl z =>
      have h := iv_sl h
      cases h
      exact iv_calu (mi' := 42) (pc' := 5) (ls' := [.ref 3, .int (2 : Int32), .int (1 : Int32), .int a]) (rest := []) (A' := im_H g1 u o Y) (c' := 1) (s' := 6) (as := [.int (1 : Int32)]) (B := im_H g2 u o Y) 2 49 (z.val + 7) (fun n => rfl) rfl (im_zx z) rfl rfl (x49_ok (g := g1) (a := (1 : Int32)) hc)
    | inr v2 =>
      have h := iv_sr h
      refine iv_cal (mi' := 42) (pc' := 5) (ls' := [.ref 3, .int (2 : Int32), .int (1 : Int32), .int a]) (rest := []) (A' := im_H g1 u o Y) (c' := 1) (s' := 6) (as := [.int (1 : Int32)]) (v := none) (A'' := im_H g2 u o Y) 2 49 (fun n => rfl) rfl (x49_ok (g := g1) (a := (1 : Int32)) hc) ?_
      show iv_ev (iv_Xs L xs) 42 8 [.ref 3, .int (2 : Int32), .int (1 : Int32), .int a] [] (im_H g2 u o Y) 2 12 _
      cases hb1 : Op.ifCond.holds .lt a with
      | true =>
        have h := iv_bt hb1 h
        refine iv_brt (mi' := 42) (pc' := 23) (ls' := [.ref 3, .int (2 : Int32), .int (1 : Int32), .int a]) (st' := []) (A' := im_H g2 u o Y) (c' := 2) (s' := 12) (mi'' := 42) (pc'' := 12) (ls'' := [.ref 3, .int (2 : Int32), .int (1 : Int32), .int a]) (st'' := []) (A'' := im_H g2 u o Y) (c'' := 2) (s'' := 12) 2 0 0 hb1 (fun n => rfl) ?_
        refine iv_blk (mi' := 42) (pc' := 24) (ls' := [.ref 3, .int (2 : Int32), .int (1 : Int32), .int a]) (st' := [.int (0 : Int32)]) (A' := im_H g2 u o Y) (c' := 2) (s' := 12) 1 (fun n => rfl) ?_
        exact x42_r0_2_1_1_ok (g := g2) (y0 := a) (y1 := (0 : Int32)) h
      | false =>
        have h := iv_bf hb1 h
        refine iv_brf (mi' := 42) (pc' := 23) (ls' := [.ref 3, .int (2 : Int32), .int (1 : Int32), .int a]) (st' := []) (A' := im_H g2 u o Y) (c' := 2) (s' := 12) (mi'' := 42) (pc'' := 12) (ls'' := [.ref 3, .int (2 : Int32), .int (1 : Int32), .int a]) (st'' := []) (A'' := im_H g2 u o Y) (c'' := 2) (s'' := 12) 2 0 0 hb1 (fun n => rfl) ?_
        cases hb2 : Op.if_icmp.holds .gt a (4095 : Int32) with
        | true =>
          have h := iv_bt hb2 h
          refine iv_brt (mi' := 42) (pc' := 23) (ls' := [.ref 3, .int (2 : Int32), .int (1 : Int32), .int a]) (st' := []) (A' := im_H g2 u o Y) (c' := 2) (s' := 12) (mi'' := 42) (pc'' := 19) (ls'' := [.ref 3, .int (2 : Int32), .int (1 : Int32), .int a]) (st'' := []) (A'' := im_H g2 u o Y) (c'' := 2) (s'' := 12) 3 0 0 hb2 (fun n => rfl) ?_
          refine iv_blk (mi' := 42) (pc' := 24) (ls' := [.ref 3, .int (2 : Int32), .int (1 : Int32), .int a]) (st' := [.int (0 : Int32)]) (A' := im_H g2 u o Y) (c' := 2) (s' := 12) 1 (fun n => rfl) ?_
          exact x42_r0_2_1_1_ok (g := g2) (y0 := a) (y1 := (0 : Int32)) h
        | false =>
          have h := iv_bf hb2 h
          refine iv_brf (mi' := 42) (pc' := 23) (ls' := [.ref 3, .int (2 : Int32), .int (1 : Int32), .int a]) (st' := []) (A' := im_H g2 u o Y) (c' := 2) (s' := 12) (mi'' := 42) (pc'' := 19) (ls'' := [.ref 3, .int (2 : Int32), .int (1 : Int32), .int a]) (st'' := []) (A'' := im_H g2 u o Y) (c'' := 2) (s'' := 12) 3 0 0 hb2 (fun n => rfl) ?_
          refine iv_blk (mi' := 42) (pc' := 24) (ls' := [.ref 3, .int (2 : Int32), .int (1 : Int32), .int a]) (st' := [.int (1 : Int32)]) (A' := im_H g2 u o Y) (c' := 2) (s' := 12) 2 (fun n => rfl) ?_
          exact x42_r0_2_1_1_ok (g := g2) (y0 := a) (y1 := (1 : Int32)) h
def x52_r0_2_1 (g : im_M) : Option (im_T × im_M) :=
  Option.bind (x43 g (2 : Int32)) (fun q1 =>
    Sum.elim (fun z => some (.inl z, q1.2)) (fun _ =>
    Option.bind (x49 q1.2 (1 : Int32)) (fun q2 =>
      Sum.elim (fun z => some (.inl z, q2.2)) (fun _ =>
      Option.bind (x20_r19_1 q2.2 ) (fun q3 =>
        some (.inr q3.1, q3.2))) q2.1)) q1.1)
set_option maxRecDepth 100000 in
set_option maxHeartbeats 4000000 in
theorem x52_r0_2_1_ok {L : Nat} {xs : Nat → Int32} {g u mm : im_M} {o : Nat → Int64} {Y : iv_A} {ret : im_T} (h : x52_r0_2_1 g  = some (ret, mm)) : iv_ev (iv_Xs L xs) 52 0 [.ref 3, .int (2 : Int32), .int (1 : Int32)] [] (im_H g u o Y) 0 0 (im_res ret (im_H mm u o Y)) := by
  unfold x52_r0_2_1 at h
  obtain ⟨v1, g1, hc, h⟩ := iv_bd h
  cases v1 with
  | inl z =>
    have h := iv_sl h
    cases h
    exact iv_calu (mi' := 52) (pc' := 1) (ls' := [.ref 3, .int (2 : Int32), .int (1 : Int32)]) (rest := []) (A' := im_H g u o Y) (c' := 0) (s' := 0) (as := [.int (2 : Int32)]) (B := im_H g1 u o Y) 2 43 (z.val + 7) (fun n => rfl) rfl (im_zx z) rfl rfl (x43_ok (g := g) (a := (2 : Int32)) hc)
  | inr v1 =>
    have h := iv_sr h
    refine iv_cal (mi' := 52) (pc' := 1) (ls' := [.ref 3, .int (2 : Int32), .int (1 : Int32)]) (rest := []) (A' := im_H g u o Y) (c' := 0) (s' := 0) (as := [.int (2 : Int32)]) (v := none) (A'' := im_H g1 u o Y) 2 43 (fun n => rfl) rfl (x43_ok (g := g) (a := (2 : Int32)) hc) ?_
    show iv_ev (iv_Xs L xs) 52 4 [.ref 3, .int (2 : Int32), .int (1 : Int32)] [] (im_H g1 u o Y) 1 6 _
    obtain ⟨v2, g2, hc, h⟩ := iv_bd h
    cases v2 with
    | inl z =>
      have h := iv_sl h
      cases h
      exact iv_calu (mi' := 52) (pc' := 5) (ls' := [.ref 3, .int (2 : Int32), .int (1 : Int32)]) (rest := []) (A' := im_H g1 u o Y) (c' := 1) (s' := 6) (as := [.int (1 : Int32)]) (B := im_H g2 u o Y) 2 49 (z.val + 7) (fun n => rfl) rfl (im_zx z) rfl rfl (x49_ok (g := g1) (a := (1 : Int32)) hc)
    | inr v2 =>
      have h := iv_sr h
      refine iv_cal (mi' := 52) (pc' := 5) (ls' := [.ref 3, .int (2 : Int32), .int (1 : Int32)]) (rest := []) (A' := im_H g1 u o Y) (c' := 1) (s' := 6) (as := [.int (1 : Int32)]) (v := none) (A'' := im_H g2 u o Y) 2 49 (fun n => rfl) rfl (x49_ok (g := g1) (a := (1 : Int32)) hc) ?_
      show iv_ev (iv_Xs L xs) 52 8 [.ref 3, .int (2 : Int32), .int (1 : Int32)] [] (im_H g2 u o Y) 2 12 _
      obtain ⟨v3, g3, hc, h⟩ := iv_bd h
      refine iv_cal (mi' := 52) (pc' := 15) (ls' := [.ref 3, .int (2 : Int32), .int (1 : Int32)]) (rest := []) (A' := im_H g2 u o Y) (c' := 2) (s' := 12) (as := [.ref 22, .int (1 : Int32)]) (v := some (.int v3)) (A'' := im_H g3 u o Y) 6 20 (fun n => rfl) rfl (x20_r19_1_ok (g := g2)  hc) ?_
      show iv_ev (iv_Xs L xs) 52 18 [.ref 3, .int (2 : Int32), .int (1 : Int32)] [.int v3] (im_H g3 u o Y) 2 12 _
      cases h
      exact iv_ret 1 (fun n => rfl)
def x60_r0_2_1_1 (g : im_M) (y0 : Int32) : Option (im_T × im_M) :=
  Option.bind (x55 g y0) (fun q3 =>
    Sum.elim (fun z => some (.inl z, q3.2)) (fun _ =>
    Option.bind (x61_r8 q3.2 (2 : Int32) (1 : Int32)) (fun q4 =>
      some (.inr 0, q4.2))) q3.1)
set_option maxRecDepth 100000 in
set_option maxHeartbeats 4000000 in
theorem x60_r0_2_1_1_ok {L : Nat} {xs : Nat → Int32} {g u mm : im_M} {o : Nat → Int64} {Y : iv_A} {y0 : Int32} {ret : im_T} (h : x60_r0_2_1_1 g y0 = some (ret, mm)) : iv_ev (iv_Xs L xs) 60 32 [.ref 3, .int (2 : Int32), .int (1 : Int32)] [.int y0] (im_H g u o Y) 2 12 (im_rev ret (im_H mm u o Y)) := by
  unfold x60_r0_2_1_1 at h
  obtain ⟨v3, g3, hc, h⟩ := iv_bd h
  cases v3 with
  | inl z =>
    have h := iv_sl h
    cases h
    exact iv_calu (mi' := 60) (pc' := 32) (ls' := [.ref 3, .int (2 : Int32), .int (1 : Int32)]) (rest := []) (A' := im_H g u o Y) (c' := 2) (s' := 12) (as := [.int y0]) (B := im_H g3 u o Y) 1 55 (z.val + 7) (fun n => rfl) rfl (im_zx z) rfl rfl (x55_ok (g := g) (a := y0) hc)
  | inr v3 =>
    have h := iv_sr h
    refine iv_cal (mi' := 60) (pc' := 32) (ls' := [.ref 3, .int (2 : Int32), .int (1 : Int32)]) (rest := []) (A' := im_H g u o Y) (c' := 2) (s' := 12) (as := [.int y0]) (v := none) (A'' := im_H g3 u o Y) 1 55 (fun n => rfl) rfl (x55_ok (g := g) (a := y0) hc) ?_
    show iv_ev (iv_Xs L xs) 60 35 [.ref 3, .int (2 : Int32), .int (1 : Int32)] [] (im_H g3 u o Y) 3 18 _
    obtain ⟨v4, g4, hc, h⟩ := iv_bd h
    refine iv_cal (mi' := 60) (pc' := 41) (ls' := [.ref 3, .int (2 : Int32), .int (1 : Int32)]) (rest := []) (A' := im_H g3 u o Y) (c' := 3) (s' := 18) (as := [.ref 11, .int (2 : Int32), .int (1 : Int32)]) (v := none) (A'' := im_H g4 u o Y) 5 61 (fun n => rfl) rfl (x61_r8_ok (g := g3) (a := (2 : Int32)) (b := (1 : Int32)) hc) ?_
    show iv_ev (iv_Xs L xs) 60 44 [.ref 3, .int (2 : Int32), .int (1 : Int32)] [] (im_H g4 u o Y) 3 18 _
    cases h
    exact iv_ret 1 (fun n => rfl)
def x60_r0_2_1 (g : im_M) : Option (im_T × im_M) :=
  Option.bind (x43 g (2 : Int32)) (fun q1 =>
    Sum.elim (fun z => some (.inl z, q1.2)) (fun _ =>
    Option.bind (x49 q1.2 (1 : Int32)) (fun q2 =>
      Sum.elim (fun z => some (.inl z, q2.2)) (fun _ =>
      bif Op.if_icmp.holds .ne (q2.2 8 0) (-1 : Int32) then
        (x60_r0_2_1_1 q2.2 (0 : Int32))
      else
        (bif Op.if_icmp.holds .eq (q2.2 0 6) (2 : Int32) then
          (x60_r0_2_1_1 q2.2 (0 : Int32))
        else
          (x60_r0_2_1_1 q2.2 (1 : Int32)))) q2.1)) q1.1)
set_option maxRecDepth 100000 in
set_option maxHeartbeats 4000000 in
theorem x60_r0_2_1_ok {L : Nat} {xs : Nat → Int32} {g u mm : im_M} {o : Nat → Int64} {Y : iv_A} {ret : im_T} (h : x60_r0_2_1 g  = some (ret, mm)) : iv_ev (iv_Xs L xs) 60 0 [.ref 3, .int (2 : Int32), .int (1 : Int32)] [] (im_H g u o Y) 0 0 (im_rev ret (im_H mm u o Y)) := by
  unfold x60_r0_2_1 at h
  obtain ⟨v1, g1, hc, h⟩ := iv_bd h
  cases v1 with
  | inl z =>
    have h := iv_sl h
    cases h
    exact iv_calu (mi' := 60) (pc' := 1) (ls' := [.ref 3, .int (2 : Int32), .int (1 : Int32)]) (rest := []) (A' := im_H g u o Y) (c' := 0) (s' := 0) (as := [.int (2 : Int32)]) (B := im_H g1 u o Y) 2 43 (z.val + 7) (fun n => rfl) rfl (im_zx z) rfl rfl (x43_ok (g := g) (a := (2 : Int32)) hc)
  | inr v1 =>
    have h := iv_sr h
    refine iv_cal (mi' := 60) (pc' := 1) (ls' := [.ref 3, .int (2 : Int32), .int (1 : Int32)]) (rest := []) (A' := im_H g u o Y) (c' := 0) (s' := 0) (as := [.int (2 : Int32)]) (v := none) (A'' := im_H g1 u o Y) 2 43 (fun n => rfl) rfl (x43_ok (g := g) (a := (2 : Int32)) hc) ?_
    show iv_ev (iv_Xs L xs) 60 4 [.ref 3, .int (2 : Int32), .int (1 : Int32)] [] (im_H g1 u o Y) 1 6 _
    obtain ⟨v2, g2, hc, h⟩ := iv_bd h
    cases v2 with
    | inl z =>
      have h := iv_sl h
      cases h
      exact iv_calu (mi' := 60) (pc' := 5) (ls' := [.ref 3, .int (2 : Int32), .int (1 : Int32)]) (rest := []) (A' := im_H g1 u o Y) (c' := 1) (s' := 6) (as := [.int (1 : Int32)]) (B := im_H g2 u o Y) 2 49 (z.val + 7) (fun n => rfl) rfl (im_zx z) rfl rfl (x49_ok (g := g1) (a := (1 : Int32)) hc)
    | inr v2 =>
      have h := iv_sr h
      refine iv_cal (mi' := 60) (pc' := 5) (ls' := [.ref 3, .int (2 : Int32), .int (1 : Int32)]) (rest := []) (A' := im_H g1 u o Y) (c' := 1) (s' := 6) (as := [.int (1 : Int32)]) (v := none) (A'' := im_H g2 u o Y) 2 49 (fun n => rfl) rfl (x49_ok (g := g1) (a := (1 : Int32)) hc) ?_
      show iv_ev (iv_Xs L xs) 60 8 [.ref 3, .int (2 : Int32), .int (1 : Int32)] [] (im_H g2 u o Y) 2 12 _
      cases hb1 : Op.if_icmp.holds .ne (g2 8 0) (-1 : Int32) with
      | true =>
        have h := iv_bt hb1 h
        refine iv_brt (mi' := 60) (pc' := 31) (ls' := [.ref 3, .int (2 : Int32), .int (1 : Int32)]) (st' := []) (A' := im_H g2 u o Y) (c' := 2) (s' := 12) (mi'' := 60) (pc'' := 19) (ls'' := [.ref 3, .int (2 : Int32), .int (1 : Int32)]) (st'' := []) (A'' := im_H g2 u o Y) (c'' := 2) (s'' := 12) 5 0 0 hb1 (fun n => rfl) ?_
        refine iv_blk (mi' := 60) (pc' := 32) (ls' := [.ref 3, .int (2 : Int32), .int (1 : Int32)]) (st' := [.int (0 : Int32)]) (A' := im_H g2 u o Y) (c' := 2) (s' := 12) 1 (fun n => rfl) ?_
        exact x60_r0_2_1_1_ok (g := g2) (y0 := (0 : Int32)) h
      | false =>
        have h := iv_bf hb1 h
        refine iv_brf (mi' := 60) (pc' := 31) (ls' := [.ref 3, .int (2 : Int32), .int (1 : Int32)]) (st' := []) (A' := im_H g2 u o Y) (c' := 2) (s' := 12) (mi'' := 60) (pc'' := 19) (ls'' := [.ref 3, .int (2 : Int32), .int (1 : Int32)]) (st'' := []) (A'' := im_H g2 u o Y) (c'' := 2) (s'' := 12) 5 0 0 hb1 (fun n => rfl) ?_
        cases hb2 : Op.if_icmp.holds .eq (g2 0 6) (2 : Int32) with
        | true =>
          have h := iv_bt hb2 h
          refine iv_brt (mi' := 60) (pc' := 31) (ls' := [.ref 3, .int (2 : Int32), .int (1 : Int32)]) (st' := []) (A' := im_H g2 u o Y) (c' := 2) (s' := 12) (mi'' := 60) (pc'' := 27) (ls'' := [.ref 3, .int (2 : Int32), .int (1 : Int32)]) (st'' := []) (A'' := im_H g2 u o Y) (c'' := 2) (s'' := 12) 4 0 0 hb2 (fun n => rfl) ?_
          refine iv_blk (mi' := 60) (pc' := 32) (ls' := [.ref 3, .int (2 : Int32), .int (1 : Int32)]) (st' := [.int (0 : Int32)]) (A' := im_H g2 u o Y) (c' := 2) (s' := 12) 1 (fun n => rfl) ?_
          exact x60_r0_2_1_1_ok (g := g2) (y0 := (0 : Int32)) h
        | false =>
          have h := iv_bf hb2 h
          refine iv_brf (mi' := 60) (pc' := 31) (ls' := [.ref 3, .int (2 : Int32), .int (1 : Int32)]) (st' := []) (A' := im_H g2 u o Y) (c' := 2) (s' := 12) (mi'' := 60) (pc'' := 27) (ls'' := [.ref 3, .int (2 : Int32), .int (1 : Int32)]) (st'' := []) (A'' := im_H g2 u o Y) (c'' := 2) (s'' := 12) 4 0 0 hb2 (fun n => rfl) ?_
          refine iv_blk (mi' := 60) (pc' := 32) (ls' := [.ref 3, .int (2 : Int32), .int (1 : Int32)]) (st' := [.int (1 : Int32)]) (A' := im_H g2 u o Y) (c' := 2) (s' := 12) 2 (fun n => rfl) ?_
          exact x60_r0_2_1_1_ok (g := g2) (y0 := (1 : Int32)) h
def x42_r0_2_2_1 (g : im_M) (y0 : Int32) (y1 : Int32) : Option (im_T × im_M) :=
  Option.bind (x44 g y1) (fun q3 =>
    Sum.elim (fun z => some (.inl z, q3.2)) (fun _ =>
    Option.bind (x50_r19_2 q3.2 y0) (fun q4 =>
      some (.inr 0, q4.2))) q3.1)
set_option maxRecDepth 100000 in
set_option maxHeartbeats 4000000 in
theorem x42_r0_2_2_1_ok {L : Nat} {xs : Nat → Int32} {g u mm : im_M} {o : Nat → Int64} {Y : iv_A} {y0 y1 : Int32} {ret : im_T} (h : x42_r0_2_2_1 g y0 y1 = some (ret, mm)) : iv_ev (iv_Xs L xs) 42 24 [.ref 3, .int (2 : Int32), .int (2 : Int32), .int y0] [.int y1] (im_H g u o Y) 2 12 (im_rev ret (im_H mm u o Y)) := by
  unfold x42_r0_2_2_1 at h
  obtain ⟨v3, g3, hc, h⟩ := iv_bd h
  cases v3 with
  | inl z =>
    have h := iv_sl h
    cases h
    exact iv_calu (mi' := 42) (pc' := 24) (ls' := [.ref 3, .int (2 : Int32), .int (2 : Int32), .int y0]) (rest := []) (A' := im_H g u o Y) (c' := 2) (s' := 12) (as := [.int y1]) (B := im_H g3 u o Y) 1 44 (z.val + 7) (fun n => rfl) rfl (im_zx z) rfl rfl (x44_ok (g := g) (a := y1) hc)
  | inr v3 =>
    have h := iv_sr h
    refine iv_cal (mi' := 42) (pc' := 24) (ls' := [.ref 3, .int (2 : Int32), .int (2 : Int32), .int y0]) (rest := []) (A' := im_H g u o Y) (c' := 2) (s' := 12) (as := [.int y1]) (v := none) (A'' := im_H g3 u o Y) 1 44 (fun n => rfl) rfl (x44_ok (g := g) (a := y1) hc) ?_
    show iv_ev (iv_Xs L xs) 42 27 [.ref 3, .int (2 : Int32), .int (2 : Int32), .int y0] [] (im_H g3 u o Y) 3 18 _
    obtain ⟨v4, g4, hc, h⟩ := iv_bd h
    refine iv_cal (mi' := 42) (pc' := 35) (ls' := [.ref 3, .int (2 : Int32), .int (2 : Int32), .int y0]) (rest := []) (A' := im_H g3 u o Y) (c' := 3) (s' := 18) (as := [.ref 22, .int (2 : Int32), .int y0]) (v := none) (A'' := im_H g4 u o Y) 7 50 (fun n => rfl) rfl (x50_r19_2_ok (g := g3) (a := y0) hc) ?_
    show iv_ev (iv_Xs L xs) 42 38 [.ref 3, .int (2 : Int32), .int (2 : Int32), .int y0] [] (im_H g4 u o Y) 3 18 _
    cases h
    exact iv_ret 1 (fun n => rfl)
def x42_r0_2_2 (g : im_M) (a : Int32) : Option (im_T × im_M) :=
  Option.bind (x43 g (2 : Int32)) (fun q1 =>
    Sum.elim (fun z => some (.inl z, q1.2)) (fun _ =>
    Option.bind (x49 q1.2 (2 : Int32)) (fun q2 =>
      Sum.elim (fun z => some (.inl z, q2.2)) (fun _ =>
      bif Op.ifCond.holds .lt a then
        (x42_r0_2_2_1 q2.2 a (0 : Int32))
      else
        (bif Op.if_icmp.holds .gt a (4095 : Int32) then
          (x42_r0_2_2_1 q2.2 a (0 : Int32))
        else
          (x42_r0_2_2_1 q2.2 a (1 : Int32)))) q2.1)) q1.1)
set_option maxRecDepth 100000 in
set_option maxHeartbeats 4000000 in
theorem x42_r0_2_2_ok {L : Nat} {xs : Nat → Int32} {g u mm : im_M} {o : Nat → Int64} {Y : iv_A} {a : Int32} {ret : im_T} (h : x42_r0_2_2 g a = some (ret, mm)) : iv_ev (iv_Xs L xs) 42 0 [.ref 3, .int (2 : Int32), .int (2 : Int32), .int a] [] (im_H g u o Y) 0 0 (im_rev ret (im_H mm u o Y)) := by
  unfold x42_r0_2_2 at h
  obtain ⟨v1, g1, hc, h⟩ := iv_bd h
  cases v1 with
  | inl z =>
    have h := iv_sl h
    cases h
    exact iv_calu (mi' := 42) (pc' := 1) (ls' := [.ref 3, .int (2 : Int32), .int (2 : Int32), .int a]) (rest := []) (A' := im_H g u o Y) (c' := 0) (s' := 0) (as := [.int (2 : Int32)]) (B := im_H g1 u o Y) 2 43 (z.val + 7) (fun n => rfl) rfl (im_zx z) rfl rfl (x43_ok (g := g) (a := (2 : Int32)) hc)
  | inr v1 =>
    have h := iv_sr h
    refine iv_cal (mi' := 42) (pc' := 1) (ls' := [.ref 3, .int (2 : Int32), .int (2 : Int32), .int a]) (rest := []) (A' := im_H g u o Y) (c' := 0) (s' := 0) (as := [.int (2 : Int32)]) (v := none) (A'' := im_H g1 u o Y) 2 43 (fun n => rfl) rfl (x43_ok (g := g) (a := (2 : Int32)) hc) ?_
    show iv_ev (iv_Xs L xs) 42 4 [.ref 3, .int (2 : Int32), .int (2 : Int32), .int a] [] (im_H g1 u o Y) 1 6 _
    obtain ⟨v2, g2, hc, h⟩ := iv_bd h
    cases v2 with
    | inl z =>
      have h := iv_sl h
      cases h
      exact iv_calu (mi' := 42) (pc' := 5) (ls' := [.ref 3, .int (2 : Int32), .int (2 : Int32), .int a]) (rest := []) (A' := im_H g1 u o Y) (c' := 1) (s' := 6) (as := [.int (2 : Int32)]) (B := im_H g2 u o Y) 2 49 (z.val + 7) (fun n => rfl) rfl (im_zx z) rfl rfl (x49_ok (g := g1) (a := (2 : Int32)) hc)
    | inr v2 =>
      have h := iv_sr h
      refine iv_cal (mi' := 42) (pc' := 5) (ls' := [.ref 3, .int (2 : Int32), .int (2 : Int32), .int a]) (rest := []) (A' := im_H g1 u o Y) (c' := 1) (s' := 6) (as := [.int (2 : Int32)]) (v := none) (A'' := im_H g2 u o Y) 2 49 (fun n => rfl) rfl (x49_ok (g := g1) (a := (2 : Int32)) hc) ?_
      show iv_ev (iv_Xs L xs) 42 8 [.ref 3, .int (2 : Int32), .int (2 : Int32), .int a] [] (im_H g2 u o Y) 2 12 _
      cases hb1 : Op.ifCond.holds .lt a with
      | true =>
        have h := iv_bt hb1 h
        refine iv_brt (mi' := 42) (pc' := 23) (ls' := [.ref 3, .int (2 : Int32), .int (2 : Int32), .int a]) (st' := []) (A' := im_H g2 u o Y) (c' := 2) (s' := 12) (mi'' := 42) (pc'' := 12) (ls'' := [.ref 3, .int (2 : Int32), .int (2 : Int32), .int a]) (st'' := []) (A'' := im_H g2 u o Y) (c'' := 2) (s'' := 12) 2 0 0 hb1 (fun n => rfl) ?_
        refine iv_blk (mi' := 42) (pc' := 24) (ls' := [.ref 3, .int (2 : Int32), .int (2 : Int32), .int a]) (st' := [.int (0 : Int32)]) (A' := im_H g2 u o Y) (c' := 2) (s' := 12) 1 (fun n => rfl) ?_
        exact x42_r0_2_2_1_ok (g := g2) (y0 := a) (y1 := (0 : Int32)) h
      | false =>
        have h := iv_bf hb1 h
        refine iv_brf (mi' := 42) (pc' := 23) (ls' := [.ref 3, .int (2 : Int32), .int (2 : Int32), .int a]) (st' := []) (A' := im_H g2 u o Y) (c' := 2) (s' := 12) (mi'' := 42) (pc'' := 12) (ls'' := [.ref 3, .int (2 : Int32), .int (2 : Int32), .int a]) (st'' := []) (A'' := im_H g2 u o Y) (c'' := 2) (s'' := 12) 2 0 0 hb1 (fun n => rfl) ?_
        cases hb2 : Op.if_icmp.holds .gt a (4095 : Int32) with
        | true =>
          have h := iv_bt hb2 h
          refine iv_brt (mi' := 42) (pc' := 23) (ls' := [.ref 3, .int (2 : Int32), .int (2 : Int32), .int a]) (st' := []) (A' := im_H g2 u o Y) (c' := 2) (s' := 12) (mi'' := 42) (pc'' := 19) (ls'' := [.ref 3, .int (2 : Int32), .int (2 : Int32), .int a]) (st'' := []) (A'' := im_H g2 u o Y) (c'' := 2) (s'' := 12) 3 0 0 hb2 (fun n => rfl) ?_
          refine iv_blk (mi' := 42) (pc' := 24) (ls' := [.ref 3, .int (2 : Int32), .int (2 : Int32), .int a]) (st' := [.int (0 : Int32)]) (A' := im_H g2 u o Y) (c' := 2) (s' := 12) 1 (fun n => rfl) ?_
          exact x42_r0_2_2_1_ok (g := g2) (y0 := a) (y1 := (0 : Int32)) h
        | false =>
          have h := iv_bf hb2 h
          refine iv_brf (mi' := 42) (pc' := 23) (ls' := [.ref 3, .int (2 : Int32), .int (2 : Int32), .int a]) (st' := []) (A' := im_H g2 u o Y) (c' := 2) (s' := 12) (mi'' := 42) (pc'' := 19) (ls'' := [.ref 3, .int (2 : Int32), .int (2 : Int32), .int a]) (st'' := []) (A'' := im_H g2 u o Y) (c'' := 2) (s'' := 12) 3 0 0 hb2 (fun n => rfl) ?_
          refine iv_blk (mi' := 42) (pc' := 24) (ls' := [.ref 3, .int (2 : Int32), .int (2 : Int32), .int a]) (st' := [.int (1 : Int32)]) (A' := im_H g2 u o Y) (c' := 2) (s' := 12) 2 (fun n => rfl) ?_
          exact x42_r0_2_2_1_ok (g := g2) (y0 := a) (y1 := (1 : Int32)) h
def x52_r0_2_2 (g : im_M) : Option (im_T × im_M) :=
  Option.bind (x43 g (2 : Int32)) (fun q1 =>
    Sum.elim (fun z => some (.inl z, q1.2)) (fun _ =>
    Option.bind (x49 q1.2 (2 : Int32)) (fun q2 =>
      Sum.elim (fun z => some (.inl z, q2.2)) (fun _ =>
      Option.bind (x20_r19_2 q2.2 ) (fun q3 =>
        some (.inr q3.1, q3.2))) q2.1)) q1.1)
set_option maxRecDepth 100000 in
set_option maxHeartbeats 4000000 in
theorem x52_r0_2_2_ok {L : Nat} {xs : Nat → Int32} {g u mm : im_M} {o : Nat → Int64} {Y : iv_A} {ret : im_T} (h : x52_r0_2_2 g  = some (ret, mm)) : iv_ev (iv_Xs L xs) 52 0 [.ref 3, .int (2 : Int32), .int (2 : Int32)] [] (im_H g u o Y) 0 0 (im_res ret (im_H mm u o Y)) := by
  unfold x52_r0_2_2 at h
  obtain ⟨v1, g1, hc, h⟩ := iv_bd h
  cases v1 with
  | inl z =>
    have h := iv_sl h
    cases h
    exact iv_calu (mi' := 52) (pc' := 1) (ls' := [.ref 3, .int (2 : Int32), .int (2 : Int32)]) (rest := []) (A' := im_H g u o Y) (c' := 0) (s' := 0) (as := [.int (2 : Int32)]) (B := im_H g1 u o Y) 2 43 (z.val + 7) (fun n => rfl) rfl (im_zx z) rfl rfl (x43_ok (g := g) (a := (2 : Int32)) hc)
  | inr v1 =>
    have h := iv_sr h
    refine iv_cal (mi' := 52) (pc' := 1) (ls' := [.ref 3, .int (2 : Int32), .int (2 : Int32)]) (rest := []) (A' := im_H g u o Y) (c' := 0) (s' := 0) (as := [.int (2 : Int32)]) (v := none) (A'' := im_H g1 u o Y) 2 43 (fun n => rfl) rfl (x43_ok (g := g) (a := (2 : Int32)) hc) ?_
    show iv_ev (iv_Xs L xs) 52 4 [.ref 3, .int (2 : Int32), .int (2 : Int32)] [] (im_H g1 u o Y) 1 6 _
    obtain ⟨v2, g2, hc, h⟩ := iv_bd h
    cases v2 with
    | inl z =>
      have h := iv_sl h
      cases h
      exact iv_calu (mi' := 52) (pc' := 5) (ls' := [.ref 3, .int (2 : Int32), .int (2 : Int32)]) (rest := []) (A' := im_H g1 u o Y) (c' := 1) (s' := 6) (as := [.int (2 : Int32)]) (B := im_H g2 u o Y) 2 49 (z.val + 7) (fun n => rfl) rfl (im_zx z) rfl rfl (x49_ok (g := g1) (a := (2 : Int32)) hc)
    | inr v2 =>
      have h := iv_sr h
      refine iv_cal (mi' := 52) (pc' := 5) (ls' := [.ref 3, .int (2 : Int32), .int (2 : Int32)]) (rest := []) (A' := im_H g1 u o Y) (c' := 1) (s' := 6) (as := [.int (2 : Int32)]) (v := none) (A'' := im_H g2 u o Y) 2 49 (fun n => rfl) rfl (x49_ok (g := g1) (a := (2 : Int32)) hc) ?_
      show iv_ev (iv_Xs L xs) 52 8 [.ref 3, .int (2 : Int32), .int (2 : Int32)] [] (im_H g2 u o Y) 2 12 _
      obtain ⟨v3, g3, hc, h⟩ := iv_bd h
      refine iv_cal (mi' := 52) (pc' := 15) (ls' := [.ref 3, .int (2 : Int32), .int (2 : Int32)]) (rest := []) (A' := im_H g2 u o Y) (c' := 2) (s' := 12) (as := [.ref 22, .int (2 : Int32)]) (v := some (.int v3)) (A'' := im_H g3 u o Y) 6 20 (fun n => rfl) rfl (x20_r19_2_ok (g := g2)  hc) ?_
      show iv_ev (iv_Xs L xs) 52 18 [.ref 3, .int (2 : Int32), .int (2 : Int32)] [.int v3] (im_H g3 u o Y) 2 12 _
      cases h
      exact iv_ret 1 (fun n => rfl)
def x60_r0_2_2_1 (g : im_M) (y0 : Int32) : Option (im_T × im_M) :=
  Option.bind (x55 g y0) (fun q3 =>
    Sum.elim (fun z => some (.inl z, q3.2)) (fun _ =>
    Option.bind (x61_r8 q3.2 (2 : Int32) (2 : Int32)) (fun q4 =>
      some (.inr 0, q4.2))) q3.1)
set_option maxRecDepth 100000 in
set_option maxHeartbeats 4000000 in
theorem x60_r0_2_2_1_ok {L : Nat} {xs : Nat → Int32} {g u mm : im_M} {o : Nat → Int64} {Y : iv_A} {y0 : Int32} {ret : im_T} (h : x60_r0_2_2_1 g y0 = some (ret, mm)) : iv_ev (iv_Xs L xs) 60 32 [.ref 3, .int (2 : Int32), .int (2 : Int32)] [.int y0] (im_H g u o Y) 2 12 (im_rev ret (im_H mm u o Y)) := by
  unfold x60_r0_2_2_1 at h
  obtain ⟨v3, g3, hc, h⟩ := iv_bd h
  cases v3 with
  | inl z =>
    have h := iv_sl h
    cases h
    exact iv_calu (mi' := 60) (pc' := 32) (ls' := [.ref 3, .int (2 : Int32), .int (2 : Int32)]) (rest := []) (A' := im_H g u o Y) (c' := 2) (s' := 12) (as := [.int y0]) (B := im_H g3 u o Y) 1 55 (z.val + 7) (fun n => rfl) rfl (im_zx z) rfl rfl (x55_ok (g := g) (a := y0) hc)
  | inr v3 =>
    have h := iv_sr h
    refine iv_cal (mi' := 60) (pc' := 32) (ls' := [.ref 3, .int (2 : Int32), .int (2 : Int32)]) (rest := []) (A' := im_H g u o Y) (c' := 2) (s' := 12) (as := [.int y0]) (v := none) (A'' := im_H g3 u o Y) 1 55 (fun n => rfl) rfl (x55_ok (g := g) (a := y0) hc) ?_
    show iv_ev (iv_Xs L xs) 60 35 [.ref 3, .int (2 : Int32), .int (2 : Int32)] [] (im_H g3 u o Y) 3 18 _
    obtain ⟨v4, g4, hc, h⟩ := iv_bd h
    refine iv_cal (mi' := 60) (pc' := 41) (ls' := [.ref 3, .int (2 : Int32), .int (2 : Int32)]) (rest := []) (A' := im_H g3 u o Y) (c' := 3) (s' := 18) (as := [.ref 11, .int (2 : Int32), .int (2 : Int32)]) (v := none) (A'' := im_H g4 u o Y) 5 61 (fun n => rfl) rfl (x61_r8_ok (g := g3) (a := (2 : Int32)) (b := (2 : Int32)) hc) ?_
    show iv_ev (iv_Xs L xs) 60 44 [.ref 3, .int (2 : Int32), .int (2 : Int32)] [] (im_H g4 u o Y) 3 18 _
    cases h
    exact iv_ret 1 (fun n => rfl)
def x60_r0_2_2 (g : im_M) : Option (im_T × im_M) :=
  Option.bind (x43 g (2 : Int32)) (fun q1 =>
    Sum.elim (fun z => some (.inl z, q1.2)) (fun _ =>
    Option.bind (x49 q1.2 (2 : Int32)) (fun q2 =>
      Sum.elim (fun z => some (.inl z, q2.2)) (fun _ =>
      bif Op.if_icmp.holds .ne (q2.2 8 0) (-1 : Int32) then
        (x60_r0_2_2_1 q2.2 (0 : Int32))
      else
        (bif Op.if_icmp.holds .eq (q2.2 0 6) (2 : Int32) then
          (x60_r0_2_2_1 q2.2 (0 : Int32))
        else
          (x60_r0_2_2_1 q2.2 (1 : Int32)))) q2.1)) q1.1)
set_option maxRecDepth 100000 in
set_option maxHeartbeats 4000000 in
theorem x60_r0_2_2_ok {L : Nat} {xs : Nat → Int32} {g u mm : im_M} {o : Nat → Int64} {Y : iv_A} {ret : im_T} (h : x60_r0_2_2 g  = some (ret, mm)) : iv_ev (iv_Xs L xs) 60 0 [.ref 3, .int (2 : Int32), .int (2 : Int32)] [] (im_H g u o Y) 0 0 (im_rev ret (im_H mm u o Y)) := by
  unfold x60_r0_2_2 at h
  obtain ⟨v1, g1, hc, h⟩ := iv_bd h
  cases v1 with
  | inl z =>
    have h := iv_sl h
    cases h
    exact iv_calu (mi' := 60) (pc' := 1) (ls' := [.ref 3, .int (2 : Int32), .int (2 : Int32)]) (rest := []) (A' := im_H g u o Y) (c' := 0) (s' := 0) (as := [.int (2 : Int32)]) (B := im_H g1 u o Y) 2 43 (z.val + 7) (fun n => rfl) rfl (im_zx z) rfl rfl (x43_ok (g := g) (a := (2 : Int32)) hc)
  | inr v1 =>
    have h := iv_sr h
    refine iv_cal (mi' := 60) (pc' := 1) (ls' := [.ref 3, .int (2 : Int32), .int (2 : Int32)]) (rest := []) (A' := im_H g u o Y) (c' := 0) (s' := 0) (as := [.int (2 : Int32)]) (v := none) (A'' := im_H g1 u o Y) 2 43 (fun n => rfl) rfl (x43_ok (g := g) (a := (2 : Int32)) hc) ?_
    show iv_ev (iv_Xs L xs) 60 4 [.ref 3, .int (2 : Int32), .int (2 : Int32)] [] (im_H g1 u o Y) 1 6 _
    obtain ⟨v2, g2, hc, h⟩ := iv_bd h
    cases v2 with
    | inl z =>
      have h := iv_sl h
      cases h
      exact iv_calu (mi' := 60) (pc' := 5) (ls' := [.ref 3, .int (2 : Int32), .int (2 : Int32)]) (rest := []) (A' := im_H g1 u o Y) (c' := 1) (s' := 6) (as := [.int (2 : Int32)]) (B := im_H g2 u o Y) 2 49 (z.val + 7) (fun n => rfl) rfl (im_zx z) rfl rfl (x49_ok (g := g1) (a := (2 : Int32)) hc)
    | inr v2 =>
      have h := iv_sr h
      refine iv_cal (mi' := 60) (pc' := 5) (ls' := [.ref 3, .int (2 : Int32), .int (2 : Int32)]) (rest := []) (A' := im_H g1 u o Y) (c' := 1) (s' := 6) (as := [.int (2 : Int32)]) (v := none) (A'' := im_H g2 u o Y) 2 49 (fun n => rfl) rfl (x49_ok (g := g1) (a := (2 : Int32)) hc) ?_
      show iv_ev (iv_Xs L xs) 60 8 [.ref 3, .int (2 : Int32), .int (2 : Int32)] [] (im_H g2 u o Y) 2 12 _
      cases hb1 : Op.if_icmp.holds .ne (g2 8 0) (-1 : Int32) with
      | true =>
        have h := iv_bt hb1 h
        refine iv_brt (mi' := 60) (pc' := 31) (ls' := [.ref 3, .int (2 : Int32), .int (2 : Int32)]) (st' := []) (A' := im_H g2 u o Y) (c' := 2) (s' := 12) (mi'' := 60) (pc'' := 19) (ls'' := [.ref 3, .int (2 : Int32), .int (2 : Int32)]) (st'' := []) (A'' := im_H g2 u o Y) (c'' := 2) (s'' := 12) 5 0 0 hb1 (fun n => rfl) ?_
        refine iv_blk (mi' := 60) (pc' := 32) (ls' := [.ref 3, .int (2 : Int32), .int (2 : Int32)]) (st' := [.int (0 : Int32)]) (A' := im_H g2 u o Y) (c' := 2) (s' := 12) 1 (fun n => rfl) ?_
        exact x60_r0_2_2_1_ok (g := g2) (y0 := (0 : Int32)) h
      | false =>
        have h := iv_bf hb1 h
        refine iv_brf (mi' := 60) (pc' := 31) (ls' := [.ref 3, .int (2 : Int32), .int (2 : Int32)]) (st' := []) (A' := im_H g2 u o Y) (c' := 2) (s' := 12) (mi'' := 60) (pc'' := 19) (ls'' := [.ref 3, .int (2 : Int32), .int (2 : Int32)]) (st'' := []) (A'' := im_H g2 u o Y) (c'' := 2) (s'' := 12) 5 0 0 hb1 (fun n => rfl) ?_
        cases hb2 : Op.if_icmp.holds .eq (g2 0 6) (2 : Int32) with
        | true =>
          have h := iv_bt hb2 h
          refine iv_brt (mi' := 60) (pc' := 31) (ls' := [.ref 3, .int (2 : Int32), .int (2 : Int32)]) (st' := []) (A' := im_H g2 u o Y) (c' := 2) (s' := 12) (mi'' := 60) (pc'' := 27) (ls'' := [.ref 3, .int (2 : Int32), .int (2 : Int32)]) (st'' := []) (A'' := im_H g2 u o Y) (c'' := 2) (s'' := 12) 4 0 0 hb2 (fun n => rfl) ?_
          refine iv_blk (mi' := 60) (pc' := 32) (ls' := [.ref 3, .int (2 : Int32), .int (2 : Int32)]) (st' := [.int (0 : Int32)]) (A' := im_H g2 u o Y) (c' := 2) (s' := 12) 1 (fun n => rfl) ?_
          exact x60_r0_2_2_1_ok (g := g2) (y0 := (0 : Int32)) h
        | false =>
          have h := iv_bf hb2 h
          refine iv_brf (mi' := 60) (pc' := 31) (ls' := [.ref 3, .int (2 : Int32), .int (2 : Int32)]) (st' := []) (A' := im_H g2 u o Y) (c' := 2) (s' := 12) (mi'' := 60) (pc'' := 27) (ls'' := [.ref 3, .int (2 : Int32), .int (2 : Int32)]) (st'' := []) (A'' := im_H g2 u o Y) (c'' := 2) (s'' := 12) 4 0 0 hb2 (fun n => rfl) ?_
          refine iv_blk (mi' := 60) (pc' := 32) (ls' := [.ref 3, .int (2 : Int32), .int (2 : Int32)]) (st' := [.int (1 : Int32)]) (A' := im_H g2 u o Y) (c' := 2) (s' := 12) 2 (fun n => rfl) ?_
          exact x60_r0_2_2_1_ok (g := g2) (y0 := (1 : Int32)) h
def x66_r0_2_0 (g : im_M) (a : Int32) : Option (im_T × im_M) :=
  Option.bind (x43 g (2 : Int32)) (fun q1 =>
    Sum.elim (fun z => some (.inl z, q1.2)) (fun _ =>
    Option.bind (x64 q1.2 (0 : Int32)) (fun q2 =>
      Sum.elim (fun z => some (.inl z, q2.2)) (fun _ =>
      Option.bind (x67_r5_2_0 q2.2 a) (fun q3 =>
        some (.inr 0, q3.2))) q2.1)) q1.1)
set_option maxRecDepth 100000 in
set_option maxHeartbeats 4000000 in
theorem x66_r0_2_0_ok {L : Nat} {xs : Nat → Int32} {g u mm : im_M} {o : Nat → Int64} {Y : iv_A} {a : Int32} {ret : im_T} (h : x66_r0_2_0 g a = some (ret, mm)) : iv_ev (iv_Xs L xs) 66 0 [.ref 3, .int (2 : Int32), .int (0 : Int32), .int a] [] (im_H g u o Y) 0 0 (im_rev ret (im_H mm u o Y)) := by
  unfold x66_r0_2_0 at h
  obtain ⟨v1, g1, hc, h⟩ := iv_bd h
  cases v1 with
  | inl z =>
    have h := iv_sl h
    cases h
    exact iv_calu (mi' := 66) (pc' := 1) (ls' := [.ref 3, .int (2 : Int32), .int (0 : Int32), .int a]) (rest := []) (A' := im_H g u o Y) (c' := 0) (s' := 0) (as := [.int (2 : Int32)]) (B := im_H g1 u o Y) 2 43 (z.val + 7) (fun n => rfl) rfl (im_zx z) rfl rfl (x43_ok (g := g) (a := (2 : Int32)) hc)
  | inr v1 =>
    have h := iv_sr h
    refine iv_cal (mi' := 66) (pc' := 1) (ls' := [.ref 3, .int (2 : Int32), .int (0 : Int32), .int a]) (rest := []) (A' := im_H g u o Y) (c' := 0) (s' := 0) (as := [.int (2 : Int32)]) (v := none) (A'' := im_H g1 u o Y) 2 43 (fun n => rfl) rfl (x43_ok (g := g) (a := (2 : Int32)) hc) ?_
    show iv_ev (iv_Xs L xs) 66 4 [.ref 3, .int (2 : Int32), .int (0 : Int32), .int a] [] (im_H g1 u o Y) 1 6 _
    obtain ⟨v2, g2, hc, h⟩ := iv_bd h
    cases v2 with
    | inl z =>
      have h := iv_sl h
      cases h
      exact iv_calu (mi' := 66) (pc' := 5) (ls' := [.ref 3, .int (2 : Int32), .int (0 : Int32), .int a]) (rest := []) (A' := im_H g1 u o Y) (c' := 1) (s' := 6) (as := [.int (0 : Int32)]) (B := im_H g2 u o Y) 2 64 (z.val + 7) (fun n => rfl) rfl (im_zx z) rfl rfl (x64_ok (g := g1) (a := (0 : Int32)) hc)
    | inr v2 =>
      have h := iv_sr h
      refine iv_cal (mi' := 66) (pc' := 5) (ls' := [.ref 3, .int (2 : Int32), .int (0 : Int32), .int a]) (rest := []) (A' := im_H g1 u o Y) (c' := 1) (s' := 6) (as := [.int (0 : Int32)]) (v := none) (A'' := im_H g2 u o Y) 2 64 (fun n => rfl) rfl (x64_ok (g := g1) (a := (0 : Int32)) hc) ?_
      show iv_ev (iv_Xs L xs) 66 8 [.ref 3, .int (2 : Int32), .int (0 : Int32), .int a] [] (im_H g2 u o Y) 2 12 _
      obtain ⟨v3, g3, hc, h⟩ := iv_bd h
      refine iv_cal (mi' := 66) (pc' := 15) (ls' := [.ref 3, .int (2 : Int32), .int (0 : Int32), .int a]) (rest := []) (A' := im_H g2 u o Y) (c' := 2) (s' := 12) (as := [.ref 8, .int (2 : Int32), .int (0 : Int32), .int a]) (v := none) (A'' := im_H g3 u o Y) 6 67 (fun n => rfl) rfl (x67_r5_2_0_ok (g := g2) (a := a) hc) ?_
      show iv_ev (iv_Xs L xs) 66 18 [.ref 3, .int (2 : Int32), .int (0 : Int32), .int a] [] (im_H g3 u o Y) 2 12 _
      cases h
      exact iv_ret 1 (fun n => rfl)
def x66_r0_2_1 (g : im_M) (a : Int32) : Option (im_T × im_M) :=
  Option.bind (x43 g (2 : Int32)) (fun q1 =>
    Sum.elim (fun z => some (.inl z, q1.2)) (fun _ =>
    Option.bind (x64 q1.2 (1 : Int32)) (fun q2 =>
      Sum.elim (fun z => some (.inl z, q2.2)) (fun _ =>
      Option.bind (x67_r5_2_1 q2.2 a) (fun q3 =>
        some (.inr 0, q3.2))) q2.1)) q1.1)
set_option maxRecDepth 100000 in
set_option maxHeartbeats 4000000 in
theorem x66_r0_2_1_ok {L : Nat} {xs : Nat → Int32} {g u mm : im_M} {o : Nat → Int64} {Y : iv_A} {a : Int32} {ret : im_T} (h : x66_r0_2_1 g a = some (ret, mm)) : iv_ev (iv_Xs L xs) 66 0 [.ref 3, .int (2 : Int32), .int (1 : Int32), .int a] [] (im_H g u o Y) 0 0 (im_rev ret (im_H mm u o Y)) := by
  unfold x66_r0_2_1 at h
  obtain ⟨v1, g1, hc, h⟩ := iv_bd h
  cases v1 with
  | inl z =>
    have h := iv_sl h
    cases h
    exact iv_calu (mi' := 66) (pc' := 1) (ls' := [.ref 3, .int (2 : Int32), .int (1 : Int32), .int a]) (rest := []) (A' := im_H g u o Y) (c' := 0) (s' := 0) (as := [.int (2 : Int32)]) (B := im_H g1 u o Y) 2 43 (z.val + 7) (fun n => rfl) rfl (im_zx z) rfl rfl (x43_ok (g := g) (a := (2 : Int32)) hc)
  | inr v1 =>
    have h := iv_sr h
    refine iv_cal (mi' := 66) (pc' := 1) (ls' := [.ref 3, .int (2 : Int32), .int (1 : Int32), .int a]) (rest := []) (A' := im_H g u o Y) (c' := 0) (s' := 0) (as := [.int (2 : Int32)]) (v := none) (A'' := im_H g1 u o Y) 2 43 (fun n => rfl) rfl (x43_ok (g := g) (a := (2 : Int32)) hc) ?_
    show iv_ev (iv_Xs L xs) 66 4 [.ref 3, .int (2 : Int32), .int (1 : Int32), .int a] [] (im_H g1 u o Y) 1 6 _
    obtain ⟨v2, g2, hc, h⟩ := iv_bd h
    cases v2 with
    | inl z =>
      have h := iv_sl h
      cases h
      exact iv_calu (mi' := 66) (pc' := 5) (ls' := [.ref 3, .int (2 : Int32), .int (1 : Int32), .int a]) (rest := []) (A' := im_H g1 u o Y) (c' := 1) (s' := 6) (as := [.int (1 : Int32)]) (B := im_H g2 u o Y) 2 64 (z.val + 7) (fun n => rfl) rfl (im_zx z) rfl rfl (x64_ok (g := g1) (a := (1 : Int32)) hc)
    | inr v2 =>
      have h := iv_sr h
      refine iv_cal (mi' := 66) (pc' := 5) (ls' := [.ref 3, .int (2 : Int32), .int (1 : Int32), .int a]) (rest := []) (A' := im_H g1 u o Y) (c' := 1) (s' := 6) (as := [.int (1 : Int32)]) (v := none) (A'' := im_H g2 u o Y) 2 64 (fun n => rfl) rfl (x64_ok (g := g1) (a := (1 : Int32)) hc) ?_
      show iv_ev (iv_Xs L xs) 66 8 [.ref 3, .int (2 : Int32), .int (1 : Int32), .int a] [] (im_H g2 u o Y) 2 12 _
      obtain ⟨v3, g3, hc, h⟩ := iv_bd h
      refine iv_cal (mi' := 66) (pc' := 15) (ls' := [.ref 3, .int (2 : Int32), .int (1 : Int32), .int a]) (rest := []) (A' := im_H g2 u o Y) (c' := 2) (s' := 12) (as := [.ref 8, .int (2 : Int32), .int (1 : Int32), .int a]) (v := none) (A'' := im_H g3 u o Y) 6 67 (fun n => rfl) rfl (x67_r5_2_1_ok (g := g2) (a := a) hc) ?_
      show iv_ev (iv_Xs L xs) 66 18 [.ref 3, .int (2 : Int32), .int (1 : Int32), .int a] [] (im_H g3 u o Y) 2 12 _
      cases h
      exact iv_ret 1 (fun n => rfl)
def x66_r0_2_2 (g : im_M) (a : Int32) : Option (im_T × im_M) :=
  Option.bind (x43 g (2 : Int32)) (fun q1 =>
    Sum.elim (fun z => some (.inl z, q1.2)) (fun _ =>
    Option.bind (x64 q1.2 (2 : Int32)) (fun q2 =>
      Sum.elim (fun z => some (.inl z, q2.2)) (fun _ =>
      Option.bind (x67_r5_2_2 q2.2 a) (fun q3 =>
        some (.inr 0, q3.2))) q2.1)) q1.1)
set_option maxRecDepth 100000 in
set_option maxHeartbeats 4000000 in
theorem x66_r0_2_2_ok {L : Nat} {xs : Nat → Int32} {g u mm : im_M} {o : Nat → Int64} {Y : iv_A} {a : Int32} {ret : im_T} (h : x66_r0_2_2 g a = some (ret, mm)) : iv_ev (iv_Xs L xs) 66 0 [.ref 3, .int (2 : Int32), .int (2 : Int32), .int a] [] (im_H g u o Y) 0 0 (im_rev ret (im_H mm u o Y)) := by
  unfold x66_r0_2_2 at h
  obtain ⟨v1, g1, hc, h⟩ := iv_bd h
  cases v1 with
  | inl z =>
    have h := iv_sl h
    cases h
    exact iv_calu (mi' := 66) (pc' := 1) (ls' := [.ref 3, .int (2 : Int32), .int (2 : Int32), .int a]) (rest := []) (A' := im_H g u o Y) (c' := 0) (s' := 0) (as := [.int (2 : Int32)]) (B := im_H g1 u o Y) 2 43 (z.val + 7) (fun n => rfl) rfl (im_zx z) rfl rfl (x43_ok (g := g) (a := (2 : Int32)) hc)
  | inr v1 =>
    have h := iv_sr h
    refine iv_cal (mi' := 66) (pc' := 1) (ls' := [.ref 3, .int (2 : Int32), .int (2 : Int32), .int a]) (rest := []) (A' := im_H g u o Y) (c' := 0) (s' := 0) (as := [.int (2 : Int32)]) (v := none) (A'' := im_H g1 u o Y) 2 43 (fun n => rfl) rfl (x43_ok (g := g) (a := (2 : Int32)) hc) ?_
    show iv_ev (iv_Xs L xs) 66 4 [.ref 3, .int (2 : Int32), .int (2 : Int32), .int a] [] (im_H g1 u o Y) 1 6 _
    obtain ⟨v2, g2, hc, h⟩ := iv_bd h
    cases v2 with
    | inl z =>
      have h := iv_sl h
      cases h
      exact iv_calu (mi' := 66) (pc' := 5) (ls' := [.ref 3, .int (2 : Int32), .int (2 : Int32), .int a]) (rest := []) (A' := im_H g1 u o Y) (c' := 1) (s' := 6) (as := [.int (2 : Int32)]) (B := im_H g2 u o Y) 2 64 (z.val + 7) (fun n => rfl) rfl (im_zx z) rfl rfl (x64_ok (g := g1) (a := (2 : Int32)) hc)
    | inr v2 =>
      have h := iv_sr h
      refine iv_cal (mi' := 66) (pc' := 5) (ls' := [.ref 3, .int (2 : Int32), .int (2 : Int32), .int a]) (rest := []) (A' := im_H g1 u o Y) (c' := 1) (s' := 6) (as := [.int (2 : Int32)]) (v := none) (A'' := im_H g2 u o Y) 2 64 (fun n => rfl) rfl (x64_ok (g := g1) (a := (2 : Int32)) hc) ?_
      show iv_ev (iv_Xs L xs) 66 8 [.ref 3, .int (2 : Int32), .int (2 : Int32), .int a] [] (im_H g2 u o Y) 2 12 _
      obtain ⟨v3, g3, hc, h⟩ := iv_bd h
      refine iv_cal (mi' := 66) (pc' := 15) (ls' := [.ref 3, .int (2 : Int32), .int (2 : Int32), .int a]) (rest := []) (A' := im_H g2 u o Y) (c' := 2) (s' := 12) (as := [.ref 8, .int (2 : Int32), .int (2 : Int32), .int a]) (v := none) (A'' := im_H g3 u o Y) 6 67 (fun n => rfl) rfl (x67_r5_2_2_ok (g := g2) (a := a) hc) ?_
      show iv_ev (iv_Xs L xs) 66 18 [.ref 3, .int (2 : Int32), .int (2 : Int32), .int a] [] (im_H g3 u o Y) 2 12 _
      cases h
      exact iv_ret 1 (fun n => rfl)
def x66_r0_2_3 (g : im_M) (a : Int32) : Option (im_T × im_M) :=
  Option.bind (x43 g (2 : Int32)) (fun q1 =>
    Sum.elim (fun z => some (.inl z, q1.2)) (fun _ =>
    Option.bind (x64 q1.2 (3 : Int32)) (fun q2 =>
      Sum.elim (fun z => some (.inl z, q2.2)) (fun _ =>
      Option.bind (x67_r5_2_3 q2.2 a) (fun q3 =>
        some (.inr 0, q3.2))) q2.1)) q1.1)
set_option maxRecDepth 100000 in
set_option maxHeartbeats 4000000 in
theorem x66_r0_2_3_ok {L : Nat} {xs : Nat → Int32} {g u mm : im_M} {o : Nat → Int64} {Y : iv_A} {a : Int32} {ret : im_T} (h : x66_r0_2_3 g a = some (ret, mm)) : iv_ev (iv_Xs L xs) 66 0 [.ref 3, .int (2 : Int32), .int (3 : Int32), .int a] [] (im_H g u o Y) 0 0 (im_rev ret (im_H mm u o Y)) := by
  unfold x66_r0_2_3 at h
  obtain ⟨v1, g1, hc, h⟩ := iv_bd h
  cases v1 with
  | inl z =>
    have h := iv_sl h
    cases h
    exact iv_calu (mi' := 66) (pc' := 1) (ls' := [.ref 3, .int (2 : Int32), .int (3 : Int32), .int a]) (rest := []) (A' := im_H g u o Y) (c' := 0) (s' := 0) (as := [.int (2 : Int32)]) (B := im_H g1 u o Y) 2 43 (z.val + 7) (fun n => rfl) rfl (im_zx z) rfl rfl (x43_ok (g := g) (a := (2 : Int32)) hc)
  | inr v1 =>
    have h := iv_sr h
    refine iv_cal (mi' := 66) (pc' := 1) (ls' := [.ref 3, .int (2 : Int32), .int (3 : Int32), .int a]) (rest := []) (A' := im_H g u o Y) (c' := 0) (s' := 0) (as := [.int (2 : Int32)]) (v := none) (A'' := im_H g1 u o Y) 2 43 (fun n => rfl) rfl (x43_ok (g := g) (a := (2 : Int32)) hc) ?_
    show iv_ev (iv_Xs L xs) 66 4 [.ref 3, .int (2 : Int32), .int (3 : Int32), .int a] [] (im_H g1 u o Y) 1 6 _
    obtain ⟨v2, g2, hc, h⟩ := iv_bd h
    cases v2 with
    | inl z =>
      have h := iv_sl h
      cases h
      exact iv_calu (mi' := 66) (pc' := 5) (ls' := [.ref 3, .int (2 : Int32), .int (3 : Int32), .int a]) (rest := []) (A' := im_H g1 u o Y) (c' := 1) (s' := 6) (as := [.int (3 : Int32)]) (B := im_H g2 u o Y) 2 64 (z.val + 7) (fun n => rfl) rfl (im_zx z) rfl rfl (x64_ok (g := g1) (a := (3 : Int32)) hc)
    | inr v2 =>
      have h := iv_sr h
      refine iv_cal (mi' := 66) (pc' := 5) (ls' := [.ref 3, .int (2 : Int32), .int (3 : Int32), .int a]) (rest := []) (A' := im_H g1 u o Y) (c' := 1) (s' := 6) (as := [.int (3 : Int32)]) (v := none) (A'' := im_H g2 u o Y) 2 64 (fun n => rfl) rfl (x64_ok (g := g1) (a := (3 : Int32)) hc) ?_
      show iv_ev (iv_Xs L xs) 66 8 [.ref 3, .int (2 : Int32), .int (3 : Int32), .int a] [] (im_H g2 u o Y) 2 12 _
      obtain ⟨v3, g3, hc, h⟩ := iv_bd h
      refine iv_cal (mi' := 66) (pc' := 15) (ls' := [.ref 3, .int (2 : Int32), .int (3 : Int32), .int a]) (rest := []) (A' := im_H g2 u o Y) (c' := 2) (s' := 12) (as := [.ref 8, .int (2 : Int32), .int (3 : Int32), .int a]) (v := none) (A'' := im_H g3 u o Y) 6 67 (fun n => rfl) rfl (x67_r5_2_3_ok (g := g2) (a := a) hc) ?_
      show iv_ev (iv_Xs L xs) 66 18 [.ref 3, .int (2 : Int32), .int (3 : Int32), .int a] [] (im_H g3 u o Y) 2 12 _
      cases h
      exact iv_ret 1 (fun n => rfl)
def x54_r0_3_1 (g : im_M) (y0 : Int32) : Option (im_T × im_M) :=
  Option.bind (x55 g y0) (fun q2 =>
    Sum.elim (fun z => some (.inl z, q2.2)) (fun _ =>
    Option.bind (x15_r1 (im_w q2.2 0 6 (3 : Int32)) (11 : Int32) (3 : Int32) (0 : Int32)) (fun q3 =>
      some (.inr 0, q3.2))) q2.1)
set_option maxRecDepth 100000 in
set_option maxHeartbeats 4000000 in
theorem x54_r0_3_1_ok {L : Nat} {xs : Nat → Int32} {g u mm : im_M} {o : Nat → Int64} {Y : iv_A} {y0 : Int32} {ret : im_T} (h : x54_r0_3_1 g y0 = some (ret, mm)) : iv_ev (iv_Xs L xs) 54 28 [.ref 3, .int (3 : Int32)] [.int y0] (im_H g u o Y) 1 6 (im_rev ret (im_H mm u o Y)) := by
  unfold x54_r0_3_1 at h
  obtain ⟨v2, g2, hc, h⟩ := iv_bd h
  cases v2 with
  | inl z =>
    have h := iv_sl h
    cases h
    exact iv_calu (mi' := 54) (pc' := 28) (ls' := [.ref 3, .int (3 : Int32)]) (rest := []) (A' := im_H g u o Y) (c' := 1) (s' := 6) (as := [.int y0]) (B := im_H g2 u o Y) 1 55 (z.val + 7) (fun n => rfl) rfl (im_zx z) rfl rfl (x55_ok (g := g) (a := y0) hc)
  | inr v2 =>
    have h := iv_sr h
    refine iv_cal (mi' := 54) (pc' := 28) (ls' := [.ref 3, .int (3 : Int32)]) (rest := []) (A' := im_H g u o Y) (c' := 1) (s' := 6) (as := [.int y0]) (v := none) (A'' := im_H g2 u o Y) 1 55 (fun n => rfl) rfl (x55_ok (g := g) (a := y0) hc) ?_
    show iv_ev (iv_Xs L xs) 54 31 [.ref 3, .int (3 : Int32)] [] (im_H g2 u o Y) 2 12 _
    refine iv_blk (mi' := 54) (pc' := 36) (ls' := [.ref 3, .int (3 : Int32)]) (st' := []) (A' := List.set (im_H g2 u o Y) 0 (.inr (5, List.set [.int (g2 0 0), .ref 4, .ref 6, .ref 7, .ref 8, .ref 11, .int (g2 0 6), .int (g2 0 7)] 6 (.int (3 : Int32))))) (c' := 2) (s' := 12) 3 (fun n => rfl) ?_
    rw [im_f0_6]
    obtain ⟨v3, g3, hc, h⟩ := iv_bd h
    refine iv_cal (mi' := 54) (pc' := 44) (ls' := [.ref 3, .int (3 : Int32)]) (rest := []) (A' := im_H (im_w g2 0 6 (3 : Int32)) u o Y) (c' := 2) (s' := 12) (as := [.ref 4, .int (11 : Int32), .int (3 : Int32), .int (0 : Int32)]) (v := none) (A'' := im_H g3 u o Y) 6 15 (fun n => rfl) rfl (x15_r1_ok (g := (im_w g2 0 6 (3 : Int32))) (a := (11 : Int32)) (b := (3 : Int32)) (c := (0 : Int32)) hc) ?_
    show iv_ev (iv_Xs L xs) 54 47 [.ref 3, .int (3 : Int32)] [] (im_H g3 u o Y) 2 12 _
    cases h
    exact iv_ret 1 (fun n => rfl)
def x54_r0_3 (g : im_M) : Option (im_T × im_M) :=
  Option.bind (x43 g (3 : Int32)) (fun q1 =>
    Sum.elim (fun z => some (.inl z, q1.2)) (fun _ =>
    bif Op.if_icmp.holds .ne (q1.2 0 6) (-1 : Int32) then
      (x54_r0_3_1 q1.2 (0 : Int32))
    else
      (bif Op.if_icmp.holds .eq (q1.2 8 0) (3 : Int32) then
        (x54_r0_3_1 q1.2 (0 : Int32))
      else
        (x54_r0_3_1 q1.2 (1 : Int32)))) q1.1)
set_option maxRecDepth 100000 in
set_option maxHeartbeats 4000000 in
theorem x54_r0_3_ok {L : Nat} {xs : Nat → Int32} {g u mm : im_M} {o : Nat → Int64} {Y : iv_A} {ret : im_T} (h : x54_r0_3 g  = some (ret, mm)) : iv_ev (iv_Xs L xs) 54 0 [.ref 3, .int (3 : Int32)] [] (im_H g u o Y) 0 0 (im_rev ret (im_H mm u o Y)) := by
  unfold x54_r0_3 at h
  obtain ⟨v1, g1, hc, h⟩ := iv_bd h
  cases v1 with
  | inl z =>
    have h := iv_sl h
    cases h
    exact iv_calu (mi' := 54) (pc' := 1) (ls' := [.ref 3, .int (3 : Int32)]) (rest := []) (A' := im_H g u o Y) (c' := 0) (s' := 0) (as := [.int (3 : Int32)]) (B := im_H g1 u o Y) 2 43 (z.val + 7) (fun n => rfl) rfl (im_zx z) rfl rfl (x43_ok (g := g) (a := (3 : Int32)) hc)
  | inr v1 =>
    have h := iv_sr h
    refine iv_cal (mi' := 54) (pc' := 1) (ls' := [.ref 3, .int (3 : Int32)]) (rest := []) (A' := im_H g u o Y) (c' := 0) (s' := 0) (as := [.int (3 : Int32)]) (v := none) (A'' := im_H g1 u o Y) 2 43 (fun n => rfl) rfl (x43_ok (g := g) (a := (3 : Int32)) hc) ?_
    show iv_ev (iv_Xs L xs) 54 4 [.ref 3, .int (3 : Int32)] [] (im_H g1 u o Y) 1 6 _
    cases hb1 : Op.if_icmp.holds .ne (g1 0 6) (-1 : Int32) with
    | true =>
      have h := iv_bt hb1 h
      refine iv_brt (mi' := 54) (pc' := 27) (ls' := [.ref 3, .int (3 : Int32)]) (st' := []) (A' := im_H g1 u o Y) (c' := 1) (s' := 6) (mi'' := 54) (pc'' := 12) (ls'' := [.ref 3, .int (3 : Int32)]) (st'' := []) (A'' := im_H g1 u o Y) (c'' := 1) (s'' := 6) 4 0 0 hb1 (fun n => rfl) ?_
      refine iv_blk (mi' := 54) (pc' := 28) (ls' := [.ref 3, .int (3 : Int32)]) (st' := [.int (0 : Int32)]) (A' := im_H g1 u o Y) (c' := 1) (s' := 6) 1 (fun n => rfl) ?_
      exact x54_r0_3_1_ok (g := g1) (y0 := (0 : Int32)) h
    | false =>
      have h := iv_bf hb1 h
      refine iv_brf (mi' := 54) (pc' := 27) (ls' := [.ref 3, .int (3 : Int32)]) (st' := []) (A' := im_H g1 u o Y) (c' := 1) (s' := 6) (mi'' := 54) (pc'' := 12) (ls'' := [.ref 3, .int (3 : Int32)]) (st'' := []) (A'' := im_H g1 u o Y) (c'' := 1) (s'' := 6) 4 0 0 hb1 (fun n => rfl) ?_
      cases hb2 : Op.if_icmp.holds .eq (g1 8 0) (3 : Int32) with
      | true =>
        have h := iv_bt hb2 h
        refine iv_brt (mi' := 54) (pc' := 27) (ls' := [.ref 3, .int (3 : Int32)]) (st' := []) (A' := im_H g1 u o Y) (c' := 1) (s' := 6) (mi'' := 54) (pc'' := 23) (ls'' := [.ref 3, .int (3 : Int32)]) (st'' := []) (A'' := im_H g1 u o Y) (c'' := 1) (s'' := 6) 5 0 0 hb2 (fun n => rfl) ?_
        refine iv_blk (mi' := 54) (pc' := 28) (ls' := [.ref 3, .int (3 : Int32)]) (st' := [.int (0 : Int32)]) (A' := im_H g1 u o Y) (c' := 1) (s' := 6) 1 (fun n => rfl) ?_
        exact x54_r0_3_1_ok (g := g1) (y0 := (0 : Int32)) h
      | false =>
        have h := iv_bf hb2 h
        refine iv_brf (mi' := 54) (pc' := 27) (ls' := [.ref 3, .int (3 : Int32)]) (st' := []) (A' := im_H g1 u o Y) (c' := 1) (s' := 6) (mi'' := 54) (pc'' := 23) (ls'' := [.ref 3, .int (3 : Int32)]) (st'' := []) (A'' := im_H g1 u o Y) (c'' := 1) (s'' := 6) 5 0 0 hb2 (fun n => rfl) ?_
        refine iv_blk (mi' := 54) (pc' := 28) (ls' := [.ref 3, .int (3 : Int32)]) (st' := [.int (1 : Int32)]) (A' := im_H g1 u o Y) (c' := 1) (s' := 6) 2 (fun n => rfl) ?_
        exact x54_r0_3_1_ok (g := g1) (y0 := (1 : Int32)) h
def x42_r0_3_0_1 (g : im_M) (y0 : Int32) (y1 : Int32) : Option (im_T × im_M) :=
  Option.bind (x44 g y1) (fun q3 =>
    Sum.elim (fun z => some (.inl z, q3.2)) (fun _ =>
    Option.bind (x50_r24_0 q3.2 y0) (fun q4 =>
      some (.inr 0, q4.2))) q3.1)
set_option maxRecDepth 100000 in
set_option maxHeartbeats 4000000 in
theorem x42_r0_3_0_1_ok {L : Nat} {xs : Nat → Int32} {g u mm : im_M} {o : Nat → Int64} {Y : iv_A} {y0 y1 : Int32} {ret : im_T} (h : x42_r0_3_0_1 g y0 y1 = some (ret, mm)) : iv_ev (iv_Xs L xs) 42 24 [.ref 3, .int (3 : Int32), .int (0 : Int32), .int y0] [.int y1] (im_H g u o Y) 2 12 (im_rev ret (im_H mm u o Y)) := by
  unfold x42_r0_3_0_1 at h
  obtain ⟨v3, g3, hc, h⟩ := iv_bd h
  cases v3 with
  | inl z =>
    have h := iv_sl h
    cases h
    exact iv_calu (mi' := 42) (pc' := 24) (ls' := [.ref 3, .int (3 : Int32), .int (0 : Int32), .int y0]) (rest := []) (A' := im_H g u o Y) (c' := 2) (s' := 12) (as := [.int y1]) (B := im_H g3 u o Y) 1 44 (z.val + 7) (fun n => rfl) rfl (im_zx z) rfl rfl (x44_ok (g := g) (a := y1) hc)
  | inr v3 =>
    have h := iv_sr h
    refine iv_cal (mi' := 42) (pc' := 24) (ls' := [.ref 3, .int (3 : Int32), .int (0 : Int32), .int y0]) (rest := []) (A' := im_H g u o Y) (c' := 2) (s' := 12) (as := [.int y1]) (v := none) (A'' := im_H g3 u o Y) 1 44 (fun n => rfl) rfl (x44_ok (g := g) (a := y1) hc) ?_
    show iv_ev (iv_Xs L xs) 42 27 [.ref 3, .int (3 : Int32), .int (0 : Int32), .int y0] [] (im_H g3 u o Y) 3 18 _
    obtain ⟨v4, g4, hc, h⟩ := iv_bd h
    refine iv_cal (mi' := 42) (pc' := 35) (ls' := [.ref 3, .int (3 : Int32), .int (0 : Int32), .int y0]) (rest := []) (A' := im_H g3 u o Y) (c' := 3) (s' := 18) (as := [.ref 27, .int (0 : Int32), .int y0]) (v := none) (A'' := im_H g4 u o Y) 7 50 (fun n => rfl) rfl (x50_r24_0_ok (g := g3) (a := y0) hc) ?_
    show iv_ev (iv_Xs L xs) 42 38 [.ref 3, .int (3 : Int32), .int (0 : Int32), .int y0] [] (im_H g4 u o Y) 3 18 _
    cases h
    exact iv_ret 1 (fun n => rfl)
def x42_r0_3_0 (g : im_M) (a : Int32) : Option (im_T × im_M) :=
  Option.bind (x43 g (3 : Int32)) (fun q1 =>
    Sum.elim (fun z => some (.inl z, q1.2)) (fun _ =>
    Option.bind (x49 q1.2 (0 : Int32)) (fun q2 =>
      Sum.elim (fun z => some (.inl z, q2.2)) (fun _ =>
      bif Op.ifCond.holds .lt a then
        (x42_r0_3_0_1 q2.2 a (0 : Int32))
      else
        (bif Op.if_icmp.holds .gt a (4095 : Int32) then
          (x42_r0_3_0_1 q2.2 a (0 : Int32))
        else
          (x42_r0_3_0_1 q2.2 a (1 : Int32)))) q2.1)) q1.1)
set_option maxRecDepth 100000 in
set_option maxHeartbeats 4000000 in
theorem x42_r0_3_0_ok {L : Nat} {xs : Nat → Int32} {g u mm : im_M} {o : Nat → Int64} {Y : iv_A} {a : Int32} {ret : im_T} (h : x42_r0_3_0 g a = some (ret, mm)) : iv_ev (iv_Xs L xs) 42 0 [.ref 3, .int (3 : Int32), .int (0 : Int32), .int a] [] (im_H g u o Y) 0 0 (im_rev ret (im_H mm u o Y)) := by
  unfold x42_r0_3_0 at h
  obtain ⟨v1, g1, hc, h⟩ := iv_bd h
  cases v1 with
  | inl z =>
    have h := iv_sl h
    cases h
    exact iv_calu (mi' := 42) (pc' := 1) (ls' := [.ref 3, .int (3 : Int32), .int (0 : Int32), .int a]) (rest := []) (A' := im_H g u o Y) (c' := 0) (s' := 0) (as := [.int (3 : Int32)]) (B := im_H g1 u o Y) 2 43 (z.val + 7) (fun n => rfl) rfl (im_zx z) rfl rfl (x43_ok (g := g) (a := (3 : Int32)) hc)
  | inr v1 =>
    have h := iv_sr h
    refine iv_cal (mi' := 42) (pc' := 1) (ls' := [.ref 3, .int (3 : Int32), .int (0 : Int32), .int a]) (rest := []) (A' := im_H g u o Y) (c' := 0) (s' := 0) (as := [.int (3 : Int32)]) (v := none) (A'' := im_H g1 u o Y) 2 43 (fun n => rfl) rfl (x43_ok (g := g) (a := (3 : Int32)) hc) ?_
    show iv_ev (iv_Xs L xs) 42 4 [.ref 3, .int (3 : Int32), .int (0 : Int32), .int a] [] (im_H g1 u o Y) 1 6 _
    obtain ⟨v2, g2, hc, h⟩ := iv_bd h
    cases v2 with
    | inl z =>
      have h := iv_sl h
      cases h
      exact iv_calu (mi' := 42) (pc' := 5) (ls' := [.ref 3, .int (3 : Int32), .int (0 : Int32), .int a]) (rest := []) (A' := im_H g1 u o Y) (c' := 1) (s' := 6) (as := [.int (0 : Int32)]) (B := im_H g2 u o Y) 2 49 (z.val + 7) (fun n => rfl) rfl (im_zx z) rfl rfl (x49_ok (g := g1) (a := (0 : Int32)) hc)
    | inr v2 =>
      have h := iv_sr h
      refine iv_cal (mi' := 42) (pc' := 5) (ls' := [.ref 3, .int (3 : Int32), .int (0 : Int32), .int a]) (rest := []) (A' := im_H g1 u o Y) (c' := 1) (s' := 6) (as := [.int (0 : Int32)]) (v := none) (A'' := im_H g2 u o Y) 2 49 (fun n => rfl) rfl (x49_ok (g := g1) (a := (0 : Int32)) hc) ?_
      show iv_ev (iv_Xs L xs) 42 8 [.ref 3, .int (3 : Int32), .int (0 : Int32), .int a] [] (im_H g2 u o Y) 2 12 _
      cases hb1 : Op.ifCond.holds .lt a with
      | true =>
        have h := iv_bt hb1 h
        refine iv_brt (mi' := 42) (pc' := 23) (ls' := [.ref 3, .int (3 : Int32), .int (0 : Int32), .int a]) (st' := []) (A' := im_H g2 u o Y) (c' := 2) (s' := 12) (mi'' := 42) (pc'' := 12) (ls'' := [.ref 3, .int (3 : Int32), .int (0 : Int32), .int a]) (st'' := []) (A'' := im_H g2 u o Y) (c'' := 2) (s'' := 12) 2 0 0 hb1 (fun n => rfl) ?_
        refine iv_blk (mi' := 42) (pc' := 24) (ls' := [.ref 3, .int (3 : Int32), .int (0 : Int32), .int a]) (st' := [.int (0 : Int32)]) (A' := im_H g2 u o Y) (c' := 2) (s' := 12) 1 (fun n => rfl) ?_
        exact x42_r0_3_0_1_ok (g := g2) (y0 := a) (y1 := (0 : Int32)) h
      | false =>
        have h := iv_bf hb1 h
        refine iv_brf (mi' := 42) (pc' := 23) (ls' := [.ref 3, .int (3 : Int32), .int (0 : Int32), .int a]) (st' := []) (A' := im_H g2 u o Y) (c' := 2) (s' := 12) (mi'' := 42) (pc'' := 12) (ls'' := [.ref 3, .int (3 : Int32), .int (0 : Int32), .int a]) (st'' := []) (A'' := im_H g2 u o Y) (c'' := 2) (s'' := 12) 2 0 0 hb1 (fun n => rfl) ?_
        cases hb2 : Op.if_icmp.holds .gt a (4095 : Int32) with
        | true =>
          have h := iv_bt hb2 h
          refine iv_brt (mi' := 42) (pc' := 23) (ls' := [.ref 3, .int (3 : Int32), .int (0 : Int32), .int a]) (st' := []) (A' := im_H g2 u o Y) (c' := 2) (s' := 12) (mi'' := 42) (pc'' := 19) (ls'' := [.ref 3, .int (3 : Int32), .int (0 : Int32), .int a]) (st'' := []) (A'' := im_H g2 u o Y) (c'' := 2) (s'' := 12) 3 0 0 hb2 (fun n => rfl) ?_
          refine iv_blk (mi' := 42) (pc' := 24) (ls' := [.ref 3, .int (3 : Int32), .int (0 : Int32), .int a]) (st' := [.int (0 : Int32)]) (A' := im_H g2 u o Y) (c' := 2) (s' := 12) 1 (fun n => rfl) ?_
          exact x42_r0_3_0_1_ok (g := g2) (y0 := a) (y1 := (0 : Int32)) h
        | false =>
          have h := iv_bf hb2 h
          refine iv_brf (mi' := 42) (pc' := 23) (ls' := [.ref 3, .int (3 : Int32), .int (0 : Int32), .int a]) (st' := []) (A' := im_H g2 u o Y) (c' := 2) (s' := 12) (mi'' := 42) (pc'' := 19) (ls'' := [.ref 3, .int (3 : Int32), .int (0 : Int32), .int a]) (st'' := []) (A'' := im_H g2 u o Y) (c'' := 2) (s'' := 12) 3 0 0 hb2 (fun n => rfl) ?_
          refine iv_blk (mi' := 42) (pc' := 24) (ls' := [.ref 3, .int (3 : Int32), .int (0 : Int32), .int a]) (st' := [.int (1 : Int32)]) (A' := im_H g2 u o Y) (c' := 2) (s' := 12) 2 (fun n => rfl) ?_
          exact x42_r0_3_0_1_ok (g := g2) (y0 := a) (y1 := (1 : Int32)) h
def x52_r0_3_0 (g : im_M) : Option (im_T × im_M) :=
  Option.bind (x43 g (3 : Int32)) (fun q1 =>
    Sum.elim (fun z => some (.inl z, q1.2)) (fun _ =>
    Option.bind (x49 q1.2 (0 : Int32)) (fun q2 =>
      Sum.elim (fun z => some (.inl z, q2.2)) (fun _ =>
      Option.bind (x20_r24_0 q2.2 ) (fun q3 =>
        some (.inr q3.1, q3.2))) q2.1)) q1.1)
set_option maxRecDepth 100000 in
set_option maxHeartbeats 4000000 in
theorem x52_r0_3_0_ok {L : Nat} {xs : Nat → Int32} {g u mm : im_M} {o : Nat → Int64} {Y : iv_A} {ret : im_T} (h : x52_r0_3_0 g  = some (ret, mm)) : iv_ev (iv_Xs L xs) 52 0 [.ref 3, .int (3 : Int32), .int (0 : Int32)] [] (im_H g u o Y) 0 0 (im_res ret (im_H mm u o Y)) := by
  unfold x52_r0_3_0 at h
  obtain ⟨v1, g1, hc, h⟩ := iv_bd h
  cases v1 with
  | inl z =>
    have h := iv_sl h
    cases h
    exact iv_calu (mi' := 52) (pc' := 1) (ls' := [.ref 3, .int (3 : Int32), .int (0 : Int32)]) (rest := []) (A' := im_H g u o Y) (c' := 0) (s' := 0) (as := [.int (3 : Int32)]) (B := im_H g1 u o Y) 2 43 (z.val + 7) (fun n => rfl) rfl (im_zx z) rfl rfl (x43_ok (g := g) (a := (3 : Int32)) hc)
  | inr v1 =>
    have h := iv_sr h
    refine iv_cal (mi' := 52) (pc' := 1) (ls' := [.ref 3, .int (3 : Int32), .int (0 : Int32)]) (rest := []) (A' := im_H g u o Y) (c' := 0) (s' := 0) (as := [.int (3 : Int32)]) (v := none) (A'' := im_H g1 u o Y) 2 43 (fun n => rfl) rfl (x43_ok (g := g) (a := (3 : Int32)) hc) ?_
    show iv_ev (iv_Xs L xs) 52 4 [.ref 3, .int (3 : Int32), .int (0 : Int32)] [] (im_H g1 u o Y) 1 6 _
    obtain ⟨v2, g2, hc, h⟩ := iv_bd h
    cases v2 with
    | inl z =>
      have h := iv_sl h
      cases h
      exact iv_calu (mi' := 52) (pc' := 5) (ls' := [.ref 3, .int (3 : Int32), .int (0 : Int32)]) (rest := []) (A' := im_H g1 u o Y) (c' := 1) (s' := 6) (as := [.int (0 : Int32)]) (B := im_H g2 u o Y) 2 49 (z.val + 7) (fun n => rfl) rfl (im_zx z) rfl rfl (x49_ok (g := g1) (a := (0 : Int32)) hc)
    | inr v2 =>
      have h := iv_sr h
      refine iv_cal (mi' := 52) (pc' := 5) (ls' := [.ref 3, .int (3 : Int32), .int (0 : Int32)]) (rest := []) (A' := im_H g1 u o Y) (c' := 1) (s' := 6) (as := [.int (0 : Int32)]) (v := none) (A'' := im_H g2 u o Y) 2 49 (fun n => rfl) rfl (x49_ok (g := g1) (a := (0 : Int32)) hc) ?_
      show iv_ev (iv_Xs L xs) 52 8 [.ref 3, .int (3 : Int32), .int (0 : Int32)] [] (im_H g2 u o Y) 2 12 _
      obtain ⟨v3, g3, hc, h⟩ := iv_bd h
      refine iv_cal (mi' := 52) (pc' := 15) (ls' := [.ref 3, .int (3 : Int32), .int (0 : Int32)]) (rest := []) (A' := im_H g2 u o Y) (c' := 2) (s' := 12) (as := [.ref 27, .int (0 : Int32)]) (v := some (.int v3)) (A'' := im_H g3 u o Y) 6 20 (fun n => rfl) rfl (x20_r24_0_ok (g := g2)  hc) ?_
      show iv_ev (iv_Xs L xs) 52 18 [.ref 3, .int (3 : Int32), .int (0 : Int32)] [.int v3] (im_H g3 u o Y) 2 12 _
      cases h
      exact iv_ret 1 (fun n => rfl)
def x60_r0_3_0_1 (g : im_M) (y0 : Int32) : Option (im_T × im_M) :=
  Option.bind (x55 g y0) (fun q3 =>
    Sum.elim (fun z => some (.inl z, q3.2)) (fun _ =>
    Option.bind (x61_r8 q3.2 (3 : Int32) (0 : Int32)) (fun q4 =>
      some (.inr 0, q4.2))) q3.1)
set_option maxRecDepth 100000 in
set_option maxHeartbeats 4000000 in
theorem x60_r0_3_0_1_ok {L : Nat} {xs : Nat → Int32} {g u mm : im_M} {o : Nat → Int64} {Y : iv_A} {y0 : Int32} {ret : im_T} (h : x60_r0_3_0_1 g y0 = some (ret, mm)) : iv_ev (iv_Xs L xs) 60 32 [.ref 3, .int (3 : Int32), .int (0 : Int32)] [.int y0] (im_H g u o Y) 2 12 (im_rev ret (im_H mm u o Y)) := by
  unfold x60_r0_3_0_1 at h
  obtain ⟨v3, g3, hc, h⟩ := iv_bd h
  cases v3 with
  | inl z =>
    have h := iv_sl h
    cases h
    exact iv_calu (mi' := 60) (pc' := 32) (ls' := [.ref 3, .int (3 : Int32), .int (0 : Int32)]) (rest := []) (A' := im_H g u o Y) (c' := 2) (s' := 12) (as := [.int y0]) (B := im_H g3 u o Y) 1 55 (z.val + 7) (fun n => rfl) rfl (im_zx z) rfl rfl (x55_ok (g := g) (a := y0) hc)
  | inr v3 =>
    have h := iv_sr h
    refine iv_cal (mi' := 60) (pc' := 32) (ls' := [.ref 3, .int (3 : Int32), .int (0 : Int32)]) (rest := []) (A' := im_H g u o Y) (c' := 2) (s' := 12) (as := [.int y0]) (v := none) (A'' := im_H g3 u o Y) 1 55 (fun n => rfl) rfl (x55_ok (g := g) (a := y0) hc) ?_
    show iv_ev (iv_Xs L xs) 60 35 [.ref 3, .int (3 : Int32), .int (0 : Int32)] [] (im_H g3 u o Y) 3 18 _
    obtain ⟨v4, g4, hc, h⟩ := iv_bd h
    refine iv_cal (mi' := 60) (pc' := 41) (ls' := [.ref 3, .int (3 : Int32), .int (0 : Int32)]) (rest := []) (A' := im_H g3 u o Y) (c' := 3) (s' := 18) (as := [.ref 11, .int (3 : Int32), .int (0 : Int32)]) (v := none) (A'' := im_H g4 u o Y) 5 61 (fun n => rfl) rfl (x61_r8_ok (g := g3) (a := (3 : Int32)) (b := (0 : Int32)) hc) ?_
    show iv_ev (iv_Xs L xs) 60 44 [.ref 3, .int (3 : Int32), .int (0 : Int32)] [] (im_H g4 u o Y) 3 18 _
    cases h
    exact iv_ret 1 (fun n => rfl)
def x60_r0_3_0 (g : im_M) : Option (im_T × im_M) :=
  Option.bind (x43 g (3 : Int32)) (fun q1 =>
    Sum.elim (fun z => some (.inl z, q1.2)) (fun _ =>
    Option.bind (x49 q1.2 (0 : Int32)) (fun q2 =>
      Sum.elim (fun z => some (.inl z, q2.2)) (fun _ =>
      bif Op.if_icmp.holds .ne (q2.2 8 0) (-1 : Int32) then
        (x60_r0_3_0_1 q2.2 (0 : Int32))
      else
        (bif Op.if_icmp.holds .eq (q2.2 0 6) (3 : Int32) then
          (x60_r0_3_0_1 q2.2 (0 : Int32))
        else
          (x60_r0_3_0_1 q2.2 (1 : Int32)))) q2.1)) q1.1)
set_option maxRecDepth 100000 in
set_option maxHeartbeats 4000000 in
theorem x60_r0_3_0_ok {L : Nat} {xs : Nat → Int32} {g u mm : im_M} {o : Nat → Int64} {Y : iv_A} {ret : im_T} (h : x60_r0_3_0 g  = some (ret, mm)) : iv_ev (iv_Xs L xs) 60 0 [.ref 3, .int (3 : Int32), .int (0 : Int32)] [] (im_H g u o Y) 0 0 (im_rev ret (im_H mm u o Y)) := by
  unfold x60_r0_3_0 at h
  obtain ⟨v1, g1, hc, h⟩ := iv_bd h
  cases v1 with
  | inl z =>
    have h := iv_sl h
    cases h
    exact iv_calu (mi' := 60) (pc' := 1) (ls' := [.ref 3, .int (3 : Int32), .int (0 : Int32)]) (rest := []) (A' := im_H g u o Y) (c' := 0) (s' := 0) (as := [.int (3 : Int32)]) (B := im_H g1 u o Y) 2 43 (z.val + 7) (fun n => rfl) rfl (im_zx z) rfl rfl (x43_ok (g := g) (a := (3 : Int32)) hc)
  | inr v1 =>
    have h := iv_sr h
    refine iv_cal (mi' := 60) (pc' := 1) (ls' := [.ref 3, .int (3 : Int32), .int (0 : Int32)]) (rest := []) (A' := im_H g u o Y) (c' := 0) (s' := 0) (as := [.int (3 : Int32)]) (v := none) (A'' := im_H g1 u o Y) 2 43 (fun n => rfl) rfl (x43_ok (g := g) (a := (3 : Int32)) hc) ?_
    show iv_ev (iv_Xs L xs) 60 4 [.ref 3, .int (3 : Int32), .int (0 : Int32)] [] (im_H g1 u o Y) 1 6 _
    obtain ⟨v2, g2, hc, h⟩ := iv_bd h
    cases v2 with
    | inl z =>
      have h := iv_sl h
      cases h
      exact iv_calu (mi' := 60) (pc' := 5) (ls' := [.ref 3, .int (3 : Int32), .int (0 : Int32)]) (rest := []) (A' := im_H g1 u o Y) (c' := 1) (s' := 6) (as := [.int (0 : Int32)]) (B := im_H g2 u o Y) 2 49 (z.val + 7) (fun n => rfl) rfl (im_zx z) rfl rfl (x49_ok (g := g1) (a := (0 : Int32)) hc)
    | inr v2 =>
      have h := iv_sr h
      refine iv_cal (mi' := 60) (pc' := 5) (ls' := [.ref 3, .int (3 : Int32), .int (0 : Int32)]) (rest := []) (A' := im_H g1 u o Y) (c' := 1) (s' := 6) (as := [.int (0 : Int32)]) (v := none) (A'' := im_H g2 u o Y) 2 49 (fun n => rfl) rfl (x49_ok (g := g1) (a := (0 : Int32)) hc) ?_
      show iv_ev (iv_Xs L xs) 60 8 [.ref 3, .int (3 : Int32), .int (0 : Int32)] [] (im_H g2 u o Y) 2 12 _
      cases hb1 : Op.if_icmp.holds .ne (g2 8 0) (-1 : Int32) with
      | true =>
        have h := iv_bt hb1 h
        refine iv_brt (mi' := 60) (pc' := 31) (ls' := [.ref 3, .int (3 : Int32), .int (0 : Int32)]) (st' := []) (A' := im_H g2 u o Y) (c' := 2) (s' := 12) (mi'' := 60) (pc'' := 19) (ls'' := [.ref 3, .int (3 : Int32), .int (0 : Int32)]) (st'' := []) (A'' := im_H g2 u o Y) (c'' := 2) (s'' := 12) 5 0 0 hb1 (fun n => rfl) ?_
        refine iv_blk (mi' := 60) (pc' := 32) (ls' := [.ref 3, .int (3 : Int32), .int (0 : Int32)]) (st' := [.int (0 : Int32)]) (A' := im_H g2 u o Y) (c' := 2) (s' := 12) 1 (fun n => rfl) ?_
        exact x60_r0_3_0_1_ok (g := g2) (y0 := (0 : Int32)) h
      | false =>
        have h := iv_bf hb1 h
        refine iv_brf (mi' := 60) (pc' := 31) (ls' := [.ref 3, .int (3 : Int32), .int (0 : Int32)]) (st' := []) (A' := im_H g2 u o Y) (c' := 2) (s' := 12) (mi'' := 60) (pc'' := 19) (ls'' := [.ref 3, .int (3 : Int32), .int (0 : Int32)]) (st'' := []) (A'' := im_H g2 u o Y) (c'' := 2) (s'' := 12) 5 0 0 hb1 (fun n => rfl) ?_
        cases hb2 : Op.if_icmp.holds .eq (g2 0 6) (3 : Int32) with
        | true =>
          have h := iv_bt hb2 h
          refine iv_brt (mi' := 60) (pc' := 31) (ls' := [.ref 3, .int (3 : Int32), .int (0 : Int32)]) (st' := []) (A' := im_H g2 u o Y) (c' := 2) (s' := 12) (mi'' := 60) (pc'' := 27) (ls'' := [.ref 3, .int (3 : Int32), .int (0 : Int32)]) (st'' := []) (A'' := im_H g2 u o Y) (c'' := 2) (s'' := 12) 4 0 0 hb2 (fun n => rfl) ?_
          refine iv_blk (mi' := 60) (pc' := 32) (ls' := [.ref 3, .int (3 : Int32), .int (0 : Int32)]) (st' := [.int (0 : Int32)]) (A' := im_H g2 u o Y) (c' := 2) (s' := 12) 1 (fun n => rfl) ?_
          exact x60_r0_3_0_1_ok (g := g2) (y0 := (0 : Int32)) h
        | false =>
          have h := iv_bf hb2 h
          refine iv_brf (mi' := 60) (pc' := 31) (ls' := [.ref 3, .int (3 : Int32), .int (0 : Int32)]) (st' := []) (A' := im_H g2 u o Y) (c' := 2) (s' := 12) (mi'' := 60) (pc'' := 27) (ls'' := [.ref 3, .int (3 : Int32), .int (0 : Int32)]) (st'' := []) (A'' := im_H g2 u o Y) (c'' := 2) (s'' := 12) 4 0 0 hb2 (fun n => rfl) ?_
          refine iv_blk (mi' := 60) (pc' := 32) (ls' := [.ref 3, .int (3 : Int32), .int (0 : Int32)]) (st' := [.int (1 : Int32)]) (A' := im_H g2 u o Y) (c' := 2) (s' := 12) 2 (fun n => rfl) ?_
          exact x60_r0_3_0_1_ok (g := g2) (y0 := (1 : Int32)) h
def x42_r0_3_1_1 (g : im_M) (y0 : Int32) (y1 : Int32) : Option (im_T × im_M) :=
  Option.bind (x44 g y1) (fun q3 =>
    Sum.elim (fun z => some (.inl z, q3.2)) (fun _ =>
    Option.bind (x50_r24_1 q3.2 y0) (fun q4 =>
      some (.inr 0, q4.2))) q3.1)
set_option maxRecDepth 100000 in
set_option maxHeartbeats 4000000 in
theorem x42_r0_3_1_1_ok {L : Nat} {xs : Nat → Int32} {g u mm : im_M} {o : Nat → Int64} {Y : iv_A} {y0 y1 : Int32} {ret : im_T} (h : x42_r0_3_1_1 g y0 y1 = some (ret, mm)) : iv_ev (iv_Xs L xs) 42 24 [.ref 3, .int (3 : Int32), .int (1 : Int32), .int y0] [.int y1] (im_H g u o Y) 2 12 (im_rev ret (im_H mm u o Y)) := by
  unfold x42_r0_3_1_1 at h
  obtain ⟨v3, g3, hc, h⟩ := iv_bd h
  cases v3 with
  | inl z =>
    have h := iv_sl h
    cases h
    exact iv_calu (mi' := 42) (pc' := 24) (ls' := [.ref 3, .int (3 : Int32), .int (1 : Int32), .int y0]) (rest := []) (A' := im_H g u o Y) (c' := 2) (s' := 12) (as := [.int y1]) (B := im_H g3 u o Y) 1 44 (z.val + 7) (fun n => rfl) rfl (im_zx z) rfl rfl (x44_ok (g := g) (a := y1) hc)
  | inr v3 =>
    have h := iv_sr h
    refine iv_cal (mi' := 42) (pc' := 24) (ls' := [.ref 3, .int (3 : Int32), .int (1 : Int32), .int y0]) (rest := []) (A' := im_H g u o Y) (c' := 2) (s' := 12) (as := [.int y1]) (v := none) (A'' := im_H g3 u o Y) 1 44 (fun n => rfl) rfl (x44_ok (g := g) (a := y1) hc) ?_
    show iv_ev (iv_Xs L xs) 42 27 [.ref 3, .int (3 : Int32), .int (1 : Int32), .int y0] [] (im_H g3 u o Y) 3 18 _
    obtain ⟨v4, g4, hc, h⟩ := iv_bd h
    refine iv_cal (mi' := 42) (pc' := 35) (ls' := [.ref 3, .int (3 : Int32), .int (1 : Int32), .int y0]) (rest := []) (A' := im_H g3 u o Y) (c' := 3) (s' := 18) (as := [.ref 27, .int (1 : Int32), .int y0]) (v := none) (A'' := im_H g4 u o Y) 7 50 (fun n => rfl) rfl (x50_r24_1_ok (g := g3) (a := y0) hc) ?_
    show iv_ev (iv_Xs L xs) 42 38 [.ref 3, .int (3 : Int32), .int (1 : Int32), .int y0] [] (im_H g4 u o Y) 3 18 _
    cases h
    exact iv_ret 1 (fun n => rfl)
def x42_r0_3_1 (g : im_M) (a : Int32) : Option (im_T × im_M) :=
  Option.bind (x43 g (3 : Int32)) (fun q1 =>
    Sum.elim (fun z => some (.inl z, q1.2)) (fun _ =>
    Option.bind (x49 q1.2 (1 : Int32)) (fun q2 =>
      Sum.elim (fun z => some (.inl z, q2.2)) (fun _ =>
      bif Op.ifCond.holds .lt a then
        (x42_r0_3_1_1 q2.2 a (0 : Int32))
      else
        (bif Op.if_icmp.holds .gt a (4095 : Int32) then
          (x42_r0_3_1_1 q2.2 a (0 : Int32))
        else
          (x42_r0_3_1_1 q2.2 a (1 : Int32)))) q2.1)) q1.1)
set_option maxRecDepth 100000 in
set_option maxHeartbeats 4000000 in
theorem x42_r0_3_1_ok {L : Nat} {xs : Nat → Int32} {g u mm : im_M} {o : Nat → Int64} {Y : iv_A} {a : Int32} {ret : im_T} (h : x42_r0_3_1 g a = some (ret, mm)) : iv_ev (iv_Xs L xs) 42 0 [.ref 3, .int (3 : Int32), .int (1 : Int32), .int a] [] (im_H g u o Y) 0 0 (im_rev ret (im_H mm u o Y)) := by
  unfold x42_r0_3_1 at h
  obtain ⟨v1, g1, hc, h⟩ := iv_bd h
  cases v1 with
  | inl z =>
    have h := iv_sl h
    cases h
    exact iv_calu (mi' := 42) (pc' := 1) (ls' := [.ref 3, .int (3 : Int32), .int (1 : Int32), .int a]) (rest := []) (A' := im_H g u o Y) (c' := 0) (s' := 0) (as := [.int (3 : Int32)]) (B := im_H g1 u o Y) 2 43 (z.val + 7) (fun n => rfl) rfl (im_zx z) rfl rfl (x43_ok (g := g) (a := (3 : Int32)) hc)
  | inr v1 =>
    have h := iv_sr h
    refine iv_cal (mi' := 42) (pc' := 1) (ls' := [.ref 3, .int (3 : Int32), .int (1 : Int32), .int a]) (rest := []) (A' := im_H g u o Y) (c' := 0) (s' := 0) (as := [.int (3 : Int32)]) (v := none) (A'' := im_H g1 u o Y) 2 43 (fun n => rfl) rfl (x43_ok (g := g) (a := (3 : Int32)) hc) ?_
    show iv_ev (iv_Xs L xs) 42 4 [.ref 3, .int (3 : Int32), .int (1 : Int32), .int a] [] (im_H g1 u o Y) 1 6 _
    obtain ⟨v2, g2, hc, h⟩ := iv_bd h
    cases v2 with
    | inl z =>
      have h := iv_sl h
      cases h
      exact iv_calu (mi' := 42) (pc' := 5) (ls' := [.ref 3, .int (3 : Int32), .int (1 : Int32), .int a]) (rest := []) (A' := im_H g1 u o Y) (c' := 1) (s' := 6) (as := [.int (1 : Int32)]) (B := im_H g2 u o Y) 2 49 (z.val + 7) (fun n => rfl) rfl (im_zx z) rfl rfl (x49_ok (g := g1) (a := (1 : Int32)) hc)
    | inr v2 =>
      have h := iv_sr h
      refine iv_cal (mi' := 42) (pc' := 5) (ls' := [.ref 3, .int (3 : Int32), .int (1 : Int32), .int a]) (rest := []) (A' := im_H g1 u o Y) (c' := 1) (s' := 6) (as := [.int (1 : Int32)]) (v := none) (A'' := im_H g2 u o Y) 2 49 (fun n => rfl) rfl (x49_ok (g := g1) (a := (1 : Int32)) hc) ?_
      show iv_ev (iv_Xs L xs) 42 8 [.ref 3, .int (3 : Int32), .int (1 : Int32), .int a] [] (im_H g2 u o Y) 2 12 _
      cases hb1 : Op.ifCond.holds .lt a with
      | true =>
        have h := iv_bt hb1 h
        refine iv_brt (mi' := 42) (pc' := 23) (ls' := [.ref 3, .int (3 : Int32), .int (1 : Int32), .int a]) (st' := []) (A' := im_H g2 u o Y) (c' := 2) (s' := 12) (mi'' := 42) (pc'' := 12) (ls'' := [.ref 3, .int (3 : Int32), .int (1 : Int32), .int a]) (st'' := []) (A'' := im_H g2 u o Y) (c'' := 2) (s'' := 12) 2 0 0 hb1 (fun n => rfl) ?_
        refine iv_blk (mi' := 42) (pc' := 24) (ls' := [.ref 3, .int (3 : Int32), .int (1 : Int32), .int a]) (st' := [.int (0 : Int32)]) (A' := im_H g2 u o Y) (c' := 2) (s' := 12) 1 (fun n => rfl) ?_
        exact x42_r0_3_1_1_ok (g := g2) (y0 := a) (y1 := (0 : Int32)) h
      | false =>
        have h := iv_bf hb1 h
        refine iv_brf (mi' := 42) (pc' := 23) (ls' := [.ref 3, .int (3 : Int32), .int (1 : Int32), .int a]) (st' := []) (A' := im_H g2 u o Y) (c' := 2) (s' := 12) (mi'' := 42) (pc'' := 12) (ls'' := [.ref 3, .int (3 : Int32), .int (1 : Int32), .int a]) (st'' := []) (A'' := im_H g2 u o Y) (c'' := 2) (s'' := 12) 2 0 0 hb1 (fun n => rfl) ?_
        cases hb2 : Op.if_icmp.holds .gt a (4095 : Int32) with
        | true =>
          have h := iv_bt hb2 h
          refine iv_brt (mi' := 42) (pc' := 23) (ls' := [.ref 3, .int (3 : Int32), .int (1 : Int32), .int a]) (st' := []) (A' := im_H g2 u o Y) (c' := 2) (s' := 12) (mi'' := 42) (pc'' := 19) (ls'' := [.ref 3, .int (3 : Int32), .int (1 : Int32), .int a]) (st'' := []) (A'' := im_H g2 u o Y) (c'' := 2) (s'' := 12) 3 0 0 hb2 (fun n => rfl) ?_
          refine iv_blk (mi' := 42) (pc' := 24) (ls' := [.ref 3, .int (3 : Int32), .int (1 : Int32), .int a]) (st' := [.int (0 : Int32)]) (A' := im_H g2 u o Y) (c' := 2) (s' := 12) 1 (fun n => rfl) ?_
          exact x42_r0_3_1_1_ok (g := g2) (y0 := a) (y1 := (0 : Int32)) h
        | false =>
          have h := iv_bf hb2 h
          refine iv_brf (mi' := 42) (pc' := 23) (ls' := [.ref 3, .int (3 : Int32), .int (1 : Int32), .int a]) (st' := []) (A' := im_H g2 u o Y) (c' := 2) (s' := 12) (mi'' := 42) (pc'' := 19) (ls'' := [.ref 3, .int (3 : Int32), .int (1 : Int32), .int a]) (st'' := []) (A'' := im_H g2 u o Y) (c'' := 2) (s'' := 12) 3 0 0 hb2 (fun n => rfl) ?_
          refine iv_blk (mi' := 42) (pc' := 24) (ls' := [.ref 3, .int (3 : Int32), .int (1 : Int32), .int a]) (st' := [.int (1 : Int32)]) (A' := im_H g2 u o Y) (c' := 2) (s' := 12) 2 (fun n => rfl) ?_
          exact x42_r0_3_1_1_ok (g := g2) (y0 := a) (y1 := (1 : Int32)) h
def x52_r0_3_1 (g : im_M) : Option (im_T × im_M) :=
  Option.bind (x43 g (3 : Int32)) (fun q1 =>
    Sum.elim (fun z => some (.inl z, q1.2)) (fun _ =>
    Option.bind (x49 q1.2 (1 : Int32)) (fun q2 =>
      Sum.elim (fun z => some (.inl z, q2.2)) (fun _ =>
      Option.bind (x20_r24_1 q2.2 ) (fun q3 =>
        some (.inr q3.1, q3.2))) q2.1)) q1.1)
set_option maxRecDepth 100000 in
set_option maxHeartbeats 4000000 in
theorem x52_r0_3_1_ok {L : Nat} {xs : Nat → Int32} {g u mm : im_M} {o : Nat → Int64} {Y : iv_A} {ret : im_T} (h : x52_r0_3_1 g  = some (ret, mm)) : iv_ev (iv_Xs L xs) 52 0 [.ref 3, .int (3 : Int32), .int (1 : Int32)] [] (im_H g u o Y) 0 0 (im_res ret (im_H mm u o Y)) := by
  unfold x52_r0_3_1 at h
  obtain ⟨v1, g1, hc, h⟩ := iv_bd h
  cases v1 with
  | inl z =>
    have h := iv_sl h
    cases h
    exact iv_calu (mi' := 52) (pc' := 1) (ls' := [.ref 3, .int (3 : Int32), .int (1 : Int32)]) (rest := []) (A' := im_H g u o Y) (c' := 0) (s' := 0) (as := [.int (3 : Int32)]) (B := im_H g1 u o Y) 2 43 (z.val + 7) (fun n => rfl) rfl (im_zx z) rfl rfl (x43_ok (g := g) (a := (3 : Int32)) hc)
  | inr v1 =>
    have h := iv_sr h
    refine iv_cal (mi' := 52) (pc' := 1) (ls' := [.ref 3, .int (3 : Int32), .int (1 : Int32)]) (rest := []) (A' := im_H g u o Y) (c' := 0) (s' := 0) (as := [.int (3 : Int32)]) (v := none) (A'' := im_H g1 u o Y) 2 43 (fun n => rfl) rfl (x43_ok (g := g) (a := (3 : Int32)) hc) ?_
    show iv_ev (iv_Xs L xs) 52 4 [.ref 3, .int (3 : Int32), .int (1 : Int32)] [] (im_H g1 u o Y) 1 6 _
    obtain ⟨v2, g2, hc, h⟩ := iv_bd h
    cases v2 with
    | inl z =>
      have h := iv_sl h
      cases h
      exact iv_calu (mi' := 52) (pc' := 5) (ls' := [.ref 3, .int (3 : Int32), .int (1 : Int32)]) (rest := []) (A' := im_H g1 u o Y) (c' := 1) (s' := 6) (as := [.int (1 : Int32)]) (B := im_H g2 u o Y) 2 49 (z.val + 7) (fun n => rfl) rfl (im_zx z) rfl rfl (x49_ok (g := g1) (a := (1 : Int32)) hc)
    | inr v2 =>
      have h := iv_sr h
      refine iv_cal (mi' := 52) (pc' := 5) (ls' := [.ref 3, .int (3 : Int32), .int (1 : Int32)]) (rest := []) (A' := im_H g1 u o Y) (c' := 1) (s' := 6) (as := [.int (1 : Int32)]) (v := none) (A'' := im_H g2 u o Y) 2 49 (fun n => rfl) rfl (x49_ok (g := g1) (a := (1 : Int32)) hc) ?_
      show iv_ev (iv_Xs L xs) 52 8 [.ref 3, .int (3 : Int32), .int (1 : Int32)] [] (im_H g2 u o Y) 2 12 _
      obtain ⟨v3, g3, hc, h⟩ := iv_bd h
      refine iv_cal (mi' := 52) (pc' := 15) (ls' := [.ref 3, .int (3 : Int32), .int (1 : Int32)]) (rest := []) (A' := im_H g2 u o Y) (c' := 2) (s' := 12) (as := [.ref 27, .int (1 : Int32)]) (v := some (.int v3)) (A'' := im_H g3 u o Y) 6 20 (fun n => rfl) rfl (x20_r24_1_ok (g := g2)  hc) ?_
      show iv_ev (iv_Xs L xs) 52 18 [.ref 3, .int (3 : Int32), .int (1 : Int32)] [.int v3] (im_H g3 u o Y) 2 12 _
      cases h
      exact iv_ret 1 (fun n => rfl)
def x60_r0_3_1_1 (g : im_M) (y0 : Int32) : Option (im_T × im_M) :=
  Option.bind (x55 g y0) (fun q3 =>
    Sum.elim (fun z => some (.inl z, q3.2)) (fun _ =>
    Option.bind (x61_r8 q3.2 (3 : Int32) (1 : Int32)) (fun q4 =>
      some (.inr 0, q4.2))) q3.1)
set_option maxRecDepth 100000 in
set_option maxHeartbeats 4000000 in
theorem x60_r0_3_1_1_ok {L : Nat} {xs : Nat → Int32} {g u mm : im_M} {o : Nat → Int64} {Y : iv_A} {y0 : Int32} {ret : im_T} (h : x60_r0_3_1_1 g y0 = some (ret, mm)) : iv_ev (iv_Xs L xs) 60 32 [.ref 3, .int (3 : Int32), .int (1 : Int32)] [.int y0] (im_H g u o Y) 2 12 (im_rev ret (im_H mm u o Y)) := by
  unfold x60_r0_3_1_1 at h
  obtain ⟨v3, g3, hc, h⟩ := iv_bd h
  cases v3 with
  | inl z =>
    have h := iv_sl h
    cases h
    exact iv_calu (mi' := 60) (pc' := 32) (ls' := [.ref 3, .int (3 : Int32), .int (1 : Int32)]) (rest := []) (A' := im_H g u o Y) (c' := 2) (s' := 12) (as := [.int y0]) (B := im_H g3 u o Y) 1 55 (z.val + 7) (fun n => rfl) rfl (im_zx z) rfl rfl (x55_ok (g := g) (a := y0) hc)
  | inr v3 =>
    have h := iv_sr h
    refine iv_cal (mi' := 60) (pc' := 32) (ls' := [.ref 3, .int (3 : Int32), .int (1 : Int32)]) (rest := []) (A' := im_H g u o Y) (c' := 2) (s' := 12) (as := [.int y0]) (v := none) (A'' := im_H g3 u o Y) 1 55 (fun n => rfl) rfl (x55_ok (g := g) (a := y0) hc) ?_
    show iv_ev (iv_Xs L xs) 60 35 [.ref 3, .int (3 : Int32), .int (1 : Int32)] [] (im_H g3 u o Y) 3 18 _
    obtain ⟨v4, g4, hc, h⟩ := iv_bd h
    refine iv_cal (mi' := 60) (pc' := 41) (ls' := [.ref 3, .int (3 : Int32), .int (1 : Int32)]) (rest := []) (A' := im_H g3 u o Y) (c' := 3) (s' := 18) (as := [.ref 11, .int (3 : Int32), .int (1 : Int32)]) (v := none) (A'' := im_H g4 u o Y) 5 61 (fun n => rfl) rfl (x61_r8_ok (g := g3) (a := (3 : Int32)) (b := (1 : Int32)) hc) ?_
    show iv_ev (iv_Xs L xs) 60 44 [.ref 3, .int (3 : Int32), .int (1 : Int32)] [] (im_H g4 u o Y) 3 18 _
    cases h
    exact iv_ret 1 (fun n => rfl)
def x60_r0_3_1 (g : im_M) : Option (im_T × im_M) :=
  Option.bind (x43 g (3 : Int32)) (fun q1 =>
    Sum.elim (fun z => some (.inl z, q1.2)) (fun _ =>
    Option.bind (x49 q1.2 (1 : Int32)) (fun q2 =>
      Sum.elim (fun z => some (.inl z, q2.2)) (fun _ =>
      bif Op.if_icmp.holds .ne (q2.2 8 0) (-1 : Int32) then
        (x60_r0_3_1_1 q2.2 (0 : Int32))
      else
        (bif Op.if_icmp.holds .eq (q2.2 0 6) (3 : Int32) then
          (x60_r0_3_1_1 q2.2 (0 : Int32))
        else
          (x60_r0_3_1_1 q2.2 (1 : Int32)))) q2.1)) q1.1)
set_option maxRecDepth 100000 in
set_option maxHeartbeats 4000000 in
theorem x60_r0_3_1_ok {L : Nat} {xs : Nat → Int32} {g u mm : im_M} {o : Nat → Int64} {Y : iv_A} {ret : im_T} (h : x60_r0_3_1 g  = some (ret, mm)) : iv_ev (iv_Xs L xs) 60 0 [.ref 3, .int (3 : Int32), .int (1 : Int32)] [] (im_H g u o Y) 0 0 (im_rev ret (im_H mm u o Y)) := by
  unfold x60_r0_3_1 at h
  obtain ⟨v1, g1, hc, h⟩ := iv_bd h
  cases v1 with
  | inl z =>
    have h := iv_sl h
    cases h
    exact iv_calu (mi' := 60) (pc' := 1) (ls' := [.ref 3, .int (3 : Int32), .int (1 : Int32)]) (rest := []) (A' := im_H g u o Y) (c' := 0) (s' := 0) (as := [.int (3 : Int32)]) (B := im_H g1 u o Y) 2 43 (z.val + 7) (fun n => rfl) rfl (im_zx z) rfl rfl (x43_ok (g := g) (a := (3 : Int32)) hc)
  | inr v1 =>
    have h := iv_sr h
    refine iv_cal (mi' := 60) (pc' := 1) (ls' := [.ref 3, .int (3 : Int32), .int (1 : Int32)]) (rest := []) (A' := im_H g u o Y) (c' := 0) (s' := 0) (as := [.int (3 : Int32)]) (v := none) (A'' := im_H g1 u o Y) 2 43 (fun n => rfl) rfl (x43_ok (g := g) (a := (3 : Int32)) hc) ?_
    show iv_ev (iv_Xs L xs) 60 4 [.ref 3, .int (3 : Int32), .int (1 : Int32)] [] (im_H g1 u o Y) 1 6 _
    obtain ⟨v2, g2, hc, h⟩ := iv_bd h
    cases v2 with
    | inl z =>
      have h := iv_sl h
      cases h
      exact iv_calu (mi' := 60) (pc' := 5) (ls' := [.ref 3, .int (3 : Int32), .int (1 : Int32)]) (rest := []) (A' := im_H g1 u o Y) (c' := 1) (s' := 6) (as := [.int (1 : Int32)]) (B := im_H g2 u o Y) 2 49 (z.val + 7) (fun n => rfl) rfl (im_zx z) rfl rfl (x49_ok (g := g1) (a := (1 : Int32)) hc)
    | inr v2 =>
      have h := iv_sr h
      refine iv_cal (mi' := 60) (pc' := 5) (ls' := [.ref 3, .int (3 : Int32), .int (1 : Int32)]) (rest := []) (A' := im_H g1 u o Y) (c' := 1) (s' := 6) (as := [.int (1 : Int32)]) (v := none) (A'' := im_H g2 u o Y) 2 49 (fun n => rfl) rfl (x49_ok (g := g1) (a := (1 : Int32)) hc) ?_
      show iv_ev (iv_Xs L xs) 60 8 [.ref 3, .int (3 : Int32), .int (1 : Int32)] [] (im_H g2 u o Y) 2 12 _
      cases hb1 : Op.if_icmp.holds .ne (g2 8 0) (-1 : Int32) with
      | true =>
        have h := iv_bt hb1 h
        refine iv_brt (mi' := 60) (pc' := 31) (ls' := [.ref 3, .int (3 : Int32), .int (1 : Int32)]) (st' := []) (A' := im_H g2 u o Y) (c' := 2) (s' := 12) (mi'' := 60) (pc'' := 19) (ls'' := [.ref 3, .int (3 : Int32), .int (1 : Int32)]) (st'' := []) (A'' := im_H g2 u o Y) (c'' := 2) (s'' := 12) 5 0 0 hb1 (fun n => rfl) ?_
        refine iv_blk (mi' := 60) (pc' := 32) (ls' := [.ref 3, .int (3 : Int32), .int (1 : Int32)]) (st' := [.int (0 : Int32)]) (A' := im_H g2 u o Y) (c' := 2) (s' := 12) 1 (fun n => rfl) ?_
        exact x60_r0_3_1_1_ok (g := g2) (y0 := (0 : Int32)) h
      | false =>
        have h := iv_bf hb1 h
        refine iv_brf (mi' := 60) (pc' := 31) (ls' := [.ref 3, .int (3 : Int32), .int (1 : Int32)]) (st' := []) (A' := im_H g2 u o Y) (c' := 2) (s' := 12) (mi'' := 60) (pc'' := 19) (ls'' := [.ref 3, .int (3 : Int32), .int (1 : Int32)]) (st'' := []) (A'' := im_H g2 u o Y) (c'' := 2) (s'' := 12) 5 0 0 hb1 (fun n => rfl) ?_
        cases hb2 : Op.if_icmp.holds .eq (g2 0 6) (3 : Int32) with
        | true =>
          have h := iv_bt hb2 h
          refine iv_brt (mi' := 60) (pc' := 31) (ls' := [.ref 3, .int (3 : Int32), .int (1 : Int32)]) (st' := []) (A' := im_H g2 u o Y) (c' := 2) (s' := 12) (mi'' := 60) (pc'' := 27) (ls'' := [.ref 3, .int (3 : Int32), .int (1 : Int32)]) (st'' := []) (A'' := im_H g2 u o Y) (c'' := 2) (s'' := 12) 4 0 0 hb2 (fun n => rfl) ?_
          refine iv_blk (mi' := 60) (pc' := 32) (ls' := [.ref 3, .int (3 : Int32), .int (1 : Int32)]) (st' := [.int (0 : Int32)]) (A' := im_H g2 u o Y) (c' := 2) (s' := 12) 1 (fun n => rfl) ?_
          exact x60_r0_3_1_1_ok (g := g2) (y0 := (0 : Int32)) h
        | false =>
          have h := iv_bf hb2 h
          refine iv_brf (mi' := 60) (pc' := 31) (ls' := [.ref 3, .int (3 : Int32), .int (1 : Int32)]) (st' := []) (A' := im_H g2 u o Y) (c' := 2) (s' := 12) (mi'' := 60) (pc'' := 27) (ls'' := [.ref 3, .int (3 : Int32), .int (1 : Int32)]) (st'' := []) (A'' := im_H g2 u o Y) (c'' := 2) (s'' := 12) 4 0 0 hb2 (fun n => rfl) ?_
          refine iv_blk (mi' := 60) (pc' := 32) (ls' := [.ref 3, .int (3 : Int32), .int (1 : Int32)]) (st' := [.int (1 : Int32)]) (A' := im_H g2 u o Y) (c' := 2) (s' := 12) 2 (fun n => rfl) ?_
          exact x60_r0_3_1_1_ok (g := g2) (y0 := (1 : Int32)) h
def x42_r0_3_2_1 (g : im_M) (y0 : Int32) (y1 : Int32) : Option (im_T × im_M) :=
  Option.bind (x44 g y1) (fun q3 =>
    Sum.elim (fun z => some (.inl z, q3.2)) (fun _ =>
    Option.bind (x50_r24_2 q3.2 y0) (fun q4 =>
      some (.inr 0, q4.2))) q3.1)
set_option maxRecDepth 100000 in
set_option maxHeartbeats 4000000 in
theorem x42_r0_3_2_1_ok {L : Nat} {xs : Nat → Int32} {g u mm : im_M} {o : Nat → Int64} {Y : iv_A} {y0 y1 : Int32} {ret : im_T} (h : x42_r0_3_2_1 g y0 y1 = some (ret, mm)) : iv_ev (iv_Xs L xs) 42 24 [.ref 3, .int (3 : Int32), .int (2 : Int32), .int y0] [.int y1] (im_H g u o Y) 2 12 (im_rev ret (im_H mm u o Y)) := by
  unfold x42_r0_3_2_1 at h
  obtain ⟨v3, g3, hc, h⟩ := iv_bd h
  cases v3 with
  | inl z =>
    have h := iv_sl h
    cases h
    exact iv_calu (mi' := 42) (pc' := 24) (ls' := [.ref 3, .int (3 : Int32), .int (2 : Int32), .int y0]) (rest := []) (A' := im_H g u o Y) (c' := 2) (s' := 12) (as := [.int y1]) (B := im_H g3 u o Y) 1 44 (z.val + 7) (fun n => rfl) rfl (im_zx z) rfl rfl (x44_ok (g := g) (a := y1) hc)
  | inr v3 =>
    have h := iv_sr h
    refine iv_cal (mi' := 42) (pc' := 24) (ls' := [.ref 3, .int (3 : Int32), .int (2 : Int32), .int y0]) (rest := []) (A' := im_H g u o Y) (c' := 2) (s' := 12) (as := [.int y1]) (v := none) (A'' := im_H g3 u o Y) 1 44 (fun n => rfl) rfl (x44_ok (g := g) (a := y1) hc) ?_
    show iv_ev (iv_Xs L xs) 42 27 [.ref 3, .int (3 : Int32), .int (2 : Int32), .int y0] [] (im_H g3 u o Y) 3 18 _
    obtain ⟨v4, g4, hc, h⟩ := iv_bd h
    refine iv_cal (mi' := 42) (pc' := 35) (ls' := [.ref 3, .int (3 : Int32), .int (2 : Int32), .int y0]) (rest := []) (A' := im_H g3 u o Y) (c' := 3) (s' := 18) (as := [.ref 27, .int (2 : Int32), .int y0]) (v := none) (A'' := im_H g4 u o Y) 7 50 (fun n => rfl) rfl (x50_r24_2_ok (g := g3) (a := y0) hc) ?_
    show iv_ev (iv_Xs L xs) 42 38 [.ref 3, .int (3 : Int32), .int (2 : Int32), .int y0] [] (im_H g4 u o Y) 3 18 _
    cases h
    exact iv_ret 1 (fun n => rfl)
def x42_r0_3_2 (g : im_M) (a : Int32) : Option (im_T × im_M) :=
  Option.bind (x43 g (3 : Int32)) (fun q1 =>
    Sum.elim (fun z => some (.inl z, q1.2)) (fun _ =>
    Option.bind (x49 q1.2 (2 : Int32)) (fun q2 =>
      Sum.elim (fun z => some (.inl z, q2.2)) (fun _ =>
      bif Op.ifCond.holds .lt a then
        (x42_r0_3_2_1 q2.2 a (0 : Int32))
      else
        (bif Op.if_icmp.holds .gt a (4095 : Int32) then
          (x42_r0_3_2_1 q2.2 a (0 : Int32))
        else
          (x42_r0_3_2_1 q2.2 a (1 : Int32)))) q2.1)) q1.1)
set_option maxRecDepth 100000 in
set_option maxHeartbeats 4000000 in
theorem x42_r0_3_2_ok {L : Nat} {xs : Nat → Int32} {g u mm : im_M} {o : Nat → Int64} {Y : iv_A} {a : Int32} {ret : im_T} (h : x42_r0_3_2 g a = some (ret, mm)) : iv_ev (iv_Xs L xs) 42 0 [.ref 3, .int (3 : Int32), .int (2 : Int32), .int a] [] (im_H g u o Y) 0 0 (im_rev ret (im_H mm u o Y)) := by
  unfold x42_r0_3_2 at h
  obtain ⟨v1, g1, hc, h⟩ := iv_bd h
  cases v1 with
  | inl z =>
    have h := iv_sl h
    cases h
    exact iv_calu (mi' := 42) (pc' := 1) (ls' := [.ref 3, .int (3 : Int32), .int (2 : Int32), .int a]) (rest := []) (A' := im_H g u o Y) (c' := 0) (s' := 0) (as := [.int (3 : Int32)]) (B := im_H g1 u o Y) 2 43 (z.val + 7) (fun n => rfl) rfl (im_zx z) rfl rfl (x43_ok (g := g) (a := (3 : Int32)) hc)
  | inr v1 =>
    have h := iv_sr h
    refine iv_cal (mi' := 42) (pc' := 1) (ls' := [.ref 3, .int (3 : Int32), .int (2 : Int32), .int a]) (rest := []) (A' := im_H g u o Y) (c' := 0) (s' := 0) (as := [.int (3 : Int32)]) (v := none) (A'' := im_H g1 u o Y) 2 43 (fun n => rfl) rfl (x43_ok (g := g) (a := (3 : Int32)) hc) ?_
    show iv_ev (iv_Xs L xs) 42 4 [.ref 3, .int (3 : Int32), .int (2 : Int32), .int a] [] (im_H g1 u o Y) 1 6 _
    obtain ⟨v2, g2, hc, h⟩ := iv_bd h
    cases v2 with
    | inl z =>
      have h := iv_sl h
      cases h
      exact iv_calu (mi' := 42) (pc' := 5) (ls' := [.ref 3, .int (3 : Int32), .int (2 : Int32), .int a]) (rest := []) (A' := im_H g1 u o Y) (c' := 1) (s' := 6) (as := [.int (2 : Int32)]) (B := im_H g2 u o Y) 2 49 (z.val + 7) (fun n => rfl) rfl (im_zx z) rfl rfl (x49_ok (g := g1) (a := (2 : Int32)) hc)
    | inr v2 =>
      have h := iv_sr h
      refine iv_cal (mi' := 42) (pc' := 5) (ls' := [.ref 3, .int (3 : Int32), .int (2 : Int32), .int a]) (rest := []) (A' := im_H g1 u o Y) (c' := 1) (s' := 6) (as := [.int (2 : Int32)]) (v := none) (A'' := im_H g2 u o Y) 2 49 (fun n => rfl) rfl (x49_ok (g := g1) (a := (2 : Int32)) hc) ?_
      show iv_ev (iv_Xs L xs) 42 8 [.ref 3, .int (3 : Int32), .int (2 : Int32), .int a] [] (im_H g2 u o Y) 2 12 _
      cases hb1 : Op.ifCond.holds .lt a with
      | true =>
        have h := iv_bt hb1 h
        refine iv_brt (mi' := 42) (pc' := 23) (ls' := [.ref 3, .int (3 : Int32), .int (2 : Int32), .int a]) (st' := []) (A' := im_H g2 u o Y) (c' := 2) (s' := 12) (mi'' := 42) (pc'' := 12) (ls'' := [.ref 3, .int (3 : Int32), .int (2 : Int32), .int a]) (st'' := []) (A'' := im_H g2 u o Y) (c'' := 2) (s'' := 12) 2 0 0 hb1 (fun n => rfl) ?_
        refine iv_blk (mi' := 42) (pc' := 24) (ls' := [.ref 3, .int (3 : Int32), .int (2 : Int32), .int a]) (st' := [.int (0 : Int32)]) (A' := im_H g2 u o Y) (c' := 2) (s' := 12) 1 (fun n => rfl) ?_
        exact x42_r0_3_2_1_ok (g := g2) (y0 := a) (y1 := (0 : Int32)) h
      | false =>
        have h := iv_bf hb1 h
        refine iv_brf (mi' := 42) (pc' := 23) (ls' := [.ref 3, .int (3 : Int32), .int (2 : Int32), .int a]) (st' := []) (A' := im_H g2 u o Y) (c' := 2) (s' := 12) (mi'' := 42) (pc'' := 12) (ls'' := [.ref 3, .int (3 : Int32), .int (2 : Int32), .int a]) (st'' := []) (A'' := im_H g2 u o Y) (c'' := 2) (s'' := 12) 2 0 0 hb1 (fun n => rfl) ?_
        cases hb2 : Op.if_icmp.holds .gt a (4095 : Int32) with
        | true =>
          have h := iv_bt hb2 h
          refine iv_brt (mi' := 42) (pc' := 23) (ls' := [.ref 3, .int (3 : Int32), .int (2 : Int32), .int a]) (st' := []) (A' := im_H g2 u o Y) (c' := 2) (s' := 12) (mi'' := 42) (pc'' := 19) (ls'' := [.ref 3, .int (3 : Int32), .int (2 : Int32), .int a]) (st'' := []) (A'' := im_H g2 u o Y) (c'' := 2) (s'' := 12) 3 0 0 hb2 (fun n => rfl) ?_
          refine iv_blk (mi' := 42) (pc' := 24) (ls' := [.ref 3, .int (3 : Int32), .int (2 : Int32), .int a]) (st' := [.int (0 : Int32)]) (A' := im_H g2 u o Y) (c' := 2) (s' := 12) 1 (fun n => rfl) ?_
          exact x42_r0_3_2_1_ok (g := g2) (y0 := a) (y1 := (0 : Int32)) h
        | false =>
          have h := iv_bf hb2 h
          refine iv_brf (mi' := 42) (pc' := 23) (ls' := [.ref 3, .int (3 : Int32), .int (2 : Int32), .int a]) (st' := []) (A' := im_H g2 u o Y) (c' := 2) (s' := 12) (mi'' := 42) (pc'' := 19) (ls'' := [.ref 3, .int (3 : Int32), .int (2 : Int32), .int a]) (st'' := []) (A'' := im_H g2 u o Y) (c'' := 2) (s'' := 12) 3 0 0 hb2 (fun n => rfl) ?_
          refine iv_blk (mi' := 42) (pc' := 24) (ls' := [.ref 3, .int (3 : Int32), .int (2 : Int32), .int a]) (st' := [.int (1 : Int32)]) (A' := im_H g2 u o Y) (c' := 2) (s' := 12) 2 (fun n => rfl) ?_
          exact x42_r0_3_2_1_ok (g := g2) (y0 := a) (y1 := (1 : Int32)) h
def x52_r0_3_2 (g : im_M) : Option (im_T × im_M) :=
  Option.bind (x43 g (3 : Int32)) (fun q1 =>
    Sum.elim (fun z => some (.inl z, q1.2)) (fun _ =>
    Option.bind (x49 q1.2 (2 : Int32)) (fun q2 =>
      Sum.elim (fun z => some (.inl z, q2.2)) (fun _ =>
      Option.bind (x20_r24_2 q2.2 ) (fun q3 =>
        some (.inr q3.1, q3.2))) q2.1)) q1.1)
set_option maxRecDepth 100000 in
set_option maxHeartbeats 4000000 in
theorem x52_r0_3_2_ok {L : Nat} {xs : Nat → Int32} {g u mm : im_M} {o : Nat → Int64} {Y : iv_A} {ret : im_T} (h : x52_r0_3_2 g  = some (ret, mm)) : iv_ev (iv_Xs L xs) 52 0 [.ref 3, .int (3 : Int32), .int (2 : Int32)] [] (im_H g u o Y) 0 0 (im_res ret (im_H mm u o Y)) := by
  unfold x52_r0_3_2 at h
  obtain ⟨v1, g1, hc, h⟩ := iv_bd h
  cases v1 with
  | inl z =>
    have h := iv_sl h
    cases h
    exact iv_calu (mi' := 52) (pc' := 1) (ls' := [.ref 3, .int (3 : Int32), .int (2 : Int32)]) (rest := []) (A' := im_H g u o Y) (c' := 0) (s' := 0) (as := [.int (3 : Int32)]) (B := im_H g1 u o Y) 2 43 (z.val + 7) (fun n => rfl) rfl (im_zx z) rfl rfl (x43_ok (g := g) (a := (3 : Int32)) hc)
  | inr v1 =>
    have h := iv_sr h
    refine iv_cal (mi' := 52) (pc' := 1) (ls' := [.ref 3, .int (3 : Int32), .int (2 : Int32)]) (rest := []) (A' := im_H g u o Y) (c' := 0) (s' := 0) (as := [.int (3 : Int32)]) (v := none) (A'' := im_H g1 u o Y) 2 43 (fun n => rfl) rfl (x43_ok (g := g) (a := (3 : Int32)) hc) ?_
    show iv_ev (iv_Xs L xs) 52 4 [.ref 3, .int (3 : Int32), .int (2 : Int32)] [] (im_H g1 u o Y) 1 6 _
    obtain ⟨v2, g2, hc, h⟩ := iv_bd h
    cases v2 with
    | inl z =>
      have h := iv_sl h
      cases h
      exact iv_calu (mi' := 52) (pc' := 5) (ls' := [.ref 3, .int (3 : Int32), .int (2 : Int32)]) (rest := []) (A' := im_H g1 u o Y) (c' := 1) (s' := 6) (as := [.int (2 : Int32)]) (B := im_H g2 u o Y) 2 49 (z.val + 7) (fun n => rfl) rfl (im_zx z) rfl rfl (x49_ok (g := g1) (a := (2 : Int32)) hc)
    | inr v2 =>
      have h := iv_sr h
      refine iv_cal (mi' := 52) (pc' := 5) (ls' := [.ref 3, .int (3 : Int32), .int (2 : Int32)]) (rest := []) (A' := im_H g1 u o Y) (c' := 1) (s' := 6) (as := [.int (2 : Int32)]) (v := none) (A'' := im_H g2 u o Y) 2 49 (fun n => rfl) rfl (x49_ok (g := g1) (a := (2 : Int32)) hc) ?_
      show iv_ev (iv_Xs L xs) 52 8 [.ref 3, .int (3 : Int32), .int (2 : Int32)] [] (im_H g2 u o Y) 2 12 _
      obtain ⟨v3, g3, hc, h⟩ := iv_bd h
      refine iv_cal (mi' := 52) (pc' := 15) (ls' := [.ref 3, .int (3 : Int32), .int (2 : Int32)]) (rest := []) (A' := im_H g2 u o Y) (c' := 2) (s' := 12) (as := [.ref 27, .int (2 : Int32)]) (v := some (.int v3)) (A'' := im_H g3 u o Y) 6 20 (fun n => rfl) rfl (x20_r24_2_ok (g := g2)  hc) ?_
      show iv_ev (iv_Xs L xs) 52 18 [.ref 3, .int (3 : Int32), .int (2 : Int32)] [.int v3] (im_H g3 u o Y) 2 12 _
      cases h
      exact iv_ret 1 (fun n => rfl)
def x60_r0_3_2_1 (g : im_M) (y0 : Int32) : Option (im_T × im_M) :=
  Option.bind (x55 g y0) (fun q3 =>
    Sum.elim (fun z => some (.inl z, q3.2)) (fun _ =>
    Option.bind (x61_r8 q3.2 (3 : Int32) (2 : Int32)) (fun q4 =>
      some (.inr 0, q4.2))) q3.1)
set_option maxRecDepth 100000 in
set_option maxHeartbeats 4000000 in
theorem x60_r0_3_2_1_ok {L : Nat} {xs : Nat → Int32} {g u mm : im_M} {o : Nat → Int64} {Y : iv_A} {y0 : Int32} {ret : im_T} (h : x60_r0_3_2_1 g y0 = some (ret, mm)) : iv_ev (iv_Xs L xs) 60 32 [.ref 3, .int (3 : Int32), .int (2 : Int32)] [.int y0] (im_H g u o Y) 2 12 (im_rev ret (im_H mm u o Y)) := by
  unfold x60_r0_3_2_1 at h
  obtain ⟨v3, g3, hc, h⟩ := iv_bd h
  cases v3 with
  | inl z =>
    have h := iv_sl h
    cases h
    exact iv_calu (mi' := 60) (pc' := 32) (ls' := [.ref 3, .int (3 : Int32), .int (2 : Int32)]) (rest := []) (A' := im_H g u o Y) (c' := 2) (s' := 12) (as := [.int y0]) (B := im_H g3 u o Y) 1 55 (z.val + 7) (fun n => rfl) rfl (im_zx z) rfl rfl (x55_ok (g := g) (a := y0) hc)
  | inr v3 =>
    have h := iv_sr h
    refine iv_cal (mi' := 60) (pc' := 32) (ls' := [.ref 3, .int (3 : Int32), .int (2 : Int32)]) (rest := []) (A' := im_H g u o Y) (c' := 2) (s' := 12) (as := [.int y0]) (v := none) (A'' := im_H g3 u o Y) 1 55 (fun n => rfl) rfl (x55_ok (g := g) (a := y0) hc) ?_
    show iv_ev (iv_Xs L xs) 60 35 [.ref 3, .int (3 : Int32), .int (2 : Int32)] [] (im_H g3 u o Y) 3 18 _
    obtain ⟨v4, g4, hc, h⟩ := iv_bd h
    refine iv_cal (mi' := 60) (pc' := 41) (ls' := [.ref 3, .int (3 : Int32), .int (2 : Int32)]) (rest := []) (A' := im_H g3 u o Y) (c' := 3) (s' := 18) (as := [.ref 11, .int (3 : Int32), .int (2 : Int32)]) (v := none) (A'' := im_H g4 u o Y) 5 61 (fun n => rfl) rfl (x61_r8_ok (g := g3) (a := (3 : Int32)) (b := (2 : Int32)) hc) ?_
    show iv_ev (iv_Xs L xs) 60 44 [.ref 3, .int (3 : Int32), .int (2 : Int32)] [] (im_H g4 u o Y) 3 18 _
    cases h
    exact iv_ret 1 (fun n => rfl)
def x60_r0_3_2 (g : im_M) : Option (im_T × im_M) :=
  Option.bind (x43 g (3 : Int32)) (fun q1 =>
    Sum.elim (fun z => some (.inl z, q1.2)) (fun _ =>
    Option.bind (x49 q1.2 (2 : Int32)) (fun q2 =>
      Sum.elim (fun z => some (.inl z, q2.2)) (fun _ =>
      bif Op.if_icmp.holds .ne (q2.2 8 0) (-1 : Int32) then
        (x60_r0_3_2_1 q2.2 (0 : Int32))
      else
        (bif Op.if_icmp.holds .eq (q2.2 0 6) (3 : Int32) then
          (x60_r0_3_2_1 q2.2 (0 : Int32))
        else
          (x60_r0_3_2_1 q2.2 (1 : Int32)))) q2.1)) q1.1)
set_option maxRecDepth 100000 in
set_option maxHeartbeats 4000000 in
theorem x60_r0_3_2_ok {L : Nat} {xs : Nat → Int32} {g u mm : im_M} {o : Nat → Int64} {Y : iv_A} {ret : im_T} (h : x60_r0_3_2 g  = some (ret, mm)) : iv_ev (iv_Xs L xs) 60 0 [.ref 3, .int (3 : Int32), .int (2 : Int32)] [] (im_H g u o Y) 0 0 (im_rev ret (im_H mm u o Y)) := by
  unfold x60_r0_3_2 at h
  obtain ⟨v1, g1, hc, h⟩ := iv_bd h
  cases v1 with
  | inl z =>
    have h := iv_sl h
    cases h
    exact iv_calu (mi' := 60) (pc' := 1) (ls' := [.ref 3, .int (3 : Int32), .int (2 : Int32)]) (rest := []) (A' := im_H g u o Y) (c' := 0) (s' := 0) (as := [.int (3 : Int32)]) (B := im_H g1 u o Y) 2 43 (z.val + 7) (fun n => rfl) rfl (im_zx z) rfl rfl (x43_ok (g := g) (a := (3 : Int32)) hc)
  | inr v1 =>
    have h := iv_sr h
    refine iv_cal (mi' := 60) (pc' := 1) (ls' := [.ref 3, .int (3 : Int32), .int (2 : Int32)]) (rest := []) (A' := im_H g u o Y) (c' := 0) (s' := 0) (as := [.int (3 : Int32)]) (v := none) (A'' := im_H g1 u o Y) 2 43 (fun n => rfl) rfl (x43_ok (g := g) (a := (3 : Int32)) hc) ?_
    show iv_ev (iv_Xs L xs) 60 4 [.ref 3, .int (3 : Int32), .int (2 : Int32)] [] (im_H g1 u o Y) 1 6 _
    obtain ⟨v2, g2, hc, h⟩ := iv_bd h
    cases v2 with
    | inl z =>
      have h := iv_sl h
      cases h
      exact iv_calu (mi' := 60) (pc' := 5) (ls' := [.ref 3, .int (3 : Int32), .int (2 : Int32)]) (rest := []) (A' := im_H g1 u o Y) (c' := 1) (s' := 6) (as := [.int (2 : Int32)]) (B := im_H g2 u o Y) 2 49 (z.val + 7) (fun n => rfl) rfl (im_zx z) rfl rfl (x49_ok (g := g1) (a := (2 : Int32)) hc)
    | inr v2 =>
      have h := iv_sr h
      refine iv_cal (mi' := 60) (pc' := 5) (ls' := [.ref 3, .int (3 : Int32), .int (2 : Int32)]) (rest := []) (A' := im_H g1 u o Y) (c' := 1) (s' := 6) (as := [.int (2 : Int32)]) (v := none) (A'' := im_H g2 u o Y) 2 49 (fun n => rfl) rfl (x49_ok (g := g1) (a := (2 : Int32)) hc) ?_
      show iv_ev (iv_Xs L xs) 60 8 [.ref 3, .int (3 : Int32), .int (2 : Int32)] [] (im_H g2 u o Y) 2 12 _
      cases hb1 : Op.if_icmp.holds .ne (g2 8 0) (-1 : Int32) with
      | true =>
        have h := iv_bt hb1 h
        refine iv_brt (mi' := 60) (pc' := 31) (ls' := [.ref 3, .int (3 : Int32), .int (2 : Int32)]) (st' := []) (A' := im_H g2 u o Y) (c' := 2) (s' := 12) (mi'' := 60) (pc'' := 19) (ls'' := [.ref 3, .int (3 : Int32), .int (2 : Int32)]) (st'' := []) (A'' := im_H g2 u o Y) (c'' := 2) (s'' := 12) 5 0 0 hb1 (fun n => rfl) ?_
        refine iv_blk (mi' := 60) (pc' := 32) (ls' := [.ref 3, .int (3 : Int32), .int (2 : Int32)]) (st' := [.int (0 : Int32)]) (A' := im_H g2 u o Y) (c' := 2) (s' := 12) 1 (fun n => rfl) ?_
        exact x60_r0_3_2_1_ok (g := g2) (y0 := (0 : Int32)) h
      | false =>
        have h := iv_bf hb1 h
        refine iv_brf (mi' := 60) (pc' := 31) (ls' := [.ref 3, .int (3 : Int32), .int (2 : Int32)]) (st' := []) (A' := im_H g2 u o Y) (c' := 2) (s' := 12) (mi'' := 60) (pc'' := 19) (ls'' := [.ref 3, .int (3 : Int32), .int (2 : Int32)]) (st'' := []) (A'' := im_H g2 u o Y) (c'' := 2) (s'' := 12) 5 0 0 hb1 (fun n => rfl) ?_
        cases hb2 : Op.if_icmp.holds .eq (g2 0 6) (3 : Int32) with
        | true =>
          have h := iv_bt hb2 h
          refine iv_brt (mi' := 60) (pc' := 31) (ls' := [.ref 3, .int (3 : Int32), .int (2 : Int32)]) (st' := []) (A' := im_H g2 u o Y) (c' := 2) (s' := 12) (mi'' := 60) (pc'' := 27) (ls'' := [.ref 3, .int (3 : Int32), .int (2 : Int32)]) (st'' := []) (A'' := im_H g2 u o Y) (c'' := 2) (s'' := 12) 4 0 0 hb2 (fun n => rfl) ?_
          refine iv_blk (mi' := 60) (pc' := 32) (ls' := [.ref 3, .int (3 : Int32), .int (2 : Int32)]) (st' := [.int (0 : Int32)]) (A' := im_H g2 u o Y) (c' := 2) (s' := 12) 1 (fun n => rfl) ?_
          exact x60_r0_3_2_1_ok (g := g2) (y0 := (0 : Int32)) h
        | false =>
          have h := iv_bf hb2 h
          refine iv_brf (mi' := 60) (pc' := 31) (ls' := [.ref 3, .int (3 : Int32), .int (2 : Int32)]) (st' := []) (A' := im_H g2 u o Y) (c' := 2) (s' := 12) (mi'' := 60) (pc'' := 27) (ls'' := [.ref 3, .int (3 : Int32), .int (2 : Int32)]) (st'' := []) (A'' := im_H g2 u o Y) (c'' := 2) (s'' := 12) 4 0 0 hb2 (fun n => rfl) ?_
          refine iv_blk (mi' := 60) (pc' := 32) (ls' := [.ref 3, .int (3 : Int32), .int (2 : Int32)]) (st' := [.int (1 : Int32)]) (A' := im_H g2 u o Y) (c' := 2) (s' := 12) 2 (fun n => rfl) ?_
          exact x60_r0_3_2_1_ok (g := g2) (y0 := (1 : Int32)) h
def x66_r0_3_0 (g : im_M) (a : Int32) : Option (im_T × im_M) :=
  Option.bind (x43 g (3 : Int32)) (fun q1 =>
    Sum.elim (fun z => some (.inl z, q1.2)) (fun _ =>
    Option.bind (x64 q1.2 (0 : Int32)) (fun q2 =>
      Sum.elim (fun z => some (.inl z, q2.2)) (fun _ =>
      Option.bind (x67_r5_3_0 q2.2 a) (fun q3 =>
        some (.inr 0, q3.2))) q2.1)) q1.1)
set_option maxRecDepth 100000 in
set_option maxHeartbeats 4000000 in
theorem x66_r0_3_0_ok {L : Nat} {xs : Nat → Int32} {g u mm : im_M} {o : Nat → Int64} {Y : iv_A} {a : Int32} {ret : im_T} (h : x66_r0_3_0 g a = some (ret, mm)) : iv_ev (iv_Xs L xs) 66 0 [.ref 3, .int (3 : Int32), .int (0 : Int32), .int a] [] (im_H g u o Y) 0 0 (im_rev ret (im_H mm u o Y)) := by
  unfold x66_r0_3_0 at h
  obtain ⟨v1, g1, hc, h⟩ := iv_bd h
  cases v1 with
  | inl z =>
    have h := iv_sl h
    cases h
    exact iv_calu (mi' := 66) (pc' := 1) (ls' := [.ref 3, .int (3 : Int32), .int (0 : Int32), .int a]) (rest := []) (A' := im_H g u o Y) (c' := 0) (s' := 0) (as := [.int (3 : Int32)]) (B := im_H g1 u o Y) 2 43 (z.val + 7) (fun n => rfl) rfl (im_zx z) rfl rfl (x43_ok (g := g) (a := (3 : Int32)) hc)
  | inr v1 =>
    have h := iv_sr h
    refine iv_cal (mi' := 66) (pc' := 1) (ls' := [.ref 3, .int (3 : Int32), .int (0 : Int32), .int a]) (rest := []) (A' := im_H g u o Y) (c' := 0) (s' := 0) (as := [.int (3 : Int32)]) (v := none) (A'' := im_H g1 u o Y) 2 43 (fun n => rfl) rfl (x43_ok (g := g) (a := (3 : Int32)) hc) ?_
    show iv_ev (iv_Xs L xs) 66 4 [.ref 3, .int (3 : Int32), .int (0 : Int32), .int a] [] (im_H g1 u o Y) 1 6 _
    obtain ⟨v2, g2, hc, h⟩ := iv_bd h
    cases v2 with
    | inl z =>
      have h := iv_sl h
      cases h
      exact iv_calu (mi' := 66) (pc' := 5) (ls' := [.ref 3, .int (3 : Int32), .int (0 : Int32), .int a]) (rest := []) (A' := im_H g1 u o Y) (c' := 1) (s' := 6) (as := [.int (0 : Int32)]) (B := im_H g2 u o Y) 2 64 (z.val + 7) (fun n => rfl) rfl (im_zx z) rfl rfl (x64_ok (g := g1) (a := (0 : Int32)) hc)
    | inr v2 =>
      have h := iv_sr h
      refine iv_cal (mi' := 66) (pc' := 5) (ls' := [.ref 3, .int (3 : Int32), .int (0 : Int32), .int a]) (rest := []) (A' := im_H g1 u o Y) (c' := 1) (s' := 6) (as := [.int (0 : Int32)]) (v := none) (A'' := im_H g2 u o Y) 2 64 (fun n => rfl) rfl (x64_ok (g := g1) (a := (0 : Int32)) hc) ?_
      show iv_ev (iv_Xs L xs) 66 8 [.ref 3, .int (3 : Int32), .int (0 : Int32), .int a] [] (im_H g2 u o Y) 2 12 _
      obtain ⟨v3, g3, hc, h⟩ := iv_bd h
      refine iv_cal (mi' := 66) (pc' := 15) (ls' := [.ref 3, .int (3 : Int32), .int (0 : Int32), .int a]) (rest := []) (A' := im_H g2 u o Y) (c' := 2) (s' := 12) (as := [.ref 8, .int (3 : Int32), .int (0 : Int32), .int a]) (v := none) (A'' := im_H g3 u o Y) 6 67 (fun n => rfl) rfl (x67_r5_3_0_ok (g := g2) (a := a) hc) ?_
      show iv_ev (iv_Xs L xs) 66 18 [.ref 3, .int (3 : Int32), .int (0 : Int32), .int a] [] (im_H g3 u o Y) 2 12 _
      cases h
      exact iv_ret 1 (fun n => rfl)
def x66_r0_3_1 (g : im_M) (a : Int32) : Option (im_T × im_M) :=
  Option.bind (x43 g (3 : Int32)) (fun q1 =>
    Sum.elim (fun z => some (.inl z, q1.2)) (fun _ =>
    Option.bind (x64 q1.2 (1 : Int32)) (fun q2 =>
      Sum.elim (fun z => some (.inl z, q2.2)) (fun _ =>
      Option.bind (x67_r5_3_1 q2.2 a) (fun q3 =>
        some (.inr 0, q3.2))) q2.1)) q1.1)
set_option maxRecDepth 100000 in
set_option maxHeartbeats 4000000 in
theorem x66_r0_3_1_ok {L : Nat} {xs : Nat → Int32} {g u mm : im_M} {o : Nat → Int64} {Y : iv_A} {a : Int32} {ret : im_T} (h : x66_r0_3_1 g a = some (ret, mm)) : iv_ev (iv_Xs L xs) 66 0 [.ref 3, .int (3 : Int32), .int (1 : Int32), .int a] [] (im_H g u o Y) 0 0 (im_rev ret (im_H mm u o Y)) := by
  unfold x66_r0_3_1 at h
  obtain ⟨v1, g1, hc, h⟩ := iv_bd h
  cases v1 with
  | inl z =>
    have h := iv_sl h
    cases h
    exact iv_calu (mi' := 66) (pc' := 1) (ls' := [.ref 3, .int (3 : Int32), .int (1 : Int32), .int a]) (rest := []) (A' := im_H g u o Y) (c' := 0) (s' := 0) (as := [.int (3 : Int32)]) (B := im_H g1 u o Y) 2 43 (z.val + 7) (fun n => rfl) rfl (im_zx z) rfl rfl (x43_ok (g := g) (a := (3 : Int32)) hc)
  | inr v1 =>
    have h := iv_sr h
    refine iv_cal (mi' := 66) (pc' := 1) (ls' := [.ref 3, .int (3 : Int32), .int (1 : Int32), .int a]) (rest := []) (A' := im_H g u o Y) (c' := 0) (s' := 0) (as := [.int (3 : Int32)]) (v := none) (A'' := im_H g1 u o Y) 2 43 (fun n => rfl) rfl (x43_ok (g := g) (a := (3 : Int32)) hc) ?_
    show iv_ev (iv_Xs L xs) 66 4 [.ref 3, .int (3 : Int32), .int (1 : Int32), .int a] [] (im_H g1 u o Y) 1 6 _
    obtain ⟨v2, g2, hc, h⟩ := iv_bd h
    cases v2 with
    | inl z =>
      have h := iv_sl h
      cases h
      exact iv_calu (mi' := 66) (pc' := 5) (ls' := [.ref 3, .int (3 : Int32), .int (1 : Int32), .int a]) (rest := []) (A' := im_H g1 u o Y) (c' := 1) (s' := 6) (as := [.int (1 : Int32)]) (B := im_H g2 u o Y) 2 64 (z.val + 7) (fun n => rfl) rfl (im_zx z) rfl rfl (x64_ok (g := g1) (a := (1 : Int32)) hc)
    | inr v2 =>
      have h := iv_sr h
      refine iv_cal (mi' := 66) (pc' := 5) (ls' := [.ref 3, .int (3 : Int32), .int (1 : Int32), .int a]) (rest := []) (A' := im_H g1 u o Y) (c' := 1) (s' := 6) (as := [.int (1 : Int32)]) (v := none) (A'' := im_H g2 u o Y) 2 64 (fun n => rfl) rfl (x64_ok (g := g1) (a := (1 : Int32)) hc) ?_
      show iv_ev (iv_Xs L xs) 66 8 [.ref 3, .int (3 : Int32), .int (1 : Int32), .int a] [] (im_H g2 u o Y) 2 12 _
      obtain ⟨v3, g3, hc, h⟩ := iv_bd h
      refine iv_cal (mi' := 66) (pc' := 15) (ls' := [.ref 3, .int (3 : Int32), .int (1 : Int32), .int a]) (rest := []) (A' := im_H g2 u o Y) (c' := 2) (s' := 12) (as := [.ref 8, .int (3 : Int32), .int (1 : Int32), .int a]) (v := none) (A'' := im_H g3 u o Y) 6 67 (fun n => rfl) rfl (x67_r5_3_1_ok (g := g2) (a := a) hc) ?_
      show iv_ev (iv_Xs L xs) 66 18 [.ref 3, .int (3 : Int32), .int (1 : Int32), .int a] [] (im_H g3 u o Y) 2 12 _
      cases h
      exact iv_ret 1 (fun n => rfl)
def x66_r0_3_2 (g : im_M) (a : Int32) : Option (im_T × im_M) :=
  Option.bind (x43 g (3 : Int32)) (fun q1 =>
    Sum.elim (fun z => some (.inl z, q1.2)) (fun _ =>
    Option.bind (x64 q1.2 (2 : Int32)) (fun q2 =>
      Sum.elim (fun z => some (.inl z, q2.2)) (fun _ =>
      Option.bind (x67_r5_3_2 q2.2 a) (fun q3 =>
        some (.inr 0, q3.2))) q2.1)) q1.1)
set_option maxRecDepth 100000 in
set_option maxHeartbeats 4000000 in
theorem x66_r0_3_2_ok {L : Nat} {xs : Nat → Int32} {g u mm : im_M} {o : Nat → Int64} {Y : iv_A} {a : Int32} {ret : im_T} (h : x66_r0_3_2 g a = some (ret, mm)) : iv_ev (iv_Xs L xs) 66 0 [.ref 3, .int (3 : Int32), .int (2 : Int32), .int a] [] (im_H g u o Y) 0 0 (im_rev ret (im_H mm u o Y)) := by
  unfold x66_r0_3_2 at h
  obtain ⟨v1, g1, hc, h⟩ := iv_bd h
  cases v1 with
  | inl z =>
    have h := iv_sl h
    cases h
    exact iv_calu (mi' := 66) (pc' := 1) (ls' := [.ref 3, .int (3 : Int32), .int (2 : Int32), .int a]) (rest := []) (A' := im_H g u o Y) (c' := 0) (s' := 0) (as := [.int (3 : Int32)]) (B := im_H g1 u o Y) 2 43 (z.val + 7) (fun n => rfl) rfl (im_zx z) rfl rfl (x43_ok (g := g) (a := (3 : Int32)) hc)
  | inr v1 =>
    have h := iv_sr h
    refine iv_cal (mi' := 66) (pc' := 1) (ls' := [.ref 3, .int (3 : Int32), .int (2 : Int32), .int a]) (rest := []) (A' := im_H g u o Y) (c' := 0) (s' := 0) (as := [.int (3 : Int32)]) (v := none) (A'' := im_H g1 u o Y) 2 43 (fun n => rfl) rfl (x43_ok (g := g) (a := (3 : Int32)) hc) ?_
    show iv_ev (iv_Xs L xs) 66 4 [.ref 3, .int (3 : Int32), .int (2 : Int32), .int a] [] (im_H g1 u o Y) 1 6 _
    obtain ⟨v2, g2, hc, h⟩ := iv_bd h
    cases v2 with
    | inl z =>
      have h := iv_sl h
      cases h
      exact iv_calu (mi' := 66) (pc' := 5) (ls' := [.ref 3, .int (3 : Int32), .int (2 : Int32), .int a]) (rest := []) (A' := im_H g1 u o Y) (c' := 1) (s' := 6) (as := [.int (2 : Int32)]) (B := im_H g2 u o Y) 2 64 (z.val + 7) (fun n => rfl) rfl (im_zx z) rfl rfl (x64_ok (g := g1) (a := (2 : Int32)) hc)
    | inr v2 =>
      have h := iv_sr h
      refine iv_cal (mi' := 66) (pc' := 5) (ls' := [.ref 3, .int (3 : Int32), .int (2 : Int32), .int a]) (rest := []) (A' := im_H g1 u o Y) (c' := 1) (s' := 6) (as := [.int (2 : Int32)]) (v := none) (A'' := im_H g2 u o Y) 2 64 (fun n => rfl) rfl (x64_ok (g := g1) (a := (2 : Int32)) hc) ?_
      show iv_ev (iv_Xs L xs) 66 8 [.ref 3, .int (3 : Int32), .int (2 : Int32), .int a] [] (im_H g2 u o Y) 2 12 _
      obtain ⟨v3, g3, hc, h⟩ := iv_bd h
      refine iv_cal (mi' := 66) (pc' := 15) (ls' := [.ref 3, .int (3 : Int32), .int (2 : Int32), .int a]) (rest := []) (A' := im_H g2 u o Y) (c' := 2) (s' := 12) (as := [.ref 8, .int (3 : Int32), .int (2 : Int32), .int a]) (v := none) (A'' := im_H g3 u o Y) 6 67 (fun n => rfl) rfl (x67_r5_3_2_ok (g := g2) (a := a) hc) ?_
      show iv_ev (iv_Xs L xs) 66 18 [.ref 3, .int (3 : Int32), .int (2 : Int32), .int a] [] (im_H g3 u o Y) 2 12 _
      cases h
      exact iv_ret 1 (fun n => rfl)
def x66_r0_3_3 (g : im_M) (a : Int32) : Option (im_T × im_M) :=
  Option.bind (x43 g (3 : Int32)) (fun q1 =>
    Sum.elim (fun z => some (.inl z, q1.2)) (fun _ =>
    Option.bind (x64 q1.2 (3 : Int32)) (fun q2 =>
      Sum.elim (fun z => some (.inl z, q2.2)) (fun _ =>
      Option.bind (x67_r5_3_3 q2.2 a) (fun q3 =>
        some (.inr 0, q3.2))) q2.1)) q1.1)
set_option maxRecDepth 100000 in
set_option maxHeartbeats 4000000 in
theorem x66_r0_3_3_ok {L : Nat} {xs : Nat → Int32} {g u mm : im_M} {o : Nat → Int64} {Y : iv_A} {a : Int32} {ret : im_T} (h : x66_r0_3_3 g a = some (ret, mm)) : iv_ev (iv_Xs L xs) 66 0 [.ref 3, .int (3 : Int32), .int (3 : Int32), .int a] [] (im_H g u o Y) 0 0 (im_rev ret (im_H mm u o Y)) := by
  unfold x66_r0_3_3 at h
  obtain ⟨v1, g1, hc, h⟩ := iv_bd h
  cases v1 with
  | inl z =>
    have h := iv_sl h
    cases h
    exact iv_calu (mi' := 66) (pc' := 1) (ls' := [.ref 3, .int (3 : Int32), .int (3 : Int32), .int a]) (rest := []) (A' := im_H g u o Y) (c' := 0) (s' := 0) (as := [.int (3 : Int32)]) (B := im_H g1 u o Y) 2 43 (z.val + 7) (fun n => rfl) rfl (im_zx z) rfl rfl (x43_ok (g := g) (a := (3 : Int32)) hc)
  | inr v1 =>
    have h := iv_sr h
    refine iv_cal (mi' := 66) (pc' := 1) (ls' := [.ref 3, .int (3 : Int32), .int (3 : Int32), .int a]) (rest := []) (A' := im_H g u o Y) (c' := 0) (s' := 0) (as := [.int (3 : Int32)]) (v := none) (A'' := im_H g1 u o Y) 2 43 (fun n => rfl) rfl (x43_ok (g := g) (a := (3 : Int32)) hc) ?_
    show iv_ev (iv_Xs L xs) 66 4 [.ref 3, .int (3 : Int32), .int (3 : Int32), .int a] [] (im_H g1 u o Y) 1 6 _
    obtain ⟨v2, g2, hc, h⟩ := iv_bd h
    cases v2 with
    | inl z =>
      have h := iv_sl h
      cases h
      exact iv_calu (mi' := 66) (pc' := 5) (ls' := [.ref 3, .int (3 : Int32), .int (3 : Int32), .int a]) (rest := []) (A' := im_H g1 u o Y) (c' := 1) (s' := 6) (as := [.int (3 : Int32)]) (B := im_H g2 u o Y) 2 64 (z.val + 7) (fun n => rfl) rfl (im_zx z) rfl rfl (x64_ok (g := g1) (a := (3 : Int32)) hc)
    | inr v2 =>
      have h := iv_sr h
      refine iv_cal (mi' := 66) (pc' := 5) (ls' := [.ref 3, .int (3 : Int32), .int (3 : Int32), .int a]) (rest := []) (A' := im_H g1 u o Y) (c' := 1) (s' := 6) (as := [.int (3 : Int32)]) (v := none) (A'' := im_H g2 u o Y) 2 64 (fun n => rfl) rfl (x64_ok (g := g1) (a := (3 : Int32)) hc) ?_
      show iv_ev (iv_Xs L xs) 66 8 [.ref 3, .int (3 : Int32), .int (3 : Int32), .int a] [] (im_H g2 u o Y) 2 12 _
      obtain ⟨v3, g3, hc, h⟩ := iv_bd h
      refine iv_cal (mi' := 66) (pc' := 15) (ls' := [.ref 3, .int (3 : Int32), .int (3 : Int32), .int a]) (rest := []) (A' := im_H g2 u o Y) (c' := 2) (s' := 12) (as := [.ref 8, .int (3 : Int32), .int (3 : Int32), .int a]) (v := none) (A'' := im_H g3 u o Y) 6 67 (fun n => rfl) rfl (x67_r5_3_3_ok (g := g2) (a := a) hc) ?_
      show iv_ev (iv_Xs L xs) 66 18 [.ref 3, .int (3 : Int32), .int (3 : Int32), .int a] [] (im_H g3 u o Y) 2 12 _
      cases h
      exact iv_ret 1 (fun n => rfl)
