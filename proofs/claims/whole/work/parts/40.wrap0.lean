/-! The law's calls of the class, whatever the class says (printed by wip/gen/lay3.py) -/
set_option maxRecDepth 100000 in
set_option maxHeartbeats 4000000 in
theorem x41_ret {L : Nat} {xs : Nat → Int32} {g u mm : im_M} {o : Nat → Int64} {Y : iv_A} {a b c v : Int32} (hc : iv_ev (iv_Xs L xs) 42 0 [.ref 3, .int a, .int b, .int c] [] (im_H g u o Y) 0 0 (im_rev (.inr v) (im_H mm u o Y))) :
    iv_ev (iv_Xs L xs) 41 0 [.ref 3, .int a, .int b, .int c, .retAddr 0] [] (im_H g u o Y) 0 0 (.inl (some (.int 0)), im_H mm u o Y) := by
  refine iv_cal (mi' := 41) (pc' := 4) (ls' := [.ref 3, .int a, .int b, .int c, .retAddr 0]) (rest := []) (A' := im_H g u o Y) (c' := 0) (s' := 0) (as := [.ref 3, .int a, .int b, .int c]) (v := none) (A'' := im_H mm u o Y) 5 42 (fun n => rfl) rfl hc ?_
  exact iv_ret 3 (fun n => rfl)
set_option maxRecDepth 100000 in
set_option maxHeartbeats 4000000 in
theorem x41_t0 {L : Nat} {xs : Nat → Int32} {g u mm : im_M} {o : Nat → Int64} {Y : iv_A} {a b c : Int32} (hc : iv_ev (iv_Xs L xs) 42 0 [.ref 3, .int a, .int b, .int c] [] (im_H g u o Y) 0 0 (im_rev (.inl 0) (im_H mm u o Y))) :
    iv_ev (iv_Xs L xs) 41 0 [.ref 3, .int a, .int b, .int c, .retAddr 0] [] (im_H g u o Y) 0 0 (.inl (some (.int 1)), im_H mm u o (Y ++ [.inr (7, [])])) := by
  refine iv_calc (mi' := 41) (pc' := 4) (ls' := [.ref 3, .int a, .int b, .int c, .retAddr 0]) (rest := []) (A' := im_H g u o Y) (c' := 0) (s' := 0) (as := [.ref 3, .int a, .int b, .int c]) (B := im_H mm u o Y) 5 42 7 10 (fun n => rfl) rfl rfl rfl rfl hc ?_
  exact iv_ret 3 (fun n => rfl)
set_option maxRecDepth 100000 in
set_option maxHeartbeats 4000000 in
theorem x53_ret {L : Nat} {xs : Nat → Int32} {g u mm : im_M} {o : Nat → Int64} {Y : iv_A} {a v : Int32} (hc : iv_ev (iv_Xs L xs) 54 0 [.ref 3, .int a] [] (im_H g u o Y) 0 0 (im_rev (.inr v) (im_H mm u o Y))) :
    iv_ev (iv_Xs L xs) 53 0 [.ref 3, .int a, .retAddr 0] [] (im_H g u o Y) 0 0 (.inl (some (.int 0)), im_H mm u o Y) := by
  refine iv_cal (mi' := 53) (pc' := 2) (ls' := [.ref 3, .int a, .retAddr 0]) (rest := []) (A' := im_H g u o Y) (c' := 0) (s' := 0) (as := [.ref 3, .int a]) (v := none) (A'' := im_H mm u o Y) 3 54 (fun n => rfl) rfl hc ?_
  exact iv_ret 3 (fun n => rfl)
set_option maxRecDepth 100000 in
set_option maxHeartbeats 4000000 in
theorem x53_t0 {L : Nat} {xs : Nat → Int32} {g u mm : im_M} {o : Nat → Int64} {Y : iv_A} {a : Int32} (hc : iv_ev (iv_Xs L xs) 54 0 [.ref 3, .int a] [] (im_H g u o Y) 0 0 (im_rev (.inl 0) (im_H mm u o Y))) :
    iv_ev (iv_Xs L xs) 53 0 [.ref 3, .int a, .retAddr 0] [] (im_H g u o Y) 0 0 (.inl (some (.int 1)), im_H mm u o (Y ++ [.inr (7, [])])) := by
  refine iv_calc (mi' := 53) (pc' := 2) (ls' := [.ref 3, .int a, .retAddr 0]) (rest := []) (A' := im_H g u o Y) (c' := 0) (s' := 0) (as := [.ref 3, .int a]) (B := im_H mm u o Y) 3 54 7 8 (fun n => rfl) rfl rfl rfl rfl hc ?_
  exact iv_ret 3 (fun n => rfl)
set_option maxRecDepth 100000 in
set_option maxHeartbeats 4000000 in
theorem x53_t1 {L : Nat} {xs : Nat → Int32} {g u mm : im_M} {o : Nat → Int64} {Y : iv_A} {a : Int32} (hc : iv_ev (iv_Xs L xs) 54 0 [.ref 3, .int a] [] (im_H g u o Y) 0 0 (im_rev (.inl 1) (im_H mm u o Y))) :
    iv_ev (iv_Xs L xs) 53 0 [.ref 3, .int a, .retAddr 0] [] (im_H g u o Y) 0 0 (.inl (some (.int 2)), im_H mm u o (Y ++ [.inr (8, [])])) := by
  refine iv_calc (mi' := 53) (pc' := 2) (ls' := [.ref 3, .int a, .retAddr 0]) (rest := []) (A' := im_H g u o Y) (c' := 0) (s' := 0) (as := [.ref 3, .int a]) (B := im_H mm u o Y) 3 54 8 11 (fun n => rfl) rfl rfl rfl rfl hc ?_
  exact iv_ret 3 (fun n => rfl)
set_option maxRecDepth 100000 in
set_option maxHeartbeats 4000000 in
theorem x57_ret {L : Nat} {xs : Nat → Int32} {g u mm : im_M} {o : Nat → Int64} {Y : iv_A} {v : Int32} (hc : iv_ev (iv_Xs L xs) 58 0 [.ref 3] [] (im_H g u o Y) 0 0 (im_rev (.inr v) (im_H mm u o Y))) :
    iv_ev (iv_Xs L xs) 57 0 [.ref 3, .retAddr 0] [] (im_H g u o Y) 0 0 (.inl (some (.int 0)), im_H mm u o Y) := by
  refine iv_cal (mi' := 57) (pc' := 1) (ls' := [.ref 3, .retAddr 0]) (rest := []) (A' := im_H g u o Y) (c' := 0) (s' := 0) (as := [.ref 3]) (v := none) (A'' := im_H mm u o Y) 2 58 (fun n => rfl) rfl hc ?_
  exact iv_ret 3 (fun n => rfl)
set_option maxRecDepth 100000 in
set_option maxHeartbeats 4000000 in
theorem x57_t1 {L : Nat} {xs : Nat → Int32} {g u mm : im_M} {o : Nat → Int64} {Y : iv_A} (hc : iv_ev (iv_Xs L xs) 58 0 [.ref 3] [] (im_H g u o Y) 0 0 (im_rev (.inl 1) (im_H mm u o Y))) :
    iv_ev (iv_Xs L xs) 57 0 [.ref 3, .retAddr 0] [] (im_H g u o Y) 0 0 (.inl (some (.int 1)), im_H mm u o (Y ++ [.inr (8, [])])) := by
  refine iv_calc (mi' := 57) (pc' := 1) (ls' := [.ref 3, .retAddr 0]) (rest := []) (A' := im_H g u o Y) (c' := 0) (s' := 0) (as := [.ref 3]) (B := im_H mm u o Y) 2 58 8 7 (fun n => rfl) rfl rfl rfl rfl hc ?_
  exact iv_ret 3 (fun n => rfl)
set_option maxRecDepth 100000 in
set_option maxHeartbeats 4000000 in
theorem x59_ret {L : Nat} {xs : Nat → Int32} {g u mm : im_M} {o : Nat → Int64} {Y : iv_A} {a b v : Int32} (hc : iv_ev (iv_Xs L xs) 60 0 [.ref 3, .int a, .int b] [] (im_H g u o Y) 0 0 (im_rev (.inr v) (im_H mm u o Y))) :
    iv_ev (iv_Xs L xs) 59 0 [.ref 3, .int a, .int b, .retAddr 0] [] (im_H g u o Y) 0 0 (.inl (some (.int 0)), im_H mm u o Y) := by
  refine iv_cal (mi' := 59) (pc' := 3) (ls' := [.ref 3, .int a, .int b, .retAddr 0]) (rest := []) (A' := im_H g u o Y) (c' := 0) (s' := 0) (as := [.ref 3, .int a, .int b]) (v := none) (A'' := im_H mm u o Y) 4 60 (fun n => rfl) rfl hc ?_
  exact iv_ret 3 (fun n => rfl)
set_option maxRecDepth 100000 in
set_option maxHeartbeats 4000000 in
theorem x59_t0 {L : Nat} {xs : Nat → Int32} {g u mm : im_M} {o : Nat → Int64} {Y : iv_A} {a b : Int32} (hc : iv_ev (iv_Xs L xs) 60 0 [.ref 3, .int a, .int b] [] (im_H g u o Y) 0 0 (im_rev (.inl 0) (im_H mm u o Y))) :
    iv_ev (iv_Xs L xs) 59 0 [.ref 3, .int a, .int b, .retAddr 0] [] (im_H g u o Y) 0 0 (.inl (some (.int 1)), im_H mm u o (Y ++ [.inr (7, [])])) := by
  refine iv_calc (mi' := 59) (pc' := 3) (ls' := [.ref 3, .int a, .int b, .retAddr 0]) (rest := []) (A' := im_H g u o Y) (c' := 0) (s' := 0) (as := [.ref 3, .int a, .int b]) (B := im_H mm u o Y) 4 60 7 9 (fun n => rfl) rfl rfl rfl rfl hc ?_
  exact iv_ret 3 (fun n => rfl)
set_option maxRecDepth 100000 in
set_option maxHeartbeats 4000000 in
theorem x59_t1 {L : Nat} {xs : Nat → Int32} {g u mm : im_M} {o : Nat → Int64} {Y : iv_A} {a b : Int32} (hc : iv_ev (iv_Xs L xs) 60 0 [.ref 3, .int a, .int b] [] (im_H g u o Y) 0 0 (im_rev (.inl 1) (im_H mm u o Y))) :
    iv_ev (iv_Xs L xs) 59 0 [.ref 3, .int a, .int b, .retAddr 0] [] (im_H g u o Y) 0 0 (.inl (some (.int 2)), im_H mm u o (Y ++ [.inr (8, [])])) := by
  refine iv_calc (mi' := 59) (pc' := 3) (ls' := [.ref 3, .int a, .int b, .retAddr 0]) (rest := []) (A' := im_H g u o Y) (c' := 0) (s' := 0) (as := [.ref 3, .int a, .int b]) (B := im_H mm u o Y) 4 60 8 12 (fun n => rfl) rfl rfl rfl rfl hc ?_
  exact iv_ret 3 (fun n => rfl)
set_option maxRecDepth 100000 in
set_option maxHeartbeats 4000000 in
theorem x62_ret {L : Nat} {xs : Nat → Int32} {g u mm : im_M} {o : Nat → Int64} {Y : iv_A} {a v : Int32} (hc : iv_ev (iv_Xs L xs) 63 0 [.ref 3, .int a, .retAddr 0] [] (im_H g u o Y) 0 0 (im_rev (.inr v) (im_H mm u o Y))) :
    iv_ev (iv_Xs L xs) 62 0 [.ref 3, .int a, .retAddr 0] [] (im_H g u o Y) 0 0 (.inl (some (.int 0)), im_H mm u o Y) := by
  refine iv_cal (mi' := 62) (pc' := 2) (ls' := [.ref 3, .int a, .retAddr 0]) (rest := []) (A' := im_H g u o Y) (c' := 0) (s' := 0) (as := [.ref 3, .int a]) (v := none) (A'' := im_H mm u o Y) 3 63 (fun n => rfl) rfl hc ?_
  exact iv_ret 3 (fun n => rfl)
set_option maxRecDepth 100000 in
set_option maxHeartbeats 4000000 in
theorem x62_t0 {L : Nat} {xs : Nat → Int32} {g u mm : im_M} {o : Nat → Int64} {Y : iv_A} {a : Int32} (hc : iv_ev (iv_Xs L xs) 63 0 [.ref 3, .int a, .retAddr 0] [] (im_H g u o Y) 0 0 (im_rev (.inl 0) (im_H mm u o Y))) :
    iv_ev (iv_Xs L xs) 62 0 [.ref 3, .int a, .retAddr 0] [] (im_H g u o Y) 0 0 (.inl (some (.int 1)), im_H mm u o (Y ++ [.inr (7, [])])) := by
  refine iv_calc (mi' := 62) (pc' := 2) (ls' := [.ref 3, .int a, .retAddr 0]) (rest := []) (A' := im_H g u o Y) (c' := 0) (s' := 0) (as := [.ref 3, .int a]) (B := im_H mm u o Y) 3 63 7 8 (fun n => rfl) rfl rfl rfl rfl hc ?_
  exact iv_ret 3 (fun n => rfl)
set_option maxRecDepth 100000 in
set_option maxHeartbeats 4000000 in
theorem x62_t1 {L : Nat} {xs : Nat → Int32} {g u mm : im_M} {o : Nat → Int64} {Y : iv_A} {a : Int32} (hc : iv_ev (iv_Xs L xs) 63 0 [.ref 3, .int a, .retAddr 0] [] (im_H g u o Y) 0 0 (im_rev (.inl 1) (im_H mm u o Y))) :
    iv_ev (iv_Xs L xs) 62 0 [.ref 3, .int a, .retAddr 0] [] (im_H g u o Y) 0 0 (.inl (some (.int 2)), im_H mm u o (Y ++ [.inr (8, [])])) := by
  refine iv_calc (mi' := 62) (pc' := 2) (ls' := [.ref 3, .int a, .retAddr 0]) (rest := []) (A' := im_H g u o Y) (c' := 0) (s' := 0) (as := [.ref 3, .int a]) (B := im_H mm u o Y) 3 63 8 11 (fun n => rfl) rfl rfl rfl rfl hc ?_
  exact iv_ret 3 (fun n => rfl)
set_option maxRecDepth 100000 in
set_option maxHeartbeats 4000000 in
theorem x65_ret {L : Nat} {xs : Nat → Int32} {g u mm : im_M} {o : Nat → Int64} {Y : iv_A} {a b c v : Int32} (hc : iv_ev (iv_Xs L xs) 66 0 [.ref 3, .int a, .int b, .int c] [] (im_H g u o Y) 0 0 (im_rev (.inr v) (im_H mm u o Y))) :
    iv_ev (iv_Xs L xs) 65 0 [.ref 3, .int a, .int b, .int c, .retAddr 0] [] (im_H g u o Y) 0 0 (.inl (some (.int 0)), im_H mm u o Y) := by
  refine iv_cal (mi' := 65) (pc' := 4) (ls' := [.ref 3, .int a, .int b, .int c, .retAddr 0]) (rest := []) (A' := im_H g u o Y) (c' := 0) (s' := 0) (as := [.ref 3, .int a, .int b, .int c]) (v := none) (A'' := im_H mm u o Y) 5 66 (fun n => rfl) rfl hc ?_
  exact iv_ret 3 (fun n => rfl)
set_option maxRecDepth 100000 in
set_option maxHeartbeats 4000000 in
theorem x65_t0 {L : Nat} {xs : Nat → Int32} {g u mm : im_M} {o : Nat → Int64} {Y : iv_A} {a b c : Int32} (hc : iv_ev (iv_Xs L xs) 66 0 [.ref 3, .int a, .int b, .int c] [] (im_H g u o Y) 0 0 (im_rev (.inl 0) (im_H mm u o Y))) :
    iv_ev (iv_Xs L xs) 65 0 [.ref 3, .int a, .int b, .int c, .retAddr 0] [] (im_H g u o Y) 0 0 (.inl (some (.int 1)), im_H mm u o (Y ++ [.inr (7, [])])) := by
  refine iv_calc (mi' := 65) (pc' := 4) (ls' := [.ref 3, .int a, .int b, .int c, .retAddr 0]) (rest := []) (A' := im_H g u o Y) (c' := 0) (s' := 0) (as := [.ref 3, .int a, .int b, .int c]) (B := im_H mm u o Y) 5 66 7 10 (fun n => rfl) rfl rfl rfl rfl hc ?_
  exact iv_ret 3 (fun n => rfl)
set_option maxRecDepth 100000 in
set_option maxHeartbeats 4000000 in
theorem x51_ret {L : Nat} {xs : Nat → Int32} {g u mm : im_M} {o : Nat → Int64} {Y : iv_A} {a b v : Int32} (hc : iv_ev (iv_Xs L xs) 52 0 [.ref 3, .int a, .int b] [] (im_H g u o Y) 0 0 (im_res (.inr v) (im_H mm u o Y))) :
    iv_ev (iv_Xs L xs) 51 0 [.ref 3, .int a, .int b, .ref 61, .retAddr 0] [] (im_H g u o Y) 0 0 (.inl (some (.int 0)), im_H mm u (vp_updL o 0 v.toInt64) Y) := by
  refine iv_cal (mi' := 51) (pc' := 5) (ls' := [.ref 3, .int a, .int b, .ref 61, .retAddr 0]) (rest := [.int 0, .ref 61]) (A' := im_H g u o Y) (c' := 0) (s' := 0) (as := [.ref 3, .int a, .int b]) (v := some (.int v)) (A'' := im_H mm u o Y) 6 52 (fun n => rfl) rfl hc ?_
  exact iv_ret 5 (fun n => rfl)
set_option maxRecDepth 100000 in
set_option maxHeartbeats 4000000 in
theorem x51_t0 {L : Nat} {xs : Nat → Int32} {g u mm : im_M} {o : Nat → Int64} {Y : iv_A} {a b : Int32} (hc : iv_ev (iv_Xs L xs) 52 0 [.ref 3, .int a, .int b] [] (im_H g u o Y) 0 0 (im_res (.inl 0) (im_H mm u o Y))) :
    iv_ev (iv_Xs L xs) 51 0 [.ref 3, .int a, .int b, .ref 61, .retAddr 0] [] (im_H g u o Y) 0 0 (.inl (some (.int 1)), im_H mm u o (Y ++ [.inr (7, [])])) := by
  refine iv_calc (mi' := 51) (pc' := 5) (ls' := [.ref 3, .int a, .int b, .ref 61, .retAddr 0]) (rest := [.int 0, .ref 61]) (A' := im_H g u o Y) (c' := 0) (s' := 0) (as := [.ref 3, .int a, .int b]) (B := im_H mm u o Y) 6 52 7 13 (fun n => rfl) rfl rfl rfl rfl hc ?_
  exact iv_ret 3 (fun n => rfl)
set_option maxRecDepth 100000 in
set_option maxHeartbeats 4000000 in
theorem x68_ret {L : Nat} {xs : Nat → Int32} {g u mm : im_M} {o : Nat → Int64} {Y : iv_A} {a b v : Int32} (hc : iv_ev (iv_Xs L xs) 69 0 [.ref 3, .int a, .int b, .retAddr 0] [] (im_H g u o Y) 0 0 (im_res (.inr v) (im_H mm u o Y))) :
    iv_ev (iv_Xs L xs) 68 0 [.ref 3, .int a, .int b, .ref 61, .retAddr 0] [] (im_H g u o Y) 0 0 (.inl (some (.int 0)), im_H mm u (vp_updL o 0 v.toInt64) Y) := by
  refine iv_cal (mi' := 68) (pc' := 5) (ls' := [.ref 3, .int a, .int b, .ref 61, .retAddr 0]) (rest := [.int 0, .ref 61]) (A' := im_H g u o Y) (c' := 0) (s' := 0) (as := [.ref 3, .int a, .int b]) (v := some (.int v)) (A'' := im_H mm u o Y) 6 69 (fun n => rfl) rfl hc ?_
  exact iv_ret 5 (fun n => rfl)
set_option maxRecDepth 100000 in
set_option maxHeartbeats 4000000 in
theorem x68_t0 {L : Nat} {xs : Nat → Int32} {g u mm : im_M} {o : Nat → Int64} {Y : iv_A} {a b : Int32} (hc : iv_ev (iv_Xs L xs) 69 0 [.ref 3, .int a, .int b, .retAddr 0] [] (im_H g u o Y) 0 0 (im_res (.inl 0) (im_H mm u o Y))) :
    iv_ev (iv_Xs L xs) 68 0 [.ref 3, .int a, .int b, .ref 61, .retAddr 0] [] (im_H g u o Y) 0 0 (.inl (some (.int 1)), im_H mm u o (Y ++ [.inr (7, [])])) := by
  refine iv_calc (mi' := 68) (pc' := 5) (ls' := [.ref 3, .int a, .int b, .ref 61, .retAddr 0]) (rest := [.int 0, .ref 61]) (A' := im_H g u o Y) (c' := 0) (s' := 0) (as := [.ref 3, .int a, .int b]) (B := im_H mm u o Y) 6 69 7 13 (fun n => rfl) rfl rfl rfl rfl hc ?_
  exact iv_ret 3 (fun n => rfl)
set_option maxRecDepth 100000 in
set_option maxHeartbeats 4000000 in
theorem x70_ret {L : Nat} {xs : Nat → Int32} {g u mm : im_M} {o : Nat → Int64} {Y : iv_A} {a b v : Int32} (hc : iv_ev (iv_Xs L xs) 71 0 [.ref 3, .int a, .int b] [] (im_H g u o Y) 0 0 (im_res (.inr v) (im_H mm u o Y))) :
    iv_ev (iv_Xs L xs) 70 0 [.ref 3, .int a, .int b, .ref 61, .retAddr 0] [] (im_H g u o Y) 0 0 (.inl (some (.int 0)), im_H mm u (vp_updL o 0 v.toInt64) Y) := by
  refine iv_cal (mi' := 70) (pc' := 5) (ls' := [.ref 3, .int a, .int b, .ref 61, .retAddr 0]) (rest := [.int 0, .ref 61]) (A' := im_H g u o Y) (c' := 0) (s' := 0) (as := [.ref 3, .int a, .int b]) (v := some (.int v)) (A'' := im_H mm u o Y) 6 71 (fun n => rfl) rfl hc ?_
  exact iv_ret 5 (fun n => rfl)
set_option maxRecDepth 100000 in
set_option maxHeartbeats 4000000 in
theorem x70_t0 {L : Nat} {xs : Nat → Int32} {g u mm : im_M} {o : Nat → Int64} {Y : iv_A} {a b : Int32} (hc : iv_ev (iv_Xs L xs) 71 0 [.ref 3, .int a, .int b] [] (im_H g u o Y) 0 0 (im_res (.inl 0) (im_H mm u o Y))) :
    iv_ev (iv_Xs L xs) 70 0 [.ref 3, .int a, .int b, .ref 61, .retAddr 0] [] (im_H g u o Y) 0 0 (.inl (some (.int 1)), im_H mm u o (Y ++ [.inr (7, [])])) := by
  refine iv_calc (mi' := 70) (pc' := 5) (ls' := [.ref 3, .int a, .int b, .ref 61, .retAddr 0]) (rest := [.int 0, .ref 61]) (A' := im_H g u o Y) (c' := 0) (s' := 0) (as := [.ref 3, .int a, .int b]) (B := im_H mm u o Y) 6 71 7 13 (fun n => rfl) rfl rfl rfl rfl hc ?_
  exact iv_ret 3 (fun n => rfl)
set_option maxRecDepth 100000 in
set_option maxHeartbeats 4000000 in
theorem x72_ret {L : Nat} {xs : Nat → Int32} {g u mm : im_M} {o : Nat → Int64} {Y : iv_A} {a v : Int32} (hc : iv_ev (iv_Xs L xs) 73 0 [.ref 3, .int a] [] (im_H g u o Y) 0 0 (im_res (.inr v) (im_H mm u o Y))) :
    iv_ev (iv_Xs L xs) 72 0 [.ref 3, .int a, .ref 61, .retAddr 0] [] (im_H g u o Y) 0 0 (.inl (some (.int 0)), im_H mm u (vp_updL o 0 v.toInt64) Y) := by
  refine iv_cal (mi' := 72) (pc' := 4) (ls' := [.ref 3, .int a, .ref 61, .retAddr 0]) (rest := [.int 0, .ref 61]) (A' := im_H g u o Y) (c' := 0) (s' := 0) (as := [.ref 3, .int a]) (v := some (.int v)) (A'' := im_H mm u o Y) 5 73 (fun n => rfl) rfl hc ?_
  exact iv_ret 5 (fun n => rfl)
set_option maxRecDepth 100000 in
set_option maxHeartbeats 4000000 in
theorem x72_t0 {L : Nat} {xs : Nat → Int32} {g u mm : im_M} {o : Nat → Int64} {Y : iv_A} {a : Int32} (hc : iv_ev (iv_Xs L xs) 73 0 [.ref 3, .int a] [] (im_H g u o Y) 0 0 (im_res (.inl 0) (im_H mm u o Y))) :
    iv_ev (iv_Xs L xs) 72 0 [.ref 3, .int a, .ref 61, .retAddr 0] [] (im_H g u o Y) 0 0 (.inl (some (.int 1)), im_H mm u o (Y ++ [.inr (7, [])])) := by
  refine iv_calc (mi' := 72) (pc' := 4) (ls' := [.ref 3, .int a, .ref 61, .retAddr 0]) (rest := [.int 0, .ref 61]) (A' := im_H g u o Y) (c' := 0) (s' := 0) (as := [.ref 3, .int a]) (B := im_H mm u o Y) 5 73 7 12 (fun n => rfl) rfl rfl rfl rfl hc ?_
  exact iv_ret 3 (fun n => rfl)
set_option maxRecDepth 100000 in
set_option maxHeartbeats 4000000 in
theorem x74_ret {L : Nat} {xs : Nat → Int32} {g u mm : im_M} {o : Nat → Int64} {Y : iv_A} {a v : Int32} (hc : iv_ev (iv_Xs L xs) 75 0 [.ref 3, .int a] [] (im_H g u o Y) 0 0 (im_res (.inr v) (im_H mm u o Y))) :
    iv_ev (iv_Xs L xs) 74 0 [.ref 3, .int a, .ref 61, .retAddr 0] [] (im_H g u o Y) 0 0 (.inl (some (.int 0)), im_H mm u (vp_updL o 0 v.toInt64) Y) := by
  refine iv_cal (mi' := 74) (pc' := 4) (ls' := [.ref 3, .int a, .ref 61, .retAddr 0]) (rest := [.int 0, .ref 61]) (A' := im_H g u o Y) (c' := 0) (s' := 0) (as := [.ref 3, .int a]) (v := some (.int v)) (A'' := im_H mm u o Y) 5 75 (fun n => rfl) rfl hc ?_
  exact iv_ret 5 (fun n => rfl)
set_option maxRecDepth 100000 in
set_option maxHeartbeats 4000000 in
theorem x74_t0 {L : Nat} {xs : Nat → Int32} {g u mm : im_M} {o : Nat → Int64} {Y : iv_A} {a : Int32} (hc : iv_ev (iv_Xs L xs) 75 0 [.ref 3, .int a] [] (im_H g u o Y) 0 0 (im_res (.inl 0) (im_H mm u o Y))) :
    iv_ev (iv_Xs L xs) 74 0 [.ref 3, .int a, .ref 61, .retAddr 0] [] (im_H g u o Y) 0 0 (.inl (some (.int 1)), im_H mm u o (Y ++ [.inr (7, [])])) := by
  refine iv_calc (mi' := 74) (pc' := 4) (ls' := [.ref 3, .int a, .ref 61, .retAddr 0]) (rest := [.int 0, .ref 61]) (A' := im_H g u o Y) (c' := 0) (s' := 0) (as := [.ref 3, .int a]) (B := im_H mm u o Y) 5 75 7 12 (fun n => rfl) rfl rfl rfl rfl hc ?_
  exact iv_ret 3 (fun n => rfl)
set_option maxRecDepth 100000 in
set_option maxHeartbeats 4000000 in
theorem x76_ret {L : Nat} {xs : Nat → Int32} {g u mm : im_M} {o : Nat → Int64} {Y : iv_A} {a b v : Int32} (hc : iv_ev (iv_Xs L xs) 77 0 [.ref 3, .int a, .int b] [] (im_H g u o Y) 0 0 (im_res (.inr v) (im_H mm u o Y))) :
    iv_ev (iv_Xs L xs) 76 0 [.ref 3, .int a, .int b, .ref 61, .retAddr 0] [] (im_H g u o Y) 0 0 (.inl (some (.int 0)), im_H mm u (vp_updL o 0 v.toInt64) Y) := by
  refine iv_cal (mi' := 76) (pc' := 5) (ls' := [.ref 3, .int a, .int b, .ref 61, .retAddr 0]) (rest := [.int 0, .ref 61]) (A' := im_H g u o Y) (c' := 0) (s' := 0) (as := [.ref 3, .int a, .int b]) (v := some (.int v)) (A'' := im_H mm u o Y) 6 77 (fun n => rfl) rfl hc ?_
  exact iv_ret 5 (fun n => rfl)
set_option maxRecDepth 100000 in
set_option maxHeartbeats 4000000 in
theorem x76_t2 {L : Nat} {xs : Nat → Int32} {g u mm : im_M} {o : Nat → Int64} {Y : iv_A} {a b : Int32} (hc : iv_ev (iv_Xs L xs) 77 0 [.ref 3, .int a, .int b] [] (im_H g u o Y) 0 0 (im_res (.inl 2) (im_H mm u o Y))) :
    iv_ev (iv_Xs L xs) 76 0 [.ref 3, .int a, .int b, .ref 61, .retAddr 0] [] (im_H g u o Y) 0 0 (.inl (some (.int 1)), im_H mm u o (Y ++ [.inr (9, [])])) := by
  refine iv_calc (mi' := 76) (pc' := 5) (ls' := [.ref 3, .int a, .int b, .ref 61, .retAddr 0]) (rest := [.int 0, .ref 61]) (A' := im_H g u o Y) (c' := 0) (s' := 0) (as := [.ref 3, .int a, .int b]) (B := im_H mm u o Y) 6 77 9 13 (fun n => rfl) rfl rfl rfl rfl hc ?_
  exact iv_ret 3 (fun n => rfl)
set_option maxRecDepth 100000 in
set_option maxHeartbeats 4000000 in
theorem x76_t0 {L : Nat} {xs : Nat → Int32} {g u mm : im_M} {o : Nat → Int64} {Y : iv_A} {a b : Int32} (hc : iv_ev (iv_Xs L xs) 77 0 [.ref 3, .int a, .int b] [] (im_H g u o Y) 0 0 (im_res (.inl 0) (im_H mm u o Y))) :
    iv_ev (iv_Xs L xs) 76 0 [.ref 3, .int a, .int b, .ref 61, .retAddr 0] [] (im_H g u o Y) 0 0 (.inl (some (.int 2)), im_H mm u o (Y ++ [.inr (7, [])])) := by
  refine iv_calc (mi' := 76) (pc' := 5) (ls' := [.ref 3, .int a, .int b, .ref 61, .retAddr 0]) (rest := [.int 0, .ref 61]) (A' := im_H g u o Y) (c' := 0) (s' := 0) (as := [.ref 3, .int a, .int b]) (B := im_H mm u o Y) 6 77 7 17 (fun n => rfl) rfl rfl rfl rfl hc ?_
  exact iv_ret 3 (fun n => rfl)
set_option maxRecDepth 100000 in
set_option maxHeartbeats 4000000 in
theorem x81_ret {L : Nat} {xs : Nat → Int32} {g u mm : im_M} {o : Nat → Int64} {Y : iv_A} {a v : Int32} (hc : iv_ev (iv_Xs L xs) 82 0 [.ref 3, .int a] [] (im_H g u o Y) 0 0 (im_res (.inr v) (im_H mm u o Y))) :
    iv_ev (iv_Xs L xs) 81 0 [.ref 3, .int a, .ref 61, .retAddr 0] [] (im_H g u o Y) 0 0 (.inl (some (.int 0)), im_H mm u (vp_updL o 0 v.toInt64) Y) := by
  refine iv_cal (mi' := 81) (pc' := 4) (ls' := [.ref 3, .int a, .ref 61, .retAddr 0]) (rest := [.int 0, .ref 61]) (A' := im_H g u o Y) (c' := 0) (s' := 0) (as := [.ref 3, .int a]) (v := some (.int v)) (A'' := im_H mm u o Y) 5 82 (fun n => rfl) rfl hc ?_
  exact iv_ret 5 (fun n => rfl)
set_option maxRecDepth 100000 in
set_option maxHeartbeats 4000000 in
theorem x81_t0 {L : Nat} {xs : Nat → Int32} {g u mm : im_M} {o : Nat → Int64} {Y : iv_A} {a : Int32} (hc : iv_ev (iv_Xs L xs) 82 0 [.ref 3, .int a] [] (im_H g u o Y) 0 0 (im_res (.inl 0) (im_H mm u o Y))) :
    iv_ev (iv_Xs L xs) 81 0 [.ref 3, .int a, .ref 61, .retAddr 0] [] (im_H g u o Y) 0 0 (.inl (some (.int 1)), im_H mm u o (Y ++ [.inr (7, [])])) := by
  refine iv_calc (mi' := 81) (pc' := 4) (ls' := [.ref 3, .int a, .ref 61, .retAddr 0]) (rest := [.int 0, .ref 61]) (A' := im_H g u o Y) (c' := 0) (s' := 0) (as := [.ref 3, .int a]) (B := im_H mm u o Y) 5 82 7 12 (fun n => rfl) rfl rfl rfl rfl hc ?_
  exact iv_ret 3 (fun n => rfl)
