/-! The law's call of sense, whatever the class says -/
set_option maxRecDepth 100000 in
set_option maxHeartbeats 4000000 in
theorem x41_ret {L : Nat} {xs : Nat → Int32} {g u mm : im_M} {o : Nat → Int64} {Y : iv_A} {a b c v : Int32} (hc : iv_ev (iv_Xs L xs) 42 0 [.ref 3, .int a, .int b, .int c] [] (im_H g u o Y) 0 0 (im_rev (.inr v) (im_H mm u o Y))) :
    iv_ev (iv_Xs L xs) 41 0 [.ref 3, .int a, .int b, .int c, .retAddr 0] [] (im_H g u o Y) 0 0 (.inl (some (.int 0)), im_H mm u o Y) := by
  refine iv_cal (mi' := 41) (pc' := 4) (ls' := [.ref 3, .int a, .int b, .int c, .retAddr 0]) (rest := []) (A' := im_H g u o Y) (c' := 0) (s' := 0) (as := [.ref 3, .int a, .int b, .int c]) (v := none) (A'' := im_H mm u o Y) 5 42 (fun n => rfl) rfl hc ?_
  exact iv_ret 3 (fun n => rfl)
set_option maxRecDepth 100000 in
set_option maxHeartbeats 4000000 in
theorem x41_thr {L : Nat} {xs : Nat → Int32} {g u mm : im_M} {o : Nat → Int64} {Y : iv_A} {a b c : Int32} (hc : iv_ev (iv_Xs L xs) 42 0 [.ref 3, .int a, .int b, .int c] [] (im_H g u o Y) 0 0 (im_rev (.inl 0) (im_H mm u o Y))) :
    iv_ev (iv_Xs L xs) 41 0 [.ref 3, .int a, .int b, .int c, .retAddr 0] [] (im_H g u o Y) 0 0 (.inl (some (.int 1)), im_H mm u o (Y ++ [.inr (7, [])])) := by
  refine iv_calc (mi' := 41) (pc' := 4) (ls' := [.ref 3, .int a, .int b, .int c, .retAddr 0]) (rest := []) (A' := im_H g u o Y) (c' := 0) (s' := 0) (as := [.ref 3, .int a, .int b, .int c]) (B := im_H mm u o Y) 5 42 7 10 (fun n => rfl) rfl rfl rfl rfl hc ?_
  exact iv_ret 3 (fun n => rfl)
