/-! The law's own code: head, switch, cases (printed by wip/gen/lay5.py) -/
theorem iv_hb {c s a b : Nat} {p q r : Bool} (hp : p = true) (hq : q = true) (hr : r = true) (h : c + a ≤ 601024) (h' : s + b ≤ 7293000) : (p && Nat.ble (c + a) 601024 && Nat.ble (s + b) 7293000 && q && r) = true := by
  subst hp hq hr
  simp [h, h']
theorem iv_he {c s : Nat} (h : c ≤ 601024) (h' : s ≤ 7293000) : (Nat.ble c 601024 && Nat.ble s 7293000) = true := by
  simp [h, h']
theorem iv_heq (x : Int32) : Op.if_icmp.holds .eq x x = true := by
  simp [Op.if_icmp.holds]
theorem iv_hne (x : Int32) (h : x ≠ 0) : Op.ifCond.holds .ne x = true := by
  simp [Op.ifCond.holds, h]
theorem iv_hcm (x : Int64) : Op.ifCond.holds .eq (lg_cmp x x) = true := by
  simp [Op.ifCond.holds, lg_cmp]
set_option maxRecDepth 100000 in
set_option maxHeartbeats 4000000 in
theorem law_end {L : Nat} {xs : Nat → Int32} {i : Int32} {l5 l6 : Value} {c s : Nat} {g u : im_M} {o : Nat → Int64} {Y : iv_A} (hb : Op.if_icmp.holds .gt i (Int32.ofNat L - 4) = true) (hc : c ≤ 601024) (hs : s ≤ 7293000) : iv_ev (iv_Xs L xs) 115 33 [.ref 2, .ref 3, .ref 40, .ref 61, .int i, l5, l6] [] (im_H g u o Y) c s (.inl (some (.int 1)), im_H g u o Y) := by
  refine iv_brt (mi' := 115) (pc' := 860) (ls' := [.ref 2, .ref 3, .ref 40, .ref 61, .int i, l5, l6]) (st' := []) (A' := im_H g u o Y) (c' := c) (s' := s) (mi'' := 115) (pc'' := 42) (ls'' := [.ref 2, .ref 3, .ref 40, .ref 61, .int i, l5, l6]) (st'' := []) (A'' := im_H g u o Y) (c'' := c) (s'' := s) 6 0 0 hb (fun n => rfl) ?_
  exact iv_retc 2 (iv_he hc hs) (fun n => rfl)
set_option maxRecDepth 100000 in
set_option maxHeartbeats 4000000 in
theorem law_top {L : Nat} {xs : Nat → Int32} {i : Int32} {l5 l6 : Value} {c s : Nat} {r : iv_R} {g u : im_M} {o : Nat → Int64} {Y : iv_A} (hb : Op.if_icmp.holds .gt i (Int32.ofNat L - 4) = false) (hi : iv_in i L = true) (h : iv_ev (iv_Xs L xs) 115 49 [.ref 2, .ref 3, .ref 40, .ref 61, .int i, l5, l6] [.int (xs i.toNatClampNeg &&& 15)] (im_H g u o Y) c s r) : iv_ev (iv_Xs L xs) 115 33 [.ref 2, .ref 3, .ref 40, .ref 61, .int i, l5, l6] [] (im_H g u o Y) c s r := by
  refine iv_brf (mi' := 115) (pc' := 860) (ls' := [.ref 2, .ref 3, .ref 40, .ref 61, .int i, l5, l6]) (st' := []) (A' := im_H g u o Y) (c' := c) (s' := s) (mi'' := 115) (pc'' := 42) (ls'' := [.ref 2, .ref 3, .ref 40, .ref 61, .int i, l5, l6]) (st'' := []) (A'' := im_H g u o Y) (c'' := c) (s'' := s) 6 0 0 hb (fun n => rfl) ?_
  refine iv_chk (mi' := 115) (pc' := 46) (ls' := [.ref 2, .ref 3, .ref 40, .ref 61, .int i, l5, l6]) (st' := [.int (xs i.toNatClampNeg)]) (A' := im_H g u o Y) (c' := c) (s' := s) 3 hi (fun n => rfl) ?_
  exact iv_blk (mi' := 115) (pc' := 49) (ls' := [.ref 2, .ref 3, .ref 40, .ref 61, .int i, l5, l6]) (st' := [.int (xs i.toNatClampNeg &&& 15)]) (A' := im_H g u o Y) (c' := c) (s' := s) 2 (fun n => rfl) h
set_option maxRecDepth 100000 in
set_option maxHeartbeats 4000000 in
theorem law_nxt {L : Nat} {xs : Nat → Int32} {i : Int32} {l5 l6 : Value} {c s : Nat} {r : iv_R} {g u : im_M} {o : Nat → Int64} {Y : iv_A} (h : iv_ev (iv_Xs L xs) 115 33 [.ref 2, .ref 3, .ref 40, .ref 61, .int (i + 4), l5, l6] [] (im_H g u o Y) c s r) : iv_ev (iv_Xs L xs) 115 854 [.ref 2, .ref 3, .ref 40, .ref 61, .int i, l5, l6] [] (im_H g u o Y) c s r :=
  iv_blk (mi' := 115) (pc' := 33) (ls' := [.ref 2, .ref 3, .ref 40, .ref 61, .int (i + 4), l5, l6]) (st' := []) (A' := im_H g u o Y) (c' := c) (s' := s) 2 (fun n => rfl) h
set_option maxRecDepth 100000 in
set_option maxHeartbeats 4000000 in
theorem law_sw0 {L : Nat} {xs : Nat → Int32} {i : Int32} {l5 l6 : Value} {c s : Nat} {r : iv_R} {g u : im_M} {o : Nat → Int64} {Y : iv_A} (h : iv_ev (iv_Xs L xs) 115 124 [.ref 2, .ref 3, .ref 40, .ref 61, .int i, l5, l6] [] (im_H g u o Y) c s r) : iv_ev (iv_Xs L xs) 115 49 [.ref 2, .ref 3, .ref 40, .ref 61, .int i, l5, l6] [.int 0] (im_H g u o Y) c s r :=
  iv_blk (mi' := 115) (pc' := 124) (ls' := [.ref 2, .ref 3, .ref 40, .ref 61, .int i, l5, l6]) (st' := []) (A' := im_H g u o Y) (c' := c) (s' := s) 1 (fun n => rfl) h
set_option maxRecDepth 100000 in
set_option maxHeartbeats 4000000 in
theorem law_sw1 {L : Nat} {xs : Nat → Int32} {i : Int32} {l5 l6 : Value} {c s : Nat} {r : iv_R} {g u : im_M} {o : Nat → Int64} {Y : iv_A} (h : iv_ev (iv_Xs L xs) 115 184 [.ref 2, .ref 3, .ref 40, .ref 61, .int i, l5, l6] [] (im_H g u o Y) c s r) : iv_ev (iv_Xs L xs) 115 49 [.ref 2, .ref 3, .ref 40, .ref 61, .int i, l5, l6] [.int 1] (im_H g u o Y) c s r :=
  iv_blk (mi' := 115) (pc' := 184) (ls' := [.ref 2, .ref 3, .ref 40, .ref 61, .int i, l5, l6]) (st' := []) (A' := im_H g u o Y) (c' := c) (s' := s) 1 (fun n => rfl) h
set_option maxRecDepth 100000 in
set_option maxHeartbeats 4000000 in
theorem law_sw2 {L : Nat} {xs : Nat → Int32} {i : Int32} {l5 l6 : Value} {c s : Nat} {r : iv_R} {g u : im_M} {o : Nat → Int64} {Y : iv_A} (h : iv_ev (iv_Xs L xs) 115 252 [.ref 2, .ref 3, .ref 40, .ref 61, .int i, l5, l6] [] (im_H g u o Y) c s r) : iv_ev (iv_Xs L xs) 115 49 [.ref 2, .ref 3, .ref 40, .ref 61, .int i, l5, l6] [.int 2] (im_H g u o Y) c s r :=
  iv_blk (mi' := 115) (pc' := 252) (ls' := [.ref 2, .ref 3, .ref 40, .ref 61, .int i, l5, l6]) (st' := []) (A' := im_H g u o Y) (c' := c) (s' := s) 1 (fun n => rfl) h
set_option maxRecDepth 100000 in
set_option maxHeartbeats 4000000 in
theorem law_sw3 {L : Nat} {xs : Nat → Int32} {i : Int32} {l5 l6 : Value} {c s : Nat} {r : iv_R} {g u : im_M} {o : Nat → Int64} {Y : iv_A} (h : iv_ev (iv_Xs L xs) 115 265 [.ref 2, .ref 3, .ref 40, .ref 61, .int i, l5, l6] [] (im_H g u o Y) c s r) : iv_ev (iv_Xs L xs) 115 49 [.ref 2, .ref 3, .ref 40, .ref 61, .int i, l5, l6] [.int 3] (im_H g u o Y) c s r :=
  iv_blk (mi' := 115) (pc' := 265) (ls' := [.ref 2, .ref 3, .ref 40, .ref 61, .int i, l5, l6]) (st' := []) (A' := im_H g u o Y) (c' := c) (s' := s) 1 (fun n => rfl) h
set_option maxRecDepth 100000 in
set_option maxHeartbeats 4000000 in
theorem law_sw4 {L : Nat} {xs : Nat → Int32} {i : Int32} {l5 l6 : Value} {c s : Nat} {r : iv_R} {g u : im_M} {o : Nat → Int64} {Y : iv_A} (h : iv_ev (iv_Xs L xs) 115 301 [.ref 2, .ref 3, .ref 40, .ref 61, .int i, l5, l6] [] (im_H g u o Y) c s r) : iv_ev (iv_Xs L xs) 115 49 [.ref 2, .ref 3, .ref 40, .ref 61, .int i, l5, l6] [.int 4] (im_H g u o Y) c s r :=
  iv_blk (mi' := 115) (pc' := 301) (ls' := [.ref 2, .ref 3, .ref 40, .ref 61, .int i, l5, l6]) (st' := []) (A' := im_H g u o Y) (c' := c) (s' := s) 1 (fun n => rfl) h
set_option maxRecDepth 100000 in
set_option maxHeartbeats 4000000 in
theorem law_sw5 {L : Nat} {xs : Nat → Int32} {i : Int32} {l5 l6 : Value} {c s : Nat} {r : iv_R} {g u : im_M} {o : Nat → Int64} {Y : iv_A} (h : iv_ev (iv_Xs L xs) 115 325 [.ref 2, .ref 3, .ref 40, .ref 61, .int i, l5, l6] [] (im_H g u o Y) c s r) : iv_ev (iv_Xs L xs) 115 49 [.ref 2, .ref 3, .ref 40, .ref 61, .int i, l5, l6] [.int 5] (im_H g u o Y) c s r :=
  iv_blk (mi' := 115) (pc' := 325) (ls' := [.ref 2, .ref 3, .ref 40, .ref 61, .int i, l5, l6]) (st' := []) (A' := im_H g u o Y) (c' := c) (s' := s) 1 (fun n => rfl) h
set_option maxRecDepth 100000 in
set_option maxHeartbeats 4000000 in
theorem law_sw6 {L : Nat} {xs : Nat → Int32} {i : Int32} {l5 l6 : Value} {c s : Nat} {r : iv_R} {g u : im_M} {o : Nat → Int64} {Y : iv_A} (h : iv_ev (iv_Xs L xs) 115 373 [.ref 2, .ref 3, .ref 40, .ref 61, .int i, l5, l6] [] (im_H g u o Y) c s r) : iv_ev (iv_Xs L xs) 115 49 [.ref 2, .ref 3, .ref 40, .ref 61, .int i, l5, l6] [.int 6] (im_H g u o Y) c s r :=
  iv_blk (mi' := 115) (pc' := 373) (ls' := [.ref 2, .ref 3, .ref 40, .ref 61, .int i, l5, l6]) (st' := []) (A' := im_H g u o Y) (c' := c) (s' := s) 1 (fun n => rfl) h
set_option maxRecDepth 100000 in
set_option maxHeartbeats 4000000 in
theorem law_sw7 {L : Nat} {xs : Nat → Int32} {i : Int32} {l5 l6 : Value} {c s : Nat} {r : iv_R} {g u : im_M} {o : Nat → Int64} {Y : iv_A} (h : iv_ev (iv_Xs L xs) 115 409 [.ref 2, .ref 3, .ref 40, .ref 61, .int i, l5, l6] [] (im_H g u o Y) c s r) : iv_ev (iv_Xs L xs) 115 49 [.ref 2, .ref 3, .ref 40, .ref 61, .int i, l5, l6] [.int 7] (im_H g u o Y) c s r :=
  iv_blk (mi' := 115) (pc' := 409) (ls' := [.ref 2, .ref 3, .ref 40, .ref 61, .int i, l5, l6]) (st' := []) (A' := im_H g u o Y) (c' := c) (s' := s) 1 (fun n => rfl) h
set_option maxRecDepth 100000 in
set_option maxHeartbeats 4000000 in
theorem law_sw8 {L : Nat} {xs : Nat → Int32} {i : Int32} {l5 l6 : Value} {c s : Nat} {r : iv_R} {g u : im_M} {o : Nat → Int64} {Y : iv_A} (h : iv_ev (iv_Xs L xs) 115 469 [.ref 2, .ref 3, .ref 40, .ref 61, .int i, l5, l6] [] (im_H g u o Y) c s r) : iv_ev (iv_Xs L xs) 115 49 [.ref 2, .ref 3, .ref 40, .ref 61, .int i, l5, l6] [.int 8] (im_H g u o Y) c s r :=
  iv_blk (mi' := 115) (pc' := 469) (ls' := [.ref 2, .ref 3, .ref 40, .ref 61, .int i, l5, l6]) (st' := []) (A' := im_H g u o Y) (c' := c) (s' := s) 1 (fun n => rfl) h
set_option maxRecDepth 100000 in
set_option maxHeartbeats 4000000 in
theorem law_sw9 {L : Nat} {xs : Nat → Int32} {i : Int32} {l5 l6 : Value} {c s : Nat} {r : iv_R} {g u : im_M} {o : Nat → Int64} {Y : iv_A} (h : iv_ev (iv_Xs L xs) 115 537 [.ref 2, .ref 3, .ref 40, .ref 61, .int i, l5, l6] [] (im_H g u o Y) c s r) : iv_ev (iv_Xs L xs) 115 49 [.ref 2, .ref 3, .ref 40, .ref 61, .int i, l5, l6] [.int 9] (im_H g u o Y) c s r :=
  iv_blk (mi' := 115) (pc' := 537) (ls' := [.ref 2, .ref 3, .ref 40, .ref 61, .int i, l5, l6]) (st' := []) (A' := im_H g u o Y) (c' := c) (s' := s) 1 (fun n => rfl) h
set_option maxRecDepth 100000 in
set_option maxHeartbeats 4000000 in
theorem law_sw10 {L : Nat} {xs : Nat → Int32} {i : Int32} {l5 l6 : Value} {c s : Nat} {r : iv_R} {g u : im_M} {o : Nat → Int64} {Y : iv_A} (h : iv_ev (iv_Xs L xs) 115 605 [.ref 2, .ref 3, .ref 40, .ref 61, .int i, l5, l6] [] (im_H g u o Y) c s r) : iv_ev (iv_Xs L xs) 115 49 [.ref 2, .ref 3, .ref 40, .ref 61, .int i, l5, l6] [.int 10] (im_H g u o Y) c s r :=
  iv_blk (mi' := 115) (pc' := 605) (ls' := [.ref 2, .ref 3, .ref 40, .ref 61, .int i, l5, l6]) (st' := []) (A' := im_H g u o Y) (c' := c) (s' := s) 1 (fun n => rfl) h
set_option maxRecDepth 100000 in
set_option maxHeartbeats 4000000 in
theorem law_sw11 {L : Nat} {xs : Nat → Int32} {i : Int32} {l5 l6 : Value} {c s : Nat} {r : iv_R} {g u : im_M} {o : Nat → Int64} {Y : iv_A} (h : iv_ev (iv_Xs L xs) 115 661 [.ref 2, .ref 3, .ref 40, .ref 61, .int i, l5, l6] [] (im_H g u o Y) c s r) : iv_ev (iv_Xs L xs) 115 49 [.ref 2, .ref 3, .ref 40, .ref 61, .int i, l5, l6] [.int 11] (im_H g u o Y) c s r :=
  iv_blk (mi' := 115) (pc' := 661) (ls' := [.ref 2, .ref 3, .ref 40, .ref 61, .int i, l5, l6]) (st' := []) (A' := im_H g u o Y) (c' := c) (s' := s) 1 (fun n => rfl) h
set_option maxRecDepth 100000 in
set_option maxHeartbeats 4000000 in
theorem law_sw12 {L : Nat} {xs : Nat → Int32} {i : Int32} {l5 l6 : Value} {c s : Nat} {r : iv_R} {g u : im_M} {o : Nat → Int64} {Y : iv_A} (h : iv_ev (iv_Xs L xs) 115 717 [.ref 2, .ref 3, .ref 40, .ref 61, .int i, l5, l6] [] (im_H g u o Y) c s r) : iv_ev (iv_Xs L xs) 115 49 [.ref 2, .ref 3, .ref 40, .ref 61, .int i, l5, l6] [.int 12] (im_H g u o Y) c s r :=
  iv_blk (mi' := 115) (pc' := 717) (ls' := [.ref 2, .ref 3, .ref 40, .ref 61, .int i, l5, l6]) (st' := []) (A' := im_H g u o Y) (c' := c) (s' := s) 1 (fun n => rfl) h
set_option maxRecDepth 100000 in
set_option maxHeartbeats 4000000 in
theorem law_sw13 {L : Nat} {xs : Nat → Int32} {i : Int32} {l5 l6 : Value} {c s : Nat} {r : iv_R} {g u : im_M} {o : Nat → Int64} {Y : iv_A} (h : iv_ev (iv_Xs L xs) 115 730 [.ref 2, .ref 3, .ref 40, .ref 61, .int i, l5, l6] [] (im_H g u o Y) c s r) : iv_ev (iv_Xs L xs) 115 49 [.ref 2, .ref 3, .ref 40, .ref 61, .int i, l5, l6] [.int 13] (im_H g u o Y) c s r :=
  iv_blk (mi' := 115) (pc' := 730) (ls' := [.ref 2, .ref 3, .ref 40, .ref 61, .int i, l5, l6]) (st' := []) (A' := im_H g u o Y) (c' := c) (s' := s) 1 (fun n => rfl) h
set_option maxRecDepth 100000 in
set_option maxHeartbeats 4000000 in
theorem law_sw14 {L : Nat} {xs : Nat → Int32} {i : Int32} {l5 l6 : Value} {c s : Nat} {r : iv_R} {g u : im_M} {o : Nat → Int64} {Y : iv_A} (h : iv_ev (iv_Xs L xs) 115 798 [.ref 2, .ref 3, .ref 40, .ref 61, .int i, l5, l6] [] (im_H g u o Y) c s r) : iv_ev (iv_Xs L xs) 115 49 [.ref 2, .ref 3, .ref 40, .ref 61, .int i, l5, l6] [.int 14] (im_H g u o Y) c s r :=
  iv_blk (mi' := 115) (pc' := 798) (ls' := [.ref 2, .ref 3, .ref 40, .ref 61, .int i, l5, l6]) (st' := []) (A' := im_H g u o Y) (c' := c) (s' := s) 1 (fun n => rfl) h
set_option maxRecDepth 100000 in
set_option maxHeartbeats 4000000 in
theorem law_sw15 {L : Nat} {xs : Nat → Int32} {i : Int32} {l5 l6 : Value} {c s : Nat} {r : iv_R} {g u : im_M} {o : Nat → Int64} {Y : iv_A} (h : iv_ev (iv_Xs L xs) 115 854 [.ref 2, .ref 3, .ref 40, .ref 61, .int i, l5, l6] [] (im_H g u o Y) c s r) : iv_ev (iv_Xs L xs) 115 49 [.ref 2, .ref 3, .ref 40, .ref 61, .int i, l5, l6] [.int 15] (im_H g u o Y) c s r :=
  iv_blk (mi' := 115) (pc' := 854) (ls' := [.ref 2, .ref 3, .ref 40, .ref 61, .int i, l5, l6]) (st' := []) (A' := im_H g u o Y) (c' := c) (s' := s) 1 (fun n => rfl) h
set_option maxRecDepth 100000 in
set_option maxHeartbeats 4000000 in
theorem law_c0 {L : Nat} {xs : Nat → Int32} {i : Int32} {l5 l6 : Value} {c s : Nat} {r : iv_R} {g g' u u' : im_M} {o o' : Nat → Int64} {Y Y' : iv_A} {k : Int32} (h1 : iv_in (i + 1) L = true) (h2 : iv_in (i + 2) L = true) (h3 : iv_in (i + 3) L = true) (hc : c + 3 ≤ 601024) (hs : s + 18 ≤ 7293000)
    (hw : iv_ev (iv_Xs L xs) 41 0 [.ref 3, .int (xs (i + 1).toNatClampNeg), .int (xs (i + 2).toNatClampNeg), .int (xs (i + 3).toNatClampNeg), .retAddr 0] [] (im_H g u o Y) 0 0 (.inl (some (.int k)), im_H g' u o' Y'))
    (hr : iv_ev (iv_Xs L xs) 85 0 [.ref 40, .int (xs (i + 1).toNatClampNeg), .int (xs (i + 2).toNatClampNeg), .int (xs (i + 3).toNatClampNeg)] [] (im_H g' u o' Y') 0 0 (.inl none, im_H g' u' o' Y'))
    (ht : u' 37 1 = k)
    (hn : iv_ev (iv_Xs L xs) 115 854 [.ref 2, .ref 3, .ref 40, .ref 61, .int i, .int k, l6] [] (im_H g' u' o' Y') (c + 3) (s + 18) r) :
    iv_ev (iv_Xs L xs) 115 124 [.ref 2, .ref 3, .ref 40, .ref 61, .int i, l5, l6] [] (im_H g u o Y) c s r := by
  refine iv_chk (mi' := 115) (pc' := 131) (ls' := [.ref 2, .ref 3, .ref 40, .ref 61, .int i, l5, l6]) (st' := [.int (xs (i + 1).toNatClampNeg), .ref 3]) (A' := im_H g u o Y) (c' := c) (s' := s) 6 h1 (fun n => rfl) ?_
  refine iv_chk (mi' := 115) (pc' := 137) (ls' := [.ref 2, .ref 3, .ref 40, .ref 61, .int i, l5, l6]) (st' := [.int (xs (i + 2).toNatClampNeg), .int (xs (i + 1).toNatClampNeg), .ref 3]) (A' := im_H g u o Y) (c' := c) (s' := s) 5 h2 (fun n => rfl) ?_
  refine iv_chk (mi' := 115) (pc' := 143) (ls' := [.ref 2, .ref 3, .ref 40, .ref 61, .int i, l5, l6]) (st' := [.int (xs (i + 3).toNatClampNeg), .int (xs (i + 2).toNatClampNeg), .int (xs (i + 1).toNatClampNeg), .ref 3]) (A' := im_H g u o Y) (c' := c) (s' := s) 5 h3 (fun n => rfl) ?_
  refine iv_cal (mi' := 115) (pc' := 143) (ls' := [.ref 2, .ref 3, .ref 40, .ref 61, .int i, l5, l6]) (rest := []) (A' := im_H g u o Y) (c' := c) (s' := s) (as := [.ref 3, .int (xs (i + 1).toNatClampNeg), .int (xs (i + 2).toNatClampNeg), .int (xs (i + 3).toNatClampNeg)]) (v := some (.int (k))) (A'' := im_H g' u o' Y') 1 41 (fun n => rfl) (iv_hb (c := c) (s := s) (a := 3) (b := 18) rfl rfl rfl (by omega) (by omega)) hw ?_
  show iv_ev (iv_Xs L xs) 115 146 [.ref 2, .ref 3, .ref 40, .ref 61, .int i, l5, l6] [.int k] (im_H g' u o' Y') (c + 3) (s + 18) _
  refine iv_chk (mi' := 115) (pc' := 155) (ls' := [.ref 2, .ref 3, .ref 40, .ref 61, .int i, .int k, l6]) (st' := [.int (xs (i + 1).toNatClampNeg), .ref 40]) (A' := im_H g' u o' Y') (c' := (c + 3)) (s' := (s + 18)) 7 h1 (fun n => rfl) ?_
  refine iv_chk (mi' := 115) (pc' := 161) (ls' := [.ref 2, .ref 3, .ref 40, .ref 61, .int i, .int k, l6]) (st' := [.int (xs (i + 2).toNatClampNeg), .int (xs (i + 1).toNatClampNeg), .ref 40]) (A' := im_H g' u o' Y') (c' := (c + 3)) (s' := (s + 18)) 5 h2 (fun n => rfl) ?_
  refine iv_chk (mi' := 115) (pc' := 167) (ls' := [.ref 2, .ref 3, .ref 40, .ref 61, .int i, .int k, l6]) (st' := [.int (xs (i + 3).toNatClampNeg), .int (xs (i + 2).toNatClampNeg), .int (xs (i + 1).toNatClampNeg), .ref 40]) (A' := im_H g' u o' Y') (c' := (c + 3)) (s' := (s + 18)) 5 h3 (fun n => rfl) ?_
  refine iv_cal (mi' := 115) (pc' := 167) (ls' := [.ref 2, .ref 3, .ref 40, .ref 61, .int i, .int k, l6]) (rest := []) (A' := im_H g' u o' Y') (c' := (c + 3)) (s' := (s + 18)) (as := [.ref 40, .int (xs (i + 1).toNatClampNeg), .int (xs (i + 2).toNatClampNeg), .int (xs (i + 3).toNatClampNeg)]) (v := none) (A'' := im_H g' u' o' Y') 1 85 (fun n => rfl) (iv_hb (c := (c + 3)) (s := (s + 18)) (a := 0) (b := 0) rfl rfl rfl (by omega) (by omega)) hr ?_
  show iv_ev (iv_Xs L xs) 115 170 [.ref 2, .ref 3, .ref 40, .ref 61, .int i, .int k, l6] [] (im_H g' u' o' Y') (c + 3) (s + 18) _
  refine iv_cal (mi' := 115) (pc' := 171) (ls' := [.ref 2, .ref 3, .ref 40, .ref 61, .int i, .int k, l6]) (rest := []) (A' := im_H g' u' o' Y') (c' := (c + 3)) (s' := (s + 18)) (as := [.ref 40]) (v := some (.int (u' 37 1))) (A'' := im_H g' u' o' Y') 2 84 (fun n => rfl) (iv_hb (c := (c + 3)) (s := (s + 18)) (a := 0) (b := 0) rfl rfl rfl (by omega) (by omega)) (x84_r37_ok (u := u') rfl) ?_
  show iv_ev (iv_Xs L xs) 115 174 [.ref 2, .ref 3, .ref 40, .ref 61, .int i, .int k, l6] [.int (u' 37 1)] (im_H g' u' o' Y') (c + 3) (s + 18) _
  rw [ht]
  refine iv_brt (mi' := 115) (pc' := 181) (ls' := [.ref 2, .ref 3, .ref 40, .ref 61, .int i, .int k, l6]) (st' := []) (A' := im_H g' u' o' Y') (c' := (c + 3)) (s' := (s + 18)) (mi'' := 115) (pc'' := 179) (ls'' := [.ref 2, .ref 3, .ref 40, .ref 61, .int i, .int k, l6]) (st'' := []) (A'' := im_H g' u' o' Y') (c'' := (c + 3)) (s'' := (s + 18)) 2 0 0 (iv_heq k) (fun n => rfl) ?_
  exact iv_blk (mi' := 115) (pc' := 854) (ls' := [.ref 2, .ref 3, .ref 40, .ref 61, .int i, .int k, l6]) (st' := []) (A' := im_H g' u' o' Y') (c' := (c + 3)) (s' := (s + 18)) 1 (fun n => rfl) hn
set_option maxRecDepth 100000 in
set_option maxHeartbeats 4000000 in
theorem law_c1 {L : Nat} {xs : Nat → Int32} {i : Int32} {l5 l6 : Value} {c s : Nat} {r : iv_R} {g g' u u' : im_M} {o o' : Nat → Int64} {Y Y' : iv_A} {k b : Int32} (h1 : iv_in (i + 1) L = true) (h2 : iv_in (i + 2) L = true) (hc : c + 2 ≤ 601024) (hs : s + 12 ≤ 7293000)
    (hw : iv_ev (iv_Xs L xs) 51 0 [.ref 3, .int (xs (i + 1).toNatClampNeg), .int (xs (i + 2).toNatClampNeg), .ref 61, .retAddr 0] [] (im_H g u o Y) 0 0 (.inl (some (.int k)), im_H g' u o' Y'))
    (hr : iv_ev (iv_Xs L xs) 87 0 [.ref 40, .int (xs (i + 1).toNatClampNeg), .int (xs (i + 2).toNatClampNeg)] [] (im_H g' u o' Y') 0 0 (.inl (some (.int b)), im_H g' u' o' Y'))
    (ht : u' 37 1 = k)
    (ho : k = 0 → o' 0 = b.toInt64)
    (hn : iv_ev (iv_Xs L xs) 115 854 [.ref 2, .ref 3, .ref 40, .ref 61, .int i, .int k, .int b] [] (im_H g' u' o' Y') (c + 2) (s + 12) r) :
    iv_ev (iv_Xs L xs) 115 184 [.ref 2, .ref 3, .ref 40, .ref 61, .int i, l5, l6] [] (im_H g u o Y) c s r := by
  refine iv_chk (mi' := 115) (pc' := 191) (ls' := [.ref 2, .ref 3, .ref 40, .ref 61, .int i, l5, l6]) (st' := [.int (xs (i + 1).toNatClampNeg), .ref 3]) (A' := im_H g u o Y) (c' := c) (s' := s) 6 h1 (fun n => rfl) ?_
  refine iv_chk (mi' := 115) (pc' := 197) (ls' := [.ref 2, .ref 3, .ref 40, .ref 61, .int i, l5, l6]) (st' := [.int (xs (i + 2).toNatClampNeg), .int (xs (i + 1).toNatClampNeg), .ref 3]) (A' := im_H g u o Y) (c' := c) (s' := s) 5 h2 (fun n => rfl) ?_
  refine iv_cal (mi' := 115) (pc' := 198) (ls' := [.ref 2, .ref 3, .ref 40, .ref 61, .int i, l5, l6]) (rest := []) (A' := im_H g u o Y) (c' := c) (s' := s) (as := [.ref 3, .int (xs (i + 1).toNatClampNeg), .int (xs (i + 2).toNatClampNeg), .ref 61]) (v := some (.int (k))) (A'' := im_H g' u o' Y') 2 51 (fun n => rfl) (iv_hb (c := c) (s := s) (a := 2) (b := 12) rfl rfl rfl (by omega) (by omega)) hw ?_
  show iv_ev (iv_Xs L xs) 115 201 [.ref 2, .ref 3, .ref 40, .ref 61, .int i, l5, l6] [.int k] (im_H g' u o' Y') (c + 2) (s + 12) _
  refine iv_chk (mi' := 115) (pc' := 210) (ls' := [.ref 2, .ref 3, .ref 40, .ref 61, .int i, .int k, l6]) (st' := [.int (xs (i + 1).toNatClampNeg), .ref 40]) (A' := im_H g' u o' Y') (c' := (c + 2)) (s' := (s + 12)) 7 h1 (fun n => rfl) ?_
  refine iv_chk (mi' := 115) (pc' := 216) (ls' := [.ref 2, .ref 3, .ref 40, .ref 61, .int i, .int k, l6]) (st' := [.int (xs (i + 2).toNatClampNeg), .int (xs (i + 1).toNatClampNeg), .ref 40]) (A' := im_H g' u o' Y') (c' := (c + 2)) (s' := (s + 12)) 5 h2 (fun n => rfl) ?_
  refine iv_cal (mi' := 115) (pc' := 216) (ls' := [.ref 2, .ref 3, .ref 40, .ref 61, .int i, .int k, l6]) (rest := []) (A' := im_H g' u o' Y') (c' := (c + 2)) (s' := (s + 12)) (as := [.ref 40, .int (xs (i + 1).toNatClampNeg), .int (xs (i + 2).toNatClampNeg)]) (v := some (.int (b))) (A'' := im_H g' u' o' Y') 1 87 (fun n => rfl) (iv_hb (c := (c + 2)) (s := (s + 12)) (a := 0) (b := 0) rfl rfl rfl (by omega) (by omega)) hr ?_
  show iv_ev (iv_Xs L xs) 115 219 [.ref 2, .ref 3, .ref 40, .ref 61, .int i, .int k, l6] [.int b] (im_H g' u' o' Y') (c + 2) (s + 12) _
  refine iv_cal (mi' := 115) (pc' := 222) (ls' := [.ref 2, .ref 3, .ref 40, .ref 61, .int i, .int k, .int b]) (rest := []) (A' := im_H g' u' o' Y') (c' := (c + 2)) (s' := (s + 12)) (as := [.ref 40]) (v := some (.int (u' 37 1))) (A'' := im_H g' u' o' Y') 3 84 (fun n => rfl) (iv_hb (c := (c + 2)) (s := (s + 12)) (a := 0) (b := 0) rfl rfl rfl (by omega) (by omega)) (x84_r37_ok (u := u') rfl) ?_
  show iv_ev (iv_Xs L xs) 115 225 [.ref 2, .ref 3, .ref 40, .ref 61, .int i, .int k, .int b] [.int (u' 37 1)] (im_H g' u' o' Y') (c + 2) (s + 12) _
  rw [ht]
  refine iv_brt (mi' := 115) (pc' := 232) (ls' := [.ref 2, .ref 3, .ref 40, .ref 61, .int i, .int k, .int b]) (st' := []) (A' := im_H g' u' o' Y') (c' := (c + 2)) (s' := (s + 12)) (mi'' := 115) (pc'' := 230) (ls'' := [.ref 2, .ref 3, .ref 40, .ref 61, .int i, .int k, .int b]) (st'' := []) (A'' := im_H g' u' o' Y') (c'' := (c + 2)) (s'' := (s + 12)) 2 0 0 (iv_heq k) (fun n => rfl) ?_
  by_cases hk : k = 0
  · have ho := ho hk
    have hb : Op.ifCond.holds .ne k = false := by rw [hk]; rfl
    refine iv_brf (mi' := 115) (pc' := 249) (ls' := [.ref 2, .ref 3, .ref 40, .ref 61, .int i, .int k, .int b]) (st' := []) (A' := im_H g' u' o' Y') (c' := (c + 2)) (s' := (s + 12)) (mi'' := 115) (pc'' := 237) (ls'' := [.ref 2, .ref 3, .ref 40, .ref 61, .int i, .int k, .int b]) (st'' := []) (A'' := im_H g' u' o' Y') (c'' := (c + 2)) (s'' := (s + 12)) 2 0 0 hb (fun n => rfl) ?_
    refine iv_blk (mi' := 115) (pc' := 244) (ls' := [.ref 2, .ref 3, .ref 40, .ref 61, .int i, .int k, .int b]) (st' := [.int (lg_cmp (o' 0) b.toInt64)]) (A' := im_H g' u' o' Y') (c' := (c + 2)) (s' := (s + 12)) 6 (fun n => rfl) ?_
    rw [ho]
    refine iv_brt (mi' := 115) (pc' := 249) (ls' := [.ref 2, .ref 3, .ref 40, .ref 61, .int i, .int k, .int b]) (st' := []) (A' := im_H g' u' o' Y') (c' := (c + 2)) (s' := (s + 12)) (mi'' := 115) (pc'' := 247) (ls'' := [.ref 2, .ref 3, .ref 40, .ref 61, .int i, .int k, .int b]) (st'' := []) (A'' := im_H g' u' o' Y') (c'' := (c + 2)) (s'' := (s + 12)) 1 0 0 (iv_hcm _) (fun n => rfl) ?_
    exact iv_blk (mi' := 115) (pc' := 854) (ls' := [.ref 2, .ref 3, .ref 40, .ref 61, .int i, .int k, .int b]) (st' := []) (A' := im_H g' u' o' Y') (c' := (c + 2)) (s' := (s + 12)) 1 (fun n => rfl) hn
  · refine iv_brt (mi' := 115) (pc' := 249) (ls' := [.ref 2, .ref 3, .ref 40, .ref 61, .int i, .int k, .int b]) (st' := []) (A' := im_H g' u' o' Y') (c' := (c + 2)) (s' := (s + 12)) (mi'' := 115) (pc'' := 237) (ls'' := [.ref 2, .ref 3, .ref 40, .ref 61, .int i, .int k, .int b]) (st'' := []) (A'' := im_H g' u' o' Y') (c'' := (c + 2)) (s'' := (s + 12)) 2 0 0 (iv_hne k hk) (fun n => rfl) ?_
    exact iv_blk (mi' := 115) (pc' := 854) (ls' := [.ref 2, .ref 3, .ref 40, .ref 61, .int i, .int k, .int b]) (st' := []) (A' := im_H g' u' o' Y') (c' := (c + 2)) (s' := (s + 12)) 1 (fun n => rfl) hn
set_option maxRecDepth 100000 in
set_option maxHeartbeats 4000000 in
theorem law_c2 {L : Nat} {xs : Nat → Int32} {i : Int32} {l5 l6 : Value} {c s : Nat} {r : iv_R} {g g' u u' : im_M} {o : Nat → Int64} {Y : iv_A} {k : Int32} (hc : c + 0 ≤ 601024) (hs : s + 0 ≤ 7293000)
    (hw : iv_ev (iv_Xs L xs) 10 0 [.ref 3, .retAddr 0, .retAddr 0] [] (im_H g u o Y) 0 0 (.inl (some (.int k)), im_H g' u o Y))
    (hr : iv_ev (iv_Xs L xs) 90 0 [.ref 40, .retAddr 0, .retAddr 0, .retAddr 0, .retAddr 0] [] (im_H g' u o Y) 0 0 (.inl (some (.int k)), im_H g' u' o Y))
    (hn : iv_ev (iv_Xs L xs) 115 854 [.ref 2, .ref 3, .ref 40, .ref 61, .int i, l5, l6] [] (im_H g' u' o Y) c s r) :
    iv_ev (iv_Xs L xs) 115 252 [.ref 2, .ref 3, .ref 40, .ref 61, .int i, l5, l6] [] (im_H g u o Y) c s r := by
  refine iv_cal (mi' := 115) (pc' := 253) (ls' := [.ref 2, .ref 3, .ref 40, .ref 61, .int i, l5, l6]) (rest := []) (A' := im_H g u o Y) (c' := c) (s' := s) (as := [.ref 3]) (v := some (.int (k))) (A'' := im_H g' u o Y) 2 10 (fun n => rfl) (iv_hb (c := c) (s := s) (a := 0) (b := 0) rfl rfl rfl (by omega) (by omega)) hw ?_
  show iv_ev (iv_Xs L xs) 115 256 [.ref 2, .ref 3, .ref 40, .ref 61, .int i, l5, l6] [.int k] (im_H g' u o Y) c s _
  refine iv_cal (mi' := 115) (pc' := 257) (ls' := [.ref 2, .ref 3, .ref 40, .ref 61, .int i, l5, l6]) (rest := [.int k]) (A' := im_H g' u o Y) (c' := c) (s' := s) (as := [.ref 40]) (v := some (.int (k))) (A'' := im_H g' u' o Y) 2 90 (fun n => rfl) (iv_hb (c := c) (s := s) (a := 0) (b := 0) rfl rfl rfl (by omega) (by omega)) hr ?_
  show iv_ev (iv_Xs L xs) 115 260 [.ref 2, .ref 3, .ref 40, .ref 61, .int i, l5, l6] [.int k, .int k] (im_H g' u' o Y) c s _
  refine iv_brt (mi' := 115) (pc' := 854) (ls' := [.ref 2, .ref 3, .ref 40, .ref 61, .int i, l5, l6]) (st' := []) (A' := im_H g' u' o Y) (c' := c) (s' := s) (mi'' := 115) (pc'' := 263) (ls'' := [.ref 2, .ref 3, .ref 40, .ref 61, .int i, l5, l6]) (st'' := []) (A'' := im_H g' u' o Y) (c'' := c) (s'' := s) 1 0 0 (iv_heq k) (fun n => rfl) ?_
  exact hn
set_option maxRecDepth 100000 in
set_option maxHeartbeats 4000000 in
theorem law_c3 {L : Nat} {xs : Nat → Int32} {i : Int32} {l5 l6 : Value} {c s : Nat} {r : iv_R} {g g' u u' : im_M} {o o' : Nat → Int64} {Y Y' : iv_A} {k : Int32} (h1 : iv_in (i + 1) L = true) (hc : c + 2 ≤ 601024) (hs : s + 12 ≤ 7293000)
    (hw : iv_ev (iv_Xs L xs) 53 0 [.ref 3, .int (xs (i + 1).toNatClampNeg), .retAddr 0] [] (im_H g u o Y) 0 0 (.inl (some (.int k)), im_H g' u o' Y'))
    (hr : iv_ev (iv_Xs L xs) 103 0 [.ref 40, .int (xs (i + 1).toNatClampNeg)] [] (im_H g' u o' Y') 0 0 (.inl none, im_H g' u' o' Y'))
    (ht : u' 37 1 = k)
    (hn : iv_ev (iv_Xs L xs) 115 854 [.ref 2, .ref 3, .ref 40, .ref 61, .int i, .int k, l6] [] (im_H g' u' o' Y') (c + 2) (s + 12) r) :
    iv_ev (iv_Xs L xs) 115 265 [.ref 2, .ref 3, .ref 40, .ref 61, .int i, l5, l6] [] (im_H g u o Y) c s r := by
  refine iv_chk (mi' := 115) (pc' := 272) (ls' := [.ref 2, .ref 3, .ref 40, .ref 61, .int i, l5, l6]) (st' := [.int (xs (i + 1).toNatClampNeg), .ref 3]) (A' := im_H g u o Y) (c' := c) (s' := s) 6 h1 (fun n => rfl) ?_
  refine iv_cal (mi' := 115) (pc' := 272) (ls' := [.ref 2, .ref 3, .ref 40, .ref 61, .int i, l5, l6]) (rest := []) (A' := im_H g u o Y) (c' := c) (s' := s) (as := [.ref 3, .int (xs (i + 1).toNatClampNeg)]) (v := some (.int (k))) (A'' := im_H g' u o' Y') 1 53 (fun n => rfl) (iv_hb (c := c) (s := s) (a := 2) (b := 12) rfl rfl rfl (by omega) (by omega)) hw ?_
  show iv_ev (iv_Xs L xs) 115 275 [.ref 2, .ref 3, .ref 40, .ref 61, .int i, l5, l6] [.int k] (im_H g' u o' Y') (c + 2) (s + 12) _
  refine iv_chk (mi' := 115) (pc' := 284) (ls' := [.ref 2, .ref 3, .ref 40, .ref 61, .int i, .int k, l6]) (st' := [.int (xs (i + 1).toNatClampNeg), .ref 40]) (A' := im_H g' u o' Y') (c' := (c + 2)) (s' := (s + 12)) 7 h1 (fun n => rfl) ?_
  refine iv_cal (mi' := 115) (pc' := 284) (ls' := [.ref 2, .ref 3, .ref 40, .ref 61, .int i, .int k, l6]) (rest := []) (A' := im_H g' u o' Y') (c' := (c + 2)) (s' := (s + 12)) (as := [.ref 40, .int (xs (i + 1).toNatClampNeg)]) (v := none) (A'' := im_H g' u' o' Y') 1 103 (fun n => rfl) (iv_hb (c := (c + 2)) (s := (s + 12)) (a := 0) (b := 0) rfl rfl rfl (by omega) (by omega)) hr ?_
  show iv_ev (iv_Xs L xs) 115 287 [.ref 2, .ref 3, .ref 40, .ref 61, .int i, .int k, l6] [] (im_H g' u' o' Y') (c + 2) (s + 12) _
  refine iv_cal (mi' := 115) (pc' := 288) (ls' := [.ref 2, .ref 3, .ref 40, .ref 61, .int i, .int k, l6]) (rest := []) (A' := im_H g' u' o' Y') (c' := (c + 2)) (s' := (s + 12)) (as := [.ref 40]) (v := some (.int (u' 37 1))) (A'' := im_H g' u' o' Y') 2 84 (fun n => rfl) (iv_hb (c := (c + 2)) (s := (s + 12)) (a := 0) (b := 0) rfl rfl rfl (by omega) (by omega)) (x84_r37_ok (u := u') rfl) ?_
  show iv_ev (iv_Xs L xs) 115 291 [.ref 2, .ref 3, .ref 40, .ref 61, .int i, .int k, l6] [.int (u' 37 1)] (im_H g' u' o' Y') (c + 2) (s + 12) _
  rw [ht]
  refine iv_brt (mi' := 115) (pc' := 298) (ls' := [.ref 2, .ref 3, .ref 40, .ref 61, .int i, .int k, l6]) (st' := []) (A' := im_H g' u' o' Y') (c' := (c + 2)) (s' := (s + 12)) (mi'' := 115) (pc'' := 296) (ls'' := [.ref 2, .ref 3, .ref 40, .ref 61, .int i, .int k, l6]) (st'' := []) (A'' := im_H g' u' o' Y') (c'' := (c + 2)) (s'' := (s + 12)) 2 0 0 (iv_heq k) (fun n => rfl) ?_
  exact iv_blk (mi' := 115) (pc' := 854) (ls' := [.ref 2, .ref 3, .ref 40, .ref 61, .int i, .int k, l6]) (st' := []) (A' := im_H g' u' o' Y') (c' := (c + 2)) (s' := (s + 12)) 1 (fun n => rfl) hn
set_option maxRecDepth 100000 in
set_option maxHeartbeats 4000000 in
theorem law_c4 {L : Nat} {xs : Nat → Int32} {i : Int32} {l5 l6 : Value} {c s : Nat} {r : iv_R} {g g' u u' : im_M} {o o' : Nat → Int64} {Y Y' : iv_A} {k : Int32} (hc : c + 1 ≤ 601024) (hs : s + 6 ≤ 7293000)
    (hw : iv_ev (iv_Xs L xs) 57 0 [.ref 3, .retAddr 0] [] (im_H g u o Y) 0 0 (.inl (some (.int k)), im_H g' u o' Y'))
    (hr : iv_ev (iv_Xs L xs) 104 0 [.ref 40] [] (im_H g' u o' Y') 0 0 (.inl none, im_H g' u' o' Y'))
    (ht : u' 37 1 = k)
    (hn : iv_ev (iv_Xs L xs) 115 854 [.ref 2, .ref 3, .ref 40, .ref 61, .int i, .int k, l6] [] (im_H g' u' o' Y') (c + 1) (s + 6) r) :
    iv_ev (iv_Xs L xs) 115 301 [.ref 2, .ref 3, .ref 40, .ref 61, .int i, l5, l6] [] (im_H g u o Y) c s r := by
  refine iv_cal (mi' := 115) (pc' := 302) (ls' := [.ref 2, .ref 3, .ref 40, .ref 61, .int i, l5, l6]) (rest := []) (A' := im_H g u o Y) (c' := c) (s' := s) (as := [.ref 3]) (v := some (.int (k))) (A'' := im_H g' u o' Y') 2 57 (fun n => rfl) (iv_hb (c := c) (s := s) (a := 1) (b := 6) rfl rfl rfl (by omega) (by omega)) hw ?_
  show iv_ev (iv_Xs L xs) 115 305 [.ref 2, .ref 3, .ref 40, .ref 61, .int i, l5, l6] [.int k] (im_H g' u o' Y') (c + 1) (s + 6) _
  refine iv_cal (mi' := 115) (pc' := 308) (ls' := [.ref 2, .ref 3, .ref 40, .ref 61, .int i, .int k, l6]) (rest := []) (A' := im_H g' u o' Y') (c' := (c + 1)) (s' := (s + 6)) (as := [.ref 40]) (v := none) (A'' := im_H g' u' o' Y') 3 104 (fun n => rfl) (iv_hb (c := (c + 1)) (s := (s + 6)) (a := 0) (b := 0) rfl rfl rfl (by omega) (by omega)) hr ?_
  show iv_ev (iv_Xs L xs) 115 311 [.ref 2, .ref 3, .ref 40, .ref 61, .int i, .int k, l6] [] (im_H g' u' o' Y') (c + 1) (s + 6) _
  refine iv_cal (mi' := 115) (pc' := 312) (ls' := [.ref 2, .ref 3, .ref 40, .ref 61, .int i, .int k, l6]) (rest := []) (A' := im_H g' u' o' Y') (c' := (c + 1)) (s' := (s + 6)) (as := [.ref 40]) (v := some (.int (u' 37 1))) (A'' := im_H g' u' o' Y') 2 84 (fun n => rfl) (iv_hb (c := (c + 1)) (s := (s + 6)) (a := 0) (b := 0) rfl rfl rfl (by omega) (by omega)) (x84_r37_ok (u := u') rfl) ?_
  show iv_ev (iv_Xs L xs) 115 315 [.ref 2, .ref 3, .ref 40, .ref 61, .int i, .int k, l6] [.int (u' 37 1)] (im_H g' u' o' Y') (c + 1) (s + 6) _
  rw [ht]
  refine iv_brt (mi' := 115) (pc' := 322) (ls' := [.ref 2, .ref 3, .ref 40, .ref 61, .int i, .int k, l6]) (st' := []) (A' := im_H g' u' o' Y') (c' := (c + 1)) (s' := (s + 6)) (mi'' := 115) (pc'' := 320) (ls'' := [.ref 2, .ref 3, .ref 40, .ref 61, .int i, .int k, l6]) (st'' := []) (A'' := im_H g' u' o' Y') (c'' := (c + 1)) (s'' := (s + 6)) 2 0 0 (iv_heq k) (fun n => rfl) ?_
  exact iv_blk (mi' := 115) (pc' := 854) (ls' := [.ref 2, .ref 3, .ref 40, .ref 61, .int i, .int k, l6]) (st' := []) (A' := im_H g' u' o' Y') (c' := (c + 1)) (s' := (s + 6)) 1 (fun n => rfl) hn
set_option maxRecDepth 100000 in
set_option maxHeartbeats 4000000 in
theorem law_c5 {L : Nat} {xs : Nat → Int32} {i : Int32} {l5 l6 : Value} {c s : Nat} {r : iv_R} {g g' u u' : im_M} {o o' : Nat → Int64} {Y Y' : iv_A} {k : Int32} (h1 : iv_in (i + 1) L = true) (h2 : iv_in (i + 2) L = true) (hc : c + 3 ≤ 601024) (hs : s + 18 ≤ 7293000)
    (hw : iv_ev (iv_Xs L xs) 59 0 [.ref 3, .int (xs (i + 1).toNatClampNeg), .int (xs (i + 2).toNatClampNeg), .retAddr 0] [] (im_H g u o Y) 0 0 (.inl (some (.int k)), im_H g' u o' Y'))
    (hr : iv_ev (iv_Xs L xs) 105 0 [.ref 40, .int (xs (i + 1).toNatClampNeg), .int (xs (i + 2).toNatClampNeg)] [] (im_H g' u o' Y') 0 0 (.inl none, im_H g' u' o' Y'))
    (ht : u' 37 1 = k)
    (hn : iv_ev (iv_Xs L xs) 115 854 [.ref 2, .ref 3, .ref 40, .ref 61, .int i, .int k, l6] [] (im_H g' u' o' Y') (c + 3) (s + 18) r) :
    iv_ev (iv_Xs L xs) 115 325 [.ref 2, .ref 3, .ref 40, .ref 61, .int i, l5, l6] [] (im_H g u o Y) c s r := by
  refine iv_chk (mi' := 115) (pc' := 332) (ls' := [.ref 2, .ref 3, .ref 40, .ref 61, .int i, l5, l6]) (st' := [.int (xs (i + 1).toNatClampNeg), .ref 3]) (A' := im_H g u o Y) (c' := c) (s' := s) 6 h1 (fun n => rfl) ?_
  refine iv_chk (mi' := 115) (pc' := 338) (ls' := [.ref 2, .ref 3, .ref 40, .ref 61, .int i, l5, l6]) (st' := [.int (xs (i + 2).toNatClampNeg), .int (xs (i + 1).toNatClampNeg), .ref 3]) (A' := im_H g u o Y) (c' := c) (s' := s) 5 h2 (fun n => rfl) ?_
  refine iv_cal (mi' := 115) (pc' := 338) (ls' := [.ref 2, .ref 3, .ref 40, .ref 61, .int i, l5, l6]) (rest := []) (A' := im_H g u o Y) (c' := c) (s' := s) (as := [.ref 3, .int (xs (i + 1).toNatClampNeg), .int (xs (i + 2).toNatClampNeg)]) (v := some (.int (k))) (A'' := im_H g' u o' Y') 1 59 (fun n => rfl) (iv_hb (c := c) (s := s) (a := 3) (b := 18) rfl rfl rfl (by omega) (by omega)) hw ?_
  show iv_ev (iv_Xs L xs) 115 341 [.ref 2, .ref 3, .ref 40, .ref 61, .int i, l5, l6] [.int k] (im_H g' u o' Y') (c + 3) (s + 18) _
  refine iv_chk (mi' := 115) (pc' := 350) (ls' := [.ref 2, .ref 3, .ref 40, .ref 61, .int i, .int k, l6]) (st' := [.int (xs (i + 1).toNatClampNeg), .ref 40]) (A' := im_H g' u o' Y') (c' := (c + 3)) (s' := (s + 18)) 7 h1 (fun n => rfl) ?_
  refine iv_chk (mi' := 115) (pc' := 356) (ls' := [.ref 2, .ref 3, .ref 40, .ref 61, .int i, .int k, l6]) (st' := [.int (xs (i + 2).toNatClampNeg), .int (xs (i + 1).toNatClampNeg), .ref 40]) (A' := im_H g' u o' Y') (c' := (c + 3)) (s' := (s + 18)) 5 h2 (fun n => rfl) ?_
  refine iv_cal (mi' := 115) (pc' := 356) (ls' := [.ref 2, .ref 3, .ref 40, .ref 61, .int i, .int k, l6]) (rest := []) (A' := im_H g' u o' Y') (c' := (c + 3)) (s' := (s + 18)) (as := [.ref 40, .int (xs (i + 1).toNatClampNeg), .int (xs (i + 2).toNatClampNeg)]) (v := none) (A'' := im_H g' u' o' Y') 1 105 (fun n => rfl) (iv_hb (c := (c + 3)) (s := (s + 18)) (a := 0) (b := 0) rfl rfl rfl (by omega) (by omega)) hr ?_
  show iv_ev (iv_Xs L xs) 115 359 [.ref 2, .ref 3, .ref 40, .ref 61, .int i, .int k, l6] [] (im_H g' u' o' Y') (c + 3) (s + 18) _
  refine iv_cal (mi' := 115) (pc' := 360) (ls' := [.ref 2, .ref 3, .ref 40, .ref 61, .int i, .int k, l6]) (rest := []) (A' := im_H g' u' o' Y') (c' := (c + 3)) (s' := (s + 18)) (as := [.ref 40]) (v := some (.int (u' 37 1))) (A'' := im_H g' u' o' Y') 2 84 (fun n => rfl) (iv_hb (c := (c + 3)) (s := (s + 18)) (a := 0) (b := 0) rfl rfl rfl (by omega) (by omega)) (x84_r37_ok (u := u') rfl) ?_
  show iv_ev (iv_Xs L xs) 115 363 [.ref 2, .ref 3, .ref 40, .ref 61, .int i, .int k, l6] [.int (u' 37 1)] (im_H g' u' o' Y') (c + 3) (s + 18) _
  rw [ht]
  refine iv_brt (mi' := 115) (pc' := 370) (ls' := [.ref 2, .ref 3, .ref 40, .ref 61, .int i, .int k, l6]) (st' := []) (A' := im_H g' u' o' Y') (c' := (c + 3)) (s' := (s + 18)) (mi'' := 115) (pc'' := 368) (ls'' := [.ref 2, .ref 3, .ref 40, .ref 61, .int i, .int k, l6]) (st'' := []) (A'' := im_H g' u' o' Y') (c'' := (c + 3)) (s'' := (s + 18)) 2 0 0 (iv_heq k) (fun n => rfl) ?_
  exact iv_blk (mi' := 115) (pc' := 854) (ls' := [.ref 2, .ref 3, .ref 40, .ref 61, .int i, .int k, l6]) (st' := []) (A' := im_H g' u' o' Y') (c' := (c + 3)) (s' := (s + 18)) 1 (fun n => rfl) hn
set_option maxRecDepth 100000 in
set_option maxHeartbeats 4000000 in
theorem law_c6 {L : Nat} {xs : Nat → Int32} {i : Int32} {l5 l6 : Value} {c s : Nat} {r : iv_R} {g g' u u' : im_M} {o o' : Nat → Int64} {Y Y' : iv_A} {k : Int32} (h1 : iv_in (i + 1) L = true) (hc : c + 2 ≤ 601024) (hs : s + 12 ≤ 7293000)
    (hw : iv_ev (iv_Xs L xs) 62 0 [.ref 3, .int (xs (i + 1).toNatClampNeg), .retAddr 0] [] (im_H g u o Y) 0 0 (.inl (some (.int k)), im_H g' u o' Y'))
    (hr : iv_ev (iv_Xs L xs) 106 0 [.ref 40, .int (xs (i + 1).toNatClampNeg)] [] (im_H g' u o' Y') 0 0 (.inl none, im_H g' u' o' Y'))
    (ht : u' 37 1 = k)
    (hn : iv_ev (iv_Xs L xs) 115 854 [.ref 2, .ref 3, .ref 40, .ref 61, .int i, .int k, l6] [] (im_H g' u' o' Y') (c + 2) (s + 12) r) :
    iv_ev (iv_Xs L xs) 115 373 [.ref 2, .ref 3, .ref 40, .ref 61, .int i, l5, l6] [] (im_H g u o Y) c s r := by
  refine iv_chk (mi' := 115) (pc' := 380) (ls' := [.ref 2, .ref 3, .ref 40, .ref 61, .int i, l5, l6]) (st' := [.int (xs (i + 1).toNatClampNeg), .ref 3]) (A' := im_H g u o Y) (c' := c) (s' := s) 6 h1 (fun n => rfl) ?_
  refine iv_cal (mi' := 115) (pc' := 380) (ls' := [.ref 2, .ref 3, .ref 40, .ref 61, .int i, l5, l6]) (rest := []) (A' := im_H g u o Y) (c' := c) (s' := s) (as := [.ref 3, .int (xs (i + 1).toNatClampNeg)]) (v := some (.int (k))) (A'' := im_H g' u o' Y') 1 62 (fun n => rfl) (iv_hb (c := c) (s := s) (a := 2) (b := 12) rfl rfl rfl (by omega) (by omega)) hw ?_
  show iv_ev (iv_Xs L xs) 115 383 [.ref 2, .ref 3, .ref 40, .ref 61, .int i, l5, l6] [.int k] (im_H g' u o' Y') (c + 2) (s + 12) _
  refine iv_chk (mi' := 115) (pc' := 392) (ls' := [.ref 2, .ref 3, .ref 40, .ref 61, .int i, .int k, l6]) (st' := [.int (xs (i + 1).toNatClampNeg), .ref 40]) (A' := im_H g' u o' Y') (c' := (c + 2)) (s' := (s + 12)) 7 h1 (fun n => rfl) ?_
  refine iv_cal (mi' := 115) (pc' := 392) (ls' := [.ref 2, .ref 3, .ref 40, .ref 61, .int i, .int k, l6]) (rest := []) (A' := im_H g' u o' Y') (c' := (c + 2)) (s' := (s + 12)) (as := [.ref 40, .int (xs (i + 1).toNatClampNeg)]) (v := none) (A'' := im_H g' u' o' Y') 1 106 (fun n => rfl) (iv_hb (c := (c + 2)) (s := (s + 12)) (a := 0) (b := 0) rfl rfl rfl (by omega) (by omega)) hr ?_
  show iv_ev (iv_Xs L xs) 115 395 [.ref 2, .ref 3, .ref 40, .ref 61, .int i, .int k, l6] [] (im_H g' u' o' Y') (c + 2) (s + 12) _
  refine iv_cal (mi' := 115) (pc' := 396) (ls' := [.ref 2, .ref 3, .ref 40, .ref 61, .int i, .int k, l6]) (rest := []) (A' := im_H g' u' o' Y') (c' := (c + 2)) (s' := (s + 12)) (as := [.ref 40]) (v := some (.int (u' 37 1))) (A'' := im_H g' u' o' Y') 2 84 (fun n => rfl) (iv_hb (c := (c + 2)) (s := (s + 12)) (a := 0) (b := 0) rfl rfl rfl (by omega) (by omega)) (x84_r37_ok (u := u') rfl) ?_
  show iv_ev (iv_Xs L xs) 115 399 [.ref 2, .ref 3, .ref 40, .ref 61, .int i, .int k, l6] [.int (u' 37 1)] (im_H g' u' o' Y') (c + 2) (s + 12) _
  rw [ht]
  refine iv_brt (mi' := 115) (pc' := 406) (ls' := [.ref 2, .ref 3, .ref 40, .ref 61, .int i, .int k, l6]) (st' := []) (A' := im_H g' u' o' Y') (c' := (c + 2)) (s' := (s + 12)) (mi'' := 115) (pc'' := 404) (ls'' := [.ref 2, .ref 3, .ref 40, .ref 61, .int i, .int k, l6]) (st'' := []) (A'' := im_H g' u' o' Y') (c'' := (c + 2)) (s'' := (s + 12)) 2 0 0 (iv_heq k) (fun n => rfl) ?_
  exact iv_blk (mi' := 115) (pc' := 854) (ls' := [.ref 2, .ref 3, .ref 40, .ref 61, .int i, .int k, l6]) (st' := []) (A' := im_H g' u' o' Y') (c' := (c + 2)) (s' := (s + 12)) 1 (fun n => rfl) hn
set_option maxRecDepth 100000 in
set_option maxHeartbeats 4000000 in
theorem law_c7 {L : Nat} {xs : Nat → Int32} {i : Int32} {l5 l6 : Value} {c s : Nat} {r : iv_R} {g g' u u' : im_M} {o o' : Nat → Int64} {Y Y' : iv_A} {k : Int32} (h1 : iv_in (i + 1) L = true) (h2 : iv_in (i + 2) L = true) (h3 : iv_in (i + 3) L = true) (hc : c + 2 ≤ 601024) (hs : s + 12 ≤ 7293000)
    (hw : iv_ev (iv_Xs L xs) 65 0 [.ref 3, .int (xs (i + 1).toNatClampNeg), .int (xs (i + 2).toNatClampNeg), .int (xs (i + 3).toNatClampNeg), .retAddr 0] [] (im_H g u o Y) 0 0 (.inl (some (.int k)), im_H g' u o' Y'))
    (hr : iv_ev (iv_Xs L xs) 107 0 [.ref 40, .int (xs (i + 1).toNatClampNeg), .int (xs (i + 2).toNatClampNeg), .int (xs (i + 3).toNatClampNeg)] [] (im_H g' u o' Y') 0 0 (.inl none, im_H g' u' o' Y'))
    (ht : u' 37 1 = k)
    (hn : iv_ev (iv_Xs L xs) 115 854 [.ref 2, .ref 3, .ref 40, .ref 61, .int i, .int k, l6] [] (im_H g' u' o' Y') (c + 2) (s + 12) r) :
    iv_ev (iv_Xs L xs) 115 409 [.ref 2, .ref 3, .ref 40, .ref 61, .int i, l5, l6] [] (im_H g u o Y) c s r := by
  refine iv_chk (mi' := 115) (pc' := 416) (ls' := [.ref 2, .ref 3, .ref 40, .ref 61, .int i, l5, l6]) (st' := [.int (xs (i + 1).toNatClampNeg), .ref 3]) (A' := im_H g u o Y) (c' := c) (s' := s) 6 h1 (fun n => rfl) ?_
  refine iv_chk (mi' := 115) (pc' := 422) (ls' := [.ref 2, .ref 3, .ref 40, .ref 61, .int i, l5, l6]) (st' := [.int (xs (i + 2).toNatClampNeg), .int (xs (i + 1).toNatClampNeg), .ref 3]) (A' := im_H g u o Y) (c' := c) (s' := s) 5 h2 (fun n => rfl) ?_
  refine iv_chk (mi' := 115) (pc' := 428) (ls' := [.ref 2, .ref 3, .ref 40, .ref 61, .int i, l5, l6]) (st' := [.int (xs (i + 3).toNatClampNeg), .int (xs (i + 2).toNatClampNeg), .int (xs (i + 1).toNatClampNeg), .ref 3]) (A' := im_H g u o Y) (c' := c) (s' := s) 5 h3 (fun n => rfl) ?_
  refine iv_cal (mi' := 115) (pc' := 428) (ls' := [.ref 2, .ref 3, .ref 40, .ref 61, .int i, l5, l6]) (rest := []) (A' := im_H g u o Y) (c' := c) (s' := s) (as := [.ref 3, .int (xs (i + 1).toNatClampNeg), .int (xs (i + 2).toNatClampNeg), .int (xs (i + 3).toNatClampNeg)]) (v := some (.int (k))) (A'' := im_H g' u o' Y') 1 65 (fun n => rfl) (iv_hb (c := c) (s := s) (a := 2) (b := 12) rfl rfl rfl (by omega) (by omega)) hw ?_
  show iv_ev (iv_Xs L xs) 115 431 [.ref 2, .ref 3, .ref 40, .ref 61, .int i, l5, l6] [.int k] (im_H g' u o' Y') (c + 2) (s + 12) _
  refine iv_chk (mi' := 115) (pc' := 440) (ls' := [.ref 2, .ref 3, .ref 40, .ref 61, .int i, .int k, l6]) (st' := [.int (xs (i + 1).toNatClampNeg), .ref 40]) (A' := im_H g' u o' Y') (c' := (c + 2)) (s' := (s + 12)) 7 h1 (fun n => rfl) ?_
  refine iv_chk (mi' := 115) (pc' := 446) (ls' := [.ref 2, .ref 3, .ref 40, .ref 61, .int i, .int k, l6]) (st' := [.int (xs (i + 2).toNatClampNeg), .int (xs (i + 1).toNatClampNeg), .ref 40]) (A' := im_H g' u o' Y') (c' := (c + 2)) (s' := (s + 12)) 5 h2 (fun n => rfl) ?_
  refine iv_chk (mi' := 115) (pc' := 452) (ls' := [.ref 2, .ref 3, .ref 40, .ref 61, .int i, .int k, l6]) (st' := [.int (xs (i + 3).toNatClampNeg), .int (xs (i + 2).toNatClampNeg), .int (xs (i + 1).toNatClampNeg), .ref 40]) (A' := im_H g' u o' Y') (c' := (c + 2)) (s' := (s + 12)) 5 h3 (fun n => rfl) ?_
  refine iv_cal (mi' := 115) (pc' := 452) (ls' := [.ref 2, .ref 3, .ref 40, .ref 61, .int i, .int k, l6]) (rest := []) (A' := im_H g' u o' Y') (c' := (c + 2)) (s' := (s + 12)) (as := [.ref 40, .int (xs (i + 1).toNatClampNeg), .int (xs (i + 2).toNatClampNeg), .int (xs (i + 3).toNatClampNeg)]) (v := none) (A'' := im_H g' u' o' Y') 1 107 (fun n => rfl) (iv_hb (c := (c + 2)) (s := (s + 12)) (a := 0) (b := 0) rfl rfl rfl (by omega) (by omega)) hr ?_
  show iv_ev (iv_Xs L xs) 115 455 [.ref 2, .ref 3, .ref 40, .ref 61, .int i, .int k, l6] [] (im_H g' u' o' Y') (c + 2) (s + 12) _
  refine iv_cal (mi' := 115) (pc' := 456) (ls' := [.ref 2, .ref 3, .ref 40, .ref 61, .int i, .int k, l6]) (rest := []) (A' := im_H g' u' o' Y') (c' := (c + 2)) (s' := (s + 12)) (as := [.ref 40]) (v := some (.int (u' 37 1))) (A'' := im_H g' u' o' Y') 2 84 (fun n => rfl) (iv_hb (c := (c + 2)) (s := (s + 12)) (a := 0) (b := 0) rfl rfl rfl (by omega) (by omega)) (x84_r37_ok (u := u') rfl) ?_
  show iv_ev (iv_Xs L xs) 115 459 [.ref 2, .ref 3, .ref 40, .ref 61, .int i, .int k, l6] [.int (u' 37 1)] (im_H g' u' o' Y') (c + 2) (s + 12) _
  rw [ht]
  refine iv_brt (mi' := 115) (pc' := 466) (ls' := [.ref 2, .ref 3, .ref 40, .ref 61, .int i, .int k, l6]) (st' := []) (A' := im_H g' u' o' Y') (c' := (c + 2)) (s' := (s + 12)) (mi'' := 115) (pc'' := 464) (ls'' := [.ref 2, .ref 3, .ref 40, .ref 61, .int i, .int k, l6]) (st'' := []) (A'' := im_H g' u' o' Y') (c'' := (c + 2)) (s'' := (s + 12)) 2 0 0 (iv_heq k) (fun n => rfl) ?_
  exact iv_blk (mi' := 115) (pc' := 854) (ls' := [.ref 2, .ref 3, .ref 40, .ref 61, .int i, .int k, l6]) (st' := []) (A' := im_H g' u' o' Y') (c' := (c + 2)) (s' := (s + 12)) 1 (fun n => rfl) hn
set_option maxRecDepth 100000 in
set_option maxHeartbeats 4000000 in
theorem law_c8 {L : Nat} {xs : Nat → Int32} {i : Int32} {l5 l6 : Value} {c s : Nat} {r : iv_R} {g g' u u' : im_M} {o o' : Nat → Int64} {Y Y' : iv_A} {k b : Int32} (h1 : iv_in (i + 1) L = true) (h2 : iv_in (i + 2) L = true) (hc : c + 2 ≤ 601024) (hs : s + 12 ≤ 7293000)
    (hw : iv_ev (iv_Xs L xs) 68 0 [.ref 3, .int (xs (i + 1).toNatClampNeg), .int (xs (i + 2).toNatClampNeg), .ref 61, .retAddr 0] [] (im_H g u o Y) 0 0 (.inl (some (.int k)), im_H g' u o' Y'))
    (hr : iv_ev (iv_Xs L xs) 108 0 [.ref 40, .int (xs (i + 1).toNatClampNeg), .int (xs (i + 2).toNatClampNeg), .retAddr 0, .retAddr 0] [] (im_H g' u o' Y') 0 0 (.inl (some (.int b)), im_H g' u' o' Y'))
    (ht : u' 37 1 = k)
    (ho : k = 0 → o' 0 = b.toInt64)
    (hn : iv_ev (iv_Xs L xs) 115 854 [.ref 2, .ref 3, .ref 40, .ref 61, .int i, .int k, .int b] [] (im_H g' u' o' Y') (c + 2) (s + 12) r) :
    iv_ev (iv_Xs L xs) 115 469 [.ref 2, .ref 3, .ref 40, .ref 61, .int i, l5, l6] [] (im_H g u o Y) c s r := by
  refine iv_chk (mi' := 115) (pc' := 476) (ls' := [.ref 2, .ref 3, .ref 40, .ref 61, .int i, l5, l6]) (st' := [.int (xs (i + 1).toNatClampNeg), .ref 3]) (A' := im_H g u o Y) (c' := c) (s' := s) 6 h1 (fun n => rfl) ?_
  refine iv_chk (mi' := 115) (pc' := 482) (ls' := [.ref 2, .ref 3, .ref 40, .ref 61, .int i, l5, l6]) (st' := [.int (xs (i + 2).toNatClampNeg), .int (xs (i + 1).toNatClampNeg), .ref 3]) (A' := im_H g u o Y) (c' := c) (s' := s) 5 h2 (fun n => rfl) ?_
  refine iv_cal (mi' := 115) (pc' := 483) (ls' := [.ref 2, .ref 3, .ref 40, .ref 61, .int i, l5, l6]) (rest := []) (A' := im_H g u o Y) (c' := c) (s' := s) (as := [.ref 3, .int (xs (i + 1).toNatClampNeg), .int (xs (i + 2).toNatClampNeg), .ref 61]) (v := some (.int (k))) (A'' := im_H g' u o' Y') 2 68 (fun n => rfl) (iv_hb (c := c) (s := s) (a := 2) (b := 12) rfl rfl rfl (by omega) (by omega)) hw ?_
  show iv_ev (iv_Xs L xs) 115 486 [.ref 2, .ref 3, .ref 40, .ref 61, .int i, l5, l6] [.int k] (im_H g' u o' Y') (c + 2) (s + 12) _
  refine iv_chk (mi' := 115) (pc' := 495) (ls' := [.ref 2, .ref 3, .ref 40, .ref 61, .int i, .int k, l6]) (st' := [.int (xs (i + 1).toNatClampNeg), .ref 40]) (A' := im_H g' u o' Y') (c' := (c + 2)) (s' := (s + 12)) 7 h1 (fun n => rfl) ?_
  refine iv_chk (mi' := 115) (pc' := 501) (ls' := [.ref 2, .ref 3, .ref 40, .ref 61, .int i, .int k, l6]) (st' := [.int (xs (i + 2).toNatClampNeg), .int (xs (i + 1).toNatClampNeg), .ref 40]) (A' := im_H g' u o' Y') (c' := (c + 2)) (s' := (s + 12)) 5 h2 (fun n => rfl) ?_
  refine iv_cal (mi' := 115) (pc' := 501) (ls' := [.ref 2, .ref 3, .ref 40, .ref 61, .int i, .int k, l6]) (rest := []) (A' := im_H g' u o' Y') (c' := (c + 2)) (s' := (s + 12)) (as := [.ref 40, .int (xs (i + 1).toNatClampNeg), .int (xs (i + 2).toNatClampNeg)]) (v := some (.int (b))) (A'' := im_H g' u' o' Y') 1 108 (fun n => rfl) (iv_hb (c := (c + 2)) (s := (s + 12)) (a := 0) (b := 0) rfl rfl rfl (by omega) (by omega)) hr ?_
  show iv_ev (iv_Xs L xs) 115 504 [.ref 2, .ref 3, .ref 40, .ref 61, .int i, .int k, l6] [.int b] (im_H g' u' o' Y') (c + 2) (s + 12) _
  refine iv_cal (mi' := 115) (pc' := 507) (ls' := [.ref 2, .ref 3, .ref 40, .ref 61, .int i, .int k, .int b]) (rest := []) (A' := im_H g' u' o' Y') (c' := (c + 2)) (s' := (s + 12)) (as := [.ref 40]) (v := some (.int (u' 37 1))) (A'' := im_H g' u' o' Y') 3 84 (fun n => rfl) (iv_hb (c := (c + 2)) (s := (s + 12)) (a := 0) (b := 0) rfl rfl rfl (by omega) (by omega)) (x84_r37_ok (u := u') rfl) ?_
  show iv_ev (iv_Xs L xs) 115 510 [.ref 2, .ref 3, .ref 40, .ref 61, .int i, .int k, .int b] [.int (u' 37 1)] (im_H g' u' o' Y') (c + 2) (s + 12) _
  rw [ht]
  refine iv_brt (mi' := 115) (pc' := 517) (ls' := [.ref 2, .ref 3, .ref 40, .ref 61, .int i, .int k, .int b]) (st' := []) (A' := im_H g' u' o' Y') (c' := (c + 2)) (s' := (s + 12)) (mi'' := 115) (pc'' := 515) (ls'' := [.ref 2, .ref 3, .ref 40, .ref 61, .int i, .int k, .int b]) (st'' := []) (A'' := im_H g' u' o' Y') (c'' := (c + 2)) (s'' := (s + 12)) 2 0 0 (iv_heq k) (fun n => rfl) ?_
  by_cases hk : k = 0
  · have ho := ho hk
    have hb : Op.ifCond.holds .ne k = false := by rw [hk]; rfl
    refine iv_brf (mi' := 115) (pc' := 534) (ls' := [.ref 2, .ref 3, .ref 40, .ref 61, .int i, .int k, .int b]) (st' := []) (A' := im_H g' u' o' Y') (c' := (c + 2)) (s' := (s + 12)) (mi'' := 115) (pc'' := 522) (ls'' := [.ref 2, .ref 3, .ref 40, .ref 61, .int i, .int k, .int b]) (st'' := []) (A'' := im_H g' u' o' Y') (c'' := (c + 2)) (s'' := (s + 12)) 2 0 0 hb (fun n => rfl) ?_
    refine iv_blk (mi' := 115) (pc' := 529) (ls' := [.ref 2, .ref 3, .ref 40, .ref 61, .int i, .int k, .int b]) (st' := [.int (lg_cmp (o' 0) b.toInt64)]) (A' := im_H g' u' o' Y') (c' := (c + 2)) (s' := (s + 12)) 6 (fun n => rfl) ?_
    rw [ho]
    refine iv_brt (mi' := 115) (pc' := 534) (ls' := [.ref 2, .ref 3, .ref 40, .ref 61, .int i, .int k, .int b]) (st' := []) (A' := im_H g' u' o' Y') (c' := (c + 2)) (s' := (s + 12)) (mi'' := 115) (pc'' := 532) (ls'' := [.ref 2, .ref 3, .ref 40, .ref 61, .int i, .int k, .int b]) (st'' := []) (A'' := im_H g' u' o' Y') (c'' := (c + 2)) (s'' := (s + 12)) 1 0 0 (iv_hcm _) (fun n => rfl) ?_
    exact iv_blk (mi' := 115) (pc' := 854) (ls' := [.ref 2, .ref 3, .ref 40, .ref 61, .int i, .int k, .int b]) (st' := []) (A' := im_H g' u' o' Y') (c' := (c + 2)) (s' := (s + 12)) 1 (fun n => rfl) hn
  · refine iv_brt (mi' := 115) (pc' := 534) (ls' := [.ref 2, .ref 3, .ref 40, .ref 61, .int i, .int k, .int b]) (st' := []) (A' := im_H g' u' o' Y') (c' := (c + 2)) (s' := (s + 12)) (mi'' := 115) (pc'' := 522) (ls'' := [.ref 2, .ref 3, .ref 40, .ref 61, .int i, .int k, .int b]) (st'' := []) (A'' := im_H g' u' o' Y') (c'' := (c + 2)) (s'' := (s + 12)) 2 0 0 (iv_hne k hk) (fun n => rfl) ?_
    exact iv_blk (mi' := 115) (pc' := 854) (ls' := [.ref 2, .ref 3, .ref 40, .ref 61, .int i, .int k, .int b]) (st' := []) (A' := im_H g' u' o' Y') (c' := (c + 2)) (s' := (s + 12)) 1 (fun n => rfl) hn
set_option maxRecDepth 100000 in
set_option maxHeartbeats 4000000 in
theorem law_c9 {L : Nat} {xs : Nat → Int32} {i : Int32} {l5 l6 : Value} {c s : Nat} {r : iv_R} {g g' u u' : im_M} {o o' : Nat → Int64} {Y Y' : iv_A} {k b : Int32} (h1 : iv_in (i + 1) L = true) (h2 : iv_in (i + 2) L = true) (hc : c + 2 ≤ 601024) (hs : s + 12 ≤ 7293000)
    (hw : iv_ev (iv_Xs L xs) 70 0 [.ref 3, .int (xs (i + 1).toNatClampNeg), .int (xs (i + 2).toNatClampNeg), .ref 61, .retAddr 0] [] (im_H g u o Y) 0 0 (.inl (some (.int k)), im_H g' u o' Y'))
    (hr : iv_ev (iv_Xs L xs) 109 0 [.ref 40, .int (xs (i + 1).toNatClampNeg), .int (xs (i + 2).toNatClampNeg)] [] (im_H g' u o' Y') 0 0 (.inl (some (.int b)), im_H g' u' o' Y'))
    (ht : u' 37 1 = k)
    (ho : k = 0 → o' 0 = b.toInt64)
    (hn : iv_ev (iv_Xs L xs) 115 854 [.ref 2, .ref 3, .ref 40, .ref 61, .int i, .int k, .int b] [] (im_H g' u' o' Y') (c + 2) (s + 12) r) :
    iv_ev (iv_Xs L xs) 115 537 [.ref 2, .ref 3, .ref 40, .ref 61, .int i, l5, l6] [] (im_H g u o Y) c s r := by
  refine iv_chk (mi' := 115) (pc' := 544) (ls' := [.ref 2, .ref 3, .ref 40, .ref 61, .int i, l5, l6]) (st' := [.int (xs (i + 1).toNatClampNeg), .ref 3]) (A' := im_H g u o Y) (c' := c) (s' := s) 6 h1 (fun n => rfl) ?_
  refine iv_chk (mi' := 115) (pc' := 550) (ls' := [.ref 2, .ref 3, .ref 40, .ref 61, .int i, l5, l6]) (st' := [.int (xs (i + 2).toNatClampNeg), .int (xs (i + 1).toNatClampNeg), .ref 3]) (A' := im_H g u o Y) (c' := c) (s' := s) 5 h2 (fun n => rfl) ?_
  refine iv_cal (mi' := 115) (pc' := 551) (ls' := [.ref 2, .ref 3, .ref 40, .ref 61, .int i, l5, l6]) (rest := []) (A' := im_H g u o Y) (c' := c) (s' := s) (as := [.ref 3, .int (xs (i + 1).toNatClampNeg), .int (xs (i + 2).toNatClampNeg), .ref 61]) (v := some (.int (k))) (A'' := im_H g' u o' Y') 2 70 (fun n => rfl) (iv_hb (c := c) (s := s) (a := 2) (b := 12) rfl rfl rfl (by omega) (by omega)) hw ?_
  show iv_ev (iv_Xs L xs) 115 554 [.ref 2, .ref 3, .ref 40, .ref 61, .int i, l5, l6] [.int k] (im_H g' u o' Y') (c + 2) (s + 12) _
  refine iv_chk (mi' := 115) (pc' := 563) (ls' := [.ref 2, .ref 3, .ref 40, .ref 61, .int i, .int k, l6]) (st' := [.int (xs (i + 1).toNatClampNeg), .ref 40]) (A' := im_H g' u o' Y') (c' := (c + 2)) (s' := (s + 12)) 7 h1 (fun n => rfl) ?_
  refine iv_chk (mi' := 115) (pc' := 569) (ls' := [.ref 2, .ref 3, .ref 40, .ref 61, .int i, .int k, l6]) (st' := [.int (xs (i + 2).toNatClampNeg), .int (xs (i + 1).toNatClampNeg), .ref 40]) (A' := im_H g' u o' Y') (c' := (c + 2)) (s' := (s + 12)) 5 h2 (fun n => rfl) ?_
  refine iv_cal (mi' := 115) (pc' := 569) (ls' := [.ref 2, .ref 3, .ref 40, .ref 61, .int i, .int k, l6]) (rest := []) (A' := im_H g' u o' Y') (c' := (c + 2)) (s' := (s + 12)) (as := [.ref 40, .int (xs (i + 1).toNatClampNeg), .int (xs (i + 2).toNatClampNeg)]) (v := some (.int (b))) (A'' := im_H g' u' o' Y') 1 109 (fun n => rfl) (iv_hb (c := (c + 2)) (s := (s + 12)) (a := 0) (b := 0) rfl rfl rfl (by omega) (by omega)) hr ?_
  show iv_ev (iv_Xs L xs) 115 572 [.ref 2, .ref 3, .ref 40, .ref 61, .int i, .int k, l6] [.int b] (im_H g' u' o' Y') (c + 2) (s + 12) _
  refine iv_cal (mi' := 115) (pc' := 575) (ls' := [.ref 2, .ref 3, .ref 40, .ref 61, .int i, .int k, .int b]) (rest := []) (A' := im_H g' u' o' Y') (c' := (c + 2)) (s' := (s + 12)) (as := [.ref 40]) (v := some (.int (u' 37 1))) (A'' := im_H g' u' o' Y') 3 84 (fun n => rfl) (iv_hb (c := (c + 2)) (s := (s + 12)) (a := 0) (b := 0) rfl rfl rfl (by omega) (by omega)) (x84_r37_ok (u := u') rfl) ?_
  show iv_ev (iv_Xs L xs) 115 578 [.ref 2, .ref 3, .ref 40, .ref 61, .int i, .int k, .int b] [.int (u' 37 1)] (im_H g' u' o' Y') (c + 2) (s + 12) _
  rw [ht]
  refine iv_brt (mi' := 115) (pc' := 585) (ls' := [.ref 2, .ref 3, .ref 40, .ref 61, .int i, .int k, .int b]) (st' := []) (A' := im_H g' u' o' Y') (c' := (c + 2)) (s' := (s + 12)) (mi'' := 115) (pc'' := 583) (ls'' := [.ref 2, .ref 3, .ref 40, .ref 61, .int i, .int k, .int b]) (st'' := []) (A'' := im_H g' u' o' Y') (c'' := (c + 2)) (s'' := (s + 12)) 2 0 0 (iv_heq k) (fun n => rfl) ?_
  by_cases hk : k = 0
  · have ho := ho hk
    have hb : Op.ifCond.holds .ne k = false := by rw [hk]; rfl
    refine iv_brf (mi' := 115) (pc' := 602) (ls' := [.ref 2, .ref 3, .ref 40, .ref 61, .int i, .int k, .int b]) (st' := []) (A' := im_H g' u' o' Y') (c' := (c + 2)) (s' := (s + 12)) (mi'' := 115) (pc'' := 590) (ls'' := [.ref 2, .ref 3, .ref 40, .ref 61, .int i, .int k, .int b]) (st'' := []) (A'' := im_H g' u' o' Y') (c'' := (c + 2)) (s'' := (s + 12)) 2 0 0 hb (fun n => rfl) ?_
    refine iv_blk (mi' := 115) (pc' := 597) (ls' := [.ref 2, .ref 3, .ref 40, .ref 61, .int i, .int k, .int b]) (st' := [.int (lg_cmp (o' 0) b.toInt64)]) (A' := im_H g' u' o' Y') (c' := (c + 2)) (s' := (s + 12)) 6 (fun n => rfl) ?_
    rw [ho]
    refine iv_brt (mi' := 115) (pc' := 602) (ls' := [.ref 2, .ref 3, .ref 40, .ref 61, .int i, .int k, .int b]) (st' := []) (A' := im_H g' u' o' Y') (c' := (c + 2)) (s' := (s + 12)) (mi'' := 115) (pc'' := 600) (ls'' := [.ref 2, .ref 3, .ref 40, .ref 61, .int i, .int k, .int b]) (st'' := []) (A'' := im_H g' u' o' Y') (c'' := (c + 2)) (s'' := (s + 12)) 1 0 0 (iv_hcm _) (fun n => rfl) ?_
    exact iv_blk (mi' := 115) (pc' := 854) (ls' := [.ref 2, .ref 3, .ref 40, .ref 61, .int i, .int k, .int b]) (st' := []) (A' := im_H g' u' o' Y') (c' := (c + 2)) (s' := (s + 12)) 1 (fun n => rfl) hn
  · refine iv_brt (mi' := 115) (pc' := 602) (ls' := [.ref 2, .ref 3, .ref 40, .ref 61, .int i, .int k, .int b]) (st' := []) (A' := im_H g' u' o' Y') (c' := (c + 2)) (s' := (s + 12)) (mi'' := 115) (pc'' := 590) (ls'' := [.ref 2, .ref 3, .ref 40, .ref 61, .int i, .int k, .int b]) (st'' := []) (A'' := im_H g' u' o' Y') (c'' := (c + 2)) (s'' := (s + 12)) 2 0 0 (iv_hne k hk) (fun n => rfl) ?_
    exact iv_blk (mi' := 115) (pc' := 854) (ls' := [.ref 2, .ref 3, .ref 40, .ref 61, .int i, .int k, .int b]) (st' := []) (A' := im_H g' u' o' Y') (c' := (c + 2)) (s' := (s + 12)) 1 (fun n => rfl) hn
set_option maxRecDepth 100000 in
set_option maxHeartbeats 4000000 in
theorem law_c10 {L : Nat} {xs : Nat → Int32} {i : Int32} {l5 l6 : Value} {c s : Nat} {r : iv_R} {g g' u u' : im_M} {o o' : Nat → Int64} {Y Y' : iv_A} {k b : Int32} (h1 : iv_in (i + 1) L = true) (hc : c + 1 ≤ 601024) (hs : s + 6 ≤ 7293000)
    (hw : iv_ev (iv_Xs L xs) 72 0 [.ref 3, .int (xs (i + 1).toNatClampNeg), .ref 61, .retAddr 0] [] (im_H g u o Y) 0 0 (.inl (some (.int k)), im_H g' u o' Y'))
    (hr : iv_ev (iv_Xs L xs) 110 0 [.ref 40, .int (xs (i + 1).toNatClampNeg)] [] (im_H g' u o' Y') 0 0 (.inl (some (.int b)), im_H g' u' o' Y'))
    (ht : u' 37 1 = k)
    (ho : k = 0 → o' 0 = b.toInt64)
    (hn : iv_ev (iv_Xs L xs) 115 854 [.ref 2, .ref 3, .ref 40, .ref 61, .int i, .int k, .int b] [] (im_H g' u' o' Y') (c + 1) (s + 6) r) :
    iv_ev (iv_Xs L xs) 115 605 [.ref 2, .ref 3, .ref 40, .ref 61, .int i, l5, l6] [] (im_H g u o Y) c s r := by
  refine iv_chk (mi' := 115) (pc' := 612) (ls' := [.ref 2, .ref 3, .ref 40, .ref 61, .int i, l5, l6]) (st' := [.int (xs (i + 1).toNatClampNeg), .ref 3]) (A' := im_H g u o Y) (c' := c) (s' := s) 6 h1 (fun n => rfl) ?_
  refine iv_cal (mi' := 115) (pc' := 613) (ls' := [.ref 2, .ref 3, .ref 40, .ref 61, .int i, l5, l6]) (rest := []) (A' := im_H g u o Y) (c' := c) (s' := s) (as := [.ref 3, .int (xs (i + 1).toNatClampNeg), .ref 61]) (v := some (.int (k))) (A'' := im_H g' u o' Y') 2 72 (fun n => rfl) (iv_hb (c := c) (s := s) (a := 1) (b := 6) rfl rfl rfl (by omega) (by omega)) hw ?_
  show iv_ev (iv_Xs L xs) 115 616 [.ref 2, .ref 3, .ref 40, .ref 61, .int i, l5, l6] [.int k] (im_H g' u o' Y') (c + 1) (s + 6) _
  refine iv_chk (mi' := 115) (pc' := 625) (ls' := [.ref 2, .ref 3, .ref 40, .ref 61, .int i, .int k, l6]) (st' := [.int (xs (i + 1).toNatClampNeg), .ref 40]) (A' := im_H g' u o' Y') (c' := (c + 1)) (s' := (s + 6)) 7 h1 (fun n => rfl) ?_
  refine iv_cal (mi' := 115) (pc' := 625) (ls' := [.ref 2, .ref 3, .ref 40, .ref 61, .int i, .int k, l6]) (rest := []) (A' := im_H g' u o' Y') (c' := (c + 1)) (s' := (s + 6)) (as := [.ref 40, .int (xs (i + 1).toNatClampNeg)]) (v := some (.int (b))) (A'' := im_H g' u' o' Y') 1 110 (fun n => rfl) (iv_hb (c := (c + 1)) (s := (s + 6)) (a := 0) (b := 0) rfl rfl rfl (by omega) (by omega)) hr ?_
  show iv_ev (iv_Xs L xs) 115 628 [.ref 2, .ref 3, .ref 40, .ref 61, .int i, .int k, l6] [.int b] (im_H g' u' o' Y') (c + 1) (s + 6) _
  refine iv_cal (mi' := 115) (pc' := 631) (ls' := [.ref 2, .ref 3, .ref 40, .ref 61, .int i, .int k, .int b]) (rest := []) (A' := im_H g' u' o' Y') (c' := (c + 1)) (s' := (s + 6)) (as := [.ref 40]) (v := some (.int (u' 37 1))) (A'' := im_H g' u' o' Y') 3 84 (fun n => rfl) (iv_hb (c := (c + 1)) (s := (s + 6)) (a := 0) (b := 0) rfl rfl rfl (by omega) (by omega)) (x84_r37_ok (u := u') rfl) ?_
  show iv_ev (iv_Xs L xs) 115 634 [.ref 2, .ref 3, .ref 40, .ref 61, .int i, .int k, .int b] [.int (u' 37 1)] (im_H g' u' o' Y') (c + 1) (s + 6) _
  rw [ht]
  refine iv_brt (mi' := 115) (pc' := 641) (ls' := [.ref 2, .ref 3, .ref 40, .ref 61, .int i, .int k, .int b]) (st' := []) (A' := im_H g' u' o' Y') (c' := (c + 1)) (s' := (s + 6)) (mi'' := 115) (pc'' := 639) (ls'' := [.ref 2, .ref 3, .ref 40, .ref 61, .int i, .int k, .int b]) (st'' := []) (A'' := im_H g' u' o' Y') (c'' := (c + 1)) (s'' := (s + 6)) 2 0 0 (iv_heq k) (fun n => rfl) ?_
  by_cases hk : k = 0
  · have ho := ho hk
    have hb : Op.ifCond.holds .ne k = false := by rw [hk]; rfl
    refine iv_brf (mi' := 115) (pc' := 658) (ls' := [.ref 2, .ref 3, .ref 40, .ref 61, .int i, .int k, .int b]) (st' := []) (A' := im_H g' u' o' Y') (c' := (c + 1)) (s' := (s + 6)) (mi'' := 115) (pc'' := 646) (ls'' := [.ref 2, .ref 3, .ref 40, .ref 61, .int i, .int k, .int b]) (st'' := []) (A'' := im_H g' u' o' Y') (c'' := (c + 1)) (s'' := (s + 6)) 2 0 0 hb (fun n => rfl) ?_
    refine iv_blk (mi' := 115) (pc' := 653) (ls' := [.ref 2, .ref 3, .ref 40, .ref 61, .int i, .int k, .int b]) (st' := [.int (lg_cmp (o' 0) b.toInt64)]) (A' := im_H g' u' o' Y') (c' := (c + 1)) (s' := (s + 6)) 6 (fun n => rfl) ?_
    rw [ho]
    refine iv_brt (mi' := 115) (pc' := 658) (ls' := [.ref 2, .ref 3, .ref 40, .ref 61, .int i, .int k, .int b]) (st' := []) (A' := im_H g' u' o' Y') (c' := (c + 1)) (s' := (s + 6)) (mi'' := 115) (pc'' := 656) (ls'' := [.ref 2, .ref 3, .ref 40, .ref 61, .int i, .int k, .int b]) (st'' := []) (A'' := im_H g' u' o' Y') (c'' := (c + 1)) (s'' := (s + 6)) 1 0 0 (iv_hcm _) (fun n => rfl) ?_
    exact iv_blk (mi' := 115) (pc' := 854) (ls' := [.ref 2, .ref 3, .ref 40, .ref 61, .int i, .int k, .int b]) (st' := []) (A' := im_H g' u' o' Y') (c' := (c + 1)) (s' := (s + 6)) 1 (fun n => rfl) hn
  · refine iv_brt (mi' := 115) (pc' := 658) (ls' := [.ref 2, .ref 3, .ref 40, .ref 61, .int i, .int k, .int b]) (st' := []) (A' := im_H g' u' o' Y') (c' := (c + 1)) (s' := (s + 6)) (mi'' := 115) (pc'' := 646) (ls'' := [.ref 2, .ref 3, .ref 40, .ref 61, .int i, .int k, .int b]) (st'' := []) (A'' := im_H g' u' o' Y') (c'' := (c + 1)) (s'' := (s + 6)) 2 0 0 (iv_hne k hk) (fun n => rfl) ?_
    exact iv_blk (mi' := 115) (pc' := 854) (ls' := [.ref 2, .ref 3, .ref 40, .ref 61, .int i, .int k, .int b]) (st' := []) (A' := im_H g' u' o' Y') (c' := (c + 1)) (s' := (s + 6)) 1 (fun n => rfl) hn
set_option maxRecDepth 100000 in
set_option maxHeartbeats 4000000 in
theorem law_c11 {L : Nat} {xs : Nat → Int32} {i : Int32} {l5 l6 : Value} {c s : Nat} {r : iv_R} {g g' u u' : im_M} {o o' : Nat → Int64} {Y Y' : iv_A} {k b : Int32} (h1 : iv_in (i + 1) L = true) (hc : c + 1 ≤ 601024) (hs : s + 6 ≤ 7293000)
    (hw : iv_ev (iv_Xs L xs) 74 0 [.ref 3, .int (xs (i + 1).toNatClampNeg), .ref 61, .retAddr 0] [] (im_H g u o Y) 0 0 (.inl (some (.int k)), im_H g' u o' Y'))
    (hr : iv_ev (iv_Xs L xs) 111 0 [.ref 40, .int (xs (i + 1).toNatClampNeg)] [] (im_H g' u o' Y') 0 0 (.inl (some (.int b)), im_H g' u' o' Y'))
    (ht : u' 37 1 = k)
    (ho : k = 0 → o' 0 = b.toInt64)
    (hn : iv_ev (iv_Xs L xs) 115 854 [.ref 2, .ref 3, .ref 40, .ref 61, .int i, .int k, .int b] [] (im_H g' u' o' Y') (c + 1) (s + 6) r) :
    iv_ev (iv_Xs L xs) 115 661 [.ref 2, .ref 3, .ref 40, .ref 61, .int i, l5, l6] [] (im_H g u o Y) c s r := by
  refine iv_chk (mi' := 115) (pc' := 668) (ls' := [.ref 2, .ref 3, .ref 40, .ref 61, .int i, l5, l6]) (st' := [.int (xs (i + 1).toNatClampNeg), .ref 3]) (A' := im_H g u o Y) (c' := c) (s' := s) 6 h1 (fun n => rfl) ?_
  refine iv_cal (mi' := 115) (pc' := 669) (ls' := [.ref 2, .ref 3, .ref 40, .ref 61, .int i, l5, l6]) (rest := []) (A' := im_H g u o Y) (c' := c) (s' := s) (as := [.ref 3, .int (xs (i + 1).toNatClampNeg), .ref 61]) (v := some (.int (k))) (A'' := im_H g' u o' Y') 2 74 (fun n => rfl) (iv_hb (c := c) (s := s) (a := 1) (b := 6) rfl rfl rfl (by omega) (by omega)) hw ?_
  show iv_ev (iv_Xs L xs) 115 672 [.ref 2, .ref 3, .ref 40, .ref 61, .int i, l5, l6] [.int k] (im_H g' u o' Y') (c + 1) (s + 6) _
  refine iv_chk (mi' := 115) (pc' := 681) (ls' := [.ref 2, .ref 3, .ref 40, .ref 61, .int i, .int k, l6]) (st' := [.int (xs (i + 1).toNatClampNeg), .ref 40]) (A' := im_H g' u o' Y') (c' := (c + 1)) (s' := (s + 6)) 7 h1 (fun n => rfl) ?_
  refine iv_cal (mi' := 115) (pc' := 681) (ls' := [.ref 2, .ref 3, .ref 40, .ref 61, .int i, .int k, l6]) (rest := []) (A' := im_H g' u o' Y') (c' := (c + 1)) (s' := (s + 6)) (as := [.ref 40, .int (xs (i + 1).toNatClampNeg)]) (v := some (.int (b))) (A'' := im_H g' u' o' Y') 1 111 (fun n => rfl) (iv_hb (c := (c + 1)) (s := (s + 6)) (a := 0) (b := 0) rfl rfl rfl (by omega) (by omega)) hr ?_
  show iv_ev (iv_Xs L xs) 115 684 [.ref 2, .ref 3, .ref 40, .ref 61, .int i, .int k, l6] [.int b] (im_H g' u' o' Y') (c + 1) (s + 6) _
  refine iv_cal (mi' := 115) (pc' := 687) (ls' := [.ref 2, .ref 3, .ref 40, .ref 61, .int i, .int k, .int b]) (rest := []) (A' := im_H g' u' o' Y') (c' := (c + 1)) (s' := (s + 6)) (as := [.ref 40]) (v := some (.int (u' 37 1))) (A'' := im_H g' u' o' Y') 3 84 (fun n => rfl) (iv_hb (c := (c + 1)) (s := (s + 6)) (a := 0) (b := 0) rfl rfl rfl (by omega) (by omega)) (x84_r37_ok (u := u') rfl) ?_
  show iv_ev (iv_Xs L xs) 115 690 [.ref 2, .ref 3, .ref 40, .ref 61, .int i, .int k, .int b] [.int (u' 37 1)] (im_H g' u' o' Y') (c + 1) (s + 6) _
  rw [ht]
  refine iv_brt (mi' := 115) (pc' := 697) (ls' := [.ref 2, .ref 3, .ref 40, .ref 61, .int i, .int k, .int b]) (st' := []) (A' := im_H g' u' o' Y') (c' := (c + 1)) (s' := (s + 6)) (mi'' := 115) (pc'' := 695) (ls'' := [.ref 2, .ref 3, .ref 40, .ref 61, .int i, .int k, .int b]) (st'' := []) (A'' := im_H g' u' o' Y') (c'' := (c + 1)) (s'' := (s + 6)) 2 0 0 (iv_heq k) (fun n => rfl) ?_
  by_cases hk : k = 0
  · have ho := ho hk
    have hb : Op.ifCond.holds .ne k = false := by rw [hk]; rfl
    refine iv_brf (mi' := 115) (pc' := 714) (ls' := [.ref 2, .ref 3, .ref 40, .ref 61, .int i, .int k, .int b]) (st' := []) (A' := im_H g' u' o' Y') (c' := (c + 1)) (s' := (s + 6)) (mi'' := 115) (pc'' := 702) (ls'' := [.ref 2, .ref 3, .ref 40, .ref 61, .int i, .int k, .int b]) (st'' := []) (A'' := im_H g' u' o' Y') (c'' := (c + 1)) (s'' := (s + 6)) 2 0 0 hb (fun n => rfl) ?_
    refine iv_blk (mi' := 115) (pc' := 709) (ls' := [.ref 2, .ref 3, .ref 40, .ref 61, .int i, .int k, .int b]) (st' := [.int (lg_cmp (o' 0) b.toInt64)]) (A' := im_H g' u' o' Y') (c' := (c + 1)) (s' := (s + 6)) 6 (fun n => rfl) ?_
    rw [ho]
    refine iv_brt (mi' := 115) (pc' := 714) (ls' := [.ref 2, .ref 3, .ref 40, .ref 61, .int i, .int k, .int b]) (st' := []) (A' := im_H g' u' o' Y') (c' := (c + 1)) (s' := (s + 6)) (mi'' := 115) (pc'' := 712) (ls'' := [.ref 2, .ref 3, .ref 40, .ref 61, .int i, .int k, .int b]) (st'' := []) (A'' := im_H g' u' o' Y') (c'' := (c + 1)) (s'' := (s + 6)) 1 0 0 (iv_hcm _) (fun n => rfl) ?_
    exact iv_blk (mi' := 115) (pc' := 854) (ls' := [.ref 2, .ref 3, .ref 40, .ref 61, .int i, .int k, .int b]) (st' := []) (A' := im_H g' u' o' Y') (c' := (c + 1)) (s' := (s + 6)) 1 (fun n => rfl) hn
  · refine iv_brt (mi' := 115) (pc' := 714) (ls' := [.ref 2, .ref 3, .ref 40, .ref 61, .int i, .int k, .int b]) (st' := []) (A' := im_H g' u' o' Y') (c' := (c + 1)) (s' := (s + 6)) (mi'' := 115) (pc'' := 702) (ls'' := [.ref 2, .ref 3, .ref 40, .ref 61, .int i, .int k, .int b]) (st'' := []) (A'' := im_H g' u' o' Y') (c'' := (c + 1)) (s'' := (s + 6)) 2 0 0 (iv_hne k hk) (fun n => rfl) ?_
    exact iv_blk (mi' := 115) (pc' := 854) (ls' := [.ref 2, .ref 3, .ref 40, .ref 61, .int i, .int k, .int b]) (st' := []) (A' := im_H g' u' o' Y') (c' := (c + 1)) (s' := (s + 6)) 1 (fun n => rfl) hn
set_option maxRecDepth 100000 in
set_option maxHeartbeats 4000000 in
theorem law_c12 {L : Nat} {xs : Nat → Int32} {i : Int32} {l5 l6 : Value} {c s : Nat} {r : iv_R} {g g' u u' : im_M} {o : Nat → Int64} {Y : iv_A} {k : Int32} (hc : c + 0 ≤ 601024) (hs : s + 0 ≤ 7293000)
    (hw : iv_ev (iv_Xs L xs) 39 0 [.ref 3, .retAddr 0, .retAddr 0] [] (im_H g u o Y) 0 0 (.inl (some (.int k)), im_H g' u o Y))
    (hr : iv_ev (iv_Xs L xs) 112 0 [.ref 40, .retAddr 0, .retAddr 0] [] (im_H g' u o Y) 0 0 (.inl (some (.int k)), im_H g' u' o Y))
    (hn : iv_ev (iv_Xs L xs) 115 854 [.ref 2, .ref 3, .ref 40, .ref 61, .int i, l5, l6] [] (im_H g' u' o Y) c s r) :
    iv_ev (iv_Xs L xs) 115 717 [.ref 2, .ref 3, .ref 40, .ref 61, .int i, l5, l6] [] (im_H g u o Y) c s r := by
  refine iv_cal (mi' := 115) (pc' := 718) (ls' := [.ref 2, .ref 3, .ref 40, .ref 61, .int i, l5, l6]) (rest := []) (A' := im_H g u o Y) (c' := c) (s' := s) (as := [.ref 3]) (v := some (.int (k))) (A'' := im_H g' u o Y) 2 39 (fun n => rfl) (iv_hb (c := c) (s := s) (a := 0) (b := 0) rfl rfl rfl (by omega) (by omega)) hw ?_
  show iv_ev (iv_Xs L xs) 115 721 [.ref 2, .ref 3, .ref 40, .ref 61, .int i, l5, l6] [.int k] (im_H g' u o Y) c s _
  refine iv_cal (mi' := 115) (pc' := 722) (ls' := [.ref 2, .ref 3, .ref 40, .ref 61, .int i, l5, l6]) (rest := [.int k]) (A' := im_H g' u o Y) (c' := c) (s' := s) (as := [.ref 40]) (v := some (.int (k))) (A'' := im_H g' u' o Y) 2 112 (fun n => rfl) (iv_hb (c := c) (s := s) (a := 0) (b := 0) rfl rfl rfl (by omega) (by omega)) hr ?_
  show iv_ev (iv_Xs L xs) 115 725 [.ref 2, .ref 3, .ref 40, .ref 61, .int i, l5, l6] [.int k, .int k] (im_H g' u' o Y) c s _
  refine iv_brt (mi' := 115) (pc' := 854) (ls' := [.ref 2, .ref 3, .ref 40, .ref 61, .int i, l5, l6]) (st' := []) (A' := im_H g' u' o Y) (c' := c) (s' := s) (mi'' := 115) (pc'' := 728) (ls'' := [.ref 2, .ref 3, .ref 40, .ref 61, .int i, l5, l6]) (st'' := []) (A'' := im_H g' u' o Y) (c'' := c) (s'' := s) 1 0 0 (iv_heq k) (fun n => rfl) ?_
  exact hn
set_option maxRecDepth 100000 in
set_option maxHeartbeats 4000000 in
theorem law_c13 {L : Nat} {xs : Nat → Int32} {i : Int32} {l5 l6 : Value} {c s : Nat} {r : iv_R} {g g' u u' : im_M} {o o' : Nat → Int64} {Y Y' : iv_A} {k b : Int32} (h1 : iv_in (i + 1) L = true) (h2 : iv_in (i + 2) L = true) (hc : c + 2 ≤ 601024) (hs : s + 12 ≤ 7293000)
    (hw : iv_ev (iv_Xs L xs) 76 0 [.ref 3, .int (xs (i + 1).toNatClampNeg), .int (xs (i + 2).toNatClampNeg), .ref 61, .retAddr 0] [] (im_H g u o Y) 0 0 (.inl (some (.int k)), im_H g' u o' Y'))
    (hr : iv_ev (iv_Xs L xs) 113 0 [.ref 40, .int (xs (i + 1).toNatClampNeg), .int (xs (i + 2).toNatClampNeg), .retAddr 0] [] (im_H g' u o' Y') 0 0 (.inl (some (.int b)), im_H g' u' o' Y'))
    (ht : u' 37 1 = k)
    (ho : k = 0 → o' 0 = b.toInt64)
    (hn : iv_ev (iv_Xs L xs) 115 854 [.ref 2, .ref 3, .ref 40, .ref 61, .int i, .int k, .int b] [] (im_H g' u' o' Y') (c + 2) (s + 12) r) :
    iv_ev (iv_Xs L xs) 115 730 [.ref 2, .ref 3, .ref 40, .ref 61, .int i, l5, l6] [] (im_H g u o Y) c s r := by
  refine iv_chk (mi' := 115) (pc' := 737) (ls' := [.ref 2, .ref 3, .ref 40, .ref 61, .int i, l5, l6]) (st' := [.int (xs (i + 1).toNatClampNeg), .ref 3]) (A' := im_H g u o Y) (c' := c) (s' := s) 6 h1 (fun n => rfl) ?_
  refine iv_chk (mi' := 115) (pc' := 743) (ls' := [.ref 2, .ref 3, .ref 40, .ref 61, .int i, l5, l6]) (st' := [.int (xs (i + 2).toNatClampNeg), .int (xs (i + 1).toNatClampNeg), .ref 3]) (A' := im_H g u o Y) (c' := c) (s' := s) 5 h2 (fun n => rfl) ?_
  refine iv_cal (mi' := 115) (pc' := 744) (ls' := [.ref 2, .ref 3, .ref 40, .ref 61, .int i, l5, l6]) (rest := []) (A' := im_H g u o Y) (c' := c) (s' := s) (as := [.ref 3, .int (xs (i + 1).toNatClampNeg), .int (xs (i + 2).toNatClampNeg), .ref 61]) (v := some (.int (k))) (A'' := im_H g' u o' Y') 2 76 (fun n => rfl) (iv_hb (c := c) (s := s) (a := 2) (b := 12) rfl rfl rfl (by omega) (by omega)) hw ?_
  show iv_ev (iv_Xs L xs) 115 747 [.ref 2, .ref 3, .ref 40, .ref 61, .int i, l5, l6] [.int k] (im_H g' u o' Y') (c + 2) (s + 12) _
  refine iv_chk (mi' := 115) (pc' := 756) (ls' := [.ref 2, .ref 3, .ref 40, .ref 61, .int i, .int k, l6]) (st' := [.int (xs (i + 1).toNatClampNeg), .ref 40]) (A' := im_H g' u o' Y') (c' := (c + 2)) (s' := (s + 12)) 7 h1 (fun n => rfl) ?_
  refine iv_chk (mi' := 115) (pc' := 762) (ls' := [.ref 2, .ref 3, .ref 40, .ref 61, .int i, .int k, l6]) (st' := [.int (xs (i + 2).toNatClampNeg), .int (xs (i + 1).toNatClampNeg), .ref 40]) (A' := im_H g' u o' Y') (c' := (c + 2)) (s' := (s + 12)) 5 h2 (fun n => rfl) ?_
  refine iv_cal (mi' := 115) (pc' := 762) (ls' := [.ref 2, .ref 3, .ref 40, .ref 61, .int i, .int k, l6]) (rest := []) (A' := im_H g' u o' Y') (c' := (c + 2)) (s' := (s + 12)) (as := [.ref 40, .int (xs (i + 1).toNatClampNeg), .int (xs (i + 2).toNatClampNeg)]) (v := some (.int (b))) (A'' := im_H g' u' o' Y') 1 113 (fun n => rfl) (iv_hb (c := (c + 2)) (s := (s + 12)) (a := 0) (b := 0) rfl rfl rfl (by omega) (by omega)) hr ?_
  show iv_ev (iv_Xs L xs) 115 765 [.ref 2, .ref 3, .ref 40, .ref 61, .int i, .int k, l6] [.int b] (im_H g' u' o' Y') (c + 2) (s + 12) _
  refine iv_cal (mi' := 115) (pc' := 768) (ls' := [.ref 2, .ref 3, .ref 40, .ref 61, .int i, .int k, .int b]) (rest := []) (A' := im_H g' u' o' Y') (c' := (c + 2)) (s' := (s + 12)) (as := [.ref 40]) (v := some (.int (u' 37 1))) (A'' := im_H g' u' o' Y') 3 84 (fun n => rfl) (iv_hb (c := (c + 2)) (s := (s + 12)) (a := 0) (b := 0) rfl rfl rfl (by omega) (by omega)) (x84_r37_ok (u := u') rfl) ?_
  show iv_ev (iv_Xs L xs) 115 771 [.ref 2, .ref 3, .ref 40, .ref 61, .int i, .int k, .int b] [.int (u' 37 1)] (im_H g' u' o' Y') (c + 2) (s + 12) _
  rw [ht]
  refine iv_brt (mi' := 115) (pc' := 778) (ls' := [.ref 2, .ref 3, .ref 40, .ref 61, .int i, .int k, .int b]) (st' := []) (A' := im_H g' u' o' Y') (c' := (c + 2)) (s' := (s + 12)) (mi'' := 115) (pc'' := 776) (ls'' := [.ref 2, .ref 3, .ref 40, .ref 61, .int i, .int k, .int b]) (st'' := []) (A'' := im_H g' u' o' Y') (c'' := (c + 2)) (s'' := (s + 12)) 2 0 0 (iv_heq k) (fun n => rfl) ?_
  by_cases hk : k = 0
  · have ho := ho hk
    have hb : Op.ifCond.holds .ne k = false := by rw [hk]; rfl
    refine iv_brf (mi' := 115) (pc' := 795) (ls' := [.ref 2, .ref 3, .ref 40, .ref 61, .int i, .int k, .int b]) (st' := []) (A' := im_H g' u' o' Y') (c' := (c + 2)) (s' := (s + 12)) (mi'' := 115) (pc'' := 783) (ls'' := [.ref 2, .ref 3, .ref 40, .ref 61, .int i, .int k, .int b]) (st'' := []) (A'' := im_H g' u' o' Y') (c'' := (c + 2)) (s'' := (s + 12)) 2 0 0 hb (fun n => rfl) ?_
    refine iv_blk (mi' := 115) (pc' := 790) (ls' := [.ref 2, .ref 3, .ref 40, .ref 61, .int i, .int k, .int b]) (st' := [.int (lg_cmp (o' 0) b.toInt64)]) (A' := im_H g' u' o' Y') (c' := (c + 2)) (s' := (s + 12)) 6 (fun n => rfl) ?_
    rw [ho]
    refine iv_brt (mi' := 115) (pc' := 795) (ls' := [.ref 2, .ref 3, .ref 40, .ref 61, .int i, .int k, .int b]) (st' := []) (A' := im_H g' u' o' Y') (c' := (c + 2)) (s' := (s + 12)) (mi'' := 115) (pc'' := 793) (ls'' := [.ref 2, .ref 3, .ref 40, .ref 61, .int i, .int k, .int b]) (st'' := []) (A'' := im_H g' u' o' Y') (c'' := (c + 2)) (s'' := (s + 12)) 1 0 0 (iv_hcm _) (fun n => rfl) ?_
    exact iv_blk (mi' := 115) (pc' := 854) (ls' := [.ref 2, .ref 3, .ref 40, .ref 61, .int i, .int k, .int b]) (st' := []) (A' := im_H g' u' o' Y') (c' := (c + 2)) (s' := (s + 12)) 1 (fun n => rfl) hn
  · refine iv_brt (mi' := 115) (pc' := 795) (ls' := [.ref 2, .ref 3, .ref 40, .ref 61, .int i, .int k, .int b]) (st' := []) (A' := im_H g' u' o' Y') (c' := (c + 2)) (s' := (s + 12)) (mi'' := 115) (pc'' := 783) (ls'' := [.ref 2, .ref 3, .ref 40, .ref 61, .int i, .int k, .int b]) (st'' := []) (A'' := im_H g' u' o' Y') (c'' := (c + 2)) (s'' := (s + 12)) 2 0 0 (iv_hne k hk) (fun n => rfl) ?_
    exact iv_blk (mi' := 115) (pc' := 854) (ls' := [.ref 2, .ref 3, .ref 40, .ref 61, .int i, .int k, .int b]) (st' := []) (A' := im_H g' u' o' Y') (c' := (c + 2)) (s' := (s + 12)) 1 (fun n => rfl) hn
set_option maxRecDepth 100000 in
set_option maxHeartbeats 4000000 in
theorem law_c14 {L : Nat} {xs : Nat → Int32} {i : Int32} {l5 l6 : Value} {c s : Nat} {r : iv_R} {g g' u u' : im_M} {o o' : Nat → Int64} {Y Y' : iv_A} {k b : Int32} (h1 : iv_in (i + 1) L = true) (hc : c + 1 ≤ 601024) (hs : s + 6 ≤ 7293000)
    (hw : iv_ev (iv_Xs L xs) 81 0 [.ref 3, .int (xs (i + 1).toNatClampNeg), .ref 61, .retAddr 0] [] (im_H g u o Y) 0 0 (.inl (some (.int k)), im_H g' u o' Y'))
    (hr : iv_ev (iv_Xs L xs) 114 0 [.ref 40, .int (xs (i + 1).toNatClampNeg)] [] (im_H g' u o' Y') 0 0 (.inl (some (.int b)), im_H g' u' o' Y'))
    (ht : u' 37 1 = k)
    (ho : k = 0 → o' 0 = b.toInt64)
    (hn : iv_ev (iv_Xs L xs) 115 854 [.ref 2, .ref 3, .ref 40, .ref 61, .int i, .int k, .int b] [] (im_H g' u' o' Y') (c + 1) (s + 6) r) :
    iv_ev (iv_Xs L xs) 115 798 [.ref 2, .ref 3, .ref 40, .ref 61, .int i, l5, l6] [] (im_H g u o Y) c s r := by
  refine iv_chk (mi' := 115) (pc' := 805) (ls' := [.ref 2, .ref 3, .ref 40, .ref 61, .int i, l5, l6]) (st' := [.int (xs (i + 1).toNatClampNeg), .ref 3]) (A' := im_H g u o Y) (c' := c) (s' := s) 6 h1 (fun n => rfl) ?_
  refine iv_cal (mi' := 115) (pc' := 806) (ls' := [.ref 2, .ref 3, .ref 40, .ref 61, .int i, l5, l6]) (rest := []) (A' := im_H g u o Y) (c' := c) (s' := s) (as := [.ref 3, .int (xs (i + 1).toNatClampNeg), .ref 61]) (v := some (.int (k))) (A'' := im_H g' u o' Y') 2 81 (fun n => rfl) (iv_hb (c := c) (s := s) (a := 1) (b := 6) rfl rfl rfl (by omega) (by omega)) hw ?_
  show iv_ev (iv_Xs L xs) 115 809 [.ref 2, .ref 3, .ref 40, .ref 61, .int i, l5, l6] [.int k] (im_H g' u o' Y') (c + 1) (s + 6) _
  refine iv_chk (mi' := 115) (pc' := 818) (ls' := [.ref 2, .ref 3, .ref 40, .ref 61, .int i, .int k, l6]) (st' := [.int (xs (i + 1).toNatClampNeg), .ref 40]) (A' := im_H g' u o' Y') (c' := (c + 1)) (s' := (s + 6)) 7 h1 (fun n => rfl) ?_
  refine iv_cal (mi' := 115) (pc' := 818) (ls' := [.ref 2, .ref 3, .ref 40, .ref 61, .int i, .int k, l6]) (rest := []) (A' := im_H g' u o' Y') (c' := (c + 1)) (s' := (s + 6)) (as := [.ref 40, .int (xs (i + 1).toNatClampNeg)]) (v := some (.int (b))) (A'' := im_H g' u' o' Y') 1 114 (fun n => rfl) (iv_hb (c := (c + 1)) (s := (s + 6)) (a := 0) (b := 0) rfl rfl rfl (by omega) (by omega)) hr ?_
  show iv_ev (iv_Xs L xs) 115 821 [.ref 2, .ref 3, .ref 40, .ref 61, .int i, .int k, l6] [.int b] (im_H g' u' o' Y') (c + 1) (s + 6) _
  refine iv_cal (mi' := 115) (pc' := 824) (ls' := [.ref 2, .ref 3, .ref 40, .ref 61, .int i, .int k, .int b]) (rest := []) (A' := im_H g' u' o' Y') (c' := (c + 1)) (s' := (s + 6)) (as := [.ref 40]) (v := some (.int (u' 37 1))) (A'' := im_H g' u' o' Y') 3 84 (fun n => rfl) (iv_hb (c := (c + 1)) (s := (s + 6)) (a := 0) (b := 0) rfl rfl rfl (by omega) (by omega)) (x84_r37_ok (u := u') rfl) ?_
  show iv_ev (iv_Xs L xs) 115 827 [.ref 2, .ref 3, .ref 40, .ref 61, .int i, .int k, .int b] [.int (u' 37 1)] (im_H g' u' o' Y') (c + 1) (s + 6) _
  rw [ht]
  refine iv_brt (mi' := 115) (pc' := 834) (ls' := [.ref 2, .ref 3, .ref 40, .ref 61, .int i, .int k, .int b]) (st' := []) (A' := im_H g' u' o' Y') (c' := (c + 1)) (s' := (s + 6)) (mi'' := 115) (pc'' := 832) (ls'' := [.ref 2, .ref 3, .ref 40, .ref 61, .int i, .int k, .int b]) (st'' := []) (A'' := im_H g' u' o' Y') (c'' := (c + 1)) (s'' := (s + 6)) 2 0 0 (iv_heq k) (fun n => rfl) ?_
  by_cases hk : k = 0
  · have ho := ho hk
    have hb : Op.ifCond.holds .ne k = false := by rw [hk]; rfl
    refine iv_brf (mi' := 115) (pc' := 851) (ls' := [.ref 2, .ref 3, .ref 40, .ref 61, .int i, .int k, .int b]) (st' := []) (A' := im_H g' u' o' Y') (c' := (c + 1)) (s' := (s + 6)) (mi'' := 115) (pc'' := 839) (ls'' := [.ref 2, .ref 3, .ref 40, .ref 61, .int i, .int k, .int b]) (st'' := []) (A'' := im_H g' u' o' Y') (c'' := (c + 1)) (s'' := (s + 6)) 2 0 0 hb (fun n => rfl) ?_
    refine iv_blk (mi' := 115) (pc' := 846) (ls' := [.ref 2, .ref 3, .ref 40, .ref 61, .int i, .int k, .int b]) (st' := [.int (lg_cmp (o' 0) b.toInt64)]) (A' := im_H g' u' o' Y') (c' := (c + 1)) (s' := (s + 6)) 6 (fun n => rfl) ?_
    rw [ho]
    refine iv_brt (mi' := 115) (pc' := 851) (ls' := [.ref 2, .ref 3, .ref 40, .ref 61, .int i, .int k, .int b]) (st' := []) (A' := im_H g' u' o' Y') (c' := (c + 1)) (s' := (s + 6)) (mi'' := 115) (pc'' := 849) (ls'' := [.ref 2, .ref 3, .ref 40, .ref 61, .int i, .int k, .int b]) (st'' := []) (A'' := im_H g' u' o' Y') (c'' := (c + 1)) (s'' := (s + 6)) 1 0 0 (iv_hcm _) (fun n => rfl) ?_
    exact iv_blk (mi' := 115) (pc' := 854) (ls' := [.ref 2, .ref 3, .ref 40, .ref 61, .int i, .int k, .int b]) (st' := []) (A' := im_H g' u' o' Y') (c' := (c + 1)) (s' := (s + 6)) 1 (fun n => rfl) hn
  · refine iv_brt (mi' := 115) (pc' := 851) (ls' := [.ref 2, .ref 3, .ref 40, .ref 61, .int i, .int k, .int b]) (st' := []) (A' := im_H g' u' o' Y') (c' := (c + 1)) (s' := (s + 6)) (mi'' := 115) (pc'' := 839) (ls'' := [.ref 2, .ref 3, .ref 40, .ref 61, .int i, .int k, .int b]) (st'' := []) (A'' := im_H g' u' o' Y') (c'' := (c + 1)) (s'' := (s + 6)) 2 0 0 (iv_hne k hk) (fun n => rfl) ?_
    exact iv_blk (mi' := 115) (pc' := 854) (ls' := [.ref 2, .ref 3, .ref 40, .ref 61, .int i, .int k, .int b]) (st' := []) (A' := im_H g' u' o' Y') (c' := (c + 1)) (s' := (s + 6)) 1 (fun n => rfl) hn
