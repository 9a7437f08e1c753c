/-! A lane's step: the reference's rows, and both together. -/
theorem hb_bt (x : Int32) (b : Bool) {k j : Nat} (hk : k < 32) (hj : j < 32) : hb (x ||| m_bt b k) j = (hb x j || (b && decide (j = k))) := by
  rw [hb_or]
  unfold m_bt
  cases b
  · show (hb x j || hb 0 j) = _
    rw [hb_zero]
    simp
  · show (hb x j || hb ((1 : Int32) <<< (Int32.ofNat k &&& 31)) j) = _
    rw [hb_bit hk hj]
    simp
theorem ren_eq {k n a : Nat} {u : im_M} {f : Bool} (hf : f = (decide (n = 0) || Op.ifCond.holds .ne (u 40 k))) (h1 : u 41 k = Int32.ofNat a) (h2 : u 37 2 = Int32.ofNat (n + 1)) (hn : n < 1000) : m_ren k u = Int32.ofNat (bif f then n + 1 else a) := by
  unfold m_ren
  rw [h2, h1]
  have q := is_ne (a := n + 1) (b := 1) (by omega) (by decide)
  have q' : Op.if_icmp.holds .ne (Int32.ofNat (n + 1)) (1 : Int32) = !(Nat.beq (n + 1) 1) := q
  rw [q', hf]
  cases Op.ifCond.holds .ne (u 40 k)
  · cases n with
    | zero => rfl
    | succ n => rfl
  · cases h : decide (n = 0) <;> rfl
theorem m_l2_o (c p k n : Nat) (is : Bool) (u : im_M) {q : Nat} (h0 : q ≠ 37) (h1 : q ≠ 54) (h2 : q ≠ 55) (h3 : q ≠ 56) (h4 : q ≠ 57) : m_l2 c p k n is u q = u q := by
  unfold m_l2
  cases Bool.xor is (hb (u 42 (n - 1)) k)
  · rfl
  · exact m_note_o u _ _ _ h0 h1 h2 h3 h4
theorem m_l2_37 (c p k n : Nat) (is : Bool) (u : im_M) {i : Nat} (h : i ≠ 22) : m_l2 c p k n is u 37 i = u 37 i := by
  unfold m_l2
  cases Bool.xor is (hb (u 42 (n - 1)) k)
  · rfl
  · exact m_note_37 u _ _ _ h
theorem m_l3_o (c p k n d : Nat) (u : im_M) {q : Nat} (h0 : q ≠ 37) (h1 : q ≠ 54) (h2 : q ≠ 55) (h3 : q ≠ 56) (h4 : q ≠ 57) : m_l3 c p k n d u q = u q := by
  unfold m_l3
  cases Bool.xor (scan u k d n 0) (scan u k d (n - 1) 0)
  · rfl
  · exact m_note_o u _ _ _ h0 h1 h2 h3 h4
theorem m_l3_37 (c p k n d : Nat) (u : im_M) {i : Nat} (h : i ≠ 22) : m_l3 c p k n d u 37 i = u 37 i := by
  unfold m_l3
  cases Bool.xor (scan u k d n 0) (scan u k d (n - 1) 0)
  · rfl
  · exact m_note_37 u _ _ _ h
/-- what a look leaves as it was -/
theorem m_look_q (c p n d : Nat) (l : Int32) (u : im_M) {q : Nat} (h0 : q ≠ 37) (h1 : q ≠ 54) (h2 : q ≠ 55) (h3 : q ≠ 56) (h4 : q ≠ 57) (h5 : q ≠ 39) (h6 : q ≠ 40) (h7 : q ≠ 41) (h8 : q ≠ 42) (h9 : q ≠ 43) (ha : q ≠ 44) : m_look c p n d l u q = u q := by
  unfold m_look
  rw [m_l3_o _ _ _ _ _ _ h0 h1 h2 h3 h4, m_l2_o _ _ _ _ _ _ h0 h1 h2 h3 h4]
  unfold m_l1 m_l0
  rw [im_w_o _ _ _ h5, im_w_o _ _ _ ha, im_w_o _ _ _ h9, im_w_o _ _ _ h8, im_w_o _ _ _ h6, im_w_o _ _ _ h7]
theorem m_look_37 (c p n d : Nat) (l : Int32) (u : im_M) {i : Nat} (h : i ≠ 22) : m_look c p n d l u 37 i = u 37 i := by
  unfold m_look
  rw [m_l3_37 _ _ _ _ _ _ h, m_l2_37 _ _ _ _ _ _ h]
  rfl
theorem m_look_39 (c p n d : Nat) (l : Int32) (u : im_M) : m_look c p n d l u 39 = upd (u 39) (3 * c + p) (u 38 (3 * c + p)) := by
  unfold m_look
  rw [m_l3_o _ _ _ _ _ _ (by decide) (by decide) (by decide) (by decide) (by decide), m_l2_o _ _ _ _ _ _ (by decide) (by decide) (by decide) (by decide) (by decide)]
  rfl
theorem m_look_40 (c p n d : Nat) (l : Int32) (u : im_M) : m_look c p n d l u 40 = upd (u 40) (3 * c + p) 0 := by
  unfold m_look
  rw [m_l3_o _ _ _ _ _ _ (by decide) (by decide) (by decide) (by decide) (by decide), m_l2_o _ _ _ _ _ _ (by decide) (by decide) (by decide) (by decide) (by decide)]
  rfl
theorem m_look_41 (c p n d : Nat) (l : Int32) (u : im_M) : m_look c p n d l u 41 = upd (u 41) (3 * c + p) (m_ren (3 * c + p) u) := by
  unfold m_look
  rw [m_l3_o _ _ _ _ _ _ (by decide) (by decide) (by decide) (by decide) (by decide), m_l2_o _ _ _ _ _ _ (by decide) (by decide) (by decide) (by decide) (by decide)]
  rfl
theorem m_look_42 (c p n d : Nat) (l : Int32) (u : im_M) : m_look c p n d l u 42 = upd (u 42) n ((u 42 n) ||| m_bt (m_isw (3 * c + p) (m_l0 (3 * c + p) u)) (3 * c + p)) := by
  unfold m_look
  rw [m_l3_o _ _ _ _ _ _ (by decide) (by decide) (by decide) (by decide) (by decide), m_l2_o _ _ _ _ _ _ (by decide) (by decide) (by decide) (by decide) (by decide)]
  rfl
theorem m_look_43 (c p n d : Nat) (l : Int32) (u : im_M) : m_look c p n d l u 43 = upd (u 43) n ((u 43 n) ||| m_bt (m_ov p (u 38 (3 * c + p)) l) (3 * c + p)) := by
  unfold m_look
  rw [m_l3_o _ _ _ _ _ _ (by decide) (by decide) (by decide) (by decide) (by decide), m_l2_o _ _ _ _ _ _ (by decide) (by decide) (by decide) (by decide) (by decide)]
  rfl
theorem m_look_44 (c p n d : Nat) (l : Int32) (u : im_M) : m_look c p n d l u 44 = upd (u 44) n ((u 44 n) ||| m_bt (m_in p (u 38 (3 * c + p)) l) (3 * c + p)) := by
  unfold m_look
  rw [m_l3_o _ _ _ _ _ _ (by decide) (by decide) (by decide) (by decide) (by decide), m_l2_o _ _ _ _ _ _ (by decide) (by decide) (by decide) (by decide) (by decide)]
  rfl
theorem hb_row (f : Nat → Int32) {n m k j : Nat} (b : Bool) (hk : k < 32) (hj : j < 32) (h : m ≠ n ∨ j ≠ k) : hb (upd f n (f n ||| m_bt b k) m) j = hb (f m) j := by
  by_cases hm : m = n
  · subst hm
    rw [upd_s, hb_bt _ _ hk hj]
    have hj2 : j ≠ k := by
      rcases h with h | h
      · exact absurd rfl h
      · exact h
    simp [hj2]
  · rw [upd_o _ _ hm]
theorem hb_row1 (f : Nat → Int32) {n k : Nat} (b : Bool) (hk : k < 32) (h : hb (f n) k = false) : hb (upd f n (f n ||| m_bt b k) n) k = b := by
  rw [upd_s, hb_bt _ _ hk hk, h]
  simp
theorem ss_sc {is ov iw s : Bool} {b d : Nat} (hd : 1 ≤ d) (hx : (ov && iw) = false) : (ss is ov iw s b d || decide (d ≤ sc is ov b + 0)) = ss is ov iw s b d := by
  have hd1 : ¬ d ≤ 0 := by omega
  unfold ss sc
  cases is
  · cases ov
    · simp [hd1]
    · cases iw
      · cases s
        · simp
        · simp
      · simp at hx
  · simp [hd1]
