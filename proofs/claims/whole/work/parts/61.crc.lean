/-! The check of a frame, on both sides (printed by wip/gen/rel2.py) -/
def k_st (y : Int32) : Int32 := bif Op.if_icmp.holds .le (y <<< ((1 : Int32) &&& 31)) (255 : Int32) then y <<< ((1 : Int32) &&& 31) else (y <<< ((1 : Int32) &&& 31)) ^^^ (263 : Int32)
def k_T (y : Int32) : Int32 := k_st (k_st (k_st (k_st (k_st (k_st (k_st (k_st y)))))))
theorem e30_8 (g : im_M) (a b y : Int32) : x30_8 g a b y = some (y, g) := rfl
theorem e30_7 (g : im_M) (a b y : Int32) : x30_7 g a b y = x30_8 g a b (k_st y) := by
  unfold x30_7 k_st
  cases Op.if_icmp.holds .le (y <<< ((1 : Int32) &&& 31)) (255 : Int32) <;> rfl
theorem e30_6 (g : im_M) (a b y : Int32) : x30_6 g a b y = x30_7 g a b (k_st y) := by
  unfold x30_6 k_st
  cases Op.if_icmp.holds .le (y <<< ((1 : Int32) &&& 31)) (255 : Int32) <;> rfl
theorem e30_5 (g : im_M) (a b y : Int32) : x30_5 g a b y = x30_6 g a b (k_st y) := by
  unfold x30_5 k_st
  cases Op.if_icmp.holds .le (y <<< ((1 : Int32) &&& 31)) (255 : Int32) <;> rfl
theorem e30_4 (g : im_M) (a b y : Int32) : x30_4 g a b y = x30_5 g a b (k_st y) := by
  unfold x30_4 k_st
  cases Op.if_icmp.holds .le (y <<< ((1 : Int32) &&& 31)) (255 : Int32) <;> rfl
theorem e30_3 (g : im_M) (a b y : Int32) : x30_3 g a b y = x30_4 g a b (k_st y) := by
  unfold x30_3 k_st
  cases Op.if_icmp.holds .le (y <<< ((1 : Int32) &&& 31)) (255 : Int32) <;> rfl
theorem e30_2 (g : im_M) (a b y : Int32) : x30_2 g a b y = x30_3 g a b (k_st y) := by
  unfold x30_2 k_st
  cases Op.if_icmp.holds .le (y <<< ((1 : Int32) &&& 31)) (255 : Int32) <;> rfl
theorem e30_1 (g : im_M) (a b y : Int32) : x30_1 g a b y = x30_2 g a b (k_st y) := by
  unfold x30_1 k_st
  cases Op.if_icmp.holds .le (y <<< ((1 : Int32) &&& 31)) (255 : Int32) <;> rfl
theorem x30_eq (g : im_M) (a b : Int32) : x30 g a b = some (k_T (a ^^^ b), g) := by
  have h : x30 g a b = x30_1 g a b (k_st (a ^^^ b)) := by
    unfold x30 k_st
    cases Op.if_icmp.holds .le ((a ^^^ b) <<< ((1 : Int32) &&& 31)) (255 : Int32) <;> rfl
  rw [h, e30_1, e30_2, e30_3, e30_4, e30_5, e30_6, e30_7, e30_8]
  rfl
theorem x29_v (g : im_M) (a b : Int32) : x29 g a b = some (k_T (k_T (0 ^^^ a) ^^^ b), g) := by
  unfold x29
  rw [x30_eq]
  simp only [Option.bind_some, x30_eq]
def m_st (j : Nat) (c y : Int32) : Int32 := bif hb y j then y ^^^ c else y
theorem e97_16 (u : im_M) (a b z y : Int32) : x97_16 u a b z y = some (y, u) := rfl
theorem e97_15 (u : im_M) (a b z y : Int32) : x97_15 u a b z y = x97_16 u a b y (m_st 8 (263 : Int32) y) := by
  unfold x97_15 m_st
  rw [show (8 : Int32) = Int32.ofNat 8 from rfl, x93_eq u y (by decide)]
  simp only [Option.bind_some, bi_eq]
  cases hb y 8 <;> rfl
theorem e97_14 (u : im_M) (a b z y : Int32) : x97_14 u a b z y = x97_15 u a b y (m_st 9 (526 : Int32) y) := by
  unfold x97_14 m_st
  rw [show (9 : Int32) = Int32.ofNat 9 from rfl, x93_eq u y (by decide)]
  simp only [Option.bind_some, bi_eq]
  cases hb y 9 <;> rfl
theorem e97_13 (u : im_M) (a b z y : Int32) : x97_13 u a b z y = x97_14 u a b y (m_st 10 (1052 : Int32) y) := by
  unfold x97_13 m_st
  rw [show (10 : Int32) = Int32.ofNat 10 from rfl, x93_eq u y (by decide)]
  simp only [Option.bind_some, bi_eq]
  cases hb y 10 <;> rfl
theorem e97_12 (u : im_M) (a b z y : Int32) : x97_12 u a b z y = x97_13 u a b y (m_st 11 (2104 : Int32) y) := by
  unfold x97_12 m_st
  rw [show (11 : Int32) = Int32.ofNat 11 from rfl, x93_eq u y (by decide)]
  simp only [Option.bind_some, bi_eq]
  cases hb y 11 <;> rfl
theorem e97_11 (u : im_M) (a b z y : Int32) : x97_11 u a b z y = x97_12 u a b y (m_st 12 (4208 : Int32) y) := by
  unfold x97_11 m_st
  rw [show (12 : Int32) = Int32.ofNat 12 from rfl, x93_eq u y (by decide)]
  simp only [Option.bind_some, bi_eq]
  cases hb y 12 <;> rfl
theorem e97_10 (u : im_M) (a b z y : Int32) : x97_10 u a b z y = x97_11 u a b y (m_st 13 (8416 : Int32) y) := by
  unfold x97_10 m_st
  rw [show (13 : Int32) = Int32.ofNat 13 from rfl, x93_eq u y (by decide)]
  simp only [Option.bind_some, bi_eq]
  cases hb y 13 <;> rfl
theorem e97_9 (u : im_M) (a b z y : Int32) : x97_9 u a b z y = x97_10 u a b y (m_st 14 (16832 : Int32) y) := by
  unfold x97_9 m_st
  rw [show (14 : Int32) = Int32.ofNat 14 from rfl, x93_eq u y (by decide)]
  simp only [Option.bind_some, bi_eq]
  cases hb y 14 <;> rfl
theorem e97_8 (u : im_M) (a b z y : Int32) : x97_8 u a b z y = x97_9 u a b y (m_st 15 (33664 : Int32) y) := by
  unfold x97_8 m_st
  rw [show (15 : Int32) = Int32.ofNat 15 from rfl, x93_eq u y (by decide)]
  simp only [Option.bind_some, bi_eq]
  cases hb y 15 <;> rfl
theorem e97_7 (u : im_M) (a b z y : Int32) : x97_7 u a b z y = x97_8 u a b y (m_st 16 (67328 : Int32) y) := by
  unfold x97_7 m_st
  rw [show (16 : Int32) = Int32.ofNat 16 from rfl, x93_eq u y (by decide)]
  simp only [Option.bind_some, bi_eq]
  cases hb y 16 <;> rfl
theorem e97_6 (u : im_M) (a b z y : Int32) : x97_6 u a b z y = x97_7 u a b y (m_st 17 (134656 : Int32) y) := by
  unfold x97_6 m_st
  rw [show (17 : Int32) = Int32.ofNat 17 from rfl, x93_eq u y (by decide)]
  simp only [Option.bind_some, bi_eq]
  cases hb y 17 <;> rfl
theorem e97_5 (u : im_M) (a b z y : Int32) : x97_5 u a b z y = x97_6 u a b y (m_st 18 (269312 : Int32) y) := by
  unfold x97_5 m_st
  rw [show (18 : Int32) = Int32.ofNat 18 from rfl, x93_eq u y (by decide)]
  simp only [Option.bind_some, bi_eq]
  cases hb y 18 <;> rfl
theorem e97_4 (u : im_M) (a b z y : Int32) : x97_4 u a b z y = x97_5 u a b y (m_st 19 (538624 : Int32) y) := by
  unfold x97_4 m_st
  rw [show (19 : Int32) = Int32.ofNat 19 from rfl, x93_eq u y (by decide)]
  simp only [Option.bind_some, bi_eq]
  cases hb y 19 <;> rfl
theorem e97_3 (u : im_M) (a b z y : Int32) : x97_3 u a b z y = x97_4 u a b y (m_st 20 (1077248 : Int32) y) := by
  unfold x97_3 m_st
  rw [show (20 : Int32) = Int32.ofNat 20 from rfl, x93_eq u y (by decide)]
  simp only [Option.bind_some, bi_eq]
  cases hb y 20 <;> rfl
theorem e97_2 (u : im_M) (a b z y : Int32) : x97_2 u a b z y = x97_3 u a b y (m_st 21 (2154496 : Int32) y) := by
  unfold x97_2 m_st
  rw [show (21 : Int32) = Int32.ofNat 21 from rfl, x93_eq u y (by decide)]
  simp only [Option.bind_some, bi_eq]
  cases hb y 21 <;> rfl
theorem e97_1 (u : im_M) (a b z y : Int32) : x97_1 u a b z y = x97_2 u a b y (m_st 22 (4308992 : Int32) y) := by
  unfold x97_1 m_st
  rw [show (22 : Int32) = Int32.ofNat 22 from rfl, x93_eq u y (by decide)]
  simp only [Option.bind_some, bi_eq]
  cases hb y 22 <;> rfl
def m_hi (y : Int32) : Int32 := m_st 16 (67328 : Int32) (m_st 17 (134656 : Int32) (m_st 18 (269312 : Int32) (m_st 19 (538624 : Int32) (m_st 20 (1077248 : Int32) (m_st 21 (2154496 : Int32) (m_st 22 (4308992 : Int32) (m_st 23 (8617984 : Int32) y)))))))
def m_lo (y : Int32) : Int32 := m_st 8 (263 : Int32) (m_st 9 (526 : Int32) (m_st 10 (1052 : Int32) (m_st 11 (2104 : Int32) (m_st 12 (4208 : Int32) (m_st 13 (8416 : Int32) (m_st 14 (16832 : Int32) (m_st 15 (33664 : Int32) y)))))))
theorem x97_v (u : im_M) (a b : Int32) : x97 u a b = some (m_lo (m_hi (((256 : Int32) * a + b) * (256 : Int32))), u) := by
  have h : x97 u a b = x97_1 u a b (((256 : Int32) * a + b) * (256 : Int32)) (m_st 23 (8617984 : Int32) (((256 : Int32) * a + b) * (256 : Int32))) := by
    unfold x97 m_st
    rw [show (23 : Int32) = Int32.ofNat 23 from rfl, x93_eq u _ (by decide)]
    simp only [Option.bind_some, bi_eq]
    cases hb (((256 : Int32) * a + b) * (256 : Int32)) 23 <;> rfl
  rw [h, e97_1, e97_2, e97_3, e97_4, e97_5, e97_6, e97_7, e97_8, e97_9, e97_10, e97_11, e97_12, e97_13, e97_14, e97_15, e97_16]
  rfl
theorem on_xor (x y : Nat) : Int32.ofNat x ^^^ Int32.ofNat y = Int32.ofNat (x ^^^ y) := Int32.toBitVec_inj.1 (by simp)
theorem on_or (x y : Nat) : Int32.ofNat x ||| Int32.ofNat y = Int32.ofNat (x ||| y) := Int32.toBitVec_inj.1 (by simp)
theorem on_and (x y : Nat) : Int32.ofNat x &&& Int32.ofNat y = Int32.ofNat (x &&& y) := Int32.toBitVec_inj.1 (by simp)
theorem hb_xor (x y : Int32) (k : Nat) : hb (x ^^^ y) k = Bool.xor (hb x k) (hb y k) := by simp [hb]
theorem hb_n {m j : Nat} (hj : j < 32) : hb (Int32.ofNat m) j = Nat.testBit m j := by
  unfold hb
  rw [Int32.toBitVec_ofNat', BitVec.getLsbD_ofNat]
  simp [hj]
def k_t (a : Nat) : Nat := (k_T (Int32.ofNat a)).toNatClampNeg
theorem k_tab : ∀ a : Nat, a < 256 → (k_T (Int32.ofNat a) = Int32.ofNat (k_t a) ∧ k_t a < 256 ∧ m_hi (Int32.ofNat (65536 * a)) = Int32.ofNat (256 * k_t a) ∧ m_lo (Int32.ofNat (256 * a)) = Int32.ofNat (k_t a) ∧ Int32.ofNat a <<< ((8 : Int32) &&& 31) = Int32.ofNat (256 * a) ∧ Int32.ofNat a <<< ((16 : Int32) &&& 31) = Int32.ofNat (65536 * a)) := by
  decide +kernel
theorem m_st_x (j : Nat) (c y w : Int32) (h : hb w j = false) : m_st j c (y ^^^ w) = m_st j c y ^^^ w := by
  unfold m_st
  rw [hb_xor, h]
  cases hb y j
  · rfl
  · show (y ^^^ w) ^^^ c = (y ^^^ c) ^^^ w
    rw [Int32.xor_assoc, Int32.xor_comm w c, ← Int32.xor_assoc]
theorem m_hi_x (y : Int32) {b : Nat} (hb2 : b < 256) : m_hi (y ^^^ Int32.ofNat (256 * b)) = m_hi y ^^^ Int32.ofNat (256 * b) := by
  have h : ∀ j : Nat, 16 ≤ j → j < 32 → hb (Int32.ofNat (256 * b)) j = false := fun j h1 h2 => by
    rw [hb_n h2]
    refine Nat.testBit_lt_two_pow ?_
    have h3 : 2 ^ 16 ≤ 2 ^ j := Nat.pow_le_pow_right (by decide) h1
    omega
  unfold m_hi
  rw [m_st_x _ _ _ _ (h 23 (by decide) (by decide)), m_st_x _ _ _ _ (h 22 (by decide) (by decide)), m_st_x _ _ _ _ (h 21 (by decide) (by decide)), m_st_x _ _ _ _ (h 20 (by decide) (by decide)), m_st_x _ _ _ _ (h 19 (by decide) (by decide)), m_st_x _ _ _ _ (h 18 (by decide) (by decide)), m_st_x _ _ _ _ (h 17 (by decide) (by decide)), m_st_x _ _ _ _ (h 16 (by decide) (by decide))]
theorem nx_1 : ∀ a : Nat, a < 256 → ∀ b : Nat, b < 256 → (65536 * a) ^^^ (256 * b) = 65536 * a + 256 * b := by
  decide +kernel
theorem nx_2 : ∀ a : Nat, a < 256 → ∀ b : Nat, b < 256 → (256 * a) ^^^ (256 * b) = 256 * (a ^^^ b) := by
  decide +kernel
def k_ck (a b : Nat) : Nat := k_t (k_t a ^^^ b)
theorem k_ck_lt {a b : Nat} (ha : a < 256) (hb : b < 256) : k_ck a b < 256 := (k_tab _ (Nat.xor_lt_two_pow (n := 8) (k_tab a ha).2.1 hb)).2.1
theorem x29_eq (g : im_M) {a b : Nat} (ha : a < 256) (hb : b < 256) : x29 g (Int32.ofNat a) (Int32.ofNat b) = some (Int32.ofNat (k_ck a b), g) := by
  have h0 : (0 : Int32) ^^^ Int32.ofNat a = Int32.ofNat a := Int32.zero_xor
  rw [x29_v, h0, (k_tab a ha).1, on_xor, (k_tab _ (Nat.xor_lt_two_pow (n := 8) (k_tab a ha).2.1 hb)).1]
  rfl
theorem x97_eq (u : im_M) {a b : Nat} (ha : a < 256) (hb : b < 256) : x97 u (Int32.ofNat a) (Int32.ofNat b) = some (Int32.ofNat (k_ck a b), u) := by
  have e : ((256 : Int32) * Int32.ofNat a + Int32.ofNat b) * (256 : Int32) = Int32.ofNat (65536 * a) ^^^ Int32.ofNat (256 * b) := by
    rw [on_xor, nx_1 a ha b hb]
    have e1 : 65536 * a + 256 * b = (256 * a + b) * 256 := by omega
    rw [e1, Int32.ofNat_mul, Int32.ofNat_add, Int32.ofNat_mul]
    rfl
  rw [x97_v, e, m_hi_x _ hb, (k_tab a ha).2.2.1, on_xor, nx_2 _ (k_tab a ha).2.1 b hb, (k_tab _ (Nat.xor_lt_two_pow (n := 8) (k_tab a ha).2.1 hb)).2.2.2.1]
  rfl
/-! the word of a frame -/
theorem fr_w {h b t : Nat} (hh : h < 256) (hb : b < 256) (ht : t < 256) : ((Int32.ofNat h ||| (Int32.ofNat b <<< ((8 : Int32) &&& 31))) ||| (Int32.ofNat t <<< ((16 : Int32) &&& 31))) = Int32.ofNat (h + 256 * b + 65536 * t) := by
  rw [(k_tab b hb).2.2.2.2.1, (k_tab t ht).2.2.2.2.2, on_or, on_or]
  have e1 : h ||| 256 * b = h + 256 * b := by
    have q := Nat.two_pow_add_eq_or_of_lt (i := 8) (b := h) (by omega) b
    have q' : 256 * b + h = 256 * b ||| h := q
    rw [Nat.or_comm, ← q']
    omega
  rw [e1]
  have e2 : h + 256 * b ||| 65536 * t = h + 256 * b + 65536 * t := by
    have q := Nat.two_pow_add_eq_or_of_lt (i := 16) (b := h + 256 * b) (by omega) t
    have q' : 65536 * t + (h + 256 * b) = 65536 * t ||| (h + 256 * b) := q
    rw [Nat.or_comm, ← q']
    omega
  rw [e2]
theorem on_255 (m : Nat) : Int32.ofNat m &&& (255 : Int32) = Int32.ofNat (m % 256) := by
  show Int32.ofNat m &&& Int32.ofNat 255 = _
  rw [on_and]
  have q : m &&& 255 = m % 256 := Nat.and_two_pow_sub_one_eq_mod m 8
  rw [q]
def wn (w : Int32) : Nat := w.toBitVec.toNat
theorem hb_wn (w : Int32) (j : Nat) : hb w j = Nat.testBit (wn w) j := rfl
theorem hb_255 {j : Nat} (hj : j < 32) : hb 255 j = decide (j < 8) := by
  revert j
  decide +kernel
theorem w_by (w : Int32) {k : Nat} (hk : k ≤ 16) : ((w >>> (Int32.ofNat k &&& 31)) &&& (255 : Int32)) = Int32.ofNat (wn w / 2 ^ k % 256) := by
  refine hb_ext fun j hj => ?_
  rw [hb_and, hb_255 hj, hb_n hj, show (256 : Nat) = 2 ^ 8 from rfl, Nat.testBit_mod_two_pow, Nat.testBit_div_two_pow]
  by_cases h : j < 8
  · rw [hb_shr w (by omega) (by omega), hb_wn, Nat.add_comm k j]
    simp [h]
  · simp [h]
theorem w_b0 (w : Int32) : (w &&& (255 : Int32)) = Int32.ofNat (wn w % 256) := by
  refine hb_ext fun j hj => ?_
  rw [hb_and, hb_255 hj, hb_n hj, show (256 : Nat) = 2 ^ 8 from rfl, Nat.testBit_mod_two_pow, hb_wn]
  by_cases h : j < 8
  · simp [h]
  · simp [h]
theorem hb_24 {j : Nat} (hj : j < 32) : hb 16777215 j = decide (j < 24) := by
  revert j
  decide +kernel
theorem w_24 (w : Int32) : (w &&& (16777215 : Int32)) = Int32.ofNat (wn w % 256 + 256 * (wn w / 2 ^ 8 % 256) + 65536 * (wn w / 2 ^ 16 % 256)) := by
  have e : wn w % 256 + 256 * (wn w / 2 ^ 8 % 256) + 65536 * (wn w / 2 ^ 16 % 256) = wn w % 2 ^ 24 := by omega
  rw [e]
  refine hb_ext fun j hj => ?_
  rw [hb_and, hb_24 hj, hb_n hj, Nat.testBit_mod_two_pow, hb_wn]
  by_cases h : j < 24
  · simp [h]
  · simp [h]
theorem wn_n {m : Nat} (h : m < 2 ^ 31) : wn (Int32.ofNat m) = m := by
  unfold wn
  rw [Int32.toBitVec_ofNat', BitVec.toNat_ofNat]
  omega
theorem on_inj {a b : Nat} (ha : a < 2 ^ 31) (hb : b < 2 ^ 31) (h : Int32.ofNat a = Int32.ofNat b) : a = b := by
  have h2 := congrArg Int32.toNatClampNeg h
  rw [Int32.toNatClampNeg_ofNat_of_lt ha, Int32.toNatClampNeg_ofNat_of_lt hb] at h2
  exact h2
theorem x28_eq (g : im_M) {n b : Nat} (hb : b < 256) : x28 g (Int32.ofNat n) (Int32.ofNat b) = some (Int32.ofNat (n % 256 + 256 * b + 65536 * k_ck (n % 256) b), g) := by
  unfold x28
  have h : n % 256 < 256 := Nat.mod_lt _ (by decide)
  rw [on_255, x29_eq g h hb]
  simp only [Option.bind_some]
  rw [fr_w h hb (k_ck_lt h hb)]
theorem x27_eq (g : im_M) {h b t : Nat} (hh : h < 256) (hb : b < 256) (ht : t < 256) : x27 g (Int32.ofNat (h + 256 * b + 65536 * t)) = some (Int32.ofNat b, g) := by
  unfold x27
  rw [show (8 : Int32) = Int32.ofNat 8 from rfl, w_by _ (by decide), wn_n (by omega)]
  have e : (h + 256 * b + 65536 * t) / 2 ^ 8 % 256 = b := by omega
  rw [e]
def k_gd (n h b t : Nat) : Bool := Nat.beq h (n % 256) && Nat.beq t (k_ck (n % 256) b)
theorem nbeq (a b : Nat) : Nat.beq a b = decide (a = b) := by
  cases h5 : Nat.beq a b with
  | true => exact (decide_eq_true (Nat.eq_of_beq_eq_true h5)).symm
  | false => exact (decide_eq_false (Nat.ne_of_beq_eq_false h5)).symm
theorem x26_eq (g : im_M) {n h b t : Nat} (hh : h < 256) (hb : b < 256) (ht : t < 256) : x26 g (Int32.ofNat (h + 256 * b + 65536 * t)) (Int32.ofNat n) = some (bi (k_gd n h b t), g) := by
  have hm : n % 256 < 256 := Nat.mod_lt _ (by decide)
  have hk := k_ck_lt hm hb
  unfold x26 x26_1
  rw [x27_eq g hh hb ht]
  simp only [Option.bind_some, x28_eq g hb]
  rw [is_ne (by omega) (by omega)]
  have e : Nat.beq (h + 256 * b + 65536 * t) (n % 256 + 256 * b + 65536 * k_ck (n % 256) b) = k_gd n h b t := by
    unfold k_gd
    generalize k_ck (n % 256) b = q at hk ⊢
    generalize n % 256 = m at hm ⊢
    rw [nbeq, nbeq, nbeq]
    by_cases h1 : h = m
    · by_cases h2 : t = q
      · rw [h1, h2]
        simp
      · have h3 : ¬ (h + 256 * b + 65536 * t = m + 256 * b + 65536 * q) := by omega
        rw [decide_eq_false h3, decide_eq_false h2]
        simp
    · have h3 : ¬ (h + 256 * b + 65536 * t = m + 256 * b + 65536 * q) := by omega
      rw [decide_eq_false h3, decide_eq_false h1]
      rfl
  rw [e]
  cases k_gd n h b t <;> rfl
