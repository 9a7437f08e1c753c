/-! The reference's look: the printed function is that of the memory. -/
theorem bi_beq (a b : Bool) : Op.if_icmp.holds .eq (bi a) (bi b) = !(Bool.xor a b) := by cases a <;> cases b <;> rfl
theorem e91_10 {u : im_M} {c p k m d e : Nat} (hk : k < 32) (hd : 1 ≤ d) (hd2 : d ≤ 8) (hu0 : u 37 0 = Int32.ofNat d) (hn : u 37 2 = Int32.ofNat (m + 1)) (hm : m + 1 < 520) (he : e < 2 ^ 31) (hu : u 37 22 = Int32.ofNat e) (y3 y4 y5 y6 y7 y8 : Int32) :
    x91_r37_10 u (Int32.ofNat c) (Int32.ofNat p) (Int32.ofNat k) y3 y4 y5 y6 y7 y8 = some (0, m_l3 c p k (m + 1) d u) := by
  unfold x91_r37_10 x91_r37_11 x91_r37_12 m_l3
  rw [hn, x95_eq hk hd hd2 hu0 hm]
  simp only [Option.bind_some, hn, is_s1, x95_eq hk hd hd2 hu0 (show m < 520 by omega), bi_beq, bi_eq, x94_eq he hu, Nat.add_sub_cancel]
  cases scan u k d (m + 1) 0 <;> cases scan u k d m 0 <;> rfl
theorem e91_7 {u : im_M} {c p k m d e : Nat} (hk : k < 32) (hd : 1 ≤ d) (hd2 : d ≤ 8) (hu0 : u 37 0 = Int32.ofNat d) (hn : u 37 2 = Int32.ofNat (m + 1)) (hm : m + 1 < 520) (he : e + 1 < 2 ^ 31) (hu : u 37 22 = Int32.ofNat e) (y3 y4 y5 y6 y7 y8 y9 : Int32) :
    x91_r37_7 u (Int32.ofNat c) (Int32.ofNat p) (Int32.ofNat k) y3 y4 y5 y6 y7 y8 y9 = some (0, m_l3 c p k (m + 1) d (m_note u y9 (Int32.ofNat c) (Int32.ofNat p))) := by
  have h0 : m_note u y9 (Int32.ofNat c) (Int32.ofNat p) 37 0 = Int32.ofNat d := hu0
  have h2 : m_note u y9 (Int32.ofNat c) (Int32.ofNat p) 37 2 = Int32.ofNat (m + 1) := hn
  have h22 : m_note u y9 (Int32.ofNat c) (Int32.ofNat p) 37 22 = Int32.ofNat (e + 1) := by
    show u 37 22 + 1 = _
    rw [hu, is_n1]
  have h := e91_10 (c := c) (p := p) hk hd hd2 h0 h2 hm he h22 y3 y4 y5 y6 y7 y8
  unfold x91_r37_7 x91_r37_8 x91_r37_9
  unfold x91_r37_10 x91_r37_11 x91_r37_12 at h
  rw [x94_eq (by omega) hu]
  exact h
theorem e91_6 {u : im_M} {c p k m d e : Nat} (hk : k < 12) (hd : 1 ≤ d) (hd2 : d ≤ 8) (hu0 : u 37 0 = Int32.ofNat d) (hn : u 37 2 = Int32.ofNat (m + 1)) (hm : m + 1 < 520) (he : e + 1 < 2 ^ 31) (hu : u 37 22 = Int32.ofNat e) (v y4 y5 y6 b9 b8 : Int32) (is : Bool) :
    x91_r37_6 u (Int32.ofNat c) (Int32.ofNat p) (Int32.ofNat k) v y4 y5 y6 (bi is) b8 b9 (Int32.ofNat (m + 1)) = some (0, m_l3 c p k (m + 1) d (m_l2 c p k (m + 1) is (im_w (im_w u 44 (m + 1) (b9 ||| b8)) 39 k v))) := by
  have t1 := Int32.toNatClampNeg_ofNat_of_lt (n := m + 1) (by omega)
  have t2 := Int32.toNatClampNeg_ofNat_of_lt (n := k) (by omega)
  have t3 := Int32.toNatClampNeg_ofNat_of_lt (n := m) (by omega)
  have i1 := iv_in_t (k := m + 1) (n := 520) (by omega) hm
  have i2 := iv_in_t (k := k) (n := 12) (by omega) hk
  have i3 := iv_in_t (k := m) (n := 520) (by omega) (by omega)
  have h0 : im_w (im_w u 44 (m + 1) (b9 ||| b8)) 39 k v 37 0 = Int32.ofNat d := hu0
  have h2 : im_w (im_w u 44 (m + 1) (b9 ||| b8)) 39 k v 37 2 = Int32.ofNat (m + 1) := hn
  have h22 : im_w (im_w u 44 (m + 1) (b9 ||| b8)) 39 k v 37 22 = Int32.ofNat e := hu
  have h42 : im_w (im_w u 44 (m + 1) (b9 ||| b8)) 39 k v 42 m = u 42 m := rfl
  unfold x91_r37_6 m_l2
  simp only [hn, is_s1, t1, t2, t3, i1, i2, i3, cond_true, x93_eq _ _ (show k < 32 by omega), Option.bind_some, bi_beq, bi_eq, Nat.add_sub_cancel, h42]
  rw [e91_10 (by omega) hd hd2 h0 h2 hm (by omega) h22, e91_7 (by omega) hd hd2 h0 h2 hm he h22, e91_7 (by omega) hd hd2 h0 h2 hm he h22]
  cases is <;> cases hb (u 42 m) k <;> rfl
theorem e91_5 {u : im_M} {c p k m d e : Nat} (hk : k < 12) (hd : 1 ≤ d) (hd2 : d ≤ 8) (hu0 : u 37 0 = Int32.ofNat d) (hn : u 37 2 = Int32.ofNat (m + 1)) (hm : m + 1 < 520) (he : e + 1 < 2 ^ 31) (hu : u 37 22 = Int32.ofNat e) (v y4 y5 b9 b8 : Int32) (is iw : Bool) :
    x91_r37_5 u (Int32.ofNat c) (Int32.ofNat p) (Int32.ofNat k) v y4 y5 (bi iw) (bi is) b8 b9 (Int32.ofNat (m + 1)) = some (0, m_l3 c p k (m + 1) d (m_l2 c p k (m + 1) is (im_w (im_w (im_w u 43 (m + 1) (b9 ||| b8)) 44 (m + 1) ((u 44 (m + 1)) ||| m_bt iw k)) 39 k v))) := by
  have t1 := Int32.toNatClampNeg_ofNat_of_lt (n := m + 1) (by omega)
  have i1 := iv_in_t (k := m + 1) (n := 520) (by omega) hm
  have h0 : im_w u 43 (m + 1) (b9 ||| b8) 37 0 = Int32.ofNat d := hu0
  have h2 : im_w u 43 (m + 1) (b9 ||| b8) 37 2 = Int32.ofNat (m + 1) := hn
  have h22 : im_w u 43 (m + 1) (b9 ||| b8) 37 22 = Int32.ofNat e := hu
  unfold x91_r37_5
  simp only [hn, t1, i1, cond_true, bi_eq]
  rw [e91_6 hk hd hd2 h0 h2 hm he h22, e91_6 hk hd hd2 h0 h2 hm he h22]
  cases iw <;> rfl
theorem e91_4 {u : im_M} {c p k m d e : Nat} (hk : k < 12) (hd : 1 ≤ d) (hd2 : d ≤ 8) (hu0 : u 37 0 = Int32.ofNat d) (hn : u 37 2 = Int32.ofNat (m + 1)) (hm : m + 1 < 520) (he : e + 1 < 2 ^ 31) (hu : u 37 22 = Int32.ofNat e) (v y4 b9 b8 : Int32) (is iw ov : Bool) :
    x91_r37_4 u (Int32.ofNat c) (Int32.ofNat p) (Int32.ofNat k) v y4 (bi ov) (bi iw) (bi is) b8 b9 (Int32.ofNat (m + 1)) = some (0, m_l3 c p k (m + 1) d (m_l2 c p k (m + 1) is (im_w (im_w (im_w (im_w u 42 (m + 1) (b9 ||| b8)) 43 (m + 1) ((u 43 (m + 1)) ||| m_bt ov k)) 44 (m + 1) ((u 44 (m + 1)) ||| m_bt iw k)) 39 k v))) := by
  have t1 := Int32.toNatClampNeg_ofNat_of_lt (n := m + 1) (by omega)
  have i1 := iv_in_t (k := m + 1) (n := 520) (by omega) hm
  have h0 : im_w u 42 (m + 1) (b9 ||| b8) 37 0 = Int32.ofNat d := hu0
  have h2 : im_w u 42 (m + 1) (b9 ||| b8) 37 2 = Int32.ofNat (m + 1) := hn
  have h22 : im_w u 42 (m + 1) (b9 ||| b8) 37 22 = Int32.ofNat e := hu
  unfold x91_r37_4
  simp only [hn, t1, i1, cond_true, bi_eq]
  rw [e91_5 hk hd hd2 h0 h2 hm he h22, e91_5 hk hd hd2 h0 h2 hm he h22]
  cases ov <;> rfl
theorem e91_3 {u : im_M} {c p k m d e : Nat} (hk : k < 12) (hd : 1 ≤ d) (hd2 : d ≤ 8) (hu0 : u 37 0 = Int32.ofNat d) (hn : u 37 2 = Int32.ofNat (m + 1)) (hm : m + 1 < 520) (he : e + 1 < 2 ^ 31) (hu : u 37 22 = Int32.ofNat e) (v y4 : Int32) (iw ov : Bool) :
    x91_r37_3 u (Int32.ofNat c) (Int32.ofNat p) (Int32.ofNat k) v y4 (bi ov) (bi iw) = some (0, m_l3 c p k (m + 1) d (m_l2 c p k (m + 1) (m_isw k u) (im_w (im_w (im_w (im_w u 42 (m + 1) ((u 42 (m + 1)) ||| m_bt (m_isw k u) k)) 43 (m + 1) ((u 43 (m + 1)) ||| m_bt ov k)) 44 (m + 1) ((u 44 (m + 1)) ||| m_bt iw k)) 39 k v))) := by
  have t1 := Int32.toNatClampNeg_ofNat_of_lt (n := m + 1) (by omega)
  have i1 := iv_in_t (k := m + 1) (n := 520) (by omega) hm
  unfold x91_r37_3
  rw [x92_eq hk]
  simp only [Option.bind_some, hn, t1, i1, cond_true, bi_eq]
  rw [e91_4 hk hd hd2 hu0 hn hm he hu, e91_4 hk hd hd2 hu0 hn hm he hu]
  cases m_isw k u <;> rfl
theorem bi_t : bi true = 1 := rfl
theorem bi_f : bi false = 0 := rfl
theorem is_ne1 {p : Nat} (hp : p < 3) : Op.if_icmp.holds .ne (Int32.ofNat p) (1 : Int32) = !(Nat.beq p 1) := is_ne (b := 1) (by omega) (by decide)
theorem e91_2 (u : im_M) {c : Int32} {p : Nat} (hp : p < 3) (k v l o : Int32) :
    x91_r37_2 u c (Int32.ofNat p) k v l o = x91_r37_3 u c (Int32.ofNat p) k v l o (bi (m_in p v l)) := by
  unfold x91_r37_2 m_in
  rw [is_ne1 hp]
  cases Nat.beq p 1 <;> cases Op.if_icmp.holds .ge v (l - (40 : Int32)) <;> cases Op.if_icmp.holds .le v (l + (40 : Int32)) <;> simp only [cond_true, cond_false, Bool.not_true, Bool.not_false, bi_t, bi_f]
theorem e91_1 {u : im_M} {c p x y : Nat} (hc : c < 4) (hp : p < 3) (hx : x < 4096) (hy : y < 4096) (h0 : u 38 (3 * c) = Int32.ofNat x) (h1 : u 38 (3 * c + 1) = Int32.ofNat y) (r : Int32) :
    x91_r37_1 u (Int32.ofNat c) (Int32.ofNat p) (Int32.ofNat (3 * c + p)) r (Int32.ofNat (3 * c + p)) = x91_r37_2 (im_w (im_w u 41 (3 * c + p) r) 40 (3 * c + p) 0) (Int32.ofNat c) (Int32.ofNat p) (Int32.ofNat (3 * c + p)) (u 38 (3 * c + p)) (limv p x y) (bi (m_ov p (u 38 (3 * c + p)) (limv p x y))) := by
  have h0' : im_w (im_w u 41 (3 * c + p) r) 40 (3 * c + p) 0 38 (3 * c) = Int32.ofNat x := h0
  have h1' : im_w (im_w u 41 (3 * c + p) r) 40 (3 * c + p) 0 38 (3 * c + 1) = Int32.ofNat y := h1
  unfold x91_r37_1
  rw [iv_in_t (by omega) (by omega), Int32.toNatClampNeg_ofNat_of_lt (by omega), x88_eq hc hp hx hy h0' h1']
  simp only [cond_true, Option.bind_some]
  generalize limv p x y = l
  generalize u 38 (3 * c + p) = v
  unfold m_ov
  rw [is_ne1 hp]
  cases Nat.beq p 1 <;> cases Op.if_icmp.holds .ge v l <;> cases Op.if_icmp.holds .le v l <;> simp only [cond_true, cond_false, Bool.not_true, Bool.not_false, bi_t, bi_f]
theorem x91_eq {u : im_M} {c p x y m d e : Nat} (hc : c < 4) (hp : p < 3) (hx : x < 4096) (hy : y < 4096) (h0 : u 38 (3 * c) = Int32.ofNat x) (h1 : u 38 (3 * c + 1) = Int32.ofNat y) (hd : 1 ≤ d) (hd2 : d ≤ 8) (hu0 : u 37 0 = Int32.ofNat d) (hn : u 37 2 = Int32.ofNat (m + 1)) (hm : m + 1 < 520) (he : e + 1 < 2 ^ 31) (hu : u 37 22 = Int32.ofNat e) :
    x91_r37 u (Int32.ofNat c) (Int32.ofNat p) = some (0, m_look c p (m + 1) d (limv p x y) u) := by
  have h : x91_r37 u (Int32.ofNat c) (Int32.ofNat p) = x91_r37_1 u (Int32.ofNat c) (Int32.ofNat p) (Int32.ofNat (3 * c + p)) (m_ren (3 * c + p) u) (Int32.ofNat (3 * c + p)) := by
    unfold x91_r37 m_ren
    rw [is_i3 hc hp, iv_in_t (by omega) (by omega), Int32.toNatClampNeg_ofNat_of_lt (by omega)]
    cases Op.ifCond.holds .ne (u 40 (3 * c + p)) <;> cases Op.if_icmp.holds .ne (u 37 2) (1 : Int32) <;> rfl
  rw [h, e91_1 hc hp hx hy h0 h1, e91_2 _ hp]
  have k0 : m_l0 (3 * c + p) u 37 0 = Int32.ofNat d := hu0
  have k2 : m_l0 (3 * c + p) u 37 2 = Int32.ofNat (m + 1) := hn
  have k22 : m_l0 (3 * c + p) u 37 22 = Int32.ofNat e := hu
  exact e91_3 (show 3 * c + p < 12 by omega) hd hd2 k0 k2 hm he k22 _ _ _ _
