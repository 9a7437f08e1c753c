/-! What the reference's look does, as functions of the memory. -/
theorem is_i3 {c p : Nat} (hc : c < 4) (hp : p < 3) : ((3 : Int32) * Int32.ofNat c) + Int32.ofNat p = Int32.ofNat (3 * c + p) := by
  rw [Int32.ofNat_add, Int32.ofNat_mul]
  rfl
theorem is_i30 (c : Nat) : (3 : Int32) * Int32.ofNat c = Int32.ofNat (3 * c) := (Int32.ofNat_mul 3 c).symm
theorem is_p1 (m : Nat) : Int32.ofNat (m + 1) + Int32.ofInt (-1) = Int32.ofNat m := by
  have h : (1 : Int32) + Int32.ofInt (-1) = 0 := by decide
  rw [← is_n1, Int32.add_assoc, h, Int32.add_zero]
theorem is_s1 (m : Nat) : Int32.ofNat (m + 1) - (1 : Int32) = Int32.ofNat m := by
  rw [← is_n1, Int32.add_sub_cancel]
def limv (p x y : Nat) : Int32 := match p with
  | 0 => 3000
  | 1 => 1200
  | _ => k_cv x - Int32.ofNat (k_ls y)
theorem x88_eq {u : im_M} {c p x y : Nat} (hc : c < 4) (hp : p < 3) (hx : x < 4096) (hy : y < 4096) (h0 : u 38 (3 * c) = Int32.ofNat x) (h1 : u 38 (3 * c + 1) = Int32.ofNat y) : x88_r37 u (Int32.ofNat c) (Int32.ofNat p) = some (limv p x y, u) := by
  have h3 : p = 0 ∨ p = 1 ∨ p = 2 := by omega
  rcases h3 with h3 | h3 | h3
  · subst h3
    rfl
  · subst h3
    rfl
  · subst h3
    have ha : Op.if_icmp.holds .ge (Int32.ofNat 2) (2 : Int32) = true := rfl
    unfold x88_r37
    obtain ⟨v, hv, hd⟩ := x89_eq u hx
    rw [ha, is_i30, is_n1, iv_in_t (by omega) (by omega), iv_in_t (by omega) (by omega), Int32.toNatClampNeg_ofNat_of_lt (by omega), Int32.toNatClampNeg_ofNat_of_lt (by omega), h0, hv]
    simp only [cond_true, Option.bind_some]
    rw [h1, hd]
    exact x88_lp u _ _ _ hy 600 0 (by omega) (by unfold k_ls; omega)
def scan (u : im_M) (k d : Nat) : Nat → Nat → Bool
  | 0, _ => false
  | m + 1, r => bif hb (u 42 (m + 1)) k then scan u k d m 0 else (bif hb (u 44 (m + 1)) k then false else (bif hb (u 43 (m + 1)) k then (bif Nat.beq (r + 1) d then true else scan u k d m (r + 1)) else scan u k d m 0))
theorem scan_s (u : im_M) (k d m r : Nat) : scan u k d (m + 1) r = bif hb (u 42 (m + 1)) k then scan u k d m 0 else (bif hb (u 44 (m + 1)) k then false else (bif hb (u 43 (m + 1)) k then (bif Nat.beq (r + 1) d then true else scan u k d m (r + 1)) else scan u k d m 0)) := rfl
theorem is_ne {a b : Nat} (ha : a < 2 ^ 31) (hb : b < 2 ^ 31) : Op.if_icmp.holds .ne (Int32.ofNat a) (Int32.ofNat b) = !(Nat.beq a b) := by
  have h : Int32.ofNat a = Int32.ofNat b ↔ a = b := by
    constructor
    · intro h
      have h2 := congrArg Int32.toNatClampNeg h
      rw [Int32.toNatClampNeg_ofNat_of_lt ha, Int32.toNatClampNeg_ofNat_of_lt hb] at h2
      exact h2
    · intro h
      rw [h]
  show (Int32.ofNat a != Int32.ofNat b) = _
  by_cases h2 : a = b
  · subst h2
    simp
  · have h3 : Int32.ofNat a ≠ Int32.ofNat b := fun h4 => h2 (h.1 h4)
    have h4 : Nat.beq a b = false := by
      cases h5 : Nat.beq a b with
      | false => rfl
      | true => exact absurd (Nat.eq_of_beq_eq_true h5) h2
    rw [h4]
    simp [h3]
theorem x95_lp {u : im_M} {k d : Nat} (hk : k < 32) (hd : 1 ≤ d) (hd2 : d ≤ 8) (hu : u 37 0 = Int32.ofNat d) (y1 : Int32) (fu : Nat) : ∀ m r : Nat, m < fu → m < 520 → r + m < 2000 → x95_r37_1 fu u (Int32.ofNat k) y1 (Int32.ofNat r) (Int32.ofNat m) = some (bi (scan u k d m r), u) := by
  induction fu with
  | zero =>
    intro m r h
    omega
  | succ fu ih =>
    intro m r hm hm2 hr
    cases m with
    | zero =>
      unfold x95_r37_1
      rfl
    | succ m =>
      have hle : Op.ifCond.holds .le (Int32.ofNat (m + 1)) = false := by
        have h : (Int32.ofNat (m + 1) ≤ Int32.ofNat 0) ↔ m + 1 ≤ 0 := Int32.ofNat_le_iff_le (by omega) (by decide)
        show decide (Int32.ofNat (m + 1) ≤ Int32.ofNat 0) = false
        exact decide_eq_false (fun h2 => absurd (h.1 h2) (by omega))
      have hz : Op.if_icmp.holds .ne (0 : Int32) (Int32.ofNat d) = true := by
        have h := is_ne (a := 0) (b := d) (by decide) (by omega)
        have h2 : Nat.beq 0 d = false := by
          cases d with
          | zero => omega
          | succ d => rfl
        rw [h2] at h
        exact h
      unfold x95_r37_1
      rw [hle, iv_in_t (by omega) hm2, Int32.toNatClampNeg_ofNat_of_lt (by omega)]
      simp only [cond_true, cond_false, x93_eq u _ hk, Option.bind_some, hu, hz, is_p1, bi_eq, bi_ne, is_n1, is_ne (a := r + 1) (b := d) (by omega) (by omega)]
      have i0 := ih m 0 (by omega) (by omega) (by omega)
      have i1 := ih m (r + 1) (by omega) (by omega) (by omega)
      have i0' : x95_r37_1 fu u (Int32.ofNat k) y1 0 (Int32.ofNat m) = some (bi (scan u k d m 0), u) := i0
      rw [i0', i1, scan_s]
      cases hb (u 42 (m + 1)) k <;> cases hb (u 44 (m + 1)) k <;> cases hb (u 43 (m + 1)) k <;> cases Nat.beq (r + 1) d <;> rfl
theorem x95_eq {u : im_M} {k d m : Nat} (hk : k < 32) (hd : 1 ≤ d) (hd2 : d ≤ 8) (hu : u 37 0 = Int32.ofNat d) (hm : m < 520) : x95_r37 u (Int32.ofNat k) (Int32.ofNat m) = some (bi (scan u k d m 0), u) :=
  x95_lp hk hd hd2 hu _ 520 m 0 hm hm (by omega)
def m_isw (k : Nat) (u : im_M) : Bool :=
  Op.if_icmp.holds .lt (u 38 k) (50 : Int32) || (Op.if_icmp.holds .gt (u 38 k) (4000 : Int32) || ((!(Op.if_icmp.holds .le (u 37 2) (1 : Int32)) && Op.if_icmp.holds .gt (bif Op.if_icmp.holds .ge (u 38 k) (u 39 k) then (u 38 k) - (u 39 k) else (u 39 k) - (u 38 k)) (400 : Int32)) || !(Op.if_icmp.holds .le ((u 37 2) - (u 41 k)) (12 : Int32))))
theorem x92_eq {u : im_M} {k : Nat} (hk : k < 12) : x92_r37 u (Int32.ofNat k) = some (bi (m_isw k u), u) := by
  unfold x92_r37 x92_r37_1 x92_r37_2 m_isw
  rw [iv_in_t (by omega) hk, Int32.toNatClampNeg_ofNat_of_lt (by omega)]
  simp only [cond_true]
  cases Op.if_icmp.holds .ge (u 38 k) (u 39 k)
  · simp only [cond_false]
    cases Op.if_icmp.holds .lt (u 38 k) (50 : Int32) <;> cases Op.if_icmp.holds .gt (u 38 k) (4000 : Int32) <;> cases Op.if_icmp.holds .le (u 37 2) (1 : Int32) <;> cases Op.if_icmp.holds .gt ((u 39 k) - (u 38 k)) (400 : Int32) <;> cases Op.if_icmp.holds .le ((u 37 2) - (u 41 k)) (12 : Int32) <;> rfl
  · simp only [cond_true]
    cases Op.if_icmp.holds .lt (u 38 k) (50 : Int32) <;> cases Op.if_icmp.holds .gt (u 38 k) (4000 : Int32) <;> cases Op.if_icmp.holds .le (u 37 2) (1 : Int32) <;> cases Op.if_icmp.holds .gt ((u 38 k) - (u 39 k)) (400 : Int32) <;> cases Op.if_icmp.holds .le ((u 37 2) - (u 41 k)) (12 : Int32) <;> rfl
def m_bt (b : Bool) (k : Nat) : Int32 := bif b then (1 : Int32) <<< (Int32.ofNat k &&& 31) else 0
def m_ov (p : Nat) (v l : Int32) : Bool := bif Nat.beq p 1 then !(Op.if_icmp.holds .ge v l) else !(Op.if_icmp.holds .le v l)
def m_in (p : Nat) (v l : Int32) : Bool := bif Nat.beq p 1 then !(Op.if_icmp.holds .le v (l + (40 : Int32))) else !(Op.if_icmp.holds .ge v (l - (40 : Int32)))
def m_ren (k : Nat) (u : im_M) : Int32 := bif Op.ifCond.holds .ne (u 40 k) then u 37 2 else (bif Op.if_icmp.holds .ne (u 37 2) (1 : Int32) then u 41 k else u 37 2)
/-- renewed and fresh -/
def m_l0 (k : Nat) (u : im_M) : im_M := im_w (im_w u 41 k (m_ren k u)) 40 k 0
/-- the row of the tick, and before -/
def m_l1 (k p n : Nat) (l : Int32) (u : im_M) : im_M :=
  im_w (im_w (im_w (im_w u 42 n ((u 42 n) ||| m_bt (m_isw k u) k)) 43 n ((u 43 n) ||| m_bt (m_ov p (u 38 k) l) k)) 44 n ((u 44 n) ||| m_bt (m_in p (u 38 k) l) k)) 39 k (u 38 k)
def m_l2 (c p k n : Nat) (is : Bool) (u : im_M) : im_M :=
  bif Bool.xor is (hb (u 42 (n - 1)) k) then m_note u (bif is then 1 else 2) (Int32.ofNat c) (Int32.ofNat p) else u
def m_l3 (c p k n d : Nat) (u : im_M) : im_M :=
  bif Bool.xor (scan u k d n 0) (scan u k d (n - 1) 0) then m_note u (bif scan u k d n 0 then 3 else 4) (Int32.ofNat c) (Int32.ofNat p) else u
def m_look (c p n d : Nat) (l : Int32) (u : im_M) : im_M :=
  m_l3 c p (3 * c + p) n d (m_l2 c p (3 * c + p) n (m_isw (3 * c + p) (m_l0 (3 * c + p) u)) (m_l1 (3 * c + p) p n l (m_l0 (3 * c + p) u)))
