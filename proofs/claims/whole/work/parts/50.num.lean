/-! Numbers and bits of the pure part. -/
def bi (b : Bool) : Int32 := bif b then 1 else 0
def hb (x : Int32) (k : Nat) : Bool := x.toBitVec.getLsbD k
theorem bi_chk (b : Bool) : (bi b == 0 || bi b == 1) = true := by cases b <;> rfl
theorem bi_eq (b : Bool) : Op.ifCond.holds .eq (bi b) = !b := by cases b <;> rfl
theorem bi_ne (b : Bool) : Op.ifCond.holds .ne (bi b) = b := by cases b <;> rfl
theorem is_and31 {k : Nat} (hk : k < 32) : (Int32.ofNat k &&& 31) = Int32.ofNat k := by
  revert k
  decide +kernel
theorem is_smod {k : Nat} (hk : k < 32) : ((Int32.ofNat k).toBitVec.smod 32#32).toNat = k := by
  revert k
  decide +kernel
theorem is_shr (x : Int32) {k : Nat} (hk : k < 32) : (x >>> (Int32.ofNat k &&& 31)).toBitVec = x.toBitVec.sshiftRight k := by
  rw [is_and31 hk, Int32.toBitVec_shiftRight, BitVec.sshiftRight_eq']
  show x.toBitVec.sshiftRight ((Int32.ofNat k).toBitVec.smod 32#32).toNat = _
  rw [is_smod hk]
theorem hb_shr (x : Int32) {k j : Nat} (hk : k < 32) (hj : k + j < 32) : hb (x >>> (Int32.ofNat k &&& 31)) j = hb x (k + j) := by
  unfold hb
  rw [is_shr x hk, BitVec.getLsbD_sshiftRight]
  have h1 : ¬ 32 ≤ j := by omega
  simp [hj, h1]
theorem hb_and (x y : Int32) (k : Nat) : hb (x &&& y) k = (hb x k && hb y k) := by simp [hb]
theorem hb_or (x y : Int32) (k : Nat) : hb (x ||| y) k = (hb x k || hb y k) := by simp [hb]
theorem hb_ext {x y : Int32} (h : ∀ k, k < 32 → hb x k = hb y k) : x = y := Int32.toBitVec_inj.1 (BitVec.eq_of_getLsbD_eq h)
theorem hb_zero (k : Nat) : hb 0 k = false := by simp [hb]
theorem hb_one (k : Nat) : hb 1 k = decide (k = 0) := by
  unfold hb
  rw [Int32.toBitVec_one, BitVec.getLsbD_one]
  simp
theorem hb_bi (b : Bool) (k : Nat) : hb (bi b) k = (b && decide (k = 0)) := by
  cases b
  · exact hb_zero k
  · show hb 1 k = _
    rw [hb_one]
    simp
theorem is_has (x : Int32) {k : Nat} (hk : k < 32) : ((x >>> (Int32.ofNat k &&& 31)) &&& 1) = bi (hb x k) := by
  refine hb_ext fun j hj => ?_
  rw [hb_and, hb_bi, hb_one]
  by_cases h : j = 0
  · subst h
    rw [hb_shr x hk (by omega)]
    rfl
  · simp [h]
theorem hb_bit {k j : Nat} (hk : k < 32) (hj : j < 32) : hb ((1 : Int32) <<< (Int32.ofNat k &&& 31)) j = decide (j = k) := by
  revert j
  revert k
  decide +kernel
def B3 (a b c : Bool) : Int32 := Int32.ofNat ((bif a then 1 else 0) + (bif b then 2 else 0) + (bif c then 4 else 0))
theorem hb_B3 (a b c : Bool) {j : Nat} (hj : j < 32) : hb (B3 a b c) j = ((decide (j = 0) && a) || (decide (j = 1) && b) || (decide (j = 2) && c)) := by
  revert j
  revert a b c
  decide +kernel
theorem hb_7 {j : Nat} (hj : j < 32) : hb 7 j = decide (j < 3) := by
  revert j
  decide +kernel
theorem is_wb (x : Int32) {c : Nat} (hc : c < 4) : ((x >>> (((3 : Int32) * Int32.ofNat c) &&& 31)) &&& 7) = B3 (hb x (3 * c)) (hb x (3 * c + 1)) (hb x (3 * c + 2)) := by
  have e : (3 : Int32) * Int32.ofNat c = Int32.ofNat (3 * c) := (Int32.ofNat_mul 3 c).symm
  rw [e]
  refine hb_ext fun j hj => ?_
  rw [hb_and, hb_B3 _ _ _ hj, hb_7 hj]
  by_cases h : j < 3
  · rw [hb_shr x (by omega) (by omega)]
    have h3 : j = 0 ∨ j = 1 ∨ j = 2 := by omega
    rcases h3 with h3 | h3 | h3 <;> subst h3 <;> simp
  · have h0 : j ≠ 0 := by omega
    have h1 : j ≠ 1 := by omega
    have h2 : j ≠ 2 := by omega
    simp [h, h0, h1, h2]
theorem of_toInt {x : Int32} {j : Nat} (h : x.toInt = j) (hj : j < 2 ^ 31) : x = Int32.ofNat j := Int32.toInt_inj.1 (by rw [h, Int32.toInt_ofNat_of_lt hj])
theorem nn_n {k : Nat} (hk : k < 2 ^ 31) : ¬ (Int32.ofNat k < 0) := by
  have h : (Int32.ofNat k < Int32.ofNat 0) ↔ k < 0 := Int32.ofNat_lt_iff_lt hk (by decide)
  intro h2
  exact absurd (h.1 h2) (by omega)
theorem iv_in_n {k n : Nat} (hk : k < 2 ^ 31) : iv_in (Int32.ofNat k) n = decide (k < n) := by
  unfold iv_in
  rw [Int32.toNatClampNeg_ofNat_of_lt hk]
  simp [nn_n hk]
theorem iv_in_t {k n : Nat} (hk : k < 2 ^ 31) (h : k < n) : iv_in (Int32.ofNat k) n = true := by
  rw [iv_in_n hk]
  simp [h]
theorem fm_q (x : Int32) : (x - x / 40 * 40).toInt = x.toInt.tmod 40 := by
  have h40 : (40 : Int32).toInt = 40 := rfl
  have lo := x.le_toInt
  have hi := x.toInt_lt
  rw [Int32.toInt_sub, Int32.toInt_mul, Int32.toInt_div_of_ne_right _ _ (by decide), h40]
  rcases Int.le_total 0 x.toInt with h | h
  · rw [Int.tdiv_eq_ediv_of_nonneg h, Int.tmod_eq_emod_of_nonneg h]
    have e1 : (x.toInt / 40 * 40).bmod (2 ^ 32) = x.toInt / 40 * 40 := Int.bmod_eq_of_le (by omega) (by omega)
    rw [e1]
    have e2 : (x.toInt - x.toInt / 40 * 40).bmod (2 ^ 32) = x.toInt - x.toInt / 40 * 40 := Int.bmod_eq_of_le (by omega) (by omega)
    rw [e2]
    omega
  · obtain ⟨y, hy⟩ : ∃ y : Int, x.toInt = -y := ⟨-x.toInt, by omega⟩
    rw [hy] at lo hi h ⊢
    have h2 : 0 ≤ y := by omega
    rw [Int.neg_tdiv, Int.neg_tmod, Int.tdiv_eq_ediv_of_nonneg h2, Int.tmod_eq_emod_of_nonneg h2]
    have e1 : (-(y / 40) * 40).bmod (2 ^ 32) = -(y / 40) * 40 := Int.bmod_eq_of_le (by omega) (by omega)
    rw [e1]
    have e2 : (-y - -(y / 40) * 40).bmod (2 ^ 32) = -y - -(y / 40) * 40 := Int.bmod_eq_of_le (by omega) (by omega)
    rw [e2]
    omega
theorem fm_sign (x : Int32) : Op.ifCond.holds .ge (x ^^^ 40) = decide (0 ≤ x.toInt) := by
  have h1 : (x ^^^ 40).toBitVec.msb = x.toBitVec.msb := by
    rw [Int32.toBitVec_xor, BitVec.msb_xor]
    have : (40 : Int32).toBitVec.msb = false := by decide
    rw [this]
    simp
  rw [BitVec.msb_eq_toInt, BitVec.msb_eq_toInt] at h1
  have h2 : ((x ^^^ 40) ≥ 0) ↔ ¬ ((x ^^^ 40).toBitVec.toInt < 0) := by
    show (0 ≤ (x ^^^ 40)) ↔ _
    rw [Int32.le_iff_toInt_le]
    show 0 ≤ (x ^^^ 40).toInt ↔ ¬ ((x ^^^ 40).toInt < 0)
    omega
  show decide ((x ^^^ 40) ≥ 0) = _
  have h3 : ((x ^^^ 40).toBitVec.toInt < 0) ↔ (x.toBitVec.toInt < 0) := by simpa using h1
  have h4 : ((x ^^^ 40) ≥ 0) ↔ 0 ≤ x.toInt := by
    rw [h2, h3]
    show ¬ (x.toInt < 0) ↔ _
    omega
  simp [h4]
def fm (x : Int32) : Int32 := bif Op.ifCond.holds .ge (x ^^^ 40) then (x - x / 40 * 40) else (bif Op.ifCond.holds .eq (x - x / 40 * 40) then (x - x / 40 * 40) else (x - x / 40 * 40) + 40)
theorem fm_n {e : Nat} (he : e < 2 ^ 31) : fm (Int32.ofNat e) = Int32.ofNat (e % 40) := by
  have ht := Int32.toInt_ofNat_of_lt he
  have h0 : Op.ifCond.holds .ge (Int32.ofNat e ^^^ 40) = true := by
    rw [fm_sign, ht]
    simp
  unfold fm
  rw [h0]
  refine of_toInt ?_ (by omega)
  show (Int32.ofNat e - Int32.ofNat e / 40 * 40).toInt = _
  rw [fm_q, ht, Int.tmod_eq_emod_of_nonneg (by omega)]
  omega
theorem fm_lt (x : Int32) : ∃ j : Nat, j < 40 ∧ fm x = Int32.ofNat j := by
  have hq := fm_q x
  by_cases h : 0 ≤ x.toInt
  · have h0 : Op.ifCond.holds .ge (x ^^^ 40) = true := by
      rw [fm_sign]
      simp [h]
    rw [Int.tmod_eq_emod_of_nonneg h] at hq
    refine ⟨(x.toInt % 40).toNat, by omega, ?_⟩
    unfold fm
    rw [h0]
    exact of_toInt (hq.trans (by omega)) (by omega)
  · have h0 : Op.ifCond.holds .ge (x ^^^ 40) = false := by
      rw [fm_sign]
      simp [h]
    obtain ⟨y, hy⟩ : ∃ y : Int, x.toInt = -y := ⟨-x.toInt, by omega⟩
    rw [hy, Int.neg_tmod, Int.tmod_eq_emod_of_nonneg (by omega)] at hq
    unfold fm
    rw [h0]
    generalize x - x / 40 * 40 = t at hq
    by_cases h2 : y % 40 = 0
    · have ht : t = 0 := of_toInt (j := 0) (hq.trans (by omega)) (by decide)
      subst ht
      exact ⟨0, by decide, rfl⟩
    · have ht : t ≠ 0 := by
        intro ht
        subst ht
        exact h2 (by have : (0 : Int32).toInt = 0 := rfl
                     omega)
      have h3 : Op.ifCond.holds .eq t = false := by
        simp [Op.ifCond.holds, ht]
      rw [h3]
      refine ⟨(40 - y % 40).toNat, by omega, of_toInt ?_ (by omega)⟩
      show (t + 40).toInt = _
      have h40 : (40 : Int32).toInt = 40 := rfl
      rw [Int32.toInt_add, hq, h40]
      have e1 : (-(y % 40) + 40).bmod (2 ^ 32) = -(y % 40) + 40 := Int.bmod_eq_of_le (by omega) (by omega)
      rw [e1]
      omega
theorem is_n1 (j : Nat) : Int32.ofNat j + 1 = Int32.ofNat (j + 1) := (Int32.ofNat_add j 1).symm
theorem is_n2 (j : Nat) : Int32.ofNat j + 2 = Int32.ofNat (j + 2) := (Int32.ofNat_add j 2).symm
theorem is_n3 (j : Nat) : Int32.ofNat j + 3 = Int32.ofNat (j + 3) := (Int32.ofNat_add j 3).symm
theorem is_m4 (j : Nat) : Int32.ofNat j * 4 = Int32.ofNat (4 * j) := by
  rw [Nat.mul_comm]
  exact (Int32.ofNat_mul j 4).symm
theorem im_w_s (g : im_M) (p k : Nat) (v : Int32) : im_w g p k v p k = v := by simp [im_w, upd]
theorem im_w_k (g : im_M) (p : Nat) {k j : Nat} (v : Int32) (h : j ≠ k) : im_w g p k v p j = g p j := by simp [im_w, upd, h]
theorem im_w_o (g : im_M) {p q : Nat} (k : Nat) (v : Int32) (h : q ≠ p) : im_w g p k v q = g q := by simp [im_w, h]
