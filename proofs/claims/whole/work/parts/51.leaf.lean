/-! Leaves of both sides, as values. -/
theorem x17_eq (g : im_M) (x : Int32) : x17_40 g x = some (fm x, g) := by
  unfold x17_40 fm
  cases Op.ifCond.holds .ge (x ^^^ (40 : Int32)) <;> cases Op.ifCond.holds .eq (x - x / (40 : Int32) * (40 : Int32)) <;> rfl
theorem x16_eq (g : im_M) (x : Int32) : x16 g x = some (fm x * 4, g) := by
  unfold x16
  rw [x17_eq]
  rfl
def c_rec (g : im_M) (a b c : Int32) : im_M :=
  im_w (im_w (im_w (im_w (im_w g 2 (4 * (fm (g 1 2)).toNatClampNeg) (g 1 1)) 2 (4 * (fm (g 1 2)).toNatClampNeg + 1) a) 2 (4 * (fm (g 1 2)).toNatClampNeg + 2) b) 2 (4 * (fm (g 1 2)).toNatClampNeg + 3) c) 1 2 (g 1 2 + 1)
theorem x15_eq (g : im_M) (a b c : Int32) : x15_r1 g a b c = some (0, c_rec g a b c) := by
  unfold x15_r1 c_rec
  rw [x16_eq]
  obtain ⟨j, hj, e⟩ := fm_lt (g 1 2)
  have t0 := Int32.toNatClampNeg_ofNat_of_lt (n := j) (by omega)
  have t1 := Int32.toNatClampNeg_ofNat_of_lt (n := 4 * j) (by omega)
  have t2 := Int32.toNatClampNeg_ofNat_of_lt (n := 4 * j + 1) (by omega)
  have t3 := Int32.toNatClampNeg_ofNat_of_lt (n := 4 * j + 2) (by omega)
  have t4 := Int32.toNatClampNeg_ofNat_of_lt (n := 4 * j + 3) (by omega)
  have i0 := iv_in_t (k := 4 * j) (n := 160) (by omega) (by omega)
  have i1 := iv_in_t (k := 4 * j + 1) (n := 160) (by omega) (by omega)
  have i2 := iv_in_t (k := 4 * j + 2) (n := 160) (by omega) (by omega)
  have i3 := iv_in_t (k := 4 * j + 3) (n := 160) (by omega) (by omega)
  simp only [Option.bind_some, e, is_m4, is_n1, is_n2, is_n3, i0, i1, i2, i3, t0, t1, t2, t3, t4, cond_true]
def m_note (u : im_M) (a b c : Int32) : im_M :=
  im_w (im_w (im_w (im_w (im_w u 54 (fm (u 37 22)).toNatClampNeg (u 37 2)) 55 (fm (u 37 22)).toNatClampNeg a) 56 (fm (u 37 22)).toNatClampNeg b) 57 (fm (u 37 22)).toNatClampNeg c) 37 22 (u 37 22 + 1)
theorem fm_r {e : Nat} (he : e < 2 ^ 31) : (Int32.ofNat e - Int32.ofNat e / 40 * 40) = Int32.ofNat (e % 40) := by
  have h := fm_n he
  have h0 : Op.ifCond.holds .ge (Int32.ofNat e ^^^ 40) = true := by
    rw [fm_sign, Int32.toInt_ofNat_of_lt he]
    simp
  unfold fm at h
  rw [h0] at h
  exact h
theorem x94_eq {u : im_M} {e : Nat} (he : e < 2 ^ 31) (hu : u 37 22 = Int32.ofNat e) (a b c : Int32) : x94_r37 u a b c = some (0, m_note u a b c) := by
  unfold x94_r37 m_note
  rw [hu, fm_r he, fm_n he, iv_in_t (by omega) (by omega)]
  rfl
theorem x93_eq (u : im_M) (x : Int32) {k : Nat} (hk : k < 32) : x93 u x (Int32.ofNat k) = some (bi (hb x k), u) := by
  unfold x93 x93_1
  rw [is_has x hk]
  cases hb x k <;> rfl
theorem x86_eq (u : im_M) (a b : Int32) : x86 u a b = some (bi (!(Op.ifCond.holds .lt a) && !(Op.if_icmp.holds .gt a b)), u) := by
  unfold x86 x86_1
  cases Op.ifCond.holds .lt a <;> cases Op.if_icmp.holds .gt a b <;> rfl
theorem x101_eq {u : im_M} {n : Nat} (hn : n < 520) (hu : u 37 2 = Int32.ofNat n) {c : Nat} (hc : c < 4) : x101_r37 u (Int32.ofNat c) = some (B3 (hb (u 42 n) (3 * c)) (hb (u 42 n) (3 * c + 1)) (hb (u 42 n) (3 * c + 2)), u) := by
  unfold x101_r37
  rw [hu, iv_in_t (by omega) hn, Int32.toNatClampNeg_ofNat_of_lt (by omega), is_wb _ hc]
  rfl
/-! the limits -/
def k_z : im_M := fun _ _ => 0
def k_cv (x : Nat) : Int32 := ((x21 k_z (Int32.ofNat x)).map Prod.fst).getD 0
def k_ls (y : Nat) : Nat := (2000 - y + 3) / 4
theorem x22_g (g : im_M) (a : Int32) : x22_1000 g a = (x22_1000 k_z a).map fun q => (q.1, g) := by
  unfold x22_1000
  cases Op.ifCond.holds .ge (a ^^^ (1000 : Int32)) <;> cases Op.if_icmp.holds .eq ((a / (1000 : Int32)) * (1000 : Int32)) a <;> rfl
theorem x21_g (g : im_M) (a : Int32) : x21 g a = (x21 k_z a).map fun q => (q.1, g) := by
  unfold x21
  rw [x22_g]
  generalize x22_1000 k_z (((([3600, 3300, 2900, 2200, 1500] : List Int32).getD (((a / (1000 : Int32)) + (1 : Int32))).toNatClampNeg 0) - (([3600, 3300, 2900, 2200, 1500] : List Int32).getD ((a / (1000 : Int32))).toNatClampNeg 0)) * (a - a / (1000 : Int32) * (1000 : Int32))) = o
  cases Op.if_icmp.holds .lt (a / (1000 : Int32)) (4 : Int32) <;> cases iv_in ((a / (1000 : Int32)) + (1 : Int32)) 5 <;> cases iv_in (a / (1000 : Int32)) 5 <;> cases o <;> rfl
theorem x89_2g (u : im_M) (a b c d : Int32) : x89_2 u a b c d = (x89_2 k_z a b c d).map fun q => (q.1, u) := rfl
theorem x89_1g (u : im_M) (a b c : Int32) : x89_1 u a b c = (x89_1 k_z a b c).map fun q => (q.1, u) := by
  unfold x89_1
  cases Op.ifCond.holds .ne b <;> cases Op.if_icmp.holds .ne b (1 : Int32) <;> cases Op.if_icmp.holds .ne b (2 : Int32) <;> rfl
theorem x89_g (u : im_M) (a : Int32) : x89 u a = (x89 k_z a).map fun q => (q.1, u) := by
  unfold x89
  cases Op.if_icmp.holds .le a (4000 : Int32) <;> cases Op.ifCond.holds .ne (a / (1000 : Int32)) <;> cases Op.if_icmp.holds .ne (a / (1000 : Int32)) (1 : Int32) <;> cases Op.if_icmp.holds .ne (a / (1000 : Int32)) (2 : Int32) <;> cases Op.if_icmp.holds .ne (a / (1000 : Int32)) (3 : Int32) <;> first | rfl | exact x89_1g _ _ _ _
theorem k_all : ∀ i : Nat, i < 64 → ∀ j : Nat, j < 64 → ((x21 k_z (Int32.ofNat (64 * i + j))).map Prod.fst = some (k_cv (64 * i + j)) ∧ (x89 k_z (Int32.ofNat (64 * i + j))).map (fun q => q.1 / (1000 : Int32)) = some (k_cv (64 * i + j)) ∧ (((if (0 : Int32) < ((2000 : Int32) - Int32.ofNat (64 * i + j)) then ((2000 : Int32) - Int32.ofNat (64 * i + j)) else (0 : Int32)) + (3 : Int32)) / (4 : Int32)) = Int32.ofNat (k_ls (64 * i + j))) := by
  decide +kernel
theorem k_one {x : Nat} (hx : x < 4096) : (x21 k_z (Int32.ofNat x)).map Prod.fst = some (k_cv x) ∧ (x89 k_z (Int32.ofNat x)).map (fun q => q.1 / (1000 : Int32)) = some (k_cv x) ∧ (((if (0 : Int32) < ((2000 : Int32) - Int32.ofNat x) then ((2000 : Int32) - Int32.ofNat x) else (0 : Int32)) + (3 : Int32)) / (4 : Int32)) = Int32.ofNat (k_ls x) := by
  have h := k_all (x / 64) (by omega) (x % 64) (by omega)
  have e : 64 * (x / 64) + x % 64 = x := by omega
  rw [e] at h
  exact h
theorem x21_eq (g : im_M) {x : Nat} (hx : x < 4096) : x21 g (Int32.ofNat x) = some (k_cv x, g) := by
  have h := (k_one hx).1
  rw [x21_g]
  generalize x21 k_z (Int32.ofNat x) = o at h
  cases o with
  | none => cases h
  | some q =>
    have h2 : some q.1 = some (k_cv x) := h
    have h3 := Option.some.inj h2
    show some (q.1, g) = _
    rw [h3]
theorem x89_eq (u : im_M) {x : Nat} (hx : x < 4096) : ∃ v : Int32, x89 u (Int32.ofNat x) = some (v, u) ∧ v / 1000 = k_cv x := by
  have h := (k_one hx).2.1
  rw [x89_g]
  generalize x89 k_z (Int32.ofNat x) = o at h
  cases o with
  | none => cases h
  | some q =>
    refine ⟨q.1, rfl, ?_⟩
    have h2 : some (q.1 / (1000 : Int32)) = some (k_cv x) := h
    exact Option.some.inj h2
theorem x88_lp (u : im_M) (y0 y1 y2 : Int32) {y : Nat} (hy : y < 4096) (fu : Nat) : ∀ z : Nat, z ≤ k_ls y → k_ls y - z < fu → x88_r37_1 fu u y0 y1 y2 (Int32.ofNat y) (Int32.ofNat z) = some (y2 - Int32.ofNat (k_ls y), u) := by
  induction fu with
  | zero =>
    intro z _ h
    omega
  | succ fu ih =>
    intro z hz hf
    unfold k_ls at hz hf
    have e : (Int32.ofNat y + 4 * Int32.ofNat z) = Int32.ofNat (y + 4 * z) := by
      rw [Int32.ofNat_add, Int32.ofNat_mul]
      rfl
    have hc : Op.if_icmp.holds .ge (Int32.ofNat y + ((4 : Int32) * Int32.ofNat z)) (2000 : Int32) = decide (2000 ≤ y + 4 * z) := by
      rw [e]
      have h : (Int32.ofNat 2000 ≤ Int32.ofNat (y + 4 * z)) ↔ 2000 ≤ y + 4 * z := Int32.ofNat_le_iff_le (by decide) (by omega)
      show decide (Int32.ofNat 2000 ≤ Int32.ofNat (y + 4 * z)) = _
      exact decide_eq_decide.mpr h
    unfold x88_r37_1
    rw [hc]
    by_cases h : 2000 ≤ y + 4 * z
    · have hz2 : z = k_ls y := by
        unfold k_ls
        omega
      rw [hz2] at h ⊢
      simp [h]
    · have hd : decide (2000 ≤ y + 4 * z) = false := by simp [h]
      rw [hd]
      show x88_r37_1 fu u y0 y1 y2 (Int32.ofNat y) (Int32.ofNat z + 1) = _
      rw [is_n1]
      exact ih (z + 1) (by unfold k_ls; omega) (by unfold k_ls; omega)
