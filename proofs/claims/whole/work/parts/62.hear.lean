/-! Hearing a frame, on both sides (printed by wip/gen/rel3.py) -/
def c_hr (t c : Nat) (gd : Bool) (b : Int32) (g : im_M) : im_M := bif gd then im_w g (30 + 2 * t) c b else c_rec (im_w (im_w g (30 + 2 * t) c 7) 0 7 ((g 0 7) + (1 : Int32))) 5 (Int32.ofNat t) (Int32.ofNat c)
def m_hr (t c : Nat) (gd : Bool) (b : Int32) (u : im_M) : im_M := bif gd then im_w (im_w u 51 (4 * t + c) 1) 50 (4 * t + c) (b &&& 7) else m_note (im_w (im_w (im_w u 51 (4 * t + c) 0) 50 (4 * t + c) 7) 37 27 ((u 37 27) + (1 : Int32))) 5 (Int32.ofNat t) (Int32.ofNat c)
theorem is_i4 (t c : Nat) : ((4 : Int32) * Int32.ofNat t) + Int32.ofNat c = Int32.ofNat (4 * t + c) := by
  rw [Int32.ofNat_add, Int32.ofNat_mul]
  rfl
theorem nar_1 : vp_nar .boolean (1 : Int32) = 1 := by decide
theorem nar_0 : vp_nar .boolean (0 : Int32) = 0 := by decide
theorem h_ne1 : Op.ifCond.holds .ne (1 : Int32) = true := rfl
theorem h_ne0 : Op.ifCond.holds .ne (0 : Int32) = false := rfl
theorem h_eq1 : Op.ifCond.holds .eq (1 : Int32) = false := rfl
theorem h_eq0 : Op.ifCond.holds .eq (0 : Int32) = true := rfl
theorem k_ck0 : k_ck 0 0 = 0 := by decide +kernel
theorem e96_2 {u : im_M} {t c e : Nat} (ht : t < 4) (hc : c < 4) (he : e < 2 ^ 31) (hu : u 37 22 = Int32.ofNat e) (y3 v : Int32) :
    x96_r37_2 u (Int32.ofNat t) (Int32.ofNat c) (Int32.ofNat (4 * t + c)) y3 v (Int32.ofNat (4 * t + c)) = bif Op.ifCond.holds .ne (u 51 (4 * t + c)) then some (0, im_w u 50 (4 * t + c) v) else some (0, m_note (im_w (im_w u 50 (4 * t + c) v) 37 27 ((u 37 27) + (1 : Int32))) 5 (Int32.ofNat t) (Int32.ofNat c)) := by
  have h22 : im_w (im_w u 50 (4 * t + c) v) 37 27 ((u 37 27) + (1 : Int32)) 37 22 = Int32.ofNat e := hu
  unfold x96_r37_2 x96_r37_3
  rw [iv_in_t (by omega) (by omega), Int32.toNatClampNeg_ofNat_of_lt (by omega), x94_eq he h22]
  simp only [cond_true, Option.bind_some]
theorem ob {α β γ : Type} {x : Option (α × β)} {v : α} {g : β} {f : α × β → Option γ} (h : x = some (v, g)) : Option.bind x f = f (v, g) := by
  subst h
  rfl
theorem cbt {α : Type} {b : Bool} {x y : α} (h : b = true) : (bif b then x else y) = x := by
  subst h
  rfl
theorem cbf {α : Type} {b : Bool} {x y : α} (h : b = false) : (bif b then x else y) = y := by
  subst h
  rfl
theorem cg3 {α β γ δ : Type} {f : α → β → γ → δ} {a a' : α} {b b' : β} {c c' : γ} (h1 : a = a') (h2 : b = b') (h3 : c = c') : f a b c = f a' b' c' := by
  subst h1 h2 h3
  rfl
theorem e96_1 {u : im_M} {t c e n : Nat} (ht : t < 4) (hc : c < 4) (he : e < 2 ^ 31) (hu : u 37 22 = Int32.ofNat e) (h2 : u 37 2 = Int32.ofNat (n + 1)) (hn : n < 1000) {b : Int32} (k2 : u 46 (4 * t + c) = b) (hb0 : n = 0 → b = 0) (y3 : Int32) (gd : Bool) (hg : n = 0 → gd = true) :
    x96_r37_1 u (Int32.ofNat t) (Int32.ofNat c) (Int32.ofNat (4 * t + c)) y3 (bi gd) (Int32.ofNat (4 * t + c)) = some (0, m_hr t c gd b u) := by
  have i1 := iv_in_t (k := 4 * t + c) (n := 16) (by omega) (by omega)
  have t1 := Int32.toNatClampNeg_ofNat_of_lt (n := 4 * t + c) (by omega)
  have en : Op.if_icmp.holds .ne (u 37 2) (1 : Int32) = !(Nat.beq (n + 1) 1) := by
    rw [h2]
    exact is_ne (b := 1) (by omega) (by decide)
  have nb : vp_nar .boolean (bi gd) = bi gd := by cases gd <;> decide
  have a1 : ∀ v : Int32, im_w u 51 (4 * t + c) v 37 22 = Int32.ofNat e := fun v => hu
  have q : ∀ v : Int32, x96_r37_2 (im_w u 51 (4 * t + c) (bi gd)) (Int32.ofNat t) (Int32.ofNat c) (Int32.ofNat (4 * t + c)) y3 v (Int32.ofNat (4 * t + c)) = bif gd then some (0, im_w (im_w u 51 (4 * t + c) 1) 50 (4 * t + c) v) else some (0, m_note (im_w (im_w (im_w u 51 (4 * t + c) 0) 50 (4 * t + c) v) 37 27 ((u 37 27) + (1 : Int32))) 5 (Int32.ofNat t) (Int32.ofNat c)) := fun v => by
    refine (e96_2 ht hc he (a1 _) y3 v).trans ?_
    rw [im_w_s, bi_ne]
    cases gd
    · exact (cbf rfl).trans (cbf rfl).symm
    · exact (cbt rfl).trans (cbt rfl).symm
  unfold x96_r37_1
  refine (cbt i1).trans ?_
  rw [nb, t1, upd_s, bi_eq, k2]
  cases n with
  | zero =>
    refine (cbf (en.trans rfl)).trans ?_
    refine (q 0).trans ?_
    have hgd := hg rfl
    have hb1 := hb0 rfl
    rw [hgd, hb1]
    refine (cbt rfl).trans ?_
    unfold m_hr
    rw [cbt rfl]
    rfl
  | succ n =>
    refine (cbt (en.trans rfl)).trans ?_
    refine (cbt i1).trans ?_
    unfold m_hr
    cases gd
    · refine (cbt rfl).trans ?_
      refine (q 7).trans ?_
      rw [cbf rfl, cbf rfl]
    · refine (cbf rfl).trans ?_
      refine (q (b &&& 7)).trans ?_
      rw [cbt rfl, cbt rfl]
theorem x96_eq {u : im_M} {t c n e h b r : Nat} (ht : t < 4) (hc : c < 4) (hn : n < 1000) (he : e < 2 ^ 31) (hu : u 37 22 = Int32.ofNat e) (h2 : u 37 2 = Int32.ofNat (n + 1)) (hh : h < 256) (hb : b < 256) (hr : r < 256)
    (k1 : u 45 (4 * t + c) = Int32.ofNat h) (k2 : u 46 (4 * t + c) = Int32.ofNat b) (k3 : u 47 (4 * t + c) = Int32.ofNat r) (h0 : n = 0 → h = 0 ∧ b = 0 ∧ r = 0) :
    x96_r37 u (Int32.ofNat t) (Int32.ofNat c) = some (0, m_hr t c (k_gd n h b r) (Int32.ofNat b) u) := by
  have i1 := iv_in_t (k := 4 * t + c) (n := 16) (by omega) (by omega)
  have t1 := Int32.toNatClampNeg_ofNat_of_lt (n := 4 * t + c) (by omega)
  have hm : n % 256 < 256 := Nat.mod_lt _ (by decide)
  have hb0 : n = 0 → Int32.ofNat b = 0 := fun hz => by rw [(h0 hz).2.1]; rfl
  have hg0 : n = 0 → k_gd n h b r = true := fun hz => by
    obtain ⟨z1, z2, z3⟩ := h0 hz
    subst hz z1 z2 z3
    unfold k_gd
    rw [show (0 : Nat) % 256 = 0 from rfl, k_ck0]
    rfl
  have ee : Op.if_icmp.holds .eq (u 37 2) (1 : Int32) = Nat.beq (n + 1) 1 := by
    rw [h2, nbeq]
    show (Int32.ofNat (n + 1) == Int32.ofNat 1) = _
    by_cases hz : n + 1 = 1
    · rw [hz]
      rfl
    · have hq : Int32.ofNat (n + 1) ≠ Int32.ofNat 1 := fun h4 => hz (on_inj (by omega) (by decide) h4)
      rw [decide_eq_false hz]
      exact beq_eq_false_iff_ne.mpr hq
  have last := e96_1 ht hc he hu h2 hn k2 hb0
  unfold x96_r37
  rw [is_i4]
  refine (cbt i1).trans ?_
  rw [t1, k1, k2]
  refine (ob (x97_eq u hh hb)).trans ?_
  cases hz : Nat.beq (n + 1) 1
  · have hnz : ¬ n = 0 := fun hz2 => by
      rw [hz2] at hz
      cases hz
    refine (cbf (ee.trans hz)).trans ?_
    have c1 : Op.if_icmp.holds .ne (u 45 (4 * t + c)) (((u 37 2) - (1 : Int32)) &&& (255 : Int32)) = !(Nat.beq h (n % 256)) := by
      rw [k1, h2, is_s1, on_255]
      exact is_ne (by omega) (by omega)
    have c2 : Op.if_icmp.holds .ne (u 47 (4 * t + c)) (Int32.ofNat (k_ck h b)) = !(Nat.beq r (k_ck h b)) := by
      rw [k3]
      exact is_ne (by omega) (by have := k_ck_lt hh hb; omega)
    cases c3 : Nat.beq h (n % 256)
    · refine (cbt (c1.trans (by rw [c3]; rfl))).trans ?_
      have gz : k_gd n h b r = false := by
        unfold k_gd
        rw [c3]
        rfl
      rw [gz]
      exact last _ false (fun hz3 => absurd hz3 hnz)
    · refine (cbf (c1.trans (by rw [c3]; rfl))).trans ?_
      have hhn : h = n % 256 := Nat.eq_of_beq_eq_true c3
      cases c4 : Nat.beq r (k_ck h b)
      · refine (cbt (c2.trans (by rw [c4]; rfl))).trans ?_
        have gz : k_gd n h b r = false := by
          unfold k_gd
          rw [← hhn, c4]
          simp
        rw [gz]
        exact last _ false (fun hz3 => absurd hz3 hnz)
      · refine (cbf (c2.trans (by rw [c4]; rfl))).trans ?_
        have gz : k_gd n h b r = true := by
          unfold k_gd
          rw [← hhn, c4, Nat.beq_refl]
          rfl
        rw [gz]
        exact last _ true (fun _ => rfl)
  · have hn0 : n = 0 := by
      have := Nat.eq_of_beq_eq_true hz
      omega
    refine (cbt (ee.trans hz)).trans ?_
    rw [hg0 hn0]
    exact last _ true (fun _ => rfl)

set_option maxRecDepth 100000 in
set_option maxHeartbeats 4000000 in
theorem e24_0_0 (g : im_M) {n h b r : Nat} (hh : h < 256) (hb : b < 256) (hr : r < 256) (hg : g 6 0 = Int32.ofNat (h + 256 * b + 65536 * r)) (h1 : (g 1 1) - (1 : Int32) = Int32.ofNat n) : x24_r0_r29 g = x24_r0_r29_1 (c_hr 0 0 (k_gd n h b r) (Int32.ofNat b) g) (Int32.ofNat n) (Int32.ofNat (h + 256 * b + 65536 * r)) := by
  unfold x24_r0_r29
  rw [h1]
  have e : x25_r5_0_0 g = some (Int32.ofNat (h + 256 * b + 65536 * r), g) := by
    show some (g 6 0, g) = _
    rw [hg]
  refine (ob e).trans ?_
  refine (ob (x26_eq (n := n) g hh hb hr)).trans ?_
  cases hq : k_gd n h b r
  · refine (cbt rfl).trans ?_
    refine (ob (x15_eq _ _ _ _)).trans ?_
    exact cg3 rfl rfl rfl
  · refine (cbf rfl).trans ?_
    refine (ob (x27_eq g hh hb hr)).trans ?_
    exact cg3 rfl rfl rfl
set_option maxRecDepth 100000 in
set_option maxHeartbeats 4000000 in
theorem e24_0_1 (g : im_M) {n h b r : Nat} (hh : h < 256) (hb : b < 256) (hr : r < 256) (hg : g 6 4 = Int32.ofNat (h + 256 * b + 65536 * r)) (y : Int32) : x24_r0_r29_1 g (Int32.ofNat n) y = x24_r0_r29_2 (c_hr 0 1 (k_gd n h b r) (Int32.ofNat b) g) (Int32.ofNat n) (Int32.ofNat (h + 256 * b + 65536 * r)) := by
  unfold x24_r0_r29_1
  have e : x25_r5_1_0 g = some (Int32.ofNat (h + 256 * b + 65536 * r), g) := by
    show some (g 6 4, g) = _
    rw [hg]
  refine (ob e).trans ?_
  refine (ob (x26_eq (n := n) g hh hb hr)).trans ?_
  cases hq : k_gd n h b r
  · refine (cbt rfl).trans ?_
    refine (ob (x15_eq _ _ _ _)).trans ?_
    exact cg3 rfl rfl rfl
  · refine (cbf rfl).trans ?_
    refine (ob (x27_eq g hh hb hr)).trans ?_
    exact cg3 rfl rfl rfl
set_option maxRecDepth 100000 in
set_option maxHeartbeats 4000000 in
theorem e24_0_2 (g : im_M) {n h b r : Nat} (hh : h < 256) (hb : b < 256) (hr : r < 256) (hg : g 6 8 = Int32.ofNat (h + 256 * b + 65536 * r)) (y : Int32) : x24_r0_r29_2 g (Int32.ofNat n) y = x24_r0_r29_3 (c_hr 0 2 (k_gd n h b r) (Int32.ofNat b) g) (Int32.ofNat n) (Int32.ofNat (h + 256 * b + 65536 * r)) := by
  unfold x24_r0_r29_2
  have e : x25_r5_2_0 g = some (Int32.ofNat (h + 256 * b + 65536 * r), g) := by
    show some (g 6 8, g) = _
    rw [hg]
  refine (ob e).trans ?_
  refine (ob (x26_eq (n := n) g hh hb hr)).trans ?_
  cases hq : k_gd n h b r
  · refine (cbt rfl).trans ?_
    refine (ob (x15_eq _ _ _ _)).trans ?_
    exact cg3 rfl rfl rfl
  · refine (cbf rfl).trans ?_
    refine (ob (x27_eq g hh hb hr)).trans ?_
    exact cg3 rfl rfl rfl
set_option maxRecDepth 100000 in
set_option maxHeartbeats 4000000 in
theorem e24_0_3 (g : im_M) {n h b r : Nat} (hh : h < 256) (hb : b < 256) (hr : r < 256) (hg : g 6 12 = Int32.ofNat (h + 256 * b + 65536 * r)) (y : Int32) : x24_r0_r29_3 g (Int32.ofNat n) y = x24_r0_r29_4 (c_hr 0 3 (k_gd n h b r) (Int32.ofNat b) g) (Int32.ofNat n) (Int32.ofNat (h + 256 * b + 65536 * r)) := by
  unfold x24_r0_r29_3
  have e : x25_r5_3_0 g = some (Int32.ofNat (h + 256 * b + 65536 * r), g) := by
    show some (g 6 12, g) = _
    rw [hg]
  refine (ob e).trans ?_
  refine (ob (x26_eq (n := n) g hh hb hr)).trans ?_
  cases hq : k_gd n h b r
  · refine (cbt rfl).trans ?_
    refine (ob (x15_eq _ _ _ _)).trans ?_
    exact cg3 rfl rfl rfl
  · refine (cbf rfl).trans ?_
    refine (ob (x27_eq g hh hb hr)).trans ?_
    exact cg3 rfl rfl rfl
set_option maxRecDepth 100000 in
set_option maxHeartbeats 4000000 in
theorem e24_1_0 (g : im_M) {n h b r : Nat} (hh : h < 256) (hb : b < 256) (hr : r < 256) (hg : g 6 1 = Int32.ofNat (h + 256 * b + 65536 * r)) (h1 : (g 1 1) - (1 : Int32) = Int32.ofNat n) : x24_r0_r31 g = x24_r0_r31_1 (c_hr 1 0 (k_gd n h b r) (Int32.ofNat b) g) (Int32.ofNat n) (Int32.ofNat (h + 256 * b + 65536 * r)) := by
  unfold x24_r0_r31
  rw [h1]
  have e : x25_r5_0_1 g = some (Int32.ofNat (h + 256 * b + 65536 * r), g) := by
    show some (g 6 1, g) = _
    rw [hg]
  refine (ob e).trans ?_
  refine (ob (x26_eq (n := n) g hh hb hr)).trans ?_
  cases hq : k_gd n h b r
  · refine (cbt rfl).trans ?_
    refine (ob (x15_eq _ _ _ _)).trans ?_
    exact cg3 rfl rfl rfl
  · refine (cbf rfl).trans ?_
    refine (ob (x27_eq g hh hb hr)).trans ?_
    exact cg3 rfl rfl rfl
set_option maxRecDepth 100000 in
set_option maxHeartbeats 4000000 in
theorem e24_1_1 (g : im_M) {n h b r : Nat} (hh : h < 256) (hb : b < 256) (hr : r < 256) (hg : g 6 5 = Int32.ofNat (h + 256 * b + 65536 * r)) (y : Int32) : x24_r0_r31_1 g (Int32.ofNat n) y = x24_r0_r31_2 (c_hr 1 1 (k_gd n h b r) (Int32.ofNat b) g) (Int32.ofNat n) (Int32.ofNat (h + 256 * b + 65536 * r)) := by
  unfold x24_r0_r31_1
  have e : x25_r5_1_1 g = some (Int32.ofNat (h + 256 * b + 65536 * r), g) := by
    show some (g 6 5, g) = _
    rw [hg]
  refine (ob e).trans ?_
  refine (ob (x26_eq (n := n) g hh hb hr)).trans ?_
  cases hq : k_gd n h b r
  · refine (cbt rfl).trans ?_
    refine (ob (x15_eq _ _ _ _)).trans ?_
    exact cg3 rfl rfl rfl
  · refine (cbf rfl).trans ?_
    refine (ob (x27_eq g hh hb hr)).trans ?_
    exact cg3 rfl rfl rfl
set_option maxRecDepth 100000 in
set_option maxHeartbeats 4000000 in
theorem e24_1_2 (g : im_M) {n h b r : Nat} (hh : h < 256) (hb : b < 256) (hr : r < 256) (hg : g 6 9 = Int32.ofNat (h + 256 * b + 65536 * r)) (y : Int32) : x24_r0_r31_2 g (Int32.ofNat n) y = x24_r0_r31_3 (c_hr 1 2 (k_gd n h b r) (Int32.ofNat b) g) (Int32.ofNat n) (Int32.ofNat (h + 256 * b + 65536 * r)) := by
  unfold x24_r0_r31_2
  have e : x25_r5_2_1 g = some (Int32.ofNat (h + 256 * b + 65536 * r), g) := by
    show some (g 6 9, g) = _
    rw [hg]
  refine (ob e).trans ?_
  refine (ob (x26_eq (n := n) g hh hb hr)).trans ?_
  cases hq : k_gd n h b r
  · refine (cbt rfl).trans ?_
    refine (ob (x15_eq _ _ _ _)).trans ?_
    exact cg3 rfl rfl rfl
  · refine (cbf rfl).trans ?_
    refine (ob (x27_eq g hh hb hr)).trans ?_
    exact cg3 rfl rfl rfl
set_option maxRecDepth 100000 in
set_option maxHeartbeats 4000000 in
theorem e24_1_3 (g : im_M) {n h b r : Nat} (hh : h < 256) (hb : b < 256) (hr : r < 256) (hg : g 6 13 = Int32.ofNat (h + 256 * b + 65536 * r)) (y : Int32) : x24_r0_r31_3 g (Int32.ofNat n) y = x24_r0_r31_4 (c_hr 1 3 (k_gd n h b r) (Int32.ofNat b) g) (Int32.ofNat n) (Int32.ofNat (h + 256 * b + 65536 * r)) := by
  unfold x24_r0_r31_3
  have e : x25_r5_3_1 g = some (Int32.ofNat (h + 256 * b + 65536 * r), g) := by
    show some (g 6 13, g) = _
    rw [hg]
  refine (ob e).trans ?_
  refine (ob (x26_eq (n := n) g hh hb hr)).trans ?_
  cases hq : k_gd n h b r
  · refine (cbt rfl).trans ?_
    refine (ob (x15_eq _ _ _ _)).trans ?_
    exact cg3 rfl rfl rfl
  · refine (cbf rfl).trans ?_
    refine (ob (x27_eq g hh hb hr)).trans ?_
    exact cg3 rfl rfl rfl
set_option maxRecDepth 100000 in
set_option maxHeartbeats 4000000 in
theorem e24_2_0 (g : im_M) {n h b r : Nat} (hh : h < 256) (hb : b < 256) (hr : r < 256) (hg : g 6 2 = Int32.ofNat (h + 256 * b + 65536 * r)) (h1 : (g 1 1) - (1 : Int32) = Int32.ofNat n) : x24_r0_r33 g = x24_r0_r33_1 (c_hr 2 0 (k_gd n h b r) (Int32.ofNat b) g) (Int32.ofNat n) (Int32.ofNat (h + 256 * b + 65536 * r)) := by
  unfold x24_r0_r33
  rw [h1]
  have e : x25_r5_0_2 g = some (Int32.ofNat (h + 256 * b + 65536 * r), g) := by
    show some (g 6 2, g) = _
    rw [hg]
  refine (ob e).trans ?_
  refine (ob (x26_eq (n := n) g hh hb hr)).trans ?_
  cases hq : k_gd n h b r
  · refine (cbt rfl).trans ?_
    refine (ob (x15_eq _ _ _ _)).trans ?_
    exact cg3 rfl rfl rfl
  · refine (cbf rfl).trans ?_
    refine (ob (x27_eq g hh hb hr)).trans ?_
    exact cg3 rfl rfl rfl
set_option maxRecDepth 100000 in
set_option maxHeartbeats 4000000 in
theorem e24_2_1 (g : im_M) {n h b r : Nat} (hh : h < 256) (hb : b < 256) (hr : r < 256) (hg : g 6 6 = Int32.ofNat (h + 256 * b + 65536 * r)) (y : Int32) : x24_r0_r33_1 g (Int32.ofNat n) y = x24_r0_r33_2 (c_hr 2 1 (k_gd n h b r) (Int32.ofNat b) g) (Int32.ofNat n) (Int32.ofNat (h + 256 * b + 65536 * r)) := by
  unfold x24_r0_r33_1
  have e : x25_r5_1_2 g = some (Int32.ofNat (h + 256 * b + 65536 * r), g) := by
    show some (g 6 6, g) = _
    rw [hg]
  refine (ob e).trans ?_
  refine (ob (x26_eq (n := n) g hh hb hr)).trans ?_
  cases hq : k_gd n h b r
  · refine (cbt rfl).trans ?_
    refine (ob (x15_eq _ _ _ _)).trans ?_
    exact cg3 rfl rfl rfl
  · refine (cbf rfl).trans ?_
    refine (ob (x27_eq g hh hb hr)).trans ?_
    exact cg3 rfl rfl rfl
set_option maxRecDepth 100000 in
set_option maxHeartbeats 4000000 in
theorem e24_2_2 (g : im_M) {n h b r : Nat} (hh : h < 256) (hb : b < 256) (hr : r < 256) (hg : g 6 10 = Int32.ofNat (h + 256 * b + 65536 * r)) (y : Int32) : x24_r0_r33_2 g (Int32.ofNat n) y = x24_r0_r33_3 (c_hr 2 2 (k_gd n h b r) (Int32.ofNat b) g) (Int32.ofNat n) (Int32.ofNat (h + 256 * b + 65536 * r)) := by
  unfold x24_r0_r33_2
  have e : x25_r5_2_2 g = some (Int32.ofNat (h + 256 * b + 65536 * r), g) := by
    show some (g 6 10, g) = _
    rw [hg]
  refine (ob e).trans ?_
  refine (ob (x26_eq (n := n) g hh hb hr)).trans ?_
  cases hq : k_gd n h b r
  · refine (cbt rfl).trans ?_
    refine (ob (x15_eq _ _ _ _)).trans ?_
    exact cg3 rfl rfl rfl
  · refine (cbf rfl).trans ?_
    refine (ob (x27_eq g hh hb hr)).trans ?_
    exact cg3 rfl rfl rfl
set_option maxRecDepth 100000 in
set_option maxHeartbeats 4000000 in
theorem e24_2_3 (g : im_M) {n h b r : Nat} (hh : h < 256) (hb : b < 256) (hr : r < 256) (hg : g 6 14 = Int32.ofNat (h + 256 * b + 65536 * r)) (y : Int32) : x24_r0_r33_3 g (Int32.ofNat n) y = x24_r0_r33_4 (c_hr 2 3 (k_gd n h b r) (Int32.ofNat b) g) (Int32.ofNat n) (Int32.ofNat (h + 256 * b + 65536 * r)) := by
  unfold x24_r0_r33_3
  have e : x25_r5_3_2 g = some (Int32.ofNat (h + 256 * b + 65536 * r), g) := by
    show some (g 6 14, g) = _
    rw [hg]
  refine (ob e).trans ?_
  refine (ob (x26_eq (n := n) g hh hb hr)).trans ?_
  cases hq : k_gd n h b r
  · refine (cbt rfl).trans ?_
    refine (ob (x15_eq _ _ _ _)).trans ?_
    exact cg3 rfl rfl rfl
  · refine (cbf rfl).trans ?_
    refine (ob (x27_eq g hh hb hr)).trans ?_
    exact cg3 rfl rfl rfl
set_option maxRecDepth 100000 in
set_option maxHeartbeats 4000000 in
theorem e24_3_0 (g : im_M) {n h b r : Nat} (hh : h < 256) (hb : b < 256) (hr : r < 256) (hg : g 6 3 = Int32.ofNat (h + 256 * b + 65536 * r)) (h1 : (g 1 1) - (1 : Int32) = Int32.ofNat n) : x24_r0_r35 g = x24_r0_r35_1 (c_hr 3 0 (k_gd n h b r) (Int32.ofNat b) g) (Int32.ofNat n) (Int32.ofNat (h + 256 * b + 65536 * r)) := by
  unfold x24_r0_r35
  rw [h1]
  have e : x25_r5_0_3 g = some (Int32.ofNat (h + 256 * b + 65536 * r), g) := by
    show some (g 6 3, g) = _
    rw [hg]
  refine (ob e).trans ?_
  refine (ob (x26_eq (n := n) g hh hb hr)).trans ?_
  cases hq : k_gd n h b r
  · refine (cbt rfl).trans ?_
    refine (ob (x15_eq _ _ _ _)).trans ?_
    exact cg3 rfl rfl rfl
  · refine (cbf rfl).trans ?_
    refine (ob (x27_eq g hh hb hr)).trans ?_
    exact cg3 rfl rfl rfl
set_option maxRecDepth 100000 in
set_option maxHeartbeats 4000000 in
theorem e24_3_1 (g : im_M) {n h b r : Nat} (hh : h < 256) (hb : b < 256) (hr : r < 256) (hg : g 6 7 = Int32.ofNat (h + 256 * b + 65536 * r)) (y : Int32) : x24_r0_r35_1 g (Int32.ofNat n) y = x24_r0_r35_2 (c_hr 3 1 (k_gd n h b r) (Int32.ofNat b) g) (Int32.ofNat n) (Int32.ofNat (h + 256 * b + 65536 * r)) := by
  unfold x24_r0_r35_1
  have e : x25_r5_1_3 g = some (Int32.ofNat (h + 256 * b + 65536 * r), g) := by
    show some (g 6 7, g) = _
    rw [hg]
  refine (ob e).trans ?_
  refine (ob (x26_eq (n := n) g hh hb hr)).trans ?_
  cases hq : k_gd n h b r
  · refine (cbt rfl).trans ?_
    refine (ob (x15_eq _ _ _ _)).trans ?_
    exact cg3 rfl rfl rfl
  · refine (cbf rfl).trans ?_
    refine (ob (x27_eq g hh hb hr)).trans ?_
    exact cg3 rfl rfl rfl
set_option maxRecDepth 100000 in
set_option maxHeartbeats 4000000 in
theorem e24_3_2 (g : im_M) {n h b r : Nat} (hh : h < 256) (hb : b < 256) (hr : r < 256) (hg : g 6 11 = Int32.ofNat (h + 256 * b + 65536 * r)) (y : Int32) : x24_r0_r35_2 g (Int32.ofNat n) y = x24_r0_r35_3 (c_hr 3 2 (k_gd n h b r) (Int32.ofNat b) g) (Int32.ofNat n) (Int32.ofNat (h + 256 * b + 65536 * r)) := by
  unfold x24_r0_r35_2
  have e : x25_r5_2_3 g = some (Int32.ofNat (h + 256 * b + 65536 * r), g) := by
    show some (g 6 11, g) = _
    rw [hg]
  refine (ob e).trans ?_
  refine (ob (x26_eq (n := n) g hh hb hr)).trans ?_
  cases hq : k_gd n h b r
  · refine (cbt rfl).trans ?_
    refine (ob (x15_eq _ _ _ _)).trans ?_
    exact cg3 rfl rfl rfl
  · refine (cbf rfl).trans ?_
    refine (ob (x27_eq g hh hb hr)).trans ?_
    exact cg3 rfl rfl rfl
set_option maxRecDepth 100000 in
set_option maxHeartbeats 4000000 in
theorem e24_3_3 (g : im_M) {n h b r : Nat} (hh : h < 256) (hb : b < 256) (hr : r < 256) (hg : g 6 15 = Int32.ofNat (h + 256 * b + 65536 * r)) (y : Int32) : x24_r0_r35_3 g (Int32.ofNat n) y = x24_r0_r35_4 (c_hr 3 3 (k_gd n h b r) (Int32.ofNat b) g) (Int32.ofNat n) (Int32.ofNat (h + 256 * b + 65536 * r)) := by
  unfold x24_r0_r35_3
  have e : x25_r5_3_3 g = some (Int32.ofNat (h + 256 * b + 65536 * r), g) := by
    show some (g 6 15, g) = _
    rw [hg]
  refine (ob e).trans ?_
  refine (ob (x26_eq (n := n) g hh hb hr)).trans ?_
  cases hq : k_gd n h b r
  · refine (cbt rfl).trans ?_
    refine (ob (x15_eq _ _ _ _)).trans ?_
    exact cg3 rfl rfl rfl
  · refine (cbf rfl).trans ?_
    refine (ob (x27_eq g hh hb hr)).trans ?_
    exact cg3 rfl rfl rfl
