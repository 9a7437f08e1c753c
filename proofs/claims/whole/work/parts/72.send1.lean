/-! What a channel sends, and the test that is under way. -/
def iX (g u : im_M) : Prop := (g 8 0 = (-1 : Int32) ∧ u 37 20 = (-1 : Int32)) ∨ ∃ c p : Nat, c < 4 ∧ p < 3 ∧ g 8 0 = Int32.ofNat c ∧ g 8 1 = Int32.ofNat p ∧ u 37 20 = Int32.ofNat (3 * c + p) ∧ ∃ b : Bool, g 8 2 = bi b ∧ u 37 21 = bi b
theorem iX_fr {g u g' u' : im_M} (h : iX g u) (a1 : g' 8 = g 8) (b1 : u' 37 20 = u 37 20) (b2 : u' 37 21 = u 37 21) : iX g' u' := by
  unfold iX
  rw [a1, b1, b2]
  exact h
theorem q_div {c p : Nat} (hc : c < 4) (hp : p < 3) : Int32.ofNat (3 * c + p) / (3 : Int32) = Int32.ofNat c := by
  have q := Int32.ofNat_div (a := 3 * c + p) (b := 3) (by omega) (by decide)
  have e1 : (3 * c + p) / 3 = c := by omega
  rw [e1] at q
  exact q.symm
theorem q_mod {c p : Nat} (hc : c < 4) (hp : p < 3) : Int32.ofNat (3 * c + p) - Int32.ofNat c * (3 : Int32) = Int32.ofNat p := by
  have e1 : Int32.ofNat c * (3 : Int32) = Int32.ofNat (3 * c) := by
    rw [Nat.mul_comm]
    exact (Int32.ofNat_mul c 3).symm
  rw [e1, is_sub (by omega)]
  have e2 : 3 * c + p - 3 * c = p := by omega
  rw [e2]
theorem sh_8 {p : Nat} (hp : p < 3) : ((8 : Int32) <<< (Int32.ofNat p &&& 31)) = ((1 : Int32) <<< (Int32.ofNat (3 + p) &&& 31)) ∧ ((1 : Int32) <<< (Int32.ofNat (3 + p) &&& 31)) = Int32.ofNat (8 * 2 ^ p) := by
  revert p
  decide +kernel
theorem nn_lt {m : Nat} (h : m < 2 ^ 31) : Op.ifCond.holds .lt (Int32.ofNat m) = false := by
  have h1 := nn_n h
  show decide (Int32.ofNat m < 0) = false
  exact decide_eq_false h1
def m_tb (c : Nat) (u : im_M) : Int32 := bif Op.ifCond.holds .lt (u 37 20) then (0 : Int32) else (bif Op.if_icmp.holds .ne ((u 37 20) / (3 : Int32)) (Int32.ofNat c) then (0 : Int32) else ((8 : Int32) <<< (((u 37 20) - (u 37 20) / (3 : Int32) * (3 : Int32)) &&& 31)))
theorem tb_eq {g u : im_M} {c : Nat} (hc : c < 4) (hX : iX g u) : ∃ τ : Int32, x35_r8 g (Int32.ofNat c) = some (τ, g) ∧ m_tb c u = τ ∧ (τ = 0 ∨ τ = 8 ∨ τ = 16 ∨ τ = 32) := by
  rw [x35_eq]
  rcases hX with ⟨h1, h2⟩ | ⟨c', p, hc', hp, h1, h2, h3, -⟩
  · refine ⟨0, ?_, ?_, Or.inl rfl⟩
    · rw [h1]
      have e : Op.if_icmp.holds .ne (-1 : Int32) (Int32.ofNat c) = true := by
        have q := ne_m1 (m := c) (by omega)
        have q2 : (Int32.ofNat c != (-1 : Int32)) = true := q
        show ((-1 : Int32) != Int32.ofNat c) = true
        rw [bne_comm]
        exact q2
      rw [e]
      rfl
    · unfold m_tb
      rw [h2]
      rfl
  · have n1 := is_ne (a := c') (b := c) (by omega) (by omega)
    unfold m_tb
    rw [h1, h2, h3, q_div hc' hp, q_mod hc' hp, nn_lt (by omega), n1, is_3p, (sh_8 hp).1]
    cases hb' : Nat.beq c' c
    · exact ⟨0, rfl, rfl, Or.inl rfl⟩
    · refine ⟨_, rfl, rfl, ?_⟩
      show (1 : Int32) <<< (Int32.ofNat (3 + p) &&& 31) = 0 ∨ _
      rw [(sh_8 hp).2]
      have h4 : p = 0 ∨ p = 1 ∨ p = 2 := by omega
      rcases h4 with h4 | h4 | h4 <;> subst h4
      · exact Or.inr (Or.inl rfl)
      · exact Or.inr (Or.inr (Or.inl rfl))
      · exact Or.inr (Or.inr (Or.inr rfl))
theorem msg_n (a b c d e f : Bool) {τ : Int32} (h : τ = 0 ∨ τ = 8 ∨ τ = 16 ∨ τ = 32) : ∃ v : Nat, v < 256 ∧ ((B3 a b c ||| B3 d e f) ||| τ) = Int32.ofNat v ∧ ((B3 d e f ||| B3 a b c) ||| τ) = Int32.ofNat v := by
  have t : ∀ a b c d e f : Bool, ∀ k : Nat, k < 4 → ∃ v : Nat, v < 256 ∧ ((B3 a b c ||| B3 d e f) ||| ([0, 8, 16, 32] : List Int32).getD k 0) = Int32.ofNat v ∧ ((B3 d e f ||| B3 a b c) ||| ([0, 8, 16, 32] : List Int32).getD k 0) = Int32.ofNat v := by
    decide +kernel
  rcases h with h | h | h | h <;> subst h
  · exact t a b c d e f 0 (by decide)
  · exact t a b c d e f 1 (by decide)
  · exact t a b c d e f 2 (by decide)
  · exact t a b c d e f 3 (by decide)
theorem cb3 {α : Type} (f : Int32 → α) (A B : Bool) (w : Int32) : (bif A then f 0 else (bif B then f 0 else f w)) = f (bif A then 0 else (bif B then 0 else w)) := by
  cases A <;> cases B <;> rfl
theorem sn_st {n d E c : Nat} {g u : im_M} (hc : c < 4) (hd : 1 ≤ d) (hd2 : d ≤ 8) (hn : n < 519) (hu0 : u 37 0 = Int32.ofNat d) (hJ : iJ (n + 1) E g u) (hC : iC (n + 1) d g u c) (hX : iX g u) :
    ∃ (v : Nat) (τ x y : Int32), v < 256 ∧ x35_r8 g (Int32.ofNat c) = some (τ, g) ∧ x28 g (g 1 1) (((g (9 + 5 * c) 6) ||| (g (9 + 5 * c) 7)) ||| τ) = some (Int32.ofNat ((n + 1) % 256 + 256 * v + 65536 * k_ck ((n + 1) % 256) v), g) ∧
      x100_r37 u (Int32.ofNat c) = some (x, u) ∧ x101_r37 u (Int32.ofNat c) = some (y, u) ∧ m_tb c u = τ ∧ ((x ||| y) ||| τ) = Int32.ofNat v := by
  obtain ⟨w, s, f, hL, hw, hs, -, -⟩ := hC
  obtain ⟨τ, t1, t2, t3⟩ := tb_eq hc hX
  obtain ⟨v, hv, v1, v2⟩ := msg_n (w 0) (w 1) (w 2) (s 0) (s 1) (s 2) t3
  have sw : ∀ p : Nat, p < 3 → hb (u 42 (n + 1)) (3 * c + p) = w p ∧ scan u (3 * c + p) d (n + 1) 0 = s p := fun p hp => by
    obtain ⟨_, _, _, _, -, -, -, -, -, -, -, -, -, -, -, k1, k2, -⟩ := hL p hp
    exact ⟨k1, k2⟩
  have w0 : hb (u 42 (n + 1)) (3 * c) = w 0 := (sw 0 (by decide)).1
  have s0 : scan u (3 * c) d (n + 1) 0 = s 0 := (sw 0 (by decide)).2
  refine ⟨v, τ, _, _, hv, t1, ?_, x100_eq hd hd2 hu0 (by omega) hJ.2.1 hc, x101_eq (n := n + 1) (by omega) hJ.2.1 hc, t2, ?_⟩
  · rw [hJ.1, hw, hs]
    have e : ((B3f w ||| B3f s) ||| τ) = Int32.ofNat v := v1
    rw [e]
    exact x28_eq g hv
  · rw [w0, s0, (sw 1 (by decide)).1, (sw 1 (by decide)).2, (sw 2 (by decide)).1, (sw 2 (by decide)).2]
    exact v2
