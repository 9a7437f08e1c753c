/-! The relation behind the constructors. -/
theorem deb_eq (d : Int32) : ∃ k : Nat, 1 ≤ k ∧ k ≤ 8 ∧ (if (1 : Int32) < (if d < (8 : Int32) then d else (8 : Int32)) then (if d < (8 : Int32) then d else (8 : Int32)) else (1 : Int32)) = Int32.ofNat k ∧ (bif Op.if_icmp.holds .ge d (1 : Int32) then (bif Op.if_icmp.holds .le d (8 : Int32) then d else (8 : Int32)) else (1 : Int32)) = Int32.ofNat k := by
  have z1 : (1 : Int32).toInt = 1 := rfl
  have z8 : (8 : Int32).toInt = 8 := by decide
  have l8 : (d < 8) ↔ d.toInt < 8 := by rw [Int32.lt_iff_toInt_lt, z8]
  have g1 : ((1 : Int32) ≤ d) ↔ 1 ≤ d.toInt := by rw [Int32.le_iff_toInt_le, z1]
  have e8 : (d ≤ 8) ↔ d.toInt ≤ 8 := by rw [Int32.le_iff_toInt_le, z8]
  have l1 : ((1 : Int32) < d) ↔ 1 < d.toInt := by rw [Int32.lt_iff_toInt_lt, z1]
  have c1 : Op.if_icmp.holds .ge d (1 : Int32) = decide (1 ≤ d.toInt) := decide_eq_decide.mpr g1
  have c2 : Op.if_icmp.holds .le d (8 : Int32) = decide (d.toInt ≤ 8) := decide_eq_decide.mpr e8
  rw [c1, c2]
  by_cases h1 : 1 ≤ d.toInt
  · rw [decide_eq_true h1]
    by_cases h2 : d.toInt < 8
    · have h2' : d < 8 := l8.2 h2
      rw [decide_eq_true (show d.toInt ≤ 8 by omega), if_pos h2']
      refine ⟨d.toInt.toNat, by omega, by omega, ?_, show d = Int32.ofNat d.toInt.toNat from of_toInt (by omega) (by omega)⟩
      by_cases h3 : 1 < d.toInt
      · rw [if_pos (l1.2 h3)]
        exact of_toInt (by omega) (by omega)
      · rw [if_neg (fun h4 => h3 (l1.1 h4))]
        have h5 : d.toInt.toNat = 1 := by omega
        rw [h5]
        rfl
    · have h2' : ¬ d < 8 := fun h4 => h2 (l8.1 h4)
      rw [if_neg h2']
      refine ⟨8, by decide, by decide, by decide, ?_⟩
      by_cases h3 : d.toInt ≤ 8
      · rw [decide_eq_true h3]
        exact of_toInt (show d.toInt = (8 : Nat) by omega) (by decide)
      · rw [decide_eq_false h3]
        rfl
  · rw [decide_eq_false h1]
    have h2' : d < 8 := l8.2 (by omega)
    rw [if_pos h2', if_neg (fun h4 => h1 (by have := l1.1 h4; omega))]
    exact ⟨1, by decide, by decide, rfl, rfl⟩
set_option maxRecDepth 100000 in
set_option maxHeartbeats 4000000 in
theorem iR_0 (d e : Int32) {k : Nat} (hk : 1 ≤ k) (hk2 : k ≤ 8) (h1 : (if (1 : Int32) < (if d < (8 : Int32) then d else (8 : Int32)) then (if d < (8 : Int32) then d else (8 : Int32)) else (1 : Int32)) = Int32.ofNat k) (h2 : e = Int32.ofNat k) : iR 0 (im_g0 d) (im_u0 e) := by
  refine ⟨0, k, Nat.le_refl 0, hk, hk2, h1, h2, ⟨rfl, rfl, ⟨0, Nat.zero_le _, rfl, rfl⟩, fun j hj => ⟨rfl, rfl, rfl, rfl⟩⟩, Or.inl rfl, rfl, rfl, rfl, rfl, Or.inl ⟨rfl, rfl⟩, ?_, ?_, ?_, ?_, ?_⟩
  · intro c hc
    refine ⟨fun _ => false, fun _ => false, fun _ => true, ?_, ?_, ?_, ?_, ?_⟩
    · intro p hp
      have hs : ∀ r : Nat, r < k → scan (im_u0 e) (3 * c + p) k 0 r = (false || decide (k ≤ 0 + r)) := fun r hr => by
        rw [decide_eq_false (by omega)]
        rfl
      have h4 : c = 0 ∨ c = 1 ∨ c = 2 ∨ c = 3 := by omega
      have h5 : p = 0 ∨ p = 1 ∨ p = 2 := by omega
      rcases h4 with h4 | h4 | h4 | h4 <;> subst h4 <;> rcases h5 with h5 | h5 | h5 <;> subst h5
      all_goals first
        | exact ⟨2000, 0, 0, 0, by decide, by decide, Nat.le_refl 0, Nat.le_refl 0, rfl, rfl, rfl, rfl, rfl, rfl, rfl, hb_zero _, rfl, hs⟩
        | exact ⟨2200, 0, 0, 0, by decide, by decide, Nat.le_refl 0, Nat.le_refl 0, rfl, rfl, rfl, rfl, rfl, rfl, rfl, hb_zero _, rfl, hs⟩
        | exact ⟨1500, 0, 0, 0, by decide, by decide, Nat.le_refl 0, Nat.le_refl 0, rfl, rfl, rfl, rfl, rfl, rfl, rfl, hb_zero _, rfl, hs⟩
    · have h4 : c = 0 ∨ c = 1 ∨ c = 2 ∨ c = 3 := by omega
      rcases h4 with h4 | h4 | h4 | h4 <;> subst h4 <;> rfl
    · have h4 : c = 0 ∨ c = 1 ∨ c = 2 ∨ c = 3 := by omega
      rcases h4 with h4 | h4 | h4 | h4 <;> subst h4 <;> rfl
    · have h4 : c = 0 ∨ c = 1 ∨ c = 2 ∨ c = 3 := by omega
      rcases h4 with h4 | h4 | h4 | h4 <;> subst h4 <;> rfl
    · intro p hp
      rw [decide_eq_true rfl]
      rfl
  · intro m q _ _ _
    exact ⟨hb_zero _, hb_zero _, hb_zero _⟩
  · intro t ht
    have h4 : t = 0 ∨ t = 1 ∨ t = 2 ∨ t = 3 := by omega
    rcases h4 with h4 | h4 | h4 | h4 <;> subst h4
    all_goals exact ⟨fun c _ => show (0 : Int32) = 0 &&& 7 from by decide, ⟨fun _ => false, rfl, rfl⟩, 0, by decide, rfl, rfl⟩
  · intro c hc t ht
    exact ⟨0, 0, 0, by decide, by decide, by decide, rfl, rfl, rfl, rfl, fun _ => ⟨rfl, rfl, rfl⟩⟩
  · intro c hc t ht
    have h4 : c = 0 ∨ c = 1 ∨ c = 2 ∨ c = 3 := by omega
    have h5 : t = 0 ∨ t = 1 ∨ t = 2 ∨ t = 3 := by omega
    rcases h4 with h4 | h4 | h4 | h4 <;> subst h4 <;> rcases h5 with h5 | h5 | h5 | h5 <;> subst h5
    all_goals exact Or.inl ⟨rfl, rfl⟩
