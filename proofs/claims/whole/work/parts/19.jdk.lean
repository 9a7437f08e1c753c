/-! Small facts on the methods of the JDK that have rows of their own, and on new objects. -/
theorem iv_df_nr {ci : Nat} (h : ci < 7) : ∀ ρ : Nat → Nat, (iv_df ci).map (iv_r ρ) = iv_df ci := by
  intro ρ
  match ci, h with
  | 0, _ => rfl
  | 1, _ => rfl
  | 2, _ => rfl
  | 3, _ => rfl
  | 4, _ => rfl
  | 5, _ => rfl
  | 6, _ => rfl
  | n + 7, h => omega
theorem iv_mts_pl : (iv_mts.all fun q => !q.2.2.2.2 || Nat.ble (iv_kd q.2.2.1) 2) = true := by decide +kernel
theorem iv_mt_plain {a b mj : Nat} (h : iv_mt a b = some mj) (hk : 2 < iv_kd mj) : Cond.methodLink (iv_on a) b (iv_y mj) ∈ iv_Ws := by
  unfold iv_mt at h
  obtain ⟨x, hx, hx2⟩ := Option.map_eq_some_iff.mp h
  obtain ⟨x1, x2, x3⟩ := x
  simp only at hx2
  subst hx2
  have h1 := List.all_eq_true.mp iv_mts_ok _ (iv_l2_mem hx)
  have h0 := List.all_eq_true.mp iv_mts_pl _ (iv_l2_mem hx)
  simp only [Bool.or_eq_true, Bool.not_eq_true'] at h0
  rcases h0 with h0 | h0
  · subst h0
    simp only [iv_mtc, Bool.and_eq_true, cond_false] at h1
    exact iv_Ws_at (of_decide_eq_true h1.1) rfl
  · exact absurd (Nat.le_of_ble_eq_true h0) (by omega)
theorem iv_kd_lt {j : Nat} (h : iv_kd j ≤ 8) : j < 116 := by
  refine Nat.lt_of_not_le fun hge => ?_
  have : iv_kd j = 9 := by
    unfold iv_kd
    rw [List.getD_eq_getElem?_getD, List.getElem?_eq_none (by exact hge)]
    rfl
  omega
def iv_kdn (j : Nat) : Bool := (!(Nat.beq (iv_kd j) 3) || decide (iv_y j = Lib.Math.max.name)) && ((!(Nat.beq (iv_kd j) 4) || decide (iv_y j = Lib.Math.min.name)) && ((!(Nat.beq (iv_kd j) 5) || decide (iv_y j = Lib.Math.abs.name)) && (!(Nat.beq (iv_kd j) 6) || decide (iv_y j = Lib.objectInit))))
set_option maxRecDepth 20000 in
theorem iv_kdns : ((List.range 116).all iv_kdn) = true := by decide +kernel
theorem iv_mx {j : Nat} (h : iv_kd j = 3) : iv_y j = Lib.Math.max.name := by
  have h1 := List.all_eq_true.mp iv_kdns j (List.mem_range.mpr (iv_kd_lt (by omega)))
  unfold iv_kdn at h1
  rw [h] at h1
  simp at h1
  exact h1.1
theorem iv_mn {j : Nat} (h : iv_kd j = 4) : iv_y j = Lib.Math.min.name := by
  have h1 := List.all_eq_true.mp iv_kdns j (List.mem_range.mpr (iv_kd_lt (by omega)))
  unfold iv_kdn at h1
  rw [h] at h1
  simp at h1
  exact h1.2.1
theorem iv_ma {j : Nat} (h : iv_kd j = 5) : iv_y j = Lib.Math.abs.name := by
  have h1 := List.all_eq_true.mp iv_kdns j (List.mem_range.mpr (iv_kd_lt (by omega)))
  unfold iv_kdn at h1
  rw [h] at h1
  simp at h1
  exact h1.2.2.1
theorem iv_mo {j : Nat} (h : iv_kd j = 6) : iv_y j = Lib.objectInit := by
  have h1 := List.all_eq_true.mp iv_kdns j (List.mem_range.mpr (iv_kd_lt (by omega)))
  unfold iv_kdn at h1
  rw [h] at h1
  simp at h1
  exact h1.2.2.2
theorem iv_mI : Cond.initialized "java/lang/Math" ∈ iv_Ws := iv_Ws_at (i := 28) (by decide +kernel) rfl
theorem iv_mxS : Cond.static Lib.Math.max.name ∈ iv_Ws := iv_Ws_at (i := 117) (by decide +kernel) rfl
theorem iv_mxC : Cond.code Lib.Math.max.name Lib.Math.max.code 2 (some .int) ∈ iv_Ws := iv_Ws_at (i := 118) (by decide +kernel) rfl
theorem iv_mnS : Cond.static Lib.Math.min.name ∈ iv_Ws := iv_Ws_at (i := 114) (by decide +kernel) rfl
theorem iv_mnC : Cond.code Lib.Math.min.name Lib.Math.min.code 2 (some .int) ∈ iv_Ws := iv_Ws_at (i := 115) (by decide +kernel) rfl
theorem iv_maS : Cond.static Lib.Math.abs.name ∈ iv_Ws := iv_Ws_at (i := 215) (by decide +kernel) rfl
theorem iv_maC : Cond.code Lib.Math.abs.name Lib.Math.abs.code 1 (some .int) ∈ iv_Ws := iv_Ws_at (i := 216) (by decide +kernel) rfl
theorem iv_moI : Cond.instanceMethod Lib.objectInit ∈ iv_Ws := iv_Ws_at (i := 44) (by decide +kernel) rfl
theorem iv_moC : Cond.code Lib.objectInit ⟨#[0xb1]⟩ 1 none ∈ iv_Ws := iv_Ws_at (i := 45) (by decide +kernel) rfl
theorem iv_rc6 {mi mj : Nat} {b : Bool} (h2 : 2 < iv_kd mj) (h6 : iv_kd mj ≤ 6) (hr : (bif Nat.ble (iv_kd mj) 2 then b else bif Nat.ble (iv_kd mj) 6 then Nat.ble 1 (iv_rm mi).frames && Nat.ble 20 (iv_rm mi).locals && (Nat.beq (iv_kd mj) 6 || Nat.ble 21 (iv_rm mi).locals) else true) = true) :
    1 ≤ (iv_rm mi).frames ∧ 20 ≤ (iv_rm mi).locals ∧ (iv_kd mj ≠ 6 → 21 ≤ (iv_rm mi).locals) := by
  have e1 : Nat.ble (iv_kd mj) 2 = false := by
    cases hb : Nat.ble (iv_kd mj) 2 with
    | false => rfl
    | true => exact absurd (Nat.le_of_ble_eq_true hb) (by omega)
  have e2 : Nat.ble (iv_kd mj) 6 = true := Nat.ble_eq_true_of_le h6
  rw [e1, e2] at hr
  simp only [cond_false, cond_true, Bool.and_eq_true, Bool.or_eq_true] at hr
  refine ⟨Nat.le_of_ble_eq_true hr.1.1, Nat.le_of_ble_eq_true hr.1.2, fun hne => ?_⟩
  rcases hr.2 with h | h
  · exact absurd (Nat.eq_of_beq_eq_true h) hne
  · exact Nat.le_of_ble_eq_true h
