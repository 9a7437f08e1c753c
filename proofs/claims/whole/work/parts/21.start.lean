/-! words of the start -/
theorem iv_i0 : Cond.instantiable (iv_on 0) 8 ∈ iv_Ws := iv_Ws_at (i := 119) (by decide +kernel) rfl
theorem iv_i1 : Cond.instantiable (iv_on 1) 3 ∈ iv_Ws := iv_Ws_at (i := 47) (by decide +kernel) rfl
theorem iv_i2 : Cond.instantiable (iv_on 2) 2 ∈ iv_Ws := iv_Ws_at (i := 71) (by decide +kernel) rfl
theorem iv_i3 : Cond.instantiable (iv_on 3) 4 ∈ iv_Ws := iv_Ws_at (i := 151) (by decide +kernel) rfl
theorem iv_i4 : Cond.instantiable (iv_on 4) 5 ∈ iv_Ws := iv_Ws_at (i := 87) (by decide +kernel) rfl
theorem iv_i5 : Cond.instantiable (iv_on 5) 8 ∈ iv_Ws := iv_Ws_at (i := 39) (by decide +kernel) rfl
theorem iv_i6 : Cond.instantiable (iv_on 6) 30 ∈ iv_Ws := iv_Ws_at (i := 545) (by decide +kernel) rfl
theorem iv_i7 : Cond.instantiable (iv_on 7) 6 ∈ iv_Ws := iv_Ws_at (i := 335) (by decide +kernel) rfl
theorem iv_i8 : Cond.instantiable (iv_on 8) 6 ∈ iv_Ws := iv_Ws_at (i := 424) (by decide +kernel) rfl
theorem iv_i9 : Cond.instantiable (iv_on 9) 6 ∈ iv_Ws := iv_Ws_at (i := 519) (by decide +kernel) rfl
theorem iv_lw {w : Cond} (i : Nat) (h : lw_tbl[i]? = some w) : w ∈ lw_tbl := List.mem_of_getElem? h
theorem iv_oC : Cond.arrayOver (.object "TripGuard$Channel") ∈ lw_tbl := iv_lw 67 (by decide +kernel)
theorem iv_oT : Cond.arrayOver (.object "TripGuard$Train") ∈ lw_tbl := iv_lw 69 (by decide +kernel)
theorem iv_lsC : Cond.laysStatic "TripGuard$Channel" "CURVE" "[I" ∈ lw_tbl := iv_lw 244 (by decide +kernel)
theorem iv_lsN : Cond.laysStatic "TripGuard$Train" "NEEDED" "[I" ∈ lw_tbl := iv_lw 291 (by decide +kernel)
theorem iv_lsU : Cond.laysStatic "java/lang/Throwable" "UNASSIGNED_STACK" "[Ljava/lang/StackTraceElement;" ∈ lw_tbl := iv_lw 361 (by decide +kernel)
theorem iv_lsS : Cond.laysStatic "java/lang/Throwable" "SUPPRESSED_SENTINEL" "Ljava/util/List;" ∈ lw_tbl := iv_lw 363 (by decide +kernel)
theorem iv_inC : Cond.initialized "TripGuard$Channel" ∈ lw_tbl := iv_lw 29 (by decide +kernel)
theorem iv_inT : Cond.initialized "TripGuard$Train" ∈ lw_tbl := iv_lw 30 (by decide +kernel)
/-! From the law's entry to the machine of the picture. -/
def iv_Xs (L : Nat) (xs : Nat → Int32) (i : Nat) : Option (Nat × (Nat → Int32)) := match i with
  | 0 => some (5, fun j => ([3600, 3300, 2900, 2200, 1500] : List Int32).getD j 0)
  | 1 => some (3, fun j => ([2, 4, 3] : List Int32).getD j 0)
  | 2 => some (L, xs)
  | _ => none
theorem iv_hasD {s : State} {args : Array Value} (hts : ∀ w ∈ iv_Ws, w.before args s = true) : ∃ D : va_G, ∀ (c : Nat) (q : vw_C), iv_cl[c]? = some q → u_Kn s q.1 q.2.1 q.2.2 (D.1 c) (D.2 c) := by
  have h : ∀ ci : Nat, ∃ z : ClassId × (Nat → Nat), ∀ q : vw_C, iv_cl[ci]? = some q → u_Kn s q.1 q.2.1 q.2.2 z.1 z.2 := by
    intro ci
    cases hc : iv_cl[ci]? with
    | none => exact ⟨(0, fun _ => 0), fun q hq => by cases hq⟩
    | some q =>
      obtain ⟨C, T, N⟩ := q
      have hcP := iv_cl_ok hc
      have hlt : ci < 10 := (List.getElem?_eq_some_iff.mp hc).1
      have hin : ∃ n, Cond.instantiable C n ∈ iv_Ws := by
        rw [hcP.2.2.2.2.2]
        match ci, hlt with
        | 0, _ => exact ⟨_, iv_i0⟩
        | 1, _ => exact ⟨_, iv_i1⟩
        | 2, _ => exact ⟨_, iv_i2⟩
        | 3, _ => exact ⟨_, iv_i3⟩
        | 4, _ => exact ⟨_, iv_i4⟩
        | 5, _ => exact ⟨_, iv_i5⟩
        | 6, _ => exact ⟨_, iv_i6⟩
        | 7, _ => exact ⟨_, iv_i7⟩
        | 8, _ => exact ⟨_, iv_i8⟩
        | 9, _ => exact ⟨_, iv_i9⟩
        | n + 10, h => omega
      obtain ⟨n, hn⟩ := hin
      obtain ⟨cC, iS, hk⟩ := u_known hts hcP.1 (hts _ hn)
      exact ⟨(cC, iS), fun q hq => by cases hq; exact hk⟩
  obtain ⟨f, hf⟩ := Classical.axiomOfChoice h
  exact ⟨(fun c => (f c).1, fun c => (f c).2), fun c q hq => hf c q hq⟩
theorem iv_hasA {s : State} {args : Array Value} {ty : FieldType} (h : (Cond.arrayClass ty).before args s = true) : ∃ cA : ClassId, ArrOfT s cA ty ∧ s.vm.findClass ("[" ++ ty.toString) = some cA := by
  obtain ⟨cA, kA, comp, h1, h2, h3⟩ := Cond.arrayClass_spec h
  exact ⟨cA, fun n z => ⟨fun k h => (by cases h), kA, h2, comp, h3⟩, h1⟩
theorem iv_hasQ {s : State} {C : String} (h : va_AO C s) : ∃ cA : ClassId, ArrOfT s cA (.object C) ∧ va_RA s cA (.object C) := by
  obtain ⟨comp, cA, kA, h1, h2, h3, h4, h5⟩ := Cond.arrayOver_spec h
  exact ⟨cA, fun n z => ⟨fun k h => (by cases h), kA, h3, comp, h4⟩, kA, comp, h3, h4, h1, h5⟩
theorem iv_hasK {s : State} {args : Array Value} (hts : ∀ w ∈ iv_Ws, w.before args s = true) (hC : va_AO "TripGuard$Channel" s) (hT : va_AO "TripGuard$Train" s) : ∃ (D : va_G) (κ : Nat → ClassId), va_K D iv_cl (iv_tys κ) s := by
  obtain ⟨D, hD⟩ := iv_hasD hts
  obtain ⟨c0, a0, f0⟩ := iv_hasA (hts _ iv_aI)
  obtain ⟨c1, a1, f1⟩ := iv_hasA (hts _ iv_aZ)
  obtain ⟨c2, a2, f2⟩ := iv_hasA (hts _ iv_aJ)
  obtain ⟨c3, a3, f3⟩ := iv_hasQ hC
  obtain ⟨c4, a4, f4⟩ := iv_hasQ hT
  refine ⟨D, fun k => ([c0, c1, c2, c3, 0, 0, c4] : List ClassId).getD k 0, hD, fun k q hk => ?_⟩
  match k, hk with
  | 0, hk => cases hk; exact ⟨a0, f0⟩
  | 1, hk => cases hk; exact ⟨a1, f1⟩
  | 2, hk => cases hk; exact ⟨a2, f2⟩
  | 3, hk => cases hk; exact ⟨a3, f3⟩
  | 4, hk => cases hk; exact ⟨a4, f4⟩
  | n + 5, hk => cases hk
