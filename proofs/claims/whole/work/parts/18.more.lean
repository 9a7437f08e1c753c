/-! Every step, every run. -/
section IvO
variable {p : Program} {l : Launch} {e : Env} {s : State} {m : MethodId} {args : Array Value} {below : List Frame} {meth : Method} {c : Code} {D : va_G} {κ : Nat → ClassId} {Fr : Nat → Prop} {ρ0 : Nat → Nat} {n0 : Nat} {X : Nat → Option (Nat × (Nat → Int32))} {K : iv_K}
variable {mi mj pc : Nat} {ls st as rest : List Value} {A : iv_A} {cells slots : Nat} {res : iv_R}
theorem iv_s_lsw {d : Int} {ps : Array (Int × Int)} {len : Nat} {k : Int → List Value → Option iv_R} (hr : iv_lsw ps d st k = some res) (hx : p.tables.exec = Jvm.exec) (hb : c.code = iv_b mi) (hd : decode (iv_b mi) pc = .ok (.lookupswitch d ps, len))
    (hk : ∀ o st', k o st' = some res → ∃ tgt : Nat, (pc : Int) + o = (tgt : Int) ∧ iv_Wd p l e (iv_rm mi) s m args below meth c (iv_MQ below (iv_Q D κ ρ0 n0 res Fr) args s (iv_rm mi).cells (iv_rm mi).slots Fr) D iv_cl κ Fr (iv_nL mi) ρ0 n0 tgt ls st' A cells slots) : iv_Wd p l e (iv_rm mi) s m args below meth c (iv_MQ below (iv_Q D κ ρ0 n0 res Fr) args s (iv_rm mi).cells (iv_rm mi).slots Fr) D iv_cl κ Fr (iv_nL mi) ρ0 n0 pc ls st A cells slots := by
  unfold iv_lsw at hr
  split at hr
  · rename_i x r
    cases hq : (ps.toList.zip (ps.toList.drop 1)).all (fun (a, next) => a.1 < next.1) with
    | false => rw [hq] at hr; cases hr
    | true =>
      rw [hq] at hr
      obtain ⟨tgt, ht, hw⟩ := hk _ _ hr
      exact iv_s (fun ρ H L lsR _ _ _ _ w => lv_lookup hx hb hd hq rfl ht w) (fun _ _ h => iv_ct h) hw
  · cases hr
theorem iv_s_m2 {f : Int32 → Int32 → Int32} {k : List Value → Option iv_R} (hr : iv_m2 f mi cells slots st k = some res)
    (row : ∀ (H : Heap) (L : List Loc) (lsR : Array Slot) (rest : List Value) (x y : Int32), lsR.size = iv_nL mi → (rest.map fun v => v.category).sum ≤ 8 → cells ≤ (iv_rm mi).cells → slots ≤ (iv_rm mi).slots → W p l e (iv_rm mi) s m args below meth c H L cells slots (iv_MQ below (iv_Q D κ ρ0 n0 res Fr) args s (iv_rm mi).cells (iv_rm mi).slots Fr) (F0 m (pc + 3) lsR (.int (f x y) :: rest)) → W p l e (iv_rm mi) s m args below meth c H L cells slots (iv_MQ below (iv_Q D κ ρ0 n0 res Fr) args s (iv_rm mi).cells (iv_rm mi).slots Fr) (F0 m pc lsR (.int y :: .int x :: rest)))
    (hk : ∀ st', k st' = some res → iv_Wd p l e (iv_rm mi) s m args below meth c (iv_MQ below (iv_Q D κ ρ0 n0 res Fr) args s (iv_rm mi).cells (iv_rm mi).slots Fr) D iv_cl κ Fr (iv_nL mi) ρ0 n0 (pc + 3) ls st' A cells slots) : iv_Wd p l e (iv_rm mi) s m args below meth c (iv_MQ below (iv_Q D κ ρ0 n0 res Fr) args s (iv_rm mi).cells (iv_rm mi).slots Fr) D iv_cl κ Fr (iv_nL mi) ρ0 n0 pc ls st A cells slots := by
  unfold iv_m2 at hr
  split at hr
  · rename_i y x r
    cases hq : Nat.ble r.length 4 && Nat.ble cells (iv_rm mi).cells && Nat.ble slots (iv_rm mi).slots with
    | false => rw [hq] at hr; cases hr
    | true =>
      rw [hq] at hr
      simp only [Bool.and_eq_true] at hq
      exact iv_s (fun ρ H L lsR hL _ _ _ w => row H L lsR _ _ _ hL.2.1 (iv_sumr (Nat.le_of_ble_eq_true hq.1.1)) (Nat.le_of_ble_eq_true hq.1.2) (Nat.le_of_ble_eq_true hq.2) w) (fun _ _ h => iv_c1 (iv_vc_int _) (iv_ct (iv_ct h))) (hk _ hr)
  · cases hr
theorem iv_s_m1 {f : Int32 → Int32} {k : List Value → Option iv_R} (hr : iv_m1 f mi cells slots st k = some res)
    (row : ∀ (H : Heap) (L : List Loc) (lsR : Array Slot) (rest : List Value) (x : Int32), lsR.size = iv_nL mi → (rest.map fun v => v.category).sum ≤ 8 → cells ≤ (iv_rm mi).cells → slots ≤ (iv_rm mi).slots → W p l e (iv_rm mi) s m args below meth c H L cells slots (iv_MQ below (iv_Q D κ ρ0 n0 res Fr) args s (iv_rm mi).cells (iv_rm mi).slots Fr) (F0 m (pc + 3) lsR (.int (f x) :: rest)) → W p l e (iv_rm mi) s m args below meth c H L cells slots (iv_MQ below (iv_Q D κ ρ0 n0 res Fr) args s (iv_rm mi).cells (iv_rm mi).slots Fr) (F0 m pc lsR (.int x :: rest)))
    (hk : ∀ st', k st' = some res → iv_Wd p l e (iv_rm mi) s m args below meth c (iv_MQ below (iv_Q D κ ρ0 n0 res Fr) args s (iv_rm mi).cells (iv_rm mi).slots Fr) D iv_cl κ Fr (iv_nL mi) ρ0 n0 (pc + 3) ls st' A cells slots) : iv_Wd p l e (iv_rm mi) s m args below meth c (iv_MQ below (iv_Q D κ ρ0 n0 res Fr) args s (iv_rm mi).cells (iv_rm mi).slots Fr) D iv_cl κ Fr (iv_nL mi) ρ0 n0 pc ls st A cells slots := by
  unfold iv_m1 at hr
  split at hr
  · rename_i x r
    cases hq : Nat.ble r.length 4 && Nat.ble cells (iv_rm mi).cells && Nat.ble slots (iv_rm mi).slots with
    | false => rw [hq] at hr; cases hr
    | true =>
      rw [hq] at hr
      simp only [Bool.and_eq_true] at hq
      exact iv_s (fun ρ H L lsR hL _ _ _ w => row H L lsR _ _ hL.2.1 (iv_sumr (Nat.le_of_ble_eq_true hq.1.1)) (Nat.le_of_ble_eq_true hq.1.2) (Nat.le_of_ble_eq_true hq.2) w) (fun _ _ h => iv_c1 (iv_vc_int _) (iv_ct h)) (hk _ hr)
  · cases hr
theorem iv_s_oi {k : List Value → Option iv_R} (hr : iv_oi st k = some res)
    (row : ∀ (H : Heap) (L : List Loc) (lsR : Array Slot) (rest : List Value) (x : Nat), lsR.size = iv_nL mi → (rest.map fun v => v.category).sum ≤ 8 → W p l e (iv_rm mi) s m args below meth c H L cells slots (iv_MQ below (iv_Q D κ ρ0 n0 res Fr) args s (iv_rm mi).cells (iv_rm mi).slots Fr) (F0 m (pc + 3) lsR rest) → W p l e (iv_rm mi) s m args below meth c H L cells slots (iv_MQ below (iv_Q D κ ρ0 n0 res Fr) args s (iv_rm mi).cells (iv_rm mi).slots Fr) (F0 m pc lsR (.ref x :: rest)))
    (hk : ∀ st', k st' = some res → iv_Wd p l e (iv_rm mi) s m args below meth c (iv_MQ below (iv_Q D κ ρ0 n0 res Fr) args s (iv_rm mi).cells (iv_rm mi).slots Fr) D iv_cl κ Fr (iv_nL mi) ρ0 n0 (pc + 3) ls st' A cells slots) : iv_Wd p l e (iv_rm mi) s m args below meth c (iv_MQ below (iv_Q D κ ρ0 n0 res Fr) args s (iv_rm mi).cells (iv_rm mi).slots Fr) D iv_cl κ Fr (iv_nL mi) ρ0 n0 pc ls st A cells slots := by
  unfold iv_oi at hr
  split at hr
  · rename_i x r
    cases hq : Nat.ble r.length 4 with
    | false => rw [hq] at hr; cases hr
    | true =>
      rw [hq] at hr
      exact iv_s (fun ρ H L lsR hL _ _ _ w => row H L lsR _ (ρ x) hL.2.1 (iv_sumr (Nat.le_of_ble_eq_true hq)) w) (fun _ _ h => iv_ct h) (hk _ hr)
  · cases hr
theorem iv_s_na {t : ArrayType} {k : List Value → iv_A → Nat → Nat → Option iv_R} (hr : iv_na mi t A cells slots st k = some res) (hx : p.tables.exec = Jvm.exec) (hb : c.code = iv_b mi) (hts : ∀ w ∈ iv_Ws, w.before args s = true) (hKs : va_K D iv_cl (iv_tys κ) s) (hFr : ∀ q, s.heap.size ≤ q → Fr q) (hd : decode (iv_b mi) pc = .ok (.newarray t, 2))
    (hk : ∀ st' A' c' s', k st' A' c' s' = some res → iv_Wd p l e (iv_rm mi) s m args below meth c (iv_MQ below (iv_Q D κ ρ0 n0 res Fr) args s (iv_rm mi).cells (iv_rm mi).slots Fr) D iv_cl κ Fr (iv_nL mi) ρ0 n0 (pc + 2) ls st' A' c' s') : iv_Wd p l e (iv_rm mi) s m args below meth c (iv_MQ below (iv_Q D κ ρ0 n0 res Fr) args s (iv_rm mi).cells (iv_rm mi).slots Fr) D iv_cl κ Fr (iv_nL mi) ρ0 n0 pc ls st A cells slots := by
  unfold iv_na at hr
  split at hr
  · rename_i n r
    cases hq : !(decide (n < 0)) && Nat.ble (cells + 1) (iv_rm mi).cells && Nat.ble (slots + n.toNatClampNeg) (iv_rm mi).slots && Nat.ble n.toNatClampNeg 1000 with
    | false => rw [hq] at hr; cases hr
    | true =>
      rw [hq] at hr
      simp only [Bool.and_eq_true, Bool.not_eq_true', decide_eq_false_iff_not] at hq
      obtain ⟨⟨⟨q1, q2⟩, q3⟩, q4⟩ := hq
      have q2 := Nat.le_of_ble_eq_true q2
      have q3 := Nat.le_of_ble_eq_true q3
      have q4 := Nat.le_of_ble_eq_true q4
      simp only [cond_true] at hr
      split at hr
      · exact iv_s_arr (atype := .int) (t0 := 0) (kd := 0) (ty := .int) (x0 := .inl (fun _ => 0)) hx hb (hts _ iv_aI) rfl (fun cA a b => Option.some.inj (a.symm.trans b)) hKs rfl hFr (fun _ => rfl) (fun z f hf => by cases hf) (fun _ => rfl) q1 (by show n.toNatClampNeg * 4 ≤ _; omega) q2 q3 hd (hk _ _ _ _ hr)
      · exact iv_s_arr (atype := .boolean) (t0 := 1) (kd := 1) (ty := .boolean) (x0 := .inl (fun _ => 0)) hx hb (hts _ iv_aZ) rfl (fun cA a b => Option.some.inj (a.symm.trans b)) hKs rfl hFr (fun _ => rfl) (fun z f hf => by cases hf) (fun _ => rfl) q1 (by show n.toNatClampNeg * 1 ≤ _; omega) q2 q3 hd (hk _ _ _ _ hr)
      · exact iv_s_arr (atype := .long) (t0 := 2) (kd := 2) (ty := .long) (x0 := .inr (.inl (fun _ => 0))) hx hb (hts _ iv_aJ) rfl (fun cA a b => Option.some.inj (a.symm.trans b)) hKs rfl hFr (fun _ => rfl) (fun z f hf => by cases hf) (fun _ => rfl) q1 (by show n.toNatClampNeg * 8 ≤ _; omega) q2 q3 hd (hk _ _ _ _ hr)
      · cases hr
  · cases hr
theorem iv_s_nq {i ci : Nat} {k : List Value → iv_A → Nat → Nat → Option iv_R} (hr : iv_nq mi ci A cells slots st k = some res) (hC : iv_Cx p l s m args meth c mi D κ Fr ρ0 X) (hnw : iv_nw (iv_ow mi) i = some ci) (hkt : (iv_kt (ci + 3)).isSome = true) (hd : decode (iv_b mi) pc = .ok (.anewarray i, 3))
    (hk : ∀ st' A' c' s', k st' A' c' s' = some res → iv_Wd p l e (iv_rm mi) s m args below meth c (iv_MQ below (iv_Q D κ ρ0 n0 res Fr) args s (iv_rm mi).cells (iv_rm mi).slots Fr) D iv_cl κ Fr (iv_nL mi) ρ0 n0 (pc + 3) ls st' A' c' s') : iv_Wd p l e (iv_rm mi) s m args below meth c (iv_MQ below (iv_Q D κ ρ0 n0 res Fr) args s (iv_rm mi).cells (iv_rm mi).slots Fr) D iv_cl κ Fr (iv_nL mi) ρ0 n0 pc ls st A cells slots := by
  obtain ⟨hx, hb, hml, hrt, hown, hlk, hnm, htab, hts, hEv, hFr, htr⟩ := hC
  obtain ⟨w1, -, -, -⟩ := iv_nw_ok hnw
  unfold iv_nq at hr
  split at hr
  · rename_i n r
    cases hq : !(decide (n < 0)) && Nat.ble (cells + 1) (iv_rm mi).cells && Nat.ble (slots + n.toNatClampNeg) (iv_rm mi).slots && Nat.ble n.toNatClampNeg 1000 with
    | false => rw [hq] at hr; cases hr
    | true =>
      rw [hq] at hr
      simp only [Bool.and_eq_true, Bool.not_eq_true', decide_eq_false_iff_not] at hq
      obtain ⟨⟨⟨q1, q2⟩, q3⟩, q4⟩ := hq
      have q2 := Nat.le_of_ble_eq_true q2
      have q3 := Nat.le_of_ble_eq_true q3
      have q4 := Nat.le_of_ble_eq_true q4
      obtain ⟨C, hkC⟩ := Option.isSome_iff_exists.mp hkt
      obtain ⟨⟨t0, ht⟩, ci', T, N, hci, hcl⟩ := iv_tys_kt κ _ C hkC
      obtain rfl : ci = ci' := by omega
      have hCn : C = iv_on ci := (iv_cl_ok hcl).2.2.2.2.2
      have hAO : va_AO C s := by
        unfold iv_kt at hkC
        cases b1 : Nat.beq (ci + 3) 3 with
        | true => rw [b1] at hkC; obtain rfl := Option.some.inj hkC; exact hEv.2.2.1
        | false =>
          rw [b1] at hkC
          cases b2 : Nat.beq (ci + 3) 6 with
          | true => rw [b2] at hkC; obtain rfl := Option.some.inj hkC; exact hEv.2.2.2.1
          | false => rw [b2] at hkC; cases hkC
      exact iv_s_arq (C := C) (own := iv_on (iv_ow mi)) hx hb hown (by rw [hCn]; exact hts _ w1) hAO hEv.1 ht hFr q1 (by omega) q2 q3 hd (hk _ _ _ _ hr)
  · cases hr
end IvO
