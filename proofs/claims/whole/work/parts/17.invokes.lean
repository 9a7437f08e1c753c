/-! One step of the machine of the picture; a run. -/
section IvN
variable {p : Program} {l : Launch} {e : Env} {s : State} {m : MethodId} {args : Array Value} {below : List Frame} {meth : Method} {c : Code} {D : va_G} {κ : Nat → ClassId} {Fr : Nat → Prop} {ρ0 : Nat → Nat} {n0 : Nat} {X : Nat → Option (Nat × (Nat → Int32))} {K : iv_K}
variable {mi mj pc : Nat} {ls st as rest : List Value} {A : iv_A} {cells slots : Nat} {res : iv_R}
theorem iv_cb {Pc : Array Value → State → Prop} {Qc : Array Value → State → Outcome → State → Prop} {free : Addr → Prop} (hts : ∀ w ∈ iv_Ws, w.before args s = true) (hm : iv_mP mj) (hM : iv_Met l (iv_y mj) iv_Ws (iv_rm mj) Pc Qc (iv_rm mj).cells (iv_rm mj).slots free) (hbl : FrameBlind Pc) (hfr : (iv_rm mj).frames + 1 ≤ (iv_rm mi).frames) (hlo : 8 + (iv_nL mj + 11) + (iv_rm mj).locals ≤ (iv_rm mi).locals) :
    iv_CB l (iv_rm mi) s args (iv_y mj) iv_Ws (iv_rm mj) Pc Qc (iv_rm mj).cells (iv_rm mj).slots (iv_nL mj) free (iv_b mj) (iv_rt mj) (iv_hh mj) :=
  ⟨hM, hbl, rfl, rfl, hfr, hlo, fun w hw a' U hW => word_at hW (iv_Ws_good w hw).2 (hts w hw), fun a' U hW => iv_cwB hm.1 (fun w hw => word_at hW (iv_Ws_good w hw).2 (hts w hw)), fun a' U hW => word_at hW (iv_Ws_good _ hm.2.1).2 (hts _ hm.2.1), hm.2.2.2.2.1⟩
theorem iv_spl_ok {np : Nat} {k : List Value → List Value → Option iv_R} (h : iv_spl np st k = some res) : np ≤ st.length ∧ k (st.take np).reverse (st.drop np) = some res := by
  unfold iv_spl at h
  cases hb : Nat.ble np st.length with
  | false => rw [hb] at h; cases h
  | true => rw [hb] at h; exact ⟨Nat.le_of_ble_eq_true hb, h⟩
theorem iv_this_ok {ci : Nat} {k : Option iv_R} (h : iv_this A ci as k = some res) : ∃ (i : Nat) (as' fs : List Value), as = .ref (i + 3) :: as' ∧ A[i]? = some (.inr (ci, fs)) ∧ k = some res := by
  unfold iv_this at h
  split at h
  · rename_i i t
    split at h
    · rename_i o ho
      obtain ⟨o1, o2⟩ := o
      cases hb : Nat.beq o1 ci with
      | false => simp only [hb, cond_false] at h; cases h
      | true =>
        simp only [hb, cond_true] at h
        obtain rfl := Nat.eq_of_beq_eq_true hb
        exact ⟨i, t, o2, rfl, ho, h⟩
    · cases h
  · cases h
theorem iv_cl_lt {ci : Nat} (h : ci < 7) : ∃ (T : u_T) (N : Nat), iv_cl[ci]? = some (iv_on ci, T, N) := by
  match ci, h with
  | 0, _ => exact ⟨_, _, rfl⟩
  | 1, _ => exact ⟨_, _, rfl⟩
  | 2, _ => exact ⟨_, _, rfl⟩
  | 3, _ => exact ⟨_, _, rfl⟩
  | 4, _ => exact ⟨_, _, rfl⟩
  | 5, _ => exact ⟨_, _, rfl⟩
  | 6, _ => exact ⟨_, _, rfl⟩
  | n + 7, h => omega
theorem iv_stk {ρ : Nat → Nat} {b : Nat} {as' : List Value} : ((Value.ref b :: as').reverse ++ rest).map (iv_r ρ) = (as'.map (iv_r ρ)).reverse ++ .ref (ρ b) :: rest.map (iv_r ρ) := by
  simp [iv_r]
theorem iv_s_V {i : Nat} (hK : ∀ mi pc ls st A c s r, K mi pc ls st A c s = some r → iv_G l D κ X mi pc ls st A c s r) (hC : iv_Cx p l s m args meth c mi D κ Fr ρ0 X) (hmt : iv_mt (iv_ow mi) i = some mj) (hkd : iv_kd mj = 0) (hrc : iv_rc1 mi i = true) (hd : decode (iv_b mi) pc = .ok (.invokevirtual i, 3))
    (hr : iv_spl (iv_np mj) st (fun as rest => iv_this A (iv_ow mj) as (iv_inv K mi pc ls rest A cells slots mj as)) = some res) : iv_Wd p l e (iv_rm mi) s m args below meth c (iv_MQ below (iv_Q D κ ρ0 n0 res Fr) args s (iv_rm mi).cells (iv_rm mi).slots Fr) D iv_cl κ Fr (iv_nL mi) ρ0 n0 pc ls st A cells slots := by
  obtain ⟨hlink, hex⟩ := iv_mt_ok hmt
  have hm := iv_m_ok (hex (by omega))
  unfold iv_rc1 at hrc
  rw [hmt] at hrc
  simp only [hkd] at hrc
  have hrc : (Nat.ble ((iv_rm mj).frames + 1) (iv_rm mi).frames && Nat.ble (8 + (iv_nL mj + 11) + (iv_rm mj).locals) (iv_rm mi).locals) = true := hrc
  simp only [Bool.and_eq_true] at hrc
  obtain ⟨hnp, hr⟩ := iv_spl_ok hr
  obtain ⟨b, as', fs, has, hA, hr⟩ := iv_this_ok hr
  obtain ⟨m1, m2, m3, m4⟩ := hm.2.2.2.2.2.2.1 hkd
  have hlen0 := congrArg List.length has
  rw [List.length_reverse, List.length_take, Nat.min_eq_left hnp, List.length_cons] at hlen0
  have hst : st = (Value.ref (b + 3) :: as').reverse ++ st.drop (iv_np mj) := by rw [← has, List.reverse_reverse, List.take_append_drop]
  rw [has] at hr
  refine iv_s_inv hK hC hr hst hm (fun h => by unfold iv_ini at h; rw [hkd] at h; cases h) (fun ρ H L lsR r' T hP hT hsz XT hM hpre n2 n3 hsum => ?_)
  obtain ⟨hx, hb, hml, hrt, hown, hlk, hnm, htab, hts, hEv, hFr, htr⟩ := hC
  obtain ⟨TT, N, hcl⟩ := iv_cl_lt m3
  obtain ⟨cell, c1, c2, c3⟩ := va_recv hEv.1 hP hcl (iv_w_at (ρ := ρ) (κ := κ) hA)
  have hy : (iv_y mj).cls = iv_on (iv_ow mj) := hm.2.2.2.1
  have hlen : (parseMethodDescriptor (iv_y mj).desc).map (fun d => d.parameters.length) = some (as'.map (iv_r ρ)).length := by
    rw [hm.2.2.2.2.2.1, hkd, List.length_map]
    show some (iv_np mj - 1) = _
    rw [hlen0]
    rfl
  refine iv_callV hx (iv_cb hts hm hM iv_blind (Nat.le_of_ble_eq_true hrc.1) (Nat.le_of_ble_eq_true hrc.2)) hown (host := "TripGuard") (hlink.imp (hts _) (fun q => iv_Ns_use q (hEv.2.1 _ q))) (hts _ m1) (hts _ m2) XT (b := ρ (b + 3)) (cellB := cell) (by rw [hT]; exact c1) c2 (by rw [hy]; exact c3) (As := as'.map (iv_r ρ)) rfl hsz hlen ?_ (by show 2 * 0 + _ ≤ 8; omega) (by rw [hb]; exact hd) n2 n3 hpre
  show st.map (iv_r ρ) = _
  rw [← iv_stk, ← hst]
theorem iv_s_S {i : Nat} (hK : ∀ mi pc ls st A c s r, K mi pc ls st A c s = some r → iv_G l D κ X mi pc ls st A c s r) (hC : iv_Cx p l s m args meth c mi D κ Fr ρ0 X) (hmt : iv_mt (iv_ow mi) i = some mj) (hkd : iv_kd mj = 1) (hrc : iv_rc1 mi i = true) (hd : decode (iv_b mi) pc = .ok (.invokestatic i, 3))
    (hr : iv_spl (iv_np mj) st (fun as rest => iv_inv K mi pc ls rest A cells slots mj as) = some res) : iv_Wd p l e (iv_rm mi) s m args below meth c (iv_MQ below (iv_Q D κ ρ0 n0 res Fr) args s (iv_rm mi).cells (iv_rm mi).slots Fr) D iv_cl κ Fr (iv_nL mi) ρ0 n0 pc ls st A cells slots := by
  obtain ⟨hlink, hex⟩ := iv_mt_ok hmt
  have hm := iv_m_ok (hex (by omega))
  unfold iv_rc1 at hrc
  rw [hmt] at hrc
  simp only [hkd] at hrc
  have hrc : (Nat.ble ((iv_rm mj).frames + 1) (iv_rm mi).frames && Nat.ble (8 + (iv_nL mj + 11) + (iv_rm mj).locals) (iv_rm mi).locals) = true := hrc
  simp only [Bool.and_eq_true] at hrc
  obtain ⟨hnp, hr⟩ := iv_spl_ok hr
  have m1 := hm.2.2.2.2.2.2.2.1 hkd
  have hst : st = (st.take (iv_np mj)).reverse.reverse ++ st.drop (iv_np mj) := by rw [List.reverse_reverse, List.take_append_drop]
  refine iv_s_inv hK hC hr hst hm (fun h => by unfold iv_ini at h; rw [hkd] at h; cases h) (fun ρ H L lsR r' T hP hT hsz XT hM hpre n2 n3 hsum => ?_)
  obtain ⟨hx, hb, hml, hrt, hown, hlk, hnm, htab, hts, hEv, hFr, htr⟩ := hC
  have hlen : (parseMethodDescriptor (iv_y mj).desc).map (fun d => d.parameters.length) = some ((st.take (iv_np mj)).reverse.map (iv_r ρ)).length := by
    rw [hm.2.2.2.2.2.1, hkd, List.length_map, List.length_reverse, List.length_take, Nat.min_eq_left hnp]
    rfl
  refine iv_callS hx (iv_cb hts hm hM iv_blind (Nat.le_of_ble_eq_true hrc.1) (Nat.le_of_ble_eq_true hrc.2)) hown (host := "TripGuard") (hlink.imp (hts _) (fun q => iv_Ns_use q (hEv.2.1 _ q))) (hts _ m1) XT (As := (st.take (iv_np mj)).reverse.map (iv_r ρ)) rfl hsz hlen ?_ (by show 2 * 0 + _ ≤ 8; omega) (by rw [hb]; exact hd) n2 n3 hpre
  show st.map (iv_r ρ) = _
  rw [← List.map_reverse, ← List.map_append, ← hst]
theorem iv_s_I {i : Nat} (hK : ∀ mi pc ls st A c s r, K mi pc ls st A c s = some r → iv_G l D κ X mi pc ls st A c s r) (hC : iv_Cx p l s m args meth c mi D κ Fr ρ0 X) (hmt : iv_mt (iv_ow mi) i = some mj) (hkd : iv_kd mj = 2) (hrc : iv_rc1 mi i = true) (hd : decode (iv_b mi) pc = .ok (.invokespecial i, 3))
    (hr : iv_spl (iv_np mj) st (fun as rest => iv_this A (iv_ow mj) as (iv_inv K mi pc ls rest A cells slots mj as)) = some res) : iv_Wd p l e (iv_rm mi) s m args below meth c (iv_MQ below (iv_Q D κ ρ0 n0 res Fr) args s (iv_rm mi).cells (iv_rm mi).slots Fr) D iv_cl κ Fr (iv_nL mi) ρ0 n0 pc ls st A cells slots := by
  obtain ⟨hlink, hex⟩ := iv_mt_ok hmt
  have hm := iv_m_ok (hex (by omega))
  unfold iv_rc1 at hrc
  rw [hmt] at hrc
  simp only [hkd] at hrc
  have hrc : (Nat.ble ((iv_rm mj).frames + 1) (iv_rm mi).frames && Nat.ble (8 + (iv_nL mj + 11) + (iv_rm mj).locals) (iv_rm mi).locals) = true := hrc
  simp only [Bool.and_eq_true] at hrc
  obtain ⟨hnp, hr⟩ := iv_spl_ok hr
  obtain ⟨b, as', fs, has, hA, hr⟩ := iv_this_ok hr
  obtain ⟨m1, m2, m3, m4, m5, m6⟩ := hm.2.2.2.2.2.2.2.2 hkd
  have hlen0 := congrArg List.length has
  rw [List.length_reverse, List.length_take, Nat.min_eq_left hnp, List.length_cons] at hlen0
  have hst : st = (Value.ref (b + 3) :: as').reverse ++ st.drop (iv_np mj) := by rw [← has, List.reverse_reverse, List.take_append_drop]
  rw [has] at hr
  refine iv_s_inv hK hC hr hst hm (fun _ => m2) (fun ρ H L lsR r' T hP hT hsz XT hM hpre n2 n3 hsum => ?_)
  obtain ⟨hx, hb, hml, hrt, hown, hlk, hnm, htab, hts, hEv, hFr, htr⟩ := hC
  have hlen : (parseMethodDescriptor (iv_y mj).desc).map (fun d => d.parameters.length) = some (as'.map (iv_r ρ)).length := by
    rw [hm.2.2.2.2.2.1, hkd, List.length_map]
    show some (iv_np mj - 1) = _
    rw [hlen0]
    rfl
  have hcb := iv_cb (mi := mi) hts hm hM iv_blind (Nat.le_of_ble_eq_true hrc.1) (Nat.le_of_ble_eq_true hrc.2)
  have hcode : (Cond.code (iv_y mj) (iv_b mj) (iv_nL mj) none).before args s = true := by
    rcases hm.1 with ⟨_, q⟩ | q
    · rw [m3] at q
      exact hts _ q
    · have q2 := hts _ q
      rw [m3, m4] at q2
      simp only [Cond.before, Cond.holds] at q2 ⊢
      rw [Cond.code_iff_codeWith_nil]
      exact q2
  rw [m3, m4] at hcb
  refine iv_callI hx hcb hown m2 (host := "TripGuard") (hlink.imp (hts _) (fun q => iv_Ns_use q (hEv.2.1 _ q))) (hts _ m1) hcode XT (b := ρ (b + 3)) (As := as'.map (iv_r ρ)) rfl hsz hlen ?_ (by show 2 * 0 + _ ≤ 8; omega) (by rw [hb]; exact hd) n2 n3 hpre
  show st.map (iv_r ρ) = _
  rw [← iv_stk, ← hst]
end IvN
