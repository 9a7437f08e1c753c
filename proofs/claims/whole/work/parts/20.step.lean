/-! One step of the machine of the picture is sound; so is a run. -/
set_option maxHeartbeats 4000000 in
theorem iv_step {l : Launch} {D : va_G} {κ : Nat → ClassId} {X : Nat → Option (Nat × (Nat → Int32))} {K : iv_K} (hK : ∀ mi pc ls st A c s r, K mi pc ls st A c s = some r → iv_G l D κ X mi pc ls st A c s r)
    {mi pc : Nat} {ls st : List Value} {A : iv_A} {cells slots : Nat} {res : iv_R} (h : iv_next X K mi pc ls st A cells slots = some res) : iv_G l D κ X mi pc ls st A cells slots res := by
  intro p e s m args below meth c Fr ρ0 n0 hC
  have hC' := hC
  obtain ⟨hx, hb, hml, hrt, hown, hlk, hnm, htab, hts, hEv, hFr, htr⟩ := hC
  have hk : ∀ pc' ls' st' A' c' s', K mi pc' ls' st' A' c' s' = some res → iv_Wd p l e (iv_rm mi) s m args below meth c (iv_MQ below (iv_Q D κ ρ0 n0 res Fr) args s (iv_rm mi).cells (iv_rm mi).slots Fr) D iv_cl κ Fr (iv_nL mi) ρ0 n0 pc' ls' st' A' c' s' := fun pc' ls' st' A' c' s' q => hK _ _ _ _ _ _ _ _ q p e s m args below meth c Fr ρ0 n0 hC'
  have hRo := hEv.2.2.2.2.2.2.2.1
  unfold iv_next at h
  split at h
  · cases h
  rename_i ins hat
  obtain ⟨len, hd, hz⟩ := iv_dec hat
  have hroom := iv_room hat
  cases ins with
  | iconst n =>
    dsimp only at h
    obtain rfl := hz rfl
    exact iv_s_push _ (fun H L lsR rest w => lv_iconst hx hb hd rfl w) (hk _ _ _ _ _ _ h)
  | bipush n =>
    dsimp only at h
    obtain rfl := hz rfl
    exact iv_s_push _ (fun H L lsR rest w => lv_bipush hx hb hd rfl w) (hk _ _ _ _ _ _ h)
  | sipush n =>
    dsimp only at h
    obtain rfl := hz rfl
    exact iv_s_push _ (fun H L lsR rest w => lv_sipush hx hb hd rfl w) (hk _ _ _ _ _ _ h)
  | ldc i =>
    dsimp only at h
    obtain rfl := hz rfl
    cases hq : iv_cn (iv_ow mi) i with
    | none => simp only [hq] at h; cases h
    | some x =>
      simp only [hq] at h
      exact iv_s_push x (fun H L lsR rest w => lv_ldc hx hb hown (hts _ (iv_cn_ok hq)) hd w) (hk _ _ _ _ _ _ h)
  | iload_n k =>
    dsimp only at h
    obtain rfl := hz rfl
    exact iv_s_ldi h (fun H L lsR rest x hl w => lv_iload_n hx hb hd rfl hl w) (fun v hv => hk _ _ _ _ _ _ hv)
  | iload k =>
    dsimp only at h
    obtain rfl := hz rfl
    exact iv_s_ldi h (fun H L lsR rest x hl w => lv_iload hx hb hd hl w) (fun v hv => hk _ _ _ _ _ _ hv)
  | aload_n k =>
    dsimp only at h
    obtain rfl := hz rfl
    exact iv_s_lda h (fun H L lsR rest x hl w => lv_aload_n hx hb hd rfl hl w) (fun v hv => hk _ _ _ _ _ _ hv)
  | aload k =>
    dsimp only at h
    obtain rfl := hz rfl
    exact iv_s_lda h (fun H L lsR rest x hl w => lv_aload hx hb hd hl w) (fun v hv => hk _ _ _ _ _ _ hv)
  | istore_n k =>
    dsimp only at h
    obtain rfl := hz rfl
    exact iv_s_sti h (fun H L lsR lv rest x q1 q2 w => lv_istore_n hx hb hd rfl q1 q2 rfl w) (fun ls' st' hv => hk _ _ _ _ _ _ hv)
  | istore k =>
    dsimp only at h
    obtain rfl := hz rfl
    exact iv_s_sti h (fun H L lsR lv rest x q1 q2 w => lv_istore hx hb hd q1 q2 rfl w) (fun ls' st' hv => hk _ _ _ _ _ _ hv)
  | astore_n k =>
    dsimp only at h
    obtain rfl := hz rfl
    exact iv_s_sta h (fun H L lsR lv rest x q1 q2 w => lv_astore_n hx hb hd rfl q1 q2 rfl w) (fun ls' st' hv => hk _ _ _ _ _ _ hv)
  | astore k =>
    dsimp only at h
    obtain rfl := hz rfl
    exact iv_s_sta h (fun H L lsR lv rest x q1 q2 w => lv_astore hx hb hd q1 q2 rfl w) (fun ls' st' hv => hk _ _ _ _ _ _ hv)
  | iinc i n =>
    dsimp only at h
    obtain rfl := hz rfl
    exact iv_s_inc h hx hb hd (fun ls' hv => hk _ _ _ _ _ _ hv)
  | iadd =>
    dsimp only at h
    obtain rfl := hz rfl
    exact iv_s_bin h (fun H L lsR rest x y w => lv_iadd hx hb hd w) (fun st' hv => hk _ _ _ _ _ _ hv)
  | isub =>
    dsimp only at h
    obtain rfl := hz rfl
    exact iv_s_bin h (fun H L lsR rest x y w => lv_isub hx hb hd w) (fun st' hv => hk _ _ _ _ _ _ hv)
  | imul =>
    dsimp only at h
    obtain rfl := hz rfl
    exact iv_s_bin h (fun H L lsR rest x y w => lv_imul hx hb hd w) (fun st' hv => hk _ _ _ _ _ _ hv)
  | iand =>
    dsimp only at h
    obtain rfl := hz rfl
    exact iv_s_bin h (fun H L lsR rest x y w => lv_iand hx hb hd w) (fun st' hv => hk _ _ _ _ _ _ hv)
  | ior =>
    dsimp only at h
    obtain rfl := hz rfl
    exact iv_s_bin h (fun H L lsR rest x y w => lv_ior hx hb hd w) (fun st' hv => hk _ _ _ _ _ _ hv)
  | ixor =>
    dsimp only at h
    obtain rfl := hz rfl
    exact iv_s_bin h (fun H L lsR rest x y w => lv_ixor hx hb hd w) (fun st' hv => hk _ _ _ _ _ _ hv)
  | ishl =>
    dsimp only at h
    obtain rfl := hz rfl
    exact iv_s_bin h (fun H L lsR rest x y w => lv_ishl hx hb hd w) (fun st' hv => hk _ _ _ _ _ _ hv)
  | ishr =>
    dsimp only at h
    obtain rfl := hz rfl
    exact iv_s_bin h (fun H L lsR rest x y w => lv_ishr hx hb hd w) (fun st' hv => hk _ _ _ _ _ _ hv)
  | idiv =>
    dsimp only at h
    obtain rfl := hz rfl
    exact iv_s_dv h (fun H L lsR rest x y hy w => lv_idiv hx hb hd hy w) (fun st' hv => hk _ _ _ _ _ _ hv)
  | irem =>
    dsimp only at h
    obtain rfl := hz rfl
    exact iv_s_dv h (fun H L lsR rest x y hy w => lv_irem hx hb hd hy w) (fun st' hv => hk _ _ _ _ _ _ hv)
  | goto off =>
    dsimp only at h
    obtain rfl := hz rfl
    exact iv_s_jp h hx hb hd (fun t hv => hk _ _ _ _ _ _ hv)
  | ifCond q off =>
    dsimp only at h
    obtain rfl := hz rfl
    unfold iv_jp at h
    split at h
    · rename_i t ht
      exact iv_s_if1 h hx hb hd ht (fun st' hv => hk _ _ _ _ _ _ hv) (fun st' hv => hk _ _ _ _ _ _ hv)
    · cases h
  | if_icmp q off =>
    dsimp only at h
    obtain rfl := hz rfl
    unfold iv_jp at h
    split at h
    · rename_i t ht
      exact iv_s_if2 h hx hb hd ht (fun st' hv => hk _ _ _ _ _ _ hv) (fun st' hv => hk _ _ _ _ _ _ hv)
    · cases h
  | dup =>
    dsimp only at h
    obtain rfl := hz rfl
    exact iv_s_dup h hx hb hd (fun st' hv => hk _ _ _ _ _ _ hv)
  | dup2 =>
    dsimp only at h
    obtain rfl := hz rfl
    exact iv_s_dup2 h hx hb hd (fun st' hv => hk _ _ _ _ _ _ hv)
  | i2l =>
    dsimp only at h
    obtain rfl := hz rfl
    exact iv_s_i2l h hx hb hd (fun st' hv => hk _ _ _ _ _ _ hv)
  | lcmp =>
    dsimp only at h
    obtain rfl := hz rfl
    exact iv_s_lcmp h hx hb hd (fun st' hv => hk _ _ _ _ _ _ hv)
  | tableswitch d lo hi offs =>
    dsimp only at h
    refine iv_s_tsw h hx hb hd (fun o st' hv => ?_)
    unfold iv_jp at hv
    split at hv
    · rename_i t ht
      exact ⟨t, ht, hk _ _ _ _ _ _ hv⟩
    · cases hv
  | lookupswitch d ps =>
    dsimp only at h
    refine iv_s_lsw h hx hb hd (fun o st' hv => ?_)
    unfold iv_jp at hv
    split at hv
    · rename_i t ht
      exact ⟨t, ht, hk _ _ _ _ _ _ hv⟩
    · cases hv
  | getfield i =>
    dsimp only at h
    obtain rfl := hz rfl
    cases hq : iv_fl (iv_ow mi) i with
    | none => simp only [hq] at h; cases h
    | some q =>
      obtain ⟨ci, f⟩ := q
      simp only [hq] at h
      obtain ⟨C, T, N, hc, hf, ht1, hlink⟩ := iv_fl_ok hq
      exact iv_s_gf h hx hb hts (iv_cl_ok hc).1 hown hEv.1 hc hf (host := "TripGuard") (hlink.imp (hts _) (fun q => iv_Ns_use q.2 (hEv.2.1 _ q.2))) hd (fun st' hv => hk _ _ _ _ _ _ hv)
  | putfield i =>
    dsimp only at h
    obtain rfl := hz rfl
    cases hq : iv_fl (iv_ow mi) i with
    | none => simp only [hq] at h; cases h
    | some q =>
      obtain ⟨ci, f⟩ := q
      simp only [hq] at h
      obtain ⟨C, T, N, hc, hf, ht1, hlink⟩ := iv_fl_ok hq
      have hcP := iv_cl_ok hc
      have hfin : (T f).2.2.2 = iv_fin ci f := hcP.2.2.2.1 f hf
      have hCn : C = iv_on ci := hcP.2.2.2.2.2
      cases hg : !(iv_fin ci f) || (iv_ini mi && Nat.beq (iv_ow mi) ci) with
      | false => rw [hg] at h; cases h
      | true =>
        rw [hg] at h
        simp only [cond_true] at h
        refine iv_s_pf h hx hb hts hcP.1 (iv_ft ci) hcP.2.2.1 hcP.2.1 hown hEv.1 hc hf rfl (host := "TripGuard") ?_ hd (fun A' st' hv => hk _ _ _ _ _ _ hv)
        cases hfi : iv_fin ci f with
        | false => exact Or.inl ⟨hfin.trans hfi, hlink.imp (hts _) (fun q => iv_Ns_use q.2 (hEv.2.1 _ q.2))⟩
        | true =>
          rw [hfi] at hg
          simp only [Bool.not_true, Bool.false_or, Bool.and_eq_true] at hg
          have how : iv_ow mi = ci := Nat.eq_of_beq_eq_true hg.2
          rcases hlink with hl | hl
          · exact Or.inr ⟨hfin.trans hfi, hnm hg.1, by rw [ht1, hCn, how], hts _ hl⟩
          · exact absurd how hl.1
  | getstatic i =>
    dsimp only at h
    obtain rfl := hz rfl
    cases hq : iv_sf (iv_ow mi) i with
    | none => simp only [hq] at h; cases h
    | some z =>
      simp only [hq] at h
      rcases iv_sf_ok hq with ⟨rfl, hl⟩ | ⟨rfl, hl⟩
      · refine iv_s (fun ρ H L lsR _ _ hS h1 w => ?_) (fun _ _ h => iv_c1 (fun i hi => by cases hi; exact Nat.zero_lt_succ _) h) (hk _ _ _ _ _ _ h)
        refine va_gets hx hb hEv.2.2.2.2.2.1 hS hown (hts _ hl) (fun _ q => q) hd ?_
        rw [← h1 0 (by omega)]
        exact w
      · refine iv_s (fun ρ H L lsR _ _ hS h1 w => ?_) (fun _ _ h => iv_c1 (fun i hi => by cases hi; exact Nat.succ_lt_succ (Nat.zero_lt_succ _)) h) (hk _ _ _ _ _ _ h)
        refine va_gets hx hb hEv.2.2.2.2.2.2.1 hS hown (hts _ hl) (fun _ q => q) hd ?_
        rw [← h1 1 (by omega)]
        exact w
  | iaload =>
    dsimp only at h
    obtain rfl := hz rfl
    exact iv_s_ald (t0 := 0) h hRo hx hb hEv.1 rfl hd (fun st' hv => hk _ _ _ _ _ _ hv)
  | baload =>
    dsimp only at h
    obtain rfl := hz rfl
    exact iv_s_zld (t0 := 1) h hx hb hEv.1 rfl hd (fun st' hv => hk _ _ _ _ _ _ hv)
  | iastore =>
    dsimp only at h
    obtain rfl := hz rfl
    exact iv_s_ast (t0 := 0) (ty := .int) h (fun ws H L lsR rest a q0 n f j x hP hD hS ha hin w => va_iast hx hb hEv.1 hP hD hS q0 0 ha rfl hin hd w) (fun A' st' hv => hk _ _ _ _ _ _ hv)
  | bastore =>
    dsimp only at h
    obtain rfl := hz rfl
    exact iv_s_ast (t0 := 1) (ty := .boolean) h (fun ws H L lsR rest a q0 n f j x hP hD hS ha hin w => va_zast hx hb hEv.1 hP hD hS q0 1 ha rfl hin hd w) (fun A' st' hv => hk _ _ _ _ _ _ hv)
  | laload =>
    dsimp only at h
    obtain rfl := hz rfl
    exact iv_s_lld (t0 := 2) h hx hb hEv.1 rfl hd (fun st' hv => hk _ _ _ _ _ _ hv)
  | lastore =>
    dsimp only at h
    obtain rfl := hz rfl
    exact iv_s_lst (t0 := 2) h hx hb hEv.1 rfl hd (fun A' st' hv => hk _ _ _ _ _ _ hv)
  | aaload =>
    dsimp only at h
    obtain rfl := hz rfl
    exact iv_s_rld h (iv_tys_kt κ) hx hb hEv.1 hd (fun st' hv => hk _ _ _ _ _ _ hv)
  | aastore =>
    dsimp only at h
    obtain rfl := hz rfl
    exact iv_s_rst h (iv_tys_kt κ) hx hb hEv.1 hd (fun A' st' hv => hk _ _ _ _ _ _ hv)
  | arraylength =>
    dsimp only at h
    obtain rfl := hz rfl
    exact iv_s_len h hRo (iv_tys_kk κ) hx hb hEv.1 hd (fun st' hv => hk _ _ _ _ _ _ hv)
  | newarray t =>
    dsimp only at h
    obtain rfl := hz rfl
    exact iv_s_na h hx hb hts hEv.1 hFr hd (fun st' A' c' s' hv => hk _ _ _ _ _ _ hv)
  | anewarray i =>
    dsimp only at h
    obtain rfl := hz rfl
    cases hq : iv_an (iv_ow mi) i with
    | none => simp only [hq] at h; cases h
    | some ci =>
      simp only [hq] at h
      cases hkt : (iv_kt (ci + 3)).isSome with
      | false => rw [hkt] at h; cases h
      | true =>
        rw [hkt] at h
        exact iv_s_nq h hC' hq hkt hd (fun st' A' c' s' hv => hk _ _ _ _ _ _ hv)
  | new i =>
    dsimp only at h
    obtain rfl := hz rfl
    cases hq : iv_nw (iv_ow mi) i with
    | none => simp only [hq] at h; cases h
    | some ci =>
      simp only [hq] at h
      cases hxc : iv_xc ci with
      | true =>
        rw [hxc] at h
        have hr : (Nat.ble 6 (iv_rm mi).frames && Nat.ble 89 (iv_rm mi).locals) = true := by
          have hr := hroom
          simp only [iv_rck, hq, hxc, cond_true] at hr
          exact hr
        simp only [Bool.and_eq_true] at hr
        exact iv_s_thn hC' h hq hd (Nat.le_of_ble_eq_true hr.1) (Nat.le_of_ble_eq_true hr.2)
      | false =>
        rw [hxc] at h
        simp only [cond_false] at h
        cases hg : Nat.ble (cells + 1) (iv_rm mi).cells && Nat.ble (slots + iv_fn ci) (iv_rm mi).slots with
        | false => rw [hg] at h; cases h
        | true =>
          rw [hg] at h
          simp only [Bool.and_eq_true] at hg
          obtain ⟨w1, w2, w3, w4⟩ := iv_nw_ok hq
          have hlt : ci < 7 := by
            refine Nat.lt_of_not_le fun q => ?_
            have : iv_xc ci = true := Nat.ble_eq_true_of_le q
            rw [this] at hxc
            cases hxc
          obtain ⟨T, N, hcl⟩ := iv_cl_lt hlt
          have hcP := iv_cl_ok hcl
          obtain ⟨hdf, hN⟩ := hcP.2.2.2.2.1 hlt
          subst hN
          have hblt : Nat.blt ci 7 = true := Nat.ble_eq_true_of_le hlt
          rw [hblt] at w3
          exact iv_s_obj (ty := iv_ft ci) hx hb hts hcP.1 hcP.2.2.1 hown (hts _ w1) (hts _ w3) (hts _ w4) hEv.1 hFr hcl hdf (iv_df_nr hlt) (Nat.le_of_ble_eq_true hg.1) (Nat.le_of_ble_eq_true hg.2) hd (hk _ _ _ _ _ _ h)
  | invokevirtual i =>
    dsimp only at h
    obtain rfl := hz rfl
    cases hq : iv_mt (iv_ow mi) i with
    | none => simp only [hq] at h; cases h
    | some mj =>
      simp only [hq] at h
      cases hg : iv_kd mj == 0 with
      | false => rw [hg] at h; cases h
      | true =>
        rw [hg] at h
        exact iv_s_V hK hC' hq (by simpa using hg) hroom hd h
  | invokestatic i =>
    dsimp only at h
    obtain rfl := hz rfl
    cases hq : iv_mt (iv_ow mi) i with
    | none => simp only [hq] at h; cases h
    | some mj =>
      simp only [hq] at h
      have hr := hroom
      simp only [iv_rck, iv_rc1, hq] at hr
      split at h
      · rename_i hkd
        exact iv_s_S hK hC' hq hkd hroom hd h
      · rename_i hkd
        obtain ⟨hf1, -, hl1⟩ := iv_rc6 (mi := mi) (by rw [hkd]; decide) (by rw [hkd]; decide) hr
        have hl1 := hl1 (by rw [hkd]; decide)
        have hl := iv_mt_plain hq (by rw [hkd]; decide)
        rw [iv_mx hkd] at hl
        exact iv_s_m2 h (fun H L lsR rest x y q1 q2 q3 q4 w => va_mmax hx hb (by rw [hml, q1]) hown (hts _ hl) (hts _ iv_mxS) (hts _ iv_mI) (hts _ iv_mxC) hf1 (by omega) q3 q4 hd w) (fun st' hv => hk _ _ _ _ _ _ hv)
      · rename_i hkd
        obtain ⟨hf1, -, hl1⟩ := iv_rc6 (mi := mi) (by rw [hkd]; decide) (by rw [hkd]; decide) hr
        have hl1 := hl1 (by rw [hkd]; decide)
        have hl := iv_mt_plain hq (by rw [hkd]; decide)
        rw [iv_mn hkd] at hl
        exact iv_s_m2 h (fun H L lsR rest x y q1 q2 q3 q4 w => va_mmin hx hb (by rw [hml, q1]) hown (hts _ hl) (hts _ iv_mnS) (hts _ iv_mI) (hts _ iv_mnC) hf1 (by omega) q3 q4 hd w) (fun st' hv => hk _ _ _ _ _ _ hv)
      · rename_i hkd
        obtain ⟨hf1, -, hl1⟩ := iv_rc6 (mi := mi) (by rw [hkd]; decide) (by rw [hkd]; decide) hr
        have hl1 := hl1 (by rw [hkd]; decide)
        have hl := iv_mt_plain hq (by rw [hkd]; decide)
        rw [iv_ma hkd] at hl
        exact iv_s_m1 h (fun H L lsR rest x q1 q2 q3 q4 w => va_mabs hx hb (by rw [hml, q1]) hown (hts _ hl) (hts _ iv_maS) (hts _ iv_mI) (hts _ iv_maC) hf1 (by omega) q3 q4 hd w) (fun st' hv => hk _ _ _ _ _ _ hv)
      · cases h
  | invokespecial i =>
    dsimp only at h
    obtain rfl := hz rfl
    cases hq : iv_mt (iv_ow mi) i with
    | none => simp only [hq] at h; cases h
    | some mj =>
      simp only [hq] at h
      have hr := hroom
      simp only [iv_rck, iv_rc1, hq] at hr
      split at h
      · rename_i hkd
        exact iv_s_I hK hC' hq hkd hroom hd h
      · rename_i hkd
        obtain ⟨hr1, hr2, -⟩ := iv_rc6 (mi := mi) (by rw [hkd]; decide) (by rw [hkd]; decide) hr
        have hl := iv_mt_plain hq (by rw [hkd]; decide)
        rw [iv_mo hkd] at hl
        exact iv_s_oi h (fun H L lsR rest x q1 q2 w => W.objInit (g := F0 m pc lsR (.ref x :: rest)) hx hb hown (hts _ hl) (hts _ iv_moI) (hts _ iv_moC) rfl (by rw [hml]; exact q1) rfl hd hr1 (by show 2 * 0 + _ + 12 ≤ _; omega) w) (fun st' hv => hk _ _ _ _ _ _ hv)
      · cases h
  | ireturn =>
    dsimp only at h
    obtain rfl := hz rfl
    split at h
    · rename_i x
      split at h
      · rename_i ty hty
        cases hg : iv_fit ty (.int x) with
        | false => rw [hg] at h; cases h
        | true =>
          rw [hg] at h
          exact iv_s_ret hC' hty hg h hd
      · cases h
    · cases h
  | return_ =>
    dsimp only at h
    obtain rfl := hz rfl
    split at h
    · split at h
      · rename_i hty
        exact iv_s_vret hC' hty h hd
      · cases h
    · cases h
  | _ => first | (dsimp only at h; cases h) | (simp at h)
theorem iv_sound {l : Launch} {D : va_G} {κ : Nat → ClassId} {X : Nat → Option (Nat × (Nat → Int32))} : ∀ (n : Nat) (mi pc : Nat) (ls st : List Value) (A : iv_A) (c s : Nat) (r : iv_R), iv_run X n mi pc ls st A c s = some r → iv_G l D κ X mi pc ls st A c s r
  | 0, _, _, _, _, _, _, _, _, h => by cases h
  | n + 1, _, _, _, _, _, _, _, _, h => iv_step (iv_sound n) h
