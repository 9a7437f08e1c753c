/-! Arrays of references, lengths, new cells, answers. -/
section IvI
variable {p : Program} {l : Launch} {e : Env} {R : Room} {s : State} {m : MethodId} {args : Array Value} {below : List Frame} {meth : Method} {c : Code} {Q : State → Prop} {D : va_G} {cl : List vw_C} {κ : Nat → ClassId} {Fr : Nat → Prop} {nL : Nat} {ρ0 : Nat → Nat} {n0 : Nat}
variable {pc pc' : Nat} {ls st st' r : List Value} {A : iv_A} {cells slots : Nat} {cc : ByteArray} {res : iv_R} {tys : List (ClassId × FieldType)} {Ts : List Cond} {own C host : String} {T : u_T} {N ci f idx : Nat} {kt : Nat → Option String}
/-- what is known of the kinds of arrays of references -/
def iv_Kt (kt : Nat → Option String) (κ : Nat → ClassId) (cl : List vw_C) (tys : List (ClassId × FieldType)) : Prop := ∀ q C, kt q = some C → (∃ t0 : Nat, tys[t0]? = some (κ q, .object C)) ∧ ∃ ci T N, q = ci + 3 ∧ cl[ci]? = some (C, T, N)
theorem iv_s_rld {k : List Value → Option iv_R} (hr : iv_rld kt A st k = some res) (hkt : iv_Kt kt κ cl tys) (hx : p.tables.exec = Jvm.exec) (hb : c.code = cc) (hK : va_K D cl tys s) (hd : decode cc pc = .ok (.aaload, 1))
    (hk : ∀ st', k st' = some res → iv_Wd p l e R s m args below meth c Q D cl κ Fr nL ρ0 n0 (pc + 1) ls st' A cells slots) : iv_Wd p l e R s m args below meth c Q D cl κ Fr nL ρ0 n0 pc ls st A cells slots := by
  unfold iv_rld at hr
  split at hr
  · rename_i j i rest
    split at hr
    · rename_i q n f hA
      cases hq : (kt q).isSome && iv_in j n with
      | false => rw [hq] at hr; cases hr
      | true =>
        rw [hq] at hr
        simp only [Bool.and_eq_true] at hq
        obtain ⟨C, hC⟩ := Option.isSome_iff_exists.mp hq.1
        obtain ⟨⟨t0, ht⟩, -⟩ := hkt q C hC
        refine iv_s (fun ρ H L lsR _ hP hS h1 w => ?_) (fun h0 _ h => iv_c1 (fun z hz => ?_) (iv_ct (iv_ct h))) (hk _ hr)
        · refine va_aldq hx hb hK hP i t0 (iv_w_at (ρ := ρ) (κ := κ) hA) ht (iv_in_ok hq.2) hd ?_
          have e1 : va_rf ((f j.toNatClampNeg).map ρ) = iv_r ρ (va_rf (f j.toNatClampNeg)) := (iv_rf_map _).symm
          rw [e1]
          exact w
        · cases hf : f j.toNatClampNeg with
          | none => rw [hf] at hz; cases hz
          | some y =>
            rw [hf] at hz
            have hz' : (Value.ref y) = .ref z := hz
            obtain rfl : y = z := by injection hz'
            exact h0 _ _ hA f rfl _ _ hf
    · cases hr
  · cases hr
theorem iv_s_rst {k : iv_A → List Value → Option iv_R} (hr : iv_rst kt A st k = some res) (hkt : iv_Kt kt κ cl tys) (hx : p.tables.exec = Jvm.exec) (hb : c.code = cc) (hK : va_K D cl tys s) (hd : decode cc pc = .ok (.aastore, 1))
    (hk : ∀ A' st', k A' st' = some res → iv_Wd p l e R s m args below meth c Q D cl κ Fr nL ρ0 n0 (pc + 1) ls st' A' cells slots) : iv_Wd p l e R s m args below meth c Q D cl κ Fr nL ρ0 n0 pc ls st A cells slots := by
  unfold iv_rst at hr
  split at hr
  · rename_i v j i rest
    split at hr
    · rename_i q n f o hA hV
      cases hq : Nat.beq q (o.1 + 3) && (kt q).isSome && iv_in j n with
      | false => rw [hq] at hr; cases hr
      | true =>
        rw [hq] at hr
        simp only [Bool.and_eq_true] at hq
        obtain ⟨⟨hq1, hq2⟩, hq3⟩ := hq
        obtain rfl : q = o.1 + 3 := Nat.eq_of_beq_eq_true hq1
        obtain ⟨C, hC⟩ := Option.isSome_iff_exists.mp hq2
        obtain ⟨⟨t0, ht⟩, ci, T, N, hci, hcl⟩ := hkt _ C hC
        obtain rfl : o.1 = ci := by omega
        refine iv_s_wr (i := i) (e' := .inl (o.1 + 3, n, .inr (.inr (.inr (.inr (va_up f j.toNatClampNeg (some (v + 3)))))))) (fun h0 h f' hf' j' i' hj' => ?_) (fun w hw => List.mem_cons_of_mem _ (List.mem_cons_of_mem _ (List.mem_cons_of_mem _ hw))) (fun ρ H L lsR hP hD hS w => ?_) (hk _ _ hr)
        · injection hf' with hf'
          injection hf' with hf'
          injection hf' with hf'
          injection hf' with hf'
          subst hf'
          unfold va_up at hj'
          split at hj'
          · obtain rfl := Option.some.inj hj'
            exact iv_ch h _ rfl
          · exact h0 _ _ hA f rfl _ _ hj'
        · refine va_astq hx hb hK hP hD hS i t0 v o.1 (r := (C, T, N)) (iv_w_at (ρ := ρ) (κ := κ) hA) ht (iv_w_at (ρ := ρ) (κ := κ) hV) hcl (iv_in_ok hq3) hd (fun H1 L1 q1 q2 q3 => ?_)
          have e1 : (.inl (κ (o.1 + 3), n, .inr (.inr (.inr (.inr (va_up (fun j => (f j).map ρ) j.toNatClampNeg (some (ρ (v + 3)))))))) : va_E) = iv_e ρ κ (.inl (o.1 + 3, n, .inr (.inr (.inr (.inr (va_up f j.toNatClampNeg (some (v + 3)))))))) := by
            simp only [iv_e, iv_x]
            congr 7
            funext z
            unfold va_up
            split <;> rfl
          rw [e1] at q1 q2
          exact w H1 L1 q1 q2 q3
    · cases hr
  · cases hr
theorem iv_s_len {X : Nat → Option (Nat × (Nat → Int32))} {kk : Nat → Bool} {k : List Value → Option iv_R} (hr : iv_len X kk A st k = some res) (hX : iv_Ro X ρ0 Fr s) (hkk : ∀ q : Nat, kk q = true → ∃ (t0 : Nat) (ty : FieldType), tys[t0]? = some (κ q, ty)) (hx : p.tables.exec = Jvm.exec) (hb : c.code = cc) (hK : va_K D cl tys s) (hd : decode cc pc = .ok (.arraylength, 1))
    (hk : ∀ st', k st' = some res → iv_Wd p l e R s m args below meth c Q D cl κ Fr nL ρ0 n0 (pc + 1) ls st' A cells slots) : iv_Wd p l e R s m args below meth c Q D cl κ Fr nL ρ0 n0 pc ls st A cells slots := by
  unfold iv_len at hr
  split at hr
  · rename_i i rest
    split at hr
    · rename_i n hn
      unfold iv_ln at hn
      split at hn
      · rename_i i'
        split at hn
        · rename_i a hA
          cases hq : kk a.1 with
          | false => rw [hq] at hn; cases hn
          | true =>
            rw [hq] at hn
            obtain rfl := Option.some.inj hn
            obtain ⟨t0, ty, ht⟩ := hkk a.1 hq
            exact iv_s (fun ρ H L lsR _ hP hS h1 w => va_alen hx hb hK hP i' t0 (iv_w_at (ρ := ρ) (κ := κ) hA) ht rfl hd w) (fun _ _ h => iv_c1 (iv_vc_int _) (iv_ct h)) (hk _ hr)
        · cases hn
      · split at hn
        · rename_i a hXi
          obtain ⟨n', f⟩ := a
          obtain rfl := Option.some.inj hn
          obtain ⟨hi3, hT⟩ := hX i n' f hXi
          refine iv_s (fun ρ H L lsR _ hP hS h1 w => ?_) (fun _ _ h => iv_c1 (iv_vc_int _) (iv_ct h)) (hk _ hr)
          show W p l e R s m args below meth c H L cells slots Q (F0 m pc lsR (.ref (ρ i) :: rest.map (iv_r ρ)))
          rw [h1 i (by omega)]
          exact va_tlen hx hb hT hS rfl hd w
        · cases hn
    · cases hr
  · cases hr
/-- one cell comes -/
theorem iv_s_new {N' : Nat} {e0 e1 : va_E} (he : ∀ ρ : Nat → Nat, iv_e ρ κ e0 = e1) (hec : ∀ n, iv_ec n e0) (hst : ∀ w ∈ st', w ∈ st)
    (row : ∀ (ρ : Nat → Nat) (H : Heap) (L : List Loc) (lsR : Array Slot), va_P D cl (iv_w ρ κ A) H → va_D Fr (iv_w ρ κ A) → va_S Fr s.heap H L →
      (∀ (q : Nat) (H1 : Heap), va_P D cl (iv_w ρ κ A ++ [(q, e1)]) H1 → va_D Fr (iv_w ρ κ A ++ [(q, e1)]) → va_S Fr s.heap H1 L → W p l e R s m args below meth c H1 L (cells + 1) (slots + N') Q (F0 m pc' lsR (.ref q :: st'.map (iv_r ρ)))) → W p l e R s m args below meth c H L cells slots Q (F0 m pc lsR (st.map (iv_r ρ))))
    (hk : iv_Wd p l e R s m args below meth c Q D cl κ Fr nL ρ0 n0 pc' ls (.ref (A.length + 3) :: st') (A ++ [e0]) (cells + 1) (slots + N')) : iv_Wd p l e R s m args below meth c Q D cl κ Fr nL ρ0 n0 pc ls st A cells slots := by
  intro ρ H L lsR h1 h2 h3 h4 h5 h6 h7 h8 h9
  refine row ρ H L lsR h7 h8 h9 (fun q H1 q1 q2 q3 => ?_)
  have hρ : ∀ i, i < A.length + 3 → (fun j => if j = A.length + 3 then q else ρ j) i = ρ i := fun i hi => by
    show (if i = A.length + 3 then q else ρ i) = ρ i
    rw [if_neg (by omega)]
  have hw : iv_w (fun j => if j = A.length + 3 then q else ρ j) κ (A ++ [e0]) = iv_w ρ κ A ++ [(q, e1)] := by
    rw [iv_w_push, iv_w_congr hρ h3, he]
    simp
  have hst' : st'.map (iv_r (fun j => if j = A.length + 3 then q else ρ j)) = st'.map (iv_r ρ) := iv_rl_congr hρ (fun w hw => h5 w (hst w hw))
  have h10 := hk (fun j => if j = A.length + 3 then q else ρ j) H1 L lsR (fun i hi => (hρ i (by omega)).trans (h1 i hi)) (by rw [List.length_append]; omega) (iv_hc_push h3 (hec _))
    (fun w hw => iv_vc_mono (h4 w hw) (by rw [List.length_append]; omega))
    (iv_c1 (fun i hi => by cases hi; rw [List.length_append, List.length_singleton]; exact Nat.add_lt_add_right (Nat.lt_succ_self _) 3) (fun w hw => iv_vc_mono (h5 w (hst w hw)) (by rw [List.length_append]; omega)))
    (h6.congr hρ h4) (by rw [hw]; exact q1) (by rw [hw]; exact q2) q3
  have e2 : (Value.ref (A.length + 3) :: st').map (iv_r (fun j => if j = A.length + 3 then q else ρ j)) = .ref q :: st'.map (iv_r ρ) := by
    rw [List.map_cons, hst']
    simp [iv_r]
  rw [e2] at h10
  exact h10
theorem iv_s_obj {ty : Nat → FieldType} {fs : List Value} (hx : p.tables.exec = Jvm.exec) (hb : c.code = cc) (hts : ∀ w ∈ Ts, w.before args s = true) (hin : ∀ w ∈ u_ws C T N, w ∈ Ts) (hty : ∀ k, k < N → parseFieldDescriptor (T k).2.2.1 = some (ty k)) (hown : s.vm.findClass own = some m.cls) (hcl : (Cond.classLink own idx C).before args s = true) (hinst : (Cond.instantiable C N).before args s = true) (hini : (Cond.initialized C).before args s = true)
    (hK : va_K D cl tys s) (hFr : ∀ q, s.heap.size ≤ q → Fr q) (hc : cl[ci]? = some (C, T, N)) (hfs : ∀ j, j < N → defaultValue (ty j) = vp_V fs j) (hnr : ∀ ρ : Nat → Nat, fs.map (iv_r ρ) = fs) (hcells : cells + 1 ≤ R.cells) (hslots : slots + N ≤ R.slots) (hd : decode cc pc = .ok (.new idx, 3))
    (hk : iv_Wd p l e R s m args below meth c Q D cl κ Fr nL ρ0 n0 (pc + 3) ls (.ref (A.length + 3) :: st) (A ++ [.inr (ci, fs)]) (cells + 1) (slots + N)) : iv_Wd p l e R s m args below meth c Q D cl κ Fr nL ρ0 n0 pc ls st A cells slots := by
  refine iv_s_new (e0 := .inr (ci, fs)) (e1 := .inr (ci, fs)) (fun ρ => by simp only [iv_e, hnr]) (fun n v hv i hi => ?_) (fun w hw => hw) (fun ρ H L lsR hP hD hS w => ?_) hk
  · exfalso
    have h1 := hnr (fun _ => i + 1)
    have h2 : v ∈ fs.map (iv_r fun _ => i + 1) := by rw [h1]; exact hv
    obtain ⟨u, hu, hu2⟩ := List.mem_map.mp h2
    rw [hi] at hu2
    cases u with
    | ref z => injection hu2 with q; exact absurd q (Nat.succ_ne_self _)
    | _ => cases hu2
  · exact va_new hx hb hts hin ty hty hown hcl hinst hini hK hP hD hS hFr hc hfs hcells hslots hd w
theorem iv_s_arr {t0 : Nat} {atype : ArrayType} {ty : FieldType} {kd : Nat} {x0 : iv_X} {n : Int32} (hx : p.tables.exec = Jvm.exec) (hb : c.code = cc) (harr : (Cond.arrayClass (newarray.typeOf atype)).before args s = true) (hty : newarray.typeOf atype = ty) (hRA : ∀ cA, va_RA s cA ty → va_RA s (κ kd) ty → cA = κ kd) (hK : va_K D cl tys s) (ht : tys[t0]? = some (κ kd, ty)) (hFr : ∀ q, s.heap.size ≤ q → Fr q)
    (hx0 : ∀ ρ : Nat → Nat, iv_x ρ x0 = x0) (hec : ∀ z, iv_ec z (.inl (kd, n.toNatClampNeg, x0))) (ha : ∀ cA : ClassId, vp_cell cA (n.toNatClampNeg, x0) = arrV cA n.toNatClampNeg (fun _ => defaultValue ty)) (hn : ¬ n < 0) (hbytes : n.toNatClampNeg * componentBytes ty ≤ 536870912) (hcells : cells + 1 ≤ R.cells) (hslots : slots + n.toNatClampNeg ≤ R.slots) (hd : decode cc pc = .ok (.newarray atype, 2))
    (hk : iv_Wd p l e R s m args below meth c Q D cl κ Fr nL ρ0 n0 (pc + 2) ls (.ref (A.length + 3) :: r) (A ++ [.inl (kd, n.toNatClampNeg, x0)]) (cells + 1) (slots + n.toNatClampNeg)) : iv_Wd p l e R s m args below meth c Q D cl κ Fr nL ρ0 n0 pc ls (.int n :: r) A cells slots := by
  refine iv_s_new (e0 := .inl (kd, n.toNatClampNeg, x0)) (e1 := .inl (κ kd, n.toNatClampNeg, x0)) (fun ρ => by simp only [iv_e, hx0]) hec (fun w hw => List.mem_cons_of_mem _ hw) (fun ρ H L lsR hP hD hS w => ?_) hk
  refine va_newa hx hb harr hty hK hP hD hS hFr ha hn rfl hbytes hcells hslots hd (fun q cA H1 q0 q1 q2 q3 => ?_)
  have hA : cA = κ kd := hRA cA (q0.2 tys.length (cA, ty) (by simp)).2 (hK.2 t0 _ ht).2
  subst hA
  exact w q H1 q1 q2 q3
theorem iv_s_arq {t0 : Nat} {n : Int32} (hx : p.tables.exec = Jvm.exec) (hb : c.code = cc) (hown : s.vm.findClass own = some m.cls) (hcl : (Cond.classLink own idx C).before args s = true) (hover : va_AO C s) (hK : va_K D cl tys s) (ht : tys[t0]? = some (κ (ci + 3), .object C)) (hFr : ∀ q, s.heap.size ≤ q → Fr q)
    (hn : ¬ n < 0) (hbytes : n.toNatClampNeg * 4 ≤ 536870912) (hcells : cells + 1 ≤ R.cells) (hslots : slots + n.toNatClampNeg ≤ R.slots) (hd : decode cc pc = .ok (.anewarray idx, 3))
    (hk : iv_Wd p l e R s m args below meth c Q D cl κ Fr nL ρ0 n0 (pc + 3) ls (.ref (A.length + 3) :: r) (A ++ [.inl (ci + 3, n.toNatClampNeg, .inr (.inr (.inr (.inr (fun _ => none)))))]) (cells + 1) (slots + n.toNatClampNeg)) : iv_Wd p l e R s m args below meth c Q D cl κ Fr nL ρ0 n0 pc ls (.int n :: r) A cells slots := by
  refine iv_s_new (e0 := .inl (ci + 3, n.toNatClampNeg, .inr (.inr (.inr (.inr (fun _ => none)))))) (e1 := .inl (κ (ci + 3), n.toNatClampNeg, .inr (.inr (.inr (.inr (fun _ => none)))))) (fun ρ => rfl) (fun z f hf j i hj => ?_) (fun w hw => List.mem_cons_of_mem _ hw) (fun ρ H L lsR hP hD hS w => ?_) hk
  · injection hf with hf
    injection hf with hf
    injection hf with hf
    injection hf with hf
    subst hf
    cases hj
  · refine va_newq hx hb hown hcl hover hK hP hD hS hFr hn rfl hbytes hcells hslots hd (fun q cA H1 q0 q1 q2 q3 => ?_)
    obtain ⟨_, _, _, _, _, h1⟩ := (q0.2 tys.length (cA, .object C) (by simp)).2
    obtain ⟨_, _, _, _, _, h2⟩ := (hK.2 t0 _ ht).2
    have hA : cA = κ (ci + 3) := Option.some.inj (h1.symm.trans h2)
    subst hA
    exact w q H1 q1 q2 q3
end IvI
