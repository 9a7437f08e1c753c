/-! Steps that read, write or make cells. -/
theorem iv_fit_ok {ρ : Nat → Nat} {ty : FieldType} {v : Value} (h : iv_fit ty v = true) : narrow ty (iv_r ρ v) = iv_r ρ v ∧ fits ty (iv_r ρ v) = true := by
  unfold iv_fit at h
  split at h
  · exact ⟨rfl, rfl⟩
  · rename_i x
    simp only [Bool.or_eq_true, beq_iff_eq] at h
    rcases h with rfl | rfl
    · exact ⟨show narrow .boolean (.int 0) = .int 0 from by decide, show fits .boolean (.int 0) = true from by decide⟩
    · exact ⟨show narrow .boolean (.int 1) = .int 1 from by decide, show fits .boolean (.int 1) = true from by decide⟩
  · exact ⟨rfl, rfl⟩
  · exact ⟨rfl, rfl⟩
  · cases h
theorem iv_in_ok {j : Int32} {n : Nat} (h : iv_in j n = true) : vp_in j n := by
  simp only [iv_in, Bool.and_eq_true, Bool.not_eq_true', decide_eq_false_iff_not, decide_eq_true_eq] at h
  intro q
  rcases q with q | q
  · exact h.1 q
  · exact Nat.not_le.mpr h.2 q
section IvH
variable {p : Program} {l : Launch} {e : Env} {R : Room} {s : State} {m : MethodId} {args : Array Value} {below : List Frame} {meth : Method} {c : Code} {Q : State → Prop} {D : va_G} {cl : List vw_C} {κ : Nat → ClassId} {Fr : Nat → Prop} {nL : Nat} {ρ0 : Nat → Nat} {n0 : Nat}
variable {pc pc' : Nat} {ls st st' r : List Value} {A : iv_A} {cells slots : Nat} {cc : ByteArray} {res : iv_R} {tys : List (ClassId × FieldType)} {Ts : List Cond} {own C host : String} {T : u_T} {N ci f idx : Nat}
theorem iv_s_gf {k : List Value → Option iv_R} (hr : iv_gf A ci f st k = some res) (hx : p.tables.exec = Jvm.exec) (hb : c.code = cc) (hts : ∀ w ∈ Ts, w.before args s = true) (hin : ∀ w ∈ u_ws C T N, w ∈ Ts) (hown : s.vm.findClass own = some m.cls) (hK : va_K D cl tys s) (hc : cl[ci]? = some (C, T, N)) (hf : f < N)
    (hlink : (Cond.fieldLink own idx (T f).1 (T f).2.1 (T f).2.2.1).before args s = true ∨ (Cond.fieldLinkNest own idx (T f).1 (T f).2.1 (T f).2.2.1 host).before args s = true) (hd : decode cc pc = .ok (.getfield idx, 3))
    (hk : ∀ st', k st' = some res → iv_Wd p l e R s m args below meth c Q D cl κ Fr nL ρ0 n0 (pc + 3) ls st' A cells slots) : iv_Wd p l e R s m args below meth c Q D cl κ Fr nL ρ0 n0 pc ls st A cells slots := by
  unfold iv_gf at hr
  split at hr
  · rename_i i rest
    split at hr
    · rename_i o ho
      cases hq : Nat.beq o.1 ci with
      | false => rw [hq] at hr; cases hr
      | true =>
        rw [hq] at hr
        obtain ⟨o1, o2⟩ := o
        obtain rfl : o1 = ci := Nat.eq_of_beq_eq_true hq
        simp only [cond_true] at hr
        split at hr
        · rename_i v hv
          refine iv_s (fun ρ H L lsR _ hP _ _ w => ?_) (fun hA _ h => iv_c1 (hA _ _ ho v (List.mem_of_getElem? hv)) (iv_ct h)) (hk _ hr)
          have he := iv_w_at (ρ := ρ) (κ := κ) ho
          have hv' : (o2.map (iv_r ρ))[f]? = some (iv_r ρ v) := by simp [hv]
          rcases hlink with hl | hl
          · exact va_get hx hb hts hin hown hK hP i he hc f hf hl (fun _ h => h) hv' hd w
          · exact va_getN hx hb hts hin hown hK hP i he hc f hf hl (fun _ h => h) hv' hd w
        · cases hr
    · cases hr
  · cases hr
/-- one cell turns -/
theorem iv_s_wr {i : Nat} {e' : va_E} (he : iv_hc A → (∀ v ∈ st, iv_vc A.length v) → iv_ec A.length e') (hst : ∀ w ∈ st', w ∈ st)
    (row : ∀ (ρ : Nat → Nat) (H : Heap) (L : List Loc) (lsR : Array Slot), va_P D cl (iv_w ρ κ A) H → va_D Fr (iv_w ρ κ A) → va_S Fr s.heap H L →
      (∀ (H1 : Heap) (L1 : List Loc), va_P D cl ((iv_w ρ κ A).set i (ρ (i + 3), iv_e ρ κ e')) H1 → va_D Fr ((iv_w ρ κ A).set i (ρ (i + 3), iv_e ρ κ e')) → va_S Fr s.heap H1 L1 → W p l e R s m args below meth c H1 L1 cells slots Q (F0 m pc' lsR (st'.map (iv_r ρ)))) → W p l e R s m args below meth c H L cells slots Q (F0 m pc lsR (st.map (iv_r ρ))))
    (hk : iv_Wd p l e R s m args below meth c Q D cl κ Fr nL ρ0 n0 pc' ls st' (A.set i e') cells slots) : iv_Wd p l e R s m args below meth c Q D cl κ Fr nL ρ0 n0 pc ls st A cells slots := by
  intro ρ H L lsR h1 h2 h3 h4 h5 h6 h7 h8 h9
  refine row ρ H L lsR h7 h8 h9 (fun H1 L1 q1 q2 q3 => ?_)
  rw [iv_w_set] at q1 q2
  refine hk ρ H1 L1 lsR h1 (by rw [List.length_set]; exact h2) (iv_hc_set h3 (he h3 h5)) ?_ ?_ h6 q1 q2 q3
  · rw [List.length_set]; exact h4
  · rw [List.length_set]; exact fun w hw => h5 w (hst w hw)
theorem iv_s_pf {ty : FieldType} {k : iv_A → List Value → Option iv_R} (hr : iv_pf A ci f ty st k = some res) (hx : p.tables.exec = Jvm.exec) (hb : c.code = cc) (hts : ∀ w ∈ Ts, w.before args s = true) (hin : ∀ w ∈ u_ws C T N, w ∈ Ts) (ty0 : Nat → FieldType) (hty : ∀ k, k < N → parseFieldDescriptor (T k).2.2.1 = some (ty0 k)) (hnm : ∀ a, a < N → ∀ b, b < N → a ≠ b → (T a).2.1 ≠ (T b).2.1)
    (hown : s.vm.findClass own = some m.cls) (hK : va_K D cl tys s) (hc : cl[ci]? = some (C, T, N)) (hf : f < N) (hte : ty0 f = ty)
    (hlink : ((T f).2.2.2 = false ∧ ((Cond.fieldLink own idx (T f).1 (T f).2.1 (T f).2.2.1).before args s = true ∨ (Cond.fieldLinkNest own idx (T f).1 (T f).2.1 (T f).2.2.1 host).before args s = true)) ∨
      ((T f).2.2.2 = true ∧ meth.name = "<init>" ∧ (T f).1 = own ∧ (Cond.fieldLink own idx (T f).1 (T f).2.1 (T f).2.2.1).before args s = true)) (hd : decode cc pc = .ok (.putfield idx, 3))
    (hk : ∀ A' st', k A' st' = some res → iv_Wd p l e R s m args below meth c Q D cl κ Fr nL ρ0 n0 (pc + 3) ls st' A' cells slots) : iv_Wd p l e R s m args below meth c Q D cl κ Fr nL ρ0 n0 pc ls st A cells slots := by
  unfold iv_pf at hr
  split at hr
  · rename_i v i rest
    split at hr
    · rename_i o ho
      cases hq : Nat.beq o.1 ci && iv_fit ty v && decide (f < o.2.length) with
      | false => rw [hq] at hr; cases hr
      | true =>
        rw [hq] at hr
        simp only [Bool.and_eq_true, decide_eq_true_eq] at hq
        obtain ⟨o1, o2⟩ := o
        obtain rfl : o1 = ci := Nat.eq_of_beq_eq_true hq.1.1
        refine iv_s_wr (i := i) (e' := .inr (o1, o2.set f v)) (fun hA h w hw => ?_) (fun w hw => List.mem_cons_of_mem _ (List.mem_cons_of_mem _ hw)) (fun ρ H L lsR hP hD hS w => ?_) (hk _ _ hr)
        · rcases List.mem_or_eq_of_mem_set hw with q | q
          · exact hA _ _ ho w q
          · rw [q]; exact iv_ch h
        · have he := iv_w_at (ρ := ρ) (κ := κ) ho
          obtain ⟨hn, hfit⟩ := iv_fit_ok (ρ := ρ) hq.1.2
          have hpd : parseFieldDescriptor (T f).2.2.1 = some ty := by rw [hty f hf, hte]
          have hlen : f < (o2.map (iv_r ρ)).length := by rw [List.length_map]; exact hq.2
          have hset : ∀ (H1 : Heap) (L1 : List Loc), va_P D cl ((iv_w ρ κ A).set i (ρ (i + 3), .inr (o1, (o2.map (iv_r ρ)).set f (iv_r ρ v)))) H1 → va_D Fr ((iv_w ρ κ A).set i (ρ (i + 3), .inr (o1, (o2.map (iv_r ρ)).set f (iv_r ρ v)))) → va_S Fr s.heap H1 L1 → W p l e R s m args below meth c H1 L1 cells slots Q (F0 m (pc + 3) lsR (rest.map (iv_r ρ))) := by
            intro H1 L1 q1 q2 q3
            have e1 : (.inr (o1, (o2.map (iv_r ρ)).set f (iv_r ρ v)) : va_E) = iv_e ρ κ (.inr (o1, o2.set f v)) := by simp only [iv_e, List.map_set]
            rw [e1] at q1 q2
            exact w H1 L1 q1 q2 q3
          rcases hlink with ⟨h0, hl | hl⟩ | ⟨h0, h1, h2, hl⟩
          · exact va_put hx hb hts hin ty0 hty hnm hown hK hP hD hS i he hc f hf hl (fun _ h => h) h0 hpd hn hfit hlen hd hset
          · exact va_putN hx hb hts hin ty0 hty hnm hown hK hP hD hS i he hc f hf hl (fun _ h => h) h0 hpd hn hfit hlen hd hset
          · exact va_putF hx hb hts hin ty0 hty hnm hown hK hP hD hS i he hc f hf hl (fun _ h => h) h0 h1 h2 hpd hn hfit hlen hd hset
    · cases hr
  · cases hr
/-- what is known of the arrays that are only read -/
def iv_Ro (X : Nat → Option (Nat × (Nat → Int32))) (ρ0 : Nat → Nat) (Fr : Nat → Prop) (s : State) : Prop := ∀ i n f, X i = some (n, f) → i < 3 ∧ va_T .int (ρ0 i) n (fun j => .int (f j)) Fr s s.heap
theorem iv_s_ald {X : Nat → Option (Nat × (Nat → Int32))} {t0 : Nat} {k : List Value → Option iv_R} (hr : iv_ald X A 0 st k = some res) (hX : iv_Ro X ρ0 Fr s) (hx : p.tables.exec = Jvm.exec) (hb : c.code = cc) (hK : va_K D cl tys s) (ht : tys[t0]? = some (κ 0, .int)) (hd : decode cc pc = .ok (.iaload, 1))
    (hk : ∀ st', k st' = some res → iv_Wd p l e R s m args below meth c Q D cl κ Fr nL ρ0 n0 (pc + 1) ls st' A cells slots) : iv_Wd p l e R s m args below meth c Q D cl κ Fr nL ρ0 n0 pc ls st A cells slots := by
  unfold iv_ald at hr
  split at hr
  · rename_i j i rest
    split at hr
    · rename_i n f hf
      cases hq : iv_in j n with
      | false => rw [hq] at hr; cases hr
      | true =>
        rw [hq] at hr
        refine iv_s (fun ρ H L lsR _ hP hS h1 w => ?_) (fun hA _ h => iv_c1 (iv_vc_int _) (iv_ct (iv_ct h))) (hk _ hr)
        unfold iv_ia at hf
        split at hf
        · rename_i i'
          split at hf
          · rename_i q n' f' hA
            cases hb2 : Nat.beq q 0 with
            | false => rw [hb2] at hf; cases hf
            | true =>
              rw [hb2] at hf
              obtain rfl : q = 0 := Nat.eq_of_beq_eq_true hb2
              simp only [cond_true, Option.some.injEq, Prod.mk.injEq] at hf
              obtain ⟨rfl, rfl⟩ := hf
              exact va_iald hx hb hK hP i' t0 (iv_w_at (ρ := ρ) (κ := κ) hA) ht (iv_in_ok hq) hd w
          · cases hf
        · rename_i hne
          have hXi : X i = some (n, f) := hf
          obtain ⟨hi3, hT⟩ := hX i n f hXi
          show W p l e R s m args below meth c H L cells slots Q (F0 m pc lsR (.int j :: .ref (ρ i) :: rest.map (iv_r ρ)))
          rw [h1 i (by omega)]
          exact va_ti hx hb hT hS (iv_in_ok hq) rfl hd w
    · cases hr
  · cases hr
theorem iv_s_zld {X : Nat → Option (Nat × (Nat → Int32))} {t0 : Nat} {k : List Value → Option iv_R} (hr : iv_ald X A 1 st k = some res) (hx : p.tables.exec = Jvm.exec) (hb : c.code = cc) (hK : va_K D cl tys s) (ht : tys[t0]? = some (κ 1, .boolean)) (hd : decode cc pc = .ok (.baload, 1))
    (hk : ∀ st', k st' = some res → iv_Wd p l e R s m args below meth c Q D cl κ Fr nL ρ0 n0 (pc + 1) ls st' A cells slots) : iv_Wd p l e R s m args below meth c Q D cl κ Fr nL ρ0 n0 pc ls st A cells slots := by
  unfold iv_ald at hr
  split at hr
  · rename_i j i rest
    split at hr
    · rename_i n f hf
      cases hq : iv_in j n with
      | false => rw [hq] at hr; cases hr
      | true =>
        rw [hq] at hr
        refine iv_s (fun ρ H L lsR _ hP hS h1 w => ?_) (fun hA _ h => iv_c1 (iv_vc_int _) (iv_ct (iv_ct h))) (hk _ hr)
        unfold iv_ia at hf
        split at hf
        · rename_i i'
          split at hf
          · rename_i q n' f' hA
            cases hb2 : Nat.beq q 1 with
            | false => rw [hb2] at hf; cases hf
            | true =>
              rw [hb2] at hf
              obtain rfl : q = 1 := Nat.eq_of_beq_eq_true hb2
              simp only [cond_true, Option.some.injEq, Prod.mk.injEq] at hf
              obtain ⟨rfl, rfl⟩ := hf
              exact va_zald hx hb hK hP i' t0 (iv_w_at (ρ := ρ) (κ := κ) hA) ht (iv_in_ok hq) hd w
          · cases hf
        · cases hf
    · cases hr
  · cases hr
theorem iv_s_ast {kd t0 : Nat} {g : Int32 → Int32} {ty : FieldType} {k : iv_A → List Value → Option iv_R} (hr : iv_ast A kd g st k = some res)
    (row : ∀ (ws : va_W) (H : Heap) (L : List Loc) (lsR : Array Slot) (rest : List Value) (a q0 n : Nat) (f : Nat → Int32) (j x : Int32), va_P D cl ws H → va_D Fr ws → va_S Fr s.heap H L → ws[q0]? = some (a, .inl (κ kd, n, .inl f)) → vp_in j n →
      (∀ (H1 : Heap) (L1 : List Loc), va_P D cl (ws.set q0 (a, .inl (κ kd, n, .inl (upd f j.toNatClampNeg (g x))))) H1 → va_D Fr (ws.set q0 (a, .inl (κ kd, n, .inl (upd f j.toNatClampNeg (g x))))) → va_S Fr s.heap H1 L1 → W p l e R s m args below meth c H1 L1 cells slots Q (F0 m pc' lsR rest)) → W p l e R s m args below meth c H L cells slots Q (F0 m pc lsR (.int x :: .int j :: .ref a :: rest)))
    (hk : ∀ A' st', k A' st' = some res → iv_Wd p l e R s m args below meth c Q D cl κ Fr nL ρ0 n0 pc' ls st' A' cells slots) : iv_Wd p l e R s m args below meth c Q D cl κ Fr nL ρ0 n0 pc ls st A cells slots := by
  unfold iv_ast at hr
  split at hr
  · rename_i x j i rest
    split at hr
    · rename_i q n f hA
      cases hq : Nat.beq q kd && iv_in j n with
      | false => rw [hq] at hr; cases hr
      | true =>
        rw [hq] at hr
        simp only [Bool.and_eq_true] at hq
        obtain rfl : q = kd := Nat.eq_of_beq_eq_true hq.1
        refine iv_s_wr (i := i) (e' := .inl (q, n, .inl (upd f j.toNatClampNeg (g x)))) (fun _ _ f' hf' => by cases hf') (fun w hw => List.mem_cons_of_mem _ (List.mem_cons_of_mem _ (List.mem_cons_of_mem _ hw))) (fun ρ H L lsR hP hD hS w => ?_) (hk _ _ hr)
        exact row (iv_w ρ κ A) H L lsR _ (ρ (i + 3)) i n f j x hP hD hS (iv_w_at (ρ := ρ) (κ := κ) hA) (iv_in_ok hq.2) w
    · cases hr
  · cases hr
theorem iv_s_lld {t0 : Nat} {k : List Value → Option iv_R} (hr : iv_lld A st k = some res) (hx : p.tables.exec = Jvm.exec) (hb : c.code = cc) (hK : va_K D cl tys s) (ht : tys[t0]? = some (κ 2, .long)) (hd : decode cc pc = .ok (.laload, 1))
    (hk : ∀ st', k st' = some res → iv_Wd p l e R s m args below meth c Q D cl κ Fr nL ρ0 n0 (pc + 1) ls st' A cells slots) : iv_Wd p l e R s m args below meth c Q D cl κ Fr nL ρ0 n0 pc ls st A cells slots := by
  unfold iv_lld at hr
  split at hr
  · rename_i j i rest
    split at hr
    · rename_i q n f hA
      cases hq : Nat.beq q 2 && iv_in j n with
      | false => rw [hq] at hr; cases hr
      | true =>
        rw [hq] at hr
        simp only [Bool.and_eq_true] at hq
        obtain rfl : q = 2 := Nat.eq_of_beq_eq_true hq.1
        exact iv_s (fun ρ H L lsR _ hP hS h1 w => va_lald hx hb hK hP i t0 (iv_w_at (ρ := ρ) (κ := κ) hA) ht (iv_in_ok hq.2) hd w) (fun _ _ h => iv_c1 (iv_vc_long _) (iv_ct (iv_ct h))) (hk _ hr)
    · cases hr
  · cases hr
theorem iv_s_lst {t0 : Nat} {k : iv_A → List Value → Option iv_R} (hr : iv_lst A st k = some res) (hx : p.tables.exec = Jvm.exec) (hb : c.code = cc) (hK : va_K D cl tys s) (ht : tys[t0]? = some (κ 2, .long)) (hd : decode cc pc = .ok (.lastore, 1))
    (hk : ∀ A' st', k A' st' = some res → iv_Wd p l e R s m args below meth c Q D cl κ Fr nL ρ0 n0 (pc + 1) ls st' A' cells slots) : iv_Wd p l e R s m args below meth c Q D cl κ Fr nL ρ0 n0 pc ls st A cells slots := by
  unfold iv_lst at hr
  split at hr
  · rename_i x j i rest
    split at hr
    · rename_i q n f hA
      cases hq : Nat.beq q 2 && iv_in j n with
      | false => rw [hq] at hr; cases hr
      | true =>
        rw [hq] at hr
        simp only [Bool.and_eq_true] at hq
        obtain rfl : q = 2 := Nat.eq_of_beq_eq_true hq.1
        refine iv_s_wr (i := i) (e' := .inl (2, n, .inr (.inl (vp_updL f j.toNatClampNeg x)))) (fun _ _ f' hf' => by cases hf') (fun w hw => List.mem_cons_of_mem _ (List.mem_cons_of_mem _ (List.mem_cons_of_mem _ hw))) (fun ρ H L lsR hP hD hS w => ?_) (hk _ _ hr)
        exact va_last hx hb hK hP hD hS i t0 (iv_w_at (ρ := ρ) (κ := κ) hA) ht (iv_in_ok hq.2) hd w
    · cases hr
  · cases hr
end IvH
