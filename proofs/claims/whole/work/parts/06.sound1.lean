/-! One step of the machine of the picture is a walk of the machine itself. -/
def iv_Wd (p : Program) (l : Launch) (e : Env) (R : Room) (s : State) (m : MethodId) (args : Array Value) (below : List Frame) (meth : Method) (c : Code) (Q : State → Prop) (D : va_G) (cl : List vw_C) (κ : Nat → ClassId) (Fr : Nat → Prop) (nL : Nat) (ρ0 : Nat → Nat) (n0 : Nat) (pc : Nat) (ls st : List Value) (A : iv_A) (cells slots : Nat) : Prop :=
  ∀ (ρ : Nat → Nat) (H : Heap) (locs : List Loc) (lsR : Array Slot), (∀ i, i < n0 + 3 → ρ i = ρ0 i) → n0 ≤ A.length → iv_hc A → (∀ v ∈ ls, iv_vc A.length v) → (∀ v ∈ st, iv_vc A.length v) → iv_L ρ nL ls lsR →
    va_P D cl (iv_w ρ κ A) H → va_D Fr (iv_w ρ κ A) → va_S Fr s.heap H locs → W p l e R s m args below meth c H locs cells slots Q (F0 m pc lsR (st.map (iv_r ρ)))
section IvG
variable {p : Program} {l : Launch} {e : Env} {R : Room} {s : State} {m : MethodId} {args : Array Value} {below : List Frame} {meth : Method} {c : Code} {Q : State → Prop} {D : va_G} {cl : List vw_C} {κ : Nat → ClassId} {Fr : Nat → Prop} {nL : Nat} {ρ0 : Nat → Nat} {n0 : Nat}
variable {pc pc' : Nat} {ls st st' r : List Value} {A : iv_A} {cells slots : Nat} {cc : ByteArray} {res : iv_R}
/-- the stack alone turns -/
theorem iv_s (row : ∀ (ρ : Nat → Nat) (H : Heap) (L : List Loc) (lsR : Array Slot), iv_L ρ nL ls lsR → va_P D cl (iv_w ρ κ A) H → va_S Fr s.heap H L → (∀ i, i < n0 + 3 → ρ i = ρ0 i) → W p l e R s m args below meth c H L cells slots Q (F0 m pc' lsR (st'.map (iv_r ρ))) → W p l e R s m args below meth c H L cells slots Q (F0 m pc lsR (st.map (iv_r ρ))))
    (hc : iv_hc A → (∀ v ∈ ls, iv_vc A.length v) → (∀ v ∈ st, iv_vc A.length v) → ∀ v ∈ st', iv_vc A.length v) (hk : iv_Wd p l e R s m args below meth c Q D cl κ Fr nL ρ0 n0 pc' ls st' A cells slots) : iv_Wd p l e R s m args below meth c Q D cl κ Fr nL ρ0 n0 pc ls st A cells slots :=
  fun ρ H L lsR h1 h2 h3 h4 h5 h6 h7 h8 h9 => row ρ H L lsR h6 h7 h9 h1 (hk ρ H L lsR h1 h2 h3 h4 (hc h3 h4 h5) h6 h7 h8 h9)
theorem iv_c1 {n : Nat} {v : Value} (hv : iv_vc n v) (h : ∀ v ∈ r, iv_vc n v) : ∀ w ∈ v :: r, iv_vc n w := fun w hw => by
  rcases List.mem_cons.mp hw with rfl | h1
  · exact hv
  · exact h w h1
theorem iv_ct {n : Nat} {v : Value} (h : ∀ w ∈ v :: r, iv_vc n w) : ∀ w ∈ r, iv_vc n w := fun w hw => h w (List.mem_cons_of_mem _ hw)
theorem iv_ch {n : Nat} {v : Value} (h : ∀ w ∈ v :: r, iv_vc n w) : iv_vc n v := h v (List.mem_cons_self ..)
theorem iv_s_push (x : Int32) (row : ∀ (H : Heap) (L : List Loc) (lsR : Array Slot) (rest : List Value), W p l e R s m args below meth c H L cells slots Q (F0 m pc' lsR (.int x :: rest)) → W p l e R s m args below meth c H L cells slots Q (F0 m pc lsR rest))
    (hk : iv_Wd p l e R s m args below meth c Q D cl κ Fr nL ρ0 n0 pc' ls (.int x :: st) A cells slots) : iv_Wd p l e R s m args below meth c Q D cl κ Fr nL ρ0 n0 pc ls st A cells slots :=
  iv_s (fun ρ H L lsR _ _ _ _ w => row H L lsR _ w) (fun _ _ h => iv_c1 (iv_vc_int x) h) hk
theorem iv_s_bin {f : Int32 → Int32 → Int32} {k : List Value → Option iv_R} (hr : iv_bin f st k = some res)
    (row : ∀ (H : Heap) (L : List Loc) (lsR : Array Slot) (rest : List Value) (x y : Int32), W p l e R s m args below meth c H L cells slots Q (F0 m pc' lsR (.int (f x y) :: rest)) → W p l e R s m args below meth c H L cells slots Q (F0 m pc lsR (.int y :: .int x :: rest)))
    (hk : ∀ st', k st' = some res → iv_Wd p l e R s m args below meth c Q D cl κ Fr nL ρ0 n0 pc' ls st' A cells slots) : iv_Wd p l e R s m args below meth c Q D cl κ Fr nL ρ0 n0 pc ls st A cells slots := by
  unfold iv_bin at hr
  split at hr
  · exact iv_s (fun ρ H L lsR _ _ _ _ w => row H L lsR _ _ _ w) (fun _ _ h => iv_c1 (iv_vc_int _) (iv_ct (iv_ct h))) (hk _ hr)
  · cases hr
theorem iv_s_dv {f : Int32 → Int32 → Int32} {k : List Value → Option iv_R} (hr : iv_dv f st k = some res)
    (row : ∀ (H : Heap) (L : List Loc) (lsR : Array Slot) (rest : List Value) (x y : Int32), ¬ y = 0 → W p l e R s m args below meth c H L cells slots Q (F0 m pc' lsR (.int (f x y) :: rest)) → W p l e R s m args below meth c H L cells slots Q (F0 m pc lsR (.int y :: .int x :: rest)))
    (hk : ∀ st', k st' = some res → iv_Wd p l e R s m args below meth c Q D cl κ Fr nL ρ0 n0 pc' ls st' A cells slots) : iv_Wd p l e R s m args below meth c Q D cl κ Fr nL ρ0 n0 pc ls st A cells slots := by
  unfold iv_dv at hr
  split at hr
  · rename_i y x rest
    cases hy : y == 0 with
    | true => rw [hy] at hr; cases hr
    | false =>
      rw [hy] at hr
      exact iv_s (fun ρ H L lsR _ _ _ _ w => row H L lsR _ _ _ (by simpa using hy) w) (fun _ _ h => iv_c1 (iv_vc_int _) (iv_ct (iv_ct h))) (hk _ hr)
  · cases hr
theorem iv_s_ldi {i : Nat} {k : Value → Option iv_R} (hr : iv_ldi ls i k = some res)
    (row : ∀ (H : Heap) (L : List Loc) (lsR : Array Slot) (rest : List Value) (x : Int32), lsR[i]? = some (.val (.int x)) → W p l e R s m args below meth c H L cells slots Q (F0 m pc' lsR (.int x :: rest)) → W p l e R s m args below meth c H L cells slots Q (F0 m pc lsR rest))
    (hk : ∀ v, k v = some res → iv_Wd p l e R s m args below meth c Q D cl κ Fr nL ρ0 n0 pc' ls (v :: st) A cells slots) : iv_Wd p l e R s m args below meth c Q D cl κ Fr nL ρ0 n0 pc ls st A cells slots := by
  unfold iv_ldi at hr
  split at hr
  · rename_i x hx
    exact iv_s (fun ρ H L lsR hL _ _ _ w => row H L lsR _ x (hL.get hx rfl) w) (fun _ _ h => iv_c1 (iv_vc_int _) h) (hk _ hr)
  · cases hr
theorem iv_s_lda {i : Nat} {k : Value → Option iv_R} (hr : iv_lda ls i k = some res)
    (row : ∀ (H : Heap) (L : List Loc) (lsR : Array Slot) (rest : List Value) (x : Nat), lsR[i]? = some (.val (.ref x)) → W p l e R s m args below meth c H L cells slots Q (F0 m pc' lsR (.ref x :: rest)) → W p l e R s m args below meth c H L cells slots Q (F0 m pc lsR rest))
    (hk : ∀ v, k v = some res → iv_Wd p l e R s m args below meth c Q D cl κ Fr nL ρ0 n0 pc' ls (v :: st) A cells slots) : iv_Wd p l e R s m args below meth c Q D cl κ Fr nL ρ0 n0 pc ls st A cells slots := by
  unfold iv_lda at hr
  split at hr
  · rename_i x hx
    exact iv_s (fun ρ H L lsR hL _ _ _ w => row H L lsR _ (ρ x) (hL.get hx rfl) w) (fun _ hl h => iv_c1 (hl _ (List.mem_of_getElem? hx)) h) (hk _ hr)
  · cases hr
/-- the locals and the stack turn -/
theorem iv_s_loc {i : Nat} {v : Value} (hi : i < ls.length) (hv : v.category = 1) (hvc : (∀ v ∈ ls, iv_vc A.length v) → (∀ w ∈ st, iv_vc A.length w) → iv_vc A.length v) (hst : ∀ w ∈ st', w ∈ st)
    (row : ∀ (ρ : Nat → Nat) (H : Heap) (L : List Loc) (lsR : Array Slot), iv_L ρ nL ls lsR → i < nL → lv_has lsR nL (iv_ll ρ ls) →
      (∀ ls' : Array Slot, lv_has ls' nL ((i, iv_r ρ v) :: (iv_ll ρ ls).filter (fun q => !(q.1 == i) && !(q.1 + 1 == i && q.2.category == 2))) → W p l e R s m args below meth c H L cells slots Q (F0 m pc' ls' (st'.map (iv_r ρ)))) → W p l e R s m args below meth c H L cells slots Q (F0 m pc lsR (st.map (iv_r ρ))))
    (hk : iv_Wd p l e R s m args below meth c Q D cl κ Fr nL ρ0 n0 pc' (ls.set i v) st' A cells slots) : iv_Wd p l e R s m args below meth c Q D cl κ Fr nL ρ0 n0 pc ls st A cells slots := by
  intro ρ H L lsR h1 h2 h3 h4 h5 h6 h7 h8 h9
  refine row ρ H L lsR h6 (by rw [← h6.1]; exact hi) h6.has (fun ls' h' => ?_)
  refine hk ρ H L ls' h1 h2 h3 (fun w hw => ?_) (fun w hw => h5 w (hst w hw)) (h6.put hi hv h') h7 h8 h9
  rcases List.mem_or_eq_of_mem_set hw with q | q
  · exact h4 w q
  · rw [q]; exact hvc h4 h5
theorem iv_s_sti {i : Nat} {k : List Value → List Value → Option iv_R} (hr : iv_sti ls i st k = some res)
    (row : ∀ (H : Heap) (L : List Loc) (lsR : Array Slot) (lv : List (Nat × Value)) (rest : List Value) (x : Int32), lv_has lsR nL lv → i < nL →
      (∀ ls' : Array Slot, lv_has ls' nL ((i, Value.int x) :: lv.filter (fun q => !(q.1 == i) && !(q.1 + 1 == i && q.2.category == 2))) → W p l e R s m args below meth c H L cells slots Q (F0 m pc' ls' rest)) → W p l e R s m args below meth c H L cells slots Q (F0 m pc lsR (.int x :: rest)))
    (hk : ∀ ls' st', k ls' st' = some res → iv_Wd p l e R s m args below meth c Q D cl κ Fr nL ρ0 n0 pc' ls' st' A cells slots) : iv_Wd p l e R s m args below meth c Q D cl κ Fr nL ρ0 n0 pc ls st A cells slots := by
  unfold iv_sti at hr
  split at hr
  · rename_i x rest
    cases hd : decide (i < ls.length) with
    | false => rw [hd] at hr; cases hr
    | true =>
      rw [hd] at hr
      exact iv_s_loc (v := .int x) (of_decide_eq_true hd) rfl (fun _ _ => iv_vc_int x) (fun w hw => List.mem_cons_of_mem _ hw) (fun ρ H L lsR _ h1 h2 w => row H L lsR _ _ x h2 h1 w) (hk _ _ hr)
  · cases hr
theorem iv_s_sta {i : Nat} {k : List Value → List Value → Option iv_R} (hr : iv_sta ls i st k = some res)
    (row : ∀ (H : Heap) (L : List Loc) (lsR : Array Slot) (lv : List (Nat × Value)) (rest : List Value) (x : Nat), lv_has lsR nL lv → i < nL →
      (∀ ls' : Array Slot, lv_has ls' nL ((i, Value.ref x) :: lv.filter (fun q => !(q.1 == i) && !(q.1 + 1 == i && q.2.category == 2))) → W p l e R s m args below meth c H L cells slots Q (F0 m pc' ls' rest)) → W p l e R s m args below meth c H L cells slots Q (F0 m pc lsR (.ref x :: rest)))
    (hk : ∀ ls' st', k ls' st' = some res → iv_Wd p l e R s m args below meth c Q D cl κ Fr nL ρ0 n0 pc' ls' st' A cells slots) : iv_Wd p l e R s m args below meth c Q D cl κ Fr nL ρ0 n0 pc ls st A cells slots := by
  unfold iv_sta at hr
  split at hr
  · rename_i x rest
    cases hd : decide (i < ls.length) with
    | false => rw [hd] at hr; cases hr
    | true =>
      rw [hd] at hr
      exact iv_s_loc (v := .ref x) (of_decide_eq_true hd) rfl (fun _ h => iv_ch h) (fun w hw => List.mem_cons_of_mem _ hw) (fun ρ H L lsR _ h1 h2 w => row H L lsR _ _ (ρ x) h2 h1 w) (hk _ _ hr)
  · cases hr
theorem iv_s_inc {i : Nat} {z : Int} {k : List Value → Option iv_R} (hr : iv_inc ls i z k = some res) (hx : p.tables.exec = Jvm.exec) (hb : c.code = cc) (hd : decode cc pc = .ok (.iinc i z, 3))
    (hk : ∀ ls', k ls' = some res → iv_Wd p l e R s m args below meth c Q D cl κ Fr nL ρ0 n0 (pc + 3) ls' st A cells slots) : iv_Wd p l e R s m args below meth c Q D cl κ Fr nL ρ0 n0 pc ls st A cells slots := by
  unfold iv_inc at hr
  split at hr
  · rename_i x hxi
    have hi : i < ls.length := (List.getElem?_eq_some_iff.mp hxi).1
    refine iv_s_loc (v := .int (x + Int32.ofInt z)) hi rfl (fun _ _ => iv_vc_int _) (fun w hw => hw) (fun ρ H L lsR _ h1 h2 w => ?_) (hk _ hr)
    obtain ⟨q, hq⟩ := List.getElem?_of_mem (iv_ll_mem (ρ := ρ) (q := (i, .int x)).mpr ⟨.int x, hxi, rfl, rfl⟩)
    exact lv_iinc hx hb hd h2 hq rfl h1 rfl w
  · cases hr
theorem iv_s_jp {off : Int} {k : Nat → Option iv_R} (hr : iv_jp pc off k = some res) (hx : p.tables.exec = Jvm.exec) (hb : c.code = cc) (hd : decode cc pc = .ok (.goto off, 3))
    (hk : ∀ t, k t = some res → iv_Wd p l e R s m args below meth c Q D cl κ Fr nL ρ0 n0 t ls st A cells slots) : iv_Wd p l e R s m args below meth c Q D cl κ Fr nL ρ0 n0 pc ls st A cells slots := by
  unfold iv_jp at hr
  split at hr
  · rename_i t ht
    exact iv_s (fun ρ H L lsR _ _ _ _ w => lv_goto hx hb hd ht w) (fun _ _ h => h) (hk _ hr)
  · cases hr
theorem iv_icmp {H : Heap} {L : List Loc} {lsR : Array Slot} {rest : List Value} (hx : p.tables.exec = Jvm.exec) (hb : c.code = cc) {q : ClassFile.Cond} {off : Int} {tgt : Nat} {x y : Int32} (hd : decode cc pc = .ok (.if_icmp q off, 3)) (ht : (pc : Int) + off = (tgt : Int))
    (kt : Op.if_icmp.holds q x y = true → W p l e R s m args below meth c H L cells slots Q (F0 m tgt lsR rest)) (kf : Op.if_icmp.holds q x y = false → W p l e R s m args below meth c H L cells slots Q (F0 m (pc + 3) lsR rest)) : W p l e R s m args below meth c H L cells slots Q (F0 m pc lsR (.int y :: .int x :: rest)) := by
  intro T hT X
  cases hP : Op.if_icmp.holds q x y with
  | true =>
    obtain ⟨t, a, b⟩ := kt hP T hT X
    refine ⟨t, ?_, b⟩
    jvm_step X.here [X.here.top, hx, hb, hd, hP, ht]
    exact a
  | false =>
    obtain ⟨t, a, b⟩ := kf hP T hT X
    refine ⟨t, ?_, b⟩
    jvm_step X.here [X.here.top, hx, hb, hd, hP, ht]
    exact a
theorem iv_ifc {H : Heap} {L : List Loc} {lsR : Array Slot} {rest : List Value} (hx : p.tables.exec = Jvm.exec) (hb : c.code = cc) {q : ClassFile.Cond} {off : Int} {tgt : Nat} {x : Int32} (hd : decode cc pc = .ok (.ifCond q off, 3)) (ht : (pc : Int) + off = (tgt : Int))
    (kt : Op.ifCond.holds q x = true → W p l e R s m args below meth c H L cells slots Q (F0 m tgt lsR rest)) (kf : Op.ifCond.holds q x = false → W p l e R s m args below meth c H L cells slots Q (F0 m (pc + 3) lsR rest)) : W p l e R s m args below meth c H L cells slots Q (F0 m pc lsR (.int x :: rest)) := by
  intro T hT X
  cases hP : Op.ifCond.holds q x with
  | true =>
    obtain ⟨t, a, b⟩ := kt hP T hT X
    refine ⟨t, ?_, b⟩
    jvm_step X.here [X.here.top, hx, hb, hd, hP, ht]
    exact a
  | false =>
    obtain ⟨t, a, b⟩ := kf hP T hT X
    refine ⟨t, ?_, b⟩
    jvm_step X.here [X.here.top, hx, hb, hd, hP, ht]
    exact a
/-- both roads of a branch -/
theorem iv_s_if2 {q : ClassFile.Cond} {off : Int} {kt kf : List Value → Option iv_R} (hr : iv_if2 (Op.if_icmp.holds q) st kt kf = some res) (hx : p.tables.exec = Jvm.exec) (hb : c.code = cc) {tgt : Nat} (hd : decode cc pc = .ok (.if_icmp q off, 3)) (ht : (pc : Int) + off = (tgt : Int))
    (hkt : ∀ st', kt st' = some res → iv_Wd p l e R s m args below meth c Q D cl κ Fr nL ρ0 n0 tgt ls st' A cells slots) (hkf : ∀ st', kf st' = some res → iv_Wd p l e R s m args below meth c Q D cl κ Fr nL ρ0 n0 (pc + 3) ls st' A cells slots) : iv_Wd p l e R s m args below meth c Q D cl κ Fr nL ρ0 n0 pc ls st A cells slots := by
  unfold iv_if2 at hr
  split at hr
  · rename_i y x rest
    intro ρ H L lsR h1 h2 h3 h4 h5 h6 h7 h8 h9
    refine iv_icmp hx hb hd ht (fun hP => ?_) (fun hP => ?_)
    · rw [hP] at hr
      exact hkt _ hr ρ H L lsR h1 h2 h3 h4 (iv_ct (iv_ct h5)) h6 h7 h8 h9
    · rw [hP] at hr
      exact hkf _ hr ρ H L lsR h1 h2 h3 h4 (iv_ct (iv_ct h5)) h6 h7 h8 h9
  · cases hr
theorem iv_s_if1 {q : ClassFile.Cond} {off : Int} {kt kf : List Value → Option iv_R} (hr : iv_if1 (Op.ifCond.holds q) st kt kf = some res) (hx : p.tables.exec = Jvm.exec) (hb : c.code = cc) {tgt : Nat} (hd : decode cc pc = .ok (.ifCond q off, 3)) (ht : (pc : Int) + off = (tgt : Int))
    (hkt : ∀ st', kt st' = some res → iv_Wd p l e R s m args below meth c Q D cl κ Fr nL ρ0 n0 tgt ls st' A cells slots) (hkf : ∀ st', kf st' = some res → iv_Wd p l e R s m args below meth c Q D cl κ Fr nL ρ0 n0 (pc + 3) ls st' A cells slots) : iv_Wd p l e R s m args below meth c Q D cl κ Fr nL ρ0 n0 pc ls st A cells slots := by
  unfold iv_if1 at hr
  split at hr
  · rename_i x rest
    intro ρ H L lsR h1 h2 h3 h4 h5 h6 h7 h8 h9
    refine iv_ifc hx hb hd ht (fun hP => ?_) (fun hP => ?_)
    · rw [hP] at hr
      exact hkt _ hr ρ H L lsR h1 h2 h3 h4 (iv_ct h5) h6 h7 h8 h9
    · rw [hP] at hr
      exact hkf _ hr ρ H L lsR h1 h2 h3 h4 (iv_ct h5) h6 h7 h8 h9
  · cases hr
theorem iv_s_dup {k : List Value → Option iv_R} (hr : iv_dup st k = some res) (hx : p.tables.exec = Jvm.exec) (hb : c.code = cc) (hd : decode cc pc = .ok (.dup, 1))
    (hk : ∀ st', k st' = some res → iv_Wd p l e R s m args below meth c Q D cl κ Fr nL ρ0 n0 (pc + 1) ls st' A cells slots) : iv_Wd p l e R s m args below meth c Q D cl κ Fr nL ρ0 n0 pc ls st A cells slots := by
  unfold iv_dup at hr
  split at hr
  · exact iv_s (fun ρ H L lsR _ _ _ _ w => lv_dup hx hb hd rfl w) (fun _ _ h => iv_c1 (iv_ch h) h) (hk _ hr)
  · exact iv_s (fun ρ H L lsR _ _ _ _ w => lv_dup hx hb hd rfl w) (fun _ _ h => iv_c1 (iv_ch h) h) (hk _ hr)
  · cases hr
theorem iv_s_dup2 {k : List Value → Option iv_R} (hr : iv_dup2 st k = some res) (hx : p.tables.exec = Jvm.exec) (hb : c.code = cc) (hd : decode cc pc = .ok (.dup2, 1))
    (hk : ∀ st', k st' = some res → iv_Wd p l e R s m args below meth c Q D cl κ Fr nL ρ0 n0 (pc + 1) ls st' A cells slots) : iv_Wd p l e R s m args below meth c Q D cl κ Fr nL ρ0 n0 pc ls st A cells slots := by
  unfold iv_dup2 at hr
  split at hr
  · exact iv_s (fun ρ H L lsR _ _ _ _ w => lv_dup2_11 hx hb hd rfl rfl w) (fun _ _ h => iv_c1 (iv_ch h) (iv_c1 (iv_ch (iv_ct h)) h)) (hk _ hr)
  · cases hr
theorem iv_s_i2l {k : List Value → Option iv_R} (hr : iv_i2l st k = some res) (hx : p.tables.exec = Jvm.exec) (hb : c.code = cc) (hd : decode cc pc = .ok (.i2l, 1))
    (hk : ∀ st', k st' = some res → iv_Wd p l e R s m args below meth c Q D cl κ Fr nL ρ0 n0 (pc + 1) ls st' A cells slots) : iv_Wd p l e R s m args below meth c Q D cl κ Fr nL ρ0 n0 pc ls st A cells slots := by
  unfold iv_i2l at hr
  split at hr
  · exact iv_s (fun ρ H L lsR _ _ _ _ w => lv_i2l hx hb hd rfl w) (fun _ _ h => iv_c1 (iv_vc_long _) (iv_ct h)) (hk _ hr)
  · cases hr
theorem iv_s_lcmp {k : List Value → Option iv_R} (hr : iv_lcmp st k = some res) (hx : p.tables.exec = Jvm.exec) (hb : c.code = cc) (hd : decode cc pc = .ok (.lcmp, 1))
    (hk : ∀ st', k st' = some res → iv_Wd p l e R s m args below meth c Q D cl κ Fr nL ρ0 n0 (pc + 1) ls st' A cells slots) : iv_Wd p l e R s m args below meth c Q D cl κ Fr nL ρ0 n0 pc ls st A cells slots := by
  unfold iv_lcmp at hr
  split at hr
  · exact iv_s (fun ρ H L lsR _ _ _ _ w => W.lcmp hx hb hd w) (fun _ _ h => iv_c1 (iv_vc_int _) (iv_ct (iv_ct h))) (hk _ hr)
  · cases hr
theorem iv_s_tsw {lo hi dflt : Int} {offs : Array Int} {len : Nat} {k : Int → List Value → Option iv_R} (hr : iv_tsw lo hi dflt offs st k = some res) (hx : p.tables.exec = Jvm.exec) (hb : c.code = cc) (hd : decode cc pc = .ok (.tableswitch dflt lo hi offs, len))
    (hk : ∀ o st', k o st' = some res → ∃ tgt : Nat, (pc : Int) + o = (tgt : Int) ∧ iv_Wd p l e R s m args below meth c Q D cl κ Fr nL ρ0 n0 tgt ls st' A cells slots) : iv_Wd p l e R s m args below meth c Q D cl κ Fr nL ρ0 n0 pc ls st A cells slots := by
  unfold iv_tsw at hr
  split at hr
  · rename_i x rest
    cases hb1 : decide (x.toInt < lo) || decide (hi < x.toInt) with
    | true =>
      rw [hb1] at hr
      obtain ⟨tgt, ht, hw⟩ := hk _ _ hr
      exact iv_s (fun ρ H L lsR _ _ _ _ w => lv_tableOut hx hb hd (by simpa using hb1) ht w) (fun _ _ h => iv_ct h) hw
    | false =>
      rw [hb1] at hr
      have h2 : ¬ x.toInt < lo ∧ ¬ hi < x.toInt := by simpa using hb1
      simp only [cond_false] at hr
      split at hr
      · rename_i o ho
        obtain ⟨tgt, ht, hw⟩ := hk _ _ hr
        exact iv_s (fun ρ H L lsR _ _ _ _ w => lv_tableIn hx hb hd h2.1 h2.2 ho ht w) (fun _ _ h => iv_ct h) hw
      · cases hr
  · cases hr
end IvG
