/-! Answers, calls, throws. -/
theorem iv_sum {vs : List Value} (h : vs.length ≤ 4) : (vs.map fun v => v.category).sum ≤ 8 := by
  have key : ∀ l : List Value, (l.map fun v => v.category).sum ≤ 2 * l.length := by
    intro l
    induction l with
    | nil => simp
    | cons v t ih =>
      rw [List.map_cons, List.sum_cons, List.length_cons]
      have : v.category ≤ 2 := by rcases lv_cat v with h | h <;> omega
      omega
  have := key vs
  omega
theorem iv_sumr {ρ : Nat → Nat} {vs : List Value} (h : vs.length ≤ 4) : ((vs.map (iv_r ρ)).map fun v => v.category).sum ≤ 8 := iv_sum (by rw [List.length_map]; exact h)
theorem iv_end_ok {mi c s : Nat} {r0 r : iv_R} (h : iv_end mi c s r0 = some r) : c ≤ (iv_rm mi).cells ∧ s ≤ (iv_rm mi).slots ∧ r = r0 := by
  unfold iv_end at h
  cases hb : Nat.ble c (iv_rm mi).cells && Nat.ble s (iv_rm mi).slots with
  | false => rw [hb] at h; cases h
  | true =>
    rw [hb] at h
    simp only [Bool.and_eq_true] at hb
    exact ⟨Nat.le_of_ble_eq_true hb.1, Nat.le_of_ble_eq_true hb.2, (Option.some.inj h).symm⟩
section IvJ
variable {p : Program} {l : Launch} {e : Env} {s : State} {m : MethodId} {args : Array Value} {below : List Frame} {meth : Method} {c : Code} {D : va_G} {κ : Nat → ClassId} {Fr : Nat → Prop} {ρ0 : Nat → Nat} {n0 : Nat} {X : Nat → Option (Nat × (Nat → Int32))} {K : iv_K}
variable {mi mj pc : Nat} {ls st as rest : List Value} {A : iv_A} {cells slots : Nat} {res : iv_R}
theorem iv_Fsub {ρ : Nat → Nat} {H0 H : Heap} {locs : List Loc} (hD : va_D Fr (iv_w ρ κ A)) (hS : va_S Fr H0 H locs) (hFr : ∀ q, H0.size ≤ q → Fr q) : ∀ q, va_A (iv_w ρ κ A) H.size q → Fr q := by
  intro q h
  rcases h with ⟨k, x, h⟩ | h
  · exact hD.2 k (q, x) h
  · exact hFr q (Nat.le_trans hS.1 h)
theorem iv_S_comp {Fr' : Nat → Prop} {H0 H : Heap} {L L' : List Loc} {st t : State} (h9 : va_S Fr H0 H L) (hst : st.heap = H) (h : va_F Fr' st t) (hF : ∀ q, Fr' q → Fr q) (hL : ∀ q ∈ L', Fr' q.base) : va_S Fr H0 t.heap (L ++ L') := by
  obtain ⟨f1, f2⟩ := h
  rw [hst] at f1 f2
  refine ⟨Nat.le_trans h9.1 f1, fun q hq hn => ?_, fun q hq => ?_⟩
  · rw [f2 q (Nat.lt_of_lt_of_le hq h9.1) (fun h => hn (hF q h))]
    exact h9.2.1 q hq hn
  · rcases List.mem_append.mp hq with h1 | h1
    · exact h9.2.2 q h1
    · exact hF _ (hL q h1)
theorem iv_s_ret {x : Int32} {ty : FieldType} (hC : iv_Cx p l s m args meth c mi D κ Fr ρ0 X) (hrt : iv_rt mi = some ty) (hfit : iv_fit ty (.int x) = true) (hend : iv_end mi cells slots (.inl (some (.int x)), A) = some res) (hd : decode (iv_b mi) pc = .ok (.ireturn, 1)) : iv_Wd p l e (iv_rm mi) s m args below meth c (iv_MQ below (iv_Q D κ ρ0 n0 res Fr) args s (iv_rm mi).cells (iv_rm mi).slots Fr) D iv_cl κ Fr (iv_nL mi) ρ0 n0 pc ls [.int x] A cells slots := by
  obtain ⟨hx, hb, hml, hr, hown, hlk, hnm, htab, hts, hEv, hFr, htr⟩ := hC
  obtain ⟨e1, e2, rfl⟩ := iv_end_ok hend
  intro ρ H L lsR h1 h2 h3 h4 h5 h6 h7 h8 h9
  refine iv_mono iv_MQ.of (W.widen e1 e2 (W.zret (ty := ty) hx hb (by rw [hr, hrt]) (iv_fit_ok (ρ := ρ) hfit).1 (fun t ht _ => ⟨⟨ρ, h1, rfl, by rw [ht]; exact h7, h8, h3, h2, fun w hw => ?_⟩, h9.F ht⟩) h9.2.2 hd hlk))
  obtain rfl := Option.some.inj hw
  exact iv_vc_int x
theorem iv_s_vret (hC : iv_Cx p l s m args meth c mi D κ Fr ρ0 X) (hrt : iv_rt mi = none) (hend : iv_end mi cells slots (.inl none, A) = some res) (hd : decode (iv_b mi) pc = .ok (.return_, 1)) : iv_Wd p l e (iv_rm mi) s m args below meth c (iv_MQ below (iv_Q D κ ρ0 n0 res Fr) args s (iv_rm mi).cells (iv_rm mi).slots Fr) D iv_cl κ Fr (iv_nL mi) ρ0 n0 pc ls [] A cells slots := by
  obtain ⟨hx, hb, hml, hr, hown, hlk, hnm, htab, hts, hEv, hFr, htr⟩ := hC
  obtain ⟨e1, e2, rfl⟩ := iv_end_ok hend
  intro ρ H L lsR h1 h2 h3 h4 h5 h6 h7 h8 h9
  refine iv_mono iv_MQ.of (W.widen e1 e2 (W.vret hx hb (by rw [hr, hrt]) (fun t ht _ => ⟨⟨ρ, h1, rfl, by rw [ht]; exact h7, h8, h3, h2, fun w hw => ?_⟩, h9.F ht⟩) h9.2.2 hd hlk))
  cases hw
/-- a thrown object of the picture: caught here, or the method ends -/
theorem iv_s_thr (hK : ∀ mi pc ls st A c s r, K mi pc ls st A c s = some r → iv_G l D κ X mi pc ls st A c s r) (hC : iv_Cx p l s m args meth c mi D κ Fr ρ0 X) {x0 : Nat} (hr : iv_thr K mi pc ls A cells slots x0 = some res) {ρ : Nat → Nat} {H : Heap} {L : List Loc} {lsR : Array Slot}
    (h1 : ∀ i, i < n0 + 3 → ρ i = ρ0 i) (h2 : n0 ≤ A.length) (h3 : iv_hc A) (h4 : ∀ v ∈ ls, iv_vc A.length v) (h6 : iv_L ρ (iv_nL mi) ls lsR) (h7 : va_P D iv_cl (iv_w ρ κ A) H) (h8 : va_D Fr (iv_w ρ κ A)) (h9 : va_S Fr s.heap H L)
    {T : State} (hT : T.heap = H) (XT : Stand p l e (iv_rm mi) s m args below meth c T L cells slots) {rs : List Value} :
    ∃ u, Steps p.tables e below ((T.setTop (F0 m pc lsR rs)).pushFrame (.throwing (ρ x0))) u ∧ iv_MQ below (iv_Q D κ ρ0 n0 res Fr) args s (iv_rm mi).cells (iv_rm mi).slots Fr u := by
  have hC' := hC
  obtain ⟨hx, hb, hml, hrt, hown, hlk, hnm, htab, hts, hEv, hFr, htr⟩ := hC
  unfold iv_thr at hr
  split at hr
  · rename_i y
    split at hr
    · rename_i o hA
      have hy : y < A.length := (List.getElem?_eq_some_iff.mp hA).1
      cases hxc : iv_xc o.1 && Nat.blt o.1 10 with
      | false => rw [hxc] at hr; cases hr
      | true =>
        rw [hxc] at hr
        simp only [cond_true] at hr
        simp only [Bool.and_eq_true] at hxc
        have o7 : 7 ≤ o.1 := Nat.le_of_ble_eq_true hxc.1
        have o10 : o.1 < 10 := Nat.le_of_ble_eq_true hxc.2
        cases hem : (iv_hh mi).isEmpty with
        | true =>
          rw [hem] at hr
          obtain ⟨e1, e2, rfl⟩ := iv_end_ok hr
          have hnil : iv_hh mi = [] := List.isEmpty_iff.mp hem
          refine iv_leave XT (fun r hr => ?_) hlk (fun u q1 q2 q3 q4 q5 => ?_)
          · rw [htab, hnil] at hr
            cases hr
          · exact ⟨.threw (ρ (y + 3)), q2, q3, ⟨⟨ρ, h1, rfl, by rw [q1, hT]; exact h7, h8, h3, h2, Nat.add_lt_add_right hy 3⟩, h9.F (q1.trans hT)⟩, L, ⟨q4, q5.mono e1 e2⟩, h9.2.2⟩
        | false =>
          rw [hem] at hr
          simp only [cond_false] at hr
          split at hr
          · rename_i h hp
            have hw := hK _ _ _ _ _ _ _ _ hr p e s m args below meth c Fr ρ0 n0 hC' ρ H L lsR h1 h2 h3 h4 (fun v hv i hi => by
              rcases List.mem_singleton.mp hv with rfl
              cases hi
              exact Nat.add_lt_add_right hy 3) h6 h7 h8 h9
            obtain ⟨q, q1, cell, q2, q3, q4, -⟩ := h7 y _ (iv_w_at (ρ := ρ) (κ := κ) hA)
            obtain ⟨C, TT, N⟩ := q
            have hKn := hEv.1.1 o.1 (C, TT, N) q1
            have hCn : C = iv_on o.1 := (iv_cl_ok q1).2.2.2.2.2
            obtain ⟨-, hfc, kC, hkC, -⟩ := hKn
            have hfc : s.vm.findClass (iv_on o.1) = some (D.1 o.1) := by rw [← hCn]; exact hfc
            refine iv_catch XT htab (by rw [hT]; exact q2) (by rw [q4]; rfl) ⟨kC, by rw [q3]; exact hkC⟩ (ok := iv_ok (iv_ow mi) o.1) (fun r hrr => ?_) hp (by rw [hT]; exact hw)
            obtain ⟨t0, ce, hce, c7⟩ := iv_h_ok r hrr
            obtain ⟨w1, w2, -, -⟩ := iv_nw_ok hce
            have hpl : e.platform.magicAccessors = ({} : Platform).magicAccessors := by rw [XT.admits.platform]
            obtain ⟨cT, hcT, hlT⟩ := Cond.classLink_spec hown (hts _ w1) e.platform hpl
            refine ⟨t0, cT, hlT, ?_⟩
            rw [q3]
            unfold iv_ok
            rw [hce]
            by_cases hcc : ce = o.1
            · subst hcc
              obtain ⟨c1, t1, f1, f2, f3⟩ := Cond.castable_spec (iv_Ns_use (a := args) (iv_castE _ o7 o10) (hEv.2.1 _ (iv_castE _ o7 o10)))
              cases hfc.symm.trans f1
              cases hcT.symm.trans f2
              rw [f3]
              exact (Nat.beq_refl _).symm
            · obtain ⟨c1, t1, f1, f2, f3⟩ := hEv.2.2.2.2.1 o.1 ce o7 o10 c7 w2 (fun q => hcc q.symm)
              cases hfc.symm.trans f1
              cases hcT.symm.trans f2
              rw [f3]
              show false = Nat.beq ce o.1
              cases hbq : Nat.beq ce o.1 with
              | false => rfl
              | true => exact absurd (Nat.eq_of_beq_eq_true hbq) hcc
          · cases hr
    · cases hr
  · cases hr
/-- a call -/
theorem iv_s_inv (hK : ∀ mi pc ls st A c s r, K mi pc ls st A c s = some r → iv_G l D κ X mi pc ls st A c s r) (hC : iv_Cx p l s m args meth c mi D κ Fr ρ0 X) (hr : iv_inv K mi pc ls rest A cells slots mj as = some res) (hst : st = as.reverse ++ rest) (hm : iv_mP mj) (hini : iv_ini mj = true → (iv_y mj).name = "<init>")
    (hcall : ∀ (ρ : Nat → Nat) (H : Heap) (L : List Loc) (lsR : Array Slot) (r' : iv_R) (T : State), va_P D iv_cl (iv_w ρ κ A) H → T.heap = H → lsR.size = c.maxLocals → Stand p l e (iv_rm mi) s m args below meth c T L cells slots →
      iv_Met l (iv_y mj) iv_Ws (iv_rm mj) (va_Pc (as.map (iv_r ρ)) (iv_Pr D κ ρ X A H.size)) (iv_Q D κ ρ A.length r' (va_A (iv_w ρ κ A) H.size)) (iv_rm mj).cells (iv_rm mj).slots (va_A (iv_w ρ κ A) H.size) →
      (∀ U : State, U.heap = T.heap → s.WarmedH U.vm → va_Pc (as.map (iv_r ρ)) (iv_Pr D κ ρ X A H.size) (as.map (iv_r ρ)).toArray U) → cells + (iv_rm mj).cells ≤ (iv_rm mi).cells → slots + (iv_rm mj).slots ≤ (iv_rm mi).slots → ((rest.map (iv_r ρ)).map fun v => v.category).sum ≤ 8 →
      iv_Res p l e (iv_rm mi) s m args below meth c T L cells slots (iv_rm mj).cells (iv_rm mj).slots (F0 m pc lsR (st.map (iv_r ρ))) (rest.map (iv_r ρ)) (iv_Q D κ ρ A.length r' (va_A (iv_w ρ κ A) H.size) (as.map (iv_r ρ)).toArray) (va_A (iv_w ρ κ A) H.size)) :
    iv_Wd p l e (iv_rm mi) s m args below meth c (iv_MQ below (iv_Q D κ ρ0 n0 res Fr) args s (iv_rm mi).cells (iv_rm mi).slots Fr) D iv_cl κ Fr (iv_nL mi) ρ0 n0 pc ls st A cells slots := by
  unfold iv_inv at hr
  cases hb : Nat.ble rest.length 4 && Nat.ble (cells + (iv_rm mj).cells) (iv_rm mi).cells && Nat.ble (slots + (iv_rm mj).slots) (iv_rm mi).slots && Nat.ble as.length (iv_nL mj) && iv_c1s as with
  | false => rw [hb] at hr; cases hr
  | true =>
    rw [hb] at hr
    simp only [Bool.and_eq_true] at hb
    obtain ⟨⟨⟨⟨b1, b2⟩, b3⟩, b4⟩, b5⟩ := hb
    have n1 := Nat.le_of_ble_eq_true b1
    have n2 := Nat.le_of_ble_eq_true b2
    have n3 := Nat.le_of_ble_eq_true b3
    have n4 := Nat.le_of_ble_eq_true b4
    simp only [cond_true] at hr
    cases hc : K mj 0 (iv_pad mj as) [] A 0 0 with
    | none => rw [hc] at hr; cases hr
    | some r' =>
      rw [hc] at hr
      obtain ⟨out, A'⟩ := r'
      intro ρ H L lsR h1 h2 h3 h4 h5 h6 h7 h8 h9
      have hC' := hC
      obtain ⟨hx, hb, hml, hrt, hown, hlk, hnm, htab, hts, hEv, hFr, htr⟩ := hC
      have hF := iv_Fsub h8 h9 hFr
      have hcl : ∀ v ∈ as, iv_vc A.length v := fun v hv => h5 v (by rw [hst]; exact List.mem_append_left _ (List.mem_reverse.mpr hv))
      have hrl : ∀ v ∈ rest, iv_vc A.length v := fun v hv => h5 v (by rw [hst]; exact List.mem_append_right _ hv)
      have hM := iv_met (sz := H.size) (ρ := ρ) (hK _ _ _ _ _ _ _ _ hc) hm hini htr b5 n4 hcl h3
      have hpre : ∀ (T : State), T.heap = H → ∀ U : State, U.heap = T.heap → s.WarmedH U.vm → va_Pc (as.map (iv_r ρ)) (iv_Pr D κ ρ X A H.size) (as.map (iv_r ρ)).toArray U := fun T hT U hU hW =>
        ⟨rfl, by rw [hU, hT], by rw [hU, hT]; exact h7, h8.weaken (fun _ _ _ _ => trivial), hEv.moved hW (fun a ha hna => by rw [hU, hT]; exact h9.2.1 a ha hna) hF (fun i hi => h1 i (by omega))⟩
      refine iv_callW (mc := (iv_rm mj).cells) (ms := (iv_rm mj).slots) (free := va_A (iv_w ρ κ A) H.size) (rest := rest.map (iv_r ρ)) (Qa := iv_Q D κ ρ A.length (out, A') (va_A (iv_w ρ κ A) H.size) (as.map (iv_r ρ)).toArray)
        (fun T hT X' => hcall ρ H L lsR (out, A') T h7 hT (by rw [h6.2.1, hml]) X' hM (hpre T hT) n2 n3 (iv_sumr n1)) ?_ ?_
      · intro v st₀ t L' hst0 hw hQ hL'
        obtain ⟨⟨ρ', a1, a2, a3, a4, a5, a6, a7⟩, a8⟩ := hQ
        have a6 : A.length ≤ A'.length := a6
        cases out with
        | inl v0 =>
          have a2 : (Outcome.returned v) = .returned (v0.map (iv_r ρ')) := a2
          injection a2 with a2
          subst a2
          have e1 : (v0.map (iv_r ρ')).toList ++ rest.map (iv_r ρ) = (v0.toList ++ rest).map (iv_r ρ') := by
            rw [List.map_append, iv_rl_congr a1 hrl]
            cases v0 <;> rfl
          rw [e1]
          refine hK _ _ _ _ _ _ _ _ hr p e s m args below meth c Fr ρ0 n0 hC' ρ' t.heap (L ++ L') lsR (fun i hi => (a1 i (by omega)).trans (h1 i hi)) (by omega) a5 (fun v hv => iv_vc_mono (h4 v hv) a6) (fun w hw => ?_) (h6.congr a1 h4) a3 (a4.weaken (fun _ _ _ h => hF _ h)) (iv_S_comp h9 hst0 a8 hF hL')
          rcases List.mem_append.mp hw with q | q
          · exact a7 w (Option.mem_toList.mp q)
          · exact iv_vc_mono (hrl w q) a6
        | inr x0 =>
          have a2 : (Outcome.returned v) = .threw (ρ' x0) := a2
          cases a2
      · intro x st₀ t T' L' hst0 hw hQ hL' hT' XT
        obtain ⟨⟨ρ', a1, a2, a3, a4, a5, a6, a7⟩, a8⟩ := hQ
        have a6 : A.length ≤ A'.length := a6
        cases out with
        | inl v0 =>
          have a2 : (Outcome.threw x) = .returned (v0.map (iv_r ρ')) := a2
          cases a2
        | inr x0 =>
          have a2 : (Outcome.threw x) = .threw (ρ' x0) := a2
          injection a2 with a2
          subst a2
          exact iv_s_thr hK hC' hr (fun i hi => (a1 i (by omega)).trans (h1 i hi)) (by omega) a5 (fun v hv => iv_vc_mono (h4 v hv) a6) (h6.congr a1 h4) a3 (a4.weaken (fun _ _ _ h => hF _ h)) (iv_S_comp h9 hst0 a8 hF hL') hT' XT
end IvJ
