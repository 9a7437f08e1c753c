/-! 'throw new E()'; one step; a run. -/
section IvM
variable {p : Program} {l : Launch} {e : Env} {s : State} {m : MethodId} {args : Array Value} {below : List Frame} {meth : Method} {c : Code} {D : va_G} {κ : Nat → ClassId} {Fr : Nat → Prop} {ρ0 : Nat → Nat} {n0 : Nat} {X : Nat → Option (Nat × (Nat → Int32))} {K : iv_K}
variable {mi mj pc : Nat} {ls st as rest : List Value} {A : iv_A} {cells slots : Nat} {res : iv_R}
theorem iv_hw_ok {U : State} (h1 : iv_LS "java/lang/Throwable" "UNASSIGNED_STACK" "[Ljava/lang/StackTraceElement;" Fr U) (h2 : iv_LS "java/lang/Throwable" "SUPPRESSED_SENTINEL" "Ljava/util/List;" Fr U) {w : Cond} (hw : iv_hw w = true) : w.before args U = true := by
  unfold iv_hw at hw
  split at hw
  · simp only [Bool.and_eq_true, Bool.or_eq_true, decide_eq_true_eq] at hw
    obtain ⟨rfl, ⟨rfl, rfl⟩ | ⟨rfl, rfl⟩⟩ := hw
    · exact h1.lays
    · exact h2.lays
  · simp only [Bool.and_eq_true, Bool.or_eq_true, decide_eq_true_eq] at hw
    obtain ⟨rfl, ⟨rfl, rfl⟩ | ⟨rfl, rfl⟩⟩ := hw
    · exact h1.isRef
    · exact h2.isRef
  · cases hw
theorem iv_Ws_same {U : State} (hts : ∀ w ∈ iv_Ws, w.before args s = true) (h : U.vm = s.vm) {w : Cond} (hw : w ∈ iv_Ws) {a : Array Value} : w.before a U = true :=
  word_at (by rw [h]; exact State.WarmedH.refl s) (iv_Ws_good w hw).2 (hts w hw)
theorem iv_Ns_same {U : State} (hns : ∀ w ∈ iv_Ns, va_Nw w s) (h : U.vm = s.vm) {w : Cond} (hw : w ∈ iv_Ns) {a : Array Value} : w.before a U = true :=
  iv_Ns_use hw (iv_Ns_warm hw (by rw [h]; exact State.WarmedH.refl s) (hns w hw))
theorem iv_D_push {ws : va_W} {H : Heap} {a : Nat} {x : va_E} (hD : va_D Fr ws) (hP : va_P D iv_cl ws H) (ha : H.size ≤ a) (hA : Fr a) : va_D Fr (ws ++ [(a, x)]) := by
  refine hD.app (w2 := [(a, x)]) ⟨fun i j p q hi hj _ => ?_, fun k q hk => ?_⟩ (fun i j p q hi hj he => ?_)
  · have hi' := (List.getElem?_eq_some_iff.mp hi).1
    have hj' := (List.getElem?_eq_some_iff.mp hj).1
    simp only [List.length_singleton] at hi' hj'
    omega
  · have hk' := (List.getElem?_eq_some_iff.mp hk).1
    simp only [List.length_singleton] at hk'
    obtain rfl : k = 0 := by omega
    obtain rfl := Option.some.inj hk
    exact hA
  · have hj' := (List.getElem?_eq_some_iff.mp hj).1
    simp only [List.length_singleton] at hj'
    obtain rfl : j = 0 := by omega
    obtain rfl := Option.some.inj hj
    have := (hP i p hi).lt
    have he : p.1 = a := he
    omega
set_option maxHeartbeats 4000000 in
theorem iv_s_thn {i ci : Nat} (hC : iv_Cx p l s m args meth c mi D κ Fr ρ0 X) (hr : iv_thn mi pc ci A cells slots st = some res) (hnw : iv_nw (iv_ow mi) i = some ci) (hd : decode (iv_b mi) pc = .ok (.new i, 3)) (hf6 : 6 ≤ (iv_rm mi).frames) (hl89 : 89 ≤ (iv_rm mi).locals) : iv_Wd p l e (iv_rm mi) s m args below meth c (iv_MQ below (iv_Q D κ ρ0 n0 res Fr) args s (iv_rm mi).cells (iv_rm mi).slots Fr) D iv_cl κ Fr (iv_nL mi) ρ0 n0 pc ls st A cells slots := by
  obtain ⟨hx, hb, hml, hrt, hown, hlk, hnm, htab, hts, hEv, hFr, htr⟩ := hC
  unfold iv_thn at hr
  split at hr
  · rename_i j k3 k4 k7
    split at hr
    · rename_i cj hnx
      cases hq : Nat.beq ci cj && Nat.ble st.length 4 && (iv_hh mi).isEmpty with
      | false => rw [hq] at hr; cases hr
      | true =>
        rw [hq] at hr
        simp only [Bool.and_eq_true] at hq
        obtain ⟨⟨q1, q2⟩, q3⟩ := hq
        obtain rfl := Nat.eq_of_beq_eq_true q1
        have hnil : iv_hh mi = [] := List.isEmpty_iff.mp q3
        obtain ⟨e1, e2, rfl⟩ := iv_end_ok hr
        obtain ⟨l3, d3, z3⟩ := iv_dec k3
        obtain ⟨l4, d4, z4⟩ := iv_dec k4
        obtain ⟨l7, d7, z7⟩ := iv_dec k7
        obtain rfl := z3 rfl
        obtain rfl := z4 rfl
        obtain rfl := z7 rfl
        obtain ⟨c7, c10, hfit, hat⟩ := iv_nx_ok hnx
        obtain ⟨w1, -, -, w4⟩ := iv_nw_ok hnw
        intro ρ H L lsR h1 h2 h3 h4 h5 h6 h7 h8 h9
        have hsum : ((st.map (iv_r ρ)).map fun v => v.category).sum ≤ 8 := iv_sumr (Nat.le_of_ble_eq_true q2)
        refine iv_throw (own := iv_on (iv_ow mi)) (cls := iv_on ci) (names := iv_nms) (ic := j) (idx := i) hx hb (by rw [h6.2.1, hml]) (htr e) hlk hown hfit iv_nms_fit (fun U hU hUh w hw => ?_) (fun U hU => ⟨iv_Ws_same hts hU w1, iv_Ws_same hts hU w4⟩) hd d3 d4 d7 (fun r hr => ?_) (by show 2 + 3 < _; omega) (by show _ + (13 * (2 + 1) + 41) ≤ _; omega) e1 e2 (fun U a ce u1 u2 u3 u4 u5 u6 u7 u8 u9 => ?_)
        · rcases hat w hw with g | g | g
          · exact iv_Ws_same hts hU g
          · exact iv_Ns_same hEv.2.1 hU g
          · have hal : s.vm.Alike U.vm := by rw [hU]; exact Vm.Alike.refl _
            have hH : ∀ a : Nat, a < s.heap.size → ¬ Fr a → U.heap[a]? = s.heap[a]? := fun a ha hn => by rw [hUh]; exact h9.2.1 a ha hn
            exact iv_hw_ok (Fr := Fr) (hEv.2.2.2.2.2.2.2.2.1.moved hal hH (fun _ h => h)) (hEv.2.2.2.2.2.2.2.2.2.moved hal hH (fun _ h => h)) g
        · rw [htab, hnil] at hr
          cases hr
        · have hρ : ∀ i, i < A.length + 3 → (fun j => if j = A.length + 3 then a else ρ j) i = ρ i := fun i hi => by
            show (if i = A.length + 3 then a else ρ i) = ρ i
            rw [if_neg (by omega)]
          have hw : iv_w (fun j => if j = A.length + 3 then a else ρ j) κ (A ++ [.inr (ci, [])]) = iv_w ρ κ A ++ [(a, .inr (ci, []))] := by
            rw [iv_w_push, iv_w_congr hρ h3]
            simp [iv_e]
          have hcl : iv_cl[ci]? = some (iv_on ci, iv_Te, 0) := by
            match ci, c7, c10 with
            | 7, _, _ => rfl
            | 8, _, _ => rfl
            | 9, _, _ => rfl
            | n + 10, _, h => omega
          obtain ⟨-, hfc, -⟩ := hEv.1.1 ci _ hcl
          have hce : ce.cls = D.1 ci := Option.some.inj (u7.symm.trans hfc)
          have hP0 : va_P D iv_cl (iv_w ρ κ A) U.heap := h7.kept (fun k q hk => by
            have hlt := (h7 k q hk).lt
            have hg : H[q.1]? = some H[q.1] := Array.getElem?_eq_getElem hlt
            rw [hg, u9 _ _ hg])
          have hP1 : va_P D iv_cl (iv_w ρ κ A ++ [(a, .inr (ci, []))]) U.heap := hP0.app (w2 := [(a, .inr (ci, []))]) (fun k q hk => by
            have hk' := (List.getElem?_eq_some_iff.mp hk).1
            simp only [List.length_singleton] at hk'
            obtain rfl : k = 0 := by omega
            obtain rfl := Option.some.inj hk
            exact ⟨_, hcl, ce, u6, hce, u8, fun k hk => absurd hk (Nat.not_lt_zero _)⟩)
          have hD1 : va_D Fr (iv_w ρ κ A ++ [(a, .inr (ci, []))]) := iv_D_push h8 h7 u5 (hFr a (Nat.le_trans h9.1 u5))
          refine ⟨.threw a, u1, u2, ⟨⟨fun j => if j = A.length + 3 then a else ρ j, fun i hi => (hρ i (by omega)).trans (h1 i hi), ?_, by rw [hw]; exact hP1, by rw [hw]; exact hD1, iv_hc_push h3 (fun v hv => by cases hv), ?_, ?_⟩, ?_⟩, L, ⟨u3, u4.mono e1 e2⟩, h9.2.2⟩
          · show Outcome.threw a = .threw (if A.length + 3 = A.length + 3 then a else ρ (A.length + 3))
            rw [if_pos rfl]
          · show n0 ≤ (A ++ [_]).length
            rw [List.length_append]
            omega
          · show A.length + 3 < (A ++ [_]).length + 3
            rw [List.length_append, List.length_singleton]
            omega
          · refine ⟨u4.2.1, fun q hq hn => ?_⟩
            have hg : s.heap[q]? = some s.heap[q] := Array.getElem?_eq_getElem hq
            have hg2 : H[q]? = some s.heap[q] := (h9.2.1 q hq hn).trans hg
            rw [u9 _ _ hg2, hg]
    · cases hr
  · cases hr
end IvM
