/-! The tables hold: links, methods, rooms, new objects (second part). -/
def iv_mck (q : Nat × Nat × Nat × Nat × Nat) : Bool :=
  (decide (lw_tbl[q.2.2.1]? = some (.initialized (iv_y q.1).cls)) && (plainFor (iv_y q.1) && (decide ((iv_y q.1).cls = iv_on (iv_ow q.1)) && (decide ((iv_y q.1).cls ≠ "java/lang/invoke/MethodHandle" ∧ (iv_y q.1).cls ≠ "java/lang/invoke/VarHandle") &&
  (decide ((parseMethodDescriptor (iv_y q.1).desc).map (fun d => d.parameters.length) = some (iv_np q.1 - (bif Nat.beq (iv_kd q.1) 1 then 0 else 1))) &&
  (match iv_kd q.1 with
    | 0 => decide (lw_tbl[q.2.2.2.1]? = some (.instanceMethod (iv_y q.1))) && (decide (lw_tbl[q.2.2.2.2]? = some (.selects (iv_y q.1).cls (iv_y q.1) (iv_y q.1))) && (Nat.blt (iv_ow q.1) 7 && Nat.blt 0 (iv_np q.1)))
    | 1 => decide (lw_tbl[q.2.2.2.1]? = some (.static (iv_y q.1)))
    | 2 => decide (lw_tbl[q.2.2.2.1]? = some (.instanceMethod (iv_y q.1))) && (decide ((iv_y q.1).name = "<init>") && (decide (iv_rt q.1 = none) && ((iv_hh q.1).isEmpty && (Nat.blt 0 (iv_np q.1) && Nat.blt (iv_ow q.1) 7))))
    | _ => false))))))
set_option maxRecDepth 20000 in
theorem iv_mq0 : iv_mp0.all iv_mck = true := by decide +kernel
set_option maxRecDepth 20000 in
theorem iv_mq1 : iv_mp1.all iv_mck = true := by decide +kernel
set_option maxRecDepth 20000 in
theorem iv_mq2 : iv_mp2.all iv_mck = true := by decide +kernel
set_option maxRecDepth 20000 in
theorem iv_mq3 : iv_mp3.all iv_mck = true := by decide +kernel
set_option maxRecDepth 20000 in
theorem iv_mq4 : iv_mp4.all iv_mck = true := by decide +kernel
theorem iv_mps_ok : iv_mps.all iv_mck = true := by
  unfold iv_mps
  simp only [List.all_append, Bool.and_eq_true]
  exact ⟨⟨⟨⟨iv_mq0, iv_mq1⟩, iv_mq2⟩, iv_mq3⟩, iv_mq4⟩
def iv_mtc (q : Nat × Nat × Nat × Nat × Bool) : Bool :=
  (bif q.2.2.2.2 then decide (lw_tbl[q.2.2.2.1]? = some (.methodLinkNest (iv_on q.1) q.2.1 (iv_y q.2.2.1) "TripGuard")) else decide (lw_tbl[q.2.2.2.1]? = some (.methodLink (iv_on q.1) q.2.1 (iv_y q.2.2.1)))) &&
  (Nat.blt 2 (iv_kd q.2.2.1) || iv_mps.any (fun z => Nat.beq z.1 q.2.2.1))
set_option maxRecDepth 20000 in
theorem iv_mts_ok : iv_mts.all iv_mtc = true := by decide +kernel
theorem iv_lw_in {w : Cond} {i : Nat} (h : lw_tbl[i]? = some w) : w ∈ lw_tbl := List.mem_of_getElem? h
theorem iv_mt_ok {a b mj : Nat} (h : iv_mt a b = some mj) : (Cond.methodLink (iv_on a) b (iv_y mj) ∈ iv_Ws ∨ Cond.methodLinkNest (iv_on a) b (iv_y mj) "TripGuard" ∈ iv_Ns) ∧ (iv_kd mj ≤ 2 → ∃ q ∈ iv_mps, q.1 = mj) := by
  unfold iv_mt at h
  obtain ⟨x, hx, hx2⟩ := Option.map_eq_some_iff.mp h
  obtain ⟨x1, x2, x3⟩ := x
  simp only at hx2
  subst hx2
  have h1 := List.all_eq_true.mp iv_mts_ok _ (iv_l2_mem hx)
  simp only [iv_mtc, Bool.and_eq_true, Bool.or_eq_true, List.any_eq_true] at h1
  obtain ⟨h2, h3⟩ := h1
  refine ⟨?_, fun hk => ?_⟩
  · cases x3 with
    | true => exact Or.inr (iv_Ns_at (of_decide_eq_true h2) rfl)
    | false => exact Or.inl (iv_Ws_at (of_decide_eq_true h2) rfl)
  · rcases h3 with h4 | ⟨q, hq, h5⟩
    · exact absurd (Nat.le_of_ble_eq_true h4) (by omega)
    · exact ⟨q, hq, Nat.eq_of_beq_eq_true h5⟩
/-- what is known of a method that is walked -/
def iv_mP (j : Nat) : Prop := iv_cwP j ∧ Cond.initialized (iv_y j).cls ∈ iv_Ws ∧ plainFor (iv_y j) = true ∧ (iv_y j).cls = iv_on (iv_ow j) ∧
  ((iv_y j).cls ≠ "java/lang/invoke/MethodHandle" ∧ (iv_y j).cls ≠ "java/lang/invoke/VarHandle") ∧ (parseMethodDescriptor (iv_y j).desc).map (fun d => d.parameters.length) = some (iv_np j - (bif Nat.beq (iv_kd j) 1 then 0 else 1)) ∧
  (iv_kd j = 0 → Cond.instanceMethod (iv_y j) ∈ iv_Ws ∧ Cond.selects (iv_y j).cls (iv_y j) (iv_y j) ∈ iv_Ws ∧ iv_ow j < 7 ∧ 0 < iv_np j) ∧ (iv_kd j = 1 → Cond.static (iv_y j) ∈ iv_Ws) ∧
  (iv_kd j = 2 → Cond.instanceMethod (iv_y j) ∈ iv_Ws ∧ (iv_y j).name = "<init>" ∧ iv_rt j = none ∧ iv_hh j = [] ∧ 0 < iv_np j ∧ iv_ow j < 7)
theorem iv_m_ok {j : Nat} (h : ∃ q ∈ iv_mps, q.1 = j) : iv_mP j := by
  obtain ⟨⟨j', a, b, c, d⟩, hq, hj⟩ := h
  simp only at hj
  subst hj
  have h1 := List.all_eq_true.mp iv_mps_ok _ hq
  simp only [iv_mck, Bool.and_eq_true] at h1
  obtain ⟨h2, h3, h4, h5, h6, h7⟩ := h1
  refine ⟨iv_cw_ok _ hq, iv_Ws_at (of_decide_eq_true h2) rfl, h3, of_decide_eq_true h4, of_decide_eq_true h5, of_decide_eq_true h6, fun hk => ?_, fun hk => ?_, fun hk => ?_⟩
  · rw [hk] at h7
    simp only [Bool.and_eq_true] at h7
    exact ⟨iv_Ws_at (of_decide_eq_true h7.1) rfl, iv_Ws_at (of_decide_eq_true h7.2.1) rfl, Nat.le_of_ble_eq_true h7.2.2.1, Nat.le_of_ble_eq_true h7.2.2.2⟩
  · rw [hk] at h7
    exact iv_Ws_at (of_decide_eq_true h7) rfl
  · rw [hk] at h7
    simp only [Bool.and_eq_true] at h7
    obtain ⟨q1, q2, q3, q4, q5, q6⟩ := h7
    exact ⟨iv_Ws_at (of_decide_eq_true q1) rfl, of_decide_eq_true q2, of_decide_eq_true q3, List.isEmpty_iff.mp q4, Nat.le_of_ble_eq_true q5, Nat.le_of_ble_eq_true q6⟩
theorem iv_fl_ok {a b ci f : Nat} (h : iv_fl a b = some (ci, f)) : ∃ (C : String) (T : u_T) (N : Nat), iv_cl[ci]? = some (C, T, N) ∧ f < N ∧ (T f).1 = C ∧
    (Cond.fieldLink (iv_on a) b (T f).1 (T f).2.1 (T f).2.2.1 ∈ iv_Ws ∨ (a ≠ ci ∧ Cond.fieldLinkNest (iv_on a) b (T f).1 (T f).2.1 (T f).2.2.1 "TripGuard" ∈ iv_Ns)) := by
  unfold iv_fl at h
  obtain ⟨x, hx, hx2⟩ := Option.map_eq_some_iff.mp h
  obtain ⟨x1, x2, x3⟩ := x
  simp only at hx2
  subst hx2
  have h1 := List.all_eq_true.mp iv_fls_ok _ (iv_l2_mem hx)
  unfold iv_flc at h1
  split at h1
  · rename_i z hz
    obtain ⟨C, T, N⟩ := z
    simp only [Bool.and_eq_true] at h1
    obtain ⟨⟨h2, h3⟩, h4⟩ := h1
    refine ⟨C, T, N, hz, Nat.le_of_ble_eq_true h2, of_decide_eq_true h3, ?_⟩
    cases x3 with
    | true =>
      simp only [cond_true, Bool.and_eq_true, Bool.not_eq_true'] at h4
      exact Or.inr ⟨fun q => by subst q; simp at h4, iv_Ns_at (of_decide_eq_true h4.1) rfl⟩
    | false =>
      simp only [cond_false] at h4
      exact Or.inl (iv_Ws_at (of_decide_eq_true h4) rfl)
  · cases h1
def iv_sfc (q : Nat × Nat × Nat × Nat) : Bool := match q.2.2.1 with
  | 0 => decide (lw_tbl[q.2.2.2]? = some (.fieldLink (iv_on q.1) q.2.1 "TripGuard$Channel" "CURVE" "[I"))
  | 1 => decide (lw_tbl[q.2.2.2]? = some (.fieldLink (iv_on q.1) q.2.1 "TripGuard$Train" "NEEDED" "[I"))
  | _ => false
theorem iv_sfs_ok : iv_sfs.all iv_sfc = true := by decide +kernel
theorem iv_sf_ok {a b z : Nat} (h : iv_sf a b = some z) : (z = 0 ∧ Cond.fieldLink (iv_on a) b "TripGuard$Channel" "CURVE" "[I" ∈ iv_Ws) ∨ (z = 1 ∧ Cond.fieldLink (iv_on a) b "TripGuard$Train" "NEEDED" "[I" ∈ iv_Ws) := by
  unfold iv_sf at h
  obtain ⟨x, hx, hx2⟩ := Option.map_eq_some_iff.mp h
  obtain ⟨x1, x2⟩ := x
  simp only at hx2
  subst hx2
  have h1 := List.all_eq_true.mp iv_sfs_ok _ (iv_l2_mem hx)
  unfold iv_sfc at h1
  split at h1
  · rename_i hz
    exact Or.inl ⟨hz, iv_Ws_at (of_decide_eq_true h1) rfl⟩
  · rename_i hz
    exact Or.inr ⟨hz, iv_Ws_at (of_decide_eq_true h1) rfl⟩
  · cases h1
theorem iv_cns_ok : (iv_cns.all fun q => decide (lw_tbl[q.2.2.2]? = some (.constant (iv_on q.1) q.2.1 q.2.2.1))) = true := by decide +kernel
theorem iv_cn_ok {a b : Nat} {v : Int32} (h : iv_cn a b = some v) : Cond.constant (iv_on a) b v ∈ iv_Ws := by
  unfold iv_cn at h
  obtain ⟨x, hx, hx2⟩ := Option.map_eq_some_iff.mp h
  obtain ⟨x1, x2⟩ := x
  simp only at hx2
  subst hx2
  have h1 := List.all_eq_true.mp iv_cns_ok _ (iv_l2_mem hx)
  exact iv_Ws_at (of_decide_eq_true h1) rfl
def iv_cps : List (Nat × Nat) := [(119, 29), (47, 24), (71, 25), (151, 30), (87, 27), (39, 23), (545, 31), (335, 35), (424, 36), (519, 37)]
def iv_nwc (q : Nat × Nat × Nat × Nat) : Bool := decide (lw_tbl[q.2.2.2]? = some (.classLink (iv_on q.1) q.2.1 (iv_on q.2.2.1))) && (Nat.blt q.2.2.1 10 &&
  (decide (lw_tbl[(iv_cps.getD q.2.2.1 (0, 0)).1]? = some (.instantiable (iv_on q.2.2.1) (bif Nat.blt q.2.2.1 7 then iv_fn q.2.2.1 else 6))) && decide (lw_tbl[(iv_cps.getD q.2.2.1 (0, 0)).2]? = some (.initialized (iv_on q.2.2.1)))))
theorem iv_nws_ok : iv_nws.all iv_nwc = true := by decide +kernel
theorem iv_nw_ok {a b ci : Nat} (h : iv_nw a b = some ci) : Cond.classLink (iv_on a) b (iv_on ci) ∈ iv_Ws ∧ ci < 10 ∧ Cond.instantiable (iv_on ci) (bif Nat.blt ci 7 then iv_fn ci else 6) ∈ iv_Ws ∧ Cond.initialized (iv_on ci) ∈ iv_Ws := by
  unfold iv_nw at h
  obtain ⟨x, hx, hx2⟩ := Option.map_eq_some_iff.mp h
  obtain ⟨x1, x2⟩ := x
  simp only at hx2
  subst hx2
  have h1 := List.all_eq_true.mp iv_nws_ok _ (iv_l2_mem hx)
  simp only [iv_nwc, Bool.and_eq_true] at h1
  obtain ⟨q1, q2, q3, q4⟩ := h1
  exact ⟨iv_Ws_at (of_decide_eq_true q1) rfl, Nat.le_of_ble_eq_true q2, iv_Ws_at (of_decide_eq_true q3) rfl, iv_Ws_at (of_decide_eq_true q4) rfl⟩
theorem iv_aI : Cond.arrayClass .int ∈ iv_Ws := iv_Ws_at (i := 65) (by decide +kernel) rfl
theorem iv_aZ : Cond.arrayClass .boolean ∈ iv_Ws := iv_Ws_at (i := 641) (by decide +kernel) rfl
theorem iv_aJ : Cond.arrayClass .long ∈ iv_Ws := iv_Ws_at (i := 763) (by decide +kernel) rfl
def iv_rc1 (mi i : Nat) : Bool := match iv_mt (iv_ow mi) i with
  | some mj => bif Nat.ble (iv_kd mj) 2 then Nat.ble ((iv_rm mj).frames + 1) (iv_rm mi).frames && Nat.ble (8 + (iv_nL mj + 11) + (iv_rm mj).locals) (iv_rm mi).locals else bif Nat.ble (iv_kd mj) 6 then Nat.ble 1 (iv_rm mi).frames && Nat.ble 20 (iv_rm mi).locals && (Nat.beq (iv_kd mj) 6 || Nat.ble 21 (iv_rm mi).locals) else true
  | none => true
def iv_rck (mi : Nat) (q : Nat × Instr) : Bool := match q.2 with
  | .invokevirtual i => iv_rc1 mi i
  | .invokestatic i => iv_rc1 mi i
  | .invokespecial i => iv_rc1 mi i
  | .new i => (match iv_nw (iv_ow mi) i with
    | some ci => bif iv_xc ci then Nat.ble 6 (iv_rm mi).frames && Nat.ble 89 (iv_rm mi).locals else true
    | none => true)
  | _ => true
set_option maxRecDepth 20000 in
theorem iv_rr0 : ((List.range' 0 29).all fun mi => (iv_code mi).all (iv_rck mi)) = true := by decide +kernel
set_option maxRecDepth 20000 in
theorem iv_rr1 : ((List.range' 29 29).all fun mi => (iv_code mi).all (iv_rck mi)) = true := by decide +kernel
set_option maxRecDepth 20000 in
theorem iv_rr2 : ((List.range' 58 29).all fun mi => (iv_code mi).all (iv_rck mi)) = true := by decide +kernel
set_option maxRecDepth 20000 in
theorem iv_rr3 : ((List.range' 87 29).all fun mi => (iv_code mi).all (iv_rck mi)) = true := by decide +kernel
theorem iv_room {mi pc : Nat} {ins : Instr} (h : iv_lk pc (iv_code mi) = some ins) : iv_rck mi (pc, ins) = true := by
  have hm := iv_lk_mem h
  have hlt : mi < 116 := by
    refine Nat.lt_of_not_le fun hge => ?_
    have : iv_code mi = [] := by
      unfold iv_code
      rw [List.getD_eq_getElem?_getD, List.getElem?_eq_none (by exact hge)]
      rfl
    rw [this] at hm
    cases hm
  have key : ∀ s : Nat, ((List.range' s 29).all fun mi => (iv_code mi).all (iv_rck mi)) = true → s ≤ mi → mi < s + 29 → iv_rck mi (pc, ins) = true := by
    intro s hs h1 h2
    have h3 := List.all_eq_true.mp hs mi (List.mem_range'_1.mpr ⟨h1, h2⟩)
    exact List.all_eq_true.mp h3 _ hm
  by_cases h1 : mi < 29
  · exact key 0 iv_rr0 (by omega) (by omega)
  by_cases h2 : mi < 58
  · exact key 29 iv_rr1 (by omega) (by omega)
  by_cases h3 : mi < 87
  · exact key 58 iv_rr2 (by omega) (by omega)
  exact key 87 iv_rr3 (by omega) (by omega)
def iv_nms : List String := ["java/lang/RuntimeException", "java/lang/Exception"]
def iv_hw (w : Cond) : Bool := match w with
  | .laysStatic C n d => decide (C = "java/lang/Throwable") && ((decide (n = "UNASSIGNED_STACK") && decide (d = "[Ljava/lang/StackTraceElement;")) || (decide (n = "SUPPRESSED_SENTINEL") && decide (d = "Ljava/util/List;")))
  | .isRef (.static C n d) => decide (C = "java/lang/Throwable") && ((decide (n = "UNASSIGNED_STACK") && decide (d = "[Ljava/lang/StackTraceElement;")) || (decide (n = "SUPPRESSED_SENTINEL") && decide (d = "Ljava/util/List;")))
  | _ => false
def iv_xz : List Cond → List Nat → Bool
  | [], _ => true
  | _ :: _, [] => false
  | w :: ws, p :: ps => (iv_hw w || (decide (lw_tbl[p]? = some w) && (goodWord w || iv_isN w))) && iv_xz ws ps
theorem iv_xz_ok : ∀ {ws : List Cond} {ps : List Nat}, iv_xz ws ps = true → ∀ w ∈ ws, w ∈ iv_Ws ∨ w ∈ iv_Ns ∨ iv_hw w = true
  | [], _, _, w, hw => by cases hw
  | _ :: _, [], h, _, _ => by cases h
  | x :: xs, p :: ps, h, w, hw => by
    unfold iv_xz at h
    simp only [Bool.and_eq_true, Bool.or_eq_true] at h
    rcases List.mem_cons.mp hw with rfl | h2
    · rcases h.1 with h3 | h3
      · exact Or.inr (Or.inr h3)
      · rcases h3.2 with h4 | h4
        · exact Or.inl (iv_Ws_at (of_decide_eq_true h3.1) h4)
        · exact Or.inr (Or.inl (iv_Ns_at (of_decide_eq_true h3.1) h4))
    · exact iv_xz_ok h.2 w h2
set_option maxRecDepth 20000 in
theorem iv_xx7 : iv_xz (Bundle.ownAtoms0 (iv_on 5) 163 (iv_on 7) iv_nms) [32, 356, 365, 369, 372, 374, 357, 358, 44, 45, 359, 364, 370, 386, 346, 387, 348, 388, 350, 360, 361, 362, 363, 352, 376, 377, 378, 379, 337, 379, 380, 381, 382, 339, 382, 383, 384, 357, 341, 375, 335, 336, 343, 344, 345, 347, 349, 351, 0, 0, 355, 354, 353] = true := by decide +kernel
set_option maxRecDepth 20000 in
theorem iv_xx8 : iv_xz (Bundle.ownAtoms0 (iv_on 5) 166 (iv_on 8) iv_nms) [32, 356, 365, 369, 372, 374, 357, 358, 44, 45, 359, 364, 370, 386, 346, 387, 348, 388, 350, 360, 361, 362, 363, 352, 433, 434, 435, 379, 337, 379, 380, 381, 382, 339, 382, 383, 384, 357, 341, 432, 424, 425, 426, 367, 427, 428, 429, 430, 0, 0, 355, 354, 431] = true := by decide +kernel
set_option maxRecDepth 20000 in
theorem iv_xx9 : iv_xz (Bundle.ownAtoms0 (iv_on 5) 151 (iv_on 9) iv_nms) [32, 356, 365, 369, 372, 374, 357, 358, 44, 45, 359, 364, 370, 386, 346, 387, 348, 388, 350, 360, 361, 362, 363, 352, 528, 529, 530, 379, 337, 379, 380, 381, 382, 339, 382, 383, 384, 357, 341, 527, 519, 520, 521, 368, 522, 523, 524, 525, 0, 0, 355, 354, 526] = true := by decide +kernel
theorem iv_nx_ok {a b ci : Nat} (h : iv_nx a b = some ci) : 7 ≤ ci ∧ ci < 10 ∧ Bundle.fit (iv_on ci) = true ∧ ∀ w ∈ Bundle.ownAtoms0 (iv_on a) b (iv_on ci) iv_nms, w ∈ iv_Ws ∨ w ∈ iv_Ns ∨ iv_hw w = true := by
  have hm := iv_l2_mem h
  rcases List.mem_cons.mp hm with h1 | hm
  · cases h1; exact ⟨by decide, by decide, by decide +kernel, iv_xz_ok iv_xx7⟩
  rcases List.mem_cons.mp hm with h1 | hm
  · cases h1; exact ⟨by decide, by decide, by decide +kernel, iv_xz_ok iv_xx8⟩
  rcases List.mem_cons.mp hm with h1 | hm
  · cases h1; exact ⟨by decide, by decide, by decide +kernel, iv_xz_ok iv_xx9⟩
  cases hm
theorem iv_nms_fit : ∀ n ∈ iv_nms, Bundle.fit n = true := by decide +kernel
def iv_hck (mi : Nat) : Bool := (iv_hh mi).all fun r => !(Nat.beq r.2.2.2 0) && (match iv_nw (iv_ow mi) r.2.2.2 with
  | some ci => Nat.ble 7 ci
  | none => false)
set_option maxRecDepth 20000 in
theorem iv_hcks : ((List.range 116).all iv_hck) = true := by decide +kernel
theorem iv_h_ok {mi : Nat} : ∀ r ∈ iv_hh mi, r.2.2.2 ≠ 0 ∧ ∃ ci, iv_nw (iv_ow mi) r.2.2.2 = some ci ∧ 7 ≤ ci := by
  intro r hr
  have hlt : mi < 116 := by
    refine Nat.lt_of_not_le fun hge => ?_
    have : iv_hh mi = [] := by
      unfold iv_hh
      rw [List.getD_eq_getElem?_getD, List.getElem?_eq_none (by exact hge)]
      rfl
    rw [this] at hr
    cases hr
  have h1 := List.all_eq_true.mp iv_hcks mi (List.mem_range.mpr hlt)
  unfold iv_hck at h1
  have h2 := List.all_eq_true.mp h1 r hr
  simp only [Bool.and_eq_true, Bool.not_eq_true'] at h2
  refine ⟨fun q => by rw [q] at h2; simp at h2, ?_⟩
  cases hn : iv_nw (iv_ow mi) r.2.2.2 with
  | none => rw [hn] at h2; simp at h2
  | some ci => rw [hn] at h2; exact ⟨ci, rfl, Nat.le_of_ble_eq_true h2.2⟩
theorem iv_castE : ∀ ci, 7 ≤ ci → ci < 10 → Cond.castable (iv_on ci) (iv_on ci) ∈ iv_Ns := by
  intro ci h1 h2
  match ci, h1, h2 with
  | 7, _, _ => exact iv_Ns_at (i := 336) (by decide +kernel) rfl
  | 8, _, _ => exact iv_Ns_at (i := 425) (by decide +kernel) rfl
  | 9, _, _ => exact iv_Ns_at (i := 520) (by decide +kernel) rfl
  | n + 10, _, h => omega
