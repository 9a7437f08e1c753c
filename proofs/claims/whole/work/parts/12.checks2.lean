def iv_F2 : List (List (Nat × Instr)) → List ByteArray → Prop
  | [], _ => True
  | _ :: _, [] => False
  | k :: ks, b :: bs => k.all (iv_dc b) = true ∧ iv_F2 ks bs
theorem iv_F2_at {d : ByteArray} : ∀ {ks : List (List (Nat × Instr))} {bs : List ByteArray}, iv_F2 ks bs → ∀ i : Nat, (ks.getD i []).all (iv_dc (bs.getD i d)) = true
  | [], _, _, i => by simp
  | _ :: _, [], h, _ => h.elim
  | k :: ks, b :: bs, h, 0 => h.1
  | k :: ks, b :: bs, h, i + 1 => iv_F2_at h.2 i
theorem iv_Dlaw : iv_k115.all (iv_dc code) = true := by
  unfold iv_k115
  simp only [List.all_append, Bool.and_eq_true]
  exact ⟨⟨⟨⟨⟨⟨⟨⟨⟨⟨⟨iv_L0, iv_L1⟩, iv_L2⟩, iv_L3⟩, iv_L4⟩, iv_L5⟩, iv_L6⟩, iv_L7⟩, iv_L8⟩, iv_L9⟩, iv_L10⟩, iv_L11⟩
theorem iv_D0 : iv_k0.all (iv_dc prog_1_method_1_code) = true := by decide +kernel
theorem iv_D1 : iv_k1.all (iv_dc object_method_1_code) = true := rfl
theorem iv_D2 : iv_k2.all (iv_dc prog_3_method_1_code) = true := by decide +kernel
theorem iv_D3 : iv_k3.all (iv_dc prog_4_method_1_code) = true := by decide +kernel
theorem iv_D4 : iv_k4.all (iv_dc prog_15_method_103_code) = true := by decide +kernel
theorem iv_D5 : iv_k5.all (iv_dc prog_6_method_1_code) = true := by decide +kernel
theorem iv_D6 : iv_k6.all (iv_dc prog_12_method_69_code) = true := rfl
theorem iv_D7 : iv_k7.all (iv_dc prog_12_method_65_code) = true := rfl
theorem iv_D8 : iv_k8.all (iv_dc prog_2_method_1_code) = true := by decide +kernel
theorem iv_D9 : iv_k9.all (iv_dc prog_5_method_1_code) = true := by decide +kernel
theorem iv_D10 : iv_k10.all (iv_dc prog_1_method_4_code) = true := by decide +kernel
theorem iv_D11 : iv_k11.all (iv_dc prog_2_method_3_code) = true := by decide +kernel
theorem iv_D12 : iv_k12.all (iv_dc prog_2_method_4_code) = true := by decide +kernel
theorem iv_D13 : iv_k13.all (iv_dc prog_2_method_5_code) = true := by decide +kernel
theorem iv_D14 : iv_k14.all (iv_dc prog_12_method_59_code) = true := rfl
theorem iv_D15 : iv_k15.all (iv_dc prog_3_method_2_code) = true := by decide +kernel
theorem iv_D16 : iv_k16.all (iv_dc prog_3_method_5_code) = true := by decide +kernel
theorem iv_D17 : iv_k17.all (iv_dc prog_12_method_50_code) = true := by decide +kernel
theorem iv_D18 : iv_k18.all (iv_dc prog_2_method_6_code) = true := by decide +kernel
theorem iv_D19 : iv_k19.all (iv_dc prog_2_method_7_code) = true := by decide +kernel
theorem iv_D20 : iv_k20.all (iv_dc prog_2_method_9_code) = true := by decide +kernel
theorem iv_D21 : iv_k21.all (iv_dc prog_2_method_10_code) = true := by decide +kernel
theorem iv_D22 : iv_k22.all (iv_dc prog_12_method_47_code) = true := by decide +kernel
theorem iv_D23 : iv_k23.all (iv_dc prog_2_method_8_code) = true := by decide +kernel
theorem iv_D24 : iv_k24.all (iv_dc prog_1_method_22_code) = true := by decide +kernel
theorem iv_D25 : iv_k25.all (iv_dc prog_4_method_4_code) = true := by decide +kernel
theorem iv_D26 : iv_k26.all (iv_dc prog_4_method_7_code) = true := by decide +kernel
theorem iv_D27 : iv_k27.all (iv_dc prog_4_method_6_code) = true := by decide +kernel
theorem iv_D28 : iv_k28.all (iv_dc prog_4_method_5_code) = true := by decide +kernel
theorem iv_D29 : iv_k29.all (iv_dc prog_4_method_8_code) = true := by decide +kernel
theorem iv_D30 : iv_k30.all (iv_dc prog_4_method_9_code) = true := by decide +kernel
theorem iv_D31 : iv_k31.all (iv_dc prog_5_method_2_code) = true := by decide +kernel
theorem iv_D32 : iv_k32.all (iv_dc prog_5_method_3_code) = true := by decide +kernel
theorem iv_D33 : iv_k33.all (iv_dc prog_5_method_4_code) = true := by decide +kernel
theorem iv_D34 : iv_k34.all (iv_dc prog_1_method_23_code) = true := by decide +kernel
theorem iv_D35 : iv_k35.all (iv_dc prog_6_method_3_code) = true := by decide +kernel
theorem iv_D36 : iv_k36.all (iv_dc prog_6_method_4_code) = true := by decide +kernel
theorem iv_D37 : iv_k37.all (iv_dc prog_1_method_24_code) = true := by decide +kernel
theorem iv_D38 : iv_k38.all (iv_dc prog_4_method_3_code) = true := by decide +kernel
theorem iv_D39 : iv_k39.all (iv_dc prog_1_method_14_code) = true := by decide +kernel
theorem iv_D40 : iv_k40.all (iv_dc method_2_code) = true := by decide +kernel
theorem iv_D41 : iv_k41.all (iv_dc method_3_code) = true := by decide +kernel
theorem iv_D42 : iv_k42.all (iv_dc prog_1_method_2_code) = true := by decide +kernel
theorem iv_D43 : iv_k43.all (iv_dc prog_1_method_17_code) = true := by decide +kernel
theorem iv_D44 : iv_k44.all (iv_dc prog_1_method_20_code) = true := by decide +kernel
theorem iv_D45 : iv_k45.all (iv_dc prog_14_method_1_code) = true := rfl
theorem iv_D46 : iv_k46.all (iv_dc prog_10_method_1_code) = true := rfl
theorem iv_D47 : iv_k47.all (iv_dc prog_13_method_1_code) = true := rfl
theorem iv_D48 : iv_k48.all (iv_dc prog_9_method_1_code) = true := rfl
theorem iv_D49 : iv_k49.all (iv_dc prog_1_method_19_code) = true := by decide +kernel
theorem iv_D50 : iv_k50.all (iv_dc prog_2_method_2_code) = true := by decide +kernel
theorem iv_D51 : iv_k51.all (iv_dc method_4_code) = true := by decide +kernel
theorem iv_D52 : iv_k52.all (iv_dc prog_1_method_3_code) = true := by decide +kernel
theorem iv_D53 : iv_k53.all (iv_dc method_5_code) = true := by decide +kernel
theorem iv_D54 : iv_k54.all (iv_dc prog_1_method_5_code) = true := by decide +kernel
theorem iv_D55 : iv_k55.all (iv_dc prog_1_method_21_code) = true := by decide +kernel
theorem iv_D56 : iv_k56.all (iv_dc prog_11_method_1_code) = true := rfl
theorem iv_D57 : iv_k57.all (iv_dc method_6_code) = true := by decide +kernel
theorem iv_D58 : iv_k58.all (iv_dc prog_1_method_6_code) = true := by decide +kernel
theorem iv_D59 : iv_k59.all (iv_dc method_7_code) = true := by decide +kernel
theorem iv_D60 : iv_k60.all (iv_dc prog_1_method_7_code) = true := by decide +kernel
theorem iv_D61 : iv_k61.all (iv_dc prog_6_method_2_code) = true := by decide +kernel
theorem iv_D62 : iv_k62.all (iv_dc method_8_code) = true := by decide +kernel
theorem iv_D63 : iv_k63.all (iv_dc prog_1_method_8_code) = true := by decide +kernel
theorem iv_D64 : iv_k64.all (iv_dc prog_1_method_18_code) = true := by decide +kernel
theorem iv_D65 : iv_k65.all (iv_dc method_9_code) = true := by decide +kernel
theorem iv_D66 : iv_k66.all (iv_dc prog_1_method_9_code) = true := by decide +kernel
theorem iv_D67 : iv_k67.all (iv_dc prog_4_method_2_code) = true := by decide +kernel
theorem iv_D68 : iv_k68.all (iv_dc method_10_code) = true := by decide +kernel
theorem iv_D69 : iv_k69.all (iv_dc prog_1_method_10_code) = true := by decide +kernel
theorem iv_D70 : iv_k70.all (iv_dc method_11_code) = true := by decide +kernel
theorem iv_D71 : iv_k71.all (iv_dc prog_1_method_11_code) = true := by decide +kernel
theorem iv_D72 : iv_k72.all (iv_dc method_12_code) = true := by decide +kernel
theorem iv_D73 : iv_k73.all (iv_dc prog_1_method_12_code) = true := by decide +kernel
theorem iv_D74 : iv_k74.all (iv_dc method_13_code) = true := by decide +kernel
theorem iv_D75 : iv_k75.all (iv_dc prog_1_method_13_code) = true := by decide +kernel
theorem iv_D76 : iv_k76.all (iv_dc method_14_code) = true := by decide +kernel
theorem iv_D77 : iv_k77.all (iv_dc prog_1_method_15_code) = true := by decide +kernel
theorem iv_D78 : iv_k78.all (iv_dc prog_3_method_3_code) = true := by decide +kernel
theorem iv_D79 : iv_k79.all (iv_dc prog_16_method_1_code) = true := rfl
theorem iv_D80 : iv_k80.all (iv_dc prog_3_method_4_code) = true := by decide +kernel
theorem iv_D81 : iv_k81.all (iv_dc method_15_code) = true := by decide +kernel
theorem iv_D82 : iv_k82.all (iv_dc prog_1_method_16_code) = true := by decide +kernel
theorem iv_D83 : iv_k83.all (iv_dc prog_8_method_1_code) = true := by decide +kernel
theorem iv_D84 : iv_k84.all (iv_dc prog_8_method_2_code) = true := by decide +kernel
theorem iv_D85 : iv_k85.all (iv_dc prog_8_method_5_code) = true := by decide +kernel
theorem iv_D86 : iv_k86.all (iv_dc prog_8_method_3_code) = true := by decide +kernel
theorem iv_D87 : iv_k87.all (iv_dc prog_8_method_8_code) = true := by decide +kernel
theorem iv_D88 : iv_k88.all (iv_dc prog_8_method_7_code) = true := by decide +kernel
theorem iv_D89 : iv_k89.all (iv_dc prog_8_method_6_code) = true := by decide +kernel
theorem iv_D90 : iv_k90.all (iv_dc prog_8_method_20_code) = true := by decide +kernel
theorem iv_D91 : iv_k91.all (iv_dc prog_8_method_12_code) = true := by decide +kernel
theorem iv_D92 : iv_k92.all (iv_dc prog_8_method_11_code) = true := by decide +kernel
theorem iv_D93 : iv_k93.all (iv_dc prog_8_method_9_code) = true := by decide +kernel
theorem iv_D94 : iv_k94.all (iv_dc prog_8_method_4_code) = true := by decide +kernel
theorem iv_D95 : iv_k95.all (iv_dc prog_8_method_10_code) = true := by decide +kernel
theorem iv_D96 : iv_k96.all (iv_dc prog_8_method_16_code) = true := by decide +kernel
theorem iv_D97 : iv_k97.all (iv_dc prog_8_method_15_code) = true := by decide +kernel
theorem iv_D98 : iv_k98.all (iv_dc prog_8_method_17_code) = true := by decide +kernel
theorem iv_D99 : iv_k99.all (iv_dc prog_8_method_18_code) = true := by decide +kernel
theorem iv_D100 : iv_k100.all (iv_dc prog_8_method_13_code) = true := by decide +kernel
theorem iv_D101 : iv_k101.all (iv_dc prog_8_method_14_code) = true := by decide +kernel
theorem iv_D102 : iv_k102.all (iv_dc prog_8_method_19_code) = true := by decide +kernel
theorem iv_D103 : iv_k103.all (iv_dc prog_8_method_21_code) = true := by decide +kernel
theorem iv_D104 : iv_k104.all (iv_dc prog_8_method_22_code) = true := by decide +kernel
theorem iv_D105 : iv_k105.all (iv_dc prog_8_method_23_code) = true := by decide +kernel
theorem iv_D106 : iv_k106.all (iv_dc prog_8_method_24_code) = true := by decide +kernel
theorem iv_D107 : iv_k107.all (iv_dc prog_8_method_25_code) = true := by decide +kernel
theorem iv_D108 : iv_k108.all (iv_dc prog_8_method_26_code) = true := by decide +kernel
theorem iv_D109 : iv_k109.all (iv_dc prog_8_method_27_code) = true := by decide +kernel
theorem iv_D110 : iv_k110.all (iv_dc prog_8_method_28_code) = true := by decide +kernel
theorem iv_D111 : iv_k111.all (iv_dc prog_8_method_29_code) = true := by decide +kernel
theorem iv_D112 : iv_k112.all (iv_dc prog_8_method_30_code) = true := by decide +kernel
theorem iv_D113 : iv_k113.all (iv_dc prog_8_method_31_code) = true := by decide +kernel
theorem iv_D114 : iv_k114.all (iv_dc prog_8_method_32_code) = true := by decide +kernel
theorem iv_D115 : iv_k115.all (iv_dc code) = true := iv_Dlaw
set_option maxRecDepth 20000 in
theorem iv_DD : iv_F2 iv_codes iv_bs := ⟨iv_D0, ⟨iv_D1, ⟨iv_D2, ⟨iv_D3, ⟨iv_D4, ⟨iv_D5, ⟨iv_D6, ⟨iv_D7, ⟨iv_D8, ⟨iv_D9, ⟨iv_D10, ⟨iv_D11, ⟨iv_D12, ⟨iv_D13, ⟨iv_D14, ⟨iv_D15, ⟨iv_D16, ⟨iv_D17, ⟨iv_D18, ⟨iv_D19, ⟨iv_D20, ⟨iv_D21, ⟨iv_D22, ⟨iv_D23, ⟨iv_D24, ⟨iv_D25, ⟨iv_D26, ⟨iv_D27, ⟨iv_D28, ⟨iv_D29, ⟨iv_D30, ⟨iv_D31, ⟨iv_D32, ⟨iv_D33, ⟨iv_D34, ⟨iv_D35, ⟨iv_D36, ⟨iv_D37, ⟨iv_D38, ⟨iv_D39, ⟨iv_D40, ⟨iv_D41, ⟨iv_D42, ⟨iv_D43, ⟨iv_D44, ⟨iv_D45, ⟨iv_D46, ⟨iv_D47, ⟨iv_D48, ⟨iv_D49, ⟨iv_D50, ⟨iv_D51, ⟨iv_D52, ⟨iv_D53, ⟨iv_D54, ⟨iv_D55, ⟨iv_D56, ⟨iv_D57, ⟨iv_D58, ⟨iv_D59, ⟨iv_D60, ⟨iv_D61, ⟨iv_D62, ⟨iv_D63, ⟨iv_D64, ⟨iv_D65, ⟨iv_D66, ⟨iv_D67, ⟨iv_D68, ⟨iv_D69, ⟨iv_D70, ⟨iv_D71, ⟨iv_D72, ⟨iv_D73, ⟨iv_D74, ⟨iv_D75, ⟨iv_D76, ⟨iv_D77, ⟨iv_D78, ⟨iv_D79, ⟨iv_D80, ⟨iv_D81, ⟨iv_D82, ⟨iv_D83, ⟨iv_D84, ⟨iv_D85, ⟨iv_D86, ⟨iv_D87, ⟨iv_D88, ⟨iv_D89, ⟨iv_D90, ⟨iv_D91, ⟨iv_D92, ⟨iv_D93, ⟨iv_D94, ⟨iv_D95, ⟨iv_D96, ⟨iv_D97, ⟨iv_D98, ⟨iv_D99, ⟨iv_D100, ⟨iv_D101, ⟨iv_D102, ⟨iv_D103, ⟨iv_D104, ⟨iv_D105, ⟨iv_D106, ⟨iv_D107, ⟨iv_D108, ⟨iv_D109, ⟨iv_D110, ⟨iv_D111, ⟨iv_D112, ⟨iv_D113, ⟨iv_D114, ⟨iv_D115, trivial⟩⟩⟩⟩⟩⟩⟩⟩⟩⟩⟩⟩⟩⟩⟩⟩⟩⟩⟩⟩⟩⟩⟩⟩⟩⟩⟩⟩⟩⟩⟩⟩⟩⟩⟩⟩⟩⟩⟩⟩⟩⟩⟩⟩⟩⟩⟩⟩⟩⟩⟩⟩⟩⟩⟩⟩⟩⟩⟩⟩⟩⟩⟩⟩⟩⟩⟩⟩⟩⟩⟩⟩⟩⟩⟩⟩⟩⟩⟩⟩⟩⟩⟩⟩⟩⟩⟩⟩⟩⟩⟩⟩⟩⟩⟩⟩⟩⟩⟩⟩⟩⟩⟩⟩⟩⟩⟩⟩⟩⟩⟩⟩⟩⟩⟩⟩
theorem iv_dec {mi pc : Nat} {ins : Instr} (h : iv_lk pc (iv_code mi) = some ins) : ∃ l, decode (iv_b mi) pc = .ok (ins, l) ∧ (iv_sw ins = false → l = iv_sz ins) := by
  have h1 : (iv_code mi).all (iv_dc (iv_b mi)) = true := iv_F2_at iv_DD mi
  have h2 := List.all_eq_true.mp h1 _ (iv_lk_mem h)
  unfold iv_dc at h2
  split at h2
  · rename_i i l hd
    simp only [Bool.and_eq_true, decide_eq_true_eq, Bool.or_eq_true] at h2
    obtain ⟨h3, h4⟩ := h2
    simp only at h3 hd
    subst h3
    refine ⟨l, hd, fun h5 => ?_⟩
    rcases h4 with h6 | h6
    · rw [h5] at h6; cases h6
    · exact Nat.eq_of_beq_eq_true h6
  · cases h2
-- the fields
def iv_flc (q : Nat × Nat × (Nat × Nat) × Nat × Bool) : Bool := match iv_cl[q.2.2.1.1]? with
  | some z => Nat.blt q.2.2.1.2 z.2.2 && decide ((z.2.1 q.2.2.1.2).1 = z.1) && (bif q.2.2.2.2 then decide (lw_tbl[q.2.2.2.1]? = some (.fieldLinkNest (iv_on q.1) q.2.1 (z.2.1 q.2.2.1.2).1 (z.2.1 q.2.2.1.2).2.1 (z.2.1 q.2.2.1.2).2.2.1 "TripGuard")) && !(Nat.beq q.1 q.2.2.1.1)
      else decide (lw_tbl[q.2.2.2.1]? = some (.fieldLink (iv_on q.1) q.2.1 (z.2.1 q.2.2.1.2).1 (z.2.1 q.2.2.1.2).2.1 (z.2.1 q.2.2.1.2).2.2.1)))
  | none => false
set_option maxRecDepth 20000 in
theorem iv_fls_ok : iv_fls.all iv_flc = true := by decide +kernel
theorem iv_u0 : u_ws "TripGuard$Channel" iv_T0 8 = ([134, 136, 138, 140, 142, 144, 146, 148] : List Nat).filterMap (fun i => lw_tbl[i]?) := by decide +kernel
theorem iv_g0 : (u_ws "TripGuard$Channel" iv_T0 8).all goodWord = true := by decide +kernel
theorem iv_n0 : ∀ a, a < 8 → ∀ b, b < 8 → a ≠ b → (iv_T0 a).2.1 ≠ (iv_T0 b).2.1 := by decide +kernel
theorem iv_p0 : ∀ k, k < 8 → parseFieldDescriptor (iv_T0 k).2.2.1 = some (iv_t0 k) := by decide +kernel
theorem iv_z0 : ∀ j, j < 8 → defaultValue (iv_t0 j) = vp_V iv_d0 j := by decide +kernel
theorem iv_u1 : u_ws "TripGuard$Journal" iv_T1 3 = ([58, 60, 62] : List Nat).filterMap (fun i => lw_tbl[i]?) := by decide +kernel
theorem iv_g1 : (u_ws "TripGuard$Journal" iv_T1 3).all goodWord = true := by decide +kernel
theorem iv_n1 : ∀ a, a < 3 → ∀ b, b < 3 → a ≠ b → (iv_T1 a).2.1 ≠ (iv_T1 b).2.1 := by decide +kernel
theorem iv_p1 : ∀ k, k < 3 → parseFieldDescriptor (iv_T1 k).2.2.1 = some (iv_t1 k) := by decide +kernel
theorem iv_z1 : ∀ j, j < 3 → defaultValue (iv_t1 j) = vp_V iv_d1 j := by decide +kernel
theorem iv_u2 : u_ws "TripGuard$Links" iv_T2 2 = ([81, 83] : List Nat).filterMap (fun i => lw_tbl[i]?) := by decide +kernel
theorem iv_g2 : (u_ws "TripGuard$Links" iv_T2 2).all goodWord = true := by decide +kernel
theorem iv_n2 : ∀ a, a < 2 → ∀ b, b < 2 → a ≠ b → (iv_T2 a).2.1 ≠ (iv_T2 b).2.1 := by decide +kernel
theorem iv_p2 : ∀ k, k < 2 → parseFieldDescriptor (iv_T2 k).2.2.1 = some (iv_t2 k) := by decide +kernel
theorem iv_z2 : ∀ j, j < 2 → defaultValue (iv_t2 j) = vp_V iv_d2 j := by decide +kernel
theorem iv_u3 : u_ws "TripGuard$Train" iv_T3 4 = ([164, 166, 168, 170] : List Nat).filterMap (fun i => lw_tbl[i]?) := by decide +kernel
theorem iv_g3 : (u_ws "TripGuard$Train" iv_T3 4).all goodWord = true := by decide +kernel
theorem iv_n3 : ∀ a, a < 4 → ∀ b, b < 4 → a ≠ b → (iv_T3 a).2.1 ≠ (iv_T3 b).2.1 := by decide +kernel
theorem iv_p3 : ∀ k, k < 4 → parseFieldDescriptor (iv_T3 k).2.2.1 = some (iv_t3 k) := by decide +kernel
theorem iv_z3 : ∀ j, j < 4 → defaultValue (iv_t3 j) = vp_V iv_d3 j := by decide +kernel
theorem iv_u4 : u_ws "TripGuard$Trial" iv_T4 5 = ([102, 104, 106, 108, 110] : List Nat).filterMap (fun i => lw_tbl[i]?) := by decide +kernel
theorem iv_g4 : (u_ws "TripGuard$Trial" iv_T4 5).all goodWord = true := by decide +kernel
theorem iv_n4 : ∀ a, a < 5 → ∀ b, b < 5 → a ≠ b → (iv_T4 a).2.1 ≠ (iv_T4 b).2.1 := by decide +kernel
theorem iv_p4 : ∀ k, k < 5 → parseFieldDescriptor (iv_T4 k).2.2.1 = some (iv_t4 k) := by decide +kernel
theorem iv_z4 : ∀ j, j < 5 → defaultValue (iv_t4 j) = vp_V iv_d4 j := by decide +kernel
theorem iv_u5 : u_ws "TripGuard" iv_T5 8 = ([181, 183, 185, 187, 189, 191, 193, 195] : List Nat).filterMap (fun i => lw_tbl[i]?) := by decide +kernel
theorem iv_g5 : (u_ws "TripGuard" iv_T5 8).all goodWord = true := by decide +kernel
theorem iv_n5 : ∀ a, a < 8 → ∀ b, b < 8 → a ≠ b → (iv_T5 a).2.1 ≠ (iv_T5 b).2.1 := by decide +kernel
theorem iv_p5 : ∀ k, k < 8 → parseFieldDescriptor (iv_T5 k).2.2.1 = some (iv_t5 k) := by decide +kernel
theorem iv_z5 : ∀ j, j < 8 → defaultValue (iv_t5 j) = vp_V iv_d5 j := by decide +kernel
theorem iv_u6 : u_ws "TripGuardModel" iv_T6 30 = ([580, 582, 584, 586, 588, 590, 592, 594, 596, 598, 600, 602, 604, 606, 608, 610, 612, 614, 616, 618, 620, 622, 624, 626, 628, 630, 632, 634, 636, 638] : List Nat).filterMap (fun i => lw_tbl[i]?) := by decide +kernel
theorem iv_g6 : (u_ws "TripGuardModel" iv_T6 30).all goodWord = true := by decide +kernel
theorem iv_n6 : ∀ a, a < 30 → ∀ b, b < 30 → a ≠ b → (iv_T6 a).2.1 ≠ (iv_T6 b).2.1 := by decide +kernel
theorem iv_p6 : ∀ k, k < 30 → parseFieldDescriptor (iv_T6 k).2.2.1 = some (iv_t6 k) := by decide +kernel
theorem iv_z6 : ∀ j, j < 30 → defaultValue (iv_t6 j) = vp_V iv_d6 j := by decide +kernel
theorem iv_uw {ws : List Cond} {ps : List Nat} (hp : ws = ps.filterMap (fun i => lw_tbl[i]?)) (hg : ws.all goodWord = true) : ∀ w ∈ ws, w ∈ iv_Ws := by
  intro w hw
  have h1 := List.all_eq_true.mp hg w hw
  rw [hp] at hw
  obtain ⟨i, -, hi⟩ := List.mem_filterMap.mp hw
  exact iv_Ws_at hi h1
/-- what is known of a class of objects -/
def iv_clP (ci : Nat) (C : String) (T : u_T) (N : Nat) : Prop := (∀ w ∈ u_ws C T N, w ∈ iv_Ws) ∧ (∀ a, a < N → ∀ b, b < N → a ≠ b → (T a).2.1 ≠ (T b).2.1) ∧ (∀ k, k < N → parseFieldDescriptor (T k).2.2.1 = some (iv_ft ci k)) ∧ (∀ k, k < N → (T k).2.2.2 = iv_fin ci k) ∧ (ci < 7 → (∀ j, j < N → defaultValue (iv_ft ci j) = vp_V (iv_df ci) j) ∧ N = iv_fn ci) ∧ C = iv_on ci
theorem iv_cl0 : iv_clP 0 "TripGuard$Channel" iv_T0 8 := ⟨iv_uw iv_u0 iv_g0, iv_n0, iv_p0, fun _ _ => rfl, fun _ => ⟨iv_z0, rfl⟩, rfl⟩
theorem iv_cl1 : iv_clP 1 "TripGuard$Journal" iv_T1 3 := ⟨iv_uw iv_u1 iv_g1, iv_n1, iv_p1, fun _ _ => rfl, fun _ => ⟨iv_z1, rfl⟩, rfl⟩
theorem iv_cl2 : iv_clP 2 "TripGuard$Links" iv_T2 2 := ⟨iv_uw iv_u2 iv_g2, iv_n2, iv_p2, fun _ _ => rfl, fun _ => ⟨iv_z2, rfl⟩, rfl⟩
theorem iv_cl3 : iv_clP 3 "TripGuard$Train" iv_T3 4 := ⟨iv_uw iv_u3 iv_g3, iv_n3, iv_p3, fun _ _ => rfl, fun _ => ⟨iv_z3, rfl⟩, rfl⟩
theorem iv_cl4 : iv_clP 4 "TripGuard$Trial" iv_T4 5 := ⟨iv_uw iv_u4 iv_g4, iv_n4, iv_p4, fun _ _ => rfl, fun _ => ⟨iv_z4, rfl⟩, rfl⟩
theorem iv_cl5 : iv_clP 5 "TripGuard" iv_T5 8 := ⟨iv_uw iv_u5 iv_g5, iv_n5, iv_p5, fun _ _ => rfl, fun _ => ⟨iv_z5, rfl⟩, rfl⟩
theorem iv_cl6 : iv_clP 6 "TripGuardModel" iv_T6 30 := ⟨iv_uw iv_u6 iv_g6, iv_n6, iv_p6, fun _ _ => rfl, fun _ => ⟨iv_z6, rfl⟩, rfl⟩
theorem iv_cl7 : iv_clP 7 "java/lang/IllegalArgumentException" iv_Te 0 := ⟨fun w hw => (by simp [u_ws] at hw), fun a ha => absurd ha (Nat.not_lt_zero _), fun a ha => absurd ha (Nat.not_lt_zero _), fun a ha => absurd ha (Nat.not_lt_zero _), fun h => absurd h (by decide : ¬ (7 < 7)), rfl⟩
theorem iv_cl8 : iv_clP 8 "java/lang/IllegalStateException" iv_Te 0 := ⟨fun w hw => (by simp [u_ws] at hw), fun a ha => absurd ha (Nat.not_lt_zero _), fun a ha => absurd ha (Nat.not_lt_zero _), fun a ha => absurd ha (Nat.not_lt_zero _), fun h => absurd h (by decide : ¬ (8 < 7)), rfl⟩
theorem iv_cl9 : iv_clP 9 "java/util/NoSuchElementException" iv_Te 0 := ⟨fun w hw => (by simp [u_ws] at hw), fun a ha => absurd ha (Nat.not_lt_zero _), fun a ha => absurd ha (Nat.not_lt_zero _), fun a ha => absurd ha (Nat.not_lt_zero _), fun h => absurd h (by decide : ¬ (9 < 7)), rfl⟩
theorem iv_cl_ok {ci : Nat} {C : String} {T : u_T} {N : Nat} (h : iv_cl[ci]? = some (C, T, N)) : iv_clP ci C T N := by
  have hlt : ci < 10 := (List.getElem?_eq_some_iff.mp h).1
  match ci, hlt, h with
  | 0, _, h => cases h; exact iv_cl0
  | 1, _, h => cases h; exact iv_cl1
  | 2, _, h => cases h; exact iv_cl2
  | 3, _, h => cases h; exact iv_cl3
  | 4, _, h => cases h; exact iv_cl4
  | 5, _, h => cases h; exact iv_cl5
  | 6, _, h => cases h; exact iv_cl6
  | 7, _, h => cases h; exact iv_cl7
  | 8, _, h => cases h; exact iv_cl8
  | 9, _, h => cases h; exact iv_cl9
  | n + 10, hlt, _ => omega
