/-! The tables hold: links, methods, rooms, new objects. -/
def iv_mp0 : List (Nat × Nat × Nat × Nat × Nat) := [(0, 42, 23, 41, 0), (2, 50, 24, 49, 0), (3, 74, 25, 73, 0), (4, 78, 26, 77, 0), (5, 90, 27, 89, 0), (8, 122, 29, 121, 0), (9, 154, 30, 153, 0), (10, 201, 23, 199, 200), (11, 205, 29, 203, 204), (12, 209, 29, 208, 0), (13, 213, 29, 212, 1), (15, 220, 24, 218, 219), (16, 223, 24, 222, 0), (17, 226, 28, 225, 0), (18, 230, 29, 229, 2), (19, 234, 29, 233, 3), (20, 238, 29, 236, 237), (21, 242, 29, 241, 0), (22, 247, 28, 246, 0), (23, 251, 29, 250, 4), (24, 255, 23, 254, 5), (25, 259, 25, 257, 258), (26, 262, 25, 261, 0), (27, 265, 25, 264, 0), (28, 268, 25, 267, 0), (29, 271, 25, 270, 0)]
def iv_mp1 : List (Nat × Nat × Nat × Nat × Nat) := [(30, 274, 25, 273, 0), (31, 280, 30, 278, 279), (32, 284, 30, 283, 6), (33, 289, 30, 288, 7), (34, 295, 23, 294, 8), (35, 299, 27, 297, 298), (36, 303, 27, 301, 302), (37, 307, 23, 306, 9), (38, 312, 25, 310, 311), (39, 316, 23, 314, 315), (40, 319, 22, 318, 0), (41, 322, 22, 321, 0), (42, 327, 23, 325, 326), (43, 330, 23, 329, 0), (44, 333, 23, 332, 0), (49, 399, 23, 398, 0), (50, 403, 29, 401, 402), (51, 406, 22, 405, 0), (52, 410, 23, 408, 409), (53, 414, 22, 413, 0), (54, 419, 23, 417, 418), (55, 422, 23, 421, 0), (57, 440, 22, 439, 0), (58, 444, 23, 442, 443), (59, 447, 22, 446, 0), (60, 451, 23, 449, 450)]
def iv_mp2 : List (Nat × Nat × Nat × Nat × Nat) := [(61, 455, 27, 453, 454), (62, 458, 22, 457, 0), (63, 462, 23, 460, 461), (64, 465, 23, 464, 0), (65, 468, 22, 467, 0), (66, 472, 23, 470, 471), (67, 476, 25, 474, 475), (68, 480, 22, 479, 0), (69, 484, 23, 482, 483), (70, 487, 22, 486, 0), (71, 491, 23, 489, 490), (72, 494, 22, 493, 0), (73, 498, 23, 496, 497), (74, 501, 22, 500, 0), (75, 505, 23, 503, 504), (76, 508, 22, 507, 0), (77, 513, 23, 511, 512), (78, 517, 24, 515, 516), (80, 536, 24, 534, 535), (81, 539, 22, 538, 0), (82, 543, 23, 541, 542), (83, 548, 31, 547, 0), (84, 645, 31, 643, 644), (85, 649, 31, 647, 648), (86, 652, 31, 651, 0), (87, 656, 31, 654, 655)]
def iv_mp3 : List (Nat × Nat × Nat × Nat × Nat) := [(88, 660, 31, 659, 11), (89, 663, 31, 662, 0), (90, 668, 31, 666, 667), (91, 672, 31, 671, 12), (92, 676, 31, 675, 13), (93, 679, 31, 678, 0), (94, 683, 31, 682, 14), (95, 687, 31, 686, 15), (96, 691, 31, 690, 16), (97, 694, 31, 693, 0), (98, 698, 31, 697, 17), (99, 702, 31, 701, 18), (100, 706, 31, 705, 19), (101, 710, 31, 709, 20), (102, 714, 31, 713, 21), (103, 718, 31, 716, 717), (104, 722, 31, 720, 721), (105, 726, 31, 724, 725), (106, 730, 31, 728, 729), (107, 734, 31, 732, 733), (108, 738, 31, 736, 737), (109, 742, 31, 740, 741), (110, 746, 31, 744, 745), (111, 750, 31, 748, 749), (112, 754, 31, 752, 753), (113, 758, 31, 756, 757)]
def iv_mp4 : List (Nat × Nat × Nat × Nat × Nat) := [(114, 762, 31, 760, 761)]
def iv_mps : List (Nat × Nat × Nat × Nat × Nat) := ((((iv_mp0 ++ iv_mp1) ++ iv_mp2) ++ iv_mp3) ++ iv_mp4)
def iv_cwP (j : Nat) : Prop := (iv_hh j = [] ∧ Cond.code (iv_y j) (iv_b j) (iv_nL j) (iv_rt j) ∈ iv_Ws) ∨ Cond.codeWith (iv_y j) (iv_b j) (iv_nL j) (iv_rt j) (iv_hh j) ∈ iv_Ws
set_option maxRecDepth 100000 in
theorem iv_w0 : iv_cwP 0 := Or.inl ⟨rfl, iv_Ws_at (i := 42) rfl rfl⟩
set_option maxRecDepth 100000 in
theorem iv_w2 : iv_cwP 2 := Or.inl ⟨rfl, iv_Ws_at (i := 50) rfl rfl⟩
set_option maxRecDepth 100000 in
theorem iv_w3 : iv_cwP 3 := Or.inl ⟨rfl, iv_Ws_at (i := 74) rfl rfl⟩
set_option maxRecDepth 100000 in
theorem iv_w4 : iv_cwP 4 := Or.inl ⟨rfl, iv_Ws_at (i := 78) rfl rfl⟩
set_option maxRecDepth 100000 in
theorem iv_w5 : iv_cwP 5 := Or.inl ⟨rfl, iv_Ws_at (i := 90) rfl rfl⟩
set_option maxRecDepth 100000 in
theorem iv_w8 : iv_cwP 8 := Or.inl ⟨rfl, iv_Ws_at (i := 122) rfl rfl⟩
set_option maxRecDepth 100000 in
theorem iv_w9 : iv_cwP 9 := Or.inl ⟨rfl, iv_Ws_at (i := 154) rfl rfl⟩
set_option maxRecDepth 100000 in
theorem iv_w10 : iv_cwP 10 := Or.inl ⟨rfl, iv_Ws_at (i := 201) rfl rfl⟩
set_option maxRecDepth 100000 in
theorem iv_w11 : iv_cwP 11 := Or.inl ⟨rfl, iv_Ws_at (i := 205) rfl rfl⟩
set_option maxRecDepth 100000 in
theorem iv_w12 : iv_cwP 12 := Or.inl ⟨rfl, iv_Ws_at (i := 209) rfl rfl⟩
set_option maxRecDepth 100000 in
theorem iv_w13 : iv_cwP 13 := Or.inl ⟨rfl, iv_Ws_at (i := 213) rfl rfl⟩
set_option maxRecDepth 100000 in
theorem iv_w15 : iv_cwP 15 := Or.inl ⟨rfl, iv_Ws_at (i := 220) rfl rfl⟩
set_option maxRecDepth 100000 in
theorem iv_w16 : iv_cwP 16 := Or.inl ⟨rfl, iv_Ws_at (i := 223) rfl rfl⟩
set_option maxRecDepth 100000 in
theorem iv_w17 : iv_cwP 17 := Or.inl ⟨rfl, iv_Ws_at (i := 226) rfl rfl⟩
set_option maxRecDepth 100000 in
theorem iv_w18 : iv_cwP 18 := Or.inl ⟨rfl, iv_Ws_at (i := 230) rfl rfl⟩
set_option maxRecDepth 100000 in
theorem iv_w19 : iv_cwP 19 := Or.inl ⟨rfl, iv_Ws_at (i := 234) rfl rfl⟩
set_option maxRecDepth 100000 in
theorem iv_w20 : iv_cwP 20 := Or.inl ⟨rfl, iv_Ws_at (i := 238) rfl rfl⟩
set_option maxRecDepth 100000 in
theorem iv_w21 : iv_cwP 21 := Or.inl ⟨rfl, iv_Ws_at (i := 242) rfl rfl⟩
set_option maxRecDepth 100000 in
theorem iv_w22 : iv_cwP 22 := Or.inl ⟨rfl, iv_Ws_at (i := 247) rfl rfl⟩
set_option maxRecDepth 100000 in
theorem iv_w23 : iv_cwP 23 := Or.inl ⟨rfl, iv_Ws_at (i := 251) rfl rfl⟩
set_option maxRecDepth 100000 in
theorem iv_w24 : iv_cwP 24 := Or.inl ⟨rfl, iv_Ws_at (i := 255) rfl rfl⟩
set_option maxRecDepth 100000 in
theorem iv_w25 : iv_cwP 25 := Or.inl ⟨rfl, iv_Ws_at (i := 259) rfl rfl⟩
set_option maxRecDepth 100000 in
theorem iv_w26 : iv_cwP 26 := Or.inl ⟨rfl, iv_Ws_at (i := 262) rfl rfl⟩
set_option maxRecDepth 100000 in
theorem iv_w27 : iv_cwP 27 := Or.inl ⟨rfl, iv_Ws_at (i := 265) rfl rfl⟩
set_option maxRecDepth 100000 in
theorem iv_w28 : iv_cwP 28 := Or.inl ⟨rfl, iv_Ws_at (i := 268) rfl rfl⟩
set_option maxRecDepth 100000 in
theorem iv_w29 : iv_cwP 29 := Or.inl ⟨rfl, iv_Ws_at (i := 271) rfl rfl⟩
set_option maxRecDepth 100000 in
theorem iv_w30 : iv_cwP 30 := Or.inl ⟨rfl, iv_Ws_at (i := 274) rfl rfl⟩
set_option maxRecDepth 100000 in
theorem iv_w31 : iv_cwP 31 := Or.inl ⟨rfl, iv_Ws_at (i := 280) rfl rfl⟩
set_option maxRecDepth 100000 in
theorem iv_w32 : iv_cwP 32 := Or.inl ⟨rfl, iv_Ws_at (i := 284) rfl rfl⟩
set_option maxRecDepth 100000 in
theorem iv_w33 : iv_cwP 33 := Or.inl ⟨rfl, iv_Ws_at (i := 289) rfl rfl⟩
set_option maxRecDepth 100000 in
theorem iv_w34 : iv_cwP 34 := Or.inl ⟨rfl, iv_Ws_at (i := 295) rfl rfl⟩
set_option maxRecDepth 100000 in
theorem iv_w35 : iv_cwP 35 := Or.inl ⟨rfl, iv_Ws_at (i := 299) rfl rfl⟩
set_option maxRecDepth 100000 in
theorem iv_w36 : iv_cwP 36 := Or.inl ⟨rfl, iv_Ws_at (i := 303) rfl rfl⟩
set_option maxRecDepth 100000 in
theorem iv_w37 : iv_cwP 37 := Or.inl ⟨rfl, iv_Ws_at (i := 307) rfl rfl⟩
set_option maxRecDepth 100000 in
theorem iv_w38 : iv_cwP 38 := Or.inl ⟨rfl, iv_Ws_at (i := 312) rfl rfl⟩
set_option maxRecDepth 100000 in
theorem iv_w39 : iv_cwP 39 := Or.inl ⟨rfl, iv_Ws_at (i := 316) rfl rfl⟩
set_option maxRecDepth 100000 in
theorem iv_w40 : iv_cwP 40 := Or.inl ⟨rfl, iv_Ws_at (i := 319) rfl rfl⟩
set_option maxRecDepth 100000 in
theorem iv_w41 : iv_cwP 41 := Or.inr (iv_Ws_at (i := 322) rfl rfl)
set_option maxRecDepth 100000 in
theorem iv_w42 : iv_cwP 42 := Or.inl ⟨rfl, iv_Ws_at (i := 327) rfl rfl⟩
set_option maxRecDepth 100000 in
theorem iv_w43 : iv_cwP 43 := Or.inl ⟨rfl, iv_Ws_at (i := 330) rfl rfl⟩
set_option maxRecDepth 100000 in
theorem iv_w44 : iv_cwP 44 := Or.inl ⟨rfl, iv_Ws_at (i := 333) rfl rfl⟩
set_option maxRecDepth 100000 in
theorem iv_w49 : iv_cwP 49 := Or.inl ⟨rfl, iv_Ws_at (i := 399) rfl rfl⟩
set_option maxRecDepth 100000 in
theorem iv_w50 : iv_cwP 50 := Or.inl ⟨rfl, iv_Ws_at (i := 403) rfl rfl⟩
set_option maxRecDepth 100000 in
theorem iv_w51 : iv_cwP 51 := Or.inr (iv_Ws_at (i := 406) rfl rfl)
set_option maxRecDepth 100000 in
theorem iv_w52 : iv_cwP 52 := Or.inl ⟨rfl, iv_Ws_at (i := 410) rfl rfl⟩
set_option maxRecDepth 100000 in
theorem iv_w53 : iv_cwP 53 := Or.inr (iv_Ws_at (i := 414) rfl rfl)
set_option maxRecDepth 100000 in
theorem iv_w54 : iv_cwP 54 := Or.inl ⟨rfl, iv_Ws_at (i := 419) rfl rfl⟩
set_option maxRecDepth 100000 in
theorem iv_w55 : iv_cwP 55 := Or.inl ⟨rfl, iv_Ws_at (i := 422) rfl rfl⟩
set_option maxRecDepth 100000 in
theorem iv_w57 : iv_cwP 57 := Or.inr (iv_Ws_at (i := 440) rfl rfl)
set_option maxRecDepth 100000 in
theorem iv_w58 : iv_cwP 58 := Or.inl ⟨rfl, iv_Ws_at (i := 444) rfl rfl⟩
set_option maxRecDepth 100000 in
theorem iv_w59 : iv_cwP 59 := Or.inr (iv_Ws_at (i := 447) rfl rfl)
set_option maxRecDepth 100000 in
theorem iv_w60 : iv_cwP 60 := Or.inl ⟨rfl, iv_Ws_at (i := 451) rfl rfl⟩
set_option maxRecDepth 100000 in
theorem iv_w61 : iv_cwP 61 := Or.inl ⟨rfl, iv_Ws_at (i := 455) rfl rfl⟩
set_option maxRecDepth 100000 in
theorem iv_w62 : iv_cwP 62 := Or.inr (iv_Ws_at (i := 458) rfl rfl)
set_option maxRecDepth 100000 in
theorem iv_w63 : iv_cwP 63 := Or.inl ⟨rfl, iv_Ws_at (i := 462) rfl rfl⟩
set_option maxRecDepth 100000 in
theorem iv_w64 : iv_cwP 64 := Or.inl ⟨rfl, iv_Ws_at (i := 465) rfl rfl⟩
set_option maxRecDepth 100000 in
theorem iv_w65 : iv_cwP 65 := Or.inr (iv_Ws_at (i := 468) rfl rfl)
set_option maxRecDepth 100000 in
theorem iv_w66 : iv_cwP 66 := Or.inl ⟨rfl, iv_Ws_at (i := 472) rfl rfl⟩
set_option maxRecDepth 100000 in
theorem iv_w67 : iv_cwP 67 := Or.inl ⟨rfl, iv_Ws_at (i := 476) rfl rfl⟩
set_option maxRecDepth 100000 in
theorem iv_w68 : iv_cwP 68 := Or.inr (iv_Ws_at (i := 480) rfl rfl)
set_option maxRecDepth 100000 in
theorem iv_w69 : iv_cwP 69 := Or.inl ⟨rfl, iv_Ws_at (i := 484) rfl rfl⟩
set_option maxRecDepth 100000 in
theorem iv_w70 : iv_cwP 70 := Or.inr (iv_Ws_at (i := 487) rfl rfl)
set_option maxRecDepth 100000 in
theorem iv_w71 : iv_cwP 71 := Or.inl ⟨rfl, iv_Ws_at (i := 491) rfl rfl⟩
set_option maxRecDepth 100000 in
theorem iv_w72 : iv_cwP 72 := Or.inr (iv_Ws_at (i := 494) rfl rfl)
set_option maxRecDepth 100000 in
theorem iv_w73 : iv_cwP 73 := Or.inl ⟨rfl, iv_Ws_at (i := 498) rfl rfl⟩
set_option maxRecDepth 100000 in
theorem iv_w74 : iv_cwP 74 := Or.inr (iv_Ws_at (i := 501) rfl rfl)
set_option maxRecDepth 100000 in
theorem iv_w75 : iv_cwP 75 := Or.inl ⟨rfl, iv_Ws_at (i := 505) rfl rfl⟩
set_option maxRecDepth 100000 in
theorem iv_w76 : iv_cwP 76 := Or.inr (iv_Ws_at (i := 508) rfl rfl)
set_option maxRecDepth 100000 in
theorem iv_w77 : iv_cwP 77 := Or.inl ⟨rfl, iv_Ws_at (i := 513) rfl rfl⟩
set_option maxRecDepth 100000 in
theorem iv_w78 : iv_cwP 78 := Or.inl ⟨rfl, iv_Ws_at (i := 517) rfl rfl⟩
set_option maxRecDepth 100000 in
theorem iv_w80 : iv_cwP 80 := Or.inl ⟨rfl, iv_Ws_at (i := 536) rfl rfl⟩
set_option maxRecDepth 100000 in
theorem iv_w81 : iv_cwP 81 := Or.inr (iv_Ws_at (i := 539) rfl rfl)
set_option maxRecDepth 100000 in
theorem iv_w82 : iv_cwP 82 := Or.inl ⟨rfl, iv_Ws_at (i := 543) rfl rfl⟩
set_option maxRecDepth 100000 in
theorem iv_w83 : iv_cwP 83 := Or.inl ⟨rfl, iv_Ws_at (i := 548) rfl rfl⟩
set_option maxRecDepth 100000 in
theorem iv_w84 : iv_cwP 84 := Or.inl ⟨rfl, iv_Ws_at (i := 645) rfl rfl⟩
set_option maxRecDepth 100000 in
theorem iv_w85 : iv_cwP 85 := Or.inl ⟨rfl, iv_Ws_at (i := 649) rfl rfl⟩
set_option maxRecDepth 100000 in
theorem iv_w86 : iv_cwP 86 := Or.inl ⟨rfl, iv_Ws_at (i := 652) rfl rfl⟩
set_option maxRecDepth 100000 in
theorem iv_w87 : iv_cwP 87 := Or.inl ⟨rfl, iv_Ws_at (i := 656) rfl rfl⟩
set_option maxRecDepth 100000 in
theorem iv_w88 : iv_cwP 88 := Or.inl ⟨rfl, iv_Ws_at (i := 660) rfl rfl⟩
set_option maxRecDepth 100000 in
theorem iv_w89 : iv_cwP 89 := Or.inl ⟨rfl, iv_Ws_at (i := 663) rfl rfl⟩
set_option maxRecDepth 100000 in
theorem iv_w90 : iv_cwP 90 := Or.inl ⟨rfl, iv_Ws_at (i := 668) rfl rfl⟩
set_option maxRecDepth 100000 in
theorem iv_w91 : iv_cwP 91 := Or.inl ⟨rfl, iv_Ws_at (i := 672) rfl rfl⟩
set_option maxRecDepth 100000 in
theorem iv_w92 : iv_cwP 92 := Or.inl ⟨rfl, iv_Ws_at (i := 676) rfl rfl⟩
set_option maxRecDepth 100000 in
theorem iv_w93 : iv_cwP 93 := Or.inl ⟨rfl, iv_Ws_at (i := 679) rfl rfl⟩
set_option maxRecDepth 100000 in
theorem iv_w94 : iv_cwP 94 := Or.inl ⟨rfl, iv_Ws_at (i := 683) rfl rfl⟩
set_option maxRecDepth 100000 in
theorem iv_w95 : iv_cwP 95 := Or.inl ⟨rfl, iv_Ws_at (i := 687) rfl rfl⟩
set_option maxRecDepth 100000 in
theorem iv_w96 : iv_cwP 96 := Or.inl ⟨rfl, iv_Ws_at (i := 691) rfl rfl⟩
set_option maxRecDepth 100000 in
theorem iv_w97 : iv_cwP 97 := Or.inl ⟨rfl, iv_Ws_at (i := 694) rfl rfl⟩
set_option maxRecDepth 100000 in
theorem iv_w98 : iv_cwP 98 := Or.inl ⟨rfl, iv_Ws_at (i := 698) rfl rfl⟩
set_option maxRecDepth 100000 in
theorem iv_w99 : iv_cwP 99 := Or.inl ⟨rfl, iv_Ws_at (i := 702) rfl rfl⟩
set_option maxRecDepth 100000 in
theorem iv_w100 : iv_cwP 100 := Or.inl ⟨rfl, iv_Ws_at (i := 706) rfl rfl⟩
set_option maxRecDepth 100000 in
theorem iv_w101 : iv_cwP 101 := Or.inl ⟨rfl, iv_Ws_at (i := 710) rfl rfl⟩
set_option maxRecDepth 100000 in
theorem iv_w102 : iv_cwP 102 := Or.inl ⟨rfl, iv_Ws_at (i := 714) rfl rfl⟩
set_option maxRecDepth 100000 in
theorem iv_w103 : iv_cwP 103 := Or.inl ⟨rfl, iv_Ws_at (i := 718) rfl rfl⟩
set_option maxRecDepth 100000 in
theorem iv_w104 : iv_cwP 104 := Or.inl ⟨rfl, iv_Ws_at (i := 722) rfl rfl⟩
set_option maxRecDepth 100000 in
theorem iv_w105 : iv_cwP 105 := Or.inl ⟨rfl, iv_Ws_at (i := 726) rfl rfl⟩
set_option maxRecDepth 100000 in
theorem iv_w106 : iv_cwP 106 := Or.inl ⟨rfl, iv_Ws_at (i := 730) rfl rfl⟩
set_option maxRecDepth 100000 in
theorem iv_w107 : iv_cwP 107 := Or.inl ⟨rfl, iv_Ws_at (i := 734) rfl rfl⟩
set_option maxRecDepth 100000 in
theorem iv_w108 : iv_cwP 108 := Or.inl ⟨rfl, iv_Ws_at (i := 738) rfl rfl⟩
set_option maxRecDepth 100000 in
theorem iv_w109 : iv_cwP 109 := Or.inl ⟨rfl, iv_Ws_at (i := 742) rfl rfl⟩
set_option maxRecDepth 100000 in
theorem iv_w110 : iv_cwP 110 := Or.inl ⟨rfl, iv_Ws_at (i := 746) rfl rfl⟩
set_option maxRecDepth 100000 in
theorem iv_w111 : iv_cwP 111 := Or.inl ⟨rfl, iv_Ws_at (i := 750) rfl rfl⟩
set_option maxRecDepth 100000 in
theorem iv_w112 : iv_cwP 112 := Or.inl ⟨rfl, iv_Ws_at (i := 754) rfl rfl⟩
set_option maxRecDepth 100000 in
theorem iv_w113 : iv_cwP 113 := Or.inl ⟨rfl, iv_Ws_at (i := 758) rfl rfl⟩
set_option maxRecDepth 100000 in
theorem iv_w114 : iv_cwP 114 := Or.inl ⟨rfl, iv_Ws_at (i := 762) rfl rfl⟩
theorem iv_v0 : ∀ q ∈ iv_mp0, iv_cwP q.1 := List.forall_mem_cons.mpr ⟨iv_w0, List.forall_mem_cons.mpr ⟨iv_w2, List.forall_mem_cons.mpr ⟨iv_w3, List.forall_mem_cons.mpr ⟨iv_w4, List.forall_mem_cons.mpr ⟨iv_w5, List.forall_mem_cons.mpr ⟨iv_w8, List.forall_mem_cons.mpr ⟨iv_w9, List.forall_mem_cons.mpr ⟨iv_w10, List.forall_mem_cons.mpr ⟨iv_w11, List.forall_mem_cons.mpr ⟨iv_w12, List.forall_mem_cons.mpr ⟨iv_w13, List.forall_mem_cons.mpr ⟨iv_w15, List.forall_mem_cons.mpr ⟨iv_w16, List.forall_mem_cons.mpr ⟨iv_w17, List.forall_mem_cons.mpr ⟨iv_w18, List.forall_mem_cons.mpr ⟨iv_w19, List.forall_mem_cons.mpr ⟨iv_w20, List.forall_mem_cons.mpr ⟨iv_w21, List.forall_mem_cons.mpr ⟨iv_w22, List.forall_mem_cons.mpr ⟨iv_w23, List.forall_mem_cons.mpr ⟨iv_w24, List.forall_mem_cons.mpr ⟨iv_w25, List.forall_mem_cons.mpr ⟨iv_w26, List.forall_mem_cons.mpr ⟨iv_w27, List.forall_mem_cons.mpr ⟨iv_w28, List.forall_mem_cons.mpr ⟨iv_w29, fun _ h => absurd h List.not_mem_nil⟩⟩⟩⟩⟩⟩⟩⟩⟩⟩⟩⟩⟩⟩⟩⟩⟩⟩⟩⟩⟩⟩⟩⟩⟩⟩
theorem iv_v1 : ∀ q ∈ iv_mp1, iv_cwP q.1 := List.forall_mem_cons.mpr ⟨iv_w30, List.forall_mem_cons.mpr ⟨iv_w31, List.forall_mem_cons.mpr ⟨iv_w32, List.forall_mem_cons.mpr ⟨iv_w33, List.forall_mem_cons.mpr ⟨iv_w34, List.forall_mem_cons.mpr ⟨iv_w35, List.forall_mem_cons.mpr ⟨iv_w36, List.forall_mem_cons.mpr ⟨iv_w37, List.forall_mem_cons.mpr ⟨iv_w38, List.forall_mem_cons.mpr ⟨iv_w39, List.forall_mem_cons.mpr ⟨iv_w40, List.forall_mem_cons.mpr ⟨iv_w41, List.forall_mem_cons.mpr ⟨iv_w42, List.forall_mem_cons.mpr ⟨iv_w43, List.forall_mem_cons.mpr ⟨iv_w44, List.forall_mem_cons.mpr ⟨iv_w49, List.forall_mem_cons.mpr ⟨iv_w50, List.forall_mem_cons.mpr ⟨iv_w51, List.forall_mem_cons.mpr ⟨iv_w52, List.forall_mem_cons.mpr ⟨iv_w53, List.forall_mem_cons.mpr ⟨iv_w54, List.forall_mem_cons.mpr ⟨iv_w55, List.forall_mem_cons.mpr ⟨iv_w57, List.forall_mem_cons.mpr ⟨iv_w58, List.forall_mem_cons.mpr ⟨iv_w59, List.forall_mem_cons.mpr ⟨iv_w60, fun _ h => absurd h List.not_mem_nil⟩⟩⟩⟩⟩⟩⟩⟩⟩⟩⟩⟩⟩⟩⟩⟩⟩⟩⟩⟩⟩⟩⟩⟩⟩⟩
theorem iv_v2 : ∀ q ∈ iv_mp2, iv_cwP q.1 := List.forall_mem_cons.mpr ⟨iv_w61, List.forall_mem_cons.mpr ⟨iv_w62, List.forall_mem_cons.mpr ⟨iv_w63, List.forall_mem_cons.mpr ⟨iv_w64, List.forall_mem_cons.mpr ⟨iv_w65, List.forall_mem_cons.mpr ⟨iv_w66, List.forall_mem_cons.mpr ⟨iv_w67, List.forall_mem_cons.mpr ⟨iv_w68, List.forall_mem_cons.mpr ⟨iv_w69, List.forall_mem_cons.mpr ⟨iv_w70, List.forall_mem_cons.mpr ⟨iv_w71, List.forall_mem_cons.mpr ⟨iv_w72, List.forall_mem_cons.mpr ⟨iv_w73, List.forall_mem_cons.mpr ⟨iv_w74, List.forall_mem_cons.mpr ⟨iv_w75, List.forall_mem_cons.mpr ⟨iv_w76, List.forall_mem_cons.mpr ⟨iv_w77, List.forall_mem_cons.mpr ⟨iv_w78, List.forall_mem_cons.mpr ⟨iv_w80, List.forall_mem_cons.mpr ⟨iv_w81, List.forall_mem_cons.mpr ⟨iv_w82, List.forall_mem_cons.mpr ⟨iv_w83, List.forall_mem_cons.mpr ⟨iv_w84, List.forall_mem_cons.mpr ⟨iv_w85, List.forall_mem_cons.mpr ⟨iv_w86, List.forall_mem_cons.mpr ⟨iv_w87, fun _ h => absurd h List.not_mem_nil⟩⟩⟩⟩⟩⟩⟩⟩⟩⟩⟩⟩⟩⟩⟩⟩⟩⟩⟩⟩⟩⟩⟩⟩⟩⟩
theorem iv_v3 : ∀ q ∈ iv_mp3, iv_cwP q.1 := List.forall_mem_cons.mpr ⟨iv_w88, List.forall_mem_cons.mpr ⟨iv_w89, List.forall_mem_cons.mpr ⟨iv_w90, List.forall_mem_cons.mpr ⟨iv_w91, List.forall_mem_cons.mpr ⟨iv_w92, List.forall_mem_cons.mpr ⟨iv_w93, List.forall_mem_cons.mpr ⟨iv_w94, List.forall_mem_cons.mpr ⟨iv_w95, List.forall_mem_cons.mpr ⟨iv_w96, List.forall_mem_cons.mpr ⟨iv_w97, List.forall_mem_cons.mpr ⟨iv_w98, List.forall_mem_cons.mpr ⟨iv_w99, List.forall_mem_cons.mpr ⟨iv_w100, List.forall_mem_cons.mpr ⟨iv_w101, List.forall_mem_cons.mpr ⟨iv_w102, List.forall_mem_cons.mpr ⟨iv_w103, List.forall_mem_cons.mpr ⟨iv_w104, List.forall_mem_cons.mpr ⟨iv_w105, List.forall_mem_cons.mpr ⟨iv_w106, List.forall_mem_cons.mpr ⟨iv_w107, List.forall_mem_cons.mpr ⟨iv_w108, List.forall_mem_cons.mpr ⟨iv_w109, List.forall_mem_cons.mpr ⟨iv_w110, List.forall_mem_cons.mpr ⟨iv_w111, List.forall_mem_cons.mpr ⟨iv_w112, List.forall_mem_cons.mpr ⟨iv_w113, fun _ h => absurd h List.not_mem_nil⟩⟩⟩⟩⟩⟩⟩⟩⟩⟩⟩⟩⟩⟩⟩⟩⟩⟩⟩⟩⟩⟩⟩⟩⟩⟩
theorem iv_v4 : ∀ q ∈ iv_mp4, iv_cwP q.1 := List.forall_mem_cons.mpr ⟨iv_w114, fun _ h => absurd h List.not_mem_nil⟩
theorem iv_cw_ok : ∀ q ∈ iv_mps, iv_cwP q.1 := by
  unfold iv_mps
  exact List.forall_mem_append.mpr ⟨List.forall_mem_append.mpr ⟨List.forall_mem_append.mpr ⟨List.forall_mem_append.mpr ⟨iv_v0, iv_v1⟩, iv_v2⟩, iv_v3⟩, iv_v4⟩
