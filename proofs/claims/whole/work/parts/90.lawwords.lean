theorem in_pos {ws big : List Cond} {ps : List Nat} (h : ws = ps.filterMap (fun i => big[i]?)) : ∀ w ∈ ws, w ∈ big := by
  intro w hw
  rw [h] at hw
  obtain ⟨i, -, hi⟩ := List.mem_filterMap.mp hw
  exact List.mem_of_getElem? hi
def lw_isC : Cond → Bool
  | .code .. => true
  | .codeWith .. => true
  | _ => false
theorem in_mix {ws big : List Cond} {ps : List Nat} (h : ws.filter (fun w => !lw_isC w) = ps.filterMap (fun i => big[i]?)) (hc : ∀ w ∈ ws.filter lw_isC, w ∈ big) : ∀ w ∈ ws, w ∈ big := by
  intro w hw
  by_cases hq : lw_isC w = true
  · exact hc w (List.mem_filter.mpr ⟨hw, hq⟩)
  · exact in_pos h w (List.mem_filter.mpr ⟨hw, by simp [hq]⟩)
set_option maxRecDepth 100000 in
theorem lwc_1 : Cond.code yX7_init cX7_init 2 none ∈ lw_tbl := List.mem_of_getElem? (i := 64) rfl
set_option maxRecDepth 100000 in
theorem lwc_2 : Cond.code objectInit ⟨#[0xb1]⟩ 1 none ∈ lw_tbl := List.mem_of_getElem? (i := 67) rfl
set_option maxRecDepth 100000 in
theorem in_wsL_law0_r1 : ∀ w ∈ wsL_law0_r1, w ∈ lw_tbl := in_mix (ps := [60, 61, 38, 726, 727, 45, 914, 1079, 62, 63, 65, 66, 68, 69, 39, 189, 89, 90, 40, 190, 126, 127]) (by decide +kernel) (show ∀ w ∈ [Cond.code yX7_init cX7_init 2 none, Cond.code objectInit ⟨#[0xb1]⟩ 1 none], w ∈ lw_tbl from List.forall_mem_cons.mpr ⟨lwc_1, List.forall_mem_cons.mpr ⟨lwc_2, fun _ h => absurd h List.not_mem_nil⟩⟩)
set_option maxRecDepth 100000 in
theorem in_wsL_law0_r2 : ∀ w ∈ wsL_law0_r2, w ∈ lw_tbl := in_mix (ps := [42, 191, 192, 193, 143, 194, 145, 195, 88, 196, 197, 198, 199, 200, 147, 201, 202, 203, 204, 205, 206, 207, 148, 43]) (by decide +kernel) (show ∀ w ∈ ([] : List Cond), w ∈ lw_tbl from fun _ h => absurd h List.not_mem_nil)
set_option maxRecDepth 100000 in
theorem lwc_3 : Cond.code yX3_init cX3_init 1 none ∈ lw_tbl := List.mem_of_getElem? (i := 72) rfl
set_option maxRecDepth 100000 in
theorem lwc_4 : Cond.code yX2_init cX2_init 2 none ∈ lw_tbl := List.mem_of_getElem? (i := 93) rfl
set_option maxRecDepth 100000 in
theorem lwc_5 : Cond.code yX1_init cX1_init 1 none ∈ lw_tbl := List.mem_of_getElem? (i := 100) rfl
set_option maxRecDepth 100000 in
theorem in_wsL_law0_r3 : ∀ w ∈ wsL_law0_r3, w ∈ lw_tbl := in_mix (ps := [163, 44, 71, 73, 74, 76, 77, 78, 91, 92, 94, 95, 116, 117, 118, 97, 41, 99, 101, 102, 104]) (by decide +kernel) (show ∀ w ∈ [Cond.code yX3_init cX3_init 1 none, Cond.code yX2_init cX2_init 2 none, Cond.code yX1_init cX1_init 1 none], w ∈ lw_tbl from List.forall_mem_cons.mpr ⟨lwc_3, List.forall_mem_cons.mpr ⟨lwc_4, List.forall_mem_cons.mpr ⟨lwc_5, fun _ h => absurd h List.not_mem_nil⟩⟩⟩)
set_option maxRecDepth 100000 in
theorem lwc_6 : Cond.code yX5_init cX5_init 1 none ∈ lw_tbl := List.mem_of_getElem? (i := 130) rfl
set_option maxRecDepth 100000 in
theorem lwc_7 : Cond.code yX6_init cX6_init 1 none ∈ lw_tbl := List.mem_of_getElem? (i := 151) rfl
set_option maxRecDepth 100000 in
theorem lwc_8 : Cond.code yX4_init cX4_init 1 none ∈ lw_tbl := List.mem_of_getElem? (i := 166) rfl
set_option maxRecDepth 100000 in
theorem lwc_9 : Cond.code yX8_init cX8_init 1 none ∈ lw_tbl := List.mem_of_getElem? (i := 730) rfl
set_option maxRecDepth 100000 in
theorem in_wsL_law0_r4 : ∀ w ∈ wsL_law0_r4, w ∈ lw_tbl := in_mix (ps := [107, 129, 131, 132, 135, 150, 152, 153, 154, 155, 165, 167, 168, 170, 172, 174, 176, 728, 729, 731]) (by decide +kernel) (show ∀ w ∈ [Cond.code yX5_init cX5_init 1 none, Cond.code yX6_init cX6_init 1 none, Cond.code yX4_init cX4_init 1 none, Cond.code yX8_init cX8_init 1 none], w ∈ lw_tbl from List.forall_mem_cons.mpr ⟨lwc_6, List.forall_mem_cons.mpr ⟨lwc_7, List.forall_mem_cons.mpr ⟨lwc_8, List.forall_mem_cons.mpr ⟨lwc_9, fun _ h => absurd h List.not_mem_nil⟩⟩⟩⟩)
set_option maxRecDepth 100000 in
theorem in_wsL_law0_r5 : ∀ w ∈ wsL_law0_r5, w ∈ lw_tbl := in_mix (ps := [732, 733, 734, 735, 736, 737, 738, 739, 740, 741, 742, 743, 744, 745, 746, 747, 748, 749, 750, 751, 752, 753, 754, 755]) (by decide +kernel) (show ∀ w ∈ ([] : List Cond), w ∈ lw_tbl from fun _ h => absurd h List.not_mem_nil)
set_option maxRecDepth 100000 in
theorem in_wsL_law0_r6 : ∀ w ∈ wsL_law0_r6, w ∈ lw_tbl := in_mix (ps := [756, 757, 758, 759, 760, 761, 762, 763, 764, 765, 766, 767, 768, 769, 770, 771, 772, 773, 774, 775, 776, 777, 778, 779]) (by decide +kernel) (show ∀ w ∈ ([] : List Cond), w ∈ lw_tbl from fun _ h => absurd h List.not_mem_nil)
set_option maxRecDepth 100000 in
theorem in_wsL_law0_r7 : ∀ w ∈ wsL_law0_r7, w ∈ lw_tbl := in_mix (ps := [780, 781, 782, 783, 784, 785, 786, 787, 788, 789, 790, 791, 792, 793, 794, 795, 806, 796, 797, 798, 799, 800, 801, 802]) (by decide +kernel) (show ∀ w ∈ ([] : List Cond), w ∈ lw_tbl from fun _ h => absurd h List.not_mem_nil)
set_option maxRecDepth 100000 in
theorem in_wsL_law0_r8 : ∀ w ∈ wsL_law0_r8, w ∈ lw_tbl := in_mix (ps := [803, 807, 808, 809, 810, 812, 813, 814, 804, 817, 818, 819, 822, 823, 824, 825, 915, 826, 827, 828, 829, 830, 831, 832]) (by decide +kernel) (show ∀ w ∈ ([] : List Cond), w ∈ lw_tbl from fun _ h => absurd h List.not_mem_nil)
set_option maxRecDepth 100000 in
theorem lwc_10 : Cond.code yX7_seed cX7_seed 3 none ∈ lw_tbl := List.mem_of_getElem? (i := 250) rfl
set_option maxRecDepth 100000 in
theorem lwc_11 : Cond.code yX7_writeLong cX7_writeLong 5 none ∈ lw_tbl := List.mem_of_getElem? (i := 253) rfl
set_option maxRecDepth 100000 in
theorem lwc_12 : Cond.code yX8_seed cX8_seed 3 none ∈ lw_tbl := List.mem_of_getElem? (i := 923) rfl
set_option maxRecDepth 100000 in
theorem lwc_13 : Cond.codeWith yL_pass cL_pass 5 (some .int) [(0, 8, 11, 13)] ∈ lw_tbl := List.mem_of_getElem? (i := 486) rfl
set_option maxRecDepth 100000 in
theorem in_wsL_law0_r9 : ∀ w ∈ wsL_law0_r9, w ∈ lw_tbl := in_mix (ps := [833, 834, 835, 836, 247, 248, 249, 251, 252, 920, 921, 922, 805, 820, 821, 484, 485, 37, 487, 488]) (by decide +kernel) (show ∀ w ∈ [Cond.code yX7_seed cX7_seed 3 none, Cond.code yX7_writeLong cX7_writeLong 5 none, Cond.code yX8_seed cX8_seed 3 none, Cond.codeWith yL_pass cL_pass 5 (some .int) [(0, 8, 11, 13)]], w ∈ lw_tbl from List.forall_mem_cons.mpr ⟨lwc_10, List.forall_mem_cons.mpr ⟨lwc_11, List.forall_mem_cons.mpr ⟨lwc_12, List.forall_mem_cons.mpr ⟨lwc_13, fun _ h => absurd h List.not_mem_nil⟩⟩⟩⟩)
set_option maxRecDepth 100000 in
theorem lwc_14 : Cond.code yX7_pass cX7_pass 3 (some .long) ∈ lw_tbl := List.mem_of_getElem? (i := 491) rfl
set_option maxRecDepth 100000 in
theorem lwc_15 : Cond.code yX8_pass cX8_pass 3 (some .long) ∈ lw_tbl := List.mem_of_getElem? (i := 927) rfl
set_option maxRecDepth 100000 in
theorem lwc_16 : Cond.code yX8_isIn cX8_isIn 6 (some .boolean) ∈ lw_tbl := List.mem_of_getElem? (i := 931) rfl
set_option maxRecDepth 100000 in
theorem lwc_17 : Cond.code yX8_refused cX8_refused 2 (some .boolean) ∈ lw_tbl := List.mem_of_getElem? (i := 935) rfl
set_option maxRecDepth 100000 in
theorem lwc_18 : Cond.code yX8_thrown cX8_thrown 1 (some .int) ∈ lw_tbl := List.mem_of_getElem? (i := 919) rfl
set_option maxRecDepth 100000 in
theorem in_wsL_law0_r10 : ∀ w ∈ wsL_law0_r10, w ∈ lw_tbl := in_mix (ps := [489, 490, 493, 49, 492, 924, 925, 926, 928, 816, 929, 930, 932, 934, 19, 916, 917, 918, 556]) (by decide +kernel) (show ∀ w ∈ [Cond.code yX7_pass cX7_pass 3 (some .long), Cond.code yX8_pass cX8_pass 3 (some .long), Cond.code yX8_isIn cX8_isIn 6 (some .boolean), Cond.code yX8_refused cX8_refused 2 (some .boolean), Cond.code yX8_thrown cX8_thrown 1 (some .int)], w ∈ lw_tbl from List.forall_mem_cons.mpr ⟨lwc_14, List.forall_mem_cons.mpr ⟨lwc_15, List.forall_mem_cons.mpr ⟨lwc_16, List.forall_mem_cons.mpr ⟨lwc_17, List.forall_mem_cons.mpr ⟨lwc_18, fun _ h => absurd h List.not_mem_nil⟩⟩⟩⟩⟩)
set_option maxRecDepth 100000 in
theorem lwc_19 : Cond.codeWith yL_limits cL_limits 8 (some .int) [(0, 8, 11, 13)] ∈ lw_tbl := List.mem_of_getElem? (i := 558) rfl
set_option maxRecDepth 100000 in
theorem lwc_20 : Cond.code yX7_limits cX7_limits 7 none ∈ lw_tbl := List.mem_of_getElem? (i := 562) rfl
set_option maxRecDepth 100000 in
theorem lwc_21 : Cond.code yX7_isLimit cX7_isLimit 2 (some .boolean) ∈ lw_tbl := List.mem_of_getElem? (i := 565) rfl
set_option maxRecDepth 100000 in
theorem lwc_22 : Cond.code yX8_limits cX8_limits 9 none ∈ lw_tbl := List.mem_of_getElem? (i := 939) rfl
set_option maxRecDepth 100000 in
theorem lwc_23 : Cond.code yX7_change cX7_change 6 (some .int) ∈ lw_tbl := List.mem_of_getElem? (i := 257) rfl
set_option maxRecDepth 100000 in
theorem lwc_24 : Cond.code yX2_advance cX2_advance 4 none ∈ lw_tbl := List.mem_of_getElem? (i := 261) rfl
set_option maxRecDepth 100000 in
theorem in_wsL_law0_r11 : ∀ w ∈ wsL_law0_r11, w ∈ lw_tbl := in_mix (ps := [557, 559, 560, 561, 563, 564, 566, 936, 937, 938, 940, 254, 255, 256, 258, 259, 260, 262]) (by decide +kernel) (show ∀ w ∈ [Cond.codeWith yL_limits cL_limits 8 (some .int) [(0, 8, 11, 13)], Cond.code yX7_limits cX7_limits 7 none, Cond.code yX7_isLimit cX7_isLimit 2 (some .boolean), Cond.code yX8_limits cX8_limits 9 none, Cond.code yX7_change cX7_change 6 (some .int), Cond.code yX2_advance cX2_advance 4 none], w ∈ lw_tbl from List.forall_mem_cons.mpr ⟨lwc_19, List.forall_mem_cons.mpr ⟨lwc_20, List.forall_mem_cons.mpr ⟨lwc_21, List.forall_mem_cons.mpr ⟨lwc_22, List.forall_mem_cons.mpr ⟨lwc_23, List.forall_mem_cons.mpr ⟨lwc_24, fun _ h => absurd h List.not_mem_nil⟩⟩⟩⟩⟩⟩)
set_option maxRecDepth 100000 in
theorem lwc_25 : Cond.code yX2_newest cX2_newest 1 (some (.object "SessionGate$Key")) ∈ lw_tbl := List.mem_of_getElem? (i := 265) rfl
set_option maxRecDepth 100000 in
theorem lwc_26 : Cond.code yX1_fill cX1_fill 6 none ∈ lw_tbl := List.mem_of_getElem? (i := 269) rfl
set_option maxRecDepth 100000 in
theorem lwc_27 : Cond.code yX7_byteOf cX7_byteOf 2 (some .int) ∈ lw_tbl := List.mem_of_getElem? (i := 272) rfl
set_option maxRecDepth 100000 in
theorem lwc_28 : Cond.code yX8_change cX8_change 7 (some .int) ∈ lw_tbl := List.mem_of_getElem? (i := 944) rfl
set_option maxRecDepth 100000 in
theorem lwc_29 : Cond.codeWith yL_user cL_user 5 (some .int) [(0, 7, 10, 13)] ∈ lw_tbl := List.mem_of_getElem? (i := 569) rfl
set_option maxRecDepth 100000 in
theorem lwc_30 : Cond.code yX7_user cX7_user 4 none ∈ lw_tbl := List.mem_of_getElem? (i := 573) rfl
set_option maxRecDepth 100000 in
theorem lwc_31 : Cond.code yX7_isUser cX7_isUser 1 (some .boolean) ∈ lw_tbl := List.mem_of_getElem? (i := 576) rfl
set_option maxRecDepth 100000 in
theorem in_wsL_law0_r12 : ∀ w ∈ wsL_law0_r12, w ∈ lw_tbl := in_mix (ps := [263, 264, 266, 267, 268, 271, 941, 942, 943, 567, 568, 570, 571, 572, 574, 575, 577]) (by decide +kernel) (show ∀ w ∈ [Cond.code yX2_newest cX2_newest 1 (some (.object "SessionGate$Key")), Cond.code yX1_fill cX1_fill 6 none, Cond.code yX7_byteOf cX7_byteOf 2 (some .int), Cond.code yX8_change cX8_change 7 (some .int), Cond.codeWith yL_user cL_user 5 (some .int) [(0, 7, 10, 13)], Cond.code yX7_user cX7_user 4 none, Cond.code yX7_isUser cX7_isUser 1 (some .boolean)], w ∈ lw_tbl from List.forall_mem_cons.mpr ⟨lwc_25, List.forall_mem_cons.mpr ⟨lwc_26, List.forall_mem_cons.mpr ⟨lwc_27, List.forall_mem_cons.mpr ⟨lwc_28, List.forall_mem_cons.mpr ⟨lwc_29, List.forall_mem_cons.mpr ⟨lwc_30, List.forall_mem_cons.mpr ⟨lwc_31, fun _ h => absurd h List.not_mem_nil⟩⟩⟩⟩⟩⟩⟩)
set_option maxRecDepth 100000 in
theorem lwc_32 : Cond.code yX6_tell cX6_tell 3 none ∈ lw_tbl := List.mem_of_getElem? (i := 580) rfl
set_option maxRecDepth 100000 in
theorem lwc_33 : Cond.code yX8_user cX8_user 4 none ∈ lw_tbl := List.mem_of_getElem? (i := 948) rfl
set_option maxRecDepth 100000 in
theorem lwc_34 : Cond.codeWith yL_login cL_login 6 (some .int) [(0, 12, 15, 13)] ∈ lw_tbl := List.mem_of_getElem? (i := 583) rfl
set_option maxRecDepth 100000 in
theorem lwc_35 : Cond.code yX7_login cX7_login 5 (some .int) ∈ lw_tbl := List.mem_of_getElem? (i := 587) rfl
set_option maxRecDepth 100000 in
theorem lwc_36 : Cond.code yX6_knows cX6_knows 3 (some .boolean) ∈ lw_tbl := List.mem_of_getElem? (i := 591) rfl
set_option maxRecDepth 100000 in
theorem lwc_37 : Cond.code yX7_endStaleSessions cX7_endStaleSessions 2 none ∈ lw_tbl := List.mem_of_getElem? (i := 595) rfl
set_option maxRecDepth 100000 in
theorem in_wsL_law0_r13 : ∀ w ∈ wsL_law0_r13, w ∈ lw_tbl := in_mix (ps := [578, 579, 945, 946, 947, 949, 581, 582, 584, 585, 586, 588, 589, 590, 592, 594, 14, 427]) (by decide +kernel) (show ∀ w ∈ [Cond.code yX6_tell cX6_tell 3 none, Cond.code yX8_user cX8_user 4 none, Cond.codeWith yL_login cL_login 6 (some .int) [(0, 12, 15, 13)], Cond.code yX7_login cX7_login 5 (some .int), Cond.code yX6_knows cX6_knows 3 (some .boolean), Cond.code yX7_endStaleSessions cX7_endStaleSessions 2 none], w ∈ lw_tbl from List.forall_mem_cons.mpr ⟨lwc_32, List.forall_mem_cons.mpr ⟨lwc_33, List.forall_mem_cons.mpr ⟨lwc_34, List.forall_mem_cons.mpr ⟨lwc_35, List.forall_mem_cons.mpr ⟨lwc_36, List.forall_mem_cons.mpr ⟨lwc_37, fun _ h => absurd h List.not_mem_nil⟩⟩⟩⟩⟩⟩)
set_option maxRecDepth 100000 in
theorem lwc_38 : Cond.code yX7_isOld cX7_isOld 2 (some .boolean) ∈ lw_tbl := List.mem_of_getElem? (i := 430) rfl
set_option maxRecDepth 100000 in
theorem lwc_39 : Cond.code yX7_isIdle cX7_isIdle 2 (some .boolean) ∈ lw_tbl := List.mem_of_getElem? (i := 434) rfl
set_option maxRecDepth 100000 in
theorem lwc_40 : Cond.code yX7_freeNumber cX7_freeNumber 2 (some .int) ∈ lw_tbl := List.mem_of_getElem? (i := 599) rfl
set_option maxRecDepth 100000 in
theorem lwc_41 : Cond.code yX7_nextId cX7_nextId 1 (some .long) ∈ lw_tbl := List.mem_of_getElem? (i := 603) rfl
set_option maxRecDepth 100000 in
theorem lwc_42 : Cond.code yX3_compute cX3_compute 4 none ∈ lw_tbl := List.mem_of_getElem? (i := 392) rfl
set_option maxRecDepth 100000 in
theorem lwc_43 : Cond.code yX3_fillBlocks cX3_fillBlocks 6 none ∈ lw_tbl := List.mem_of_getElem? (i := 396) rfl
set_option maxRecDepth 100000 in
theorem in_wsL_law0_r14 : ∀ w ∈ wsL_law0_r14, w ∈ lw_tbl := in_mix (ps := [429, 8, 431, 433, 9, 596, 598, 15, 600, 602, 16, 389, 390, 391, 393, 395, 3, 397]) (by decide +kernel) (show ∀ w ∈ [Cond.code yX7_isOld cX7_isOld 2 (some .boolean), Cond.code yX7_isIdle cX7_isIdle 2 (some .boolean), Cond.code yX7_freeNumber cX7_freeNumber 2 (some .int), Cond.code yX7_nextId cX7_nextId 1 (some .long), Cond.code yX3_compute cX3_compute 4 none, Cond.code yX3_fillBlocks cX3_fillBlocks 6 none], w ∈ lw_tbl from List.forall_mem_cons.mpr ⟨lwc_38, List.forall_mem_cons.mpr ⟨lwc_39, List.forall_mem_cons.mpr ⟨lwc_40, List.forall_mem_cons.mpr ⟨lwc_41, List.forall_mem_cons.mpr ⟨lwc_42, List.forall_mem_cons.mpr ⟨lwc_43, fun _ h => absurd h List.not_mem_nil⟩⟩⟩⟩⟩⟩)
set_option maxRecDepth 100000 in
theorem lwc_44 : Cond.code yX3_hashBlocks cX3_hashBlocks 2 none ∈ lw_tbl := List.mem_of_getElem? (i := 400) rfl
set_option maxRecDepth 100000 in
theorem lwc_45 : Cond.code yX3_fillSchedule cX3_fillSchedule 7 none ∈ lw_tbl := List.mem_of_getElem? (i := 409) rfl
set_option maxRecDepth 100000 in
theorem lwc_46 : Cond.code yX3_turn cX3_turn 2 (some .int) ∈ lw_tbl := List.mem_of_getElem? (i := 412) rfl
set_option maxRecDepth 100000 in
theorem lwc_47 : Cond.code yX3_mixSchedule cX3_mixSchedule 14 none ∈ lw_tbl := List.mem_of_getElem? (i := 416) rfl
set_option maxRecDepth 100000 in
theorem lwc_48 : Cond.code yX7_readLong cX7_readLong 5 (some .long) ∈ lw_tbl := List.mem_of_getElem? (i := 422) rfl
set_option maxRecDepth 100000 in
theorem in_wsL_law0_r15 : ∀ w ∈ wsL_law0_r15, w ∈ lw_tbl := in_mix (ps := [399, 4, 401, 403, 405, 404, 50, 406, 408, 5, 410, 411, 413, 415, 6, 417, 420, 421, 604]) (by decide +kernel) (show ∀ w ∈ [Cond.code yX3_hashBlocks cX3_hashBlocks 2 none, Cond.code yX3_fillSchedule cX3_fillSchedule 7 none, Cond.code yX3_turn cX3_turn 2 (some .int), Cond.code yX3_mixSchedule cX3_mixSchedule 14 none, Cond.code yX7_readLong cX7_readLong 5 (some .long)], w ∈ lw_tbl from List.forall_mem_cons.mpr ⟨lwc_44, List.forall_mem_cons.mpr ⟨lwc_45, List.forall_mem_cons.mpr ⟨lwc_46, List.forall_mem_cons.mpr ⟨lwc_47, List.forall_mem_cons.mpr ⟨lwc_48, fun _ h => absurd h List.not_mem_nil⟩⟩⟩⟩⟩)
set_option maxRecDepth 100000 in
theorem lwc_49 : Cond.code yX4_begin cX4_begin 6 none ∈ lw_tbl := List.mem_of_getElem? (i := 607) rfl
set_option maxRecDepth 100000 in
theorem lwc_50 : Cond.code yX7_writeTexts cX7_writeTexts 3 none ∈ lw_tbl := List.mem_of_getElem? (i := 478) rfl
set_option maxRecDepth 100000 in
theorem lwc_51 : Cond.code yX0_encode cX0_encode 9 none ∈ lw_tbl := List.mem_of_getElem? (i := 442) rfl
set_option maxRecDepth 100000 in
theorem lwc_52 : Cond.code yJ0_charAt_5068e cJ0_charAt_5068e 2 (some .char) ∈ lw_tbl := List.mem_of_getElem? (i := 446) rfl
set_option maxRecDepth 100000 in
theorem lwc_53 : Cond.code yJ0_isLatin1_aae02 cJ0_isLatin1_aae02 1 (some .boolean) ∈ lw_tbl := List.mem_of_getElem? (i := 302) rfl
set_option maxRecDepth 100000 in
theorem in_wsL_law0_r16 : ∀ w ∈ wsL_law0_r16, w ∈ lw_tbl := in_mix (ps := [605, 606, 475, 477, 12, 439, 440, 441, 51, 443, 444, 445, 52, 1082, 299, 300, 301, 303, 1081]) (by decide +kernel) (show ∀ w ∈ [Cond.code yX4_begin cX4_begin 6 none, Cond.code yX7_writeTexts cX7_writeTexts 3 none, Cond.code yX0_encode cX0_encode 9 none, Cond.code yJ0_charAt_5068e cJ0_charAt_5068e 2 (some .char), Cond.code yJ0_isLatin1_aae02 cJ0_isLatin1_aae02 1 (some .boolean)], w ∈ lw_tbl from List.forall_mem_cons.mpr ⟨lwc_49, List.forall_mem_cons.mpr ⟨lwc_50, List.forall_mem_cons.mpr ⟨lwc_51, List.forall_mem_cons.mpr ⟨lwc_52, List.forall_mem_cons.mpr ⟨lwc_53, fun _ h => absurd h List.not_mem_nil⟩⟩⟩⟩⟩)
set_option maxRecDepth 100000 in
theorem lwc_54 : Cond.code yJ1_charAt_3b067 cJ1_charAt_3b067 2 (some .char) ∈ lw_tbl := List.mem_of_getElem? (i := 449) rfl
set_option maxRecDepth 100000 in
theorem lwc_55 : Cond.code yJ0_checkIndex_df160 cJ0_checkIndex_df160 2 none ∈ lw_tbl := List.mem_of_getElem? (i := 452) rfl
set_option maxRecDepth 100000 in
theorem lwc_56 : Cond.code yJ3_checkIndex_8e157 cJ3_checkIndex_8e157 3 (some .int) ∈ lw_tbl := List.mem_of_getElem? (i := 455) rfl
set_option maxRecDepth 100000 in
theorem lwc_57 : Cond.code yJ2_charAt_3b067 cJ2_charAt_3b067 2 (some .char) ∈ lw_tbl := List.mem_of_getElem? (i := 458) rfl
set_option maxRecDepth 100000 in
theorem lwc_58 : Cond.code yJ2_checkIndex_2214a cJ2_checkIndex_2214a 2 none ∈ lw_tbl := List.mem_of_getElem? (i := 461) rfl
set_option maxRecDepth 100000 in
theorem lwc_59 : Cond.code yJ2_length_9d52b cJ2_length_9d52b 1 (some .int) ∈ lw_tbl := List.mem_of_getElem? (i := 342) rfl
set_option maxRecDepth 100000 in
theorem in_wsL_law0_r17 : ∀ w ∈ wsL_law0_r17, w ∈ lw_tbl := in_mix (ps := [447, 448, 53, 450, 451, 346, 453, 454, 54, 456, 457, 55, 459, 460, 340, 341, 462, 354]) (by decide +kernel) (show ∀ w ∈ [Cond.code yJ1_charAt_3b067 cJ1_charAt_3b067 2 (some .char), Cond.code yJ0_checkIndex_df160 cJ0_checkIndex_df160 2 none, Cond.code yJ3_checkIndex_8e157 cJ3_checkIndex_8e157 3 (some .int), Cond.code yJ2_charAt_3b067 cJ2_charAt_3b067 2 (some .char), Cond.code yJ2_checkIndex_2214a cJ2_checkIndex_2214a 2 none, Cond.code yJ2_length_9d52b cJ2_length_9d52b 1 (some .int)], w ∈ lw_tbl from List.forall_mem_cons.mpr ⟨lwc_54, List.forall_mem_cons.mpr ⟨lwc_55, List.forall_mem_cons.mpr ⟨lwc_56, List.forall_mem_cons.mpr ⟨lwc_57, List.forall_mem_cons.mpr ⟨lwc_58, List.forall_mem_cons.mpr ⟨lwc_59, fun _ h => absurd h List.not_mem_nil⟩⟩⟩⟩⟩⟩)
set_option maxRecDepth 100000 in
theorem lwc_60 : Cond.code yJ2_getChar_3b067 cJ2_getChar_3b067 2 (some .char) ∈ lw_tbl := List.mem_of_getElem? (i := 356) rfl
set_option maxRecDepth 100000 in
theorem lwc_61 : Cond.code yX5_addSign cX5_addSign 2 none ∈ lw_tbl := List.mem_of_getElem? (i := 466) rfl
set_option maxRecDepth 100000 in
theorem lwc_62 : Cond.code yX7_writeToken cX7_writeToken 3 none ∈ lw_tbl := List.mem_of_getElem? (i := 438) rfl
set_option maxRecDepth 100000 in
theorem lwc_63 : Cond.code yX8_login cX8_login 6 (some .int) ∈ lw_tbl := List.mem_of_getElem? (i := 953) rfl
set_option maxRecDepth 100000 in
theorem lwc_64 : Cond.code yX8_isOld cX8_isOld 2 (some .boolean) ∈ lw_tbl := List.mem_of_getElem? (i := 957) rfl
set_option maxRecDepth 100000 in
theorem in_wsL_law0_r18 : ∀ w ∈ wsL_law0_r18, w ∈ lw_tbl := in_mix (ps := [355, 357, 359, 361, 463, 464, 465, 435, 437, 10, 950, 951, 952, 954, 956, 20, 958, 960, 21]) (by decide +kernel) (show ∀ w ∈ [Cond.code yJ2_getChar_3b067 cJ2_getChar_3b067 2 (some .char), Cond.code yX5_addSign cX5_addSign 2 none, Cond.code yX7_writeToken cX7_writeToken 3 none, Cond.code yX8_login cX8_login 6 (some .int), Cond.code yX8_isOld cX8_isOld 2 (some .boolean)], w ∈ lw_tbl from List.forall_mem_cons.mpr ⟨lwc_60, List.forall_mem_cons.mpr ⟨lwc_61, List.forall_mem_cons.mpr ⟨lwc_62, List.forall_mem_cons.mpr ⟨lwc_63, List.forall_mem_cons.mpr ⟨lwc_64, fun _ h => absurd h List.not_mem_nil⟩⟩⟩⟩⟩)
set_option maxRecDepth 100000 in
theorem lwc_65 : Cond.code yX8_isIdle cX8_isIdle 2 (some .boolean) ∈ lw_tbl := List.mem_of_getElem? (i := 961) rfl
set_option maxRecDepth 100000 in
theorem lwc_66 : Cond.code yX8_newId cX8_newId 4 (some .long) ∈ lw_tbl := List.mem_of_getElem? (i := 965) rfl
set_option maxRecDepth 100000 in
theorem lwc_67 : Cond.code yX8_say cX8_say 2 none ∈ lw_tbl := List.mem_of_getElem? (i := 970) rfl
set_option maxRecDepth 100000 in
theorem lwc_68 : Cond.code yX8_seal cX8_seal 2 none ∈ lw_tbl := List.mem_of_getElem? (i := 974) rfl
set_option maxRecDepth 100000 in
theorem lwc_69 : Cond.code yX8_hashNow cX8_hashNow 4 none ∈ lw_tbl := List.mem_of_getElem? (i := 978) rfl
set_option maxRecDepth 100000 in
theorem lwc_70 : Cond.code yX8_block cX8_block 13 none ∈ lw_tbl := List.mem_of_getElem? (i := 982) rfl
set_option maxRecDepth 100000 in
theorem in_wsL_law0_r19 : ∀ w ∈ wsL_law0_r19, w ∈ lw_tbl := in_mix (ps := [962, 964, 22, 966, 815, 967, 969, 23, 971, 973, 24, 811, 975, 977, 25, 979, 981, 26]) (by decide +kernel) (show ∀ w ∈ [Cond.code yX8_isIdle cX8_isIdle 2 (some .boolean), Cond.code yX8_newId cX8_newId 4 (some .long), Cond.code yX8_say cX8_say 2 none, Cond.code yX8_seal cX8_seal 2 none, Cond.code yX8_hashNow cX8_hashNow 4 none, Cond.code yX8_block cX8_block 13 none], w ∈ lw_tbl from List.forall_mem_cons.mpr ⟨lwc_65, List.forall_mem_cons.mpr ⟨lwc_66, List.forall_mem_cons.mpr ⟨lwc_67, List.forall_mem_cons.mpr ⟨lwc_68, List.forall_mem_cons.mpr ⟨lwc_69, List.forall_mem_cons.mpr ⟨lwc_70, fun _ h => absurd h List.not_mem_nil⟩⟩⟩⟩⟩⟩)
set_option maxRecDepth 100000 in
theorem lwc_71 : Cond.code yX8_turn cX8_turn 2 (some .int) ∈ lw_tbl := List.mem_of_getElem? (i := 985) rfl
set_option maxRecDepth 100000 in
theorem lwc_72 : Cond.code yX8_issue cX8_issue 4 none ∈ lw_tbl := List.mem_of_getElem? (i := 989) rfl
set_option maxRecDepth 100000 in
theorem lwc_73 : Cond.code yX8_body cX8_body 6 none ∈ lw_tbl := List.mem_of_getElem? (i := 993) rfl
set_option maxRecDepth 100000 in
theorem lwc_74 : Cond.code yX8_sealBody cX8_sealBody 4 none ∈ lw_tbl := List.mem_of_getElem? (i := 997) rfl
set_option maxRecDepth 100000 in
theorem lwc_75 : Cond.code yX8_takeKey cX8_takeKey 3 none ∈ lw_tbl := List.mem_of_getElem? (i := 1001) rfl
set_option maxRecDepth 100000 in
theorem lwc_76 : Cond.code yX8_codedAt cX8_codedAt 5 (some .int) ∈ lw_tbl := List.mem_of_getElem? (i := 1005) rfl
set_option maxRecDepth 100000 in
theorem in_wsL_law0_r20 : ∀ w ∈ wsL_law0_r20, w ∈ lw_tbl := in_mix (ps := [983, 984, 986, 988, 27, 990, 992, 28, 994, 996, 29, 998, 1000, 30, 1002, 1004, 31, 1006]) (by decide +kernel) (show ∀ w ∈ [Cond.code yX8_turn cX8_turn 2 (some .int), Cond.code yX8_issue cX8_issue 4 none, Cond.code yX8_body cX8_body 6 none, Cond.code yX8_sealBody cX8_sealBody 4 none, Cond.code yX8_takeKey cX8_takeKey 3 none, Cond.code yX8_codedAt cX8_codedAt 5 (some .int)], w ∈ lw_tbl from List.forall_mem_cons.mpr ⟨lwc_71, List.forall_mem_cons.mpr ⟨lwc_72, List.forall_mem_cons.mpr ⟨lwc_73, List.forall_mem_cons.mpr ⟨lwc_74, List.forall_mem_cons.mpr ⟨lwc_75, List.forall_mem_cons.mpr ⟨lwc_76, fun _ h => absurd h List.not_mem_nil⟩⟩⟩⟩⟩⟩)
set_option maxRecDepth 100000 in
theorem lwc_77 : Cond.code yX8_signOf cX8_signOf 1 (some .int) ∈ lw_tbl := List.mem_of_getElem? (i := 1008) rfl
set_option maxRecDepth 100000 in
theorem lwc_78 : Cond.code yX8_token cX8_token 3 none ∈ lw_tbl := List.mem_of_getElem? (i := 1012) rfl
set_option maxRecDepth 100000 in
theorem lwc_79 : Cond.code yX7_request cX7_request 3 (some .int) ∈ lw_tbl := List.mem_of_getElem? (i := 276) rfl
set_option maxRecDepth 100000 in
theorem lwc_80 : Cond.code yX7_judge cX7_judge 4 (some .int) ∈ lw_tbl := List.mem_of_getElem? (i := 280) rfl
set_option maxRecDepth 100000 in
theorem lwc_81 : Cond.code yX0_decodeCookie cX0_decodeCookie 6 (some .boolean) ∈ lw_tbl := List.mem_of_getElem? (i := 283) rfl
set_option maxRecDepth 100000 in
theorem lwc_82 : Cond.code yX0_isCookieForm cX0_isCookieForm 2 (some .boolean) ∈ lw_tbl := List.mem_of_getElem? (i := 286) rfl
set_option maxRecDepth 100000 in
theorem lwc_83 : Cond.code yX0_sixBits cX0_sixBits 1 (some .int) ∈ lw_tbl := List.mem_of_getElem? (i := 289) rfl
set_option maxRecDepth 100000 in
theorem in_wsL_law0_r21 : ∀ w ∈ wsL_law0_r21, w ∈ lw_tbl := in_mix (ps := [1007, 1009, 1011, 32, 273, 274, 275, 277, 279, 0, 281, 282, 284, 285, 287, 288, 291]) (by decide +kernel) (show ∀ w ∈ [Cond.code yX8_signOf cX8_signOf 1 (some .int), Cond.code yX8_token cX8_token 3 none, Cond.code yX7_request cX7_request 3 (some .int), Cond.code yX7_judge cX7_judge 4 (some .int), Cond.code yX0_decodeCookie cX0_decodeCookie 6 (some .boolean), Cond.code yX0_isCookieForm cX0_isCookieForm 2 (some .boolean), Cond.code yX0_sixBits cX0_sixBits 1 (some .int)], w ∈ lw_tbl from List.forall_mem_cons.mpr ⟨lwc_77, List.forall_mem_cons.mpr ⟨lwc_78, List.forall_mem_cons.mpr ⟨lwc_79, List.forall_mem_cons.mpr ⟨lwc_80, List.forall_mem_cons.mpr ⟨lwc_81, List.forall_mem_cons.mpr ⟨lwc_82, List.forall_mem_cons.mpr ⟨lwc_83, fun _ h => absurd h List.not_mem_nil⟩⟩⟩⟩⟩⟩⟩)
set_option maxRecDepth 100000 in
theorem lwc_84 : Cond.code yJ0_indexOf_0f7a4 cJ0_indexOf_0f7a4 2 (some .int) ∈ lw_tbl := List.mem_of_getElem? (i := 294) rfl
set_option maxRecDepth 100000 in
theorem lwc_85 : Cond.code yJ0_indexOf_7cf53 cJ0_indexOf_7cf53 3 (some .int) ∈ lw_tbl := List.mem_of_getElem? (i := 298) rfl
set_option maxRecDepth 100000 in
theorem lwc_86 : Cond.code yJ0_length_8abf5 cJ0_length_8abf5 1 (some .int) ∈ lw_tbl := List.mem_of_getElem? (i := 308) rfl
set_option maxRecDepth 100000 in
theorem lwc_87 : Cond.code yJ0_coder_7d493 cJ0_coder_7d493 1 (some .byte) ∈ lw_tbl := List.mem_of_getElem? (i := 312) rfl
set_option maxRecDepth 100000 in
theorem lwc_88 : Cond.code yJ1_indexOf_4cfef cJ1_indexOf_4cfef 4 (some .int) ∈ lw_tbl := List.mem_of_getElem? (i := 315) rfl
set_option maxRecDepth 100000 in
theorem lwc_89 : Cond.code Lib.Math.max.name Lib.Math.max.code 2 (some .int) ∈ lw_tbl := List.mem_of_getElem? (i := 321) rfl
set_option maxRecDepth 100000 in
theorem in_wsL_law0_r22 : ∀ w ∈ wsL_law0_r22, w ∈ lw_tbl := in_mix (ps := [292, 293, 295, 296, 297, 305, 306, 307, 309, 310, 311, 313, 314, 319, 320, 56, 322, 323]) (by decide +kernel) (show ∀ w ∈ [Cond.code yJ0_indexOf_0f7a4 cJ0_indexOf_0f7a4 2 (some .int), Cond.code yJ0_indexOf_7cf53 cJ0_indexOf_7cf53 3 (some .int), Cond.code yJ0_length_8abf5 cJ0_length_8abf5 1 (some .int), Cond.code yJ0_coder_7d493 cJ0_coder_7d493 1 (some .byte), Cond.code yJ1_indexOf_4cfef cJ1_indexOf_4cfef 4 (some .int), Cond.code Lib.Math.max.name Lib.Math.max.code 2 (some .int)], w ∈ lw_tbl from List.forall_mem_cons.mpr ⟨lwc_84, List.forall_mem_cons.mpr ⟨lwc_85, List.forall_mem_cons.mpr ⟨lwc_86, List.forall_mem_cons.mpr ⟨lwc_87, List.forall_mem_cons.mpr ⟨lwc_88, List.forall_mem_cons.mpr ⟨lwc_89, fun _ h => absurd h List.not_mem_nil⟩⟩⟩⟩⟩⟩)
set_option maxRecDepth 100000 in
theorem lwc_90 : Cond.code Lib.Math.min.name Lib.Math.min.code 2 (some .int) ∈ lw_tbl := List.mem_of_getElem? (i := 324) rfl
set_option maxRecDepth 100000 in
theorem lwc_91 : Cond.code yJ1_canEncode_9a6ad cJ1_canEncode_9a6ad 1 (some .boolean) ∈ lw_tbl := List.mem_of_getElem? (i := 318) rfl
set_option maxRecDepth 100000 in
theorem lwc_92 : Cond.code yJ1_indexOfChar_4cfef cJ1_indexOfChar_4cfef 6 (some .int) ∈ lw_tbl := List.mem_of_getElem? (i := 327) rfl
set_option maxRecDepth 100000 in
theorem lwc_93 : Cond.code yJ2_indexOf_4cfef cJ2_indexOf_4cfef 4 (some .int) ∈ lw_tbl := List.mem_of_getElem? (i := 330) rfl
set_option maxRecDepth 100000 in
theorem lwc_94 : Cond.code yJ2_indexOfChar_4cfef cJ2_indexOfChar_4cfef 4 (some .int) ∈ lw_tbl := List.mem_of_getElem? (i := 336) rfl
set_option maxRecDepth 100000 in
theorem lwc_95 : Cond.code yJ2_checkBoundsBeginEnd_d044e cJ2_checkBoundsBeginEnd_d044e 3 none ∈ lw_tbl := List.mem_of_getElem? (i := 339) rfl
set_option maxRecDepth 100000 in
theorem lwc_96 : Cond.code yJ0_checkBoundsBeginEnd_23922 cJ0_checkBoundsBeginEnd_23922 3 none ∈ lw_tbl := List.mem_of_getElem? (i := 345) rfl
set_option maxRecDepth 100000 in
theorem in_wsL_law0_r23 : ∀ w ∈ wsL_law0_r23, w ∈ lw_tbl := in_mix (ps := [316, 317, 325, 326, 328, 329, 331, 332, 333, 334, 335, 337, 338, 343, 344, 348, 349]) (by decide +kernel) (show ∀ w ∈ [Cond.code Lib.Math.min.name Lib.Math.min.code 2 (some .int), Cond.code yJ1_canEncode_9a6ad cJ1_canEncode_9a6ad 1 (some .boolean), Cond.code yJ1_indexOfChar_4cfef cJ1_indexOfChar_4cfef 6 (some .int), Cond.code yJ2_indexOf_4cfef cJ2_indexOf_4cfef 4 (some .int), Cond.code yJ2_indexOfChar_4cfef cJ2_indexOfChar_4cfef 4 (some .int), Cond.code yJ2_checkBoundsBeginEnd_d044e cJ2_checkBoundsBeginEnd_d044e 3 none, Cond.code yJ0_checkBoundsBeginEnd_23922 cJ0_checkBoundsBeginEnd_23922 3 none], w ∈ lw_tbl from List.forall_mem_cons.mpr ⟨lwc_90, List.forall_mem_cons.mpr ⟨lwc_91, List.forall_mem_cons.mpr ⟨lwc_92, List.forall_mem_cons.mpr ⟨lwc_93, List.forall_mem_cons.mpr ⟨lwc_94, List.forall_mem_cons.mpr ⟨lwc_95, List.forall_mem_cons.mpr ⟨lwc_96, fun _ h => absurd h List.not_mem_nil⟩⟩⟩⟩⟩⟩⟩)
set_option maxRecDepth 100000 in
theorem lwc_97 : Cond.code yJ3_checkFromToIndex_8c36e cJ3_checkFromToIndex_8c36e 4 (some .int) ∈ lw_tbl := List.mem_of_getElem? (i := 350) rfl
set_option maxRecDepth 100000 in
theorem lwc_98 : Cond.code yJ2_indexOfCharUnsafe_4cfef cJ2_indexOfCharUnsafe_4cfef 5 (some .int) ∈ lw_tbl := List.mem_of_getElem? (i := 353) rfl
set_option maxRecDepth 100000 in
theorem lwc_99 : Cond.code yJ2_indexOfSupplementary_4cfef cJ2_indexOfSupplementary_4cfef 7 (some .int) ∈ lw_tbl := List.mem_of_getElem? (i := 365) rfl
set_option maxRecDepth 100000 in
theorem lwc_100 : Cond.code yJ11_isValidCodePoint_9a6ad cJ11_isValidCodePoint_9a6ad 2 (some .boolean) ∈ lw_tbl := List.mem_of_getElem? (i := 368) rfl
set_option maxRecDepth 100000 in
theorem lwc_101 : Cond.code yJ11_highSurrogate_5068e cJ11_highSurrogate_5068e 1 (some .char) ∈ lw_tbl := List.mem_of_getElem? (i := 371) rfl
set_option maxRecDepth 100000 in
theorem lwc_102 : Cond.code yJ11_lowSurrogate_5068e cJ11_lowSurrogate_5068e 1 (some .char) ∈ lw_tbl := List.mem_of_getElem? (i := 375) rfl
set_option maxRecDepth 100000 in
theorem lwc_103 : Cond.code yX2_liveKey cX2_liveKey 7 (some (.object "SessionGate$Key")) ∈ lw_tbl := List.mem_of_getElem? (i := 380) rfl
set_option maxRecDepth 100000 in
theorem in_wsL_law0_r24 : ∀ w ∈ wsL_law0_r24, w ∈ lw_tbl := in_mix (ps := [351, 352, 363, 364, 366, 367, 57, 369, 370, 372, 373, 374, 376, 377, 378, 379, 381]) (by decide +kernel) (show ∀ w ∈ [Cond.code yJ3_checkFromToIndex_8c36e cJ3_checkFromToIndex_8c36e 4 (some .int), Cond.code yJ2_indexOfCharUnsafe_4cfef cJ2_indexOfCharUnsafe_4cfef 5 (some .int), Cond.code yJ2_indexOfSupplementary_4cfef cJ2_indexOfSupplementary_4cfef 7 (some .int), Cond.code yJ11_isValidCodePoint_9a6ad cJ11_isValidCodePoint_9a6ad 2 (some .boolean), Cond.code yJ11_highSurrogate_5068e cJ11_highSurrogate_5068e 1 (some .char), Cond.code yJ11_lowSurrogate_5068e cJ11_lowSurrogate_5068e 1 (some .char), Cond.code yX2_liveKey cX2_liveKey 7 (some (.object "SessionGate$Key"))], w ∈ lw_tbl from List.forall_mem_cons.mpr ⟨lwc_97, List.forall_mem_cons.mpr ⟨lwc_98, List.forall_mem_cons.mpr ⟨lwc_99, List.forall_mem_cons.mpr ⟨lwc_100, List.forall_mem_cons.mpr ⟨lwc_101, List.forall_mem_cons.mpr ⟨lwc_102, List.forall_mem_cons.mpr ⟨lwc_103, fun _ h => absurd h List.not_mem_nil⟩⟩⟩⟩⟩⟩⟩)
set_option maxRecDepth 100000 in
theorem lwc_104 : Cond.code yX2_isLive cX2_isLive 6 (some .boolean) ∈ lw_tbl := List.mem_of_getElem? (i := 384) rfl
set_option maxRecDepth 100000 in
theorem lwc_105 : Cond.code yX7_isSealedBy cX7_isSealedBy 3 (some .boolean) ∈ lw_tbl := List.mem_of_getElem? (i := 388) rfl
set_option maxRecDepth 100000 in
theorem lwc_106 : Cond.code yX7_numberOf cX7_numberOf 5 (some .int) ∈ lw_tbl := List.mem_of_getElem? (i := 426) rfl
set_option maxRecDepth 100000 in
theorem lwc_107 : Cond.code yX5_isSameAs cX5_isSameAs 3 (some .boolean) ∈ lw_tbl := List.mem_of_getElem? (i := 470) rfl
set_option maxRecDepth 100000 in
theorem lwc_108 : Cond.code yX7_tally cX7_tally 2 none ∈ lw_tbl := List.mem_of_getElem? (i := 474) rfl
set_option maxRecDepth 100000 in
theorem lwc_109 : Cond.code yX8_request cX8_request 3 (some .int) ∈ lw_tbl := List.mem_of_getElem? (i := 1016) rfl
set_option maxRecDepth 100000 in
theorem in_wsL_law0_r25 : ∀ w ∈ wsL_law0_r25, w ∈ lw_tbl := in_mix (ps := [383, 1, 385, 387, 2, 423, 425, 7, 467, 468, 469, 471, 473, 11, 1013, 1014, 1015, 838]) (by decide +kernel) (show ∀ w ∈ [Cond.code yX2_isLive cX2_isLive 6 (some .boolean), Cond.code yX7_isSealedBy cX7_isSealedBy 3 (some .boolean), Cond.code yX7_numberOf cX7_numberOf 5 (some .int), Cond.code yX5_isSameAs cX5_isSameAs 3 (some .boolean), Cond.code yX7_tally cX7_tally 2 none, Cond.code yX8_request cX8_request 3 (some .int)], w ∈ lw_tbl from List.forall_mem_cons.mpr ⟨lwc_104, List.forall_mem_cons.mpr ⟨lwc_105, List.forall_mem_cons.mpr ⟨lwc_106, List.forall_mem_cons.mpr ⟨lwc_107, List.forall_mem_cons.mpr ⟨lwc_108, List.forall_mem_cons.mpr ⟨lwc_109, fun _ h => absurd h List.not_mem_nil⟩⟩⟩⟩⟩⟩)
set_option maxRecDepth 100000 in
theorem lwc_110 : Cond.code yX8_look cX8_look 7 (some .int) ∈ lw_tbl := List.mem_of_getElem? (i := 1020) rfl
set_option maxRecDepth 100000 in
theorem lwc_111 : Cond.code yX8_isForm cX8_isForm 5 (some .boolean) ∈ lw_tbl := List.mem_of_getElem? (i := 1024) rfl
set_option maxRecDepth 100000 in
theorem lwc_112 : Cond.code yX8_valueOf cX8_valueOf 1 (some .int) ∈ lw_tbl := List.mem_of_getElem? (i := 1027) rfl
set_option maxRecDepth 100000 in
theorem lwc_113 : Cond.code yX8_isLive cX8_isLive 2 (some .boolean) ∈ lw_tbl := List.mem_of_getElem? (i := 1031) rfl
set_option maxRecDepth 100000 in
theorem lwc_114 : Cond.code yX7_logout cX7_logout 2 (some .int) ∈ lw_tbl := List.mem_of_getElem? (i := 483) rfl
set_option maxRecDepth 100000 in
theorem in_wsL_law0_r26 : ∀ w ∈ wsL_law0_r26, w ∈ lw_tbl := in_mix (ps := [837, 840, 839, 1017, 1019, 33, 1021, 1023, 34, 1025, 1026, 1028, 1030, 35, 480, 481, 482, 1032, 1033]) (by decide +kernel) (show ∀ w ∈ [Cond.code yX8_look cX8_look 7 (some .int), Cond.code yX8_isForm cX8_isForm 5 (some .boolean), Cond.code yX8_valueOf cX8_valueOf 1 (some .int), Cond.code yX8_isLive cX8_isLive 2 (some .boolean), Cond.code yX7_logout cX7_logout 2 (some .int)], w ∈ lw_tbl from List.forall_mem_cons.mpr ⟨lwc_110, List.forall_mem_cons.mpr ⟨lwc_111, List.forall_mem_cons.mpr ⟨lwc_112, List.forall_mem_cons.mpr ⟨lwc_113, List.forall_mem_cons.mpr ⟨lwc_114, fun _ h => absurd h List.not_mem_nil⟩⟩⟩⟩⟩)
set_option maxRecDepth 100000 in
theorem lwc_115 : Cond.code yX8_logout cX8_logout 2 (some .int) ∈ lw_tbl := List.mem_of_getElem? (i := 1035) rfl
set_option maxRecDepth 100000 in
theorem lwc_116 : Cond.codeWith yL_revoke cL_revoke 4 (some .int) [(0, 9, 12, 13)] ∈ lw_tbl := List.mem_of_getElem? (i := 610) rfl
set_option maxRecDepth 100000 in
theorem lwc_117 : Cond.code yX7_revoke cX7_revoke 4 (some .int) ∈ lw_tbl := List.mem_of_getElem? (i := 614) rfl
set_option maxRecDepth 100000 in
theorem lwc_118 : Cond.code yX8_revoke cX8_revoke 4 (some .int) ∈ lw_tbl := List.mem_of_getElem? (i := 1039) rfl
set_option maxRecDepth 100000 in
theorem lwc_119 : Cond.codeWith yL_type cL_type 8 (some .int) [(0, 16, 19, 13), (0, 16, 23, 35)] ∈ lw_tbl := List.mem_of_getElem? (i := 617) rfl
set_option maxRecDepth 100000 in
theorem lwc_120 : Cond.code yX7_type cX7_type 8 (some .int) ∈ lw_tbl := List.mem_of_getElem? (i := 622) rfl
set_option maxRecDepth 100000 in
theorem in_wsL_law0_r27 : ∀ w ∈ wsL_law0_r27, w ∈ lw_tbl := in_mix (ps := [1034, 608, 609, 611, 612, 613, 1036, 1037, 1038, 615, 616, 618, 619, 620, 621, 634, 58, 623]) (by decide +kernel) (show ∀ w ∈ [Cond.code yX8_logout cX8_logout 2 (some .int), Cond.codeWith yL_revoke cL_revoke 4 (some .int) [(0, 9, 12, 13)], Cond.code yX7_revoke cX7_revoke 4 (some .int), Cond.code yX8_revoke cX8_revoke 4 (some .int), Cond.codeWith yL_type cL_type 8 (some .int) [(0, 16, 19, 13), (0, 16, 23, 35)], Cond.code yX7_type cX7_type 8 (some .int)], w ∈ lw_tbl from List.forall_mem_cons.mpr ⟨lwc_115, List.forall_mem_cons.mpr ⟨lwc_116, List.forall_mem_cons.mpr ⟨lwc_117, List.forall_mem_cons.mpr ⟨lwc_118, List.forall_mem_cons.mpr ⟨lwc_119, List.forall_mem_cons.mpr ⟨lwc_120, fun _ h => absurd h List.not_mem_nil⟩⟩⟩⟩⟩⟩)
set_option maxRecDepth 100000 in
theorem lwc_121 : Cond.code yX7_isText cX7_isText 1 (some .boolean) ∈ lw_tbl := List.mem_of_getElem? (i := 625) rfl
set_option maxRecDepth 100000 in
theorem lwc_122 : Cond.code yX7_textOf cX7_textOf 2 (some (.object "SessionGate$Text")) ∈ lw_tbl := List.mem_of_getElem? (i := 629) rfl
set_option maxRecDepth 100000 in
theorem lwc_123 : Cond.code yX7_signsIn cX7_signsIn 3 (some .int) ∈ lw_tbl := List.mem_of_getElem? (i := 632) rfl
set_option maxRecDepth 100000 in
theorem lwc_124 : Cond.code yX5_addSigns cX5_addSigns 4 none ∈ lw_tbl := List.mem_of_getElem? (i := 652) rfl
set_option maxRecDepth 100000 in
theorem lwc_125 : Cond.code yX8_type cX8_type 8 (some .int) ∈ lw_tbl := List.mem_of_getElem? (i := 1043) rfl
set_option maxRecDepth 100000 in
theorem lwc_126 : Cond.code yX8_many cX8_many 1 (some .int) ∈ lw_tbl := List.mem_of_getElem? (i := 1046) rfl
set_option maxRecDepth 100000 in
theorem in_wsL_law0_r28 : ∀ w ∈ wsL_law0_r28, w ∈ lw_tbl := in_mix (ps := [624, 626, 628, 17, 630, 631, 633, 649, 650, 651, 654, 1040, 1041, 1042, 1044, 1045, 1047, 1049]) (by decide +kernel) (show ∀ w ∈ [Cond.code yX7_isText cX7_isText 1 (some .boolean), Cond.code yX7_textOf cX7_textOf 2 (some (.object "SessionGate$Text")), Cond.code yX7_signsIn cX7_signsIn 3 (some .int), Cond.code yX5_addSigns cX5_addSigns 4 none, Cond.code yX8_type cX8_type 8 (some .int), Cond.code yX8_many cX8_many 1 (some .int)], w ∈ lw_tbl from List.forall_mem_cons.mpr ⟨lwc_121, List.forall_mem_cons.mpr ⟨lwc_122, List.forall_mem_cons.mpr ⟨lwc_123, List.forall_mem_cons.mpr ⟨lwc_124, List.forall_mem_cons.mpr ⟨lwc_125, List.forall_mem_cons.mpr ⟨lwc_126, fun _ h => absurd h List.not_mem_nil⟩⟩⟩⟩⟩⟩)
set_option maxRecDepth 100000 in
theorem lwc_127 : Cond.code yX8_typed cX8_typed 7 (some .int) ∈ lw_tbl := List.mem_of_getElem? (i := 1050) rfl
set_option maxRecDepth 100000 in
theorem lwc_128 : Cond.codeWith yL_erase cL_erase 4 (some .int) [(0, 9, 12, 13)] ∈ lw_tbl := List.mem_of_getElem? (i := 657) rfl
set_option maxRecDepth 100000 in
theorem lwc_129 : Cond.code yX7_erase cX7_erase 4 (some .int) ∈ lw_tbl := List.mem_of_getElem? (i := 661) rfl
set_option maxRecDepth 100000 in
theorem lwc_130 : Cond.code yX8_erase cX8_erase 3 (some .int) ∈ lw_tbl := List.mem_of_getElem? (i := 1054) rfl
set_option maxRecDepth 100000 in
theorem lwc_131 : Cond.codeWith yL_put cL_put 6 (some .int) [(0, 12, 15, 13), (0, 12, 19, 43)] ∈ lw_tbl := List.mem_of_getElem? (i := 664) rfl
set_option maxRecDepth 100000 in
theorem lwc_132 : Cond.code yX7_put cX7_put 6 (some .int) ∈ lw_tbl := List.mem_of_getElem? (i := 669) rfl
set_option maxRecDepth 100000 in
theorem in_wsL_law0_r29 : ∀ w ∈ wsL_law0_r29, w ∈ lw_tbl := in_mix (ps := [36, 655, 656, 658, 659, 660, 1051, 1052, 1053, 662, 663, 665, 666, 667, 668, 674, 59, 670]) (by decide +kernel) (show ∀ w ∈ [Cond.code yX8_typed cX8_typed 7 (some .int), Cond.codeWith yL_erase cL_erase 4 (some .int) [(0, 9, 12, 13)], Cond.code yX7_erase cX7_erase 4 (some .int), Cond.code yX8_erase cX8_erase 3 (some .int), Cond.codeWith yL_put cL_put 6 (some .int) [(0, 12, 15, 13), (0, 12, 19, 43)], Cond.code yX7_put cX7_put 6 (some .int)], w ∈ lw_tbl from List.forall_mem_cons.mpr ⟨lwc_127, List.forall_mem_cons.mpr ⟨lwc_128, List.forall_mem_cons.mpr ⟨lwc_129, List.forall_mem_cons.mpr ⟨lwc_130, List.forall_mem_cons.mpr ⟨lwc_131, List.forall_mem_cons.mpr ⟨lwc_132, fun _ h => absurd h List.not_mem_nil⟩⟩⟩⟩⟩⟩)
set_option maxRecDepth 100000 in
theorem lwc_133 : Cond.code yX5_has cX5_has 2 (some .boolean) ∈ lw_tbl := List.mem_of_getElem? (i := 673) rfl
set_option maxRecDepth 100000 in
theorem lwc_134 : Cond.code yX8_put cX8_put 6 (some .int) ∈ lw_tbl := List.mem_of_getElem? (i := 1058) rfl
set_option maxRecDepth 100000 in
theorem lwc_135 : Cond.codeWith yL_sign cL_sign 5 (some .int) [(0, 10, 13, 13)] ∈ lw_tbl := List.mem_of_getElem? (i := 691) rfl
set_option maxRecDepth 100000 in
theorem lwc_136 : Cond.code yX7_sign cX7_sign 4 (some .int) ∈ lw_tbl := List.mem_of_getElem? (i := 695) rfl
set_option maxRecDepth 100000 in
theorem lwc_137 : Cond.code yX8_sign cX8_sign 3 (some .int) ∈ lw_tbl := List.mem_of_getElem? (i := 1062) rfl
set_option maxRecDepth 100000 in
theorem lwc_138 : Cond.codeWith yL_session cL_session 5 (some .int) [(0, 9, 12, 13)] ∈ lw_tbl := List.mem_of_getElem? (i := 698) rfl
set_option maxRecDepth 100000 in
theorem in_wsL_law0_r30 : ∀ w ∈ wsL_law0_r30, w ∈ lw_tbl := in_mix (ps := [671, 672, 1055, 1056, 1057, 689, 690, 692, 693, 694, 1059, 1060, 1061, 696, 697, 699, 700, 701]) (by decide +kernel) (show ∀ w ∈ [Cond.code yX5_has cX5_has 2 (some .boolean), Cond.code yX8_put cX8_put 6 (some .int), Cond.codeWith yL_sign cL_sign 5 (some .int) [(0, 10, 13, 13)], Cond.code yX7_sign cX7_sign 4 (some .int), Cond.code yX8_sign cX8_sign 3 (some .int), Cond.codeWith yL_session cL_session 5 (some .int) [(0, 9, 12, 13)]], w ∈ lw_tbl from List.forall_mem_cons.mpr ⟨lwc_133, List.forall_mem_cons.mpr ⟨lwc_134, List.forall_mem_cons.mpr ⟨lwc_135, List.forall_mem_cons.mpr ⟨lwc_136, List.forall_mem_cons.mpr ⟨lwc_137, List.forall_mem_cons.mpr ⟨lwc_138, fun _ h => absurd h List.not_mem_nil⟩⟩⟩⟩⟩⟩)
set_option maxRecDepth 100000 in
theorem lwc_139 : Cond.code yX7_session cX7_session 4 (some .long) ∈ lw_tbl := List.mem_of_getElem? (i := 702) rfl
set_option maxRecDepth 100000 in
theorem lwc_140 : Cond.code yX8_session cX8_session 3 (some .long) ∈ lw_tbl := List.mem_of_getElem? (i := 1066) rfl
set_option maxRecDepth 100000 in
theorem lwc_141 : Cond.codeWith yL_count cL_count 4 (some .int) [(0, 9, 12, 13)] ∈ lw_tbl := List.mem_of_getElem? (i := 706) rfl
set_option maxRecDepth 100000 in
theorem lwc_142 : Cond.code yX7_count cX7_count 2 (some .int) ∈ lw_tbl := List.mem_of_getElem? (i := 710) rfl
set_option maxRecDepth 100000 in
theorem lwc_143 : Cond.code yX7_openSessions cX7_openSessions 3 (some .int) ∈ lw_tbl := List.mem_of_getElem? (i := 714) rfl
set_option maxRecDepth 100000 in
theorem lwc_144 : Cond.code yX2_liveOnes cX2_liveOnes 7 (some .int) ∈ lw_tbl := List.mem_of_getElem? (i := 718) rfl
set_option maxRecDepth 100000 in
theorem in_wsL_law0_r31 : ∀ w ∈ wsL_law0_r31, w ∈ lw_tbl := in_mix (ps := [703, 1063, 1064, 1065, 1067, 1068, 704, 705, 707, 708, 709, 711, 713, 18, 715, 716, 717, 1069]) (by decide +kernel) (show ∀ w ∈ [Cond.code yX7_session cX7_session 4 (some .long), Cond.code yX8_session cX8_session 3 (some .long), Cond.codeWith yL_count cL_count 4 (some .int) [(0, 9, 12, 13)], Cond.code yX7_count cX7_count 2 (some .int), Cond.code yX7_openSessions cX7_openSessions 3 (some .int), Cond.code yX2_liveOnes cX2_liveOnes 7 (some .int)], w ∈ lw_tbl from List.forall_mem_cons.mpr ⟨lwc_139, List.forall_mem_cons.mpr ⟨lwc_140, List.forall_mem_cons.mpr ⟨lwc_141, List.forall_mem_cons.mpr ⟨lwc_142, List.forall_mem_cons.mpr ⟨lwc_143, List.forall_mem_cons.mpr ⟨lwc_144, fun _ h => absurd h List.not_mem_nil⟩⟩⟩⟩⟩⟩)
set_option maxRecDepth 100000 in
theorem lwc_145 : Cond.code yX8_count cX8_count 4 (some .int) ∈ lw_tbl := List.mem_of_getElem? (i := 1072) rfl
set_option maxRecDepth 100000 in
theorem lwc_146 : Cond.codeWith yL_octet cL_octet 4 (some .int) [(0, 9, 12, 13)] ∈ lw_tbl := List.mem_of_getElem? (i := 721) rfl
set_option maxRecDepth 100000 in
theorem lwc_147 : Cond.code yX7_octet cX7_octet 2 (some .int) ∈ lw_tbl := List.mem_of_getElem? (i := 725) rfl
set_option maxRecDepth 100000 in
theorem lwc_148 : Cond.code yX8_octet cX8_octet 3 (some .int) ∈ lw_tbl := List.mem_of_getElem? (i := 1077) rfl
set_option maxRecDepth 100000 in
theorem in_wsL_law0_r32 : ∀ w ∈ wsL_law0_r32, w ∈ lw_tbl := in_mix (ps := [1070, 1071, 1073, 719, 720, 722, 723, 724, 1074, 1075, 1076, 1078]) (by decide +kernel) (show ∀ w ∈ [Cond.code yX8_count cX8_count 4 (some .int), Cond.codeWith yL_octet cL_octet 4 (some .int) [(0, 9, 12, 13)], Cond.code yX7_octet cX7_octet 2 (some .int), Cond.code yX8_octet cX8_octet 3 (some .int)], w ∈ lw_tbl from List.forall_mem_cons.mpr ⟨lwc_145, List.forall_mem_cons.mpr ⟨lwc_146, List.forall_mem_cons.mpr ⟨lwc_147, List.forall_mem_cons.mpr ⟨lwc_148, fun _ h => absurd h List.not_mem_nil⟩⟩⟩⟩)
theorem in_wsX70 : ∀ w ∈ wsX70, w ∈ lw_tbl := in_pos (ps := [208, 210, 212, 214, 216, 218, 220, 222, 224, 226, 228, 230, 232, 234, 236, 238, 240, 242, 244]) (by decide +kernel)
theorem in_wsX80 : ∀ w ∈ wsX80, w ∈ lw_tbl := in_pos (ps := [841, 843, 845, 847, 849, 851, 853, 855, 857, 859, 861, 863, 865, 867, 869, 871, 873, 875, 877, 879, 881, 883, 885, 887, 889, 891, 893, 895, 897, 899, 901, 903, 905, 907, 909, 911]) (by decide +kernel)
theorem in_wsX30 : ∀ w ∈ wsX30, w ∈ lw_tbl := in_pos (ps := [79, 81, 83, 85]) (by decide +kernel)
theorem in_wsX20 : ∀ w ∈ wsX20, w ∈ lw_tbl := in_pos (ps := [119, 121, 123]) (by decide +kernel)
theorem in_wsX50 : ∀ w ∈ wsX50, w ∈ lw_tbl := in_pos (ps := [138, 140]) (by decide +kernel)
theorem in_wsX60 : ∀ w ∈ wsX60, w ∈ lw_tbl := in_pos (ps := [156, 158, 160]) (by decide +kernel)
theorem in_wsX40 : ∀ w ∈ wsX40, w ∈ lw_tbl := in_pos (ps := [178, 180, 182, 184, 186]) (by decide +kernel)
theorem in_wsX10 : ∀ w ∈ wsX10, w ∈ lw_tbl := in_pos (ps := [109, 111, 113]) (by decide +kernel)
theorem wsL_law_in0 : ∀ w ∈ wsL_law0, w ∈ lw_tbl := fun w h => (List.mem_append.mp h).elim (fun h => (List.mem_append.mp h).elim (fun h => (List.mem_append.mp h).elim (fun h => (List.mem_append.mp h).elim (fun h => (List.mem_append.mp h).elim (fun h => (List.mem_append.mp h).elim (fun h => (List.mem_append.mp h).elim (fun h => (List.mem_append.mp h).elim (fun h => (List.mem_append.mp h).elim (fun h => (List.mem_append.mp h).elim (fun h => in_wsL_law0_r1 w h) (fun h => (List.mem_append.mp h).elim (fun h => in_wsL_law0_r2 w h) (fun h => (List.mem_append.mp h).elim (fun h => in_wsL_law0_r3 w h) (fun h => (List.mem_append.mp h).elim (fun h => in_wsL_law0_r4 w h) (fun h => (List.mem_append.mp h).elim (fun h => in_wsL_law0_r5 w h) (fun h => (List.mem_append.mp h).elim (fun h => in_wsL_law0_r6 w h) (fun h => (List.mem_append.mp h).elim (fun h => in_wsL_law0_r7 w h) (fun h => (List.mem_append.mp h).elim (fun h => in_wsL_law0_r8 w h) (fun h => (List.mem_append.mp h).elim (fun h => in_wsL_law0_r9 w h) (fun h => (List.mem_append.mp h).elim (fun h => in_wsL_law0_r10 w h) (fun h => (List.mem_append.mp h).elim (fun h => in_wsL_law0_r11 w h) (fun h => (List.mem_append.mp h).elim (fun h => in_wsL_law0_r12 w h) (fun h => (List.mem_append.mp h).elim (fun h => in_wsL_law0_r13 w h) (fun h => (List.mem_append.mp h).elim (fun h => in_wsL_law0_r14 w h) (fun h => (List.mem_append.mp h).elim (fun h => in_wsL_law0_r15 w h) (fun h => (List.mem_append.mp h).elim (fun h => in_wsL_law0_r16 w h) (fun h => (List.mem_append.mp h).elim (fun h => in_wsL_law0_r17 w h) (fun h => (List.mem_append.mp h).elim (fun h => in_wsL_law0_r18 w h) (fun h => (List.mem_append.mp h).elim (fun h => in_wsL_law0_r19 w h) (fun h => (List.mem_append.mp h).elim (fun h => in_wsL_law0_r20 w h) (fun h => (List.mem_append.mp h).elim (fun h => in_wsL_law0_r21 w h) (fun h => (List.mem_append.mp h).elim (fun h => in_wsL_law0_r22 w h) (fun h => (List.mem_append.mp h).elim (fun h => in_wsL_law0_r23 w h) (fun h => (List.mem_append.mp h).elim (fun h => in_wsL_law0_r24 w h) (fun h => (List.mem_append.mp h).elim (fun h => in_wsL_law0_r25 w h) (fun h => (List.mem_append.mp h).elim (fun h => in_wsL_law0_r26 w h) (fun h => (List.mem_append.mp h).elim (fun h => in_wsL_law0_r27 w h) (fun h => (List.mem_append.mp h).elim (fun h => in_wsL_law0_r28 w h) (fun h => (List.mem_append.mp h).elim (fun h => in_wsL_law0_r29 w h) (fun h => (List.mem_append.mp h).elim (fun h => in_wsL_law0_r30 w h) (fun h => (List.mem_append.mp h).elim (fun h => in_wsL_law0_r31 w h) (fun h => in_wsL_law0_r32 w h)))))))))))))))))))))))))))))))) (fun h => in_wsX70 w h)) (fun h => in_wsX80 w h)) (fun h => in_wsX30 w h)) (fun h => in_wsX20 w h)) (fun h => in_wsX50 w h)) (fun h => in_wsX60 w h)) (fun h => in_wsX40 w h)) (fun h => in_wsX10 w h)) (fun h => absurd h List.not_mem_nil)
theorem wsL_law_x0 : ∀ w ∈ (vx_at0 RX7 99 "java/lang/IllegalArgumentException" ["java/lang/RuntimeException", "java/lang/Exception"]).filter goodWord, w ∈ lw_tbl := by decide +kernel
theorem wsL_law_x1 : ∀ w ∈ (vx_at0 RX7 186 "java/lang/IllegalStateException" ["java/lang/RuntimeException", "java/lang/Exception"]).filter goodWord, w ∈ lw_tbl := by decide +kernel
theorem wsL_law_x2 : ∀ w ∈ (vx_at0 RX7 195 "java/lang/IndexOutOfBoundsException" ["java/lang/RuntimeException", "java/lang/Exception"]).filter goodWord, w ∈ lw_tbl := by decide +kernel
theorem wsL_law_in : ∀ w ∈ wsL_law, w ∈ lw_tbl := fun w h => (List.mem_append.mp h).elim (fun h => (List.mem_append.mp h).elim (fun h => (List.mem_append.mp h).elim (fun h => wsL_law_in0 w h) (fun h => wsL_law_x0 w h)) (fun h => wsL_law_x1 w h)) (fun h => wsL_law_x2 w h)
