section WC
variable {R : Room} {s : State} {args : Array Value} {fr lo : Nat}
theorem cw_L_7 (hB : ∀ w ∈ BIG, w.before args s = true) (hR : fr + 1 ≤ R.frames ∧ 8 + (3 + 11) + lo ≤ R.locals) : CallW R s args RL RX7 7 yX7_pass cX7_pass 3 (some .long) (Cond.code yX7_pass cX7_pass 3 (some .long) :: BIG) (rmm fr lo) 0 0 1 := cwV 1 hB (goodV bg_9_23 bg_10_0 bg_10_1 bg_1_2 bg_10_2) rfl rfl rfl (by decide +kernel) hR
theorem cwx_L_7 (hB : ∀ w ∈ BIG, w.before args s = true) (hR : fr + 1 ≤ R.frames ∧ 8 + (3 + 11) + lo ≤ R.locals) : CallW R s args RL RX7 7 yX7_pass cX7_pass 3 (some .long) (Cond.code yX7_pass cX7_pass 3 (some .long) :: BIG) (rmx fr lo) 1 6 1 := cwV 1 hB (goodV bg_9_23 bg_10_0 bg_10_1 bg_1_2 bg_10_2) rfl rfl rfl (by decide +kernel) hR
theorem cw_L_15 (hB : ∀ w ∈ BIG, w.before args s = true) (hR : fr + 1 ≤ R.frames ∧ 8 + (7 + 11) + lo ≤ R.locals) : CallW R s args RL RX7 15 yX7_limits cX7_limits 7 none (Cond.code yX7_limits cX7_limits 7 none :: BIG) (rmm fr lo) 0 0 3 := cwV 3 hB (goodV bg_11_2 bg_11_3 bg_11_4 bg_1_2 bg_11_5) rfl rfl rfl (by decide +kernel) hR
theorem cwx_L_15 (hB : ∀ w ∈ BIG, w.before args s = true) (hR : fr + 1 ≤ R.frames ∧ 8 + (7 + 11) + lo ≤ R.locals) : CallW R s args RL RX7 15 yX7_limits cX7_limits 7 none (Cond.code yX7_limits cX7_limits 7 none :: BIG) (rmx fr lo) 1 6 3 := cwV 3 hB (goodV bg_11_2 bg_11_3 bg_11_4 bg_1_2 bg_11_5) rfl rfl rfl (by decide +kernel) hR
theorem cw_L_19 (hB : ∀ w ∈ BIG, w.before args s = true) (hR : fr + 1 ≤ R.frames ∧ 8 + (4 + 11) + lo ≤ R.locals) : CallW R s args RL RX7 19 yX7_user cX7_user 4 none (Cond.code yX7_user cX7_user 4 none :: BIG) (rmm fr lo) 0 0 3 := cwV 3 hB (goodV bg_12_16 bg_12_17 bg_12_18 bg_1_2 bg_12_19) rfl rfl rfl (by decide +kernel) hR
theorem cwx_L_19 (hB : ∀ w ∈ BIG, w.before args s = true) (hR : fr + 1 ≤ R.frames ∧ 8 + (4 + 11) + lo ≤ R.locals) : CallW R s args RL RX7 19 yX7_user cX7_user 4 none (Cond.code yX7_user cX7_user 4 none :: BIG) (rmx fr lo) 1 6 3 := cwV 3 hB (goodV bg_12_16 bg_12_17 bg_12_18 bg_1_2 bg_12_19) rfl rfl rfl (by decide +kernel) hR
theorem cw_L_23 (hB : ∀ w ∈ BIG, w.before args s = true) (hR : fr + 1 ≤ R.frames ∧ 8 + (5 + 11) + lo ≤ R.locals) : CallW R s args RL RX7 23 yX7_login cX7_login 5 (some .int) (Cond.code yX7_login cX7_login 5 (some .int) :: BIG) (rmm fr lo) 0 0 3 := cwV 3 hB (goodV bg_13_11 bg_13_12 bg_13_13 bg_1_2 bg_13_14) rfl rfl rfl (by decide +kernel) hR
theorem cwx_L_23 (hB : ∀ w ∈ BIG, w.before args s = true) (hR : fr + 1 ≤ R.frames ∧ 8 + (5 + 11) + lo ≤ R.locals) : CallW R s args RL RX7 23 yX7_login cX7_login 5 (some .int) (Cond.code yX7_login cX7_login 5 (some .int) :: BIG) (rmx fr lo) 1 6 3 := cwV 3 hB (goodV bg_13_11 bg_13_12 bg_13_13 bg_1_2 bg_13_14) rfl rfl rfl (by decide +kernel) hR
theorem cw_L_27 (hB : ∀ w ∈ BIG, w.before args s = true) (hR : fr + 1 ≤ R.frames ∧ 8 + (4 + 11) + lo ≤ R.locals) : CallW R s args RL RX7 27 yX7_revoke cX7_revoke 4 (some .int) (Cond.code yX7_revoke cX7_revoke 4 (some .int) :: BIG) (rmm fr lo) 0 0 1 := cwV 1 hB (goodV bg_27_5 bg_27_6 bg_27_7 bg_1_2 bg_27_8) rfl rfl rfl (by decide +kernel) hR
theorem cwx_L_27 (hB : ∀ w ∈ BIG, w.before args s = true) (hR : fr + 1 ≤ R.frames ∧ 8 + (4 + 11) + lo ≤ R.locals) : CallW R s args RL RX7 27 yX7_revoke cX7_revoke 4 (some .int) (Cond.code yX7_revoke cX7_revoke 4 (some .int) :: BIG) (rmx fr lo) 1 6 1 := cwV 1 hB (goodV bg_27_5 bg_27_6 bg_27_7 bg_1_2 bg_27_8) rfl rfl rfl (by decide +kernel) hR
theorem cw_L_31 (hB : ∀ w ∈ BIG, w.before args s = true) (hR : fr + 1 ≤ R.frames ∧ 8 + (8 + 11) + lo ≤ R.locals) : CallW R s args RL RX7 31 yX7_type cX7_type 8 (some .int) (Cond.code yX7_type cX7_type 8 (some .int) :: BIG) (rmm fr lo) 0 0 5 := cwV 5 hB (goodV bg_27_17 bg_27_18 bg_27_19 bg_1_2 bg_27_20) rfl rfl rfl (by decide +kernel) hR
theorem cwx_L_31 (hB : ∀ w ∈ BIG, w.before args s = true) (hR : fr + 1 ≤ R.frames ∧ 8 + (8 + 11) + lo ≤ R.locals) : CallW R s args RL RX7 31 yX7_type cX7_type 8 (some .int) (Cond.code yX7_type cX7_type 8 (some .int) :: BIG) (rmx fr lo) 1 6 5 := cwV 5 hB (goodV bg_27_17 bg_27_18 bg_27_19 bg_1_2 bg_27_20) rfl rfl rfl (by decide +kernel) hR
theorem cw_L_37 (hB : ∀ w ∈ BIG, w.before args s = true) (hR : fr + 1 ≤ R.frames ∧ 8 + (4 + 11) + lo ≤ R.locals) : CallW R s args RL RX7 37 yX7_erase cX7_erase 4 (some .int) (Cond.code yX7_erase cX7_erase 4 (some .int) :: BIG) (rmm fr lo) 0 0 1 := cwV 1 hB (goodV bg_29_5 bg_29_6 bg_29_7 bg_1_2 bg_29_8) rfl rfl rfl (by decide +kernel) hR
theorem cwx_L_37 (hB : ∀ w ∈ BIG, w.before args s = true) (hR : fr + 1 ≤ R.frames ∧ 8 + (4 + 11) + lo ≤ R.locals) : CallW R s args RL RX7 37 yX7_erase cX7_erase 4 (some .int) (Cond.code yX7_erase cX7_erase 4 (some .int) :: BIG) (rmx fr lo) 1 6 1 := cwV 1 hB (goodV bg_29_5 bg_29_6 bg_29_7 bg_1_2 bg_29_8) rfl rfl rfl (by decide +kernel) hR
theorem cw_L_40 (hB : ∀ w ∈ BIG, w.before args s = true) (hR : fr + 1 ≤ R.frames ∧ 8 + (6 + 11) + lo ≤ R.locals) : CallW R s args RL RX7 40 yX7_put cX7_put 6 (some .int) (Cond.code yX7_put cX7_put 6 (some .int) :: BIG) (rmm fr lo) 0 0 3 := cwV 3 hB (goodV bg_29_17 bg_29_18 bg_29_19 bg_1_2 bg_29_20) rfl rfl rfl (by decide +kernel) hR
theorem cwx_L_40 (hB : ∀ w ∈ BIG, w.before args s = true) (hR : fr + 1 ≤ R.frames ∧ 8 + (6 + 11) + lo ≤ R.locals) : CallW R s args RL RX7 40 yX7_put cX7_put 6 (some .int) (Cond.code yX7_put cX7_put 6 (some .int) :: BIG) (rmx fr lo) 1 6 3 := cwV 3 hB (goodV bg_29_17 bg_29_18 bg_29_19 bg_1_2 bg_29_20) rfl rfl rfl (by decide +kernel) hR
theorem cw_L_45 (hB : ∀ w ∈ BIG, w.before args s = true) (hR : fr + 1 ≤ R.frames ∧ 8 + (4 + 11) + lo ≤ R.locals) : CallW R s args RL RX7 45 yX7_sign cX7_sign 4 (some .int) (Cond.code yX7_sign cX7_sign 4 (some .int) :: BIG) (rmm fr lo) 0 0 2 := cwV 2 hB (goodV bg_30_10 bg_30_11 bg_30_12 bg_1_2 bg_30_13) rfl rfl rfl (by decide +kernel) hR
theorem cwx_L_45 (hB : ∀ w ∈ BIG, w.before args s = true) (hR : fr + 1 ≤ R.frames ∧ 8 + (4 + 11) + lo ≤ R.locals) : CallW R s args RL RX7 45 yX7_sign cX7_sign 4 (some .int) (Cond.code yX7_sign cX7_sign 4 (some .int) :: BIG) (rmx fr lo) 1 6 2 := cwV 2 hB (goodV bg_30_10 bg_30_11 bg_30_12 bg_1_2 bg_30_13) rfl rfl rfl (by decide +kernel) hR
theorem cw_L_49 (hB : ∀ w ∈ BIG, w.before args s = true) (hR : fr + 1 ≤ R.frames ∧ 8 + (4 + 11) + lo ≤ R.locals) : CallW R s args RL RX7 49 yX7_session cX7_session 4 (some .long) (Cond.code yX7_session cX7_session 4 (some .long) :: BIG) (rmm fr lo) 0 0 2 := cwV 2 hB (goodV bg_30_21 bg_30_22 bg_30_23 bg_1_2 bg_31_0) rfl rfl rfl (by decide +kernel) hR
theorem cwx_L_49 (hB : ∀ w ∈ BIG, w.before args s = true) (hR : fr + 1 ≤ R.frames ∧ 8 + (4 + 11) + lo ≤ R.locals) : CallW R s args RL RX7 49 yX7_session cX7_session 4 (some .long) (Cond.code yX7_session cX7_session 4 (some .long) :: BIG) (rmx fr lo) 1 6 2 := cwV 2 hB (goodV bg_30_21 bg_30_22 bg_30_23 bg_1_2 bg_31_0) rfl rfl rfl (by decide +kernel) hR
theorem cw_L_53 (hB : ∀ w ∈ BIG, w.before args s = true) (hR : fr + 1 ≤ R.frames ∧ 8 + (2 + 11) + lo ≤ R.locals) : CallW R s args RL RX7 53 yX7_count cX7_count 2 (some .int) (Cond.code yX7_count cX7_count 2 (some .int) :: BIG) (rmm fr lo) 0 0 1 := cwV 1 hB (goodV bg_31_11 bg_31_12 bg_31_13 bg_1_2 bg_31_14) rfl rfl rfl (by decide +kernel) hR
theorem cwx_L_53 (hB : ∀ w ∈ BIG, w.before args s = true) (hR : fr + 1 ≤ R.frames ∧ 8 + (2 + 11) + lo ≤ R.locals) : CallW R s args RL RX7 53 yX7_count cX7_count 2 (some .int) (Cond.code yX7_count cX7_count 2 (some .int) :: BIG) (rmx fr lo) 1 6 1 := cwV 1 hB (goodV bg_31_11 bg_31_12 bg_31_13 bg_1_2 bg_31_14) rfl rfl rfl (by decide +kernel) hR
theorem cw_L_56 (hB : ∀ w ∈ BIG, w.before args s = true) (hR : fr + 1 ≤ R.frames ∧ 8 + (2 + 11) + lo ≤ R.locals) : CallW R s args RL RX7 56 yX7_octet cX7_octet 2 (some .int) (Cond.code yX7_octet cX7_octet 2 (some .int) :: BIG) (rmm fr lo) 0 0 1 := cwV 1 hB (goodV bg_32_7 bg_32_8 bg_32_9 bg_1_2 bg_32_10) rfl rfl rfl (by decide +kernel) hR
theorem cwx_L_56 (hB : ∀ w ∈ BIG, w.before args s = true) (hR : fr + 1 ≤ R.frames ∧ 8 + (2 + 11) + lo ≤ R.locals) : CallW R s args RL RX7 56 yX7_octet cX7_octet 2 (some .int) (Cond.code yX7_octet cX7_octet 2 (some .int) :: BIG) (rmx fr lo) 1 6 1 := cwV 1 hB (goodV bg_32_7 bg_32_8 bg_32_9 bg_1_2 bg_32_10) rfl rfl rfl (by decide +kernel) hR
theorem cw_L_65 (hB : ∀ w ∈ BIG, w.before args s = true) (hR : fr + 1 ≤ R.frames ∧ 8 + (3 + 11) + lo ≤ R.locals) : CallW R s args RL RX7 65 yX7_seed cX7_seed 3 none (Cond.code yX7_seed cX7_seed 3 none :: BIG) (rmm fr lo) 0 0 1 := cwV 1 hB (goodV bg_9_4 bg_9_5 bg_9_6 bg_1_2 bg_9_7) rfl rfl rfl (by decide +kernel) hR
theorem cwx_L_65 (hB : ∀ w ∈ BIG, w.before args s = true) (hR : fr + 1 ≤ R.frames ∧ 8 + (3 + 11) + lo ≤ R.locals) : CallW R s args RL RX7 65 yX7_seed cX7_seed 3 none (Cond.code yX7_seed cX7_seed 3 none :: BIG) (rmx fr lo) 1 6 1 := cwV 1 hB (goodV bg_9_4 bg_9_5 bg_9_6 bg_1_2 bg_9_7) rfl rfl rfl (by decide +kernel) hR
theorem cw_L_69 (hB : ∀ w ∈ BIG, w.before args s = true) (hR : fr + 1 ≤ R.frames ∧ 8 + (3 + 11) + lo ≤ R.locals) : CallW R s args RL RX8 69 yX8_seed cX8_seed 3 none (Cond.code yX8_seed cX8_seed 3 none :: BIG) (rmm fr lo) 0 0 1 := cwV 1 hB (goodV bg_9_11 bg_9_12 bg_9_13 bg_1_5 bg_9_14) rfl rfl rfl (by decide +kernel) hR
theorem cwx_L_69 (hB : ∀ w ∈ BIG, w.before args s = true) (hR : fr + 1 ≤ R.frames ∧ 8 + (3 + 11) + lo ≤ R.locals) : CallW R s args RL RX8 69 yX8_seed cX8_seed 3 none (Cond.code yX8_seed cX8_seed 3 none :: BIG) (rmx fr lo) 1 6 1 := cwV 1 hB (goodV bg_9_11 bg_9_12 bg_9_13 bg_1_5 bg_9_14) rfl rfl rfl (by decide +kernel) hR
theorem cw_L_70 (hB : ∀ w ∈ BIG, w.before args s = true) (hR : fr + 1 ≤ R.frames ∧ 8 + (5 + 11) + lo ≤ R.locals) : vx_CSW R s args RL 70 yL_pass cL_pass 5 (some .int) [(0, 8, 11, 13)] (Cond.codeWith yL_pass cL_pass 5 (some .int) [(0, 8, 11, 13)] :: BIG) (rmx fr lo) 1 6 3 := vx_cwSW 3 hB (goodW bg_9_18 bg_9_19 bg_9_20 bg_9_21) rfl rfl rfl (by decide +kernel) hR
theorem cw_L_75 (hB : ∀ w ∈ BIG, w.before args s = true) (hR : fr + 1 ≤ R.frames ∧ 8 + (3 + 11) + lo ≤ R.locals) : CallW R s args RL RX8 75 yX8_pass cX8_pass 3 (some .long) (Cond.code yX8_pass cX8_pass 3 (some .long) :: BIG) (rmm fr lo) 0 0 1 := cwV 1 hB (goodV bg_10_6 bg_10_7 bg_10_8 bg_1_5 bg_10_9) rfl rfl rfl (by decide +kernel) hR
theorem cwx_L_75 (hB : ∀ w ∈ BIG, w.before args s = true) (hR : fr + 1 ≤ R.frames ∧ 8 + (3 + 11) + lo ≤ R.locals) : CallW R s args RL RX8 75 yX8_pass cX8_pass 3 (some .long) (Cond.code yX8_pass cX8_pass 3 (some .long) :: BIG) (rmx fr lo) 1 6 1 := cwV 1 hB (goodV bg_10_6 bg_10_7 bg_10_8 bg_1_5 bg_10_9) rfl rfl rfl (by decide +kernel) hR
theorem cw_L_76 (hB : ∀ w ∈ BIG, w.before args s = true) (hR : fr + 1 ≤ R.frames ∧ 8 + (1 + 11) + lo ≤ R.locals) : CallW R s args RL RX8 76 yX8_thrown cX8_thrown 1 (some .int) (Cond.code yX8_thrown cX8_thrown 1 (some .int) :: BIG) (rmm fr lo) 0 0 0 := cwV 0 hB (goodV bg_10_19 bg_10_20 bg_10_21 bg_1_5 bg_10_22) rfl rfl rfl (by decide +kernel) hR
theorem cwx_L_76 (hB : ∀ w ∈ BIG, w.before args s = true) (hR : fr + 1 ≤ R.frames ∧ 8 + (1 + 11) + lo ≤ R.locals) : CallW R s args RL RX8 76 yX8_thrown cX8_thrown 1 (some .int) (Cond.code yX8_thrown cX8_thrown 1 (some .int) :: BIG) (rmx fr lo) 1 6 0 := cwV 0 hB (goodV bg_10_19 bg_10_20 bg_10_21 bg_1_5 bg_10_22) rfl rfl rfl (by decide +kernel) hR
theorem cw_L_80 (hB : ∀ w ∈ BIG, w.before args s = true) (hR : fr + 1 ≤ R.frames ∧ 8 + (8 + 11) + lo ≤ R.locals) : vx_CSW R s args RL 80 yL_limits cL_limits 8 (some .int) [(0, 8, 11, 13)] (Cond.codeWith yL_limits cL_limits 8 (some .int) [(0, 8, 11, 13)] :: BIG) (rmx fr lo) 1 6 4 := vx_cwSW 4 hB (goodW bg_10_23 bg_11_0 bg_9_20 bg_11_1) rfl rfl rfl (by decide +kernel) hR
theorem cw_L_83 (hB : ∀ w ∈ BIG, w.before args s = true) (hR : fr + 1 ≤ R.frames ∧ 8 + (9 + 11) + lo ≤ R.locals) : CallW R s args RL RX8 83 yX8_limits cX8_limits 9 none (Cond.code yX8_limits cX8_limits 9 none :: BIG) (rmm fr lo) 0 0 3 := cwV 3 hB (goodV bg_11_10 bg_11_11 bg_11_12 bg_1_5 bg_11_13) rfl rfl rfl (by decide +kernel) hR
theorem cwx_L_83 (hB : ∀ w ∈ BIG, w.before args s = true) (hR : fr + 1 ≤ R.frames ∧ 8 + (9 + 11) + lo ≤ R.locals) : CallW R s args RL RX8 83 yX8_limits cX8_limits 9 none (Cond.code yX8_limits cX8_limits 9 none :: BIG) (rmx fr lo) 1 6 3 := cwV 3 hB (goodV bg_11_10 bg_11_11 bg_11_12 bg_1_5 bg_11_13) rfl rfl rfl (by decide +kernel) hR
theorem cw_L_84 (hB : ∀ w ∈ BIG, w.before args s = true) (hR : fr + 1 ≤ R.frames ∧ 8 + (6 + 11) + lo ≤ R.locals) : CallW R s args RL RX7 84 yX7_change cX7_change 6 (some .int) (Cond.code yX7_change cX7_change 6 (some .int) :: BIG) (rmm fr lo) 0 0 4 := cwV 4 hB (goodV bg_11_15 bg_11_16 bg_11_17 bg_1_2 bg_11_18) rfl rfl rfl (by decide +kernel) hR
theorem cwx_L_84 (hB : ∀ w ∈ BIG, w.before args s = true) (hR : fr + 1 ≤ R.frames ∧ 8 + (6 + 11) + lo ≤ R.locals) : CallW R s args RL RX7 84 yX7_change cX7_change 6 (some .int) (Cond.code yX7_change cX7_change 6 (some .int) :: BIG) (rmx fr lo) 1 6 4 := cwV 4 hB (goodV bg_11_15 bg_11_16 bg_11_17 bg_1_2 bg_11_18) rfl rfl rfl (by decide +kernel) hR
theorem cw_L_88 (hB : ∀ w ∈ BIG, w.before args s = true) (hR : fr + 1 ≤ R.frames ∧ 8 + (7 + 11) + lo ≤ R.locals) : CallW R s args RL RX8 88 yX8_change cX8_change 7 (some .int) (Cond.code yX8_change cX8_change 7 (some .int) :: BIG) (rmm fr lo) 0 0 4 := cwV 4 hB (goodV bg_12_9 bg_12_10 bg_12_11 bg_1_5 bg_12_12) rfl rfl rfl (by decide +kernel) hR
theorem cwx_L_88 (hB : ∀ w ∈ BIG, w.before args s = true) (hR : fr + 1 ≤ R.frames ∧ 8 + (7 + 11) + lo ≤ R.locals) : CallW R s args RL RX8 88 yX8_change cX8_change 7 (some .int) (Cond.code yX8_change cX8_change 7 (some .int) :: BIG) (rmx fr lo) 1 6 4 := cwV 4 hB (goodV bg_12_9 bg_12_10 bg_12_11 bg_1_5 bg_12_12) rfl rfl rfl (by decide +kernel) hR
theorem cw_L_89 (hB : ∀ w ∈ BIG, w.before args s = true) (hR : fr + 1 ≤ R.frames ∧ 8 + (5 + 11) + lo ≤ R.locals) : vx_CSW R s args RL 89 yL_user cL_user 5 (some .int) [(0, 7, 10, 13)] (Cond.codeWith yL_user cL_user 5 (some .int) [(0, 7, 10, 13)] :: BIG) (rmx fr lo) 1 6 4 := vx_cwSW 4 hB (goodW bg_12_13 bg_12_14 bg_9_20 bg_12_15) rfl rfl rfl (by decide +kernel) hR
theorem cw_L_92 (hB : ∀ w ∈ BIG, w.before args s = true) (hR : fr + 1 ≤ R.frames ∧ 8 + (4 + 11) + lo ≤ R.locals) : CallW R s args RL RX8 92 yX8_user cX8_user 4 none (Cond.code yX8_user cX8_user 4 none :: BIG) (rmm fr lo) 0 0 3 := cwV 3 hB (goodV bg_13_3 bg_13_4 bg_13_5 bg_1_5 bg_13_6) rfl rfl rfl (by decide +kernel) hR
theorem cwx_L_92 (hB : ∀ w ∈ BIG, w.before args s = true) (hR : fr + 1 ≤ R.frames ∧ 8 + (4 + 11) + lo ≤ R.locals) : CallW R s args RL RX8 92 yX8_user cX8_user 4 none (Cond.code yX8_user cX8_user 4 none :: BIG) (rmx fr lo) 1 6 3 := cwV 3 hB (goodV bg_13_3 bg_13_4 bg_13_5 bg_1_5 bg_13_6) rfl rfl rfl (by decide +kernel) hR
theorem cw_L_93 (hB : ∀ w ∈ BIG, w.before args s = true) (hR : fr + 1 ≤ R.frames ∧ 8 + (6 + 11) + lo ≤ R.locals) : vx_CSW R s args RL 93 yL_login cL_login 6 (some .int) [(0, 12, 15, 13)] (Cond.codeWith yL_login cL_login 6 (some .int) [(0, 12, 15, 13)] :: BIG) (rmx fr lo) 1 6 5 := vx_cwSW 5 hB (goodW bg_13_8 bg_13_9 bg_9_20 bg_13_10) rfl rfl rfl (by decide +kernel) hR
theorem cw_L_96 (hB : ∀ w ∈ BIG, w.before args s = true) (hR : fr + 1 ≤ R.frames ∧ 8 + (6 + 11) + lo ≤ R.locals) : CallW R s args RL RX8 96 yX8_login cX8_login 6 (some .int) (Cond.code yX8_login cX8_login 6 (some .int) :: BIG) (rmm fr lo) 0 0 3 := cwV 3 hB (goodV bg_18_13 bg_18_14 bg_18_15 bg_1_5 bg_18_16) rfl rfl rfl (by decide +kernel) hR
theorem cwx_L_96 (hB : ∀ w ∈ BIG, w.before args s = true) (hR : fr + 1 ≤ R.frames ∧ 8 + (6 + 11) + lo ≤ R.locals) : CallW R s args RL RX8 96 yX8_login cX8_login 6 (some .int) (Cond.code yX8_login cX8_login 6 (some .int) :: BIG) (rmx fr lo) 1 6 3 := cwV 3 hB (goodV bg_18_13 bg_18_14 bg_18_15 bg_1_5 bg_18_16) rfl rfl rfl (by decide +kernel) hR
theorem cw_L_97 (hB : ∀ w ∈ BIG, w.before args s = true) (hR : fr + 1 ≤ R.frames ∧ 8 + (3 + 11) + lo ≤ R.locals) : CallW R s args RL RX7 97 yX7_request cX7_request 3 (some .int) (Cond.code yX7_request cX7_request 3 (some .int) :: BIG) (rmm fr lo) 0 0 1 := cwV 1 hB (goodV bg_21_6 bg_21_7 bg_21_8 bg_1_2 bg_21_9) rfl rfl rfl (by decide +kernel) hR
theorem cwx_L_97 (hB : ∀ w ∈ BIG, w.before args s = true) (hR : fr + 1 ≤ R.frames ∧ 8 + (3 + 11) + lo ≤ R.locals) : CallW R s args RL RX7 97 yX7_request cX7_request 3 (some .int) (Cond.code yX7_request cX7_request 3 (some .int) :: BIG) (rmx fr lo) 1 6 1 := cwV 1 hB (goodV bg_21_6 bg_21_7 bg_21_8 bg_1_2 bg_21_9) rfl rfl rfl (by decide +kernel) hR
theorem cw_L_101 (hB : ∀ w ∈ BIG, w.before args s = true) (hR : fr + 1 ≤ R.frames ∧ 8 + (3 + 11) + lo ≤ R.locals) : CallW R s args RL RX8 101 yX8_request cX8_request 3 (some .int) (Cond.code yX8_request cX8_request 3 (some .int) :: BIG) (rmm fr lo) 0 0 1 := cwV 1 hB (goodV bg_25_19 bg_25_20 bg_25_21 bg_1_5 bg_25_22) rfl rfl rfl (by decide +kernel) hR
theorem cwx_L_101 (hB : ∀ w ∈ BIG, w.before args s = true) (hR : fr + 1 ≤ R.frames ∧ 8 + (3 + 11) + lo ≤ R.locals) : CallW R s args RL RX8 101 yX8_request cX8_request 3 (some .int) (Cond.code yX8_request cX8_request 3 (some .int) :: BIG) (rmx fr lo) 1 6 1 := cwV 1 hB (goodV bg_25_19 bg_25_20 bg_25_21 bg_1_5 bg_25_22) rfl rfl rfl (by decide +kernel) hR
theorem cw_L_102 (hB : ∀ w ∈ BIG, w.before args s = true) (hR : fr + 1 ≤ R.frames ∧ 8 + (2 + 11) + lo ≤ R.locals) : CallW R s args RL RX7 102 yX7_logout cX7_logout 2 (some .int) (Cond.code yX7_logout cX7_logout 2 (some .int) :: BIG) (rmm fr lo) 0 0 0 := cwV 0 hB (goodV bg_26_18 bg_26_19 bg_26_20 bg_1_2 bg_26_21) rfl rfl rfl (by decide +kernel) hR
theorem cwx_L_102 (hB : ∀ w ∈ BIG, w.before args s = true) (hR : fr + 1 ≤ R.frames ∧ 8 + (2 + 11) + lo ≤ R.locals) : CallW R s args RL RX7 102 yX7_logout cX7_logout 2 (some .int) (Cond.code yX7_logout cX7_logout 2 (some .int) :: BIG) (rmx fr lo) 1 6 0 := cwV 0 hB (goodV bg_26_18 bg_26_19 bg_26_20 bg_1_2 bg_26_21) rfl rfl rfl (by decide +kernel) hR
theorem cw_L_105 (hB : ∀ w ∈ BIG, w.before args s = true) (hR : fr + 1 ≤ R.frames ∧ 8 + (2 + 11) + lo ≤ R.locals) : CallW R s args RL RX8 105 yX8_logout cX8_logout 2 (some .int) (Cond.code yX8_logout cX8_logout 2 (some .int) :: BIG) (rmm fr lo) 0 0 0 := cwV 0 hB (goodV bg_26_22 bg_26_23 bg_27_0 bg_1_5 bg_27_1) rfl rfl rfl (by decide +kernel) hR
theorem cwx_L_105 (hB : ∀ w ∈ BIG, w.before args s = true) (hR : fr + 1 ≤ R.frames ∧ 8 + (2 + 11) + lo ≤ R.locals) : CallW R s args RL RX8 105 yX8_logout cX8_logout 2 (some .int) (Cond.code yX8_logout cX8_logout 2 (some .int) :: BIG) (rmx fr lo) 1 6 0 := cwV 0 hB (goodV bg_26_22 bg_26_23 bg_27_0 bg_1_5 bg_27_1) rfl rfl rfl (by decide +kernel) hR
theorem cw_L_106 (hB : ∀ w ∈ BIG, w.before args s = true) (hR : fr + 1 ≤ R.frames ∧ 8 + (4 + 11) + lo ≤ R.locals) : vx_CSW R s args RL 106 yL_revoke cL_revoke 4 (some .int) [(0, 9, 12, 13)] (Cond.codeWith yL_revoke cL_revoke 4 (some .int) [(0, 9, 12, 13)] :: BIG) (rmx fr lo) 1 6 3 := vx_cwSW 3 hB (goodW bg_27_2 bg_27_3 bg_9_20 bg_27_4) rfl rfl rfl (by decide +kernel) hR
theorem cw_L_109 (hB : ∀ w ∈ BIG, w.before args s = true) (hR : fr + 1 ≤ R.frames ∧ 8 + (4 + 11) + lo ≤ R.locals) : CallW R s args RL RX8 109 yX8_revoke cX8_revoke 4 (some .int) (Cond.code yX8_revoke cX8_revoke 4 (some .int) :: BIG) (rmm fr lo) 0 0 1 := cwV 1 hB (goodV bg_27_9 bg_27_10 bg_27_11 bg_1_5 bg_27_12) rfl rfl rfl (by decide +kernel) hR
theorem cwx_L_109 (hB : ∀ w ∈ BIG, w.before args s = true) (hR : fr + 1 ≤ R.frames ∧ 8 + (4 + 11) + lo ≤ R.locals) : CallW R s args RL RX8 109 yX8_revoke cX8_revoke 4 (some .int) (Cond.code yX8_revoke cX8_revoke 4 (some .int) :: BIG) (rmx fr lo) 1 6 1 := cwV 1 hB (goodV bg_27_9 bg_27_10 bg_27_11 bg_1_5 bg_27_12) rfl rfl rfl (by decide +kernel) hR
theorem cw_L_110 (hB : ∀ w ∈ BIG, w.before args s = true) (hR : fr + 1 ≤ R.frames ∧ 8 + (8 + 11) + lo ≤ R.locals) : vx_CSW R s args RL 110 yL_type cL_type 8 (some .int) [(0, 16, 19, 13), (0, 16, 23, 35)] (Cond.codeWith yL_type cL_type 8 (some .int) [(0, 16, 19, 13), (0, 16, 23, 35)] :: BIG) (rmx fr lo) 1 6 7 := vx_cwSW 7 hB (goodW bg_27_13 bg_27_14 bg_9_20 bg_27_15) rfl rfl rfl (by decide +kernel) hR
theorem cw_L_113 (hB : ∀ w ∈ BIG, w.before args s = true) (hR : fr + 1 ≤ R.frames ∧ 8 + (8 + 11) + lo ≤ R.locals) : CallW R s args RL RX8 113 yX8_type cX8_type 8 (some .int) (Cond.code yX8_type cX8_type 8 (some .int) :: BIG) (rmm fr lo) 0 0 5 := cwV 5 hB (goodV bg_28_15 bg_28_16 bg_28_17 bg_1_5 bg_28_18) rfl rfl rfl (by decide +kernel) hR
theorem cwx_L_113 (hB : ∀ w ∈ BIG, w.before args s = true) (hR : fr + 1 ≤ R.frames ∧ 8 + (8 + 11) + lo ≤ R.locals) : CallW R s args RL RX8 113 yX8_type cX8_type 8 (some .int) (Cond.code yX8_type cX8_type 8 (some .int) :: BIG) (rmx fr lo) 1 6 5 := cwV 5 hB (goodV bg_28_15 bg_28_16 bg_28_17 bg_1_5 bg_28_18) rfl rfl rfl (by decide +kernel) hR
theorem cw_L_114 (hB : ∀ w ∈ BIG, w.before args s = true) (hR : fr + 1 ≤ R.frames ∧ 8 + (4 + 11) + lo ≤ R.locals) : vx_CSW R s args RL 114 yL_erase cL_erase 4 (some .int) [(0, 9, 12, 13)] (Cond.codeWith yL_erase cL_erase 4 (some .int) [(0, 9, 12, 13)] :: BIG) (rmx fr lo) 1 6 3 := vx_cwSW 3 hB (goodW bg_29_2 bg_29_3 bg_9_20 bg_29_4) rfl rfl rfl (by decide +kernel) hR
theorem cw_L_116 (hB : ∀ w ∈ BIG, w.before args s = true) (hR : fr + 1 ≤ R.frames ∧ 8 + (3 + 11) + lo ≤ R.locals) : CallW R s args RL RX8 116 yX8_erase cX8_erase 3 (some .int) (Cond.code yX8_erase cX8_erase 3 (some .int) :: BIG) (rmm fr lo) 0 0 1 := cwV 1 hB (goodV bg_29_9 bg_29_10 bg_29_11 bg_1_5 bg_29_12) rfl rfl rfl (by decide +kernel) hR
theorem cwx_L_116 (hB : ∀ w ∈ BIG, w.before args s = true) (hR : fr + 1 ≤ R.frames ∧ 8 + (3 + 11) + lo ≤ R.locals) : CallW R s args RL RX8 116 yX8_erase cX8_erase 3 (some .int) (Cond.code yX8_erase cX8_erase 3 (some .int) :: BIG) (rmx fr lo) 1 6 1 := cwV 1 hB (goodV bg_29_9 bg_29_10 bg_29_11 bg_1_5 bg_29_12) rfl rfl rfl (by decide +kernel) hR
theorem cw_L_117 (hB : ∀ w ∈ BIG, w.before args s = true) (hR : fr + 1 ≤ R.frames ∧ 8 + (6 + 11) + lo ≤ R.locals) : vx_CSW R s args RL 117 yL_put cL_put 6 (some .int) [(0, 12, 15, 13), (0, 12, 19, 43)] (Cond.codeWith yL_put cL_put 6 (some .int) [(0, 12, 15, 13), (0, 12, 19, 43)] :: BIG) (rmx fr lo) 1 6 5 := vx_cwSW 5 hB (goodW bg_29_13 bg_29_14 bg_9_20 bg_29_15) rfl rfl rfl (by decide +kernel) hR
theorem cw_L_119 (hB : ∀ w ∈ BIG, w.before args s = true) (hR : fr + 1 ≤ R.frames ∧ 8 + (6 + 11) + lo ≤ R.locals) : CallW R s args RL RX8 119 yX8_put cX8_put 6 (some .int) (Cond.code yX8_put cX8_put 6 (some .int) :: BIG) (rmm fr lo) 0 0 3 := cwV 3 hB (goodV bg_30_3 bg_30_4 bg_30_5 bg_1_5 bg_30_6) rfl rfl rfl (by decide +kernel) hR
theorem cwx_L_119 (hB : ∀ w ∈ BIG, w.before args s = true) (hR : fr + 1 ≤ R.frames ∧ 8 + (6 + 11) + lo ≤ R.locals) : CallW R s args RL RX8 119 yX8_put cX8_put 6 (some .int) (Cond.code yX8_put cX8_put 6 (some .int) :: BIG) (rmx fr lo) 1 6 3 := cwV 3 hB (goodV bg_30_3 bg_30_4 bg_30_5 bg_1_5 bg_30_6) rfl rfl rfl (by decide +kernel) hR
theorem cw_L_120 (hB : ∀ w ∈ BIG, w.before args s = true) (hR : fr + 1 ≤ R.frames ∧ 8 + (5 + 11) + lo ≤ R.locals) : vx_CSW R s args RL 120 yL_sign cL_sign 5 (some .int) [(0, 10, 13, 13)] (Cond.codeWith yL_sign cL_sign 5 (some .int) [(0, 10, 13, 13)] :: BIG) (rmx fr lo) 1 6 4 := vx_cwSW 4 hB (goodW bg_30_7 bg_30_8 bg_9_20 bg_30_9) rfl rfl rfl (by decide +kernel) hR
theorem cw_L_123 (hB : ∀ w ∈ BIG, w.before args s = true) (hR : fr + 1 ≤ R.frames ∧ 8 + (3 + 11) + lo ≤ R.locals) : CallW R s args RL RX8 123 yX8_sign cX8_sign 3 (some .int) (Cond.code yX8_sign cX8_sign 3 (some .int) :: BIG) (rmm fr lo) 0 0 2 := cwV 2 hB (goodV bg_30_14 bg_30_15 bg_30_16 bg_1_5 bg_30_17) rfl rfl rfl (by decide +kernel) hR
theorem cwx_L_123 (hB : ∀ w ∈ BIG, w.before args s = true) (hR : fr + 1 ≤ R.frames ∧ 8 + (3 + 11) + lo ≤ R.locals) : CallW R s args RL RX8 123 yX8_sign cX8_sign 3 (some .int) (Cond.code yX8_sign cX8_sign 3 (some .int) :: BIG) (rmx fr lo) 1 6 2 := cwV 2 hB (goodV bg_30_14 bg_30_15 bg_30_16 bg_1_5 bg_30_17) rfl rfl rfl (by decide +kernel) hR
theorem cw_L_124 (hB : ∀ w ∈ BIG, w.before args s = true) (hR : fr + 1 ≤ R.frames ∧ 8 + (5 + 11) + lo ≤ R.locals) : vx_CSW R s args RL 124 yL_session cL_session 5 (some .int) [(0, 9, 12, 13)] (Cond.codeWith yL_session cL_session 5 (some .int) [(0, 9, 12, 13)] :: BIG) (rmx fr lo) 1 6 4 := vx_cwSW 4 hB (goodW bg_30_18 bg_30_19 bg_9_20 bg_30_20) rfl rfl rfl (by decide +kernel) hR
theorem cw_L_126 (hB : ∀ w ∈ BIG, w.before args s = true) (hR : fr + 1 ≤ R.frames ∧ 8 + (3 + 11) + lo ≤ R.locals) : CallW R s args RL RX8 126 yX8_session cX8_session 3 (some .long) (Cond.code yX8_session cX8_session 3 (some .long) :: BIG) (rmm fr lo) 0 0 2 := cwV 2 hB (goodV bg_31_2 bg_31_3 bg_31_4 bg_1_5 bg_31_5) rfl rfl rfl (by decide +kernel) hR
theorem cwx_L_126 (hB : ∀ w ∈ BIG, w.before args s = true) (hR : fr + 1 ≤ R.frames ∧ 8 + (3 + 11) + lo ≤ R.locals) : CallW R s args RL RX8 126 yX8_session cX8_session 3 (some .long) (Cond.code yX8_session cX8_session 3 (some .long) :: BIG) (rmx fr lo) 1 6 2 := cwV 2 hB (goodV bg_31_2 bg_31_3 bg_31_4 bg_1_5 bg_31_5) rfl rfl rfl (by decide +kernel) hR
theorem cw_L_127 (hB : ∀ w ∈ BIG, w.before args s = true) (hR : fr + 1 ≤ R.frames ∧ 8 + (4 + 11) + lo ≤ R.locals) : vx_CSW R s args RL 127 yL_count cL_count 4 (some .int) [(0, 9, 12, 13)] (Cond.codeWith yL_count cL_count 4 (some .int) [(0, 9, 12, 13)] :: BIG) (rmx fr lo) 1 6 3 := vx_cwSW 3 hB (goodW bg_31_8 bg_31_9 bg_9_20 bg_31_10) rfl rfl rfl (by decide +kernel) hR
theorem cw_L_129 (hB : ∀ w ∈ BIG, w.before args s = true) (hR : fr + 1 ≤ R.frames ∧ 8 + (4 + 11) + lo ≤ R.locals) : CallW R s args RL RX8 129 yX8_count cX8_count 4 (some .int) (Cond.code yX8_count cX8_count 4 (some .int) :: BIG) (rmm fr lo) 0 0 1 := cwV 1 hB (goodV bg_31_23 bg_32_0 bg_32_1 bg_1_5 bg_32_2) rfl rfl rfl (by decide +kernel) hR
theorem cwx_L_129 (hB : ∀ w ∈ BIG, w.before args s = true) (hR : fr + 1 ≤ R.frames ∧ 8 + (4 + 11) + lo ≤ R.locals) : CallW R s args RL RX8 129 yX8_count cX8_count 4 (some .int) (Cond.code yX8_count cX8_count 4 (some .int) :: BIG) (rmx fr lo) 1 6 1 := cwV 1 hB (goodV bg_31_23 bg_32_0 bg_32_1 bg_1_5 bg_32_2) rfl rfl rfl (by decide +kernel) hR
theorem cw_L_130 (hB : ∀ w ∈ BIG, w.before args s = true) (hR : fr + 1 ≤ R.frames ∧ 8 + (4 + 11) + lo ≤ R.locals) : vx_CSW R s args RL 130 yL_octet cL_octet 4 (some .int) [(0, 9, 12, 13)] (Cond.codeWith yL_octet cL_octet 4 (some .int) [(0, 9, 12, 13)] :: BIG) (rmx fr lo) 1 6 3 := vx_cwSW 3 hB (goodW bg_32_4 bg_32_5 bg_9_20 bg_32_6) rfl rfl rfl (by decide +kernel) hR
theorem cw_L_132 (hB : ∀ w ∈ BIG, w.before args s = true) (hR : fr + 1 ≤ R.frames ∧ 8 + (3 + 11) + lo ≤ R.locals) : CallW R s args RL RX8 132 yX8_octet cX8_octet 3 (some .int) (Cond.code yX8_octet cX8_octet 3 (some .int) :: BIG) (rmm fr lo) 0 0 1 := cwV 1 hB (goodV bg_32_11 bg_32_12 bg_32_13 bg_1_5 bg_32_14) rfl rfl rfl (by decide +kernel) hR
theorem cwx_L_132 (hB : ∀ w ∈ BIG, w.before args s = true) (hR : fr + 1 ≤ R.frames ∧ 8 + (3 + 11) + lo ≤ R.locals) : CallW R s args RL RX8 132 yX8_octet cX8_octet 3 (some .int) (Cond.code yX8_octet cX8_octet 3 (some .int) :: BIG) (rmx fr lo) 1 6 1 := cwV 1 hB (goodV bg_32_11 bg_32_12 bg_32_13 bg_1_5 bg_32_14) rfl rfl rfl (by decide +kernel) hR
end WC
set_option maxHeartbeats 4000000 in
set_option maxRecDepth 100000 in
theorem w_pass (g : GG) (l : Launch) {fr lo : Nat} {S : Type} {post : Int64 → S → Prop} {WS : va_W} {WS' : S → va_W} {xp : String → Prop} {fs : List Value} (b oa : Nat) (x0 : Int64) (fo : Nat → Int64) (hM : Xt g l yX7_pass cX7_pass 3 (some .long) fr lo [.ref b, .long x0] WS (Rl g post WS') xp) (he : WS[0]? = some (b, .inr (6, fs))) (hxp : ∀ E, xp E → E = "java/lang/IllegalArgumentException") : Cw g l yL_pass cL_pass 5 [(0, 8, 11, 13)] (fr + 1) (8 + (3 + 11) + lo) [.ref b, .long x0, .ref oa] ([(oa, jA g 1 fo)] ++ WS) (Ri g (wrP post xp fo) (wrW g oa WS WS')) := by
  refine mkW (by decide) (Nat.le_of_ble_eq_true rfl) ?_
  intro p e s m args below meth c A ls QQ F hr hlk htb hQ hw hl
  have hx := F.1
  have hb := F.2.1
  replace hl : lv_has ls 5 [(0, .ref b), (1, .long x0), (3, .ref oa)] := hl
  refine lv_aload_n hx hb dL_pass_0 rfl (lv_at hl 2 rfl) ?_
  refine lv_iconst (v := nI 0) hx hb dL_pass_1 (by decide) ?_
  refine lv_aload_n hx hb dL_pass_2 rfl (lv_at hl 0 rfl) ?_
  refine lv_lload_n hx hb dL_pass_3 rfl (lv_at hl 1 rfl) ?_
  refine cx_lR hw (rx_VR F hw hM (cwx_L_7 F.2.2.2.2 ⟨Nat.le_refl _, Nat.le_refl _⟩) 0 he rfl rfl hl.1 rfl (Nat.le_of_ble_eq_true rfl) dL_pass_4 ⟨Nat.le_of_ble_eq_true rfl, Nat.le_of_ble_eq_true rfl⟩) (fun E ce q9 H locs hxE hw hq1 hq2 hq3 => ?_) (fun v u H locs hp hw => ?_)
  · obtain rfl := hxp E hxE
    refine vx_catch (own := RL) (name := "java/lang/IllegalArgumentException") F.2.2.2.1 [] (⟨0, 8, 11, 13⟩ : ExceptionTableEntry) [] (htb.trans rfl) (fun z hz => absurd hz List.not_mem_nil) rfl (by decide) (F.2.2.2.2 _ bg_9_22) (va_Nw.use rfl (hw.2.2.2.2.1.1 _ (List.mem_of_getElem? (i := 25) rfl))) hq1 hq2 hq3 ?_
    refine lv_astore (lv' := [(4, .ref q9), (0, .ref b), (1, .long x0), (3, .ref oa)]) hx hb dL_pass_11 hl (by decide) rfl (fun ls hl => ?_)
    refine lv_iconst (v := nI 1) hx hb dL_pass_13 (by decide) ?_
    exact rtw F hr hlk hQ hw (none, fo) ⟨rfl, Or.inl ⟨rfl, hxE⟩⟩ rfl dL_pass_14
  · refine ja_st F hw 0 rfl (by decide) (by decide) dL_pass_7 (fun H locs hw => ?_)
    replace hw : Wd g s A H locs ([(oa, jA g 1 (vp_updL fo 0 v))] ++ WS' u) := hw
    refine lv_goto (tgt := 15) hx hb dL_pass_8 (by decide) ?_
    refine lv_iconst (v := nI 0) hx hb dL_pass_15 (by decide) ?_
    exact rtw F hr hlk hQ hw (some u, vp_updL fo 0 v) ⟨rfl, _, hp, rfl⟩ rfl dL_pass_16
set_option maxHeartbeats 4000000 in
set_option maxRecDepth 100000 in
theorem w_limits (g : GG) (l : Launch) {fr lo : Nat} {S : Type} {post : S → Prop} {WS : va_W} {WS' : S → va_W} {xp : String → Prop} {fs : List Value} (b : Nat) (x0 : Int64) (x1 : Int64) (x2 : Int64) (hM : Xt g l yX7_limits cX7_limits 7 none fr lo [.ref b, .long x0, .long x1, .long x2] WS (Rv g post WS') xp) (he : WS[0]? = some (b, .inr (6, fs))) (hxp : ∀ E, xp E → E = "java/lang/IllegalArgumentException") : Cw g l yL_limits cL_limits 8 [(0, 8, 11, 13)] (fr + 1) (8 + (7 + 11) + lo) [.ref b, .long x0, .long x1, .long x2] ([] ++ WS) (Ri g (wrP0 post xp) (wrW0 WS WS')) := by
  refine mkW (by decide) (Nat.le_of_ble_eq_true rfl) ?_
  intro p e s m args below meth c A ls QQ F hr hlk htb hQ hw hl
  have hx := F.1
  have hb := F.2.1
  replace hl : lv_has ls 8 [(0, .ref b), (1, .long x0), (3, .long x1), (5, .long x2)] := hl
  refine lv_aload_n hx hb dL_limits_0 rfl (lv_at hl 0 rfl) ?_
  refine lv_lload_n hx hb dL_limits_1 rfl (lv_at hl 1 rfl) ?_
  refine lv_lload_n hx hb dL_limits_2 rfl (lv_at hl 2 rfl) ?_
  refine lv_lload hx hb dL_limits_3 (lv_at hl 3 rfl) ?_
  refine cx_vR hw (rx_VR F hw hM (cwx_L_15 F.2.2.2.2 ⟨Nat.le_refl _, Nat.le_refl _⟩) 0 he rfl rfl hl.1 rfl (Nat.le_of_ble_eq_true rfl) dL_limits_5 ⟨Nat.le_of_ble_eq_true rfl, Nat.le_of_ble_eq_true rfl⟩) (fun E ce q9 H locs hxE hw hq1 hq2 hq3 => ?_) (fun u H locs hp hw => ?_)
  · obtain rfl := hxp E hxE
    refine vx_catch (own := RL) (name := "java/lang/IllegalArgumentException") F.2.2.2.1 [] (⟨0, 8, 11, 13⟩ : ExceptionTableEntry) [] (htb.trans rfl) (fun z hz => absurd hz List.not_mem_nil) rfl (by decide) (F.2.2.2.2 _ bg_9_22) (va_Nw.use rfl (hw.2.2.2.2.1.1 _ (List.mem_of_getElem? (i := 25) rfl))) hq1 hq2 hq3 ?_
    refine lv_astore (lv' := [(7, .ref q9), (0, .ref b), (1, .long x0), (3, .long x1), (5, .long x2)]) hx hb dL_limits_11 hl (by decide) rfl (fun ls hl => ?_)
    refine lv_iconst (v := nI 1) hx hb dL_limits_13 (by decide) ?_
    exact rtw F hr hlk hQ hw none ⟨rfl, hxE⟩ rfl dL_limits_14
  · refine lv_goto (tgt := 15) hx hb dL_limits_8 (by decide) ?_
    refine lv_iconst (v := nI 0) hx hb dL_limits_15 (by decide) ?_
    exact rtw F hr hlk hQ hw (some u) ⟨rfl, hp⟩ rfl dL_limits_16
set_option maxHeartbeats 4000000 in
set_option maxRecDepth 100000 in
theorem w_user (g : GG) (l : Launch) {fr lo : Nat} {S : Type} {post : S → Prop} {WS : va_W} {WS' : S → va_W} {xp : String → Prop} {fs : List Value} (b : Nat) (x0 : Int32) (x1 : Int32) (x2 : Int32) (hM : Xt g l yX7_user cX7_user 4 none fr lo [.ref b, .int x0, .int x1, .int x2] WS (Rv g post WS') xp) (he : WS[0]? = some (b, .inr (6, fs))) (hxp : ∀ E, xp E → E = "java/lang/IllegalArgumentException") : Cw g l yL_user cL_user 5 [(0, 7, 10, 13)] (fr + 1) (8 + (4 + 11) + lo) [.ref b, .int x0, .int x1, .int x2] ([] ++ WS) (Ri g (wrP0 post xp) (wrW0 WS WS')) := by
  refine mkW (by decide) (Nat.le_of_ble_eq_true rfl) ?_
  intro p e s m args below meth c A ls QQ F hr hlk htb hQ hw hl
  have hx := F.1
  have hb := F.2.1
  replace hl : lv_has ls 5 [(0, .ref b), (1, .int x0), (2, .int x1), (3, .int x2)] := hl
  refine lv_aload_n hx hb dL_user_0 rfl (lv_at hl 0 rfl) ?_
  refine lv_iload_n hx hb dL_user_1 rfl (lv_at hl 1 rfl) ?_
  refine lv_iload_n hx hb dL_user_2 rfl (lv_at hl 2 rfl) ?_
  refine lv_iload_n hx hb dL_user_3 rfl (lv_at hl 3 rfl) ?_
  refine cx_vR hw (rx_VR F hw hM (cwx_L_19 F.2.2.2.2 ⟨Nat.le_refl _, Nat.le_refl _⟩) 0 he rfl rfl hl.1 rfl (Nat.le_of_ble_eq_true rfl) dL_user_4 ⟨Nat.le_of_ble_eq_true rfl, Nat.le_of_ble_eq_true rfl⟩) (fun E ce q9 H locs hxE hw hq1 hq2 hq3 => ?_) (fun u H locs hp hw => ?_)
  · obtain rfl := hxp E hxE
    refine vx_catch (own := RL) (name := "java/lang/IllegalArgumentException") F.2.2.2.1 [] (⟨0, 7, 10, 13⟩ : ExceptionTableEntry) [] (htb.trans rfl) (fun z hz => absurd hz List.not_mem_nil) rfl (by decide) (F.2.2.2.2 _ bg_9_22) (va_Nw.use rfl (hw.2.2.2.2.1.1 _ (List.mem_of_getElem? (i := 25) rfl))) hq1 hq2 hq3 ?_
    refine lv_astore (lv' := [(4, .ref q9), (0, .ref b), (1, .int x0), (2, .int x1), (3, .int x2)]) hx hb dL_user_10 hl (by decide) rfl (fun ls hl => ?_)
    refine lv_iconst (v := nI 1) hx hb dL_user_12 (by decide) ?_
    exact rtw F hr hlk hQ hw none ⟨rfl, hxE⟩ rfl dL_user_13
  · refine lv_goto (tgt := 14) hx hb dL_user_7 (by decide) ?_
    refine lv_iconst (v := nI 0) hx hb dL_user_14 (by decide) ?_
    exact rtw F hr hlk hQ hw (some u) ⟨rfl, hp⟩ rfl dL_user_15
set_option maxHeartbeats 4000000 in
set_option maxRecDepth 100000 in
theorem w_login (g : GG) (l : Launch) {fr lo : Nat} {S : Type} {post : Int32 → S → Prop} {WS : va_W} {WS' : S → va_W} {xp : String → Prop} {fs : List Value} (b oa : Nat) (x0 : Int32) (x1 : Int32) (x2 : Int32) (fo : Nat → Int64) (hM : Xt g l yX7_login cX7_login 5 (some .int) fr lo [.ref b, .int x0, .int x1, .int x2] WS (Ri g post WS') xp) (he : WS[0]? = some (b, .inr (6, fs))) (hxp : ∀ E, xp E → E = "java/lang/IllegalArgumentException") : Cw g l yL_login cL_login 6 [(0, 12, 15, 13)] (fr + 1) (8 + (5 + 11) + lo) [.ref b, .int x0, .int x1, .int x2, .ref oa] ([(oa, jA g 1 fo)] ++ WS) (Ri g (wrP (fun (r : Int64) (w : S) => ∃ r0, post r0 w ∧ r = r0.toInt64) xp fo) (wrW g oa WS WS')) := by
  refine mkW (by decide) (Nat.le_of_ble_eq_true rfl) ?_
  intro p e s m args below meth c A ls QQ F hr hlk htb hQ hw hl
  have hx := F.1
  have hb := F.2.1
  replace hl : lv_has ls 6 [(0, .ref b), (1, .int x0), (2, .int x1), (3, .int x2), (4, .ref oa)] := hl
  refine lv_aload hx hb dL_login_0 (lv_at hl 4 rfl) ?_
  refine lv_iconst (v := nI 0) hx hb dL_login_2 (by decide) ?_
  refine lv_aload_n hx hb dL_login_3 rfl (lv_at hl 0 rfl) ?_
  refine lv_iload_n hx hb dL_login_4 rfl (lv_at hl 1 rfl) ?_
  refine lv_iload_n hx hb dL_login_5 rfl (lv_at hl 2 rfl) ?_
  refine lv_iload_n hx hb dL_login_6 rfl (lv_at hl 3 rfl) ?_
  refine cx_iR hw (rx_VR F hw hM (cwx_L_23 F.2.2.2.2 ⟨Nat.le_refl _, Nat.le_refl _⟩) 0 he rfl rfl hl.1 rfl (Nat.le_of_ble_eq_true rfl) dL_login_7 ⟨Nat.le_of_ble_eq_true rfl, Nat.le_of_ble_eq_true rfl⟩) (fun E ce q9 H locs hxE hw hq1 hq2 hq3 => ?_) (fun v u H locs hp hw => ?_)
  · obtain rfl := hxp E hxE
    refine vx_catch (own := RL) (name := "java/lang/IllegalArgumentException") F.2.2.2.1 [] (⟨0, 12, 15, 13⟩ : ExceptionTableEntry) [] (htb.trans rfl) (fun z hz => absurd hz List.not_mem_nil) rfl (by decide) (F.2.2.2.2 _ bg_9_22) (va_Nw.use rfl (hw.2.2.2.2.1.1 _ (List.mem_of_getElem? (i := 25) rfl))) hq1 hq2 hq3 ?_
    refine lv_astore (lv' := [(5, .ref q9), (0, .ref b), (1, .int x0), (2, .int x1), (3, .int x2), (4, .ref oa)]) hx hb dL_login_15 hl (by decide) rfl (fun ls hl => ?_)
    refine lv_iconst (v := nI 1) hx hb dL_login_17 (by decide) ?_
    exact rtw F hr hlk hQ hw (none, fo) ⟨rfl, Or.inl ⟨rfl, hxE⟩⟩ rfl dL_login_18
  · refine lv_i2l (v := (v).toInt64) hx hb dL_login_10 rfl ?_
    refine ja_st F hw 0 rfl (by decide) (by decide) dL_login_11 (fun H locs hw => ?_)
    replace hw : Wd g s A H locs ([(oa, jA g 1 (vp_updL fo 0 (v).toInt64))] ++ WS' u) := hw
    refine lv_goto (tgt := 19) hx hb dL_login_12 (by decide) ?_
    refine lv_iconst (v := nI 0) hx hb dL_login_19 (by decide) ?_
    exact rtw F hr hlk hQ hw (some u, vp_updL fo 0 (v).toInt64) ⟨rfl, _, ⟨v, hp, rfl⟩, rfl⟩ rfl dL_login_20
set_option maxHeartbeats 4000000 in
set_option maxRecDepth 100000 in
theorem w_revoke (g : GG) (l : Launch) {fr lo : Nat} {S : Type} {post : Int32 → S → Prop} {WS : va_W} {WS' : S → va_W} {xp : String → Prop} {fs : List Value} (b oa : Nat) (x0 : Int32) (fo : Nat → Int64) (hM : Xt g l yX7_revoke cX7_revoke 4 (some .int) fr lo [.ref b, .int x0] WS (Ri g post WS') xp) (he : WS[0]? = some (b, .inr (6, fs))) (hxp : ∀ E, xp E → E = "java/lang/IllegalArgumentException") : Cw g l yL_revoke cL_revoke 4 [(0, 9, 12, 13)] (fr + 1) (8 + (4 + 11) + lo) [.ref b, .int x0, .ref oa] ([(oa, jA g 1 fo)] ++ WS) (Ri g (wrP (fun (r : Int64) (w : S) => ∃ r0, post r0 w ∧ r = r0.toInt64) xp fo) (wrW g oa WS WS')) := by
  refine mkW (by decide) (Nat.le_of_ble_eq_true rfl) ?_
  intro p e s m args below meth c A ls QQ F hr hlk htb hQ hw hl
  have hx := F.1
  have hb := F.2.1
  replace hl : lv_has ls 4 [(0, .ref b), (1, .int x0), (2, .ref oa)] := hl
  refine lv_aload_n hx hb dL_revoke_0 rfl (lv_at hl 2 rfl) ?_
  refine lv_iconst (v := nI 0) hx hb dL_revoke_1 (by decide) ?_
  refine lv_aload_n hx hb dL_revoke_2 rfl (lv_at hl 0 rfl) ?_
  refine lv_iload_n hx hb dL_revoke_3 rfl (lv_at hl 1 rfl) ?_
  refine cx_iR hw (rx_VR F hw hM (cwx_L_27 F.2.2.2.2 ⟨Nat.le_refl _, Nat.le_refl _⟩) 0 he rfl rfl hl.1 rfl (Nat.le_of_ble_eq_true rfl) dL_revoke_4 ⟨Nat.le_of_ble_eq_true rfl, Nat.le_of_ble_eq_true rfl⟩) (fun E ce q9 H locs hxE hw hq1 hq2 hq3 => ?_) (fun v u H locs hp hw => ?_)
  · obtain rfl := hxp E hxE
    refine vx_catch (own := RL) (name := "java/lang/IllegalArgumentException") F.2.2.2.1 [] (⟨0, 9, 12, 13⟩ : ExceptionTableEntry) [] (htb.trans rfl) (fun z hz => absurd hz List.not_mem_nil) rfl (by decide) (F.2.2.2.2 _ bg_9_22) (va_Nw.use rfl (hw.2.2.2.2.1.1 _ (List.mem_of_getElem? (i := 25) rfl))) hq1 hq2 hq3 ?_
    refine lv_astore_n (lv' := [(3, .ref q9), (0, .ref b), (1, .int x0), (2, .ref oa)]) hx hb dL_revoke_12 rfl hl (by decide) rfl (fun ls hl => ?_)
    refine lv_iconst (v := nI 1) hx hb dL_revoke_13 (by decide) ?_
    exact rtw F hr hlk hQ hw (none, fo) ⟨rfl, Or.inl ⟨rfl, hxE⟩⟩ rfl dL_revoke_14
  · refine lv_i2l (v := (v).toInt64) hx hb dL_revoke_7 rfl ?_
    refine ja_st F hw 0 rfl (by decide) (by decide) dL_revoke_8 (fun H locs hw => ?_)
    replace hw : Wd g s A H locs ([(oa, jA g 1 (vp_updL fo 0 (v).toInt64))] ++ WS' u) := hw
    refine lv_goto (tgt := 15) hx hb dL_revoke_9 (by decide) ?_
    refine lv_iconst (v := nI 0) hx hb dL_revoke_15 (by decide) ?_
    exact rtw F hr hlk hQ hw (some u, vp_updL fo 0 (v).toInt64) ⟨rfl, _, ⟨v, hp, rfl⟩, rfl⟩ rfl dL_revoke_16
set_option maxHeartbeats 4000000 in
set_option maxRecDepth 100000 in
theorem w_type (g : GG) (l : Launch) {fr lo : Nat} {S : Type} {post : Int32 → S → Prop} {WS : va_W} {WS' : S → va_W} {xp : String → Prop} {fs : List Value} (b oa : Nat) (x0 : Int32) (x1 : Int32) (x2 : Int32) (x3 : Int32) (x4 : Int32) (fo : Nat → Int64) (hM : Xt g l yX7_type cX7_type 8 (some .int) fr lo [.ref b, .int x0, .int x1, .int x2, .int x3, .int x4] WS (Ri g post WS') xp) (he : WS[0]? = some (b, .inr (6, fs))) (hxp : ∀ E, xp E → E = "java/lang/IllegalArgumentException" ∨ E = "java/lang/IllegalStateException") : Cw g l yL_type cL_type 8 [(0, 16, 19, 13), (0, 16, 23, 35)] (fr + 1) (8 + (8 + 11) + lo) [.ref b, .int x0, .int x1, .int x2, .int x3, .int x4, .ref oa] ([(oa, jA g 1 fo)] ++ WS) (Ri g (wrP (fun (r : Int64) (w : S) => ∃ r0, post r0 w ∧ r = r0.toInt64) xp fo) (wrW g oa WS WS')) := by
  refine mkW (by decide) (Nat.le_of_ble_eq_true rfl) ?_
  intro p e s m args below meth c A ls QQ F hr hlk htb hQ hw hl
  have hx := F.1
  have hb := F.2.1
  replace hl : lv_has ls 8 [(0, .ref b), (1, .int x0), (2, .int x1), (3, .int x2), (4, .int x3), (5, .int x4), (6, .ref oa)] := hl
  refine lv_aload hx hb dL_type_0 (lv_at hl 6 rfl) ?_
  refine lv_iconst (v := nI 0) hx hb dL_type_2 (by decide) ?_
  refine lv_aload_n hx hb dL_type_3 rfl (lv_at hl 0 rfl) ?_
  refine lv_iload_n hx hb dL_type_4 rfl (lv_at hl 1 rfl) ?_
  refine lv_iload_n hx hb dL_type_5 rfl (lv_at hl 2 rfl) ?_
  refine lv_iload_n hx hb dL_type_6 rfl (lv_at hl 3 rfl) ?_
  refine lv_iload hx hb dL_type_7 (lv_at hl 4 rfl) ?_
  refine lv_iload hx hb dL_type_9 (lv_at hl 5 rfl) ?_
  refine cx_iR hw (rx_VR F hw hM (cwx_L_31 F.2.2.2.2 ⟨Nat.le_refl _, Nat.le_refl _⟩) 0 he rfl rfl hl.1 rfl (Nat.le_of_ble_eq_true rfl) dL_type_11 ⟨Nat.le_of_ble_eq_true rfl, Nat.le_of_ble_eq_true rfl⟩) (fun E ce q9 H locs hxE hw hq1 hq2 hq3 => ?_) (fun v u H locs hp hw => ?_)
  · rcases hxp E hxE with rfl | rfl
    · refine vx_catch (own := RL) (name := "java/lang/IllegalArgumentException") F.2.2.2.1 [] (⟨0, 16, 19, 13⟩ : ExceptionTableEntry) [(⟨0, 16, 23, 35⟩ : ExceptionTableEntry)] (htb.trans rfl) (fun z hz => absurd hz List.not_mem_nil) rfl (by decide) (F.2.2.2.2 _ bg_9_22) (va_Nw.use rfl (hw.2.2.2.2.1.1 _ (List.mem_of_getElem? (i := 25) rfl))) hq1 hq2 hq3 ?_
      refine lv_astore (lv' := [(7, .ref q9), (0, .ref b), (1, .int x0), (2, .int x1), (3, .int x2), (4, .int x3), (5, .int x4), (6, .ref oa)]) hx hb dL_type_19 hl (by decide) rfl (fun ls hl => ?_)
      refine lv_iconst (v := nI 1) hx hb dL_type_21 (by decide) ?_
      exact rtw F hr hlk hQ hw (none, fo) ⟨rfl, Or.inl ⟨rfl, hxE⟩⟩ rfl dL_type_22
    · refine vx_catch (own := RL) (name := "java/lang/IllegalStateException") F.2.2.2.1 [(⟨0, 16, 19, 13⟩ : ExceptionTableEntry)] (⟨0, 16, 23, 35⟩ : ExceptionTableEntry) [] (htb.trans rfl) (fun z hz => Or.inr (by obtain rfl := List.mem_singleton.mp hz; exact ⟨by decide, "java/lang/IllegalArgumentException", F.2.2.2.2 _ bg_9_22, hw.2.2.2.2.1.2.2.2.2.2.2.2.2.2.2.2.2.2.2.1⟩)) rfl (by decide) (F.2.2.2.2 _ bg_27_16) (va_Nw.use rfl (hw.2.2.2.2.1.1 _ (List.mem_of_getElem? (i := 26) rfl))) hq1 hq2 hq3 ?_
      refine lv_astore (lv' := [(7, .ref q9), (0, .ref b), (1, .int x0), (2, .int x1), (3, .int x2), (4, .int x3), (5, .int x4), (6, .ref oa)]) hx hb dL_type_23 hl (by decide) rfl (fun ls hl => ?_)
      refine lv_iconst (v := nI 2) hx hb dL_type_25 (by decide) ?_
      exact rtw F hr hlk hQ hw (none, fo) ⟨rfl, Or.inr ⟨rfl, Or.inl hxE⟩⟩ rfl dL_type_26
  · refine lv_i2l (v := (v).toInt64) hx hb dL_type_14 rfl ?_
    refine ja_st F hw 0 rfl (by decide) (by decide) dL_type_15 (fun H locs hw => ?_)
    replace hw : Wd g s A H locs ([(oa, jA g 1 (vp_updL fo 0 (v).toInt64))] ++ WS' u) := hw
    refine lv_goto (tgt := 27) hx hb dL_type_16 (by decide) ?_
    refine lv_iconst (v := nI 0) hx hb dL_type_27 (by decide) ?_
    exact rtw F hr hlk hQ hw (some u, vp_updL fo 0 (v).toInt64) ⟨rfl, _, ⟨v, hp, rfl⟩, rfl⟩ rfl dL_type_28
set_option maxHeartbeats 4000000 in
set_option maxRecDepth 100000 in
theorem w_erase (g : GG) (l : Launch) {fr lo : Nat} {S : Type} {post : Int32 → S → Prop} {WS : va_W} {WS' : S → va_W} {xp : String → Prop} {fs : List Value} (b oa : Nat) (x0 : Int32) (fo : Nat → Int64) (hM : Xt g l yX7_erase cX7_erase 4 (some .int) fr lo [.ref b, .int x0] WS (Ri g post WS') xp) (he : WS[0]? = some (b, .inr (6, fs))) (hxp : ∀ E, xp E → E = "java/lang/IllegalArgumentException") : Cw g l yL_erase cL_erase 4 [(0, 9, 12, 13)] (fr + 1) (8 + (4 + 11) + lo) [.ref b, .int x0, .ref oa] ([(oa, jA g 1 fo)] ++ WS) (Ri g (wrP (fun (r : Int64) (w : S) => ∃ r0, post r0 w ∧ r = r0.toInt64) xp fo) (wrW g oa WS WS')) := by
  refine mkW (by decide) (Nat.le_of_ble_eq_true rfl) ?_
  intro p e s m args below meth c A ls QQ F hr hlk htb hQ hw hl
  have hx := F.1
  have hb := F.2.1
  replace hl : lv_has ls 4 [(0, .ref b), (1, .int x0), (2, .ref oa)] := hl
  refine lv_aload_n hx hb dL_erase_0 rfl (lv_at hl 2 rfl) ?_
  refine lv_iconst (v := nI 0) hx hb dL_erase_1 (by decide) ?_
  refine lv_aload_n hx hb dL_erase_2 rfl (lv_at hl 0 rfl) ?_
  refine lv_iload_n hx hb dL_erase_3 rfl (lv_at hl 1 rfl) ?_
  refine cx_iR hw (rx_VR F hw hM (cwx_L_37 F.2.2.2.2 ⟨Nat.le_refl _, Nat.le_refl _⟩) 0 he rfl rfl hl.1 rfl (Nat.le_of_ble_eq_true rfl) dL_erase_4 ⟨Nat.le_of_ble_eq_true rfl, Nat.le_of_ble_eq_true rfl⟩) (fun E ce q9 H locs hxE hw hq1 hq2 hq3 => ?_) (fun v u H locs hp hw => ?_)
  · obtain rfl := hxp E hxE
    refine vx_catch (own := RL) (name := "java/lang/IllegalArgumentException") F.2.2.2.1 [] (⟨0, 9, 12, 13⟩ : ExceptionTableEntry) [] (htb.trans rfl) (fun z hz => absurd hz List.not_mem_nil) rfl (by decide) (F.2.2.2.2 _ bg_9_22) (va_Nw.use rfl (hw.2.2.2.2.1.1 _ (List.mem_of_getElem? (i := 25) rfl))) hq1 hq2 hq3 ?_
    refine lv_astore_n (lv' := [(3, .ref q9), (0, .ref b), (1, .int x0), (2, .ref oa)]) hx hb dL_erase_12 rfl hl (by decide) rfl (fun ls hl => ?_)
    refine lv_iconst (v := nI 1) hx hb dL_erase_13 (by decide) ?_
    exact rtw F hr hlk hQ hw (none, fo) ⟨rfl, Or.inl ⟨rfl, hxE⟩⟩ rfl dL_erase_14
  · refine lv_i2l (v := (v).toInt64) hx hb dL_erase_7 rfl ?_
    refine ja_st F hw 0 rfl (by decide) (by decide) dL_erase_8 (fun H locs hw => ?_)
    replace hw : Wd g s A H locs ([(oa, jA g 1 (vp_updL fo 0 (v).toInt64))] ++ WS' u) := hw
    refine lv_goto (tgt := 15) hx hb dL_erase_9 (by decide) ?_
    refine lv_iconst (v := nI 0) hx hb dL_erase_15 (by decide) ?_
    exact rtw F hr hlk hQ hw (some u, vp_updL fo 0 (v).toInt64) ⟨rfl, _, ⟨v, hp, rfl⟩, rfl⟩ rfl dL_erase_16
set_option maxHeartbeats 4000000 in
set_option maxRecDepth 100000 in
theorem w_put (g : GG) (l : Launch) {fr lo : Nat} {S : Type} {post : Int32 → S → Prop} {WS : va_W} {WS' : S → va_W} {xp : String → Prop} {fs : List Value} (b oa : Nat) (x0 : Int32) (x1 : Int32) (x2 : Int32) (fo : Nat → Int64) (hM : Xt g l yX7_put cX7_put 6 (some .int) fr lo [.ref b, .int x0, .int x1, .int x2] WS (Ri g post WS') xp) (he : WS[0]? = some (b, .inr (6, fs))) (hxp : ∀ E, xp E → E = "java/lang/IllegalArgumentException" ∨ E = "java/lang/IndexOutOfBoundsException") : Cw g l yL_put cL_put 6 [(0, 12, 15, 13), (0, 12, 19, 43)] (fr + 1) (8 + (6 + 11) + lo) [.ref b, .int x0, .int x1, .int x2, .ref oa] ([(oa, jA g 1 fo)] ++ WS) (Ri g (wrP (fun (r : Int64) (w : S) => ∃ r0, post r0 w ∧ r = r0.toInt64) xp fo) (wrW g oa WS WS')) := by
  refine mkW (by decide) (Nat.le_of_ble_eq_true rfl) ?_
  intro p e s m args below meth c A ls QQ F hr hlk htb hQ hw hl
  have hx := F.1
  have hb := F.2.1
  replace hl : lv_has ls 6 [(0, .ref b), (1, .int x0), (2, .int x1), (3, .int x2), (4, .ref oa)] := hl
  refine lv_aload hx hb dL_put_0 (lv_at hl 4 rfl) ?_
  refine lv_iconst (v := nI 0) hx hb dL_put_2 (by decide) ?_
  refine lv_aload_n hx hb dL_put_3 rfl (lv_at hl 0 rfl) ?_
  refine lv_iload_n hx hb dL_put_4 rfl (lv_at hl 1 rfl) ?_
  refine lv_iload_n hx hb dL_put_5 rfl (lv_at hl 2 rfl) ?_
  refine lv_iload_n hx hb dL_put_6 rfl (lv_at hl 3 rfl) ?_
  refine cx_iR hw (rx_VR F hw hM (cwx_L_40 F.2.2.2.2 ⟨Nat.le_refl _, Nat.le_refl _⟩) 0 he rfl rfl hl.1 rfl (Nat.le_of_ble_eq_true rfl) dL_put_7 ⟨Nat.le_of_ble_eq_true rfl, Nat.le_of_ble_eq_true rfl⟩) (fun E ce q9 H locs hxE hw hq1 hq2 hq3 => ?_) (fun v u H locs hp hw => ?_)
  · rcases hxp E hxE with rfl | rfl
    · refine vx_catch (own := RL) (name := "java/lang/IllegalArgumentException") F.2.2.2.1 [] (⟨0, 12, 15, 13⟩ : ExceptionTableEntry) [(⟨0, 12, 19, 43⟩ : ExceptionTableEntry)] (htb.trans rfl) (fun z hz => absurd hz List.not_mem_nil) rfl (by decide) (F.2.2.2.2 _ bg_9_22) (va_Nw.use rfl (hw.2.2.2.2.1.1 _ (List.mem_of_getElem? (i := 25) rfl))) hq1 hq2 hq3 ?_
      refine lv_astore (lv' := [(5, .ref q9), (0, .ref b), (1, .int x0), (2, .int x1), (3, .int x2), (4, .ref oa)]) hx hb dL_put_15 hl (by decide) rfl (fun ls hl => ?_)
      refine lv_iconst (v := nI 1) hx hb dL_put_17 (by decide) ?_
      exact rtw F hr hlk hQ hw (none, fo) ⟨rfl, Or.inl ⟨rfl, hxE⟩⟩ rfl dL_put_18
    · refine vx_catch (own := RL) (name := "java/lang/IndexOutOfBoundsException") F.2.2.2.1 [(⟨0, 12, 15, 13⟩ : ExceptionTableEntry)] (⟨0, 12, 19, 43⟩ : ExceptionTableEntry) [] (htb.trans rfl) (fun z hz => Or.inr (by obtain rfl := List.mem_singleton.mp hz; exact ⟨by decide, "java/lang/IllegalArgumentException", F.2.2.2.2 _ bg_9_22, hw.2.2.2.2.1.2.2.2.2.2.2.2.2.2.2.2.2.2.2.2⟩)) rfl (by decide) (F.2.2.2.2 _ bg_29_16) (va_Nw.use rfl (hw.2.2.2.2.1.1 _ (List.mem_of_getElem? (i := 27) rfl))) hq1 hq2 hq3 ?_
      refine lv_astore (lv' := [(5, .ref q9), (0, .ref b), (1, .int x0), (2, .int x1), (3, .int x2), (4, .ref oa)]) hx hb dL_put_19 hl (by decide) rfl (fun ls hl => ?_)
      refine lv_iconst (v := nI 2) hx hb dL_put_21 (by decide) ?_
      exact rtw F hr hlk hQ hw (none, fo) ⟨rfl, Or.inr ⟨rfl, Or.inr hxE⟩⟩ rfl dL_put_22
  · refine lv_i2l (v := (v).toInt64) hx hb dL_put_10 rfl ?_
    refine ja_st F hw 0 rfl (by decide) (by decide) dL_put_11 (fun H locs hw => ?_)
    replace hw : Wd g s A H locs ([(oa, jA g 1 (vp_updL fo 0 (v).toInt64))] ++ WS' u) := hw
    refine lv_goto (tgt := 23) hx hb dL_put_12 (by decide) ?_
    refine lv_iconst (v := nI 0) hx hb dL_put_23 (by decide) ?_
    exact rtw F hr hlk hQ hw (some u, vp_updL fo 0 (v).toInt64) ⟨rfl, _, ⟨v, hp, rfl⟩, rfl⟩ rfl dL_put_24
set_option maxHeartbeats 4000000 in
set_option maxRecDepth 100000 in
theorem w_sign (g : GG) (l : Launch) {fr lo : Nat} {S : Type} {post : Int32 → S → Prop} {WS : va_W} {WS' : S → va_W} {xp : String → Prop} {fs : List Value} (b oa : Nat) (x0 : Int32) (x1 : Int32) (fo : Nat → Int64) (hM : Xt g l yX7_sign cX7_sign 4 (some .int) fr lo [.ref b, .int x0, .int x1] WS (Ri g post WS') xp) (he : WS[0]? = some (b, .inr (6, fs))) (hxp : ∀ E, xp E → E = "java/lang/IllegalArgumentException") : Cw g l yL_sign cL_sign 5 [(0, 10, 13, 13)] (fr + 1) (8 + (4 + 11) + lo) [.ref b, .int x0, .int x1, .ref oa] ([(oa, jA g 1 fo)] ++ WS) (Ri g (wrP (fun (r : Int64) (w : S) => ∃ r0, post r0 w ∧ r = r0.toInt64) xp fo) (wrW g oa WS WS')) := by
  refine mkW (by decide) (Nat.le_of_ble_eq_true rfl) ?_
  intro p e s m args below meth c A ls QQ F hr hlk htb hQ hw hl
  have hx := F.1
  have hb := F.2.1
  replace hl : lv_has ls 5 [(0, .ref b), (1, .int x0), (2, .int x1), (3, .ref oa)] := hl
  refine lv_aload_n hx hb dL_sign_0 rfl (lv_at hl 3 rfl) ?_
  refine lv_iconst (v := nI 0) hx hb dL_sign_1 (by decide) ?_
  refine lv_aload_n hx hb dL_sign_2 rfl (lv_at hl 0 rfl) ?_
  refine lv_iload_n hx hb dL_sign_3 rfl (lv_at hl 1 rfl) ?_
  refine lv_iload_n hx hb dL_sign_4 rfl (lv_at hl 2 rfl) ?_
  refine cx_iR hw (rx_VR F hw hM (cwx_L_45 F.2.2.2.2 ⟨Nat.le_refl _, Nat.le_refl _⟩) 0 he rfl rfl hl.1 rfl (Nat.le_of_ble_eq_true rfl) dL_sign_5 ⟨Nat.le_of_ble_eq_true rfl, Nat.le_of_ble_eq_true rfl⟩) (fun E ce q9 H locs hxE hw hq1 hq2 hq3 => ?_) (fun v u H locs hp hw => ?_)
  · obtain rfl := hxp E hxE
    refine vx_catch (own := RL) (name := "java/lang/IllegalArgumentException") F.2.2.2.1 [] (⟨0, 10, 13, 13⟩ : ExceptionTableEntry) [] (htb.trans rfl) (fun z hz => absurd hz List.not_mem_nil) rfl (by decide) (F.2.2.2.2 _ bg_9_22) (va_Nw.use rfl (hw.2.2.2.2.1.1 _ (List.mem_of_getElem? (i := 25) rfl))) hq1 hq2 hq3 ?_
    refine lv_astore (lv' := [(4, .ref q9), (0, .ref b), (1, .int x0), (2, .int x1), (3, .ref oa)]) hx hb dL_sign_13 hl (by decide) rfl (fun ls hl => ?_)
    refine lv_iconst (v := nI 1) hx hb dL_sign_15 (by decide) ?_
    exact rtw F hr hlk hQ hw (none, fo) ⟨rfl, Or.inl ⟨rfl, hxE⟩⟩ rfl dL_sign_16
  · refine lv_i2l (v := (v).toInt64) hx hb dL_sign_8 rfl ?_
    refine ja_st F hw 0 rfl (by decide) (by decide) dL_sign_9 (fun H locs hw => ?_)
    replace hw : Wd g s A H locs ([(oa, jA g 1 (vp_updL fo 0 (v).toInt64))] ++ WS' u) := hw
    refine lv_goto (tgt := 17) hx hb dL_sign_10 (by decide) ?_
    refine lv_iconst (v := nI 0) hx hb dL_sign_17 (by decide) ?_
    exact rtw F hr hlk hQ hw (some u, vp_updL fo 0 (v).toInt64) ⟨rfl, _, ⟨v, hp, rfl⟩, rfl⟩ rfl dL_sign_18
set_option maxHeartbeats 4000000 in
set_option maxRecDepth 100000 in
theorem w_session (g : GG) (l : Launch) {fr lo : Nat} {S : Type} {post : Int64 → S → Prop} {WS : va_W} {WS' : S → va_W} {xp : String → Prop} {fs : List Value} (b oa : Nat) (x0 : Int32) (x1 : Int32) (fo : Nat → Int64) (hM : Xt g l yX7_session cX7_session 4 (some .long) fr lo [.ref b, .int x0, .int x1] WS (Rl g post WS') xp) (he : WS[0]? = some (b, .inr (6, fs))) (hxp : ∀ E, xp E → E = "java/lang/IllegalArgumentException") : Cw g l yL_session cL_session 5 [(0, 9, 12, 13)] (fr + 1) (8 + (4 + 11) + lo) [.ref b, .int x0, .int x1, .ref oa] ([(oa, jA g 1 fo)] ++ WS) (Ri g (wrP post xp fo) (wrW g oa WS WS')) := by
  refine mkW (by decide) (Nat.le_of_ble_eq_true rfl) ?_
  intro p e s m args below meth c A ls QQ F hr hlk htb hQ hw hl
  have hx := F.1
  have hb := F.2.1
  replace hl : lv_has ls 5 [(0, .ref b), (1, .int x0), (2, .int x1), (3, .ref oa)] := hl
  refine lv_aload_n hx hb dL_session_0 rfl (lv_at hl 3 rfl) ?_
  refine lv_iconst (v := nI 0) hx hb dL_session_1 (by decide) ?_
  refine lv_aload_n hx hb dL_session_2 rfl (lv_at hl 0 rfl) ?_
  refine lv_iload_n hx hb dL_session_3 rfl (lv_at hl 1 rfl) ?_
  refine lv_iload_n hx hb dL_session_4 rfl (lv_at hl 2 rfl) ?_
  refine cx_lR hw (rx_VR F hw hM (cwx_L_49 F.2.2.2.2 ⟨Nat.le_refl _, Nat.le_refl _⟩) 0 he rfl rfl hl.1 rfl (Nat.le_of_ble_eq_true rfl) dL_session_5 ⟨Nat.le_of_ble_eq_true rfl, Nat.le_of_ble_eq_true rfl⟩) (fun E ce q9 H locs hxE hw hq1 hq2 hq3 => ?_) (fun v u H locs hp hw => ?_)
  · obtain rfl := hxp E hxE
    refine vx_catch (own := RL) (name := "java/lang/IllegalArgumentException") F.2.2.2.1 [] (⟨0, 9, 12, 13⟩ : ExceptionTableEntry) [] (htb.trans rfl) (fun z hz => absurd hz List.not_mem_nil) rfl (by decide) (F.2.2.2.2 _ bg_9_22) (va_Nw.use rfl (hw.2.2.2.2.1.1 _ (List.mem_of_getElem? (i := 25) rfl))) hq1 hq2 hq3 ?_
    refine lv_astore (lv' := [(4, .ref q9), (0, .ref b), (1, .int x0), (2, .int x1), (3, .ref oa)]) hx hb dL_session_12 hl (by decide) rfl (fun ls hl => ?_)
    refine lv_iconst (v := nI 1) hx hb dL_session_14 (by decide) ?_
    exact rtw F hr hlk hQ hw (none, fo) ⟨rfl, Or.inl ⟨rfl, hxE⟩⟩ rfl dL_session_15
  · refine ja_st F hw 0 rfl (by decide) (by decide) dL_session_8 (fun H locs hw => ?_)
    replace hw : Wd g s A H locs ([(oa, jA g 1 (vp_updL fo 0 v))] ++ WS' u) := hw
    refine lv_goto (tgt := 16) hx hb dL_session_9 (by decide) ?_
    refine lv_iconst (v := nI 0) hx hb dL_session_16 (by decide) ?_
    exact rtw F hr hlk hQ hw (some u, vp_updL fo 0 v) ⟨rfl, _, hp, rfl⟩ rfl dL_session_17
set_option maxHeartbeats 4000000 in
set_option maxRecDepth 100000 in
theorem w_count (g : GG) (l : Launch) {fr lo : Nat} {S : Type} {post : Int32 → S → Prop} {WS : va_W} {WS' : S → va_W} {xp : String → Prop} {fs : List Value} (b oa : Nat) (x0 : Int32) (fo : Nat → Int64) (hM : Xt g l yX7_count cX7_count 2 (some .int) fr lo [.ref b, .int x0] WS (Ri g post WS') xp) (he : WS[0]? = some (b, .inr (6, fs))) (hxp : ∀ E, xp E → E = "java/lang/IllegalArgumentException") : Cw g l yL_count cL_count 4 [(0, 9, 12, 13)] (fr + 1) (8 + (2 + 11) + lo) [.ref b, .int x0, .ref oa] ([(oa, jA g 1 fo)] ++ WS) (Ri g (wrP (fun (r : Int64) (w : S) => ∃ r0, post r0 w ∧ r = r0.toInt64) xp fo) (wrW g oa WS WS')) := by
  refine mkW (by decide) (Nat.le_of_ble_eq_true rfl) ?_
  intro p e s m args below meth c A ls QQ F hr hlk htb hQ hw hl
  have hx := F.1
  have hb := F.2.1
  replace hl : lv_has ls 4 [(0, .ref b), (1, .int x0), (2, .ref oa)] := hl
  refine lv_aload_n hx hb dL_count_0 rfl (lv_at hl 2 rfl) ?_
  refine lv_iconst (v := nI 0) hx hb dL_count_1 (by decide) ?_
  refine lv_aload_n hx hb dL_count_2 rfl (lv_at hl 0 rfl) ?_
  refine lv_iload_n hx hb dL_count_3 rfl (lv_at hl 1 rfl) ?_
  refine cx_iR hw (rx_VR F hw hM (cwx_L_53 F.2.2.2.2 ⟨Nat.le_refl _, Nat.le_refl _⟩) 0 he rfl rfl hl.1 rfl (Nat.le_of_ble_eq_true rfl) dL_count_4 ⟨Nat.le_of_ble_eq_true rfl, Nat.le_of_ble_eq_true rfl⟩) (fun E ce q9 H locs hxE hw hq1 hq2 hq3 => ?_) (fun v u H locs hp hw => ?_)
  · obtain rfl := hxp E hxE
    refine vx_catch (own := RL) (name := "java/lang/IllegalArgumentException") F.2.2.2.1 [] (⟨0, 9, 12, 13⟩ : ExceptionTableEntry) [] (htb.trans rfl) (fun z hz => absurd hz List.not_mem_nil) rfl (by decide) (F.2.2.2.2 _ bg_9_22) (va_Nw.use rfl (hw.2.2.2.2.1.1 _ (List.mem_of_getElem? (i := 25) rfl))) hq1 hq2 hq3 ?_
    refine lv_astore_n (lv' := [(3, .ref q9), (0, .ref b), (1, .int x0), (2, .ref oa)]) hx hb dL_count_12 rfl hl (by decide) rfl (fun ls hl => ?_)
    refine lv_iconst (v := nI 1) hx hb dL_count_13 (by decide) ?_
    exact rtw F hr hlk hQ hw (none, fo) ⟨rfl, Or.inl ⟨rfl, hxE⟩⟩ rfl dL_count_14
  · refine lv_i2l (v := (v).toInt64) hx hb dL_count_7 rfl ?_
    refine ja_st F hw 0 rfl (by decide) (by decide) dL_count_8 (fun H locs hw => ?_)
    replace hw : Wd g s A H locs ([(oa, jA g 1 (vp_updL fo 0 (v).toInt64))] ++ WS' u) := hw
    refine lv_goto (tgt := 15) hx hb dL_count_9 (by decide) ?_
    refine lv_iconst (v := nI 0) hx hb dL_count_15 (by decide) ?_
    exact rtw F hr hlk hQ hw (some u, vp_updL fo 0 (v).toInt64) ⟨rfl, _, ⟨v, hp, rfl⟩, rfl⟩ rfl dL_count_16
set_option maxHeartbeats 4000000 in
set_option maxRecDepth 100000 in
theorem w_octet (g : GG) (l : Launch) {fr lo : Nat} {S : Type} {post : Int32 → S → Prop} {WS : va_W} {WS' : S → va_W} {xp : String → Prop} {fs : List Value} (b oa : Nat) (x0 : Int32) (fo : Nat → Int64) (hM : Xt g l yX7_octet cX7_octet 2 (some .int) fr lo [.ref b, .int x0] WS (Ri g post WS') xp) (he : WS[0]? = some (b, .inr (6, fs))) (hxp : ∀ E, xp E → E = "java/lang/IllegalArgumentException") : Cw g l yL_octet cL_octet 4 [(0, 9, 12, 13)] (fr + 1) (8 + (2 + 11) + lo) [.ref b, .int x0, .ref oa] ([(oa, jA g 1 fo)] ++ WS) (Ri g (wrP (fun (r : Int64) (w : S) => ∃ r0, post r0 w ∧ r = r0.toInt64) xp fo) (wrW g oa WS WS')) := by
  refine mkW (by decide) (Nat.le_of_ble_eq_true rfl) ?_
  intro p e s m args below meth c A ls QQ F hr hlk htb hQ hw hl
  have hx := F.1
  have hb := F.2.1
  replace hl : lv_has ls 4 [(0, .ref b), (1, .int x0), (2, .ref oa)] := hl
  refine lv_aload_n hx hb dL_octet_0 rfl (lv_at hl 2 rfl) ?_
  refine lv_iconst (v := nI 0) hx hb dL_octet_1 (by decide) ?_
  refine lv_aload_n hx hb dL_octet_2 rfl (lv_at hl 0 rfl) ?_
  refine lv_iload_n hx hb dL_octet_3 rfl (lv_at hl 1 rfl) ?_
  refine cx_iR hw (rx_VR F hw hM (cwx_L_56 F.2.2.2.2 ⟨Nat.le_refl _, Nat.le_refl _⟩) 0 he rfl rfl hl.1 rfl (Nat.le_of_ble_eq_true rfl) dL_octet_4 ⟨Nat.le_of_ble_eq_true rfl, Nat.le_of_ble_eq_true rfl⟩) (fun E ce q9 H locs hxE hw hq1 hq2 hq3 => ?_) (fun v u H locs hp hw => ?_)
  · obtain rfl := hxp E hxE
    refine vx_catch (own := RL) (name := "java/lang/IllegalArgumentException") F.2.2.2.1 [] (⟨0, 9, 12, 13⟩ : ExceptionTableEntry) [] (htb.trans rfl) (fun z hz => absurd hz List.not_mem_nil) rfl (by decide) (F.2.2.2.2 _ bg_9_22) (va_Nw.use rfl (hw.2.2.2.2.1.1 _ (List.mem_of_getElem? (i := 25) rfl))) hq1 hq2 hq3 ?_
    refine lv_astore_n (lv' := [(3, .ref q9), (0, .ref b), (1, .int x0), (2, .ref oa)]) hx hb dL_octet_12 rfl hl (by decide) rfl (fun ls hl => ?_)
    refine lv_iconst (v := nI 1) hx hb dL_octet_13 (by decide) ?_
    exact rtw F hr hlk hQ hw (none, fo) ⟨rfl, Or.inl ⟨rfl, hxE⟩⟩ rfl dL_octet_14
  · refine lv_i2l (v := (v).toInt64) hx hb dL_octet_7 rfl ?_
    refine ja_st F hw 0 rfl (by decide) (by decide) dL_octet_8 (fun H locs hw => ?_)
    replace hw : Wd g s A H locs ([(oa, jA g 1 (vp_updL fo 0 (v).toInt64))] ++ WS' u) := hw
    refine lv_goto (tgt := 15) hx hb dL_octet_9 (by decide) ?_
    refine lv_iconst (v := nI 0) hx hb dL_octet_15 (by decide) ?_
    exact rtw F hr hlk hQ hw (some u, vp_updL fo 0 (v).toInt64) ⟨rfl, _, ⟨v, hp, rfl⟩, rfl⟩ rfl dL_octet_16
