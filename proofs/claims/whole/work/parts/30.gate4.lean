set_option maxHeartbeats 4000000 in
set_option maxRecDepth 100000 in
theorem c_X7_pass (g : GG) (l : Launch) (ad : Nat → Nat) (ka : Nat → Nat) (kb : Nat → Nat) (ua : Nat → Nat) (sa : Nat → Nat) (now : Int64) (gr : Int64) (mo : Int64) (re : Int64) (bgn : Int32) (lin : Int32) (rfd : Int32) (rnd : Int32) (mB : Nat → Int32) (mb : Nat → Int32) (ms : Nat → Int32) (mt : Nat → Int32) (kept : Nat) (np : Nat) (cl : Nat) (cf : Nat → Int32) (tn : Nat) (tf : Nat → Int32) (dl : Nat) (df : Nat → Int32) (sdf : Nat → Int32) (cnf : Nat → Int32) (cbf : Nat → Int32) (mkf : Nat → Int32) (num : Nat → Int32) (rep : Nat → Int64) (kf : Nat → Nat → Int32) (uto : Nat → Int32) (ufi : Nat → Int32) (use : Nat → Int32) (sop : Nat → Int32) (sow : Nat → Int32) (sid : Nat → Int64) (sbe : Nat → Int64) (sla : Nat → Int64) (x : Int64) (hst : l.stackTraces = false) : Xt g l yX7_pass cX7_pass 3 (some .long) 6 89 [.ref (ad 0), .long x] (gX g ad ka ua sa now gr mo re bgn lin rfd rnd mB mb ms mt kept np cl cf tn tf dl df sdf cnf cbf mkf ++ (tl 4 ka (kE kb num rep) ++ (tl 4 kb (bE g kf) ++ (tl 8 ua (uE uto ufi use) ++ (tl 8 sa (sE sop sow sid sbe sla) ++ []))))) (Rl g (fun (v : Int64) (u : Unit) => ¬ (x < 1 ∨ 10000000000 < x) ∧ v = now + x) (fun (u : Unit) => (gX g ad ka ua sa (now + x) gr mo re bgn lin rfd rnd mB mb ms mt kept np cl cf tn tf dl df sdf cnf cbf mkf ++ (tl 4 ka (kE kb num rep) ++ (tl 4 kb (bE g kf) ++ (tl 8 ua (uE uto ufi use) ++ (tl 8 sa (sE sop sow sid sbe sla) ++ []))))))) (fun E => E = "java/lang/IllegalArgumentException" ∧ (x < 1 ∨ 10000000000 < x)) := by
  refine mkX (by decide) (Nat.le_of_ble_eq_true rfl) ?_
  intro p e s m args below meth c A ls QQ F hr hlk hex hQ hw hl
  have hx := F.1
  have hb := F.2.1
  replace hl : lv_has ls 3 [(0, .ref (ad 0)), (1, .long x)] := hl
  refine lv_lload_n hx hb dX7_pass_0 rfl (lv_at hl 1 rfl) ?_
  refine lv_lconst (v := 1) hx hb dX7_pass_1 (by decide) ?_
  refine lc_lt (tgt := 14) hx hb dX7_pass_2 dX7_pass_3 (by decide) (fun c_2 => ?_) (fun c_2 => ?_)
  · exact thr_IAE F hst hw hlk hex hQ (⟨rfl, by first | exact Or.inl c_2 | exact Or.inr (Int64.not_le.mp c_10)⟩) hl.1 (Nat.le_of_ble_eq_true rfl) (by decide) (by decide) dX7_pass_14 dX7_pass_17 dX7_pass_18 dX7_pass_21
  · refine lv_lload_n hx hb dX7_pass_6 rfl (lv_at hl 1 rfl) ?_
    refine lv_ldc2 hx hb F.2.2.2.1 (F.2.2.2.2 _ bg_10_5) dX7_pass_7 ?_
    refine lc_le (tgt := 22) hx hb dX7_pass_10 dX7_pass_11 (by decide) (fun c_10 => ?_) (fun c_10 => ?_)
    · refine lv_aload_n hx hb dX7_pass_22 rfl (lv_at hl 0 rfl) ?_
      refine lv_dup hx hb dX7_pass_23 rfl ?_
      refine gf_X7_61 F hw 0 rfl rfl dX7_pass_24 ?_
      refine lv_lload_n hx hb dX7_pass_27 rfl (lv_at hl 1 rfl) ?_
      refine lv_ladd hx hb dX7_pass_28 ?_
      refine pf_X7_61 F hw 0 rfl (Nat.le_of_ble_eq_true rfl) rfl rfl dX7_pass_29 (fun H locs hw => ?_)
      replace hw : Wd g s A H locs (gX g ad ka ua sa (now + x) gr mo re bgn lin rfd rnd mB mb ms mt kept np cl cf tn tf dl df sdf cnf cbf mkf ++ (tl 4 ka (kE kb num rep) ++ (tl 4 kb (bE g kf) ++ (tl 8 ua (uE uto ufi use) ++ (tl 8 sa (sE sop sow sid sbe sla) ++ []))))) := hw
      refine lv_aload_n hx hb dX7_pass_32 rfl (lv_at hl 0 rfl) ?_
      refine gf_X7_61 F hw 0 rfl rfl dX7_pass_33 ?_
      exact rtx_l F hr hlk hQ hw () (⟨fun h => h.elim c_2 (fun h => Int64.not_lt.mpr c_10 h), rfl⟩) rfl dX7_pass_36
    · exact thr_IAE F hst hw hlk hex hQ (⟨rfl, by first | exact Or.inl c_2 | exact Or.inr (Int64.not_le.mp c_10)⟩) hl.1 (Nat.le_of_ble_eq_true rfl) (by decide) (by decide) dX7_pass_14 dX7_pass_17 dX7_pass_18 dX7_pass_21
set_option maxHeartbeats 4000000 in
set_option maxRecDepth 100000 in
theorem c_X7_limits (g : GG) (l : Launch) (ad : Nat → Nat) (ka : Nat → Nat) (kb : Nat → Nat) (ua : Nat → Nat) (sa : Nat → Nat) (now : Int64) (gr : Int64) (mo : Int64) (re : Int64) (bgn : Int32) (lin : Int32) (rfd : Int32) (rnd : Int32) (mB : Nat → Int32) (mb : Nat → Int32) (ms : Nat → Int32) (mt : Nat → Int32) (kept : Nat) (np : Nat) (cl : Nat) (cf : Nat → Int32) (tn : Nat) (tf : Nat → Int32) (dl : Nat) (df : Nat → Int32) (sdf : Nat → Int32) (cnf : Nat → Int32) (cbf : Nat → Int32) (mkf : Nat → Int32) (num : Nat → Int32) (rep : Nat → Int64) (kf : Nat → Nat → Int32) (uto : Nat → Int32) (ufi : Nat → Int32) (use : Nat → Int32) (sop : Nat → Int32) (sow : Nat → Int32) (sid : Nat → Int64) (sbe : Nat → Int64) (sla : Nat → Int64) (x : Int64) (y : Int64) (z : Int64) (hst : l.stackTraces = false) : Xt g l yX7_limits cX7_limits 7 none 6 89 [.ref (ad 0), .long x, .long y, .long z] (gX g ad ka ua sa now gr mo re bgn lin rfd rnd mB mb ms mt kept np cl cf tn tf dl df sdf cnf cbf mkf ++ (tl 4 ka (kE kb num rep) ++ (tl 4 kb (bE g kf) ++ (tl 8 ua (uE uto ufi use) ++ (tl 8 sa (sE sop sow sid sbe sla) ++ []))))) (Rv g (fun (u : Unit) => ¬ (limI x = 0 ∨ limI y = 0 ∨ limI z = 0)) (fun (u : Unit) => (gX g ad ka ua sa now x y z bgn lin rfd rnd mB mb ms mt kept np cl cf tn tf dl df sdf cnf cbf mkf ++ (tl 4 ka (kE kb num rep) ++ (tl 4 kb (bE g kf) ++ (tl 8 ua (uE uto ufi use) ++ (tl 8 sa (sE sop sow sid sbe sla) ++ []))))))) (fun E => E = "java/lang/IllegalArgumentException" ∧ (limI x = 0 ∨ limI y = 0 ∨ limI z = 0)) := by
  refine mkX (by decide) (Nat.le_of_ble_eq_true rfl) ?_
  intro p e s m args below meth c A ls QQ F hr hlk hex hQ hw hl
  have hx := F.1
  have hb := F.2.1
  replace hl : lv_has ls 7 [(0, .ref (ad 0)), (1, .long x), (3, .long y), (5, .long z)] := hl
  refine lv_lload_n hx hb dX7_limits_0 rfl (lv_at hl 1 rfl) ?_
  refine cl_i hw [] rfl (rn_S F hw (c_X7_isLimit g l x) (cw_X7_100 F.2.2.2.2 ⟨by decide, by decide⟩) [] (by decide) rfl hl.1 rfl (Nat.le_of_ble_eq_true rfl) dX7_limits_1 ⟨Nat.zero_le _, Nat.zero_le _⟩) (fun _ => rfl) (fun v_2 u_1 H locs hp_3 hw => ?_)
  subst hp_3
  replace hw : Wd g s A H locs (gX g ad ka ua sa now gr mo re bgn lin rfd rnd mB mb ms mt kept np cl cf tn tf dl df sdf cnf cbf mkf ++ (tl 4 ka (kE kb num rep) ++ (tl 4 kb (bE g kf) ++ (tl 8 ua (uE uto ufi use) ++ (tl 8 sa (sE sop sow sid sbe sla) ++ []))))) := hw
  refine lv_if_eq (tgt := 22) hx hb dX7_limits_4 (by decide) (fun c_4 => ?_) (fun c_4 => ?_)
  · exact thr_IAE F hst hw hlk hex hQ (⟨rfl, by first | exact Or.inl c_4 | exact Or.inr (Or.inl c_11) | exact Or.inr (Or.inr c_19)⟩) hl.1 (Nat.le_of_ble_eq_true rfl) (by decide) (by decide) dX7_limits_22 dX7_limits_25 dX7_limits_26 dX7_limits_29
  · refine lv_lload_n hx hb dX7_limits_7 rfl (lv_at hl 2 rfl) ?_
    refine cl_i hw [] rfl (rn_S F hw (c_X7_isLimit g l y) (cw_X7_100 F.2.2.2.2 ⟨by decide, by decide⟩) [] (by decide) rfl hl.1 rfl (Nat.le_of_ble_eq_true rfl) dX7_limits_8 ⟨Nat.zero_le _, Nat.zero_le _⟩) (fun _ => rfl) (fun v_5 u_4 H locs hp_6 hw => ?_)
    subst hp_6
    replace hw : Wd g s A H locs (gX g ad ka ua sa now gr mo re bgn lin rfd rnd mB mb ms mt kept np cl cf tn tf dl df sdf cnf cbf mkf ++ (tl 4 ka (kE kb num rep) ++ (tl 4 kb (bE g kf) ++ (tl 8 ua (uE uto ufi use) ++ (tl 8 sa (sE sop sow sid sbe sla) ++ []))))) := hw
    refine lv_if_eq (tgt := 22) hx hb dX7_limits_11 (by decide) (fun c_11 => ?_) (fun c_11 => ?_)
    · exact thr_IAE F hst hw hlk hex hQ (⟨rfl, by first | exact Or.inl c_4 | exact Or.inr (Or.inl c_11) | exact Or.inr (Or.inr c_19)⟩) hl.1 (Nat.le_of_ble_eq_true rfl) (by decide) (by decide) dX7_limits_22 dX7_limits_25 dX7_limits_26 dX7_limits_29
    · refine lv_lload hx hb dX7_limits_14 (lv_at hl 3 rfl) ?_
      refine cl_i hw [] rfl (rn_S F hw (c_X7_isLimit g l z) (cw_X7_100 F.2.2.2.2 ⟨by decide, by decide⟩) [] (by decide) rfl hl.1 rfl (Nat.le_of_ble_eq_true rfl) dX7_limits_16 ⟨Nat.zero_le _, Nat.zero_le _⟩) (fun _ => rfl) (fun v_8 u_7 H locs hp_9 hw => ?_)
      subst hp_9
      replace hw : Wd g s A H locs (gX g ad ka ua sa now gr mo re bgn lin rfd rnd mB mb ms mt kept np cl cf tn tf dl df sdf cnf cbf mkf ++ (tl 4 ka (kE kb num rep) ++ (tl 4 kb (bE g kf) ++ (tl 8 ua (uE uto ufi use) ++ (tl 8 sa (sE sop sow sid sbe sla) ++ []))))) := hw
      refine lv_if_ne (tgt := 30) hx hb dX7_limits_19 (by decide) (fun c_19 => ?_) (fun c_19 => ?_)
      · refine lv_aload_n hx hb dX7_limits_30 rfl (lv_at hl 0 rfl) ?_
        refine lv_lload_n hx hb dX7_limits_31 rfl (lv_at hl 1 rfl) ?_
        refine pf_X7_67 F hw 0 rfl (Nat.le_of_ble_eq_true rfl) rfl rfl dX7_limits_32 (fun H locs hw => ?_)
        replace hw : Wd g s A H locs (gX g ad ka ua sa now x mo re bgn lin rfd rnd mB mb ms mt kept np cl cf tn tf dl df sdf cnf cbf mkf ++ (tl 4 ka (kE kb num rep) ++ (tl 4 kb (bE g kf) ++ (tl 8 ua (uE uto ufi use) ++ (tl 8 sa (sE sop sow sid sbe sla) ++ []))))) := hw
        refine lv_aload_n hx hb dX7_limits_35 rfl (lv_at hl 0 rfl) ?_
        refine lv_lload_n hx hb dX7_limits_36 rfl (lv_at hl 2 rfl) ?_
        refine pf_X7_70 F hw 0 rfl (Nat.le_of_ble_eq_true rfl) rfl rfl dX7_limits_37 (fun H locs hw => ?_)
        replace hw : Wd g s A H locs (gX g ad ka ua sa now x y re bgn lin rfd rnd mB mb ms mt kept np cl cf tn tf dl df sdf cnf cbf mkf ++ (tl 4 ka (kE kb num rep) ++ (tl 4 kb (bE g kf) ++ (tl 8 ua (uE uto ufi use) ++ (tl 8 sa (sE sop sow sid sbe sla) ++ []))))) := hw
        refine lv_aload_n hx hb dX7_limits_40 rfl (lv_at hl 0 rfl) ?_
        refine lv_lload hx hb dX7_limits_41 (lv_at hl 3 rfl) ?_
        refine pf_X7_73 F hw 0 rfl (Nat.le_of_ble_eq_true rfl) rfl rfl dX7_limits_43 (fun H locs hw => ?_)
        replace hw : Wd g s A H locs (gX g ad ka ua sa now x y z bgn lin rfd rnd mB mb ms mt kept np cl cf tn tf dl df sdf cnf cbf mkf ++ (tl 4 ka (kE kb num rep) ++ (tl 4 kb (bE g kf) ++ (tl 8 ua (uE uto ufi use) ++ (tl 8 sa (sE sop sow sid sbe sla) ++ []))))) := hw
        exact rtx_v F hr hlk hQ hw () (fun h => h.elim c_4 (fun h => h.elim c_11 c_19)) rfl dX7_limits_46
      · exact thr_IAE F hst hw hlk hex hQ (⟨rfl, by first | exact Or.inl c_4 | exact Or.inr (Or.inl c_11) | exact Or.inr (Or.inr c_19)⟩) hl.1 (Nat.le_of_ble_eq_true rfl) (by decide) (by decide) dX7_limits_22 dX7_limits_25 dX7_limits_26 dX7_limits_29
set_option maxHeartbeats 4000000 in
set_option maxRecDepth 100000 in
theorem c_X7_user (g : GG) (l : Launch) (ad : Nat → Nat) (ka : Nat → Nat) (kb : Nat → Nat) (ua : Nat → Nat) (sa : Nat → Nat) (now : Int64) (gr : Int64) (mo : Int64) (re : Int64) (bgn : Int32) (lin : Int32) (rfd : Int32) (rnd : Int32) (mB : Nat → Int32) (mb : Nat → Int32) (ms : Nat → Int32) (mt : Nat → Int32) (kept : Nat) (np : Nat) (cl : Nat) (cf : Nat → Int32) (tn : Nat) (tf : Nat → Int32) (dl : Nat) (df : Nat → Int32) (sdf : Nat → Int32) (cnf : Nat → Int32) (cbf : Nat → Int32) (mkf : Nat → Int32) (num : Nat → Int32) (rep : Nat → Int64) (kf : Nat → Nat → Int32) (uto : Nat → Int32) (ufi : Nat → Int32) (use : Nat → Int32) (sop : Nat → Int32) (sow : Nat → Int32) (sid : Nat → Int64) (sbe : Nat → Int64) (sla : Nat → Int64) (x : Int32) (a : Int32) (b : Int32) (hst : l.stackTraces = false) : Xt g l yX7_user cX7_user 4 none 6 89 [.ref (ad 0), .int x, .int a, .int b] (gX g ad ka ua sa now gr mo re bgn lin rfd rnd mB mb ms mt kept np cl cf tn tf dl df sdf cnf cbf mkf ++ (tl 4 ka (kE kb num rep) ++ (tl 4 kb (bE g kf) ++ (tl 8 ua (uE uto ufi use) ++ (tl 8 sa (sE sop sow sid sbe sla) ++ []))))) (Rv g (fun (u : (Nat → Int32) × (Nat → Int32) × (Nat → Int32)) => ¬ usI x = 0 ∧ ∃ k, k < 8 ∧ x = nI k ∧ u.1 = upd uto k (nI 1) ∧ u.2.1 = upd ufi k a ∧ u.2.2 = upd use k b) (fun (u : (Nat → Int32) × (Nat → Int32) × (Nat → Int32)) => (gX g ad ka ua sa now gr mo re bgn lin rfd rnd mB mb ms mt kept np cl cf tn tf dl df sdf cnf cbf mkf ++ (tl 4 ka (kE kb num rep) ++ (tl 4 kb (bE g kf) ++ (tl 8 ua (uE u.1 u.2.1 u.2.2) ++ (tl 8 sa (sE sop sow sid sbe sla) ++ []))))))) (fun E => E = "java/lang/IllegalArgumentException" ∧ usI x = 0) := by
  refine mkX (by decide) (Nat.le_of_ble_eq_true rfl) ?_
  intro p e s m args below meth c A ls QQ F hr hlk hex hQ hw hl
  have hx := F.1
  have hb := F.2.1
  replace hl : lv_has ls 4 [(0, .ref (ad 0)), (1, .int x), (2, .int a), (3, .int b)] := hl
  refine lv_iload_n hx hb dX7_user_0 rfl (lv_at hl 1 rfl) ?_
  refine cl_i hw [] rfl (rn_S F hw (c_X7_isUser g l x) (cw_X7_121 F.2.2.2.2 ⟨by decide, by decide⟩) [] (by decide) rfl hl.1 rfl (Nat.le_of_ble_eq_true rfl) dX7_user_1 ⟨Nat.zero_le _, Nat.zero_le _⟩) (fun _ => rfl) (fun v_2 u_1 H locs hp_3 hw => ?_)
  subst hp_3
  replace hw : Wd g s A H locs (gX g ad ka ua sa now gr mo re bgn lin rfd rnd mB mb ms mt kept np cl cf tn tf dl df sdf cnf cbf mkf ++ (tl 4 ka (kE kb num rep) ++ (tl 4 kb (bE g kf) ++ (tl 8 ua (uE uto ufi use) ++ (tl 8 sa (sE sop sow sid sbe sla) ++ []))))) := hw
  refine lv_if_ne (tgt := 15) hx hb dX7_user_4 (by decide) (fun c_4 => ?_) (fun c_4 => ?_)
  · obtain ⟨k, hk, rfl⟩ := us_nat c_4
    refine lv_aload_n hx hb dX7_user_15 rfl (lv_at hl 0 rfl) ?_
    refine gf_X7_38 F hw 0 rfl rfl dX7_user_16 ?_
    refine lv_iload_n hx hb dX7_user_19 rfl (lv_at hl 1 rfl) ?_
    refine ra_ld F hw 14 5 rfl rfl (by omega) (by omega) rfl dX7_user_20 ?_
    refine lv_iload_n hx hb dX7_user_21 rfl (lv_at hl 2 rfl) ?_
    refine lv_iload_n hx hb dX7_user_22 rfl (lv_at hl 3 rfl) ?_
    have hC9 : List.map (fun zz9 : Nat => ((gX g ad ka ua sa now gr mo re bgn lin rfd rnd mB mb ms mt kept np cl cf tn tf dl df sdf cnf cbf mkf ++ (tl 4 ka (kE kb num rep) ++ (tl 4 kb (bE g kf) ++ (tl 8 ua (uE uto ufi use) ++ (tl 8 sa (sE sop sow sid sbe sla) ++ []))))))[zz9]?) [(28 + k)] = List.map some [(ua k, .inr (5, [.int ((uto k)), .int ((ufi k)), .int ((use k))]))] := (l_c (tg3 rfl (by omega)) rfl)
    refine cl_v hw [(28 + k)] hC9 (rn_V F hw (c_X6_tell g l (ua k) (uto k) (ufi k) (use k) a b) (cw_X7_125 F.2.2.2.2 ⟨by decide, by decide⟩) [(28 + k)] (by simp [va_nd] <;> omega) hC9 (28 + k) (tg3 rfl (by omega)) rfl rfl hl.1 rfl (Nat.le_of_ble_eq_true rfl) dX7_user_23 ⟨Nat.zero_le _, Nat.zero_le _⟩) (fun _ => rfl) (fun u_4 H locs hp_6 hw => ?_)
    replace hw : Wd g s A H locs (List.set (gX g ad ka ua sa now gr mo re bgn lin rfd rnd mB mb ms mt kept np cl cf tn tf dl df sdf cnf cbf mkf ++ (tl 4 ka (kE kb num rep) ++ (tl 4 kb (bE g kf) ++ (tl 8 ua (uE uto ufi use) ++ (tl 8 sa (sE sop sow sid sbe sla) ++ []))))) (28 + k) (ua k, .inr (5, [.int (nI 1), .int a, .int b]))) := hw
    replace hw : Wd g s A H locs (gX g ad ka ua sa now gr mo re bgn lin rfd rnd mB mb ms mt kept np cl cf tn tf dl df sdf cnf cbf mkf ++ (tl 4 ka (kE kb num rep) ++ (tl 4 kb (bE g kf) ++ (tl 8 ua (uE (upd uto k (nI 1)) (upd ufi k a) (upd use k b)) ++ (tl 8 sa (sE sop sow sid sbe sla) ++ []))))) := wd_eq (ts3 rfl (by omega) (by funext z; by_cases hz : z = k <;> simp [va_up, uE, upd, vp_updL, hz])) hw
    exact rtx_v F hr hlk hQ hw (upd uto k (nI 1), upd ufi k a, upd use k b) (⟨c_4, k, hk, rfl, rfl, rfl, rfl⟩) rfl dX7_user_26
  · exact thr_IAE F hst hw hlk hex hQ (⟨rfl, c_4⟩) hl.1 (Nat.le_of_ble_eq_true rfl) (by decide) (by decide) dX7_user_7 dX7_user_10 dX7_user_11 dX7_user_14
theorem updL_s (f : Nat → Int64) (k : Nat) (x : Int64) : vp_updL f k x k = x := by simp [vp_updL]
set_option maxHeartbeats 4000000 in
set_option maxRecDepth 100000 in
theorem c_X7_login (g : GG) (l : Launch) (ad : Nat → Nat) (ka : Nat → Nat) (kb : Nat → Nat) (ua : Nat → Nat) (sa : Nat → Nat) (now : Int64) (gr : Int64) (mo : Int64) (re : Int64) (bgn : Int32) (lin : Int32) (rfd : Int32) (rnd : Int32) (mB : Nat → Int32) (mb : Nat → Int32) (ms : Nat → Int32) (mt : Nat → Int32) (kept : Nat) (np : Nat) (cl : Nat) (cf : Nat → Int32) (tn : Nat) (tf : Nat → Int32) (dl : Nat) (df : Nat → Int32) (sdf : Nat → Int32) (cnf : Nat → Int32) (cbf : Nat → Int32) (mkf : Nat → Int32) (num : Nat → Int32) (rep : Nat → Int64) (kf : Nat → Nat → Int32) (uto : Nat → Int32) (ufi : Nat → Int32) (use : Nat → Int32) (sop : Nat → Int32) (sow : Nat → Int32) (sid : Nat → Int64) (sbe : Nat → Int64) (sla : Nat → Int64) (x : Int32) (a : Int32) (b : Int32) (hnp : np < 4) (hcl : cl ≤ 40) (hcf : isB cf) (htf : isB tf) (hst : l.stackTraces = false) : Xt g l yX7_login cX7_login 5 (some .int) 7 157 [.ref (ad 0), .int x, .int a, .int b] (gX g ad ka ua sa now gr mo re bgn lin rfd rnd mB mb ms mt kept np cl cf tn tf dl df sdf cnf cbf mkf ++ (tl 4 ka (kE kb num rep) ++ (tl 4 kb (bE g kf) ++ (tl 8 ua (uE uto ufi use) ++ (tl 8 sa (sE sop sow sid sbe sla) ++ []))))) (Ri g (fun (v : Int32) (u : (Nat → Int32) × (Nat → Int32) × (Nat → Int32) × (Nat → Int32) × (Nat → Int32) × (Nat → Int32) × (Nat → Int32) × (Nat → Int32) × (Nat → Int32) × (Nat → Int32) × (Nat → Int32) × (Nat → Int64) × (Nat → Int64) × (Nat → Int64) × Nat × Nat × Int32) => ¬ usI x = 0 ∧ ∃ k, k < 8 ∧ x = nI k ∧ ((knS (uto k) (ufi k) (use k) a b = 0 ∧ v = (-9) ∧ u.2.2.2.2.2.2.2.1 = sop ∧ u.2.2.2.2.2.2.2.2.1 = sow ∧ u.2.2.2.2.2.2.2.2.2.2.2.1 = sid ∧ u.2.2.2.2.2.2.2.2.2.2.2.2.1 = sbe ∧ u.2.2.2.2.2.2.2.2.2.2.2.2.2.1 = sla ∧ u.2.2.2.2.2.2.2.2.2.2.2.2.2.2.1 = cl ∧ u.2.2.2.2.2.2.2.2.2.1 = cf ∧ u.2.2.2.2.2.2.2.2.2.2.2.2.2.2.2.1 = tn ∧ u.2.2.2.2.2.2.2.2.2.2.1 = tf ∧ u.2.2.2.2.2.2.2.2.2.2.2.2.2.2.2.2 = bgn) ∨ (¬ knS (uto k) (ufi k) (use k) a b = 0 ∧ (∀ j, j < 8 → ¬ stF now mo re sop sbe sla 8 j = 0) ∧ v = (-10) ∧ u.2.2.2.2.2.2.2.1 = stF now mo re sop sbe sla 8 ∧ u.2.2.2.2.2.2.2.2.1 = sow ∧ u.2.2.2.2.2.2.2.2.2.2.2.1 = sid ∧ u.2.2.2.2.2.2.2.2.2.2.2.2.1 = sbe ∧ u.2.2.2.2.2.2.2.2.2.2.2.2.2.1 = sla ∧ u.2.2.2.2.2.2.2.2.2.2.2.2.2.2.1 = cl ∧ u.2.2.2.2.2.2.2.2.2.1 = cf ∧ u.2.2.2.2.2.2.2.2.2.2.2.2.2.2.2.1 = tn ∧ u.2.2.2.2.2.2.2.2.2.2.1 = tf ∧ u.2.2.2.2.2.2.2.2.2.2.2.2.2.2.2.2 = bgn) ∨ (¬ knS (uto k) (ufi k) (use k) a b = 0 ∧ ∃ n, n < 8 ∧ v = nI n ∧ stF now mo re sop sbe sla 8 n = 0 ∧ (∀ j, j < n → ¬ stF now mo re sop sbe sla 8 j = 0) ∧ u.2.2.2.2.2.2.2.1 = upd (stF now mo re sop sbe sla 8) n (nI 1) ∧ u.2.2.2.2.2.2.2.2.1 = upd sow n x ∧ u.2.2.2.2.2.2.2.2.2.2.2.1 = vp_updL sid n (idS sdf bgn) ∧ u.2.2.2.2.2.2.2.2.2.2.2.2.1 = vp_updL sbe n now ∧ u.2.2.2.2.2.2.2.2.2.2.2.2.2.1 = vp_updL sla n now ∧ u.2.2.2.2.2.2.2.2.2.2.2.2.2.2.2.2 = bgn + nI 1 ∧ u.2.2.2.2.2.2.2.2.2.2.2.2.2.2.1 = 30 ∧ u.2.2.2.2.2.2.2.2.2.2.2.2.2.2.2.1 = 12 ∧ (∀ j, j < 30 → u.2.2.2.2.2.2.2.2.2.1 j = ckS (kf np) (num np) x (idS sdf bgn) j) ∧ (∀ j, j < 12 → u.2.2.2.2.2.2.2.2.2.2.1 j = tkS (kf np) (bod (num np) x (idS sdf bgn)) j) ∧ isB u.2.2.2.2.2.2.2.2.2.1 ∧ isB u.2.2.2.2.2.2.2.2.2.2.1))) (fun (u : (Nat → Int32) × (Nat → Int32) × (Nat → Int32) × (Nat → Int32) × (Nat → Int32) × (Nat → Int32) × (Nat → Int32) × (Nat → Int32) × (Nat → Int32) × (Nat → Int32) × (Nat → Int32) × (Nat → Int64) × (Nat → Int64) × (Nat → Int64) × Nat × Nat × Int32) => (gX g ad ka ua sa now gr mo re u.2.2.2.2.2.2.2.2.2.2.2.2.2.2.2.2 lin rfd rnd u.1 u.2.1 u.2.2.1 u.2.2.2.1 kept np u.2.2.2.2.2.2.2.2.2.2.2.2.2.2.1 u.2.2.2.2.2.2.2.2.2.1 u.2.2.2.2.2.2.2.2.2.2.2.2.2.2.2.1 u.2.2.2.2.2.2.2.2.2.2.1 dl df sdf u.2.2.2.2.2.2.1 u.2.2.2.2.1 u.2.2.2.2.2.1 ++ (tl 4 ka (kE kb num rep) ++ (tl 4 kb (bE g kf) ++ (tl 8 ua (uE uto ufi use) ++ (tl 8 sa (sE u.2.2.2.2.2.2.2.1 u.2.2.2.2.2.2.2.2.1 u.2.2.2.2.2.2.2.2.2.2.2.1 u.2.2.2.2.2.2.2.2.2.2.2.2.1 u.2.2.2.2.2.2.2.2.2.2.2.2.2.1) ++ []))))))) (fun E => E = "java/lang/IllegalArgumentException" ∧ usI x = 0) := by
  refine mkX (by decide) (Nat.le_of_ble_eq_true rfl) ?_
  intro p e s m args below meth c A ls QQ F hr hlk hex hQ hw hl
  have hx := F.1
  have hb := F.2.1
  replace hl : lv_has ls 5 [(0, .ref (ad 0)), (1, .int x), (2, .int a), (3, .int b)] := hl
  refine lv_iload_n hx hb dX7_login_0 rfl (lv_at hl 1 rfl) ?_
  refine cl_i hw [] rfl (rn_S F hw (c_X7_isUser g l x) (cw_X7_121 F.2.2.2.2 ⟨by decide, by decide⟩) [] (by decide) rfl hl.1 rfl (Nat.le_of_ble_eq_true rfl) dX7_login_1 ⟨Nat.zero_le _, Nat.zero_le _⟩) (fun _ => rfl) (fun v_2 u_1 H locs hp_3 hw => ?_)
  subst hp_3
  replace hw : Wd g s A H locs (gX g ad ka ua sa now gr mo re bgn lin rfd rnd mB mb ms mt kept np cl cf tn tf dl df sdf cnf cbf mkf ++ (tl 4 ka (kE kb num rep) ++ (tl 4 kb (bE g kf) ++ (tl 8 ua (uE uto ufi use) ++ (tl 8 sa (sE sop sow sid sbe sla) ++ []))))) := hw
  refine lv_if_ne (tgt := 15) hx hb dX7_login_4 (by decide) (fun c_4 => ?_) (fun c_4 => ?_)
  · obtain ⟨k, hk, rfl⟩ := us_nat c_4
    refine lv_aload_n hx hb dX7_login_15 rfl (lv_at hl 0 rfl) ?_
    refine gf_X7_38 F hw 0 rfl rfl dX7_login_16 ?_
    refine lv_iload_n hx hb dX7_login_19 rfl (lv_at hl 1 rfl) ?_
    refine ra_ld F hw 14 5 rfl rfl (by omega) (by omega) rfl dX7_login_20 ?_
    refine lv_iload_n hx hb dX7_login_21 rfl (lv_at hl 2 rfl) ?_
    refine lv_iload_n hx hb dX7_login_22 rfl (lv_at hl 3 rfl) ?_
    have hC9 : List.map (fun zz9 : Nat => ((gX g ad ka ua sa now gr mo re bgn lin rfd rnd mB mb ms mt kept np cl cf tn tf dl df sdf cnf cbf mkf ++ (tl 4 ka (kE kb num rep) ++ (tl 4 kb (bE g kf) ++ (tl 8 ua (uE uto ufi use) ++ (tl 8 sa (sE sop sow sid sbe sla) ++ []))))))[zz9]?) [(28 + k)] = List.map some [(ua k, .inr (5, [.int ((uto k)), .int ((ufi k)), .int ((use k))]))] := (l_c (tg3 rfl (by omega)) rfl)
    refine cl_i hw [(28 + k)] hC9 (rn_V F hw (c_X6_knows g l (ua k) (uto k) (ufi k) (use k) a b) (cw_X7_129 F.2.2.2.2 ⟨by decide, by decide⟩) [(28 + k)] (by simp [va_nd] <;> omega) hC9 (28 + k) (tg3 rfl (by omega)) rfl rfl hl.1 rfl (Nat.le_of_ble_eq_true rfl) dX7_login_23 ⟨Nat.zero_le _, Nat.zero_le _⟩) (fun _ => rfl) (fun v_5 u_4 H locs hp_6 hw => ?_)
    subst hp_6
    replace hw : Wd g s A H locs (List.set (gX g ad ka ua sa now gr mo re bgn lin rfd rnd mB mb ms mt kept np cl cf tn tf dl df sdf cnf cbf mkf ++ (tl 4 ka (kE kb num rep) ++ (tl 4 kb (bE g kf) ++ (tl 8 ua (uE uto ufi use) ++ (tl 8 sa (sE sop sow sid sbe sla) ++ []))))) (28 + k) (ua k, .inr (5, [.int ((uto k)), .int ((ufi k)), .int ((use k))]))) := hw
    replace hw : Wd g s A H locs (gX g ad ka ua sa now gr mo re bgn lin rfd rnd mB mb ms mt kept np cl cf tn tf dl df sdf cnf cbf mkf ++ (tl 4 ka (kE kb num rep) ++ (tl 4 kb (bE g kf) ++ (tl 8 ua (uE uto ufi use) ++ (tl 8 sa (sE sop sow sid sbe sla) ++ []))))) := wd_eq (ts3 rfl (by omega) (by funext z; by_cases hz : z = k <;> simp [va_up, uE, upd, vp_updL, hz])) hw
    refine lv_if_ne (tgt := 32) hx hb dX7_login_26 (by decide) (fun c_26 => ?_) (fun c_26 => ?_)
    · refine lv_aload_n hx hb dX7_login_32 rfl (lv_at hl 0 rfl) ?_
      refine cl_vF hw (rn_VF F hw (c_X7_endStaleSessions g l ad ka kb ua sa now gr mo re bgn lin rfd rnd mB mb ms mt kept np cl cf tn tf dl df sdf cnf cbf mkf num rep kf uto ufi use sop sow sid sbe sla) (cw_X7_133 F.2.2.2.2 ⟨by decide, by decide⟩)    0 rfl rfl rfl hl.1 rfl (Nat.le_of_ble_eq_true rfl) dX7_login_33 ⟨Nat.zero_le _, Nat.zero_le _⟩) (fun u_7 H locs hp_9 hw => ?_)
      replace hw : Wd g s A H locs (gX g ad ka ua sa now gr mo re bgn lin rfd rnd mB mb ms mt kept np cl cf tn tf dl df sdf cnf cbf mkf ++ (tl 4 ka (kE kb num rep) ++ (tl 4 kb (bE g kf) ++ (tl 8 ua (uE uto ufi use) ++ (tl 8 sa (sE (stF now mo re sop sbe sla 8) sow sid sbe sla) ++ []))))) := hw
      refine lv_aload_n hx hb dX7_login_36 rfl (lv_at hl 0 rfl) ?_
      refine cl_iF hw (rn_VF F hw (c_X7_freeNumber g l ad ka kb ua sa now gr mo re bgn lin rfd rnd mB mb ms mt kept np cl cf tn tf dl df sdf cnf cbf mkf num rep kf uto ufi use (stF now mo re sop sbe sla 8) sow sid sbe sla) (cw_X7_136 F.2.2.2.2 ⟨by decide, by decide⟩)    0 rfl rfl rfl hl.1 rfl (Nat.le_of_ble_eq_true rfl) dX7_login_37 ⟨Nat.zero_le _, Nat.zero_le _⟩) (fun v_11 u_10 H locs hp_12 hw => ?_)
      replace hw : Wd g s A H locs (gX g ad ka ua sa now gr mo re bgn lin rfd rnd mB mb ms mt kept np cl cf tn tf dl df sdf cnf cbf mkf ++ (tl 4 ka (kE kb num rep) ++ (tl 4 kb (bE g kf) ++ (tl 8 ua (uE uto ufi use) ++ (tl 8 sa (sE (stF now mo re sop sbe sla 8) sow sid sbe sla) ++ []))))) := hw
      have q5 := hp_12
      rcases q5 with ⟨n, hn, rfl, q5, q6⟩ | ⟨rfl, q5⟩
      · refine lv_istore (lv' := [(4, .int (nI n)), (0, .ref (ad 0)), (1, .int (nI k)), (2, .int a), (3, .int b)]) hx hb dX7_login_40 hl (by decide) rfl (fun ls hl => ?_)
        refine lv_iload hx hb dX7_login_42 (lv_at hl 0 rfl) ?_
        refine lv_iconst (v := (-1)) hx hb dX7_login_44 (by decide) ?_
        refine lv_icmp_ne (tgt := 51) hx hb dX7_login_45 (by decide) (fun c_45 => ?_) (fun c_45 => ?_)
        · refine lv_aload_n hx hb dX7_login_51 rfl (lv_at hl 1 rfl) ?_
          refine gf_X7_44 F hw 0 rfl rfl dX7_login_52 ?_
          refine lv_iload hx hb dX7_login_55 (lv_at hl 0 rfl) ?_
          refine ra_ld F hw 15 4 rfl rfl (by omega) (by omega) rfl dX7_login_57 ?_
          refine lv_iload_n hx hb dX7_login_58 rfl (lv_at hl 2 rfl) ?_
          refine lv_aload_n hx hb dX7_login_59 rfl (lv_at hl 1 rfl) ?_
          refine cl_lF hw (rn_VF F hw (c_X7_nextId g l ad ka kb ua sa now gr mo re bgn lin rfd rnd mB mb ms mt kept np cl cf tn tf dl df sdf cnf cbf mkf num rep kf uto ufi use (stF now mo re sop sbe sla 8) sow sid sbe sla) (cw_X7_140 F.2.2.2.2 ⟨by decide, by decide⟩)    0 rfl rfl rfl hl.1 rfl (Nat.le_of_ble_eq_true rfl) dX7_login_60 ⟨Nat.zero_le _, Nat.zero_le _⟩) (fun v_14 u_13 H locs hp_15 hw => ?_)
          subst hp_15
          replace hw : Wd g s A H locs (gX g ad ka ua sa now gr mo re bgn lin rfd rnd u_13.1 u_13.2.1 u_13.2.2.1 u_13.2.2.2.1 kept np cl cf tn tf dl df sdf u_13.2.2.2.2 cbf mkf ++ (tl 4 ka (kE kb num rep) ++ (tl 4 kb (bE g kf) ++ (tl 8 ua (uE uto ufi use) ++ (tl 8 sa (sE (stF now mo re sop sbe sla 8) sow sid sbe sla) ++ []))))) := hw
          refine lv_aload_n hx hb dX7_login_63 rfl (lv_at hl 1 rfl) ?_
          refine gf_X7_61 F hw 0 rfl rfl dX7_login_64 ?_
          have hC9 : List.map (fun zz9 : Nat => ((gX g ad ka ua sa now gr mo re bgn lin rfd rnd u_13.1 u_13.2.1 u_13.2.2.1 u_13.2.2.2.1 kept np cl cf tn tf dl df sdf u_13.2.2.2.2 cbf mkf ++ (tl 4 ka (kE kb num rep) ++ (tl 4 kb (bE g kf) ++ (tl 8 ua (uE uto ufi use) ++ (tl 8 sa (sE (stF now mo re sop sbe sla 8) sow sid sbe sla) ++ []))))))[zz9]?) [(36 + n)] = List.map some [(sa n, .inr (3, [.int (((stF now mo re sop sbe sla 8) n)), .int ((sow n)), .long ((sid n)), .long ((sbe n)), .long ((sla n))]))] := (l_c (tg4 rfl (by omega)) rfl)
          refine cl_v hw [(36 + n)] hC9 (rn_V F hw (c_X4_begin g l (sa n) ((stF now mo re sop sbe sla 8) n) (sow n) (sid n) (sbe n) (sla n) (nI k) (idS sdf bgn) now) (cw_X7_144 F.2.2.2.2 ⟨by decide, by decide⟩) [(36 + n)] (by simp [va_nd] <;> omega) hC9 (36 + n) (tg4 rfl (by omega)) rfl rfl hl.1 rfl (Nat.le_of_ble_eq_true rfl) dX7_login_67 ⟨Nat.zero_le _, Nat.zero_le _⟩) (fun _ => rfl) (fun u_16 H locs hp_18 hw => ?_)
          replace hw : Wd g s A H locs (List.set (gX g ad ka ua sa now gr mo re bgn lin rfd rnd u_13.1 u_13.2.1 u_13.2.2.1 u_13.2.2.2.1 kept np cl cf tn tf dl df sdf u_13.2.2.2.2 cbf mkf ++ (tl 4 ka (kE kb num rep) ++ (tl 4 kb (bE g kf) ++ (tl 8 ua (uE uto ufi use) ++ (tl 8 sa (sE (stF now mo re sop sbe sla 8) sow sid sbe sla) ++ []))))) (36 + n) (sa n, .inr (3, [.int (nI 1), .int ((nI k)), .long ((idS sdf bgn)), .long now, .long now]))) := hw
          replace hw : Wd g s A H locs (gX g ad ka ua sa now gr mo re bgn lin rfd rnd u_13.1 u_13.2.1 u_13.2.2.1 u_13.2.2.2.1 kept np cl cf tn tf dl df sdf u_13.2.2.2.2 cbf mkf ++ (tl 4 ka (kE kb num rep) ++ (tl 4 kb (bE g kf) ++ (tl 8 ua (uE uto ufi use) ++ (tl 8 sa (sE (upd (stF now mo re sop sbe sla 8) n (nI 1)) (upd sow n (nI k)) (vp_updL sid n (idS sdf bgn)) (vp_updL sbe n now) (vp_updL sla n now)) ++ []))))) := wd_eq (ts4 rfl (by omega) (by funext z; by_cases hz : z = n <;> simp [va_up, sE, upd, vp_updL, hz])) hw
          refine lv_aload_n hx hb dX7_login_70 rfl (lv_at hl 1 rfl) ?_
          refine lv_dup hx hb dX7_login_71 rfl ?_
          refine gf_X7_76 F hw 0 rfl rfl dX7_login_72 ?_
          refine lv_iconst (v := nI 1) hx hb dX7_login_75 (by decide) ?_
          refine lv_iadd hx hb dX7_login_76 ?_
          refine pf_X7_76 F hw 0 rfl (Nat.le_of_ble_eq_true rfl) rfl rfl dX7_login_77 (fun H locs hw => ?_)
          replace hw : Wd g s A H locs (gX g ad ka ua sa now gr mo re (bgn + (nI 1)) lin rfd rnd u_13.1 u_13.2.1 u_13.2.2.1 u_13.2.2.2.1 kept np cl cf tn tf dl df sdf u_13.2.2.2.2 cbf mkf ++ (tl 4 ka (kE kb num rep) ++ (tl 4 kb (bE g kf) ++ (tl 8 ua (uE uto ufi use) ++ (tl 8 sa (sE (upd (stF now mo re sop sbe sla 8) n (nI 1)) (upd sow n (nI k)) (vp_updL sid n (idS sdf bgn)) (vp_updL sbe n now) (vp_updL sla n now)) ++ []))))) := hw
          refine lv_aload_n hx hb dX7_login_80 rfl (lv_at hl 1 rfl) ?_
          refine lv_aload_n hx hb dX7_login_81 rfl (lv_at hl 1 rfl) ?_
          refine gf_X7_44 F hw 0 rfl rfl dX7_login_82 ?_
          refine lv_iload hx hb dX7_login_85 (lv_at hl 0 rfl) ?_
          refine ra_ld F hw 15 4 rfl rfl (by omega) (by omega) rfl dX7_login_87 ?_
          refine cl_vF hw (rn_VF F hw (c_X7_writeTexts g l ad ka kb ua sa now gr mo re (bgn + (nI 1)) lin rfd rnd u_13.1 u_13.2.1 u_13.2.2.1 u_13.2.2.2.1 kept np cl cf tn tf dl df sdf u_13.2.2.2.2 cbf mkf num rep kf uto ufi use (upd (stF now mo re sop sbe sla 8) n (nI 1)) (upd sow n (nI k)) (vp_updL sid n (idS sdf bgn)) (vp_updL sbe n now) (vp_updL sla n now) n (by omega) (by omega) (by omega)) (cw_X7_148 F.2.2.2.2 ⟨by decide, by decide⟩)    0 rfl rfl rfl hl.1 rfl (Nat.le_of_ble_eq_true rfl) dX7_login_88 ⟨Nat.zero_le _, Nat.zero_le _⟩) (fun u_19 H locs hp_21 hw => ?_)
          replace hw : Wd g s A H locs (gX g ad ka ua sa now gr mo re (bgn + (nI 1)) lin rfd rnd u_19.1 u_19.2.1 u_19.2.2.1 u_19.2.2.2.1 kept np 30 u_19.2.2.2.2.2.2.1 12 u_19.2.2.2.2.2.2.2 dl df sdf u_13.2.2.2.2 u_19.2.2.2.2.1 u_19.2.2.2.2.2.1 ++ (tl 4 ka (kE kb num rep) ++ (tl 4 kb (bE g kf) ++ (tl 8 ua (uE uto ufi use) ++ (tl 8 sa (sE (upd (stF now mo re sop sbe sla 8) n (nI 1)) (upd sow n (nI k)) (vp_updL sid n (idS sdf bgn)) (vp_updL sbe n now) (vp_updL sla n now)) ++ []))))) := hw
          have q9 := hp_21
          refine lv_iload hx hb dX7_login_91 (lv_at hl 0 rfl) ?_
          exact rtx_i F hr hlk hQ hw (u_19.1, u_19.2.1, u_19.2.2.1, u_19.2.2.2.1, u_19.2.2.2.2.1, u_19.2.2.2.2.2.1, u_13.2.2.2.2, (upd (stF now mo re sop sbe sla 8) n (nI 1)), (upd sow n (nI k)), u_19.2.2.2.2.2.2.1, u_19.2.2.2.2.2.2.2, (vp_updL sid n (idS sdf bgn)), (vp_updL sbe n now), (vp_updL sla n now), 30, 12, (bgn + (nI 1))) (⟨c_4, k, hk, rfl, Or.inr (Or.inr ⟨c_26, n, hn, rfl, q5, q6, rfl, rfl, rfl, rfl, rfl, rfl, rfl, rfl, fun j hj => by have h := q9.2.1 j hj; rw [upd_s, updL_s] at h; exact h, fun j hj => by have h := q9.2.2.1 j hj; rw [upd_s, updL_s] at h; exact h, q9.2.2.2.1 hcf, q9.2.2.2.2 htf⟩)⟩) rfl dX7_login_93
        · exact absurd c_45 (nI_nm1 (by omega))
      · refine lv_istore (lv' := [(4, .int (-1)), (0, .ref (ad 0)), (1, .int (nI k)), (2, .int a), (3, .int b)]) hx hb dX7_login_40 hl (by decide) rfl (fun ls hl => ?_)
        refine lv_iload hx hb dX7_login_42 (lv_at hl 0 rfl) ?_
        refine lv_iconst (v := (-1)) hx hb dX7_login_44 (by decide) ?_
        refine lv_icmp_ne (tgt := 51) hx hb dX7_login_45 (by decide) (fun c_45 => ?_) (fun c_45 => ?_)
        · exact absurd rfl c_45
        · refine lv_bipush (v := (-10)) hx hb dX7_login_48 (by decide) ?_
          exact rtx_i F hr hlk hQ hw (mB, mb, ms, mt, cbf, mkf, cnf, (stF now mo re sop sbe sla 8), sow, cf, tf, sid, sbe, sla, cl, tn, bgn) (⟨c_4, k, hk, rfl, Or.inr (Or.inl ⟨c_26, q5, rfl, rfl, rfl, rfl, rfl, rfl, rfl, rfl, rfl, rfl, rfl⟩)⟩) rfl dX7_login_50
    · refine lv_bipush (v := (-9)) hx hb dX7_login_29 (by decide) ?_
      exact rtx_i F hr hlk hQ hw (mB, mb, ms, mt, cbf, mkf, cnf, sop, sow, cf, tf, sid, sbe, sla, cl, tn, bgn) (⟨c_4, k, hk, rfl, Or.inl ⟨c_26, rfl, rfl, rfl, rfl, rfl, rfl, rfl, rfl, rfl, rfl, rfl⟩⟩) rfl dX7_login_31
  · exact thr_IAE F hst hw hlk hex hQ (⟨rfl, c_4⟩) hl.1 (Nat.le_of_ble_eq_true rfl) (by decide) (by decide) dX7_login_7 dX7_login_10 dX7_login_11 dX7_login_14
def rvF (sop sow : Nat → Int32) (x : Int32) : Nat → (Nat → Int32) × Nat
  | 0 => (sop, 0)
  | k + 1 => if (rvF sop sow x k).1 k = 0 then rvF sop sow x k else if sow k = x then (upd (rvF sop sow x k).1 k (nI 0), (rvF sop sow x k).2 + 1) else rvF sop sow x k
theorem rv_0 {sop sow : Nat → Int32} {x : Int32} {k : Nat} (h : (rvF sop sow x k).1 k = 0) : rvF sop sow x (k + 1) = rvF sop sow x k := if_pos h
theorem rv_1 {sop sow : Nat → Int32} {x : Int32} {k : Nat} (h : ¬ (rvF sop sow x k).1 k = 0) (h2 : ¬ sow k = x) : rvF sop sow x (k + 1) = rvF sop sow x k := (if_neg h).trans (if_neg h2)
theorem rv_2 {sop sow : Nat → Int32} {x : Int32} {k : Nat} (h : ¬ (rvF sop sow x k).1 k = 0) (h2 : sow k = x) : rvF sop sow x (k + 1) = (upd (rvF sop sow x k).1 k (nI 0), (rvF sop sow x k).2 + 1) := (if_neg h).trans (if_pos h2)
set_option maxHeartbeats 4000000 in
set_option maxRecDepth 100000 in
theorem c_X7_revoke (g : GG) (l : Launch) (ad : Nat → Nat) (ka : Nat → Nat) (kb : Nat → Nat) (ua : Nat → Nat) (sa : Nat → Nat) (now : Int64) (gr : Int64) (mo : Int64) (re : Int64) (bgn : Int32) (lin : Int32) (rfd : Int32) (rnd : Int32) (mB : Nat → Int32) (mb : Nat → Int32) (ms : Nat → Int32) (mt : Nat → Int32) (kept : Nat) (np : Nat) (cl : Nat) (cf : Nat → Int32) (tn : Nat) (tf : Nat → Int32) (dl : Nat) (df : Nat → Int32) (sdf : Nat → Int32) (cnf : Nat → Int32) (cbf : Nat → Int32) (mkf : Nat → Int32) (num : Nat → Int32) (rep : Nat → Int64) (kf : Nat → Nat → Int32) (uto : Nat → Int32) (ufi : Nat → Int32) (use : Nat → Int32) (sop : Nat → Int32) (sow : Nat → Int32) (sid : Nat → Int64) (sbe : Nat → Int64) (sla : Nat → Int64) (x : Int32) (hst : l.stackTraces = false) : Xt g l yX7_revoke cX7_revoke 4 (some .int) 6 89 [.ref (ad 0), .int x] (gX g ad ka ua sa now gr mo re bgn lin rfd rnd mB mb ms mt kept np cl cf tn tf dl df sdf cnf cbf mkf ++ (tl 4 ka (kE kb num rep) ++ (tl 4 kb (bE g kf) ++ (tl 8 ua (uE uto ufi use) ++ (tl 8 sa (sE sop sow sid sbe sla) ++ []))))) (Ri g (fun (v : Int32) (u : Unit) => ¬ usI x = 0 ∧ v = nI (rvF sop sow x 8).2) (fun (u : Unit) => (gX g ad ka ua sa now gr mo re bgn lin rfd rnd mB mb ms mt kept np cl cf tn tf dl df sdf cnf cbf mkf ++ (tl 4 ka (kE kb num rep) ++ (tl 4 kb (bE g kf) ++ (tl 8 ua (uE uto ufi use) ++ (tl 8 sa (sE ((rvF sop sow x 8).1) sow sid sbe sla) ++ []))))))) (fun E => E = "java/lang/IllegalArgumentException" ∧ usI x = 0) := by
  refine mkX (by decide) (Nat.le_of_ble_eq_true rfl) ?_
  intro p e s m args below meth c A ls QQ F hr hlk hex hQ hw hl
  have hx := F.1
  have hb := F.2.1
  replace hl : lv_has ls 4 [(0, .ref (ad 0)), (1, .int x)] := hl
  refine lv_iload_n hx hb dX7_revoke_0 rfl (lv_at hl 1 rfl) ?_
  refine cl_i hw [] rfl (rn_S F hw (c_X7_isUser g l x) (cw_X7_121 F.2.2.2.2 ⟨by decide, by decide⟩) [] (by decide) rfl hl.1 rfl (Nat.le_of_ble_eq_true rfl) dX7_revoke_1 ⟨Nat.zero_le _, Nat.zero_le _⟩) (fun _ => rfl) (fun v_2 u_1 H locs hp_3 hw => ?_)
  subst hp_3
  replace hw : Wd g s A H locs (gX g ad ka ua sa now gr mo re bgn lin rfd rnd mB mb ms mt kept np cl cf tn tf dl df sdf cnf cbf mkf ++ (tl 4 ka (kE kb num rep) ++ (tl 4 kb (bE g kf) ++ (tl 8 ua (uE uto ufi use) ++ (tl 8 sa (sE sop sow sid sbe sla) ++ []))))) := hw
  refine lv_if_ne (tgt := 15) hx hb dX7_revoke_4 (by decide) (fun c_4 => ?_) (fun c_4 => ?_)
  · refine lv_iconst (v := nI 0) hx hb dX7_revoke_15 (by decide) ?_
    refine lv_istore_n (lv' := [(2, .int (nI 0)), (0, .ref (ad 0)), (1, .int x)]) hx hb dX7_revoke_16 rfl hl (by decide) rfl (fun ls hl => ?_)
    refine lv_iconst (v := nI 0) hx hb dX7_revoke_17 (by decide) ?_
    refine lv_istore_n (lv' := [(3, .int (nI 0)), (2, .int (nI 0)), (0, .ref (ad 0)), (1, .int x)]) hx hb dX7_revoke_18 rfl hl (by decide) rfl (fun ls hl => ?_)
    have L_19 : ∀ (nn k : Nat), k ≤ 8 → 8 < k + nn → ∀ (H : Heap) (locs : List Loc) (ls : Array Slot), Wd g s A H locs (gX g ad ka ua sa now gr mo re bgn lin rfd rnd mB mb ms mt kept np cl cf tn tf dl df sdf cnf cbf mkf ++ (tl 4 ka (kE kb num rep) ++ (tl 4 kb (bE g kf) ++ (tl 8 ua (uE uto ufi use) ++ (tl 8 sa (sE ((rvF sop sow x k).1) sow sid sbe sla) ++ []))))) → lv_has ls 4 [(0, .ref (ad 0)), (1, .int x), (2, .int (nI ((rvF sop sow x k).2))), (3, .int (nI k))] → W p l e (rmx 6 89) s m args below meth c H locs 0 0 QQ (F0 m 19 ls []) := by
      intro nn
      induction nn with
      | zero => intro k h1 h2; exact absurd h2 (by omega)
      | succ nn ih =>
        intro k hk_k hn_k H locs ls hw hl
        refine lv_iload_n hx hb dX7_revoke_19 rfl (lv_at hl 3 rfl) ?_
        refine lv_bipush (v := nI 8) hx hb dX7_revoke_20 (by decide) ?_
        refine n_ge (tgt := 69) hx hb (by omega) (by omega) dX7_revoke_22 (by decide) (fun c_22 => ?_) (fun c_22 => ?_)
        · obtain rfl : k = 8 := by omega
          refine lv_iload_n hx hb dX7_revoke_69 rfl (lv_at hl 2 rfl) ?_
          exact rtx_i F hr hlk hQ hw () (⟨c_4, rfl⟩) rfl dX7_revoke_70
        · refine lv_aload_n hx hb dX7_revoke_25 rfl (lv_at hl 0 rfl) ?_
          refine gf_X7_44 F hw 0 rfl rfl dX7_revoke_26 ?_
          refine lv_iload_n hx hb dX7_revoke_29 rfl (lv_at hl 3 rfl) ?_
          refine ra_ld F hw 15 4 rfl rfl (by omega) (by omega) rfl dX7_revoke_30 ?_
          refine gf_X7_163 F hw (36 + k) (tg4 rfl (by omega)) rfl dX7_revoke_31 ?_
          refine lv_if_eq (tgt := 63) hx hb dX7_revoke_34 (by decide) (fun c_34 => ?_) (fun c_34 => ?_)
          · refine lv_iinc (v := nI (k + 1)) (lv' := [(3, .int (nI (k + 1))), (0, .ref (ad 0)), (1, .int x), (2, .int (nI ((rvF sop sow x k).2)))]) hx hb dX7_revoke_63 hl (k := 3) rfl (inc_n _ 1) (by decide) rfl (fun ls hl => ?_)
            refine lv_goto (tgt := 19) hx hb dX7_revoke_66 (by decide) ?_
            first | (have e9 := rv_0 c_34; rw [← e9] at hw hl) | (have e9 := rv_1 c_34 c_47; rw [← e9] at hw hl) | (have e9 := rv_2 c_34 c_47; have e8 := congrArg Prod.fst e9; have e7 := congrArg Prod.snd e9; dsimp only at e8 e7; rw [← e8] at hw; rw [← e7] at hl)
            exact ih (k + 1) (by omega) (by omega) _ _ _ hw (lv_sub hl [1, 2, 3, 0] rfl)
          · refine lv_aload_n hx hb dX7_revoke_37 rfl (lv_at hl 0 rfl) ?_
            refine gf_X7_44 F hw 0 rfl rfl dX7_revoke_38 ?_
            refine lv_iload_n hx hb dX7_revoke_41 rfl (lv_at hl 3 rfl) ?_
            refine ra_ld F hw 15 4 rfl rfl (by omega) (by omega) rfl dX7_revoke_42 ?_
            refine gf_X7_167 F hw (36 + k) (tg4 rfl (by omega)) rfl dX7_revoke_43 ?_
            refine lv_iload_n hx hb dX7_revoke_46 rfl (lv_at hl 1 rfl) ?_
            refine lv_icmp_ne (tgt := 63) hx hb dX7_revoke_47 (by decide) (fun c_47 => ?_) (fun c_47 => ?_)
            · refine lv_iinc (v := nI (k + 1)) (lv' := [(3, .int (nI (k + 1))), (0, .ref (ad 0)), (1, .int x), (2, .int (nI ((rvF sop sow x k).2)))]) hx hb dX7_revoke_63 hl (k := 3) rfl (inc_n _ 1) (by decide) rfl (fun ls hl => ?_)
              refine lv_goto (tgt := 19) hx hb dX7_revoke_66 (by decide) ?_
              first | (have e9 := rv_0 c_34; rw [← e9] at hw hl) | (have e9 := rv_1 c_34 c_47; rw [← e9] at hw hl) | (have e9 := rv_2 c_34 c_47; have e8 := congrArg Prod.fst e9; have e7 := congrArg Prod.snd e9; dsimp only at e8 e7; rw [← e8] at hw; rw [← e7] at hl)
              exact ih (k + 1) (by omega) (by omega) _ _ _ hw (lv_sub hl [1, 2, 3, 0] rfl)
            · refine lv_aload_n hx hb dX7_revoke_50 rfl (lv_at hl 0 rfl) ?_
              refine gf_X7_44 F hw 0 rfl rfl dX7_revoke_51 ?_
              refine lv_iload_n hx hb dX7_revoke_54 rfl (lv_at hl 3 rfl) ?_
              refine ra_ld F hw 15 4 rfl rfl (by omega) (by omega) rfl dX7_revoke_55 ?_
              refine lv_iconst (v := nI 0) hx hb dX7_revoke_56 (by decide) ?_
              refine pf_X7_163 F hw (36 + k) (tg4 rfl (by omega)) (Nat.le_of_ble_eq_true rfl) rfl rfl dX7_revoke_57 (fun H locs hw => ?_)
              replace hw : Wd g s A H locs (gX g ad ka ua sa now gr mo re bgn lin rfd rnd mB mb ms mt kept np cl cf tn tf dl df sdf cnf cbf mkf ++ (tl 4 ka (kE kb num rep) ++ (tl 4 kb (bE g kf) ++ (tl 8 ua (uE uto ufi use) ++ (tl 8 sa (sE (upd ((rvF sop sow x k).1) k (nI 0)) sow sid sbe sla) ++ []))))) := wd_eq (ts4 rfl (by omega) (by funext z; by_cases hz : z = k <;> simp [va_up, sE, upd, vp_updL, hz])) hw
              refine lv_iinc (v := nI ((rvF sop sow x k).2 + 1)) (lv' := [(2, .int (nI ((rvF sop sow x k).2 + 1))), (0, .ref (ad 0)), (1, .int x), (3, .int (nI k))]) hx hb dX7_revoke_60 hl (k := 2) rfl (inc_n _ 1) (by decide) rfl (fun ls hl => ?_)
              refine lv_iinc (v := nI (k + 1)) (lv' := [(3, .int (nI (k + 1))), (2, .int (nI ((rvF sop sow x k).2 + 1))), (0, .ref (ad 0)), (1, .int x)]) hx hb dX7_revoke_63 hl (k := 3) rfl (inc_n _ 1) (by decide) rfl (fun ls hl => ?_)
              refine lv_goto (tgt := 19) hx hb dX7_revoke_66 (by decide) ?_
              first | (have e9 := rv_0 c_34; rw [← e9] at hw hl) | (have e9 := rv_1 c_34 c_47; rw [← e9] at hw hl) | (have e9 := rv_2 c_34 c_47; have e8 := congrArg Prod.fst e9; have e7 := congrArg Prod.snd e9; dsimp only at e8 e7; rw [← e8] at hw; rw [← e7] at hl)
              exact ih (k + 1) (by omega) (by omega) _ _ _ hw (lv_sub hl [2, 3, 1, 0] rfl)
    exact L_19 (8 + 1) 0 (by omega) (by omega) _ _ _ hw (lv_sub hl [2, 3, 1, 0] rfl)
  · exact thr_IAE F hst hw hlk hex hQ (⟨rfl, c_4⟩) hl.1 (Nat.le_of_ble_eq_true rfl) (by decide) (by decide) dX7_revoke_7 dX7_revoke_10 dX7_revoke_11 dX7_revoke_14
