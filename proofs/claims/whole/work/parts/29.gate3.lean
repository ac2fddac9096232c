theorem us_nat {x : Int32} (h : ¬ usI x = 0) : ∃ k, k < 8 ∧ x = nI k := by
  unfold usI at h
  by_cases h1 : x < 0
  · rw [if_pos h1] at h; exact absurd rfl h
  · rw [if_neg h1] at h
    by_cases h2 : nI 8 ≤ x
    · rw [if_pos h2] at h; exact absurd rfl h
    · obtain ⟨j, hj, rfl⟩ := nI_of h1
      exact ⟨j, Nat.lt_of_not_le (fun z => h2 (nI_le z hj)), rfl⟩
theorem jd_nat {kept np cl tn : Nat} {cf tf num sop sow : Nat → Int32} {rep sid sbe sla : Nat → Int64} {kf : Nat → Nat → Int32} {now gr mo re : Int64} {ch v : Int32} {s2 : Nat → Int32} (h : jdP kept np cl cf tn tf num rep kf sop sow sid sbe sla now gr mo re ch v s2) (hv : ¬ v < 0) : ∃ n, n < 8 ∧ v = nI n := by
  rcases h with ⟨-, rfl, -⟩ | ⟨-, -, rfl, -⟩ | ⟨-, k, -, -, -, h⟩
  · exact absurd (by decide) hv
  · exact absurd (by decide) hv
  · rcases h with ⟨-, rfl, -⟩ | ⟨-, -, rfl, -⟩ | ⟨-, n, hn, -, -, h⟩
    · exact absurd (by decide) hv
    · exact absurd (by decide) hv
    · rcases h with ⟨-, rfl, -⟩ | ⟨-, -, rfl, -⟩ | ⟨-, -, -, h⟩
      · exact absurd (by decide) hv
      · exact absurd (by decide) hv
      · rcases h with ⟨-, rfl⟩ | ⟨-, -, rfl⟩ | ⟨-, -, rfl⟩
        · exact ⟨n, hn, rfl⟩
        · exact ⟨n, hn, rfl⟩
        · exact absurd (by decide) hv
set_option maxHeartbeats 4000000 in
set_option maxRecDepth 100000 in
theorem c_X7_seed (g : GG) (l : Launch) (ad : Nat → Nat) (ka : Nat → Nat) (kb : Nat → Nat) (ua : Nat → Nat) (sa : Nat → Nat) (now : Int64) (gr : Int64) (mo : Int64) (re : Int64) (bgn : Int32) (lin : Int32) (rfd : Int32) (rnd : Int32) (mB : Nat → Int32) (mb : Nat → Int32) (ms : Nat → Int32) (mt : Nat → Int32) (kept : Nat) (np : Nat) (cl : Nat) (cf : Nat → Int32) (tn : Nat) (tf : Nat → Int32) (dl : Nat) (df : Nat → Int32) (sdf : Nat → Int32) (cnf : Nat → Int32) (cbf : Nat → Int32) (mkf : Nat → Int32) (num : Nat → Int32) (rep : Nat → Int64) (kf : Nat → Nat → Int32) (uto : Nat → Int32) (ufi : Nat → Int32) (use : Nat → Int32) (sop : Nat → Int32) (sow : Nat → Int32) (sid : Nat → Int64) (sbe : Nat → Int64) (sla : Nat → Int64) (x : Int64) : Ct g l yX7_seed cX7_seed 3 none 1 24 [.ref (ad 0), .long x] (gX g ad ka ua sa now gr mo re bgn lin rfd rnd mB mb ms mt kept np cl cf tn tf dl df sdf cnf cbf mkf ++ (tl 4 ka (kE kb num rep) ++ (tl 4 kb (bE g kf) ++ (tl 8 ua (uE uto ufi use) ++ (tl 8 sa (sE sop sow sid sbe sla) ++ []))))) (Rv g (fun (u : Unit) => True) (fun (u : Unit) => (gX g ad ka ua sa now gr mo re (nI 0) lin rfd rnd mB mb ms mt kept np cl cf tn tf dl df (wlF x 0 sdf 8) cnf cbf mkf ++ (tl 4 ka (kE kb num rep) ++ (tl 4 kb (bE g kf) ++ (tl 8 ua (uE uto ufi use) ++ (tl 8 sa (sE sop sow sid sbe sla) ++ []))))))) := by
  refine mkC (by decide) (Nat.le_of_ble_eq_true rfl) ?_
  intro p e s m args below meth c A ls QQ F hr hlk hnm hQ hw hl
  have hx := F.1
  have hb := F.2.1
  replace hl : lv_has ls 3 [(0, .ref (ad 0)), (1, .long x)] := hl
  refine lv_lload_n hx hb dX7_seed_0 rfl (lv_at hl 1 rfl) ?_
  refine lv_aload_n hx hb dX7_seed_1 rfl (lv_at hl 0 rfl) ?_
  refine gf_X7_48 F hw 0 rfl rfl dX7_seed_2 ?_
  refine lv_iconst (v := nI 0) hx hb dX7_seed_5 (by decide) ?_
  refine cl_v hw [16] rfl (rn_S F hw (c_X7_writeLong g l (ad 16) 8 sdf x 0 (by omega) (by omega)) (cw_X7_91 F.2.2.2.2 ⟨by decide, by decide⟩) [16] (by decide) rfl hl.1 rfl (Nat.le_of_ble_eq_true rfl) dX7_seed_6 ⟨Nat.zero_le _, Nat.zero_le _⟩) (fun _ => rfl) (fun u_1 H locs hp_3 hw => ?_)
  replace hw : Wd g s A H locs (gX g ad ka ua sa now gr mo re bgn lin rfd rnd mB mb ms mt kept np cl cf tn tf dl df (wlF x 0 sdf 8) cnf cbf mkf ++ (tl 4 ka (kE kb num rep) ++ (tl 4 kb (bE g kf) ++ (tl 8 ua (uE uto ufi use) ++ (tl 8 sa (sE sop sow sid sbe sla) ++ []))))) := hw
  refine lv_aload_n hx hb dX7_seed_9 rfl (lv_at hl 0 rfl) ?_
  refine lv_iconst (v := nI 0) hx hb dX7_seed_10 (by decide) ?_
  refine pf_X7_76 F hw 0 rfl (Nat.le_of_ble_eq_true rfl) rfl rfl dX7_seed_11 (fun H locs hw => ?_)
  replace hw : Wd g s A H locs (gX g ad ka ua sa now gr mo re (nI 0) lin rfd rnd mB mb ms mt kept np cl cf tn tf dl df (wlF x 0 sdf 8) cnf cbf mkf ++ (tl 4 ka (kE kb num rep) ++ (tl 4 kb (bE g kf) ++ (tl 8 ua (uE uto ufi use) ++ (tl 8 sa (sE sop sow sid sbe sla) ++ []))))) := hw
  exact rt_v F hr hlk hQ hw () trivial rfl dX7_seed_14
set_option maxHeartbeats 4000000 in
set_option maxRecDepth 100000 in
theorem c_X7_change (g : GG) (l : Launch) (ad : Nat → Nat) (ka : Nat → Nat) (kb : Nat → Nat) (ua : Nat → Nat) (sa : Nat → Nat) (now : Int64) (gr : Int64) (mo : Int64) (re : Int64) (bgn : Int32) (lin : Int32) (rfd : Int32) (rnd : Int32) (mB : Nat → Int32) (mb : Nat → Int32) (ms : Nat → Int32) (mt : Nat → Int32) (kept : Nat) (np : Nat) (cl : Nat) (cf : Nat → Int32) (tn : Nat) (tf : Nat → Int32) (dl : Nat) (df : Nat → Int32) (sdf : Nat → Int32) (cnf : Nat → Int32) (cbf : Nat → Int32) (mkf : Nat → Int32) (num : Nat → Int32) (rep : Nat → Int64) (kf : Nat → Nat → Int32) (uto : Nat → Int32) (ufi : Nat → Int32) (use : Nat → Int32) (sop : Nat → Int32) (sow : Nat → Int32) (sid : Nat → Int64) (sbe : Nat → Int64) (sla : Nat → Int64) (pa : Int32) (pb : Int32) (pc : Int32) (pd : Int32) (hnp : np < 4) (hke : kept ≤ 4) : Ct g l yX7_change cX7_change 6 (some .int) 2 46 [.ref (ad 0), .int pa, .int pb, .int pc, .int pd] (gX g ad ka ua sa now gr mo re bgn lin rfd rnd mB mb ms mt kept np cl cf tn tf dl df sdf cnf cbf mkf ++ (tl 4 ka (kE kb num rep) ++ (tl 4 kb (bE g kf) ++ (tl 8 ua (uE uto ufi use) ++ (tl 8 sa (sE sop sow sid sbe sla) ++ []))))) (Ri g (fun (v : Int32) (u : Nat) => v = ((num np + nI 1) &&& nI 255) ∧ u = if kept < 4 then kept + 1 else kept) (fun (u : Nat) => (gX g ad ka ua sa now gr mo re bgn lin rfd rnd mB mb ms mt u ((np + 1) % 4) cl cf tn tf dl df sdf cnf cbf mkf ++ (tl 4 ka (kE kb (upd num ((np + 1) % 4) ((num np + nI 1) &&& nI 255)) (vp_updL rep np now)) ++ (tl 4 kb (bE g (va_up kf ((np + 1) % 4) (flK pa pb pc pd (kf ((np + 1) % 4)) 4))) ++ (tl 8 ua (uE uto ufi use) ++ (tl 8 sa (sE sop sow sid sbe sla) ++ []))))))) := by
  refine mkC (by decide) (Nat.le_of_ble_eq_true rfl) ?_
  intro p e s m args below meth c A ls QQ F hr hlk hnm hQ hw hl
  have hx := F.1
  have hb := F.2.1
  replace hl : lv_has ls 6 [(0, .ref (ad 0)), (1, .int pa), (2, .int pb), (3, .int pc), (4, .int pd)] := hl
  refine lv_aload_n hx hb dX7_change_0 rfl (lv_at hl 0 rfl) ?_
  refine gf_X7_19 F hw 0 rfl rfl dX7_change_1 ?_
  refine lv_aload_n hx hb dX7_change_4 rfl (lv_at hl 0 rfl) ?_
  refine gf_X7_61 F hw 0 rfl rfl dX7_change_5 ?_
  refine cl_v hw [6, 7, 20, 21, 22, 23] rfl (rn_V F hw (c_X2_advance g l (ad 6) (ad 7) ka kept np kb num rep now (by omega) (by omega)) (cw_X7_104 F.2.2.2.2 ⟨by decide, by decide⟩) [6, 7, 20, 21, 22, 23] (by decide) rfl 6 rfl rfl rfl hl.1 rfl (Nat.le_of_ble_eq_true rfl) dX7_change_8 ⟨Nat.zero_le _, Nat.zero_le _⟩) (fun _ => rfl) (fun u_1 H locs hp_3 hw => ?_)
  replace hw : Wd g s A H locs (gX g ad ka ua sa now gr mo re bgn lin rfd rnd mB mb ms mt u_1 ((np + 1) % 4) cl cf tn tf dl df sdf cnf cbf mkf ++ (tl 4 ka (kE kb (upd num ((np + 1) % 4) ((num np + nI 1) &&& nI 255)) (vp_updL rep np now)) ++ (tl 4 kb (bE g kf) ++ (tl 8 ua (uE uto ufi use) ++ (tl 8 sa (sE sop sow sid sbe sla) ++ []))))) := hw
  have q1 := hp_3
  refine lv_aload_n hx hb dX7_change_11 rfl (lv_at hl 0 rfl) ?_
  refine gf_X7_19 F hw 0 rfl rfl dX7_change_12 ?_
  refine cl_q hw [6, 7] rfl (rn_V F hw (c_X2_newest g l (ad 6) (ad 7) ka u_1 ((np + 1) % 4) (by omega)) (cw_X7_108 F.2.2.2.2 ⟨by decide, by decide⟩) [6, 7] (by decide) rfl 6 rfl rfl rfl hl.1 rfl (Nat.le_of_ble_eq_true rfl) dX7_change_15 ⟨Nat.zero_le _, Nat.zero_le _⟩) (fun _ => rfl) (fun v_5 u_4 H locs hp_6 hw => ?_)
  subst hp_6
  replace hw : Wd g s A H locs (gX g ad ka ua sa now gr mo re bgn lin rfd rnd mB mb ms mt u_1 ((np + 1) % 4) cl cf tn tf dl df sdf cnf cbf mkf ++ (tl 4 ka (kE kb (upd num ((np + 1) % 4) ((num np + nI 1) &&& nI 255)) (vp_updL rep np now)) ++ (tl 4 kb (bE g kf) ++ (tl 8 ua (uE uto ufi use) ++ (tl 8 sa (sE sop sow sid sbe sla) ++ []))))) := hw
  refine lv_astore (lv' := [(5, .ref (ka ((np + 1) % 4))), (0, .ref (ad 0)), (1, .int pa), (2, .int pb), (3, .int pc), (4, .int pd)]) hx hb dX7_change_18 hl (by decide) rfl (fun ls hl => ?_)
  refine lv_aload hx hb dX7_change_20 (lv_at hl 0 rfl) ?_
  refine lv_iload_n hx hb dX7_change_22 rfl (lv_at hl 2 rfl) ?_
  refine lv_iload_n hx hb dX7_change_23 rfl (lv_at hl 3 rfl) ?_
  refine lv_iload_n hx hb dX7_change_24 rfl (lv_at hl 4 rfl) ?_
  refine lv_iload hx hb dX7_change_25 (lv_at hl 5 rfl) ?_
  have hC9 : List.map (fun zz9 : Nat => ((gX g ad ka ua sa now gr mo re bgn lin rfd rnd mB mb ms mt u_1 ((np + 1) % 4) cl cf tn tf dl df sdf cnf cbf mkf ++ (tl 4 ka (kE kb (upd num ((np + 1) % 4) ((num np + nI 1) &&& nI 255)) (vp_updL rep np now)) ++ (tl 4 kb (bE g kf) ++ (tl 8 ua (uE uto ufi use) ++ (tl 8 sa (sE sop sow sid sbe sla) ++ []))))))[zz9]?) [(20 + ((np + 1) % 4)), (24 + ((np + 1) % 4))] = List.map some [(ka ((np + 1) % 4), .inr (0, [.ref (kb ((np + 1) % 4)), .int (((upd num ((np + 1) % 4) ((num np + nI 1) &&& nI 255)) ((np + 1) % 4))), .long (((vp_updL rep np now) ((np + 1) % 4)))])), (kb ((np + 1) % 4), iA g 16 (kf ((np + 1) % 4)))] := (l_c (tg1 rfl (by omega)) (l_c (tg2 rfl (by omega)) rfl))
  refine cl_v hw [(20 + ((np + 1) % 4)), (24 + ((np + 1) % 4))] hC9 (rn_V F hw (c_X1_fill g l (ka ((np + 1) % 4)) (kb ((np + 1) % 4)) ((upd num ((np + 1) % 4) ((num np + nI 1) &&& nI 255)) ((np + 1) % 4)) ((vp_updL rep np now) ((np + 1) % 4)) (kf ((np + 1) % 4)) pa pb pc pd) (cw_X7_112 F.2.2.2.2 ⟨by decide, by decide⟩) [(20 + ((np + 1) % 4)), (24 + ((np + 1) % 4))] (by simp [va_nd] <;> omega) hC9 (20 + ((np + 1) % 4)) (tg1 rfl (by omega)) rfl rfl hl.1 rfl (Nat.le_of_ble_eq_true rfl) dX7_change_27 ⟨Nat.zero_le _, Nat.zero_le _⟩) (fun _ => rfl) (fun u_7 H locs hp_9 hw => ?_)
  replace hw : Wd g s A H locs (List.set (List.set (gX g ad ka ua sa now gr mo re bgn lin rfd rnd mB mb ms mt u_1 ((np + 1) % 4) cl cf tn tf dl df sdf cnf cbf mkf ++ (tl 4 ka (kE kb (upd num ((np + 1) % 4) ((num np + nI 1) &&& nI 255)) (vp_updL rep np now)) ++ (tl 4 kb (bE g kf) ++ (tl 8 ua (uE uto ufi use) ++ (tl 8 sa (sE sop sow sid sbe sla) ++ []))))) (20 + ((np + 1) % 4)) (ka ((np + 1) % 4), .inr (0, [.ref (kb ((np + 1) % 4)), .int (((upd num ((np + 1) % 4) ((num np + nI 1) &&& nI 255)) ((np + 1) % 4))), .long (((vp_updL rep np now) ((np + 1) % 4)))]))) (24 + ((np + 1) % 4)) (kb ((np + 1) % 4), iA g 16 (flK pa pb pc pd (kf ((np + 1) % 4)) 4))) := hw
  rw [show List.set (gX g ad ka ua sa now gr mo re bgn lin rfd rnd mB mb ms mt u_1 ((np + 1) % 4) cl cf tn tf dl df sdf cnf cbf mkf ++ (tl 4 ka (kE kb (upd num ((np + 1) % 4) ((num np + nI 1) &&& nI 255)) (vp_updL rep np now)) ++ (tl 4 kb (bE g kf) ++ (tl 8 ua (uE uto ufi use) ++ (tl 8 sa (sE sop sow sid sbe sla) ++ []))))) (20 + ((np + 1) % 4)) (ka ((np + 1) % 4), .inr (0, [.ref (kb ((np + 1) % 4)), .int (((upd num ((np + 1) % 4) ((num np + nI 1) &&& nI 255)) ((np + 1) % 4))), .long (((vp_updL rep np now) ((np + 1) % 4)))])) = (gX g ad ka ua sa now gr mo re bgn lin rfd rnd mB mb ms mt u_1 ((np + 1) % 4) cl cf tn tf dl df sdf cnf cbf mkf ++ (tl 4 ka (kE kb (upd num ((np + 1) % 4) ((num np + nI 1) &&& nI 255)) (vp_updL rep np now)) ++ (tl 4 kb (bE g kf) ++ (tl 8 ua (uE uto ufi use) ++ (tl 8 sa (sE sop sow sid sbe sla) ++ []))))) from ts1 rfl (by omega) (by funext z; by_cases hz : z = (np + 1) % 4 <;> simp [va_up, kE, upd, vp_updL, hz])] at hw
  replace hw : Wd g s A H locs (gX g ad ka ua sa now gr mo re bgn lin rfd rnd mB mb ms mt u_1 ((np + 1) % 4) cl cf tn tf dl df sdf cnf cbf mkf ++ (tl 4 ka (kE kb (upd num ((np + 1) % 4) ((num np + nI 1) &&& nI 255)) (vp_updL rep np now)) ++ (tl 4 kb (bE g (va_up kf ((np + 1) % 4) (flK pa pb pc pd (kf ((np + 1) % 4)) 4))) ++ (tl 8 ua (uE uto ufi use) ++ (tl 8 sa (sE sop sow sid sbe sla) ++ []))))) := wd_eq (ts2 rfl (by omega) (by funext z; by_cases hz : z = (np + 1) % 4 <;> simp [va_up, bE, upd, vp_updL, hz])) hw
  refine lv_aload hx hb dX7_change_30 (lv_at hl 0 rfl) ?_
  refine gf_X7_118 F hw (20 + ((np + 1) % 4)) (tg1 rfl (by omega)) rfl dX7_change_32 ?_
  exact rt_i F hr hlk hQ hw u_1 (⟨upd_s _ _ _, q1⟩) rfl dX7_change_35
set_option maxHeartbeats 4000000 in
set_option maxRecDepth 100000 in
theorem c_X7_request (g : GG) (l : Launch) (ad : Nat → Nat) (ka : Nat → Nat) (kb : Nat → Nat) (ua : Nat → Nat) (sa : Nat → Nat) (now : Int64) (gr : Int64) (mo : Int64) (re : Int64) (bgn : Int32) (lin : Int32) (rfd : Int32) (rnd : Int32) (mB : Nat → Int32) (mb : Nat → Int32) (ms : Nat → Int32) (mt : Nat → Int32) (kept : Nat) (np : Nat) (cl : Nat) (cf : Nat → Int32) (tn : Nat) (tf : Nat → Int32) (dl : Nat) (df : Nat → Int32) (sdf : Nat → Int32) (cnf : Nat → Int32) (cbf : Nat → Int32) (mkf : Nat → Int32) (num : Nat → Int32) (rep : Nat → Int64) (kf : Nat → Nat → Int32) (uto : Nat → Int32) (ufi : Nat → Int32) (use : Nat → Int32) (sop : Nat → Int32) (sow : Nat → Int32) (sid : Nat → Int64) (sbe : Nat → Int64) (sla : Nat → Int64) (ch : Int32) (hnp : np < 4) (hke : kept ≤ 4) (hcl : cl ≤ 40) (htn : tn ≤ 40) (hdl : dl ≤ 40) (hcf : isB cf) (htf : isB tf) : Ct g l yX7_request cX7_request 3 (some .int) 8 202 [.ref (ad 0), .int ch] (gX g ad ka ua sa now gr mo re bgn lin rfd rnd mB mb ms mt kept np cl cf tn tf dl df sdf cnf cbf mkf ++ (tl 4 ka (kE kb num rep) ++ (tl 4 kb (bE g kf) ++ (tl 8 ua (uE uto ufi use) ++ (tl 8 sa (sE sop sow sid sbe sla) ++ []))))) (Ri g (fun (v : Int32) (u : (Nat → Int32) × (Nat → Int32) × (Nat → Int32) × (Nat → Int32) × (Nat → Int32) × (Nat → Int32) × (Nat → Int32) × (Nat → Int32) × Nat × (Nat → Int64) × Nat × (Nat → Int32) × Nat × (Nat → Int32) × Int32 × Int32 × Int32) => jdP kept np cl cf tn tf num rep kf sop sow sid sbe sla now gr mo re ch v u.2.2.2.2.2.2.2.1 ∧ u.2.2.2.2.2.2.2.2.1 ≤ 40 ∧ (u.2.2.2.2.2.2.2.2.2.2.2.2.2.2.1, u.2.2.2.2.2.2.2.2.2.2.2.2.2.2.2.1) = (if v < 0 then (lin, rfd + nI 1) else (lin + nI 1, rfd)) ∧ ((v < 0 ∧ u.2.2.2.2.2.2.2.2.2.1 = sla ∧ u.2.2.2.2.2.2.2.2.2.2.1 = cl ∧ u.2.2.2.2.2.2.2.2.2.2.2.1 = cf ∧ u.2.2.2.2.2.2.2.2.2.2.2.2.1 = tn ∧ u.2.2.2.2.2.2.2.2.2.2.2.2.2.1 = tf ∧ u.2.2.2.2.2.2.2.2.2.2.2.2.2.2.2.2 = rnd) ∨ (∃ n, n < 8 ∧ v = nI n ∧ u.2.2.2.2.2.2.2.2.2.1 = vp_updL sla n now ∧ ((dcb cf 0 = num np ∧ u.2.2.2.2.2.2.2.2.2.2.1 = cl ∧ u.2.2.2.2.2.2.2.2.2.2.2.1 = cf ∧ u.2.2.2.2.2.2.2.2.2.2.2.2.1 = tn ∧ u.2.2.2.2.2.2.2.2.2.2.2.2.2.1 = tf ∧ u.2.2.2.2.2.2.2.2.2.2.2.2.2.2.2.2 = rnd) ∨ (¬ dcb cf 0 = num np ∧ u.2.2.2.2.2.2.2.2.2.2.1 = 30 ∧ u.2.2.2.2.2.2.2.2.2.2.2.2.1 = 12 ∧ (∀ j, j < 30 → u.2.2.2.2.2.2.2.2.2.2.2.1 j = ckS (kf np) (num np) (sow n) (sid n) j) ∧ (∀ j, j < 12 → u.2.2.2.2.2.2.2.2.2.2.2.2.2.1 j = tkS (kf np) (bod (num np) (sow n) (sid n)) j) ∧ isB u.2.2.2.2.2.2.2.2.2.2.2.1 ∧ isB u.2.2.2.2.2.2.2.2.2.2.2.2.2.1 ∧ u.2.2.2.2.2.2.2.2.2.2.2.2.2.2.2.2 = rnd + nI 1))))) (fun (u : (Nat → Int32) × (Nat → Int32) × (Nat → Int32) × (Nat → Int32) × (Nat → Int32) × (Nat → Int32) × (Nat → Int32) × (Nat → Int32) × Nat × (Nat → Int64) × Nat × (Nat → Int32) × Nat × (Nat → Int32) × Int32 × Int32 × Int32) => (gX g ad ka ua sa now gr mo re bgn u.2.2.2.2.2.2.2.2.2.2.2.2.2.2.1 u.2.2.2.2.2.2.2.2.2.2.2.2.2.2.2.1 u.2.2.2.2.2.2.2.2.2.2.2.2.2.2.2.2 u.1 u.2.1 u.2.2.1 u.2.2.2.1 kept np u.2.2.2.2.2.2.2.2.2.2.1 u.2.2.2.2.2.2.2.2.2.2.2.1 u.2.2.2.2.2.2.2.2.2.2.2.2.1 u.2.2.2.2.2.2.2.2.2.2.2.2.2.1 u.2.2.2.2.2.2.2.2.1 u.2.2.2.2.2.2.1 sdf cnf u.2.2.2.2.1 u.2.2.2.2.2.1 ++ (tl 4 ka (kE kb num rep) ++ (tl 4 kb (bE g kf) ++ (tl 8 ua (uE uto ufi use) ++ (tl 8 sa (sE u.2.2.2.2.2.2.2.1 sow sid sbe u.2.2.2.2.2.2.2.2.2.1) ++ []))))))) := by
  refine mkC (by decide) (Nat.le_of_ble_eq_true rfl) ?_
  intro p e s m args below meth c A ls QQ F hr hlk hnm hQ hw hl
  have hx := F.1
  have hb := F.2.1
  replace hl : lv_has ls 3 [(0, .ref (ad 0)), (1, .int ch)] := hl
  refine lv_aload_n hx hb dX7_request_0 rfl (lv_at hl 0 rfl) ?_
  refine lv_iload_n hx hb dX7_request_1 rfl (lv_at hl 1 rfl) ?_
  refine cl_iF hw (rn_VF F hw (c_X7_judge g l ad ka kb ua sa now gr mo re bgn lin rfd rnd mB mb ms mt kept np cl cf tn tf dl df sdf cnf cbf mkf num rep kf uto ufi use sop sow sid sbe sla ch (by omega) (by omega) (by omega) (by omega) (by omega) (by omega)) (cw_X7_152 F.2.2.2.2 ⟨by decide, by decide⟩)    0 rfl rfl rfl hl.1 rfl (Nat.le_of_ble_eq_true rfl) dX7_request_2 ⟨Nat.zero_le _, Nat.zero_le _⟩) (fun v_2 u_1 H locs hp_3 hw => ?_)
  replace hw : Wd g s A H locs (gX g ad ka ua sa now gr mo re bgn lin rfd rnd u_1.1 u_1.2.1 u_1.2.2.1 u_1.2.2.2.1 kept np cl cf tn tf u_1.2.2.2.2.2.2.2.2 u_1.2.2.2.2.2.2.1 sdf cnf u_1.2.2.2.2.1 u_1.2.2.2.2.2.1 ++ (tl 4 ka (kE kb num rep) ++ (tl 4 kb (bE g kf) ++ (tl 8 ua (uE uto ufi use) ++ (tl 8 sa (sE u_1.2.2.2.2.2.2.2.1 sow sid sbe sla) ++ []))))) := hw
  have q1 := hp_3
  refine lv_istore_n (lv' := [(2, .int v_2), (0, .ref (ad 0)), (1, .int ch)]) hx hb dX7_request_5 rfl hl (by decide) rfl (fun ls hl => ?_)
  refine lv_aload_n hx hb dX7_request_6 rfl (lv_at hl 1 rfl) ?_
  refine lv_iload_n hx hb dX7_request_7 rfl (lv_at hl 0 rfl) ?_
  refine cl_vF hw (rn_VF F hw (c_X7_tally g l ad ka kb ua sa now gr mo re bgn lin rfd rnd u_1.1 u_1.2.1 u_1.2.2.1 u_1.2.2.2.1 kept np cl cf tn tf u_1.2.2.2.2.2.2.2.2 u_1.2.2.2.2.2.2.1 sdf cnf u_1.2.2.2.2.1 u_1.2.2.2.2.2.1 num rep kf uto ufi use u_1.2.2.2.2.2.2.2.1 sow sid sbe sla v_2) (cw_X7_156 F.2.2.2.2 ⟨by decide, by decide⟩)    0 rfl rfl rfl hl.1 rfl (Nat.le_of_ble_eq_true rfl) dX7_request_8 ⟨Nat.zero_le _, Nat.zero_le _⟩) (fun u_4 H locs hp_6 hw => ?_)
  replace hw : Wd g s A H locs (gX g ad ka ua sa now gr mo re bgn u_4.1 u_4.2 rnd u_1.1 u_1.2.1 u_1.2.2.1 u_1.2.2.2.1 kept np cl cf tn tf u_1.2.2.2.2.2.2.2.2 u_1.2.2.2.2.2.2.1 sdf cnf u_1.2.2.2.2.1 u_1.2.2.2.2.2.1 ++ (tl 4 ka (kE kb num rep) ++ (tl 4 kb (bE g kf) ++ (tl 8 ua (uE uto ufi use) ++ (tl 8 sa (sE u_1.2.2.2.2.2.2.2.1 sow sid sbe sla) ++ []))))) := hw
  have q2 := hp_6
  refine lv_iload_n hx hb dX7_request_11 rfl (lv_at hl 0 rfl) ?_
  refine lv_if_lt (tgt := 67) hx hb dX7_request_12 (by decide) (fun c_12 => ?_) (fun c_12 => ?_)
  · refine lv_iload_n hx hb dX7_request_67 rfl (lv_at hl 0 rfl) ?_
    exact rt_i F hr hlk hQ hw (u_1.1, u_1.2.1, u_1.2.2.1, u_1.2.2.2.1, u_1.2.2.2.2.1, u_1.2.2.2.2.2.1, u_1.2.2.2.2.2.2.1, u_1.2.2.2.2.2.2.2.1, u_1.2.2.2.2.2.2.2.2, sla, cl, cf, tn, tf, u_4.1, u_4.2, rnd) (by first | exact ⟨q1.1, q1.2.2, q2, Or.inl ⟨c_12, rfl, rfl, rfl, rfl, rfl, rfl⟩⟩ | exact ⟨q1.1, q1.2.2, q2, Or.inr ⟨n, hn, rfl, rfl, Or.inl ⟨(q1.2.1 (nI_pos' (by omega))).symm.trans c_44, rfl, rfl, rfl, rfl, rfl⟩⟩⟩ | exact ⟨q1.1, q1.2.2, q2, Or.inr ⟨n, hn, rfl, rfl, Or.inr ⟨fun h => c_44 ((q1.2.1 (nI_pos' (by omega))).trans h), rfl, rfl, q3.2.1, q3.2.2.1, q3.2.2.2.1 hcf, q3.2.2.2.2 htf, rfl⟩⟩⟩) rfl dX7_request_68
  · obtain ⟨n, hn, rfl⟩ := jd_nat q1.1 c_12
    refine lv_aload_n hx hb dX7_request_15 rfl (lv_at hl 1 rfl) ?_
    refine gf_X7_44 F hw 0 rfl rfl dX7_request_16 ?_
    refine lv_iload_n hx hb dX7_request_19 rfl (lv_at hl 0 rfl) ?_
    refine ra_ld F hw 15 4 rfl rfl (by omega) (by omega) rfl dX7_request_20 ?_
    refine lv_aload_n hx hb dX7_request_21 rfl (lv_at hl 1 rfl) ?_
    refine gf_X7_61 F hw 0 rfl rfl dX7_request_22 ?_
    refine pf_X7_160 F hw (36 + n) (tg4 rfl (by omega)) (Nat.le_of_ble_eq_true rfl) rfl rfl dX7_request_25 (fun H locs hw => ?_)
    replace hw : Wd g s A H locs (gX g ad ka ua sa now gr mo re bgn u_4.1 u_4.2 rnd u_1.1 u_1.2.1 u_1.2.2.1 u_1.2.2.2.1 kept np cl cf tn tf u_1.2.2.2.2.2.2.2.2 u_1.2.2.2.2.2.2.1 sdf cnf u_1.2.2.2.2.1 u_1.2.2.2.2.2.1 ++ (tl 4 ka (kE kb num rep) ++ (tl 4 kb (bE g kf) ++ (tl 8 ua (uE uto ufi use) ++ (tl 8 sa (sE u_1.2.2.2.2.2.2.2.1 sow sid sbe (vp_updL sla n now)) ++ []))))) := wd_eq (ts4 rfl (by omega) (by funext z; by_cases hz : z = n <;> simp [va_up, sE, upd, vp_updL, hz])) hw
    refine lv_aload_n hx hb dX7_request_28 rfl (lv_at hl 1 rfl) ?_
    refine gf_X7_55 F hw 0 rfl rfl dX7_request_29 ?_
    refine lv_iconst (v := nI 0) hx hb dX7_request_32 (by decide) ?_
    refine ia_ld F hw 18 rfl (by omega) (by omega) dX7_request_33 ?_
    refine lv_aload_n hx hb dX7_request_34 rfl (lv_at hl 1 rfl) ?_
    refine gf_X7_19 F hw 0 rfl rfl dX7_request_35 ?_
    refine cl_q hw [6, 7] rfl (rn_V F hw (c_X2_newest g l (ad 6) (ad 7) ka kept np (by omega)) (cw_X7_108 F.2.2.2.2 ⟨by decide, by decide⟩) [6, 7] (by decide) rfl 6 rfl rfl rfl hl.1 rfl (Nat.le_of_ble_eq_true rfl) dX7_request_38 ⟨Nat.zero_le _, Nat.zero_le _⟩) (fun _ => rfl) (fun v_8 u_7 H locs hp_9 hw => ?_)
    subst hp_9
    replace hw : Wd g s A H locs (gX g ad ka ua sa now gr mo re bgn u_4.1 u_4.2 rnd u_1.1 u_1.2.1 u_1.2.2.1 u_1.2.2.2.1 kept np cl cf tn tf u_1.2.2.2.2.2.2.2.2 u_1.2.2.2.2.2.2.1 sdf cnf u_1.2.2.2.2.1 u_1.2.2.2.2.2.1 ++ (tl 4 ka (kE kb num rep) ++ (tl 4 kb (bE g kf) ++ (tl 8 ua (uE uto ufi use) ++ (tl 8 sa (sE u_1.2.2.2.2.2.2.2.1 sow sid sbe (vp_updL sla n now)) ++ []))))) := hw
    refine gf_X7_118 F hw (20 + np) (tg1 rfl (by omega)) rfl dX7_request_41 ?_
    refine lv_icmp_eq (tgt := 67) hx hb dX7_request_44 (by decide) (fun c_44 => ?_) (fun c_44 => ?_)
    · refine lv_iload_n hx hb dX7_request_67 rfl (lv_at hl 0 rfl) ?_
      exact rt_i F hr hlk hQ hw (u_1.1, u_1.2.1, u_1.2.2.1, u_1.2.2.2.1, u_1.2.2.2.2.1, u_1.2.2.2.2.2.1, u_1.2.2.2.2.2.2.1, u_1.2.2.2.2.2.2.2.1, u_1.2.2.2.2.2.2.2.2, (vp_updL sla n now), cl, cf, tn, tf, u_4.1, u_4.2, rnd) (by first | exact ⟨q1.1, q1.2.2, q2, Or.inl ⟨c_12, rfl, rfl, rfl, rfl, rfl, rfl⟩⟩ | exact ⟨q1.1, q1.2.2, q2, Or.inr ⟨n, hn, rfl, rfl, Or.inl ⟨(q1.2.1 (nI_pos' (by omega))).symm.trans c_44, rfl, rfl, rfl, rfl, rfl⟩⟩⟩ | exact ⟨q1.1, q1.2.2, q2, Or.inr ⟨n, hn, rfl, rfl, Or.inr ⟨fun h => c_44 ((q1.2.1 (nI_pos' (by omega))).trans h), rfl, rfl, q3.2.1, q3.2.2.1, q3.2.2.2.1 hcf, q3.2.2.2.2 htf, rfl⟩⟩⟩) rfl dX7_request_68
    · refine lv_aload_n hx hb dX7_request_47 rfl (lv_at hl 1 rfl) ?_
      refine lv_aload_n hx hb dX7_request_48 rfl (lv_at hl 1 rfl) ?_
      refine gf_X7_44 F hw 0 rfl rfl dX7_request_49 ?_
      refine lv_iload_n hx hb dX7_request_52 rfl (lv_at hl 0 rfl) ?_
      refine ra_ld F hw 15 4 rfl rfl (by omega) (by omega) rfl dX7_request_53 ?_
      refine cl_vF hw (rn_VF F hw (c_X7_writeTexts g l ad ka kb ua sa now gr mo re bgn u_4.1 u_4.2 rnd u_1.1 u_1.2.1 u_1.2.2.1 u_1.2.2.2.1 kept np cl cf tn tf u_1.2.2.2.2.2.2.2.2 u_1.2.2.2.2.2.2.1 sdf cnf u_1.2.2.2.2.1 u_1.2.2.2.2.2.1 num rep kf uto ufi use u_1.2.2.2.2.2.2.2.1 sow sid sbe (vp_updL sla n now) n (by omega) (by omega) (by omega)) (cw_X7_148 F.2.2.2.2 ⟨by decide, by decide⟩)    0 rfl rfl rfl hl.1 rfl (Nat.le_of_ble_eq_true rfl) dX7_request_54 ⟨Nat.zero_le _, Nat.zero_le _⟩) (fun u_10 H locs hp_12 hw => ?_)
      replace hw : Wd g s A H locs (gX g ad ka ua sa now gr mo re bgn u_4.1 u_4.2 rnd u_10.1 u_10.2.1 u_10.2.2.1 u_10.2.2.2.1 kept np 30 u_10.2.2.2.2.2.2.1 12 u_10.2.2.2.2.2.2.2 u_1.2.2.2.2.2.2.2.2 u_1.2.2.2.2.2.2.1 sdf cnf u_10.2.2.2.2.1 u_10.2.2.2.2.2.1 ++ (tl 4 ka (kE kb num rep) ++ (tl 4 kb (bE g kf) ++ (tl 8 ua (uE uto ufi use) ++ (tl 8 sa (sE u_1.2.2.2.2.2.2.2.1 sow sid sbe (vp_updL sla n now)) ++ []))))) := hw
      have q3 := hp_12
      refine lv_aload_n hx hb dX7_request_57 rfl (lv_at hl 1 rfl) ?_
      refine lv_dup hx hb dX7_request_58 rfl ?_
      refine gf_X7_86 F hw 0 rfl rfl dX7_request_59 ?_
      refine lv_iconst (v := nI 1) hx hb dX7_request_62 (by decide) ?_
      refine lv_iadd hx hb dX7_request_63 ?_
      refine pf_X7_86 F hw 0 rfl (Nat.le_of_ble_eq_true rfl) rfl rfl dX7_request_64 (fun H locs hw => ?_)
      replace hw : Wd g s A H locs (gX g ad ka ua sa now gr mo re bgn u_4.1 u_4.2 (rnd + (nI 1)) u_10.1 u_10.2.1 u_10.2.2.1 u_10.2.2.2.1 kept np 30 u_10.2.2.2.2.2.2.1 12 u_10.2.2.2.2.2.2.2 u_1.2.2.2.2.2.2.2.2 u_1.2.2.2.2.2.2.1 sdf cnf u_10.2.2.2.2.1 u_10.2.2.2.2.2.1 ++ (tl 4 ka (kE kb num rep) ++ (tl 4 kb (bE g kf) ++ (tl 8 ua (uE uto ufi use) ++ (tl 8 sa (sE u_1.2.2.2.2.2.2.2.1 sow sid sbe (vp_updL sla n now)) ++ []))))) := hw
      refine lv_iload_n hx hb dX7_request_67 rfl (lv_at hl 0 rfl) ?_
      exact rt_i F hr hlk hQ hw (u_10.1, u_10.2.1, u_10.2.2.1, u_10.2.2.2.1, u_10.2.2.2.2.1, u_10.2.2.2.2.2.1, u_1.2.2.2.2.2.2.1, u_1.2.2.2.2.2.2.2.1, u_1.2.2.2.2.2.2.2.2, (vp_updL sla n now), 30, u_10.2.2.2.2.2.2.1, 12, u_10.2.2.2.2.2.2.2, u_4.1, u_4.2, (rnd + (nI 1))) (by first | exact ⟨q1.1, q1.2.2, q2, Or.inl ⟨c_12, rfl, rfl, rfl, rfl, rfl, rfl⟩⟩ | exact ⟨q1.1, q1.2.2, q2, Or.inr ⟨n, hn, rfl, rfl, Or.inl ⟨(q1.2.1 (nI_pos' (by omega))).symm.trans c_44, rfl, rfl, rfl, rfl, rfl⟩⟩⟩ | exact ⟨q1.1, q1.2.2, q2, Or.inr ⟨n, hn, rfl, rfl, Or.inr ⟨fun h => c_44 ((q1.2.1 (nI_pos' (by omega))).trans h), rfl, rfl, q3.2.1, q3.2.2.1, q3.2.2.2.1 hcf, q3.2.2.2.2 htf, rfl⟩⟩⟩) rfl dX7_request_68
set_option maxHeartbeats 4000000 in
set_option maxRecDepth 100000 in
theorem c_X7_logout (g : GG) (l : Launch) (ad : Nat → Nat) (ka : Nat → Nat) (kb : Nat → Nat) (ua : Nat → Nat) (sa : Nat → Nat) (now : Int64) (gr : Int64) (mo : Int64) (re : Int64) (bgn : Int32) (lin : Int32) (rfd : Int32) (rnd : Int32) (mB : Nat → Int32) (mb : Nat → Int32) (ms : Nat → Int32) (mt : Nat → Int32) (kept : Nat) (np : Nat) (cl : Nat) (cf : Nat → Int32) (tn : Nat) (tf : Nat → Int32) (dl : Nat) (df : Nat → Int32) (sdf : Nat → Int32) (cnf : Nat → Int32) (cbf : Nat → Int32) (mkf : Nat → Int32) (num : Nat → Int32) (rep : Nat → Int64) (kf : Nat → Nat → Int32) (uto : Nat → Int32) (ufi : Nat → Int32) (use : Nat → Int32) (sop : Nat → Int32) (sow : Nat → Int32) (sid : Nat → Int64) (sbe : Nat → Int64) (sla : Nat → Int64) (hnp : np < 4) (hke : kept ≤ 4) (hcl : cl ≤ 40) (htn : tn ≤ 40) (hdl : dl ≤ 40) (hcf : isB cf) (htf : isB tf) : Ct g l yX7_logout cX7_logout 2 (some .int) 8 202 [.ref (ad 0)] (gX g ad ka ua sa now gr mo re bgn lin rfd rnd mB mb ms mt kept np cl cf tn tf dl df sdf cnf cbf mkf ++ (tl 4 ka (kE kb num rep) ++ (tl 4 kb (bE g kf) ++ (tl 8 ua (uE uto ufi use) ++ (tl 8 sa (sE sop sow sid sbe sla) ++ []))))) (Ri g (fun (v : Int32) (u : (Nat → Int32) × (Nat → Int32) × (Nat → Int32) × (Nat → Int32) × (Nat → Int32) × (Nat → Int32) × (Nat → Int32) × (Nat → Int32) × Nat × Int32 × Int32 × (Nat → Int32)) => jdP kept np cl cf tn tf num rep kf sop sow sid sbe sla now gr mo re (nI 1) v u.2.2.2.2.2.2.2.1 ∧ u.2.2.2.2.2.2.2.2.1 ≤ 40 ∧ (u.2.2.2.2.2.2.2.2.2.1, u.2.2.2.2.2.2.2.2.2.2.1) = (if v < 0 then (lin, rfd + nI 1) else (lin + nI 1, rfd)) ∧ ((v < 0 ∧ u.2.2.2.2.2.2.2.2.2.2.2 = u.2.2.2.2.2.2.2.1) ∨ (∃ n, n < 8 ∧ v = nI n ∧ u.2.2.2.2.2.2.2.2.2.2.2 = upd u.2.2.2.2.2.2.2.1 n (nI 0)))) (fun (u : (Nat → Int32) × (Nat → Int32) × (Nat → Int32) × (Nat → Int32) × (Nat → Int32) × (Nat → Int32) × (Nat → Int32) × (Nat → Int32) × Nat × Int32 × Int32 × (Nat → Int32)) => (gX g ad ka ua sa now gr mo re bgn u.2.2.2.2.2.2.2.2.2.1 u.2.2.2.2.2.2.2.2.2.2.1 rnd u.1 u.2.1 u.2.2.1 u.2.2.2.1 kept np cl cf tn tf u.2.2.2.2.2.2.2.2.1 u.2.2.2.2.2.2.1 sdf cnf u.2.2.2.2.1 u.2.2.2.2.2.1 ++ (tl 4 ka (kE kb num rep) ++ (tl 4 kb (bE g kf) ++ (tl 8 ua (uE uto ufi use) ++ (tl 8 sa (sE u.2.2.2.2.2.2.2.2.2.2.2 sow sid sbe sla) ++ []))))))) := by
  refine mkC (by decide) (Nat.le_of_ble_eq_true rfl) ?_
  intro p e s m args below meth c A ls QQ F hr hlk hnm hQ hw hl
  have hx := F.1
  have hb := F.2.1
  replace hl : lv_has ls 2 [(0, .ref (ad 0))] := hl
  refine lv_aload_n hx hb dX7_logout_0 rfl (lv_at hl 0 rfl) ?_
  refine lv_iconst (v := nI 1) hx hb dX7_logout_1 (by decide) ?_
  refine cl_iF hw (rn_VF F hw (c_X7_judge g l ad ka kb ua sa now gr mo re bgn lin rfd rnd mB mb ms mt kept np cl cf tn tf dl df sdf cnf cbf mkf num rep kf uto ufi use sop sow sid sbe sla (nI 1) (by omega) (by omega) (by omega) (by omega) (by omega) (by omega)) (cw_X7_152 F.2.2.2.2 ⟨by decide, by decide⟩)    0 rfl rfl rfl hl.1 rfl (Nat.le_of_ble_eq_true rfl) dX7_logout_2 ⟨Nat.zero_le _, Nat.zero_le _⟩) (fun v_2 u_1 H locs hp_3 hw => ?_)
  replace hw : Wd g s A H locs (gX g ad ka ua sa now gr mo re bgn lin rfd rnd u_1.1 u_1.2.1 u_1.2.2.1 u_1.2.2.2.1 kept np cl cf tn tf u_1.2.2.2.2.2.2.2.2 u_1.2.2.2.2.2.2.1 sdf cnf u_1.2.2.2.2.1 u_1.2.2.2.2.2.1 ++ (tl 4 ka (kE kb num rep) ++ (tl 4 kb (bE g kf) ++ (tl 8 ua (uE uto ufi use) ++ (tl 8 sa (sE u_1.2.2.2.2.2.2.2.1 sow sid sbe sla) ++ []))))) := hw
  have q1 := hp_3
  refine lv_istore_n (lv' := [(1, .int v_2), (0, .ref (ad 0))]) hx hb dX7_logout_5 rfl hl (by decide) rfl (fun ls hl => ?_)
  refine lv_aload_n hx hb dX7_logout_6 rfl (lv_at hl 1 rfl) ?_
  refine lv_iload_n hx hb dX7_logout_7 rfl (lv_at hl 0 rfl) ?_
  refine cl_vF hw (rn_VF F hw (c_X7_tally g l ad ka kb ua sa now gr mo re bgn lin rfd rnd u_1.1 u_1.2.1 u_1.2.2.1 u_1.2.2.2.1 kept np cl cf tn tf u_1.2.2.2.2.2.2.2.2 u_1.2.2.2.2.2.2.1 sdf cnf u_1.2.2.2.2.1 u_1.2.2.2.2.2.1 num rep kf uto ufi use u_1.2.2.2.2.2.2.2.1 sow sid sbe sla v_2) (cw_X7_156 F.2.2.2.2 ⟨by decide, by decide⟩)    0 rfl rfl rfl hl.1 rfl (Nat.le_of_ble_eq_true rfl) dX7_logout_8 ⟨Nat.zero_le _, Nat.zero_le _⟩) (fun u_4 H locs hp_6 hw => ?_)
  replace hw : Wd g s A H locs (gX g ad ka ua sa now gr mo re bgn u_4.1 u_4.2 rnd u_1.1 u_1.2.1 u_1.2.2.1 u_1.2.2.2.1 kept np cl cf tn tf u_1.2.2.2.2.2.2.2.2 u_1.2.2.2.2.2.2.1 sdf cnf u_1.2.2.2.2.1 u_1.2.2.2.2.2.1 ++ (tl 4 ka (kE kb num rep) ++ (tl 4 kb (bE g kf) ++ (tl 8 ua (uE uto ufi use) ++ (tl 8 sa (sE u_1.2.2.2.2.2.2.2.1 sow sid sbe sla) ++ []))))) := hw
  have q2 := hp_6
  refine lv_iload_n hx hb dX7_logout_11 rfl (lv_at hl 0 rfl) ?_
  refine lv_if_lt (tgt := 25) hx hb dX7_logout_12 (by decide) (fun c_12 => ?_) (fun c_12 => ?_)
  · refine lv_iload_n hx hb dX7_logout_25 rfl (lv_at hl 0 rfl) ?_
    exact rt_i F hr hlk hQ hw (u_1.1, u_1.2.1, u_1.2.2.1, u_1.2.2.2.1, u_1.2.2.2.2.1, u_1.2.2.2.2.2.1, u_1.2.2.2.2.2.2.1, u_1.2.2.2.2.2.2.2.1, u_1.2.2.2.2.2.2.2.2, u_4.1, u_4.2, u_1.2.2.2.2.2.2.2.1) (by first | exact ⟨q1.1, q1.2.2, q2, Or.inl ⟨c_12, rfl⟩⟩ | exact ⟨q1.1, q1.2.2, q2, Or.inr ⟨n, hn, rfl, rfl⟩⟩) rfl dX7_logout_26
  · obtain ⟨n, hn, rfl⟩ := jd_nat q1.1 c_12
    refine lv_aload_n hx hb dX7_logout_15 rfl (lv_at hl 1 rfl) ?_
    refine gf_X7_44 F hw 0 rfl rfl dX7_logout_16 ?_
    refine lv_iload_n hx hb dX7_logout_19 rfl (lv_at hl 0 rfl) ?_
    refine ra_ld F hw 15 4 rfl rfl (by omega) (by omega) rfl dX7_logout_20 ?_
    refine lv_iconst (v := nI 0) hx hb dX7_logout_21 (by decide) ?_
    refine pf_X7_163 F hw (36 + n) (tg4 rfl (by omega)) (Nat.le_of_ble_eq_true rfl) rfl rfl dX7_logout_22 (fun H locs hw => ?_)
    replace hw : Wd g s A H locs (gX g ad ka ua sa now gr mo re bgn u_4.1 u_4.2 rnd u_1.1 u_1.2.1 u_1.2.2.1 u_1.2.2.2.1 kept np cl cf tn tf u_1.2.2.2.2.2.2.2.2 u_1.2.2.2.2.2.2.1 sdf cnf u_1.2.2.2.2.1 u_1.2.2.2.2.2.1 ++ (tl 4 ka (kE kb num rep) ++ (tl 4 kb (bE g kf) ++ (tl 8 ua (uE uto ufi use) ++ (tl 8 sa (sE (upd u_1.2.2.2.2.2.2.2.1 n (nI 0)) sow sid sbe sla) ++ []))))) := wd_eq (ts4 rfl (by omega) (by funext z; by_cases hz : z = n <;> simp [va_up, sE, upd, vp_updL, hz])) hw
    refine lv_iload_n hx hb dX7_logout_25 rfl (lv_at hl 0 rfl) ?_
    exact rt_i F hr hlk hQ hw (u_1.1, u_1.2.1, u_1.2.2.1, u_1.2.2.2.1, u_1.2.2.2.2.1, u_1.2.2.2.2.2.1, u_1.2.2.2.2.2.2.1, u_1.2.2.2.2.2.2.2.1, u_1.2.2.2.2.2.2.2.2, u_4.1, u_4.2, (upd u_1.2.2.2.2.2.2.2.1 n (nI 0))) (by first | exact ⟨q1.1, q1.2.2, q2, Or.inl ⟨c_12, rfl⟩⟩ | exact ⟨q1.1, q1.2.2, q2, Or.inr ⟨n, hn, rfl, rfl⟩⟩) rfl dX7_logout_26
