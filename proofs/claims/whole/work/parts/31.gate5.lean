theorem tx_01 {x : Int32} (h : ¬ txI x = 0) : x = nI 0 ∨ x = nI 1 := by
  unfold txI at h
  by_cases h1 : x = 0
  · exact Or.inl h1
  · rw [if_neg h1] at h
    by_cases h2 : x = nI 1
    · exact Or.inr h2
    · rw [if_neg h2] at h; exact absurd rfl h
theorem has_nat {k : Int32} {ln : Nat} (hl : ln < 2 ^ 31) (h : ¬ hasT k (nI ln) = 0) : ∃ j, j < ln ∧ k = nI j := by
  unfold hasT at h
  by_cases h1 : k < 0
  · rw [if_pos h1] at h; exact absurd rfl h
  · rw [if_neg h1] at h
    by_cases h2 : nI ln ≤ k
    · rw [if_pos h2] at h; exact absurd rfl h
    · obtain ⟨j, hj, rfl⟩ := nI_of h1
      exact ⟨j, Nat.lt_of_not_le (fun z => h2 (nI_le z hj)), rfl⟩
theorem cnt_le (P : Nat → Int32) : ∀ k, cntL P k ≤ k := by
  intro k
  induction k with
  | zero => exact Nat.le_refl _
  | succ k ih =>
    by_cases h : P k = 0
    · rw [cnt_0 h]; omega
    · rw [cnt_1 h]; omega
theorem addS_cnt (pk : Int32) (f : Nat → Int32) (ln : Nat) : ∀ k, (addS pk f ln k).2 = ln + cntL (byO pk) k := by
  intro k
  induction k with
  | zero => rfl
  | succ k ih =>
    by_cases h : byO pk k = 0
    · rw [addS_0 h, cnt_0 h]; exact ih
    · rw [addS_1 h, cnt_1 h]; show (addS pk f ln k).2 + 1 = _; omega
def tyS (a b c d : Int32) (t : (Nat → Int32) × Nat) : (Nat → Int32) × Nat :=
  addS d (addS c (addS b (addS a t.1 t.2 4).1 (addS a t.1 t.2 4).2 4).1 (addS b (addS a t.1 t.2 4).1 (addS a t.1 t.2 4).2 4).2 4).1 (addS c (addS b (addS a t.1 t.2 4).1 (addS a t.1 t.2 4).2 4).1 (addS b (addS a t.1 t.2 4).1 (addS a t.1 t.2 4).2 4).2 4).2 4
def mor (a b c d : Int32) : Nat := ((cntL (byO a) 4 + cntL (byO b) 4) + cntL (byO c) 4) + cntL (byO d) 4
set_option maxHeartbeats 4000000 in
set_option maxRecDepth 100000 in
theorem c_X7_type (g : GG) (l : Launch) (ad : Nat → Nat) (ka : Nat → Nat) (kb : Nat → Nat) (ua : Nat → Nat) (sa : Nat → Nat) (now : Int64) (gr : Int64) (mo : Int64) (re : Int64) (bgn : Int32) (lin : Int32) (rfd : Int32) (rnd : Int32) (mB : Nat → Int32) (mb : Nat → Int32) (ms : Nat → Int32) (mt : Nat → Int32) (kept : Nat) (np : Nat) (cl : Nat) (cf : Nat → Int32) (tn : Nat) (tf : Nat → Int32) (dl : Nat) (df : Nat → Int32) (sdf : Nat → Int32) (cnf : Nat → Int32) (cbf : Nat → Int32) (mkf : Nat → Int32) (num : Nat → Int32) (rep : Nat → Int64) (kf : Nat → Nat → Int32) (uto : Nat → Int32) (ufi : Nat → Int32) (use : Nat → Int32) (sop : Nat → Int32) (sow : Nat → Int32) (sid : Nat → Int64) (sbe : Nat → Int64) (sla : Nat → Int64) (x : Int32) (pa : Int32) (pb : Int32) (pc : Int32) (pd : Int32) (hcl : cl ≤ 40) (htn : tn ≤ 40) (hst : l.stackTraces = false) : Xt g l yX7_type cX7_type 8 (some .int) 6 89 [.ref (ad 0), .int x, .int pa, .int pb, .int pc, .int pd] (gX g ad ka ua sa now gr mo re bgn lin rfd rnd mB mb ms mt kept np cl cf tn tf dl df sdf cnf cbf mkf ++ (tl 4 ka (kE kb num rep) ++ (tl 4 kb (bE g kf) ++ (tl 8 ua (uE uto ufi use) ++ (tl 8 sa (sE sop sow sid sbe sla) ++ []))))) (Ri g (fun (v : Int32) (u : (Nat → Int32) × Nat × (Nat → Int32) × Nat) => (x = nI 0 ∧ cl + mor pa pb pc pd ≤ 40 ∧ (u.1, u.2.1) = tyS pa pb pc pd (cf, cl) ∧ u.2.2.1 = tf ∧ u.2.2.2 = tn ∧ v = nI u.2.1) ∨ (x = nI 1 ∧ tn + mor pa pb pc pd ≤ 40 ∧ (u.2.2.1, u.2.2.2) = tyS pa pb pc pd (tf, tn) ∧ u.1 = cf ∧ u.2.1 = cl ∧ v = nI u.2.2.2)) (fun (u : (Nat → Int32) × Nat × (Nat → Int32) × Nat) => (gX g ad ka ua sa now gr mo re bgn lin rfd rnd mB mb ms mt kept np u.2.1 u.1 u.2.2.2 u.2.2.1 dl df sdf cnf cbf mkf ++ (tl 4 ka (kE kb num rep) ++ (tl 4 kb (bE g kf) ++ (tl 8 ua (uE uto ufi use) ++ (tl 8 sa (sE sop sow sid sbe sla) ++ []))))))) (fun E => (E = "java/lang/IllegalArgumentException" ∧ txI x = 0) ∨ (E = "java/lang/IllegalStateException" ∧ ((x = nI 0 ∧ 40 < cl + mor pa pb pc pd) ∨ (x = nI 1 ∧ 40 < tn + mor pa pb pc pd)))) := by
  refine mkX (by decide) (Nat.le_of_ble_eq_true rfl) ?_
  intro p e s m args below meth c A ls QQ F hr hlk hex hQ hw hl
  have hx := F.1
  have hb := F.2.1
  replace hl : lv_has ls 8 [(0, .ref (ad 0)), (1, .int x), (2, .int pa), (3, .int pb), (4, .int pc), (5, .int pd)] := hl
  have hc1 := cnt_le (byO pa) 4
  have hc2 := cnt_le (byO pb) 4
  have hc3 := cnt_le (byO pc) 4
  have hc4 := cnt_le (byO pd) 4
  refine lv_iload_n hx hb dX7_type_0 rfl (lv_at hl 1 rfl) ?_
  refine cl_i hw [] rfl (rn_S F hw (c_X7_isText g l x) (cw_X7_170 F.2.2.2.2 ⟨by decide, by decide⟩) [] (by decide) rfl hl.1 rfl (Nat.le_of_ble_eq_true rfl) dX7_type_1 ⟨Nat.zero_le _, Nat.zero_le _⟩) (fun _ => rfl) (fun v_2 u_1 H locs hp_3 hw => ?_)
  subst hp_3
  replace hw : Wd g s A H locs (gX g ad ka ua sa now gr mo re bgn lin rfd rnd mB mb ms mt kept np cl cf tn tf dl df sdf cnf cbf mkf ++ (tl 4 ka (kE kb num rep) ++ (tl 4 kb (bE g kf) ++ (tl 8 ua (uE uto ufi use) ++ (tl 8 sa (sE sop sow sid sbe sla) ++ []))))) := hw
  refine lv_if_ne (tgt := 15) hx hb dX7_type_4 (by decide) (fun c_4 => ?_) (fun c_4 => ?_)
  · rcases tx_01 c_4 with rfl | rfl
    · refine lv_aload_n hx hb dX7_type_15 rfl (lv_at hl 0 rfl) ?_
      refine lv_iload_n hx hb dX7_type_16 rfl (lv_at hl 1 rfl) ?_
      refine cl_qF hw (rn_VF F hw (c_X7_textOf_0 g l ad ka kb ua sa now gr mo re bgn lin rfd rnd mB mb ms mt kept np cl cf tn tf dl df sdf cnf cbf mkf num rep kf uto ufi use sop sow sid sbe sla) (cw_X7_173 F.2.2.2.2 ⟨by decide, by decide⟩)    0 rfl rfl rfl hl.1 rfl (Nat.le_of_ble_eq_true rfl) dX7_type_17 ⟨Nat.zero_le _, Nat.zero_le _⟩) (fun v_5 u_4 H locs hp_6 hw => ?_)
      subst hp_6
      replace hw : Wd g s A H locs (gX g ad ka ua sa now gr mo re bgn lin rfd rnd mB mb ms mt kept np cl cf tn tf dl df sdf cnf cbf mkf ++ (tl 4 ka (kE kb num rep) ++ (tl 4 kb (bE g kf) ++ (tl 8 ua (uE uto ufi use) ++ (tl 8 sa (sE sop sow sid sbe sla) ++ []))))) := hw
      refine lv_astore (lv' := [(6, .ref (ad 8)), (0, .ref (ad 0)), (1, .int (nI 0)), (2, .int pa), (3, .int pb), (4, .int pc), (5, .int pd)]) hx hb dX7_type_20 hl (by decide) rfl (fun ls hl => ?_)
      refine lv_iload_n hx hb dX7_type_22 rfl (lv_at hl 3 rfl) ?_
      refine cl_i hw [] rfl (rn_S F hw (c_X7_signsIn g l pa) (cw_X7_177 F.2.2.2.2 ⟨by decide, by decide⟩) [] (by decide) rfl hl.1 rfl (Nat.le_of_ble_eq_true rfl) dX7_type_23 ⟨Nat.zero_le _, Nat.zero_le _⟩) (fun _ => rfl) (fun v_8 u_7 H locs hp_9 hw => ?_)
      subst hp_9
      replace hw : Wd g s A H locs (gX g ad ka ua sa now gr mo re bgn lin rfd rnd mB mb ms mt kept np cl cf tn tf dl df sdf cnf cbf mkf ++ (tl 4 ka (kE kb num rep) ++ (tl 4 kb (bE g kf) ++ (tl 8 ua (uE uto ufi use) ++ (tl 8 sa (sE sop sow sid sbe sla) ++ []))))) := hw
      refine lv_iload_n hx hb dX7_type_26 rfl (lv_at hl 4 rfl) ?_
      refine cl_i hw [] rfl (rn_S F hw (c_X7_signsIn g l pb) (cw_X7_177 F.2.2.2.2 ⟨by decide, by decide⟩) [] (by decide) rfl hl.1 rfl (Nat.le_of_ble_eq_true rfl) dX7_type_27 ⟨Nat.zero_le _, Nat.zero_le _⟩) (fun _ => rfl) (fun v_11 u_10 H locs hp_12 hw => ?_)
      subst hp_12
      replace hw : Wd g s A H locs (gX g ad ka ua sa now gr mo re bgn lin rfd rnd mB mb ms mt kept np cl cf tn tf dl df sdf cnf cbf mkf ++ (tl 4 ka (kE kb num rep) ++ (tl 4 kb (bE g kf) ++ (tl 8 ua (uE uto ufi use) ++ (tl 8 sa (sE sop sow sid sbe sla) ++ []))))) := hw
      refine n_add hx hb dX7_type_30 ?_
      refine lv_iload hx hb dX7_type_31 (lv_at hl 5 rfl) ?_
      refine cl_i hw [] rfl (rn_S F hw (c_X7_signsIn g l pc) (cw_X7_177 F.2.2.2.2 ⟨by decide, by decide⟩) [] (by decide) rfl hl.1 rfl (Nat.le_of_ble_eq_true rfl) dX7_type_33 ⟨Nat.zero_le _, Nat.zero_le _⟩) (fun _ => rfl) (fun v_14 u_13 H locs hp_15 hw => ?_)
      subst hp_15
      replace hw : Wd g s A H locs (gX g ad ka ua sa now gr mo re bgn lin rfd rnd mB mb ms mt kept np cl cf tn tf dl df sdf cnf cbf mkf ++ (tl 4 ka (kE kb num rep) ++ (tl 4 kb (bE g kf) ++ (tl 8 ua (uE uto ufi use) ++ (tl 8 sa (sE sop sow sid sbe sla) ++ []))))) := hw
      refine n_add hx hb dX7_type_36 ?_
      refine lv_iload hx hb dX7_type_37 (lv_at hl 6 rfl) ?_
      refine cl_i hw [] rfl (rn_S F hw (c_X7_signsIn g l pd) (cw_X7_177 F.2.2.2.2 ⟨by decide, by decide⟩) [] (by decide) rfl hl.1 rfl (Nat.le_of_ble_eq_true rfl) dX7_type_39 ⟨Nat.zero_le _, Nat.zero_le _⟩) (fun _ => rfl) (fun v_17 u_16 H locs hp_18 hw => ?_)
      subst hp_18
      replace hw : Wd g s A H locs (gX g ad ka ua sa now gr mo re bgn lin rfd rnd mB mb ms mt kept np cl cf tn tf dl df sdf cnf cbf mkf ++ (tl 4 ka (kE kb num rep) ++ (tl 4 kb (bE g kf) ++ (tl 8 ua (uE uto ufi use) ++ (tl 8 sa (sE sop sow sid sbe sla) ++ []))))) := hw
      refine n_add hx hb dX7_type_42 ?_
      refine lv_istore (lv' := [(7, .int (nI ((((cntL (byO pa) 4) + (cntL (byO pb) 4)) + (cntL (byO pc) 4)) + (cntL (byO pd) 4)))), (6, .ref (ad 8)), (0, .ref (ad 0)), (1, .int (nI 0)), (2, .int pa), (3, .int pb), (4, .int pc), (5, .int pd)]) hx hb dX7_type_43 hl (by decide) rfl (fun ls hl => ?_)
      refine lv_aload hx hb dX7_type_45 (lv_at hl 1 rfl) ?_
      refine gf_X7_181 F hw 8 rfl rfl dX7_type_47 ?_
      refine lv_iload hx hb dX7_type_50 (lv_at hl 0 rfl) ?_
      refine n_add hx hb dX7_type_52 ?_
      refine lv_bipush (v := nI 40) hx hb dX7_type_53 (by decide) ?_
      refine n_le (tgt := 66) hx hb (by omega) (by omega) dX7_type_55 (by decide) (fun c_55 => ?_) (fun c_55 => ?_)
      · refine lv_aload hx hb dX7_type_66 (lv_at hl 1 rfl) ?_
        refine lv_iload_n hx hb dX7_type_68 rfl (lv_at hl 4 rfl) ?_
        refine cl_v hw [8, 9] rfl (rn_V F hw (c_X5_addSigns g l (ad 8) (ad 9) cf cl pa (by rw [addS_cnt]; omega)) (cw_X7_187 F.2.2.2.2 ⟨by decide, by decide⟩) [8, 9] (by decide) rfl 8 rfl rfl rfl hl.1 rfl (Nat.le_of_ble_eq_true rfl) dX7_type_69 ⟨Nat.zero_le _, Nat.zero_le _⟩) (fun _ => rfl) (fun u_19 H locs hp_21 hw => ?_)
        replace hw : Wd g s A H locs (gX g ad ka ua sa now gr mo re bgn lin rfd rnd mB mb ms mt kept np ((addS pa cf cl 4).2) ((addS pa cf cl 4).1) tn tf dl df sdf cnf cbf mkf ++ (tl 4 ka (kE kb num rep) ++ (tl 4 kb (bE g kf) ++ (tl 8 ua (uE uto ufi use) ++ (tl 8 sa (sE sop sow sid sbe sla) ++ []))))) := hw
        obtain ⟨t1, ht1⟩ : ∃ t : (Nat → Int32) × Nat, t = (addS pa cf cl 4) := ⟨_, rfl⟩
        rw [← ht1] at hw
        have et1 : t1.2 = cl + cntL (byO pa) 4 := by rw [ht1]; exact addS_cnt _ _ _ 4
        refine lv_aload hx hb dX7_type_72 (lv_at hl 1 rfl) ?_
        refine lv_iload_n hx hb dX7_type_74 rfl (lv_at hl 5 rfl) ?_
        refine cl_v hw [8, 9] rfl (rn_V F hw (c_X5_addSigns g l (ad 8) (ad 9) t1.1 t1.2 pb (by rw [addS_cnt]; omega)) (cw_X7_187 F.2.2.2.2 ⟨by decide, by decide⟩) [8, 9] (by decide) rfl 8 rfl rfl rfl hl.1 rfl (Nat.le_of_ble_eq_true rfl) dX7_type_75 ⟨Nat.zero_le _, Nat.zero_le _⟩) (fun _ => rfl) (fun u_22 H locs hp_24 hw => ?_)
        replace hw : Wd g s A H locs (gX g ad ka ua sa now gr mo re bgn lin rfd rnd mB mb ms mt kept np ((addS pb t1.1 t1.2 4).2) ((addS pb t1.1 t1.2 4).1) tn tf dl df sdf cnf cbf mkf ++ (tl 4 ka (kE kb num rep) ++ (tl 4 kb (bE g kf) ++ (tl 8 ua (uE uto ufi use) ++ (tl 8 sa (sE sop sow sid sbe sla) ++ []))))) := hw
        obtain ⟨t2, ht2⟩ : ∃ t : (Nat → Int32) × Nat, t = (addS pb t1.1 t1.2 4) := ⟨_, rfl⟩
        rw [← ht2] at hw
        have et2 : t2.2 = t1.2 + cntL (byO pb) 4 := by rw [ht2]; exact addS_cnt _ _ _ 4
        refine lv_aload hx hb dX7_type_78 (lv_at hl 1 rfl) ?_
        refine lv_iload hx hb dX7_type_80 (lv_at hl 6 rfl) ?_
        refine cl_v hw [8, 9] rfl (rn_V F hw (c_X5_addSigns g l (ad 8) (ad 9) t2.1 t2.2 pc (by rw [addS_cnt]; omega)) (cw_X7_187 F.2.2.2.2 ⟨by decide, by decide⟩) [8, 9] (by decide) rfl 8 rfl rfl rfl hl.1 rfl (Nat.le_of_ble_eq_true rfl) dX7_type_82 ⟨Nat.zero_le _, Nat.zero_le _⟩) (fun _ => rfl) (fun u_25 H locs hp_27 hw => ?_)
        replace hw : Wd g s A H locs (gX g ad ka ua sa now gr mo re bgn lin rfd rnd mB mb ms mt kept np ((addS pc t2.1 t2.2 4).2) ((addS pc t2.1 t2.2 4).1) tn tf dl df sdf cnf cbf mkf ++ (tl 4 ka (kE kb num rep) ++ (tl 4 kb (bE g kf) ++ (tl 8 ua (uE uto ufi use) ++ (tl 8 sa (sE sop sow sid sbe sla) ++ []))))) := hw
        obtain ⟨t3, ht3⟩ : ∃ t : (Nat → Int32) × Nat, t = (addS pc t2.1 t2.2 4) := ⟨_, rfl⟩
        rw [← ht3] at hw
        have et3 : t3.2 = t2.2 + cntL (byO pc) 4 := by rw [ht3]; exact addS_cnt _ _ _ 4
        refine lv_aload hx hb dX7_type_85 (lv_at hl 1 rfl) ?_
        refine lv_iload hx hb dX7_type_87 (lv_at hl 7 rfl) ?_
        refine cl_v hw [8, 9] rfl (rn_V F hw (c_X5_addSigns g l (ad 8) (ad 9) t3.1 t3.2 pd (by rw [addS_cnt]; omega)) (cw_X7_187 F.2.2.2.2 ⟨by decide, by decide⟩) [8, 9] (by decide) rfl 8 rfl rfl rfl hl.1 rfl (Nat.le_of_ble_eq_true rfl) dX7_type_89 ⟨Nat.zero_le _, Nat.zero_le _⟩) (fun _ => rfl) (fun u_28 H locs hp_30 hw => ?_)
        replace hw : Wd g s A H locs (gX g ad ka ua sa now gr mo re bgn lin rfd rnd mB mb ms mt kept np ((addS pd t3.1 t3.2 4).2) ((addS pd t3.1 t3.2 4).1) tn tf dl df sdf cnf cbf mkf ++ (tl 4 ka (kE kb num rep) ++ (tl 4 kb (bE g kf) ++ (tl 8 ua (uE uto ufi use) ++ (tl 8 sa (sE sop sow sid sbe sla) ++ []))))) := hw
        obtain ⟨t4, ht4⟩ : ∃ t : (Nat → Int32) × Nat, t = (addS pd t3.1 t3.2 4) := ⟨_, rfl⟩
        rw [← ht4] at hw
        have et4 : t4.2 = t3.2 + cntL (byO pd) 4 := by rw [ht4]; exact addS_cnt _ _ _ 4
        refine lv_aload hx hb dX7_type_92 (lv_at hl 1 rfl) ?_
        refine gf_X7_181 F hw 8 rfl rfl dX7_type_94 ?_
        exact rtx_i F hr hlk hQ hw (t4.1, t4.2, tf, tn) (by first | exact Or.inl ⟨rfl, c_55, (by rw [ht4, ht3, ht2, ht1]; rfl), rfl, rfl, rfl⟩ | exact Or.inr ⟨rfl, c_55, (by rw [ht4, ht3, ht2, ht1]; rfl), rfl, rfl, rfl⟩) rfl dX7_type_97
      · exact thr_ISE F hst hw hlk hex hQ (Or.inr ⟨rfl, by first | exact Or.inl ⟨rfl, c_55⟩ | exact Or.inr ⟨rfl, c_55⟩⟩) hl.1 (Nat.le_of_ble_eq_true rfl) (by decide) (by decide) dX7_type_58 dX7_type_61 dX7_type_62 dX7_type_65
    · refine lv_aload_n hx hb dX7_type_15 rfl (lv_at hl 0 rfl) ?_
      refine lv_iload_n hx hb dX7_type_16 rfl (lv_at hl 1 rfl) ?_
      refine cl_qF hw (rn_VF F hw (c_X7_textOf_1 g l ad ka kb ua sa now gr mo re bgn lin rfd rnd mB mb ms mt kept np cl cf tn tf dl df sdf cnf cbf mkf num rep kf uto ufi use sop sow sid sbe sla) (cw_X7_173 F.2.2.2.2 ⟨by decide, by decide⟩)    0 rfl rfl rfl hl.1 rfl (Nat.le_of_ble_eq_true rfl) dX7_type_17 ⟨Nat.zero_le _, Nat.zero_le _⟩) (fun v_32 u_31 H locs hp_33 hw => ?_)
      subst hp_33
      replace hw : Wd g s A H locs (gX g ad ka ua sa now gr mo re bgn lin rfd rnd mB mb ms mt kept np cl cf tn tf dl df sdf cnf cbf mkf ++ (tl 4 ka (kE kb num rep) ++ (tl 4 kb (bE g kf) ++ (tl 8 ua (uE uto ufi use) ++ (tl 8 sa (sE sop sow sid sbe sla) ++ []))))) := hw
      refine lv_astore (lv' := [(6, .ref (ad 10)), (0, .ref (ad 0)), (1, .int (nI 1)), (2, .int pa), (3, .int pb), (4, .int pc), (5, .int pd)]) hx hb dX7_type_20 hl (by decide) rfl (fun ls hl => ?_)
      refine lv_iload_n hx hb dX7_type_22 rfl (lv_at hl 3 rfl) ?_
      refine cl_i hw [] rfl (rn_S F hw (c_X7_signsIn g l pa) (cw_X7_177 F.2.2.2.2 ⟨by decide, by decide⟩) [] (by decide) rfl hl.1 rfl (Nat.le_of_ble_eq_true rfl) dX7_type_23 ⟨Nat.zero_le _, Nat.zero_le _⟩) (fun _ => rfl) (fun v_35 u_34 H locs hp_36 hw => ?_)
      subst hp_36
      replace hw : Wd g s A H locs (gX g ad ka ua sa now gr mo re bgn lin rfd rnd mB mb ms mt kept np cl cf tn tf dl df sdf cnf cbf mkf ++ (tl 4 ka (kE kb num rep) ++ (tl 4 kb (bE g kf) ++ (tl 8 ua (uE uto ufi use) ++ (tl 8 sa (sE sop sow sid sbe sla) ++ []))))) := hw
      refine lv_iload_n hx hb dX7_type_26 rfl (lv_at hl 4 rfl) ?_
      refine cl_i hw [] rfl (rn_S F hw (c_X7_signsIn g l pb) (cw_X7_177 F.2.2.2.2 ⟨by decide, by decide⟩) [] (by decide) rfl hl.1 rfl (Nat.le_of_ble_eq_true rfl) dX7_type_27 ⟨Nat.zero_le _, Nat.zero_le _⟩) (fun _ => rfl) (fun v_38 u_37 H locs hp_39 hw => ?_)
      subst hp_39
      replace hw : Wd g s A H locs (gX g ad ka ua sa now gr mo re bgn lin rfd rnd mB mb ms mt kept np cl cf tn tf dl df sdf cnf cbf mkf ++ (tl 4 ka (kE kb num rep) ++ (tl 4 kb (bE g kf) ++ (tl 8 ua (uE uto ufi use) ++ (tl 8 sa (sE sop sow sid sbe sla) ++ []))))) := hw
      refine n_add hx hb dX7_type_30 ?_
      refine lv_iload hx hb dX7_type_31 (lv_at hl 5 rfl) ?_
      refine cl_i hw [] rfl (rn_S F hw (c_X7_signsIn g l pc) (cw_X7_177 F.2.2.2.2 ⟨by decide, by decide⟩) [] (by decide) rfl hl.1 rfl (Nat.le_of_ble_eq_true rfl) dX7_type_33 ⟨Nat.zero_le _, Nat.zero_le _⟩) (fun _ => rfl) (fun v_41 u_40 H locs hp_42 hw => ?_)
      subst hp_42
      replace hw : Wd g s A H locs (gX g ad ka ua sa now gr mo re bgn lin rfd rnd mB mb ms mt kept np cl cf tn tf dl df sdf cnf cbf mkf ++ (tl 4 ka (kE kb num rep) ++ (tl 4 kb (bE g kf) ++ (tl 8 ua (uE uto ufi use) ++ (tl 8 sa (sE sop sow sid sbe sla) ++ []))))) := hw
      refine n_add hx hb dX7_type_36 ?_
      refine lv_iload hx hb dX7_type_37 (lv_at hl 6 rfl) ?_
      refine cl_i hw [] rfl (rn_S F hw (c_X7_signsIn g l pd) (cw_X7_177 F.2.2.2.2 ⟨by decide, by decide⟩) [] (by decide) rfl hl.1 rfl (Nat.le_of_ble_eq_true rfl) dX7_type_39 ⟨Nat.zero_le _, Nat.zero_le _⟩) (fun _ => rfl) (fun v_44 u_43 H locs hp_45 hw => ?_)
      subst hp_45
      replace hw : Wd g s A H locs (gX g ad ka ua sa now gr mo re bgn lin rfd rnd mB mb ms mt kept np cl cf tn tf dl df sdf cnf cbf mkf ++ (tl 4 ka (kE kb num rep) ++ (tl 4 kb (bE g kf) ++ (tl 8 ua (uE uto ufi use) ++ (tl 8 sa (sE sop sow sid sbe sla) ++ []))))) := hw
      refine n_add hx hb dX7_type_42 ?_
      refine lv_istore (lv' := [(7, .int (nI ((((cntL (byO pa) 4) + (cntL (byO pb) 4)) + (cntL (byO pc) 4)) + (cntL (byO pd) 4)))), (6, .ref (ad 10)), (0, .ref (ad 0)), (1, .int (nI 1)), (2, .int pa), (3, .int pb), (4, .int pc), (5, .int pd)]) hx hb dX7_type_43 hl (by decide) rfl (fun ls hl => ?_)
      refine lv_aload hx hb dX7_type_45 (lv_at hl 1 rfl) ?_
      refine gf_X7_181 F hw 10 rfl rfl dX7_type_47 ?_
      refine lv_iload hx hb dX7_type_50 (lv_at hl 0 rfl) ?_
      refine n_add hx hb dX7_type_52 ?_
      refine lv_bipush (v := nI 40) hx hb dX7_type_53 (by decide) ?_
      refine n_le (tgt := 66) hx hb (by omega) (by omega) dX7_type_55 (by decide) (fun c_55 => ?_) (fun c_55 => ?_)
      · refine lv_aload hx hb dX7_type_66 (lv_at hl 1 rfl) ?_
        refine lv_iload_n hx hb dX7_type_68 rfl (lv_at hl 4 rfl) ?_
        refine cl_v hw [10, 11] rfl (rn_V F hw (c_X5_addSigns g l (ad 10) (ad 11) tf tn pa (by rw [addS_cnt]; omega)) (cw_X7_187 F.2.2.2.2 ⟨by decide, by decide⟩) [10, 11] (by decide) rfl 10 rfl rfl rfl hl.1 rfl (Nat.le_of_ble_eq_true rfl) dX7_type_69 ⟨Nat.zero_le _, Nat.zero_le _⟩) (fun _ => rfl) (fun u_46 H locs hp_48 hw => ?_)
        replace hw : Wd g s A H locs (gX g ad ka ua sa now gr mo re bgn lin rfd rnd mB mb ms mt kept np cl cf ((addS pa tf tn 4).2) ((addS pa tf tn 4).1) dl df sdf cnf cbf mkf ++ (tl 4 ka (kE kb num rep) ++ (tl 4 kb (bE g kf) ++ (tl 8 ua (uE uto ufi use) ++ (tl 8 sa (sE sop sow sid sbe sla) ++ []))))) := hw
        obtain ⟨t1, ht1⟩ : ∃ t : (Nat → Int32) × Nat, t = (addS pa tf tn 4) := ⟨_, rfl⟩
        rw [← ht1] at hw
        have et1 : t1.2 = tn + cntL (byO pa) 4 := by rw [ht1]; exact addS_cnt _ _ _ 4
        refine lv_aload hx hb dX7_type_72 (lv_at hl 1 rfl) ?_
        refine lv_iload_n hx hb dX7_type_74 rfl (lv_at hl 5 rfl) ?_
        refine cl_v hw [10, 11] rfl (rn_V F hw (c_X5_addSigns g l (ad 10) (ad 11) t1.1 t1.2 pb (by rw [addS_cnt]; omega)) (cw_X7_187 F.2.2.2.2 ⟨by decide, by decide⟩) [10, 11] (by decide) rfl 10 rfl rfl rfl hl.1 rfl (Nat.le_of_ble_eq_true rfl) dX7_type_75 ⟨Nat.zero_le _, Nat.zero_le _⟩) (fun _ => rfl) (fun u_49 H locs hp_51 hw => ?_)
        replace hw : Wd g s A H locs (gX g ad ka ua sa now gr mo re bgn lin rfd rnd mB mb ms mt kept np cl cf ((addS pb t1.1 t1.2 4).2) ((addS pb t1.1 t1.2 4).1) dl df sdf cnf cbf mkf ++ (tl 4 ka (kE kb num rep) ++ (tl 4 kb (bE g kf) ++ (tl 8 ua (uE uto ufi use) ++ (tl 8 sa (sE sop sow sid sbe sla) ++ []))))) := hw
        obtain ⟨t2, ht2⟩ : ∃ t : (Nat → Int32) × Nat, t = (addS pb t1.1 t1.2 4) := ⟨_, rfl⟩
        rw [← ht2] at hw
        have et2 : t2.2 = t1.2 + cntL (byO pb) 4 := by rw [ht2]; exact addS_cnt _ _ _ 4
        refine lv_aload hx hb dX7_type_78 (lv_at hl 1 rfl) ?_
        refine lv_iload hx hb dX7_type_80 (lv_at hl 6 rfl) ?_
        refine cl_v hw [10, 11] rfl (rn_V F hw (c_X5_addSigns g l (ad 10) (ad 11) t2.1 t2.2 pc (by rw [addS_cnt]; omega)) (cw_X7_187 F.2.2.2.2 ⟨by decide, by decide⟩) [10, 11] (by decide) rfl 10 rfl rfl rfl hl.1 rfl (Nat.le_of_ble_eq_true rfl) dX7_type_82 ⟨Nat.zero_le _, Nat.zero_le _⟩) (fun _ => rfl) (fun u_52 H locs hp_54 hw => ?_)
        replace hw : Wd g s A H locs (gX g ad ka ua sa now gr mo re bgn lin rfd rnd mB mb ms mt kept np cl cf ((addS pc t2.1 t2.2 4).2) ((addS pc t2.1 t2.2 4).1) dl df sdf cnf cbf mkf ++ (tl 4 ka (kE kb num rep) ++ (tl 4 kb (bE g kf) ++ (tl 8 ua (uE uto ufi use) ++ (tl 8 sa (sE sop sow sid sbe sla) ++ []))))) := hw
        obtain ⟨t3, ht3⟩ : ∃ t : (Nat → Int32) × Nat, t = (addS pc t2.1 t2.2 4) := ⟨_, rfl⟩
        rw [← ht3] at hw
        have et3 : t3.2 = t2.2 + cntL (byO pc) 4 := by rw [ht3]; exact addS_cnt _ _ _ 4
        refine lv_aload hx hb dX7_type_85 (lv_at hl 1 rfl) ?_
        refine lv_iload hx hb dX7_type_87 (lv_at hl 7 rfl) ?_
        refine cl_v hw [10, 11] rfl (rn_V F hw (c_X5_addSigns g l (ad 10) (ad 11) t3.1 t3.2 pd (by rw [addS_cnt]; omega)) (cw_X7_187 F.2.2.2.2 ⟨by decide, by decide⟩) [10, 11] (by decide) rfl 10 rfl rfl rfl hl.1 rfl (Nat.le_of_ble_eq_true rfl) dX7_type_89 ⟨Nat.zero_le _, Nat.zero_le _⟩) (fun _ => rfl) (fun u_55 H locs hp_57 hw => ?_)
        replace hw : Wd g s A H locs (gX g ad ka ua sa now gr mo re bgn lin rfd rnd mB mb ms mt kept np cl cf ((addS pd t3.1 t3.2 4).2) ((addS pd t3.1 t3.2 4).1) dl df sdf cnf cbf mkf ++ (tl 4 ka (kE kb num rep) ++ (tl 4 kb (bE g kf) ++ (tl 8 ua (uE uto ufi use) ++ (tl 8 sa (sE sop sow sid sbe sla) ++ []))))) := hw
        obtain ⟨t4, ht4⟩ : ∃ t : (Nat → Int32) × Nat, t = (addS pd t3.1 t3.2 4) := ⟨_, rfl⟩
        rw [← ht4] at hw
        have et4 : t4.2 = t3.2 + cntL (byO pd) 4 := by rw [ht4]; exact addS_cnt _ _ _ 4
        refine lv_aload hx hb dX7_type_92 (lv_at hl 1 rfl) ?_
        refine gf_X7_181 F hw 10 rfl rfl dX7_type_94 ?_
        exact rtx_i F hr hlk hQ hw (cf, cl, t4.1, t4.2) (by first | exact Or.inl ⟨rfl, c_55, (by rw [ht4, ht3, ht2, ht1]; rfl), rfl, rfl, rfl⟩ | exact Or.inr ⟨rfl, c_55, (by rw [ht4, ht3, ht2, ht1]; rfl), rfl, rfl, rfl⟩) rfl dX7_type_97
      · exact thr_ISE F hst hw hlk hex hQ (Or.inr ⟨rfl, by first | exact Or.inl ⟨rfl, c_55⟩ | exact Or.inr ⟨rfl, c_55⟩⟩) hl.1 (Nat.le_of_ble_eq_true rfl) (by decide) (by decide) dX7_type_58 dX7_type_61 dX7_type_62 dX7_type_65
  · exact thr_IAE F hst hw hlk hex hQ (Or.inl ⟨rfl, c_4⟩) hl.1 (Nat.le_of_ble_eq_true rfl) (by decide) (by decide) dX7_type_7 dX7_type_10 dX7_type_11 dX7_type_14
set_option maxHeartbeats 4000000 in
set_option maxRecDepth 100000 in
theorem c_X7_erase (g : GG) (l : Launch) (ad : Nat → Nat) (ka : Nat → Nat) (kb : Nat → Nat) (ua : Nat → Nat) (sa : Nat → Nat) (now : Int64) (gr : Int64) (mo : Int64) (re : Int64) (bgn : Int32) (lin : Int32) (rfd : Int32) (rnd : Int32) (mB : Nat → Int32) (mb : Nat → Int32) (ms : Nat → Int32) (mt : Nat → Int32) (kept : Nat) (np : Nat) (cl : Nat) (cf : Nat → Int32) (tn : Nat) (tf : Nat → Int32) (dl : Nat) (df : Nat → Int32) (sdf : Nat → Int32) (cnf : Nat → Int32) (cbf : Nat → Int32) (mkf : Nat → Int32) (num : Nat → Int32) (rep : Nat → Int64) (kf : Nat → Nat → Int32) (uto : Nat → Int32) (ufi : Nat → Int32) (use : Nat → Int32) (sop : Nat → Int32) (sow : Nat → Int32) (sid : Nat → Int64) (sbe : Nat → Int64) (sla : Nat → Int64) (x : Int32) (hst : l.stackTraces = false) : Xt g l yX7_erase cX7_erase 4 (some .int) 6 89 [.ref (ad 0), .int x] (gX g ad ka ua sa now gr mo re bgn lin rfd rnd mB mb ms mt kept np cl cf tn tf dl df sdf cnf cbf mkf ++ (tl 4 ka (kE kb num rep) ++ (tl 4 kb (bE g kf) ++ (tl 8 ua (uE uto ufi use) ++ (tl 8 sa (sE sop sow sid sbe sla) ++ []))))) (Ri g (fun (v : Int32) (u : Nat × Nat) => (x = nI 0 ∧ v = nI cl ∧ u = (0, tn)) ∨ (x = nI 1 ∧ v = nI tn ∧ u = (cl, 0))) (fun (u : Nat × Nat) => (gX g ad ka ua sa now gr mo re bgn lin rfd rnd mB mb ms mt kept np u.1 cf u.2 tf dl df sdf cnf cbf mkf ++ (tl 4 ka (kE kb num rep) ++ (tl 4 kb (bE g kf) ++ (tl 8 ua (uE uto ufi use) ++ (tl 8 sa (sE sop sow sid sbe sla) ++ []))))))) (fun E => E = "java/lang/IllegalArgumentException" ∧ txI x = 0) := by
  refine mkX (by decide) (Nat.le_of_ble_eq_true rfl) ?_
  intro p e s m args below meth c A ls QQ F hr hlk hex hQ hw hl
  have hx := F.1
  have hb := F.2.1
  replace hl : lv_has ls 4 [(0, .ref (ad 0)), (1, .int x)] := hl
  refine lv_iload_n hx hb dX7_erase_0 rfl (lv_at hl 1 rfl) ?_
  refine cl_i hw [] rfl (rn_S F hw (c_X7_isText g l x) (cw_X7_170 F.2.2.2.2 ⟨by decide, by decide⟩) [] (by decide) rfl hl.1 rfl (Nat.le_of_ble_eq_true rfl) dX7_erase_1 ⟨Nat.zero_le _, Nat.zero_le _⟩) (fun _ => rfl) (fun v_2 u_1 H locs hp_3 hw => ?_)
  subst hp_3
  replace hw : Wd g s A H locs (gX g ad ka ua sa now gr mo re bgn lin rfd rnd mB mb ms mt kept np cl cf tn tf dl df sdf cnf cbf mkf ++ (tl 4 ka (kE kb num rep) ++ (tl 4 kb (bE g kf) ++ (tl 8 ua (uE uto ufi use) ++ (tl 8 sa (sE sop sow sid sbe sla) ++ []))))) := hw
  refine lv_if_ne (tgt := 15) hx hb dX7_erase_4 (by decide) (fun c_4 => ?_) (fun c_4 => ?_)
  · rcases tx_01 c_4 with rfl | rfl
    · refine lv_aload_n hx hb dX7_erase_15 rfl (lv_at hl 0 rfl) ?_
      refine lv_iload_n hx hb dX7_erase_16 rfl (lv_at hl 1 rfl) ?_
      refine cl_qF hw (rn_VF F hw (c_X7_textOf_0 g l ad ka kb ua sa now gr mo re bgn lin rfd rnd mB mb ms mt kept np cl cf tn tf dl df sdf cnf cbf mkf num rep kf uto ufi use sop sow sid sbe sla) (cw_X7_173 F.2.2.2.2 ⟨by decide, by decide⟩)    0 rfl rfl rfl hl.1 rfl (Nat.le_of_ble_eq_true rfl) dX7_erase_17 ⟨Nat.zero_le _, Nat.zero_le _⟩) (fun v_5 u_4 H locs hp_6 hw => ?_)
      subst hp_6
      replace hw : Wd g s A H locs (gX g ad ka ua sa now gr mo re bgn lin rfd rnd mB mb ms mt kept np cl cf tn tf dl df sdf cnf cbf mkf ++ (tl 4 ka (kE kb num rep) ++ (tl 4 kb (bE g kf) ++ (tl 8 ua (uE uto ufi use) ++ (tl 8 sa (sE sop sow sid sbe sla) ++ []))))) := hw
      refine lv_astore_n (lv' := [(2, .ref (ad 8)), (0, .ref (ad 0)), (1, .int (nI 0))]) hx hb dX7_erase_20 rfl hl (by decide) rfl (fun ls hl => ?_)
      refine lv_aload_n hx hb dX7_erase_21 rfl (lv_at hl 0 rfl) ?_
      refine gf_X7_181 F hw 8 rfl rfl dX7_erase_22 ?_
      refine lv_istore_n (lv' := [(3, .int (nI cl)), (2, .ref (ad 8)), (0, .ref (ad 0)), (1, .int (nI 0))]) hx hb dX7_erase_25 rfl hl (by decide) rfl (fun ls hl => ?_)
      refine lv_aload_n hx hb dX7_erase_26 rfl (lv_at hl 1 rfl) ?_
      refine lv_iconst (v := nI 0) hx hb dX7_erase_27 (by decide) ?_
      refine pf_X7_181 F hw 8 rfl (Nat.le_of_ble_eq_true rfl) rfl rfl dX7_erase_28 (fun H locs hw => ?_)
      replace hw : Wd g s A H locs (gX g ad ka ua sa now gr mo re bgn lin rfd rnd mB mb ms mt kept np 0 cf tn tf dl df sdf cnf cbf mkf ++ (tl 4 ka (kE kb num rep) ++ (tl 4 kb (bE g kf) ++ (tl 8 ua (uE uto ufi use) ++ (tl 8 sa (sE sop sow sid sbe sla) ++ []))))) := hw
      refine lv_iload_n hx hb dX7_erase_31 rfl (lv_at hl 0 rfl) ?_
      exact rtx_i F hr hlk hQ hw (0, tn) (by first | exact Or.inl ⟨rfl, rfl, rfl⟩ | exact Or.inr ⟨rfl, rfl, rfl⟩) rfl dX7_erase_32
    · refine lv_aload_n hx hb dX7_erase_15 rfl (lv_at hl 0 rfl) ?_
      refine lv_iload_n hx hb dX7_erase_16 rfl (lv_at hl 1 rfl) ?_
      refine cl_qF hw (rn_VF F hw (c_X7_textOf_1 g l ad ka kb ua sa now gr mo re bgn lin rfd rnd mB mb ms mt kept np cl cf tn tf dl df sdf cnf cbf mkf num rep kf uto ufi use sop sow sid sbe sla) (cw_X7_173 F.2.2.2.2 ⟨by decide, by decide⟩)    0 rfl rfl rfl hl.1 rfl (Nat.le_of_ble_eq_true rfl) dX7_erase_17 ⟨Nat.zero_le _, Nat.zero_le _⟩) (fun v_8 u_7 H locs hp_9 hw => ?_)
      subst hp_9
      replace hw : Wd g s A H locs (gX g ad ka ua sa now gr mo re bgn lin rfd rnd mB mb ms mt kept np cl cf tn tf dl df sdf cnf cbf mkf ++ (tl 4 ka (kE kb num rep) ++ (tl 4 kb (bE g kf) ++ (tl 8 ua (uE uto ufi use) ++ (tl 8 sa (sE sop sow sid sbe sla) ++ []))))) := hw
      refine lv_astore_n (lv' := [(2, .ref (ad 10)), (0, .ref (ad 0)), (1, .int (nI 1))]) hx hb dX7_erase_20 rfl hl (by decide) rfl (fun ls hl => ?_)
      refine lv_aload_n hx hb dX7_erase_21 rfl (lv_at hl 0 rfl) ?_
      refine gf_X7_181 F hw 10 rfl rfl dX7_erase_22 ?_
      refine lv_istore_n (lv' := [(3, .int (nI tn)), (2, .ref (ad 10)), (0, .ref (ad 0)), (1, .int (nI 1))]) hx hb dX7_erase_25 rfl hl (by decide) rfl (fun ls hl => ?_)
      refine lv_aload_n hx hb dX7_erase_26 rfl (lv_at hl 1 rfl) ?_
      refine lv_iconst (v := nI 0) hx hb dX7_erase_27 (by decide) ?_
      refine pf_X7_181 F hw 10 rfl (Nat.le_of_ble_eq_true rfl) rfl rfl dX7_erase_28 (fun H locs hw => ?_)
      replace hw : Wd g s A H locs (gX g ad ka ua sa now gr mo re bgn lin rfd rnd mB mb ms mt kept np cl cf 0 tf dl df sdf cnf cbf mkf ++ (tl 4 ka (kE kb num rep) ++ (tl 4 kb (bE g kf) ++ (tl 8 ua (uE uto ufi use) ++ (tl 8 sa (sE sop sow sid sbe sla) ++ []))))) := hw
      refine lv_iload_n hx hb dX7_erase_31 rfl (lv_at hl 0 rfl) ?_
      exact rtx_i F hr hlk hQ hw (cl, 0) (by first | exact Or.inl ⟨rfl, rfl, rfl⟩ | exact Or.inr ⟨rfl, rfl, rfl⟩) rfl dX7_erase_32
  · exact thr_IAE F hst hw hlk hex hQ (⟨rfl, c_4⟩) hl.1 (Nat.le_of_ble_eq_true rfl) (by decide) (by decide) dX7_erase_7 dX7_erase_10 dX7_erase_11 dX7_erase_14
set_option maxHeartbeats 4000000 in
set_option maxRecDepth 100000 in
theorem c_X7_put (g : GG) (l : Launch) (ad : Nat → Nat) (ka : Nat → Nat) (kb : Nat → Nat) (ua : Nat → Nat) (sa : Nat → Nat) (now : Int64) (gr : Int64) (mo : Int64) (re : Int64) (bgn : Int32) (lin : Int32) (rfd : Int32) (rnd : Int32) (mB : Nat → Int32) (mb : Nat → Int32) (ms : Nat → Int32) (mt : Nat → Int32) (kept : Nat) (np : Nat) (cl : Nat) (cf : Nat → Int32) (tn : Nat) (tf : Nat → Int32) (dl : Nat) (df : Nat → Int32) (sdf : Nat → Int32) (cnf : Nat → Int32) (cbf : Nat → Int32) (mkf : Nat → Int32) (num : Nat → Int32) (rep : Nat → Int64) (kf : Nat → Nat → Int32) (uto : Nat → Int32) (ufi : Nat → Int32) (use : Nat → Int32) (sop : Nat → Int32) (sow : Nat → Int32) (sid : Nat → Int64) (sbe : Nat → Int64) (sla : Nat → Int64) (x : Int32) (y : Int32) (z : Int32) (hcl : cl ≤ 40) (htn : tn ≤ 40) (hst : l.stackTraces = false) : Xt g l yX7_put cX7_put 6 (some .int) 6 89 [.ref (ad 0), .int x, .int y, .int z] (gX g ad ka ua sa now gr mo re bgn lin rfd rnd mB mb ms mt kept np cl cf tn tf dl df sdf cnf cbf mkf ++ (tl 4 ka (kE kb num rep) ++ (tl 4 kb (bE g kf) ++ (tl 8 ua (uE uto ufi use) ++ (tl 8 sa (sE sop sow sid sbe sla) ++ []))))) (Ri g (fun (v : Int32) (u : (Nat → Int32) × (Nat → Int32)) => ¬ z < nI 1 ∧ z ≤ nI 255 ∧ ((x = nI 0 ∧ ∃ j, j < cl ∧ y = nI j ∧ v = cf j ∧ u = (upd cf j z, tf)) ∨ (x = nI 1 ∧ ∃ j, j < tn ∧ y = nI j ∧ v = tf j ∧ u = (cf, upd tf j z)))) (fun (u : (Nat → Int32) × (Nat → Int32)) => (gX g ad ka ua sa now gr mo re bgn lin rfd rnd mB mb ms mt kept np cl u.1 tn u.2 dl df sdf cnf cbf mkf ++ (tl 4 ka (kE kb num rep) ++ (tl 4 kb (bE g kf) ++ (tl 8 ua (uE uto ufi use) ++ (tl 8 sa (sE sop sow sid sbe sla) ++ []))))))) (fun E => (E = "java/lang/IllegalArgumentException" ∧ (txI x = 0 ∨ z < nI 1 ∨ ¬ z ≤ nI 255)) ∨ (E = "java/lang/IndexOutOfBoundsException" ∧ ¬ z < nI 1 ∧ z ≤ nI 255 ∧ ((x = nI 0 ∧ hasT y (nI cl) = 0) ∨ (x = nI 1 ∧ hasT y (nI tn) = 0)))) := by
  refine mkX (by decide) (Nat.le_of_ble_eq_true rfl) ?_
  intro p e s m args below meth c A ls QQ F hr hlk hex hQ hw hl
  have hx := F.1
  have hb := F.2.1
  replace hl : lv_has ls 6 [(0, .ref (ad 0)), (1, .int x), (2, .int y), (3, .int z)] := hl
  refine lv_iload_n hx hb dX7_put_0 rfl (lv_at hl 1 rfl) ?_
  refine cl_i hw [] rfl (rn_S F hw (c_X7_isText g l x) (cw_X7_170 F.2.2.2.2 ⟨by decide, by decide⟩) [] (by decide) rfl hl.1 rfl (Nat.le_of_ble_eq_true rfl) dX7_put_1 ⟨Nat.zero_le _, Nat.zero_le _⟩) (fun _ => rfl) (fun v_2 u_1 H locs hp_3 hw => ?_)
  subst hp_3
  replace hw : Wd g s A H locs (gX g ad ka ua sa now gr mo re bgn lin rfd rnd mB mb ms mt kept np cl cf tn tf dl df sdf cnf cbf mkf ++ (tl 4 ka (kE kb num rep) ++ (tl 4 kb (bE g kf) ++ (tl 8 ua (uE uto ufi use) ++ (tl 8 sa (sE sop sow sid sbe sla) ++ []))))) := hw
  refine lv_if_eq (tgt := 19) hx hb dX7_put_4 (by decide) (fun c_4 => ?_) (fun c_4 => ?_)
  · exact thr_IAE F hst hw hlk hex hQ (Or.inl ⟨rfl, by first | exact Or.inl c_4 | exact Or.inr (Or.inl c_9) | exact Or.inr (Or.inr c_16)⟩) hl.1 (Nat.le_of_ble_eq_true rfl) (by decide) (by decide) dX7_put_19 dX7_put_22 dX7_put_23 dX7_put_26
  · refine lv_iload_n hx hb dX7_put_7 rfl (lv_at hl 3 rfl) ?_
    refine lv_iconst (v := nI 1) hx hb dX7_put_8 (by decide) ?_
    refine lv_icmp_lt (tgt := 19) hx hb dX7_put_9 (by decide) (fun c_9 => ?_) (fun c_9 => ?_)
    · exact thr_IAE F hst hw hlk hex hQ (Or.inl ⟨rfl, by first | exact Or.inl c_4 | exact Or.inr (Or.inl c_9) | exact Or.inr (Or.inr c_16)⟩) hl.1 (Nat.le_of_ble_eq_true rfl) (by decide) (by decide) dX7_put_19 dX7_put_22 dX7_put_23 dX7_put_26
    · refine lv_iload_n hx hb dX7_put_12 rfl (lv_at hl 3 rfl) ?_
      refine lv_sipush (v := nI 255) hx hb dX7_put_13 (by decide) ?_
      refine lv_icmp_le (tgt := 27) hx hb dX7_put_16 (by decide) (fun c_16 => ?_) (fun c_16 => ?_)
      · rcases tx_01 c_4 with rfl | rfl
        · refine lv_aload_n hx hb dX7_put_27 rfl (lv_at hl 0 rfl) ?_
          refine lv_iload_n hx hb dX7_put_28 rfl (lv_at hl 1 rfl) ?_
          refine cl_qF hw (rn_VF F hw (c_X7_textOf_0 g l ad ka kb ua sa now gr mo re bgn lin rfd rnd mB mb ms mt kept np cl cf tn tf dl df sdf cnf cbf mkf num rep kf uto ufi use sop sow sid sbe sla) (cw_X7_173 F.2.2.2.2 ⟨by decide, by decide⟩)    0 rfl rfl rfl hl.1 rfl (Nat.le_of_ble_eq_true rfl) dX7_put_29 ⟨Nat.zero_le _, Nat.zero_le _⟩) (fun v_5 u_4 H locs hp_6 hw => ?_)
          subst hp_6
          replace hw : Wd g s A H locs (gX g ad ka ua sa now gr mo re bgn lin rfd rnd mB mb ms mt kept np cl cf tn tf dl df sdf cnf cbf mkf ++ (tl 4 ka (kE kb num rep) ++ (tl 4 kb (bE g kf) ++ (tl 8 ua (uE uto ufi use) ++ (tl 8 sa (sE sop sow sid sbe sla) ++ []))))) := hw
          refine lv_astore (lv' := [(4, .ref (ad 8)), (0, .ref (ad 0)), (1, .int (nI 0)), (2, .int y), (3, .int z)]) hx hb dX7_put_32 hl (by decide) rfl (fun ls hl => ?_)
          refine lv_aload hx hb dX7_put_34 (lv_at hl 0 rfl) ?_
          refine lv_iload_n hx hb dX7_put_36 rfl (lv_at hl 3 rfl) ?_
          refine cl_i hw [8, 9] rfl (rn_V F hw (c_X5_has g l (ad 8) (ad 9) cf cl y) (cw_X7_190 F.2.2.2.2 ⟨by decide, by decide⟩) [8, 9] (by decide) rfl 8 rfl rfl rfl hl.1 rfl (Nat.le_of_ble_eq_true rfl) dX7_put_37 ⟨Nat.zero_le _, Nat.zero_le _⟩) (fun _ => rfl) (fun v_8 u_7 H locs hp_9 hw => ?_)
          subst hp_9
          replace hw : Wd g s A H locs (gX g ad ka ua sa now gr mo re bgn lin rfd rnd mB mb ms mt kept np cl cf tn tf dl df sdf cnf cbf mkf ++ (tl 4 ka (kE kb num rep) ++ (tl 4 kb (bE g kf) ++ (tl 8 ua (uE uto ufi use) ++ (tl 8 sa (sE sop sow sid sbe sla) ++ []))))) := hw
          refine lv_if_ne (tgt := 51) hx hb dX7_put_40 (by decide) (fun c_40 => ?_) (fun c_40 => ?_)
          · obtain ⟨j, hj, rfl⟩ := has_nat (by omega) c_40
            refine lv_aload hx hb dX7_put_51 (lv_at hl 0 rfl) ?_
            refine gf_X7_196 F hw 8 rfl rfl dX7_put_53 ?_
            refine lv_iload_n hx hb dX7_put_56 rfl (lv_at hl 3 rfl) ?_
            refine ia_ld F hw 9 rfl (by omega) (by omega) dX7_put_57 ?_
            refine lv_istore (lv' := [(5, .int ((cf j))), (4, .ref (ad 8)), (0, .ref (ad 0)), (1, .int (nI 0)), (2, .int (nI j)), (3, .int z)]) hx hb dX7_put_58 hl (by decide) rfl (fun ls hl => ?_)
            refine lv_aload hx hb dX7_put_60 (lv_at hl 1 rfl) ?_
            refine gf_X7_196 F hw 8 rfl rfl dX7_put_62 ?_
            refine lv_iload_n hx hb dX7_put_65 rfl (lv_at hl 4 rfl) ?_
            refine lv_iload_n hx hb dX7_put_66 rfl (lv_at hl 5 rfl) ?_
            refine ia_st F hw 9 rfl (by omega) (by omega) dX7_put_67 (fun H locs hw => ?_)
            replace hw : Wd g s A H locs (gX g ad ka ua sa now gr mo re bgn lin rfd rnd mB mb ms mt kept np cl (upd cf j z) tn tf dl df sdf cnf cbf mkf ++ (tl 4 ka (kE kb num rep) ++ (tl 4 kb (bE g kf) ++ (tl 8 ua (uE uto ufi use) ++ (tl 8 sa (sE sop sow sid sbe sla) ++ []))))) := hw
            refine lv_iload hx hb dX7_put_68 (lv_at hl 0 rfl) ?_
            exact rtx_i F hr hlk hQ hw (upd cf j z, tf) (⟨c_9, c_16, by first | exact Or.inl ⟨rfl, j, hj, rfl, rfl, rfl⟩ | exact Or.inr ⟨rfl, j, hj, rfl, rfl, rfl⟩⟩) rfl dX7_put_70
          · exact thr_IOO F hst hw hlk hex hQ (Or.inr ⟨rfl, c_9, c_16, by first | exact Or.inl ⟨rfl, c_40⟩ | exact Or.inr ⟨rfl, c_40⟩⟩) hl.1 (Nat.le_of_ble_eq_true rfl) (by decide) (by decide) dX7_put_43 dX7_put_46 dX7_put_47 dX7_put_50
        · refine lv_aload_n hx hb dX7_put_27 rfl (lv_at hl 0 rfl) ?_
          refine lv_iload_n hx hb dX7_put_28 rfl (lv_at hl 1 rfl) ?_
          refine cl_qF hw (rn_VF F hw (c_X7_textOf_1 g l ad ka kb ua sa now gr mo re bgn lin rfd rnd mB mb ms mt kept np cl cf tn tf dl df sdf cnf cbf mkf num rep kf uto ufi use sop sow sid sbe sla) (cw_X7_173 F.2.2.2.2 ⟨by decide, by decide⟩)    0 rfl rfl rfl hl.1 rfl (Nat.le_of_ble_eq_true rfl) dX7_put_29 ⟨Nat.zero_le _, Nat.zero_le _⟩) (fun v_11 u_10 H locs hp_12 hw => ?_)
          subst hp_12
          replace hw : Wd g s A H locs (gX g ad ka ua sa now gr mo re bgn lin rfd rnd mB mb ms mt kept np cl cf tn tf dl df sdf cnf cbf mkf ++ (tl 4 ka (kE kb num rep) ++ (tl 4 kb (bE g kf) ++ (tl 8 ua (uE uto ufi use) ++ (tl 8 sa (sE sop sow sid sbe sla) ++ []))))) := hw
          refine lv_astore (lv' := [(4, .ref (ad 10)), (0, .ref (ad 0)), (1, .int (nI 1)), (2, .int y), (3, .int z)]) hx hb dX7_put_32 hl (by decide) rfl (fun ls hl => ?_)
          refine lv_aload hx hb dX7_put_34 (lv_at hl 0 rfl) ?_
          refine lv_iload_n hx hb dX7_put_36 rfl (lv_at hl 3 rfl) ?_
          refine cl_i hw [10, 11] rfl (rn_V F hw (c_X5_has g l (ad 10) (ad 11) tf tn y) (cw_X7_190 F.2.2.2.2 ⟨by decide, by decide⟩) [10, 11] (by decide) rfl 10 rfl rfl rfl hl.1 rfl (Nat.le_of_ble_eq_true rfl) dX7_put_37 ⟨Nat.zero_le _, Nat.zero_le _⟩) (fun _ => rfl) (fun v_14 u_13 H locs hp_15 hw => ?_)
          subst hp_15
          replace hw : Wd g s A H locs (gX g ad ka ua sa now gr mo re bgn lin rfd rnd mB mb ms mt kept np cl cf tn tf dl df sdf cnf cbf mkf ++ (tl 4 ka (kE kb num rep) ++ (tl 4 kb (bE g kf) ++ (tl 8 ua (uE uto ufi use) ++ (tl 8 sa (sE sop sow sid sbe sla) ++ []))))) := hw
          refine lv_if_ne (tgt := 51) hx hb dX7_put_40 (by decide) (fun c_40 => ?_) (fun c_40 => ?_)
          · obtain ⟨j, hj, rfl⟩ := has_nat (by omega) c_40
            refine lv_aload hx hb dX7_put_51 (lv_at hl 0 rfl) ?_
            refine gf_X7_196 F hw 10 rfl rfl dX7_put_53 ?_
            refine lv_iload_n hx hb dX7_put_56 rfl (lv_at hl 3 rfl) ?_
            refine ia_ld F hw 11 rfl (by omega) (by omega) dX7_put_57 ?_
            refine lv_istore (lv' := [(5, .int ((tf j))), (4, .ref (ad 10)), (0, .ref (ad 0)), (1, .int (nI 1)), (2, .int (nI j)), (3, .int z)]) hx hb dX7_put_58 hl (by decide) rfl (fun ls hl => ?_)
            refine lv_aload hx hb dX7_put_60 (lv_at hl 1 rfl) ?_
            refine gf_X7_196 F hw 10 rfl rfl dX7_put_62 ?_
            refine lv_iload_n hx hb dX7_put_65 rfl (lv_at hl 4 rfl) ?_
            refine lv_iload_n hx hb dX7_put_66 rfl (lv_at hl 5 rfl) ?_
            refine ia_st F hw 11 rfl (by omega) (by omega) dX7_put_67 (fun H locs hw => ?_)
            replace hw : Wd g s A H locs (gX g ad ka ua sa now gr mo re bgn lin rfd rnd mB mb ms mt kept np cl cf tn (upd tf j z) dl df sdf cnf cbf mkf ++ (tl 4 ka (kE kb num rep) ++ (tl 4 kb (bE g kf) ++ (tl 8 ua (uE uto ufi use) ++ (tl 8 sa (sE sop sow sid sbe sla) ++ []))))) := hw
            refine lv_iload hx hb dX7_put_68 (lv_at hl 0 rfl) ?_
            exact rtx_i F hr hlk hQ hw (cf, upd tf j z) (⟨c_9, c_16, by first | exact Or.inl ⟨rfl, j, hj, rfl, rfl, rfl⟩ | exact Or.inr ⟨rfl, j, hj, rfl, rfl, rfl⟩⟩) rfl dX7_put_70
          · exact thr_IOO F hst hw hlk hex hQ (Or.inr ⟨rfl, c_9, c_16, by first | exact Or.inl ⟨rfl, c_40⟩ | exact Or.inr ⟨rfl, c_40⟩⟩) hl.1 (Nat.le_of_ble_eq_true rfl) (by decide) (by decide) dX7_put_43 dX7_put_46 dX7_put_47 dX7_put_50
      · exact thr_IAE F hst hw hlk hex hQ (Or.inl ⟨rfl, by first | exact Or.inl c_4 | exact Or.inr (Or.inl c_9) | exact Or.inr (Or.inr c_16)⟩) hl.1 (Nat.le_of_ble_eq_true rfl) (by decide) (by decide) dX7_put_19 dX7_put_22 dX7_put_23 dX7_put_26
set_option maxHeartbeats 4000000 in
set_option maxRecDepth 100000 in
theorem c_X7_sign (g : GG) (l : Launch) (ad : Nat → Nat) (ka : Nat → Nat) (kb : Nat → Nat) (ua : Nat → Nat) (sa : Nat → Nat) (now : Int64) (gr : Int64) (mo : Int64) (re : Int64) (bgn : Int32) (lin : Int32) (rfd : Int32) (rnd : Int32) (mB : Nat → Int32) (mb : Nat → Int32) (ms : Nat → Int32) (mt : Nat → Int32) (kept : Nat) (np : Nat) (cl : Nat) (cf : Nat → Int32) (tn : Nat) (tf : Nat → Int32) (dl : Nat) (df : Nat → Int32) (sdf : Nat → Int32) (cnf : Nat → Int32) (cbf : Nat → Int32) (mkf : Nat → Int32) (num : Nat → Int32) (rep : Nat → Int64) (kf : Nat → Nat → Int32) (uto : Nat → Int32) (ufi : Nat → Int32) (use : Nat → Int32) (sop : Nat → Int32) (sow : Nat → Int32) (sid : Nat → Int64) (sbe : Nat → Int64) (sla : Nat → Int64) (x : Int32) (y : Int32) (hcl : cl ≤ 40) (htn : tn ≤ 40) (hst : l.stackTraces = false) : Xt g l yX7_sign cX7_sign 4 (some .int) 6 89 [.ref (ad 0), .int x, .int y] (gX g ad ka ua sa now gr mo re bgn lin rfd rnd mB mb ms mt kept np cl cf tn tf dl df sdf cnf cbf mkf ++ (tl 4 ka (kE kb num rep) ++ (tl 4 kb (bE g kf) ++ (tl 8 ua (uE uto ufi use) ++ (tl 8 sa (sE sop sow sid sbe sla) ++ []))))) (Ri g (fun (v : Int32) (u : Unit) => (x = nI 0 ∧ ((hasT y (nI cl) = 0 ∧ v = (-1)) ∨ ∃ j, j < cl ∧ y = nI j ∧ v = cf j)) ∨ (x = nI 1 ∧ ((hasT y (nI tn) = 0 ∧ v = (-1)) ∨ ∃ j, j < tn ∧ y = nI j ∧ v = tf j))) (fun (u : Unit) => (gX g ad ka ua sa now gr mo re bgn lin rfd rnd mB mb ms mt kept np cl cf tn tf dl df sdf cnf cbf mkf ++ (tl 4 ka (kE kb num rep) ++ (tl 4 kb (bE g kf) ++ (tl 8 ua (uE uto ufi use) ++ (tl 8 sa (sE sop sow sid sbe sla) ++ []))))))) (fun E => E = "java/lang/IllegalArgumentException" ∧ txI x = 0) := by
  refine mkX (by decide) (Nat.le_of_ble_eq_true rfl) ?_
  intro p e s m args below meth c A ls QQ F hr hlk hex hQ hw hl
  have hx := F.1
  have hb := F.2.1
  replace hl : lv_has ls 4 [(0, .ref (ad 0)), (1, .int x), (2, .int y)] := hl
  refine lv_iload_n hx hb dX7_sign_0 rfl (lv_at hl 1 rfl) ?_
  refine cl_i hw [] rfl (rn_S F hw (c_X7_isText g l x) (cw_X7_170 F.2.2.2.2 ⟨by decide, by decide⟩) [] (by decide) rfl hl.1 rfl (Nat.le_of_ble_eq_true rfl) dX7_sign_1 ⟨Nat.zero_le _, Nat.zero_le _⟩) (fun _ => rfl) (fun v_2 u_1 H locs hp_3 hw => ?_)
  subst hp_3
  replace hw : Wd g s A H locs (gX g ad ka ua sa now gr mo re bgn lin rfd rnd mB mb ms mt kept np cl cf tn tf dl df sdf cnf cbf mkf ++ (tl 4 ka (kE kb num rep) ++ (tl 4 kb (bE g kf) ++ (tl 8 ua (uE uto ufi use) ++ (tl 8 sa (sE sop sow sid sbe sla) ++ []))))) := hw
  refine lv_if_ne (tgt := 15) hx hb dX7_sign_4 (by decide) (fun c_4 => ?_) (fun c_4 => ?_)
  · rcases tx_01 c_4 with rfl | rfl
    · refine lv_aload_n hx hb dX7_sign_15 rfl (lv_at hl 0 rfl) ?_
      refine lv_iload_n hx hb dX7_sign_16 rfl (lv_at hl 1 rfl) ?_
      refine cl_qF hw (rn_VF F hw (c_X7_textOf_0 g l ad ka kb ua sa now gr mo re bgn lin rfd rnd mB mb ms mt kept np cl cf tn tf dl df sdf cnf cbf mkf num rep kf uto ufi use sop sow sid sbe sla) (cw_X7_173 F.2.2.2.2 ⟨by decide, by decide⟩)    0 rfl rfl rfl hl.1 rfl (Nat.le_of_ble_eq_true rfl) dX7_sign_17 ⟨Nat.zero_le _, Nat.zero_le _⟩) (fun v_5 u_4 H locs hp_6 hw => ?_)
      subst hp_6
      replace hw : Wd g s A H locs (gX g ad ka ua sa now gr mo re bgn lin rfd rnd mB mb ms mt kept np cl cf tn tf dl df sdf cnf cbf mkf ++ (tl 4 ka (kE kb num rep) ++ (tl 4 kb (bE g kf) ++ (tl 8 ua (uE uto ufi use) ++ (tl 8 sa (sE sop sow sid sbe sla) ++ []))))) := hw
      refine lv_astore_n (lv' := [(3, .ref (ad 8)), (0, .ref (ad 0)), (1, .int (nI 0)), (2, .int y)]) hx hb dX7_sign_20 rfl hl (by decide) rfl (fun ls hl => ?_)
      refine lv_aload_n hx hb dX7_sign_21 rfl (lv_at hl 0 rfl) ?_
      refine lv_iload_n hx hb dX7_sign_22 rfl (lv_at hl 3 rfl) ?_
      refine cl_i hw [8, 9] rfl (rn_V F hw (c_X5_has g l (ad 8) (ad 9) cf cl y) (cw_X7_190 F.2.2.2.2 ⟨by decide, by decide⟩) [8, 9] (by decide) rfl 8 rfl rfl rfl hl.1 rfl (Nat.le_of_ble_eq_true rfl) dX7_sign_23 ⟨Nat.zero_le _, Nat.zero_le _⟩) (fun _ => rfl) (fun v_8 u_7 H locs hp_9 hw => ?_)
      subst hp_9
      replace hw : Wd g s A H locs (gX g ad ka ua sa now gr mo re bgn lin rfd rnd mB mb ms mt kept np cl cf tn tf dl df sdf cnf cbf mkf ++ (tl 4 ka (kE kb num rep) ++ (tl 4 kb (bE g kf) ++ (tl 8 ua (uE uto ufi use) ++ (tl 8 sa (sE sop sow sid sbe sla) ++ []))))) := hw
      refine lv_if_eq (tgt := 38) hx hb dX7_sign_26 (by decide) (fun c_26 => ?_) (fun c_26 => ?_)
      · refine lv_iconst (v := (-1)) hx hb dX7_sign_38 (by decide) ?_
        exact rtx_i F hr hlk hQ hw () (by first | exact Or.inl ⟨rfl, Or.inr ⟨j, hj, rfl, rfl⟩⟩ | exact Or.inr ⟨rfl, Or.inr ⟨j, hj, rfl, rfl⟩⟩ | exact Or.inl ⟨rfl, Or.inl ⟨c_26, rfl⟩⟩ | exact Or.inr ⟨rfl, Or.inl ⟨c_26, rfl⟩⟩) rfl dX7_sign_39
      · obtain ⟨j, hj, rfl⟩ := has_nat (by omega) c_26
        refine lv_aload_n hx hb dX7_sign_29 rfl (lv_at hl 0 rfl) ?_
        refine gf_X7_196 F hw 8 rfl rfl dX7_sign_30 ?_
        refine lv_iload_n hx hb dX7_sign_33 rfl (lv_at hl 3 rfl) ?_
        refine ia_ld F hw 9 rfl (by omega) (by omega) dX7_sign_34 ?_
        refine lv_goto (tgt := 39) hx hb dX7_sign_35 (by decide) ?_
        exact rtx_i F hr hlk hQ hw () (by first | exact Or.inl ⟨rfl, Or.inr ⟨j, hj, rfl, rfl⟩⟩ | exact Or.inr ⟨rfl, Or.inr ⟨j, hj, rfl, rfl⟩⟩ | exact Or.inl ⟨rfl, Or.inl ⟨c_26, rfl⟩⟩ | exact Or.inr ⟨rfl, Or.inl ⟨c_26, rfl⟩⟩) rfl dX7_sign_39
    · refine lv_aload_n hx hb dX7_sign_15 rfl (lv_at hl 0 rfl) ?_
      refine lv_iload_n hx hb dX7_sign_16 rfl (lv_at hl 1 rfl) ?_
      refine cl_qF hw (rn_VF F hw (c_X7_textOf_1 g l ad ka kb ua sa now gr mo re bgn lin rfd rnd mB mb ms mt kept np cl cf tn tf dl df sdf cnf cbf mkf num rep kf uto ufi use sop sow sid sbe sla) (cw_X7_173 F.2.2.2.2 ⟨by decide, by decide⟩)    0 rfl rfl rfl hl.1 rfl (Nat.le_of_ble_eq_true rfl) dX7_sign_17 ⟨Nat.zero_le _, Nat.zero_le _⟩) (fun v_11 u_10 H locs hp_12 hw => ?_)
      subst hp_12
      replace hw : Wd g s A H locs (gX g ad ka ua sa now gr mo re bgn lin rfd rnd mB mb ms mt kept np cl cf tn tf dl df sdf cnf cbf mkf ++ (tl 4 ka (kE kb num rep) ++ (tl 4 kb (bE g kf) ++ (tl 8 ua (uE uto ufi use) ++ (tl 8 sa (sE sop sow sid sbe sla) ++ []))))) := hw
      refine lv_astore_n (lv' := [(3, .ref (ad 10)), (0, .ref (ad 0)), (1, .int (nI 1)), (2, .int y)]) hx hb dX7_sign_20 rfl hl (by decide) rfl (fun ls hl => ?_)
      refine lv_aload_n hx hb dX7_sign_21 rfl (lv_at hl 0 rfl) ?_
      refine lv_iload_n hx hb dX7_sign_22 rfl (lv_at hl 3 rfl) ?_
      refine cl_i hw [10, 11] rfl (rn_V F hw (c_X5_has g l (ad 10) (ad 11) tf tn y) (cw_X7_190 F.2.2.2.2 ⟨by decide, by decide⟩) [10, 11] (by decide) rfl 10 rfl rfl rfl hl.1 rfl (Nat.le_of_ble_eq_true rfl) dX7_sign_23 ⟨Nat.zero_le _, Nat.zero_le _⟩) (fun _ => rfl) (fun v_14 u_13 H locs hp_15 hw => ?_)
      subst hp_15
      replace hw : Wd g s A H locs (gX g ad ka ua sa now gr mo re bgn lin rfd rnd mB mb ms mt kept np cl cf tn tf dl df sdf cnf cbf mkf ++ (tl 4 ka (kE kb num rep) ++ (tl 4 kb (bE g kf) ++ (tl 8 ua (uE uto ufi use) ++ (tl 8 sa (sE sop sow sid sbe sla) ++ []))))) := hw
      refine lv_if_eq (tgt := 38) hx hb dX7_sign_26 (by decide) (fun c_26 => ?_) (fun c_26 => ?_)
      · refine lv_iconst (v := (-1)) hx hb dX7_sign_38 (by decide) ?_
        exact rtx_i F hr hlk hQ hw () (by first | exact Or.inl ⟨rfl, Or.inr ⟨j, hj, rfl, rfl⟩⟩ | exact Or.inr ⟨rfl, Or.inr ⟨j, hj, rfl, rfl⟩⟩ | exact Or.inl ⟨rfl, Or.inl ⟨c_26, rfl⟩⟩ | exact Or.inr ⟨rfl, Or.inl ⟨c_26, rfl⟩⟩) rfl dX7_sign_39
      · obtain ⟨j, hj, rfl⟩ := has_nat (by omega) c_26
        refine lv_aload_n hx hb dX7_sign_29 rfl (lv_at hl 0 rfl) ?_
        refine gf_X7_196 F hw 10 rfl rfl dX7_sign_30 ?_
        refine lv_iload_n hx hb dX7_sign_33 rfl (lv_at hl 3 rfl) ?_
        refine ia_ld F hw 11 rfl (by omega) (by omega) dX7_sign_34 ?_
        refine lv_goto (tgt := 39) hx hb dX7_sign_35 (by decide) ?_
        exact rtx_i F hr hlk hQ hw () (by first | exact Or.inl ⟨rfl, Or.inr ⟨j, hj, rfl, rfl⟩⟩ | exact Or.inr ⟨rfl, Or.inr ⟨j, hj, rfl, rfl⟩⟩ | exact Or.inl ⟨rfl, Or.inl ⟨c_26, rfl⟩⟩ | exact Or.inr ⟨rfl, Or.inl ⟨c_26, rfl⟩⟩) rfl dX7_sign_39
  · exact thr_IAE F hst hw hlk hex hQ (⟨rfl, c_4⟩) hl.1 (Nat.le_of_ble_eq_true rfl) (by decide) (by decide) dX7_sign_7 dX7_sign_10 dX7_sign_11 dX7_sign_14
def sesV (o w : Int32) (i b l : Int64) (y : Nat) : Int64 := if o = 0 then (-1) else if y = 0 then w.toInt64 else if y = 1 then i else if y = 2 then b else l
theorem in_nat {x : Int32} {n : Nat} (hn : n < 2 ^ 31) (h1 : ¬ x < 0) (h2 : ¬ nI n ≤ x) : ∃ k, k < n ∧ x = nI k := by
  obtain ⟨j, hj, rfl⟩ := nI_of h1
  exact ⟨j, Nat.lt_of_not_le (fun z => h2 (nI_le z hj)), rfl⟩
theorem in_nat4 {x : Int32} (h1 : ¬ x < 0) (h2 : x ≤ nI 3) : x = nI 0 ∨ x = nI 1 ∨ x = nI 2 ∨ x = nI 3 := by
  obtain ⟨j, hj, rfl⟩ := nI_of h1
  have := (nI_leI hj (by decide)).mp h2
  rcases (show j = 0 ∨ j = 1 ∨ j = 2 ∨ j = 3 by omega) with rfl | rfl | rfl | rfl
  · exact Or.inl rfl
  · exact Or.inr (Or.inl rfl)
  · exact Or.inr (Or.inr (Or.inl rfl))
  · exact Or.inr (Or.inr (Or.inr rfl))
theorem sw7 (x : Int32) : x = nI 0 ∨ x = nI 1 ∨ x = nI 2 ∨ x = nI 3 ∨ x = nI 4 ∨ x = nI 5 ∨ x = nI 6 ∨ ((x.toInt < 0 ∨ 6 < x.toInt) ∧ ∀ w, w < 7 → ¬ x = nI w) := by
  by_cases h1 : x.toInt < 0 ∨ 6 < x.toInt
  · refine Or.inr (Or.inr (Or.inr (Or.inr (Or.inr (Or.inr (Or.inr ⟨h1, fun w hw e => ?_⟩))))))
    rw [e, nI_toInt (by omega)] at h1
    omega
  · have h2 : ¬ x < 0 := fun h => h1 (Or.inl (by simpa using Int32.lt_iff_toInt_lt.mp h))
    obtain ⟨j, hj, rfl⟩ := nI_of h2
    rw [nI_toInt hj] at h1
    rcases (show j = 0 ∨ j = 1 ∨ j = 2 ∨ j = 3 ∨ j = 4 ∨ j = 5 ∨ j = 6 by omega) with rfl | rfl | rfl | rfl | rfl | rfl | rfl
    · exact Or.inl rfl
    · exact Or.inr (Or.inl rfl)
    · exact Or.inr (Or.inr (Or.inl rfl))
    · exact Or.inr (Or.inr (Or.inr (Or.inl rfl)))
    · exact Or.inr (Or.inr (Or.inr (Or.inr (Or.inl rfl))))
    · exact Or.inr (Or.inr (Or.inr (Or.inr (Or.inr (Or.inl rfl)))))
    · exact Or.inr (Or.inr (Or.inr (Or.inr (Or.inr (Or.inr (Or.inl rfl))))))
set_option maxHeartbeats 4000000 in
set_option maxRecDepth 100000 in
theorem c_X7_session (g : GG) (l : Launch) (ad : Nat → Nat) (ka : Nat → Nat) (kb : Nat → Nat) (ua : Nat → Nat) (sa : Nat → Nat) (now : Int64) (gr : Int64) (mo : Int64) (re : Int64) (bgn : Int32) (lin : Int32) (rfd : Int32) (rnd : Int32) (mB : Nat → Int32) (mb : Nat → Int32) (ms : Nat → Int32) (mt : Nat → Int32) (kept : Nat) (np : Nat) (cl : Nat) (cf : Nat → Int32) (tn : Nat) (tf : Nat → Int32) (dl : Nat) (df : Nat → Int32) (sdf : Nat → Int32) (cnf : Nat → Int32) (cbf : Nat → Int32) (mkf : Nat → Int32) (num : Nat → Int32) (rep : Nat → Int64) (kf : Nat → Nat → Int32) (uto : Nat → Int32) (ufi : Nat → Int32) (use : Nat → Int32) (sop : Nat → Int32) (sow : Nat → Int32) (sid : Nat → Int64) (sbe : Nat → Int64) (sla : Nat → Int64) (x : Int32) (y : Int32) (hst : l.stackTraces = false) : Xt g l yX7_session cX7_session 4 (some .long) 6 89 [.ref (ad 0), .int x, .int y] (gX g ad ka ua sa now gr mo re bgn lin rfd rnd mB mb ms mt kept np cl cf tn tf dl df sdf cnf cbf mkf ++ (tl 4 ka (kE kb num rep) ++ (tl 4 kb (bE g kf) ++ (tl 8 ua (uE uto ufi use) ++ (tl 8 sa (sE sop sow sid sbe sla) ++ []))))) (Rl g (fun (v : Int64) (u : Unit) => ∃ k w, k < 8 ∧ w < 4 ∧ x = nI k ∧ y = nI w ∧ v = sesV (sop k) (sow k) (sid k) (sbe k) (sla k) w) (fun (u : Unit) => (gX g ad ka ua sa now gr mo re bgn lin rfd rnd mB mb ms mt kept np cl cf tn tf dl df sdf cnf cbf mkf ++ (tl 4 ka (kE kb num rep) ++ (tl 4 kb (bE g kf) ++ (tl 8 ua (uE uto ufi use) ++ (tl 8 sa (sE sop sow sid sbe sla) ++ []))))))) (fun E => E = "java/lang/IllegalArgumentException" ∧ (x < 0 ∨ nI 8 ≤ x ∨ y < 0 ∨ ¬ y ≤ nI 3)) := by
  refine mkX (by decide) (Nat.le_of_ble_eq_true rfl) ?_
  intro p e s m args below meth c A ls QQ F hr hlk hex hQ hw hl
  have hx := F.1
  have hb := F.2.1
  replace hl : lv_has ls 4 [(0, .ref (ad 0)), (1, .int x), (2, .int y)] := hl
  refine lv_iload_n hx hb dX7_session_0 rfl (lv_at hl 1 rfl) ?_
  refine lv_if_lt (tgt := 19) hx hb dX7_session_1 (by decide) (fun c_1 => ?_) (fun c_1 => ?_)
  · exact thr_IAE F hst hw hlk hex hQ (⟨rfl, by first | exact Or.inl c_1 | exact Or.inr (Or.inl c_7) | exact Or.inr (Or.inr (Or.inl c_11)) | exact Or.inr (Or.inr (Or.inr c_16))⟩) hl.1 (Nat.le_of_ble_eq_true rfl) (by decide) (by decide) dX7_session_19 dX7_session_22 dX7_session_23 dX7_session_26
  · refine lv_iload_n hx hb dX7_session_4 rfl (lv_at hl 1 rfl) ?_
    refine lv_bipush (v := nI 8) hx hb dX7_session_5 (by decide) ?_
    refine lv_icmp_ge (tgt := 19) hx hb dX7_session_7 (by decide) (fun c_7 => ?_) (fun c_7 => ?_)
    · exact thr_IAE F hst hw hlk hex hQ (⟨rfl, by first | exact Or.inl c_1 | exact Or.inr (Or.inl c_7) | exact Or.inr (Or.inr (Or.inl c_11)) | exact Or.inr (Or.inr (Or.inr c_16))⟩) hl.1 (Nat.le_of_ble_eq_true rfl) (by decide) (by decide) dX7_session_19 dX7_session_22 dX7_session_23 dX7_session_26
    · refine lv_iload_n hx hb dX7_session_10 rfl (lv_at hl 2 rfl) ?_
      refine lv_if_lt (tgt := 19) hx hb dX7_session_11 (by decide) (fun c_11 => ?_) (fun c_11 => ?_)
      · exact thr_IAE F hst hw hlk hex hQ (⟨rfl, by first | exact Or.inl c_1 | exact Or.inr (Or.inl c_7) | exact Or.inr (Or.inr (Or.inl c_11)) | exact Or.inr (Or.inr (Or.inr c_16))⟩) hl.1 (Nat.le_of_ble_eq_true rfl) (by decide) (by decide) dX7_session_19 dX7_session_22 dX7_session_23 dX7_session_26
      · refine lv_iload_n hx hb dX7_session_14 rfl (lv_at hl 2 rfl) ?_
        refine lv_iconst (v := nI 3) hx hb dX7_session_15 (by decide) ?_
        refine lv_icmp_le (tgt := 27) hx hb dX7_session_16 (by decide) (fun c_16 => ?_) (fun c_16 => ?_)
        · obtain ⟨k, hk, rfl⟩ := in_nat (by decide) c_1 c_7
          refine lv_aload_n hx hb dX7_session_27 rfl (lv_at hl 0 rfl) ?_
          refine gf_X7_44 F hw 0 rfl rfl dX7_session_28 ?_
          refine lv_iload_n hx hb dX7_session_31 rfl (lv_at hl 1 rfl) ?_
          refine ra_ld F hw 15 4 rfl rfl (by omega) (by omega) rfl dX7_session_32 ?_
          refine lv_astore_n (lv' := [(3, .ref (sa k)), (0, .ref (ad 0)), (1, .int (nI k)), (2, .int y)]) hx hb dX7_session_33 rfl hl (by decide) rfl (fun ls hl => ?_)
          refine lv_aload_n hx hb dX7_session_34 rfl (lv_at hl 0 rfl) ?_
          refine gf_X7_163 F hw (36 + k) (tg4 rfl (by omega)) rfl dX7_session_35 ?_
          refine lv_if_ne (tgt := 45) hx hb dX7_session_38 (by decide) (fun c_38 => ?_) (fun c_38 => ?_)
          · refine lv_iload_n hx hb dX7_session_45 rfl (lv_at hl 3 rfl) ?_
            rcases in_nat4 c_11 c_16 with rfl | rfl | rfl | rfl
            · refine lv_tableIn (tgt := 72) (off := 26) hx hb dX7_session_46 (by decide) (by decide) (by decide) (by decide) ?_
              refine lv_aload_n hx hb dX7_session_72 rfl (lv_at hl 0 rfl) ?_
              refine gf_X7_167 F hw (36 + k) (tg4 rfl (by omega)) rfl dX7_session_73 ?_
              refine lv_i2l (v := ((sow k)).toInt64) hx hb dX7_session_76 rfl ?_
              exact rtx_l F hr hlk hQ hw () (⟨k, 0, hk, by omega, rfl, rfl, by simp [sesV, c_38]⟩) rfl dX7_session_77
            · refine lv_tableIn (tgt := 78) (off := 32) hx hb dX7_session_46 (by decide) (by decide) (by decide) (by decide) ?_
              refine lv_aload_n hx hb dX7_session_78 rfl (lv_at hl 0 rfl) ?_
              refine gf_X7_201 F hw (36 + k) (tg4 rfl (by omega)) rfl dX7_session_79 ?_
              exact rtx_l F hr hlk hQ hw () (⟨k, 1, hk, by omega, rfl, rfl, by simp [sesV, c_38]⟩) rfl dX7_session_82
            · refine lv_tableIn (tgt := 83) (off := 37) hx hb dX7_session_46 (by decide) (by decide) (by decide) (by decide) ?_
              refine lv_aload_n hx hb dX7_session_83 rfl (lv_at hl 0 rfl) ?_
              refine gf_X7_204 F hw (36 + k) (tg4 rfl (by omega)) rfl dX7_session_84 ?_
              exact rtx_l F hr hlk hQ hw () (⟨k, 2, hk, by omega, rfl, rfl, by simp [sesV, c_38]⟩) rfl dX7_session_87
            · refine lv_tableOut (tgt := 88) hx hb dX7_session_46 (by decide) (by decide) ?_
              refine lv_aload_n hx hb dX7_session_88 rfl (lv_at hl 0 rfl) ?_
              refine gf_X7_160 F hw (36 + k) (tg4 rfl (by omega)) rfl dX7_session_89 ?_
              exact rtx_l F hr hlk hQ hw () (⟨k, 3, hk, by omega, rfl, rfl, by simp [sesV, c_38]⟩) rfl dX7_session_92
          · obtain ⟨w, hw4, rfl⟩ : ∃ w, w < 4 ∧ y = nI w := by rcases in_nat4 c_11 c_16 with h | h | h | h <;> exact ⟨_, by decide, h⟩
            refine lv_ldc2 hx hb F.2.2.2.1 (F.2.2.2.2 _ bg_31_1) dX7_session_41 ?_
            exact rtx_l F hr hlk hQ hw () (⟨k, w, hk, by omega, rfl, rfl, by simp [sesV, c_38]⟩) rfl dX7_session_44
        · exact thr_IAE F hst hw hlk hex hQ (⟨rfl, by first | exact Or.inl c_1 | exact Or.inr (Or.inl c_7) | exact Or.inr (Or.inr (Or.inl c_11)) | exact Or.inr (Or.inr (Or.inr c_16))⟩) hl.1 (Nat.le_of_ble_eq_true rfl) (by decide) (by decide) dX7_session_19 dX7_session_22 dX7_session_23 dX7_session_26
def couV (o b l r n k m : Int32) (w : Nat) : Int32 := if w = 0 then o else if w = 1 then b else if w = 2 then l else if w = 3 then r else if w = 4 then n else if w = 5 then k else m
set_option maxHeartbeats 4000000 in
set_option maxRecDepth 100000 in
theorem c_X7_count (g : GG) (l : Launch) (ad : Nat → Nat) (ka : Nat → Nat) (kb : Nat → Nat) (ua : Nat → Nat) (sa : Nat → Nat) (now : Int64) (gr : Int64) (mo : Int64) (re : Int64) (bgn : Int32) (lin : Int32) (rfd : Int32) (rnd : Int32) (mB : Nat → Int32) (mb : Nat → Int32) (ms : Nat → Int32) (mt : Nat → Int32) (kept : Nat) (np : Nat) (cl : Nat) (cf : Nat → Int32) (tn : Nat) (tf : Nat → Int32) (dl : Nat) (df : Nat → Int32) (sdf : Nat → Int32) (cnf : Nat → Int32) (cbf : Nat → Int32) (mkf : Nat → Int32) (num : Nat → Int32) (rep : Nat → Int64) (kf : Nat → Nat → Int32) (uto : Nat → Int32) (ufi : Nat → Int32) (use : Nat → Int32) (sop : Nat → Int32) (sow : Nat → Int32) (sid : Nat → Int64) (sbe : Nat → Int64) (sla : Nat → Int64) (x : Int32) (hnp : np < 4) (hke : kept ≤ 4) (hst : l.stackTraces = false) : Xt g l yX7_count cX7_count 2 (some .int) 6 89 [.ref (ad 0), .int x] (gX g ad ka ua sa now gr mo re bgn lin rfd rnd mB mb ms mt kept np cl cf tn tf dl df sdf cnf cbf mkf ++ (tl 4 ka (kE kb num rep) ++ (tl 4 kb (bE g kf) ++ (tl 8 ua (uE uto ufi use) ++ (tl 8 sa (sE sop sow sid sbe sla) ++ []))))) (Ri g (fun (v : Int32) (u : Unit) => ∃ w, w < 7 ∧ x = nI w ∧ v = couV (nI (cntL sop 8)) bgn lin rfd rnd (nI (cntL (lvI kept np rep now gr) 4)) (num np) w) (fun (u : Unit) => (gX g ad ka ua sa now gr mo re bgn lin rfd rnd mB mb ms mt kept np cl cf tn tf dl df sdf cnf cbf mkf ++ (tl 4 ka (kE kb num rep) ++ (tl 4 kb (bE g kf) ++ (tl 8 ua (uE uto ufi use) ++ (tl 8 sa (sE sop sow sid sbe sla) ++ []))))))) (fun E => E = "java/lang/IllegalArgumentException" ∧ ∀ w, w < 7 → ¬ x = nI w) := by
  refine mkX (by decide) (Nat.le_of_ble_eq_true rfl) ?_
  intro p e s m args below meth c A ls QQ F hr hlk hex hQ hw hl
  have hx := F.1
  have hb := F.2.1
  replace hl : lv_has ls 2 [(0, .ref (ad 0)), (1, .int x)] := hl
  refine lv_iload_n hx hb dX7_count_0 rfl (lv_at hl 1 rfl) ?_
  rcases sw7 x with rfl | rfl | rfl | rfl | rfl | rfl | rfl | ⟨h8, h9⟩
  · refine lv_tableIn (tgt := 44) (off := 43) hx hb dX7_count_1 (by decide) (by decide) (by decide) (by decide) ?_
    refine lv_aload_n hx hb dX7_count_44 rfl (lv_at hl 0 rfl) ?_
    refine cl_iF hw (rn_VF F hw (c_X7_openSessions g l ad ka kb ua sa now gr mo re bgn lin rfd rnd mB mb ms mt kept np cl cf tn tf dl df sdf cnf cbf mkf num rep kf uto ufi use sop sow sid sbe sla) (cw_X7_207 F.2.2.2.2 ⟨by decide, by decide⟩)    0 rfl rfl rfl hl.1 rfl (Nat.le_of_ble_eq_true rfl) dX7_count_45 ⟨Nat.zero_le _, Nat.zero_le _⟩) (fun v_2 u_1 H locs hp_3 hw => ?_)
    subst hp_3
    replace hw : Wd g s A H locs (gX g ad ka ua sa now gr mo re bgn lin rfd rnd mB mb ms mt kept np cl cf tn tf dl df sdf cnf cbf mkf ++ (tl 4 ka (kE kb num rep) ++ (tl 4 kb (bE g kf) ++ (tl 8 ua (uE uto ufi use) ++ (tl 8 sa (sE sop sow sid sbe sla) ++ []))))) := hw
    exact rtx_i F hr hlk hQ hw () (⟨0, by decide, rfl, rfl⟩) rfl dX7_count_48
  · refine lv_tableIn (tgt := 49) (off := 48) hx hb dX7_count_1 (by decide) (by decide) (by decide) (by decide) ?_
    refine lv_aload_n hx hb dX7_count_49 rfl (lv_at hl 0 rfl) ?_
    refine gf_X7_76 F hw 0 rfl rfl dX7_count_50 ?_
    exact rtx_i F hr hlk hQ hw () (⟨1, by decide, rfl, rfl⟩) rfl dX7_count_53
  · refine lv_tableIn (tgt := 54) (off := 53) hx hb dX7_count_1 (by decide) (by decide) (by decide) (by decide) ?_
    refine lv_aload_n hx hb dX7_count_54 rfl (lv_at hl 0 rfl) ?_
    refine gf_X7_80 F hw 0 rfl rfl dX7_count_55 ?_
    exact rtx_i F hr hlk hQ hw () (⟨2, by decide, rfl, rfl⟩) rfl dX7_count_58
  · refine lv_tableIn (tgt := 59) (off := 58) hx hb dX7_count_1 (by decide) (by decide) (by decide) (by decide) ?_
    refine lv_aload_n hx hb dX7_count_59 rfl (lv_at hl 0 rfl) ?_
    refine gf_X7_83 F hw 0 rfl rfl dX7_count_60 ?_
    exact rtx_i F hr hlk hQ hw () (⟨3, by decide, rfl, rfl⟩) rfl dX7_count_63
  · refine lv_tableIn (tgt := 64) (off := 63) hx hb dX7_count_1 (by decide) (by decide) (by decide) (by decide) ?_
    refine lv_aload_n hx hb dX7_count_64 rfl (lv_at hl 0 rfl) ?_
    refine gf_X7_86 F hw 0 rfl rfl dX7_count_65 ?_
    exact rtx_i F hr hlk hQ hw () (⟨4, by decide, rfl, rfl⟩) rfl dX7_count_68
  · refine lv_tableIn (tgt := 69) (off := 68) hx hb dX7_count_1 (by decide) (by decide) (by decide) (by decide) ?_
    refine lv_aload_n hx hb dX7_count_69 rfl (lv_at hl 0 rfl) ?_
    refine gf_X7_19 F hw 0 rfl rfl dX7_count_70 ?_
    refine lv_aload_n hx hb dX7_count_73 rfl (lv_at hl 0 rfl) ?_
    refine gf_X7_61 F hw 0 rfl rfl dX7_count_74 ?_
    refine lv_aload_n hx hb dX7_count_77 rfl (lv_at hl 0 rfl) ?_
    refine gf_X7_67 F hw 0 rfl rfl dX7_count_78 ?_
    refine cl_i hw [6, 7, 20, 21, 22, 23] rfl (rn_V F hw (c_X2_liveOnes g l (ad 6) (ad 7) ka kept np kb num rep now gr (by omega) (by omega)) (cw_X7_210 F.2.2.2.2 ⟨by decide, by decide⟩) [6, 7, 20, 21, 22, 23] (by decide) rfl 6 rfl rfl rfl hl.1 rfl (Nat.le_of_ble_eq_true rfl) dX7_count_81 ⟨Nat.zero_le _, Nat.zero_le _⟩) (fun _ => rfl) (fun v_5 u_4 H locs hp_6 hw => ?_)
    subst hp_6
    replace hw : Wd g s A H locs (gX g ad ka ua sa now gr mo re bgn lin rfd rnd mB mb ms mt kept np cl cf tn tf dl df sdf cnf cbf mkf ++ (tl 4 ka (kE kb num rep) ++ (tl 4 kb (bE g kf) ++ (tl 8 ua (uE uto ufi use) ++ (tl 8 sa (sE sop sow sid sbe sla) ++ []))))) := hw
    exact rtx_i F hr hlk hQ hw () (⟨5, by decide, rfl, rfl⟩) rfl dX7_count_84
  · refine lv_tableIn (tgt := 85) (off := 84) hx hb dX7_count_1 (by decide) (by decide) (by decide) (by decide) ?_
    refine lv_aload_n hx hb dX7_count_85 rfl (lv_at hl 0 rfl) ?_
    refine gf_X7_19 F hw 0 rfl rfl dX7_count_86 ?_
    refine cl_q hw [6, 7] rfl (rn_V F hw (c_X2_newest g l (ad 6) (ad 7) ka kept np (by omega)) (cw_X7_108 F.2.2.2.2 ⟨by decide, by decide⟩) [6, 7] (by decide) rfl 6 rfl rfl rfl hl.1 rfl (Nat.le_of_ble_eq_true rfl) dX7_count_89 ⟨Nat.zero_le _, Nat.zero_le _⟩) (fun _ => rfl) (fun v_8 u_7 H locs hp_9 hw => ?_)
    subst hp_9
    replace hw : Wd g s A H locs (gX g ad ka ua sa now gr mo re bgn lin rfd rnd mB mb ms mt kept np cl cf tn tf dl df sdf cnf cbf mkf ++ (tl 4 ka (kE kb num rep) ++ (tl 4 kb (bE g kf) ++ (tl 8 ua (uE uto ufi use) ++ (tl 8 sa (sE sop sow sid sbe sla) ++ []))))) := hw
    refine gf_X7_118 F hw (20 + np) (tg1 rfl (by omega)) rfl dX7_count_92 ?_
    exact rtx_i F hr hlk hQ hw () (⟨6, by decide, rfl, rfl⟩) rfl dX7_count_95
  · refine lv_tableOut (tgt := 96) hx hb dX7_count_1 h8 (by decide) ?_
    exact thr_IAE F hst hw hlk hex hQ (⟨rfl, h9⟩) hl.1 (Nat.le_of_ble_eq_true rfl) (by decide) (by decide) dX7_count_96 dX7_count_99 dX7_count_100 dX7_count_103
theorem in_natL {x : Int32} {n : Nat} (hn : n < 2 ^ 31) (h1 : ¬ x < 0) (h2 : x < nI n) : ∃ k, k < n ∧ x = nI k := by
  obtain ⟨j, hj, rfl⟩ := nI_of h1
  exact ⟨j, (nI_ltI hj hn).mp h2, rfl⟩
set_option maxHeartbeats 4000000 in
set_option maxRecDepth 100000 in
theorem c_X7_octet (g : GG) (l : Launch) (ad : Nat → Nat) (ka : Nat → Nat) (kb : Nat → Nat) (ua : Nat → Nat) (sa : Nat → Nat) (now : Int64) (gr : Int64) (mo : Int64) (re : Int64) (bgn : Int32) (lin : Int32) (rfd : Int32) (rnd : Int32) (mB : Nat → Int32) (mb : Nat → Int32) (ms : Nat → Int32) (mt : Nat → Int32) (kept : Nat) (np : Nat) (cl : Nat) (cf : Nat → Int32) (tn : Nat) (tf : Nat → Int32) (dl : Nat) (df : Nat → Int32) (sdf : Nat → Int32) (cnf : Nat → Int32) (cbf : Nat → Int32) (mkf : Nat → Int32) (num : Nat → Int32) (rep : Nat → Int64) (kf : Nat → Nat → Int32) (uto : Nat → Int32) (ufi : Nat → Int32) (use : Nat → Int32) (sop : Nat → Int32) (sow : Nat → Int32) (sid : Nat → Int64) (sbe : Nat → Int64) (sla : Nat → Int64) (x : Int32) (hnp : np < 4) (hcl : cl ≤ 40) (hst : l.stackTraces = false) : Xt g l yX7_octet cX7_octet 2 (some .int) 6 98 [.ref (ad 0), .int x] (gX g ad ka ua sa now gr mo re bgn lin rfd rnd mB mb ms mt kept np cl cf tn tf dl df sdf cnf cbf mkf ++ (tl 4 ka (kE kb num rep) ++ (tl 4 kb (bE g kf) ++ (tl 8 ua (uE uto ufi use) ++ (tl 8 sa (sE sop sow sid sbe sla) ++ []))))) (Ri g (fun (v : Int32) (u : (Nat → Int32) × (Nat → Int32) × (Nat → Int32) × (Nat → Int32)) => ∃ k, k < 32 ∧ x = nI k ∧ v = hmac (kf np) 16 cf cl k) (fun (u : (Nat → Int32) × (Nat → Int32) × (Nat → Int32) × (Nat → Int32)) => (gX g ad ka ua sa now gr mo re bgn lin rfd rnd u.1 u.2.1 u.2.2.1 u.2.2.2 kept np cl cf tn tf dl df sdf cnf cbf mkf ++ (tl 4 ka (kE kb num rep) ++ (tl 4 kb (bE g kf) ++ (tl 8 ua (uE uto ufi use) ++ (tl 8 sa (sE sop sow sid sbe sla) ++ []))))))) (fun E => E = "java/lang/IllegalArgumentException" ∧ (x < 0 ∨ ¬ x < nI 32)) := by
  refine mkX (by decide) (Nat.le_of_ble_eq_true rfl) ?_
  intro p e s m args below meth c A ls QQ F hr hlk hex hQ hw hl
  have hx := F.1
  have hb := F.2.1
  replace hl : lv_has ls 2 [(0, .ref (ad 0)), (1, .int x)] := hl
  refine lv_iload_n hx hb dX7_octet_0 rfl (lv_at hl 1 rfl) ?_
  refine lv_if_lt (tgt := 10) hx hb dX7_octet_1 (by decide) (fun c_1 => ?_) (fun c_1 => ?_)
  · exact thr_IAE F hst hw hlk hex hQ (⟨rfl, by first | exact Or.inl c_1 | exact Or.inr c_7⟩) hl.1 (Nat.le_of_ble_eq_true rfl) (by decide) (by decide) dX7_octet_10 dX7_octet_13 dX7_octet_14 dX7_octet_17
  · refine lv_iload_n hx hb dX7_octet_4 rfl (lv_at hl 1 rfl) ?_
    refine lv_bipush (v := nI 32) hx hb dX7_octet_5 (by decide) ?_
    refine lv_icmp_lt (tgt := 18) hx hb dX7_octet_7 (by decide) (fun c_7 => ?_) (fun c_7 => ?_)
    · obtain ⟨k, hk, rfl⟩ := in_natL (by decide) c_1 c_7
      refine lv_aload_n hx hb dX7_octet_18 rfl (lv_at hl 0 rfl) ?_
      refine gf_X7_10 F hw 0 rfl rfl dX7_octet_19 ?_
      refine lv_aload_n hx hb dX7_octet_22 rfl (lv_at hl 0 rfl) ?_
      refine gf_X7_19 F hw 0 rfl rfl dX7_octet_23 ?_
      refine cl_q hw [6, 7] rfl (rn_V F hw (c_X2_newest g l (ad 6) (ad 7) ka kept np (by omega)) (cw_X7_108 F.2.2.2.2 ⟨by decide, by decide⟩) [6, 7] (by decide) rfl 6 rfl rfl rfl hl.1 rfl (Nat.le_of_ble_eq_true rfl) dX7_octet_26 ⟨Nat.zero_le _, Nat.zero_le _⟩) (fun _ => rfl) (fun v_2 u_1 H locs hp_3 hw => ?_)
      subst hp_3
      replace hw : Wd g s A H locs (gX g ad ka ua sa now gr mo re bgn lin rfd rnd mB mb ms mt kept np cl cf tn tf dl df sdf cnf cbf mkf ++ (tl 4 ka (kE kb num rep) ++ (tl 4 kb (bE g kf) ++ (tl 8 ua (uE uto ufi use) ++ (tl 8 sa (sE sop sow sid sbe sla) ++ []))))) := hw
      refine gf_X7_214 F hw (20 + np) (tg1 rfl (by omega)) rfl dX7_octet_29 ?_
      refine lv_aload_n hx hb dX7_octet_32 rfl (lv_at hl 0 rfl) ?_
      refine gf_X7_26 F hw 0 rfl rfl dX7_octet_33 ?_
      refine gf_X7_196 F hw 8 rfl rfl dX7_octet_36 ?_
      refine lv_aload_n hx hb dX7_octet_39 rfl (lv_at hl 0 rfl) ?_
      refine gf_X7_26 F hw 0 rfl rfl dX7_octet_40 ?_
      refine gf_X7_181 F hw 8 rfl rfl dX7_octet_43 ?_
      have hC9 : List.map (fun zz9 : Nat => ((gX g ad ka ua sa now gr mo re bgn lin rfd rnd mB mb ms mt kept np cl cf tn tf dl df sdf cnf cbf mkf ++ (tl 4 ka (kE kb num rep) ++ (tl 4 kb (bE g kf) ++ (tl 8 ua (uE uto ufi use) ++ (tl 8 sa (sE sop sow sid sbe sla) ++ []))))))[zz9]?) [1, 2, 3, 4, 5, 9, (24 + np)] = List.map some [(ad 1, .inr (2, [.ref (ad 2), .ref (ad 3), .ref (ad 4), .ref (ad 5)])), (ad 2, iA g 32 mB), (ad 3, iA g 128 mb), (ad 4, iA g 64 ms), (ad 5, iA g 8 mt), (ad 9, iA g 40 cf), (kb np, iA g 16 (kf np))] := (l_c rfl (l_c rfl (l_c rfl (l_c rfl (l_c rfl (l_c rfl (l_c (tg2 rfl (by omega)) rfl)))))))
      refine cl_v hw [1, 2, 3, 4, 5, 9, (24 + np)] hC9 (rn_V F hw (c_X3_compute g l (ad 1) (ad 2) (ad 3) (ad 4) (ad 5) (kb np) (ad 9) 16 40 mB mb ms mt (kf np) cf cl (by omega) (by omega) (by omega) (by omega)) (cw_X7_217 F.2.2.2.2 ⟨by decide, by decide⟩) [1, 2, 3, 4, 5, 9, (24 + np)] (by simp [va_nd] <;> omega) hC9 1 rfl rfl rfl hl.1 rfl (Nat.le_of_ble_eq_true rfl) dX7_octet_46 ⟨Nat.zero_le _, Nat.zero_le _⟩) (fun _ => rfl) (fun u_4 H locs hp_6 hw => ?_)
      replace hw : Wd g s A H locs (List.set (gX g ad ka ua sa now gr mo re bgn lin rfd rnd u_4.1 u_4.2.1 u_4.2.2.1 u_4.2.2.2 kept np cl cf tn tf dl df sdf cnf cbf mkf ++ (tl 4 ka (kE kb num rep) ++ (tl 4 kb (bE g kf) ++ (tl 8 ua (uE uto ufi use) ++ (tl 8 sa (sE sop sow sid sbe sla) ++ []))))) (24 + np) (kb np, iA g 16 (kf np))) := hw
      replace hw : Wd g s A H locs (gX g ad ka ua sa now gr mo re bgn lin rfd rnd u_4.1 u_4.2.1 u_4.2.2.1 u_4.2.2.2 kept np cl cf tn tf dl df sdf cnf cbf mkf ++ (tl 4 ka (kE kb num rep) ++ (tl 4 kb (bE g kf) ++ (tl 8 ua (uE uto ufi use) ++ (tl 8 sa (sE sop sow sid sbe sla) ++ []))))) := wd_eq (ts2 rfl (by omega) (by funext z; by_cases hz : z = np <;> simp [va_up, bE, upd, vp_updL, hz])) hw
      have q1 := hp_6
      refine lv_aload_n hx hb dX7_octet_49 rfl (lv_at hl 0 rfl) ?_
      refine gf_X7_10 F hw 0 rfl rfl dX7_octet_50 ?_
      refine gf_X7_221 F hw 1 rfl rfl dX7_octet_53 ?_
      refine lv_iload_n hx hb dX7_octet_56 rfl (lv_at hl 1 rfl) ?_
      refine ia_ld F hw 2 rfl (by omega) (by omega) dX7_octet_57 ?_
      exact rtx_i F hr hlk hQ hw (u_4.1, u_4.2.1, u_4.2.2.1, u_4.2.2.2) (⟨k, hk, rfl, q1 k hk⟩) rfl dX7_octet_58
    · exact thr_IAE F hst hw hlk hex hQ (⟨rfl, by first | exact Or.inl c_1 | exact Or.inr c_7⟩) hl.1 (Nat.le_of_ble_eq_true rfl) (by decide) (by decide) dX7_octet_10 dX7_octet_13 dX7_octet_14 dX7_octet_17
