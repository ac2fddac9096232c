/-- the body of a cookie -/
def bod (n w : Int32) (id : Int64) (j : Nat) : Int32 := if j = 0 then n else if j = 1 then w else byL id (j - 2)
/-- the cookie's bytes -/
def ckB (kf : Nat → Int32) (n w : Int32) (id : Int64) (j : Nat) : Int32 := if j < 10 then bod n w id j else hmac kf 16 (bod n w id) 10 (j - 10)
/-- the cookie's signs -/
def ckS (kf : Nat → Int32) (n w : Int32) (id : Int64) (j : Nat) : Int32 := kA (ecx (ckB kf n w id) 22 j)
theorem bod_of {n w : Int32} {id : Int64} {cbf : Nat → Int32} : ∀ j, j < 10 → wlF id 2 (upd (upd cbf 0 n) 1 w) 8 j = bod n w id j := by
  intro j hj
  rw [wlF_get]
  unfold bod
  by_cases h0 : j = 0
  · subst h0; rw [if_neg (by omega), if_pos rfl]; rfl
  · rw [if_neg h0]
    by_cases h1 : j = 1
    · subst h1; rw [if_neg (by omega), if_pos rfl]; rfl
    · rw [if_neg h1, if_pos (by omega)]
theorem ckB_of {kf cbf u : Nat → Int32} {n w : Int32} {id : Int64} (q : ∀ j, j < 32 → u j = hmac kf 16 (wlF id 2 (upd (upd cbf 0 n) 1 w) 8) 10 j) : ∀ j, j < 22 → va_cpy u (wlF id 2 (upd (upd cbf 0 n) 1 w) 8) 0 10 12 j = ckB kf n w id j := by
  intro j hj
  unfold ckB
  by_cases h : j < 10
  · rw [if_pos h, pk_cpy_out (by omega)]; exact bod_of j h
  · rw [if_neg h, pk_cpy_in (by omega) (by omega), q _ (by omega), show 0 + (j - 10) = j - 10 by omega]
    exact hmac_congr bod_of _ (by omega)
theorem ckS_of {kf cbf u cf : Nat → Int32} {n w : Int32} {id : Int64} (q : ∀ j, j < 32 → u j = hmac kf 16 (wlF id 2 (upd (upd cbf 0 n) 1 w) 8) 10 j) : ∀ j, j < 30 → encF (va_cpy u (wlF id 2 (upd (upd cbf 0 n) 1 w) 8) 0 10 12) 22 cf ((8 * 22 + 5) / 6) j = ckS kf n w id j := by
  intro j hj
  rw [encF_get _ _ _ _ j (by omega)]
  unfold ckS
  congr 1
  exact ecx_congr (ckB_of q) (by omega)
theorem tkS_congr {kf c c' : Nat → Int32} (h : ∀ j, j < 10 → c j = c' j) : ∀ j, j < 12 → tkS kf c j = tkS kf c' j := by
  intro j hj
  have h1 : ∀ i, i < 11 → tkm c i = tkm c' i := by
    intro i hi
    unfold tkm
    by_cases e : i = 0
    · rw [if_pos e, if_pos e]
    · rw [if_neg e, if_neg e, h _ (by omega)]
  have h2 : ∀ i, i < 9 → hmac kf 16 (tkm c) 11 i = hmac kf 16 (tkm c') 11 i := fun i hi => hmac_congr h1 i (by omega)
  exact congrArg kA (ecx_congr h2 (by omega))
theorem ckB_bod {kf : Nat → Int32} {n w : Int32} {id : Int64} : ∀ j, j < 10 → ckB kf n w id j = bod n w id j := fun j h => if_pos h
set_option maxHeartbeats 4000000 in
set_option maxRecDepth 100000 in
theorem c_X7_writeTexts (g : GG) (l : Launch) (ad : Nat → Nat) (ka : Nat → Nat) (kb : Nat → Nat) (ua : Nat → Nat) (sa : Nat → Nat) (now : Int64) (gr : Int64) (mo : Int64) (re : Int64) (bgn : Int32) (lin : Int32) (rfd : Int32) (rnd : Int32) (mB : Nat → Int32) (mb : Nat → Int32) (ms : Nat → Int32) (mt : Nat → Int32) (kept : Nat) (np : Nat) (cl : Nat) (cf : Nat → Int32) (tn : Nat) (tf : Nat → Int32) (dl : Nat) (df : Nat → Int32) (sdf : Nat → Int32) (cnf : Nat → Int32) (cbf : Nat → Int32) (mkf : Nat → Int32) (num : Nat → Int32) (rep : Nat → Int64) (kf : Nat → Nat → Int32) (uto : Nat → Int32) (ufi : Nat → Int32) (use : Nat → Int32) (sop : Nat → Int32) (sow : Nat → Int32) (sid : Nat → Int64) (sbe : Nat → Int64) (sla : Nat → Int64) (i : Nat) (hi : i < 8) (hnp : np < 4) (hcl : cl ≤ 40) : Ct g l yX7_writeTexts cX7_writeTexts 3 none 6 135 [.ref (ad 0), .ref (sa i)] (gX g ad ka ua sa now gr mo re bgn lin rfd rnd mB mb ms mt kept np cl cf tn tf dl df sdf cnf cbf mkf ++ (tl 4 ka (kE kb num rep) ++ (tl 4 kb (bE g kf) ++ (tl 8 ua (uE uto ufi use) ++ (tl 8 sa (sE sop sow sid sbe sla) ++ []))))) (Rv g (fun (u : (Nat → Int32) × (Nat → Int32) × (Nat → Int32) × (Nat → Int32) × (Nat → Int32) × (Nat → Int32) × (Nat → Int32) × (Nat → Int32)) => (∀ j, j < 22 → u.2.2.2.2.1 j = ckB (kf np) (num np) (sow i) (sid i) j) ∧ (∀ j, j < 30 → u.2.2.2.2.2.2.1 j = ckS (kf np) (num np) (sow i) (sid i) j) ∧ (∀ j, j < 12 → u.2.2.2.2.2.2.2 j = tkS (kf np) (bod (num np) (sow i) (sid i)) j) ∧ (isB cf → isB u.2.2.2.2.2.2.1) ∧ (isB tf → isB u.2.2.2.2.2.2.2)) (fun (u : (Nat → Int32) × (Nat → Int32) × (Nat → Int32) × (Nat → Int32) × (Nat → Int32) × (Nat → Int32) × (Nat → Int32) × (Nat → Int32)) => (gX g ad ka ua sa now gr mo re bgn lin rfd rnd u.1 u.2.1 u.2.2.1 u.2.2.2.1 kept np 30 u.2.2.2.2.2.2.1 12 u.2.2.2.2.2.2.2 dl df sdf cnf u.2.2.2.2.1 u.2.2.2.2.2.1 ++ (tl 4 ka (kE kb num rep) ++ (tl 4 kb (bE g kf) ++ (tl 8 ua (uE uto ufi use) ++ (tl 8 sa (sE sop sow sid sbe sla) ++ []))))))) := by
  refine mkC (by decide) (Nat.le_of_ble_eq_true rfl) ?_
  intro p e s m args below meth c A ls QQ F hr hlk hnm hQ hw hl
  have hx := F.1
  have hb := F.2.1
  replace hl : lv_has ls 3 [(0, .ref (ad 0)), (1, .ref (sa i))] := hl
  refine lv_aload_n hx hb dX7_writeTexts_0 rfl (lv_at hl 0 rfl) ?_
  refine gf_X7_19 F hw 0 rfl rfl dX7_writeTexts_1 ?_
  refine cl_q hw [6, 7] rfl (rn_V F hw (c_X2_newest g l (ad 6) (ad 7) ka kept np (by omega)) (cw_X7_108 F.2.2.2.2 ⟨by decide, by decide⟩) [6, 7] (by decide) rfl 6 rfl rfl rfl hl.1 rfl (Nat.le_of_ble_eq_true rfl) dX7_writeTexts_4 ⟨Nat.zero_le _, Nat.zero_le _⟩) (fun _ => rfl) (fun v_2 u_1 H locs hp_3 hw => ?_)
  subst hp_3
  replace hw : Wd g s A H locs (gX g ad ka ua sa now gr mo re bgn lin rfd rnd mB mb ms mt kept np cl cf tn tf dl df sdf cnf cbf mkf ++ (tl 4 ka (kE kb num rep) ++ (tl 4 kb (bE g kf) ++ (tl 8 ua (uE uto ufi use) ++ (tl 8 sa (sE sop sow sid sbe sla) ++ []))))) := hw
  refine lv_astore_n (lv' := [(2, .ref (ka np)), (0, .ref (ad 0)), (1, .ref (sa i))]) hx hb dX7_writeTexts_7 rfl hl (by decide) rfl (fun ls hl => ?_)
  refine lv_aload_n hx hb dX7_writeTexts_8 rfl (lv_at hl 1 rfl) ?_
  refine gf_X7_55 F hw 0 rfl rfl dX7_writeTexts_9 ?_
  refine lv_iconst (v := nI 0) hx hb dX7_writeTexts_12 (by decide) ?_
  refine lv_aload_n hx hb dX7_writeTexts_13 rfl (lv_at hl 0 rfl) ?_
  refine gf_X7_118 F hw (20 + np) (tg1 rfl (by omega)) rfl dX7_writeTexts_14 ?_
  refine ia_st F hw 18 rfl (by omega) (by omega) dX7_writeTexts_17 (fun H locs hw => ?_)
  replace hw : Wd g s A H locs (gX g ad ka ua sa now gr mo re bgn lin rfd rnd mB mb ms mt kept np cl cf tn tf dl df sdf cnf (upd cbf 0 (num np)) mkf ++ (tl 4 ka (kE kb num rep) ++ (tl 4 kb (bE g kf) ++ (tl 8 ua (uE uto ufi use) ++ (tl 8 sa (sE sop sow sid sbe sla) ++ []))))) := hw
  refine lv_aload_n hx hb dX7_writeTexts_18 rfl (lv_at hl 1 rfl) ?_
  refine gf_X7_55 F hw 0 rfl rfl dX7_writeTexts_19 ?_
  refine lv_iconst (v := nI 1) hx hb dX7_writeTexts_22 (by decide) ?_
  refine lv_aload_n hx hb dX7_writeTexts_23 rfl (lv_at hl 2 rfl) ?_
  refine gf_X7_167 F hw (36 + i) (tg4 rfl (by omega)) rfl dX7_writeTexts_24 ?_
  refine ia_st F hw 18 rfl (by omega) (by omega) dX7_writeTexts_27 (fun H locs hw => ?_)
  replace hw : Wd g s A H locs (gX g ad ka ua sa now gr mo re bgn lin rfd rnd mB mb ms mt kept np cl cf tn tf dl df sdf cnf (upd (upd cbf 0 (num np)) 1 (sow i)) mkf ++ (tl 4 ka (kE kb num rep) ++ (tl 4 kb (bE g kf) ++ (tl 8 ua (uE uto ufi use) ++ (tl 8 sa (sE sop sow sid sbe sla) ++ []))))) := hw
  refine lv_aload_n hx hb dX7_writeTexts_28 rfl (lv_at hl 2 rfl) ?_
  refine gf_X7_201 F hw (36 + i) (tg4 rfl (by omega)) rfl dX7_writeTexts_29 ?_
  refine lv_aload_n hx hb dX7_writeTexts_32 rfl (lv_at hl 1 rfl) ?_
  refine gf_X7_55 F hw 0 rfl rfl dX7_writeTexts_33 ?_
  refine lv_iconst (v := nI 2) hx hb dX7_writeTexts_36 (by decide) ?_
  refine cl_v hw [18] rfl (rn_S F hw (c_X7_writeLong g l (ad 18) 22 (upd (upd cbf 0 (num np)) 1 (sow i)) (sid i) 2 (by omega) (by omega)) (cw_X7_91 F.2.2.2.2 ⟨by decide, by decide⟩) [18] (by decide) rfl hl.1 rfl (Nat.le_of_ble_eq_true rfl) dX7_writeTexts_37 ⟨Nat.zero_le _, Nat.zero_le _⟩) (fun _ => rfl) (fun u_4 H locs hp_6 hw => ?_)
  replace hw : Wd g s A H locs (gX g ad ka ua sa now gr mo re bgn lin rfd rnd mB mb ms mt kept np cl cf tn tf dl df sdf cnf (wlF (sid i) 2 (upd (upd cbf 0 (num np)) 1 (sow i)) 8) mkf ++ (tl 4 ka (kE kb num rep) ++ (tl 4 kb (bE g kf) ++ (tl 8 ua (uE uto ufi use) ++ (tl 8 sa (sE sop sow sid sbe sla) ++ []))))) := hw
  refine lv_aload_n hx hb dX7_writeTexts_40 rfl (lv_at hl 1 rfl) ?_
  refine gf_X7_10 F hw 0 rfl rfl dX7_writeTexts_41 ?_
  refine lv_aload_n hx hb dX7_writeTexts_44 rfl (lv_at hl 0 rfl) ?_
  refine gf_X7_214 F hw (20 + np) (tg1 rfl (by omega)) rfl dX7_writeTexts_45 ?_
  refine lv_aload_n hx hb dX7_writeTexts_48 rfl (lv_at hl 1 rfl) ?_
  refine gf_X7_55 F hw 0 rfl rfl dX7_writeTexts_49 ?_
  refine lv_bipush (v := nI 10) hx hb dX7_writeTexts_52 (by decide) ?_
  have hC9 : List.map (fun zz9 : Nat => ((gX g ad ka ua sa now gr mo re bgn lin rfd rnd mB mb ms mt kept np cl cf tn tf dl df sdf cnf (wlF (sid i) 2 (upd (upd cbf 0 (num np)) 1 (sow i)) 8) mkf ++ (tl 4 ka (kE kb num rep) ++ (tl 4 kb (bE g kf) ++ (tl 8 ua (uE uto ufi use) ++ (tl 8 sa (sE sop sow sid sbe sla) ++ []))))))[zz9]?) [1, 2, 3, 4, 5, 18, (24 + np)] = List.map some [(ad 1, .inr (2, [.ref (ad 2), .ref (ad 3), .ref (ad 4), .ref (ad 5)])), (ad 2, iA g 32 mB), (ad 3, iA g 128 mb), (ad 4, iA g 64 ms), (ad 5, iA g 8 mt), (ad 18, iA g 22 (wlF (sid i) 2 (upd (upd cbf 0 (num np)) 1 (sow i)) 8)), (kb np, iA g 16 (kf np))] := (l_c rfl (l_c rfl (l_c rfl (l_c rfl (l_c rfl (l_c rfl (l_c (tg2 rfl (by omega)) rfl)))))))
  refine cl_v hw [1, 2, 3, 4, 5, 18, (24 + np)] hC9 (rn_V F hw (c_X3_compute g l (ad 1) (ad 2) (ad 3) (ad 4) (ad 5) (kb np) (ad 18) 16 22 mB mb ms mt (kf np) (wlF (sid i) 2 (upd (upd cbf 0 (num np)) 1 (sow i)) 8) 10 (by omega) (by omega) (by omega) (by omega)) (cw_X7_217 F.2.2.2.2 ⟨by decide, by decide⟩) [1, 2, 3, 4, 5, 18, (24 + np)] (by simp [va_nd] <;> omega) hC9 1 rfl rfl rfl hl.1 rfl (Nat.le_of_ble_eq_true rfl) dX7_writeTexts_54 ⟨Nat.zero_le _, Nat.zero_le _⟩) (fun _ => rfl) (fun u_7 H locs hp_9 hw => ?_)
  replace hw : Wd g s A H locs (List.set (gX g ad ka ua sa now gr mo re bgn lin rfd rnd u_7.1 u_7.2.1 u_7.2.2.1 u_7.2.2.2 kept np cl cf tn tf dl df sdf cnf (wlF (sid i) 2 (upd (upd cbf 0 (num np)) 1 (sow i)) 8) mkf ++ (tl 4 ka (kE kb num rep) ++ (tl 4 kb (bE g kf) ++ (tl 8 ua (uE uto ufi use) ++ (tl 8 sa (sE sop sow sid sbe sla) ++ []))))) (24 + np) (kb np, iA g 16 (kf np))) := hw
  replace hw : Wd g s A H locs (gX g ad ka ua sa now gr mo re bgn lin rfd rnd u_7.1 u_7.2.1 u_7.2.2.1 u_7.2.2.2 kept np cl cf tn tf dl df sdf cnf (wlF (sid i) 2 (upd (upd cbf 0 (num np)) 1 (sow i)) 8) mkf ++ (tl 4 ka (kE kb num rep) ++ (tl 4 kb (bE g kf) ++ (tl 8 ua (uE uto ufi use) ++ (tl 8 sa (sE sop sow sid sbe sla) ++ []))))) := wd_eq (ts2 rfl (by omega) (by funext z; by_cases hz : z = np <;> simp [va_up, bE, upd, vp_updL, hz])) hw
  have q1 := hp_9
  refine lv_aload_n hx hb dX7_writeTexts_57 rfl (lv_at hl 1 rfl) ?_
  refine gf_X7_10 F hw 0 rfl rfl dX7_writeTexts_58 ?_
  refine gf_X7_221 F hw 1 rfl rfl dX7_writeTexts_61 ?_
  refine lv_iconst (v := nI 0) hx hb dX7_writeTexts_64 (by decide) ?_
  refine lv_aload_n hx hb dX7_writeTexts_65 rfl (lv_at hl 1 rfl) ?_
  refine gf_X7_55 F hw 0 rfl rfl dX7_writeTexts_66 ?_
  refine lv_bipush (v := nI 10) hx hb dX7_writeTexts_69 (by decide) ?_
  refine lv_bipush (v := nI 12) hx hb dX7_writeTexts_71 (by decide) ?_
  refine cp_I bg_16_7 F hw 2 18 rfl rfl (by omega) (by omega) (by omega) (by omega) hl.1 (by decide) (by decide) dX7_writeTexts_73 (fun H locs hw => ?_)
  replace hw : Wd g s A H locs (gX g ad ka ua sa now gr mo re bgn lin rfd rnd u_7.1 u_7.2.1 u_7.2.2.1 u_7.2.2.2 kept np cl cf tn tf dl df sdf cnf (va_cpy u_7.1 (wlF (sid i) 2 (upd (upd cbf 0 (num np)) 1 (sow i)) 8) 0 10 12) mkf ++ (tl 4 ka (kE kb num rep) ++ (tl 4 kb (bE g kf) ++ (tl 8 ua (uE uto ufi use) ++ (tl 8 sa (sE sop sow sid sbe sla) ++ []))))) := hw
  refine lv_aload_n hx hb dX7_writeTexts_76 rfl (lv_at hl 1 rfl) ?_
  refine gf_X7_55 F hw 0 rfl rfl dX7_writeTexts_77 ?_
  refine lv_bipush (v := nI 22) hx hb dX7_writeTexts_80 (by decide) ?_
  refine lv_aload_n hx hb dX7_writeTexts_82 rfl (lv_at hl 1 rfl) ?_
  refine gf_X7_26 F hw 0 rfl rfl dX7_writeTexts_83 ?_
  refine cl_v hw [18, 8, 9] rfl (rn_S F hw (c_X0_encode g l (ad 18) (ad 8) (ad 9) 22 (va_cpy u_7.1 (wlF (sid i) 2 (upd (upd cbf 0 (num np)) 1 (sow i)) 8) 0 10 12) cf cl 22 (by omega) (by omega) (by omega)) (cw_X7_267 F.2.2.2.2 ⟨by decide, by decide⟩) [18, 8, 9] (by decide) rfl hl.1 rfl (Nat.le_of_ble_eq_true rfl) dX7_writeTexts_86 ⟨Nat.zero_le _, Nat.zero_le _⟩) (fun _ => rfl) (fun u_10 H locs hp_12 hw => ?_)
  replace hw : Wd g s A H locs (gX g ad ka ua sa now gr mo re bgn lin rfd rnd u_7.1 u_7.2.1 u_7.2.2.1 u_7.2.2.2 kept np ((8 * 22 + 5) / 6) (encF (va_cpy u_7.1 (wlF (sid i) 2 (upd (upd cbf 0 (num np)) 1 (sow i)) 8) 0 10 12) 22 cf ((8 * 22 + 5) / 6)) tn tf dl df sdf cnf (va_cpy u_7.1 (wlF (sid i) 2 (upd (upd cbf 0 (num np)) 1 (sow i)) 8) 0 10 12) mkf ++ (tl 4 ka (kE kb num rep) ++ (tl 4 kb (bE g kf) ++ (tl 8 ua (uE uto ufi use) ++ (tl 8 sa (sE sop sow sid sbe sla) ++ []))))) := hw
  refine lv_aload_n hx hb dX7_writeTexts_89 rfl (lv_at hl 1 rfl) ?_
  refine lv_aload_n hx hb dX7_writeTexts_90 rfl (lv_at hl 0 rfl) ?_
  refine lv_aload_n hx hb dX7_writeTexts_91 rfl (lv_at hl 1 rfl) ?_
  refine gf_X7_30 F hw 0 rfl rfl dX7_writeTexts_92 ?_
  refine cl_vF hw (rn_VF F hw (c_X7_writeToken_t g l ad ka kb ua sa now gr mo re bgn lin rfd rnd u_7.1 u_7.2.1 u_7.2.2.1 u_7.2.2.2 kept np ((8 * 22 + 5) / 6) (encF (va_cpy u_7.1 (wlF (sid i) 2 (upd (upd cbf 0 (num np)) 1 (sow i)) 8) 0 10 12) 22 cf ((8 * 22 + 5) / 6)) tn tf dl df sdf cnf (va_cpy u_7.1 (wlF (sid i) 2 (upd (upd cbf 0 (num np)) 1 (sow i)) 8) 0 10 12) mkf num rep kf uto ufi use sop sow sid sbe sla np (by omega)) (cw_X7_253 F.2.2.2.2 ⟨by decide, by decide⟩)    0 rfl rfl rfl hl.1 rfl (Nat.le_of_ble_eq_true rfl) dX7_writeTexts_95 ⟨Nat.zero_le _, Nat.zero_le _⟩) (fun u_13 H locs hp_15 hw => ?_)
  replace hw : Wd g s A H locs (gX g ad ka ua sa now gr mo re bgn lin rfd rnd u_13.1 u_13.2.1 u_13.2.2.1 u_13.2.2.2.1 kept np ((8 * 22 + 5) / 6) (encF (va_cpy u_7.1 (wlF (sid i) 2 (upd (upd cbf 0 (num np)) 1 (sow i)) 8) 0 10 12) 22 cf ((8 * 22 + 5) / 6)) 12 u_13.2.2.2.2.2 dl df sdf cnf (va_cpy u_7.1 (wlF (sid i) 2 (upd (upd cbf 0 (num np)) 1 (sow i)) 8) 0 10 12) u_13.2.2.2.2.1 ++ (tl 4 ka (kE kb num rep) ++ (tl 4 kb (bE g kf) ++ (tl 8 ua (uE uto ufi use) ++ (tl 8 sa (sE sop sow sid sbe sla) ++ []))))) := hw
  have q2 := hp_15
  exact rt_v F hr hlk hQ hw (u_13.1, u_13.2.1, u_13.2.2.1, u_13.2.2.2.1, (va_cpy u_7.1 (wlF (sid i) 2 (upd (upd cbf 0 (num np)) 1 (sow i)) 8) 0 10 12), u_13.2.2.2.2.1, encF (va_cpy u_7.1 (wlF (sid i) 2 (upd (upd cbf 0 (num np)) 1 (sow i)) 8) 0 10 12) 22 cf ((8 * 22 + 5) / 6), u_13.2.2.2.2.2) (⟨ckB_of q1, ckS_of q1, fun j hj => (q2.1 j hj).trans (tkS_congr (fun j hj => (ckB_of q1 j (by omega)).trans (ckB_bod j hj)) j hj), fun h => encF_B h _, q2.2⟩) rfl dX7_writeTexts_98
/-- what judge finds: v the answer, s2 the sessions that are open behind it -/
def jdP (kept np : Nat) (cl : Nat) (cf : Nat → Int32) (tn : Nat) (tf : Nat → Int32) (num : Nat → Int32) (rep : Nat → Int64) (kf : Nat → Nat → Int32) (sop sow : Nat → Int32) (sid sbe sla : Nat → Int64) (now gr mo re : Int64) (ch : Int32) (v : Int32) (s2 : Nat → Int32) : Prop :=
  (¬ isF cl cf ∧ v = (-2) ∧ s2 = sop) ∨
  (isF cl cf ∧ (∀ j, j < 4 → ¬ lkP kept np num rep now gr (dcb cf 0) j) ∧ v = (-3) ∧ s2 = sop) ∨
  (isF cl cf ∧ ∃ k, k < 4 ∧ lkP kept np num rep now gr (dcb cf 0) k ∧ (∀ j, j < k → ¬ lkP kept np num rep now gr (dcb cf 0) j) ∧
    ((¬ sld (kf k) (dcb cf) ∧ v = (-4) ∧ s2 = sop) ∨
     (sld (kf k) (dcb cf) ∧ (∀ j, j < 8 → ¬ nfP sop sow sid (dcb cf 1) (rdL (dcb cf) 2 8) j) ∧ v = (-5) ∧ s2 = sop) ∨
     (sld (kf k) (dcb cf) ∧ ∃ n, n < 8 ∧ nfP sop sow sid (dcb cf 1) (rdL (dcb cf) 2 8) n ∧ (∀ j, j < n → ¬ nfP sop sow sid (dcb cf 1) (rdL (dcb cf) 2 8) j) ∧
       ((¬ ageI now (sbe n) mo = 0 ∧ v = (-6) ∧ s2 = upd sop n (nI 0)) ∨
        (ageI now (sbe n) mo = 0 ∧ ¬ ageI now (sla n) re = 0 ∧ v = (-7) ∧ s2 = upd sop n (nI 0)) ∨
        (ageI now (sbe n) mo = 0 ∧ ageI now (sla n) re = 0 ∧ s2 = sop ∧
          ((ch = 0 ∧ v = nI n) ∨ (¬ ch = 0 ∧ sameT tn 12 tf (tkS (kf k) (dcb cf)) ∧ v = nI n) ∨ (¬ ch = 0 ∧ ¬ sameT tn 12 tf (tkS (kf k) (dcb cf)) ∧ v = (-8))))))))
theorem sld_congr {kf c c' : Nat → Int32} (h : ∀ j, j < 22 → c j = c' j) : sld kf c ↔ sld kf c' := by
  have e : ∀ i, i < 12 → hmac kf 16 c 10 i = hmac kf 16 c' 10 i := fun i hi => hmac_congr (fun j hj => h j (by omega)) i (by omega)
  constructor
  · intro q i hi; rw [← h _ (by omega), ← e i hi]; exact q i hi
  · intro q i hi; rw [h _ (by omega), e i hi]; exact q i hi
theorem same_congr {tn : Nat} {tf a b : Nat → Int32} (h : ∀ j, j < 12 → a j = b j) : sameT tn 12 tf a ↔ sameT tn 12 tf b := by
  constructor
  · rintro ⟨q, r⟩; exact ⟨q, fun i hi => (r i hi).trans (h i (by omega))⟩
  · rintro ⟨q, r⟩; exact ⟨q, fun i hi => (r i hi).trans (h i (by omega)).symm⟩
theorem nI_nm1 {n : Nat} (h : n < 2 ^ 31) : ¬ nI n = (-1) := fun e => nI_pos h (e ▸ (by decide))
set_option maxHeartbeats 4000000 in
set_option maxRecDepth 100000 in
theorem c_X7_judge (g : GG) (l : Launch) (ad : Nat → Nat) (ka : Nat → Nat) (kb : Nat → Nat) (ua : Nat → Nat) (sa : Nat → Nat) (now : Int64) (gr : Int64) (mo : Int64) (re : Int64) (bgn : Int32) (lin : Int32) (rfd : Int32) (rnd : Int32) (mB : Nat → Int32) (mb : Nat → Int32) (ms : Nat → Int32) (mt : Nat → Int32) (kept : Nat) (np : Nat) (cl : Nat) (cf : Nat → Int32) (tn : Nat) (tf : Nat → Int32) (dl : Nat) (df : Nat → Int32) (sdf : Nat → Int32) (cnf : Nat → Int32) (cbf : Nat → Int32) (mkf : Nat → Int32) (num : Nat → Int32) (rep : Nat → Int64) (kf : Nat → Nat → Int32) (uto : Nat → Int32) (ufi : Nat → Int32) (use : Nat → Int32) (sop : Nat → Int32) (sow : Nat → Int32) (sid : Nat → Int64) (sbe : Nat → Int64) (sla : Nat → Int64) (ch : Int32) (hnp : np < 4) (hke : kept ≤ 4) (hcl : cl ≤ 40) (htn : tn ≤ 40) (hdl : dl ≤ 40) (hcf : isB cf) : Ct g l yX7_judge cX7_judge 4 (some .int) 7 179 [.ref (ad 0), .int ch] (gX g ad ka ua sa now gr mo re bgn lin rfd rnd mB mb ms mt kept np cl cf tn tf dl df sdf cnf cbf mkf ++ (tl 4 ka (kE kb num rep) ++ (tl 4 kb (bE g kf) ++ (tl 8 ua (uE uto ufi use) ++ (tl 8 sa (sE sop sow sid sbe sla) ++ []))))) (Ri g (fun (v : Int32) (u : (Nat → Int32) × (Nat → Int32) × (Nat → Int32) × (Nat → Int32) × (Nat → Int32) × (Nat → Int32) × (Nat → Int32) × (Nat → Int32) × Nat) => jdP kept np cl cf tn tf num rep kf sop sow sid sbe sla now gr mo re ch v u.2.2.2.2.2.2.2.1 ∧ (0 ≤ v → u.2.2.2.2.1 0 = dcb cf 0) ∧ u.2.2.2.2.2.2.2.2 ≤ 40) (fun (u : (Nat → Int32) × (Nat → Int32) × (Nat → Int32) × (Nat → Int32) × (Nat → Int32) × (Nat → Int32) × (Nat → Int32) × (Nat → Int32) × Nat) => (gX g ad ka ua sa now gr mo re bgn lin rfd rnd u.1 u.2.1 u.2.2.1 u.2.2.2.1 kept np cl cf tn tf u.2.2.2.2.2.2.2.2 u.2.2.2.2.2.2.1 sdf cnf u.2.2.2.2.1 u.2.2.2.2.2.1 ++ (tl 4 ka (kE kb num rep) ++ (tl 4 kb (bE g kf) ++ (tl 8 ua (uE uto ufi use) ++ (tl 8 sa (sE u.2.2.2.2.2.2.2.1 sow sid sbe sla) ++ []))))))) := by
  refine mkC (by decide) (Nat.le_of_ble_eq_true rfl) ?_
  intro p e s m args below meth c A ls QQ F hr hlk hnm hQ hw hl
  have hx := F.1
  have hb := F.2.1
  replace hl : lv_has ls 4 [(0, .ref (ad 0)), (1, .int ch)] := hl
  refine lv_aload_n hx hb dX7_judge_0 rfl (lv_at hl 0 rfl) ?_
  refine gf_X7_26 F hw 0 rfl rfl dX7_judge_1 ?_
  refine lv_aload_n hx hb dX7_judge_4 rfl (lv_at hl 0 rfl) ?_
  refine gf_X7_55 F hw 0 rfl rfl dX7_judge_5 ?_
  refine cl_i hw [8, 9, 18] rfl (rn_S F hw (c_X0_decodeCookie g l (ad 8) (ad 9) (ad 18) cf cl cbf (by omega) (by omega)) (cw_X7_235 F.2.2.2.2 ⟨by decide, by decide⟩) [8, 9, 18] (by decide) rfl hl.1 rfl (Nat.le_of_ble_eq_true rfl) dX7_judge_8 ⟨Nat.zero_le _, Nat.zero_le _⟩) (fun _ => rfl) (fun v_2 u_1 H locs hp_3 hw => ?_)
  replace hw : Wd g s A H locs (gX g ad ka ua sa now gr mo re bgn lin rfd rnd mB mb ms mt kept np cl cf tn tf dl df sdf cnf u_1 mkf ++ (tl 4 ka (kE kb num rep) ++ (tl 4 kb (bE g kf) ++ (tl 8 ua (uE uto ufi use) ++ (tl 8 sa (sE sop sow sid sbe sla) ++ []))))) := hw
  have q1 := hp_3
  refine lv_if_ne (tgt := 17) hx hb dX7_judge_11 (by decide) (fun c_11 => ?_) (fun c_11 => ?_)
  · replace q1 := q1.resolve_right (fun h => c_11 h.1)
    refine lv_aload_n hx hb dX7_judge_17 rfl (lv_at hl 0 rfl) ?_
    refine gf_X7_19 F hw 0 rfl rfl dX7_judge_18 ?_
    refine lv_aload_n hx hb dX7_judge_21 rfl (lv_at hl 0 rfl) ?_
    refine gf_X7_55 F hw 0 rfl rfl dX7_judge_22 ?_
    refine lv_iconst (v := nI 0) hx hb dX7_judge_25 (by decide) ?_
    refine ia_ld F hw 18 rfl (by omega) (by omega) dX7_judge_26 ?_
    refine lv_aload_n hx hb dX7_judge_27 rfl (lv_at hl 0 rfl) ?_
    refine gf_X7_61 F hw 0 rfl rfl dX7_judge_28 ?_
    refine lv_aload_n hx hb dX7_judge_31 rfl (lv_at hl 0 rfl) ?_
    refine gf_X7_67 F hw 0 rfl rfl dX7_judge_32 ?_
    refine cl_q hw [6, 7, 20, 21, 22, 23] rfl (rn_V F hw (c_X2_liveKey g l (ad 6) (ad 7) ka kept np kb num rep (u_1 0) now gr (by omega) (by omega)) (cw_X7_241 F.2.2.2.2 ⟨by decide, by decide⟩) [6, 7, 20, 21, 22, 23] (by decide) rfl 6 rfl rfl rfl hl.1 rfl (Nat.le_of_ble_eq_true rfl) dX7_judge_35 ⟨Nat.zero_le _, Nat.zero_le _⟩) (fun _ => rfl) (fun v_5 u_4 H locs hp_6 hw => ?_)
    replace hw : Wd g s A H locs (gX g ad ka ua sa now gr mo re bgn lin rfd rnd mB mb ms mt kept np cl cf tn tf dl df sdf cnf u_1 mkf ++ (tl 4 ka (kE kb num rep) ++ (tl 4 kb (bE g kf) ++ (tl 8 ua (uE uto ufi use) ++ (tl 8 sa (sE sop sow sid sbe sla) ++ []))))) := hw
    have q2 := hp_6
    rcases q2 with ⟨k, hk, rfl, q2, q3⟩ | ⟨rfl, q2⟩
    · refine lv_astore_n (lv' := [(2, .ref (ka k)), (0, .ref (ad 0)), (1, .int ch)]) hx hb dX7_judge_38 rfl hl (by decide) rfl (fun ls hl => ?_)
      refine lv_aload_n hx hb dX7_judge_39 rfl (lv_at hl 0 rfl) ?_
      refine lv_ifnonnull (tgt := 46) hx hb dX7_judge_40 (by decide) ?_
      have lk2 : lkP kept np num rep now gr (dcb cf 0) k := q1.2.2 0 (by omega) ▸ q2
      have lk3 : ∀ j, j < k → ¬ lkP kept np num rep now gr (dcb cf 0) j := q1.2.2 0 (by omega) ▸ q3
      refine lv_aload_n hx hb dX7_judge_46 rfl (lv_at hl 1 rfl) ?_
      refine lv_aload_n hx hb dX7_judge_47 rfl (lv_at hl 0 rfl) ?_
      refine cl_iF hw (rn_VF F hw (c_X7_isSealedBy g l ad ka kb ua sa now gr mo re bgn lin rfd rnd mB mb ms mt kept np cl cf tn tf dl df sdf cnf u_1 mkf num rep kf uto ufi use sop sow sid sbe sla k (by omega)) (cw_X7_245 F.2.2.2.2 ⟨by decide, by decide⟩)    0 rfl rfl rfl hl.1 rfl (Nat.le_of_ble_eq_true rfl) dX7_judge_48 ⟨Nat.zero_le _, Nat.zero_le _⟩) (fun v_8 u_7 H locs hp_9 hw => ?_)
      replace hw : Wd g s A H locs (gX g ad ka ua sa now gr mo re bgn lin rfd rnd u_7.1 u_7.2.1 u_7.2.2.1 u_7.2.2.2 kept np cl cf tn tf dl df sdf cnf u_1 mkf ++ (tl 4 ka (kE kb num rep) ++ (tl 4 kb (bE g kf) ++ (tl 8 ua (uE uto ufi use) ++ (tl 8 sa (sE sop sow sid sbe sla) ++ []))))) := hw
      have q4 := hp_9
      refine lv_if_ne (tgt := 57) hx hb dX7_judge_51 (by decide) (fun c_51 => ?_) (fun c_51 => ?_)
      · replace q4 := q4.resolve_right (fun h => c_51 h.1)
        have rdq := rdL_congr (f' := dcb cf) (fr' := 2) 8 (fun j hj => q1.2.2 (2 + j) (by omega))
        refine lv_aload_n hx hb dX7_judge_57 rfl (lv_at hl 1 rfl) ?_
        refine lv_aload_n hx hb dX7_judge_58 rfl (lv_at hl 1 rfl) ?_
        refine gf_X7_55 F hw 0 rfl rfl dX7_judge_59 ?_
        refine lv_iconst (v := nI 1) hx hb dX7_judge_62 (by decide) ?_
        refine ia_ld F hw 18 rfl (by omega) (by omega) dX7_judge_63 ?_
        refine lv_aload_n hx hb dX7_judge_64 rfl (lv_at hl 1 rfl) ?_
        refine gf_X7_55 F hw 0 rfl rfl dX7_judge_65 ?_
        refine lv_iconst (v := nI 2) hx hb dX7_judge_68 (by decide) ?_
        refine cl_l hw [18] rfl (rn_S F hw (c_X7_readLong g l (ad 18) 22 u_1 2 (by omega) (by omega)) (cw_X7_231 F.2.2.2.2 ⟨by decide, by decide⟩) [18] (by decide) rfl hl.1 rfl (Nat.le_of_ble_eq_true rfl) dX7_judge_69 ⟨Nat.zero_le _, Nat.zero_le _⟩) (fun _ => rfl) (fun v_11 u_10 H locs hp_12 hw => ?_)
        subst hp_12
        replace hw : Wd g s A H locs (gX g ad ka ua sa now gr mo re bgn lin rfd rnd u_7.1 u_7.2.1 u_7.2.2.1 u_7.2.2.2 kept np cl cf tn tf dl df sdf cnf u_1 mkf ++ (tl 4 ka (kE kb num rep) ++ (tl 4 kb (bE g kf) ++ (tl 8 ua (uE uto ufi use) ++ (tl 8 sa (sE sop sow sid sbe sla) ++ []))))) := hw
        refine cl_iF hw (rn_VF F hw (c_X7_numberOf g l ad ka kb ua sa now gr mo re bgn lin rfd rnd u_7.1 u_7.2.1 u_7.2.2.1 u_7.2.2.2 kept np cl cf tn tf dl df sdf cnf u_1 mkf num rep kf uto ufi use sop sow sid sbe sla (u_1 1) (rdL u_1 2 8)) (cw_X7_249 F.2.2.2.2 ⟨by decide, by decide⟩)    0 rfl rfl rfl hl.1 rfl (Nat.le_of_ble_eq_true rfl) dX7_judge_72 ⟨Nat.zero_le _, Nat.zero_le _⟩) (fun v_14 u_13 H locs hp_15 hw => ?_)
        replace hw : Wd g s A H locs (gX g ad ka ua sa now gr mo re bgn lin rfd rnd u_7.1 u_7.2.1 u_7.2.2.1 u_7.2.2.2 kept np cl cf tn tf dl df sdf cnf u_1 mkf ++ (tl 4 ka (kE kb num rep) ++ (tl 4 kb (bE g kf) ++ (tl 8 ua (uE uto ufi use) ++ (tl 8 sa (sE sop sow sid sbe sla) ++ []))))) := hw
        have q5 := hp_15
        rcases q5 with ⟨n, hn, rfl, q5, q6⟩ | ⟨rfl, q5⟩
        · refine lv_istore_n (lv' := [(3, .int (nI n)), (2, .ref (ka k)), (0, .ref (ad 0)), (1, .int ch)]) hx hb dX7_judge_75 rfl hl (by decide) rfl (fun ls hl => ?_)
          refine lv_iload_n hx hb dX7_judge_76 rfl (lv_at hl 0 rfl) ?_
          refine lv_iconst (v := (-1)) hx hb dX7_judge_77 (by decide) ?_
          refine lv_icmp_ne (tgt := 84) hx hb dX7_judge_78 (by decide) (fun c_78 => ?_) (fun c_78 => ?_)
          · have nf5 := q5
            have nf6 := q6
            rw [q1.2.2 1 (by omega), rdq] at nf5 nf6
            refine lv_aload_n hx hb dX7_judge_84 rfl (lv_at hl 2 rfl) ?_
            refine lv_aload_n hx hb dX7_judge_85 rfl (lv_at hl 2 rfl) ?_
            refine gf_X7_44 F hw 0 rfl rfl dX7_judge_86 ?_
            refine lv_iload_n hx hb dX7_judge_89 rfl (lv_at hl 0 rfl) ?_
            refine ra_ld F hw 15 4 rfl rfl (by omega) (by omega) rfl dX7_judge_90 ?_
            refine cl_iF hw (rn_VF F hw (c_X7_isOld g l ad ka kb ua sa now gr mo re bgn lin rfd rnd u_7.1 u_7.2.1 u_7.2.2.1 u_7.2.2.2 kept np cl cf tn tf dl df sdf cnf u_1 mkf num rep kf uto ufi use sop sow sid sbe sla n (by omega)) (cw_X7_224 F.2.2.2.2 ⟨by decide, by decide⟩)    0 rfl rfl rfl hl.1 rfl (Nat.le_of_ble_eq_true rfl) dX7_judge_91 ⟨Nat.zero_le _, Nat.zero_le _⟩) (fun v_17 u_16 H locs hp_18 hw => ?_)
            subst hp_18
            replace hw : Wd g s A H locs (gX g ad ka ua sa now gr mo re bgn lin rfd rnd u_7.1 u_7.2.1 u_7.2.2.1 u_7.2.2.2 kept np cl cf tn tf dl df sdf cnf u_1 mkf ++ (tl 4 ka (kE kb num rep) ++ (tl 4 kb (bE g kf) ++ (tl 8 ua (uE uto ufi use) ++ (tl 8 sa (sE sop sow sid sbe sla) ++ []))))) := hw
            refine lv_if_eq (tgt := 110) hx hb dX7_judge_94 (by decide) (fun c_94 => ?_) (fun c_94 => ?_)
            · refine lv_aload_n hx hb dX7_judge_110 rfl (lv_at hl 2 rfl) ?_
              refine lv_aload_n hx hb dX7_judge_111 rfl (lv_at hl 2 rfl) ?_
              refine gf_X7_44 F hw 0 rfl rfl dX7_judge_112 ?_
              refine lv_iload_n hx hb dX7_judge_115 rfl (lv_at hl 0 rfl) ?_
              refine ra_ld F hw 15 4 rfl rfl (by omega) (by omega) rfl dX7_judge_116 ?_
              refine cl_iF hw (rn_VF F hw (c_X7_isIdle g l ad ka kb ua sa now gr mo re bgn lin rfd rnd u_7.1 u_7.2.1 u_7.2.2.1 u_7.2.2.2 kept np cl cf tn tf dl df sdf cnf u_1 mkf num rep kf uto ufi use sop sow sid sbe sla n (by omega)) (cw_X7_228 F.2.2.2.2 ⟨by decide, by decide⟩)    0 rfl rfl rfl hl.1 rfl (Nat.le_of_ble_eq_true rfl) dX7_judge_117 ⟨Nat.zero_le _, Nat.zero_le _⟩) (fun v_20 u_19 H locs hp_21 hw => ?_)
              subst hp_21
              replace hw : Wd g s A H locs (gX g ad ka ua sa now gr mo re bgn lin rfd rnd u_7.1 u_7.2.1 u_7.2.2.1 u_7.2.2.2 kept np cl cf tn tf dl df sdf cnf u_1 mkf ++ (tl 4 ka (kE kb num rep) ++ (tl 4 kb (bE g kf) ++ (tl 8 ua (uE uto ufi use) ++ (tl 8 sa (sE sop sow sid sbe sla) ++ []))))) := hw
              refine lv_if_eq (tgt := 136) hx hb dX7_judge_120 (by decide) (fun c_120 => ?_) (fun c_120 => ?_)
              · refine lv_iload_n hx hb dX7_judge_136 rfl (lv_at hl 3 rfl) ?_
                refine lv_if_eq (tgt := 170) hx hb dX7_judge_137 (by decide) (fun c_137 => ?_) (fun c_137 => ?_)
                · refine lv_iload_n hx hb dX7_judge_170 rfl (lv_at hl 0 rfl) ?_
                  exact rt_i F hr hlk hQ hw (u_7.1, u_7.2.1, u_7.2.2.1, u_7.2.2.2, u_1, mkf, df, sop, dl) (⟨Or.inr (Or.inr ⟨q1.2.1, k, hk, lk2, lk3, Or.inr (Or.inr ⟨(sld_congr q1.2.2).mp q4.2, n, hn, nf5, nf6, Or.inr (Or.inr ⟨c_94, c_120, rfl, Or.inl ⟨c_137, rfl⟩⟩)⟩)⟩), fun _ => q1.2.2 0 (by omega), by first | exact hdl | exact (show (12 : Nat) ≤ 40 by decide)⟩) rfl dX7_judge_171
                · refine lv_aload_n hx hb dX7_judge_140 rfl (lv_at hl 2 rfl) ?_
                  refine lv_aload_n hx hb dX7_judge_141 rfl (lv_at hl 1 rfl) ?_
                  refine lv_aload_n hx hb dX7_judge_142 rfl (lv_at hl 2 rfl) ?_
                  refine gf_X7_33 F hw 0 rfl rfl dX7_judge_143 ?_
                  refine cl_vF hw (rn_VF F hw (c_X7_writeToken_d g l ad ka kb ua sa now gr mo re bgn lin rfd rnd u_7.1 u_7.2.1 u_7.2.2.1 u_7.2.2.2 kept np cl cf tn tf dl df sdf cnf u_1 mkf num rep kf uto ufi use sop sow sid sbe sla k (by omega)) (cw_X7_253 F.2.2.2.2 ⟨by decide, by decide⟩)    0 rfl rfl rfl hl.1 rfl (Nat.le_of_ble_eq_true rfl) dX7_judge_146 ⟨Nat.zero_le _, Nat.zero_le _⟩) (fun u_22 H locs hp_24 hw => ?_)
                  replace hw : Wd g s A H locs (gX g ad ka ua sa now gr mo re bgn lin rfd rnd u_22.1 u_22.2.1 u_22.2.2.1 u_22.2.2.2.1 kept np cl cf tn tf 12 u_22.2.2.2.2.2 sdf cnf u_1 u_22.2.2.2.2.1 ++ (tl 4 ka (kE kb num rep) ++ (tl 4 kb (bE g kf) ++ (tl 8 ua (uE uto ufi use) ++ (tl 8 sa (sE sop sow sid sbe sla) ++ []))))) := hw
                  have q8 := hp_24
                  refine lv_aload_n hx hb dX7_judge_149 rfl (lv_at hl 2 rfl) ?_
                  refine gf_X7_30 F hw 0 rfl rfl dX7_judge_150 ?_
                  refine lv_aload_n hx hb dX7_judge_153 rfl (lv_at hl 2 rfl) ?_
                  refine gf_X7_33 F hw 0 rfl rfl dX7_judge_154 ?_
                  refine cl_i hw [10, 11, 12, 13] rfl (rn_V F hw (c_X5_isSameAs g l (ad 10) (ad 11) (ad 12) (ad 13) tf u_22.2.2.2.2.2 tn 12 (by omega) (by omega)) (cw_X7_257 F.2.2.2.2 ⟨by decide, by decide⟩) [10, 11, 12, 13] (by decide) rfl 10 rfl rfl rfl hl.1 rfl (Nat.le_of_ble_eq_true rfl) dX7_judge_157 ⟨Nat.zero_le _, Nat.zero_le _⟩) (fun _ => rfl) (fun v_26 u_25 H locs hp_27 hw => ?_)
                  replace hw : Wd g s A H locs (gX g ad ka ua sa now gr mo re bgn lin rfd rnd u_22.1 u_22.2.1 u_22.2.2.1 u_22.2.2.2.1 kept np cl cf tn tf 12 u_22.2.2.2.2.2 sdf cnf u_1 u_22.2.2.2.2.1 ++ (tl 4 ka (kE kb num rep) ++ (tl 4 kb (bE g kf) ++ (tl 8 ua (uE uto ufi use) ++ (tl 8 sa (sE sop sow sid sbe sla) ++ []))))) := hw
                  have q9 := hp_27
                  refine lv_if_eq (tgt := 167) hx hb dX7_judge_160 (by decide) (fun c_160 => ?_) (fun c_160 => ?_)
                  · replace q9 := q9.resolve_left (fun h => absurd (h.1.symm.trans c_160) (by decide))
                    have tkq := fun j (hj : j < 12) => (q8.1 j hj).trans (tkS_congr (fun j hj => q1.2.2 j (by omega)) j hj)
                    refine lv_bipush (v := (-8)) hx hb dX7_judge_167 (by decide) ?_
                    exact rt_i F hr hlk hQ hw (u_22.1, u_22.2.1, u_22.2.2.1, u_22.2.2.2.1, u_1, u_22.2.2.2.2.1, u_22.2.2.2.2.2, sop, 12) (by first | exact ⟨Or.inr (Or.inr ⟨q1.2.1, k, hk, lk2, lk3, Or.inr (Or.inr ⟨(sld_congr q1.2.2).mp q4.2, n, hn, nf5, nf6, Or.inr (Or.inr ⟨c_94, c_120, rfl, Or.inr (Or.inl ⟨c_137, (same_congr tkq).mp q9.2, rfl⟩)⟩)⟩)⟩), fun _ => q1.2.2 0 (by omega), by first | exact hdl | exact (show (12 : Nat) ≤ 40 by decide)⟩ | exact ⟨Or.inr (Or.inr ⟨q1.2.1, k, hk, lk2, lk3, Or.inr (Or.inr ⟨(sld_congr q1.2.2).mp q4.2, n, hn, nf5, nf6, Or.inr (Or.inr ⟨c_94, c_120, rfl, Or.inr (Or.inr ⟨c_137, fun h => q9.2 ((same_congr tkq).mpr h), rfl⟩)⟩)⟩)⟩), fun h => absurd h (by decide), by first | exact hdl | exact (show (12 : Nat) ≤ 40 by decide)⟩) rfl dX7_judge_169
                  · replace q9 := q9.resolve_right (fun h => c_160 h.1)
                    have tkq := fun j (hj : j < 12) => (q8.1 j hj).trans (tkS_congr (fun j hj => q1.2.2 j (by omega)) j hj)
                    refine lv_iload_n hx hb dX7_judge_163 rfl (lv_at hl 0 rfl) ?_
                    refine lv_goto (tgt := 169) hx hb dX7_judge_164 (by decide) ?_
                    exact rt_i F hr hlk hQ hw (u_22.1, u_22.2.1, u_22.2.2.1, u_22.2.2.2.1, u_1, u_22.2.2.2.2.1, u_22.2.2.2.2.2, sop, 12) (by first | exact ⟨Or.inr (Or.inr ⟨q1.2.1, k, hk, lk2, lk3, Or.inr (Or.inr ⟨(sld_congr q1.2.2).mp q4.2, n, hn, nf5, nf6, Or.inr (Or.inr ⟨c_94, c_120, rfl, Or.inr (Or.inl ⟨c_137, (same_congr tkq).mp q9.2, rfl⟩)⟩)⟩)⟩), fun _ => q1.2.2 0 (by omega), by first | exact hdl | exact (show (12 : Nat) ≤ 40 by decide)⟩ | exact ⟨Or.inr (Or.inr ⟨q1.2.1, k, hk, lk2, lk3, Or.inr (Or.inr ⟨(sld_congr q1.2.2).mp q4.2, n, hn, nf5, nf6, Or.inr (Or.inr ⟨c_94, c_120, rfl, Or.inr (Or.inr ⟨c_137, fun h => q9.2 ((same_congr tkq).mpr h), rfl⟩)⟩)⟩)⟩), fun h => absurd h (by decide), by first | exact hdl | exact (show (12 : Nat) ≤ 40 by decide)⟩) rfl dX7_judge_169
              · refine lv_aload_n hx hb dX7_judge_123 rfl (lv_at hl 2 rfl) ?_
                refine gf_X7_44 F hw 0 rfl rfl dX7_judge_124 ?_
                refine lv_iload_n hx hb dX7_judge_127 rfl (lv_at hl 0 rfl) ?_
                refine ra_ld F hw 15 4 rfl rfl (by omega) (by omega) rfl dX7_judge_128 ?_
                refine lv_iconst (v := nI 0) hx hb dX7_judge_129 (by decide) ?_
                refine pf_X7_163 F hw (36 + n) (tg4 rfl (by omega)) (Nat.le_of_ble_eq_true rfl) rfl rfl dX7_judge_130 (fun H locs hw => ?_)
                replace hw : Wd g s A H locs (gX g ad ka ua sa now gr mo re bgn lin rfd rnd u_7.1 u_7.2.1 u_7.2.2.1 u_7.2.2.2 kept np cl cf tn tf dl df sdf cnf u_1 mkf ++ (tl 4 ka (kE kb num rep) ++ (tl 4 kb (bE g kf) ++ (tl 8 ua (uE uto ufi use) ++ (tl 8 sa (sE (upd sop n (nI 0)) sow sid sbe sla) ++ []))))) := wd_eq (ts4 rfl (by omega) (by funext z; by_cases hz : z = n <;> simp [va_up, sE, upd, vp_updL, hz])) hw
                refine lv_bipush (v := (-7)) hx hb dX7_judge_133 (by decide) ?_
                exact rt_i F hr hlk hQ hw (u_7.1, u_7.2.1, u_7.2.2.1, u_7.2.2.2, u_1, mkf, df, (upd sop n (nI 0)), dl) (⟨Or.inr (Or.inr ⟨q1.2.1, k, hk, lk2, lk3, Or.inr (Or.inr ⟨(sld_congr q1.2.2).mp q4.2, n, hn, nf5, nf6, Or.inr (Or.inl ⟨c_94, c_120, rfl, rfl⟩)⟩)⟩), fun h => absurd h (by decide), by first | exact hdl | exact (show (12 : Nat) ≤ 40 by decide)⟩) rfl dX7_judge_135
            · refine lv_aload_n hx hb dX7_judge_97 rfl (lv_at hl 2 rfl) ?_
              refine gf_X7_44 F hw 0 rfl rfl dX7_judge_98 ?_
              refine lv_iload_n hx hb dX7_judge_101 rfl (lv_at hl 0 rfl) ?_
              refine ra_ld F hw 15 4 rfl rfl (by omega) (by omega) rfl dX7_judge_102 ?_
              refine lv_iconst (v := nI 0) hx hb dX7_judge_103 (by decide) ?_
              refine pf_X7_163 F hw (36 + n) (tg4 rfl (by omega)) (Nat.le_of_ble_eq_true rfl) rfl rfl dX7_judge_104 (fun H locs hw => ?_)
              replace hw : Wd g s A H locs (gX g ad ka ua sa now gr mo re bgn lin rfd rnd u_7.1 u_7.2.1 u_7.2.2.1 u_7.2.2.2 kept np cl cf tn tf dl df sdf cnf u_1 mkf ++ (tl 4 ka (kE kb num rep) ++ (tl 4 kb (bE g kf) ++ (tl 8 ua (uE uto ufi use) ++ (tl 8 sa (sE (upd sop n (nI 0)) sow sid sbe sla) ++ []))))) := wd_eq (ts4 rfl (by omega) (by funext z; by_cases hz : z = n <;> simp [va_up, sE, upd, vp_updL, hz])) hw
              refine lv_bipush (v := (-6)) hx hb dX7_judge_107 (by decide) ?_
              exact rt_i F hr hlk hQ hw (u_7.1, u_7.2.1, u_7.2.2.1, u_7.2.2.2, u_1, mkf, df, (upd sop n (nI 0)), dl) (⟨Or.inr (Or.inr ⟨q1.2.1, k, hk, lk2, lk3, Or.inr (Or.inr ⟨(sld_congr q1.2.2).mp q4.2, n, hn, nf5, nf6, Or.inl ⟨c_94, rfl, rfl⟩⟩)⟩), fun h => absurd h (by decide), by first | exact hdl | exact (show (12 : Nat) ≤ 40 by decide)⟩) rfl dX7_judge_109
          · exact absurd c_78 (nI_nm1 (by omega))
        · refine lv_istore_n (lv' := [(3, .int (-1)), (2, .ref (ka k)), (0, .ref (ad 0)), (1, .int ch)]) hx hb dX7_judge_75 rfl hl (by decide) rfl (fun ls hl => ?_)
          refine lv_iload_n hx hb dX7_judge_76 rfl (lv_at hl 0 rfl) ?_
          refine lv_iconst (v := (-1)) hx hb dX7_judge_77 (by decide) ?_
          refine lv_icmp_ne (tgt := 84) hx hb dX7_judge_78 (by decide) (fun c_78 => ?_) (fun c_78 => ?_)
          · exact absurd rfl c_78
          · have nf5 := q5
            rw [q1.2.2 1 (by omega), rdq] at nf5
            refine lv_bipush (v := (-5)) hx hb dX7_judge_81 (by decide) ?_
            exact rt_i F hr hlk hQ hw (u_7.1, u_7.2.1, u_7.2.2.1, u_7.2.2.2, u_1, mkf, df, sop, dl) (⟨Or.inr (Or.inr ⟨q1.2.1, k, hk, lk2, lk3, Or.inr (Or.inl ⟨(sld_congr q1.2.2).mp q4.2, nf5, rfl, rfl⟩)⟩), fun h => absurd h (by decide), by first | exact hdl | exact (show (12 : Nat) ≤ 40 by decide)⟩) rfl dX7_judge_83
      · replace q4 := q4.resolve_left (fun h => absurd (h.1.symm.trans c_51) (by decide))
        refine lv_bipush (v := (-4)) hx hb dX7_judge_54 (by decide) ?_
        exact rt_i F hr hlk hQ hw (u_7.1, u_7.2.1, u_7.2.2.1, u_7.2.2.2, u_1, mkf, df, sop, dl) (⟨Or.inr (Or.inr ⟨q1.2.1, k, hk, lk2, lk3, Or.inl ⟨fun h => q4.2 ((sld_congr q1.2.2).mpr h), rfl, rfl⟩⟩), fun h => absurd h (by decide), by first | exact hdl | exact (show (12 : Nat) ≤ 40 by decide)⟩) rfl dX7_judge_56
    · refine lv_astore_nN (lv' := [(2, .null), (0, .ref (ad 0)), (1, .int ch)]) hx hb dX7_judge_38 rfl hl (by decide) rfl (fun ls hl => ?_)
      refine lv_aload_nN hx hb dX7_judge_39 rfl (lv_at hl 0 rfl) ?_
      refine lv_ifnonnullN hx hb dX7_judge_40 ?_
      refine lv_bipush (v := (-3)) hx hb dX7_judge_43 (by decide) ?_
      exact rt_i F hr hlk hQ hw (mB, mb, ms, mt, u_1, mkf, df, sop, dl) (⟨Or.inr (Or.inl ⟨q1.2.1, fun j hj => (q1.2.2 0 (by omega)) ▸ q2 j hj, rfl, rfl⟩), fun h => absurd h (by decide), by first | exact hdl | exact (show (12 : Nat) ≤ 40 by decide)⟩) rfl dX7_judge_45
  · replace q1 := q1.resolve_left (fun h => absurd (h.1.symm.trans c_11) (by decide))
    refine lv_bipush (v := (-2)) hx hb dX7_judge_14 (by decide) ?_
    exact rt_i F hr hlk hQ hw (mB, mb, ms, mt, u_1, mkf, df, sop, dl) (⟨Or.inl ⟨q1.2, rfl, rfl⟩, fun h => absurd h (by decide), by first | exact hdl | exact (show (12 : Nat) ≤ 40 by decide)⟩) rfl dX7_judge_16
