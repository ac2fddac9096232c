def stF (now mo re : Int64) (sop : Nat → Int32) (sbe sla : Nat → Int64) : Nat → Nat → Int32
  | 0 => sop
  | k + 1 => if ageI now (sbe k) mo = 0 ∧ ageI now (sla k) re = 0 then stF now mo re sop sbe sla k else upd (stF now mo re sop sbe sla k) k (nI 0)
theorem stF_0 {now mo re : Int64} {sop : Nat → Int32} {sbe sla : Nat → Int64} {k : Nat} (h : ageI now (sbe k) mo = 0) (h2 : ageI now (sla k) re = 0) : stF now mo re sop sbe sla (k + 1) = stF now mo re sop sbe sla k := if_pos ⟨h, h2⟩
theorem stF_1 {now mo re : Int64} {sop : Nat → Int32} {sbe sla : Nat → Int64} {k : Nat} (h : ¬ ageI now (sbe k) mo = 0) : stF now mo re sop sbe sla (k + 1) = upd (stF now mo re sop sbe sla k) k (nI 0) := if_neg (fun z => h z.1)
theorem stF_2 {now mo re : Int64} {sop : Nat → Int32} {sbe sla : Nat → Int64} {k : Nat} (h : ¬ ageI now (sla k) re = 0) : stF now mo re sop sbe sla (k + 1) = upd (stF now mo re sop sbe sla k) k (nI 0) := if_neg (fun z => h z.2)
set_option maxHeartbeats 4000000 in
set_option maxRecDepth 100000 in
theorem c_X7_endStaleSessions (g : GG) (l : Launch) (ad : Nat → Nat) (ka : Nat → Nat) (kb : Nat → Nat) (ua : Nat → Nat) (sa : Nat → Nat) (now : Int64) (gr : Int64) (mo : Int64) (re : Int64) (bgn : Int32) (lin : Int32) (rfd : Int32) (rnd : Int32) (mB : Nat → Int32) (mb : Nat → Int32) (ms : Nat → Int32) (mt : Nat → Int32) (kept : Nat) (np : Nat) (cl : Nat) (cf : Nat → Int32) (tn : Nat) (tf : Nat → Int32) (dl : Nat) (df : Nat → Int32) (sdf : Nat → Int32) (cnf : Nat → Int32) (cbf : Nat → Int32) (mkf : Nat → Int32) (num : Nat → Int32) (rep : Nat → Int64) (kf : Nat → Nat → Int32) (uto : Nat → Int32) (ufi : Nat → Int32) (use : Nat → Int32) (sop : Nat → Int32) (sow : Nat → Int32) (sid : Nat → Int64) (sbe : Nat → Int64) (sla : Nat → Int64) : Ct g l yX7_endStaleSessions cX7_endStaleSessions 2 none 1 21 [.ref (ad 0)] (gX g ad ka ua sa now gr mo re bgn lin rfd rnd mB mb ms mt kept np cl cf tn tf dl df sdf cnf cbf mkf ++ (tl 4 ka (kE kb num rep) ++ (tl 4 kb (bE g kf) ++ (tl 8 ua (uE uto ufi use) ++ (tl 8 sa (sE sop sow sid sbe sla) ++ []))))) (Rv g (fun (u : Unit) => True) (fun (u : Unit) => (gX g ad ka ua sa now gr mo re bgn lin rfd rnd mB mb ms mt kept np cl cf tn tf dl df sdf cnf cbf mkf ++ (tl 4 ka (kE kb num rep) ++ (tl 4 kb (bE g kf) ++ (tl 8 ua (uE uto ufi use) ++ (tl 8 sa (sE (stF now mo re sop sbe sla 8) sow sid sbe sla) ++ []))))))) := by
  refine mkC (by decide) (Nat.le_of_ble_eq_true rfl) ?_
  intro p e s m args below meth c A ls QQ F hr hlk hnm hQ hw hl
  have hx := F.1
  have hb := F.2.1
  replace hl : lv_has ls 2 [(0, .ref (ad 0))] := hl
  refine lv_iconst (v := nI 0) hx hb dX7_endStaleSessions_0 (by decide) ?_
  refine lv_istore_n (lv' := [(1, .int (nI 0)), (0, .ref (ad 0))]) hx hb dX7_endStaleSessions_1 rfl hl (by decide) rfl (fun ls hl => ?_)
  have L_2 : ∀ (nn k : Nat), k ≤ 8 → 8 < k + nn → ∀ (H : Heap) (locs : List Loc) (ls : Array Slot), Wd g s A H locs (gX g ad ka ua sa now gr mo re bgn lin rfd rnd mB mb ms mt kept np cl cf tn tf dl df sdf cnf cbf mkf ++ (tl 4 ka (kE kb num rep) ++ (tl 4 kb (bE g kf) ++ (tl 8 ua (uE uto ufi use) ++ (tl 8 sa (sE (stF now mo re sop sbe sla k) sow sid sbe sla) ++ []))))) → lv_has ls 2 [(0, .ref (ad 0)), (1, .int (nI k))] → W p l e (rmm 1 21) s m args below meth c H locs 0 0 QQ (F0 m 2 ls []) := by
    intro nn
    induction nn with
    | zero => intro k h1 h2; exact absurd h2 (by omega)
    | succ nn ih =>
      intro k hk_k hn_k H locs ls hw hl
      refine lv_iload_n hx hb dX7_endStaleSessions_2 rfl (lv_at hl 1 rfl) ?_
      refine lv_bipush (v := nI 8) hx hb dX7_endStaleSessions_3 (by decide) ?_
      refine n_ge (tgt := 50) hx hb (by omega) (by omega) dX7_endStaleSessions_5 (by decide) (fun c_5 => ?_) (fun c_5 => ?_)
      · obtain rfl : k = 8 := by omega
        exact rt_v F hr hlk hQ hw () trivial rfl dX7_endStaleSessions_50
      · refine lv_aload_n hx hb dX7_endStaleSessions_8 rfl (lv_at hl 0 rfl) ?_
        refine lv_aload_n hx hb dX7_endStaleSessions_9 rfl (lv_at hl 0 rfl) ?_
        refine gf_X7_44 F hw 0 rfl rfl dX7_endStaleSessions_10 ?_
        refine lv_iload_n hx hb dX7_endStaleSessions_13 rfl (lv_at hl 1 rfl) ?_
        refine ra_ld F hw 15 4 rfl rfl (by omega) (by omega) rfl dX7_endStaleSessions_14 ?_
        refine cl_iF hw (rn_VF F hw (c_X7_isOld g l ad ka kb ua sa now gr mo re bgn lin rfd rnd mB mb ms mt kept np cl cf tn tf dl df sdf cnf cbf mkf num rep kf uto ufi use (stF now mo re sop sbe sla k) sow sid sbe sla k (by omega)) (cw_X7_224 F.2.2.2.2 ⟨by decide, by decide⟩)    0 rfl rfl rfl hl.1 rfl (Nat.le_of_ble_eq_true rfl) dX7_endStaleSessions_15 ⟨Nat.zero_le _, Nat.zero_le _⟩) (fun v_2 u_1 H locs hp_3 hw => ?_)
        subst hp_3
        replace hw : Wd g s A H locs (gX g ad ka ua sa now gr mo re bgn lin rfd rnd mB mb ms mt kept np cl cf tn tf dl df sdf cnf cbf mkf ++ (tl 4 ka (kE kb num rep) ++ (tl 4 kb (bE g kf) ++ (tl 8 ua (uE uto ufi use) ++ (tl 8 sa (sE (stF now mo re sop sbe sla k) sow sid sbe sla) ++ []))))) := hw
        refine lv_if_ne (tgt := 34) hx hb dX7_endStaleSessions_18 (by decide) (fun c_18 => ?_) (fun c_18 => ?_)
        · refine lv_aload_n hx hb dX7_endStaleSessions_34 rfl (lv_at hl 0 rfl) ?_
          refine gf_X7_44 F hw 0 rfl rfl dX7_endStaleSessions_35 ?_
          refine lv_iload_n hx hb dX7_endStaleSessions_38 rfl (lv_at hl 1 rfl) ?_
          refine ra_ld F hw 15 4 rfl rfl (by omega) (by omega) rfl dX7_endStaleSessions_39 ?_
          refine lv_iconst (v := nI 0) hx hb dX7_endStaleSessions_40 (by decide) ?_
          refine pf_X7_163 F hw (36 + k) (tg4 rfl (by omega)) (Nat.le_of_ble_eq_true rfl) rfl rfl dX7_endStaleSessions_41 (fun H locs hw => ?_)
          replace hw : Wd g s A H locs (gX g ad ka ua sa now gr mo re bgn lin rfd rnd mB mb ms mt kept np cl cf tn tf dl df sdf cnf cbf mkf ++ (tl 4 ka (kE kb num rep) ++ (tl 4 kb (bE g kf) ++ (tl 8 ua (uE uto ufi use) ++ (tl 8 sa (sE (upd (stF now mo re sop sbe sla k) k (nI 0)) sow sid sbe sla) ++ []))))) := wd_eq (ts4 rfl (by omega) (by funext z; by_cases hz : z = k <;> simp [va_up, sE, upd, vp_updL, hz])) hw
          refine lv_iinc (v := nI (k + 1)) (lv' := [(1, .int (nI (k + 1))), (0, .ref (ad 0))]) hx hb dX7_endStaleSessions_44 hl (k := 1) rfl (inc_n _ 1) (by decide) rfl (fun ls hl => ?_)
          refine lv_goto (tgt := 2) hx hb dX7_endStaleSessions_47 (by decide) ?_
          exact ih (k + 1) (by omega) (by omega) _ _ _ (by first | (rw [stF_1 c_18]; exact hw) | (rw [stF_2 c_31]; exact hw) | (rw [stF_0 c_18 c_31]; exact hw)) (lv_sub hl [1, 0] rfl)
        · refine lv_aload_n hx hb dX7_endStaleSessions_21 rfl (lv_at hl 0 rfl) ?_
          refine lv_aload_n hx hb dX7_endStaleSessions_22 rfl (lv_at hl 0 rfl) ?_
          refine gf_X7_44 F hw 0 rfl rfl dX7_endStaleSessions_23 ?_
          refine lv_iload_n hx hb dX7_endStaleSessions_26 rfl (lv_at hl 1 rfl) ?_
          refine ra_ld F hw 15 4 rfl rfl (by omega) (by omega) rfl dX7_endStaleSessions_27 ?_
          refine cl_iF hw (rn_VF F hw (c_X7_isIdle g l ad ka kb ua sa now gr mo re bgn lin rfd rnd mB mb ms mt kept np cl cf tn tf dl df sdf cnf cbf mkf num rep kf uto ufi use (stF now mo re sop sbe sla k) sow sid sbe sla k (by omega)) (cw_X7_228 F.2.2.2.2 ⟨by decide, by decide⟩)    0 rfl rfl rfl hl.1 rfl (Nat.le_of_ble_eq_true rfl) dX7_endStaleSessions_28 ⟨Nat.zero_le _, Nat.zero_le _⟩) (fun v_5 u_4 H locs hp_6 hw => ?_)
          subst hp_6
          replace hw : Wd g s A H locs (gX g ad ka ua sa now gr mo re bgn lin rfd rnd mB mb ms mt kept np cl cf tn tf dl df sdf cnf cbf mkf ++ (tl 4 ka (kE kb num rep) ++ (tl 4 kb (bE g kf) ++ (tl 8 ua (uE uto ufi use) ++ (tl 8 sa (sE (stF now mo re sop sbe sla k) sow sid sbe sla) ++ []))))) := hw
          refine lv_if_eq (tgt := 44) hx hb dX7_endStaleSessions_31 (by decide) (fun c_31 => ?_) (fun c_31 => ?_)
          · refine lv_iinc (v := nI (k + 1)) (lv' := [(1, .int (nI (k + 1))), (0, .ref (ad 0))]) hx hb dX7_endStaleSessions_44 hl (k := 1) rfl (inc_n _ 1) (by decide) rfl (fun ls hl => ?_)
            refine lv_goto (tgt := 2) hx hb dX7_endStaleSessions_47 (by decide) ?_
            exact ih (k + 1) (by omega) (by omega) _ _ _ (by first | (rw [stF_1 c_18]; exact hw) | (rw [stF_2 c_31]; exact hw) | (rw [stF_0 c_18 c_31]; exact hw)) (lv_sub hl [1, 0] rfl)
          · refine lv_aload_n hx hb dX7_endStaleSessions_34 rfl (lv_at hl 0 rfl) ?_
            refine gf_X7_44 F hw 0 rfl rfl dX7_endStaleSessions_35 ?_
            refine lv_iload_n hx hb dX7_endStaleSessions_38 rfl (lv_at hl 1 rfl) ?_
            refine ra_ld F hw 15 4 rfl rfl (by omega) (by omega) rfl dX7_endStaleSessions_39 ?_
            refine lv_iconst (v := nI 0) hx hb dX7_endStaleSessions_40 (by decide) ?_
            refine pf_X7_163 F hw (36 + k) (tg4 rfl (by omega)) (Nat.le_of_ble_eq_true rfl) rfl rfl dX7_endStaleSessions_41 (fun H locs hw => ?_)
            replace hw : Wd g s A H locs (gX g ad ka ua sa now gr mo re bgn lin rfd rnd mB mb ms mt kept np cl cf tn tf dl df sdf cnf cbf mkf ++ (tl 4 ka (kE kb num rep) ++ (tl 4 kb (bE g kf) ++ (tl 8 ua (uE uto ufi use) ++ (tl 8 sa (sE (upd (stF now mo re sop sbe sla k) k (nI 0)) sow sid sbe sla) ++ []))))) := wd_eq (ts4 rfl (by omega) (by funext z; by_cases hz : z = k <;> simp [va_up, sE, upd, vp_updL, hz])) hw
            refine lv_iinc (v := nI (k + 1)) (lv' := [(1, .int (nI (k + 1))), (0, .ref (ad 0))]) hx hb dX7_endStaleSessions_44 hl (k := 1) rfl (inc_n _ 1) (by decide) rfl (fun ls hl => ?_)
            refine lv_goto (tgt := 2) hx hb dX7_endStaleSessions_47 (by decide) ?_
            exact ih (k + 1) (by omega) (by omega) _ _ _ (by first | (rw [stF_1 c_18]; exact hw) | (rw [stF_2 c_31]; exact hw) | (rw [stF_0 c_18 c_31]; exact hw)) (lv_sub hl [1, 0] rfl)
  exact L_2 (8 + 1) 0 (by omega) (by omega) _ _ _ hw (lv_sub hl [1, 0] rfl)
def idS (sdf : Nat → Int32) (n : Int32) : Int64 := rdL (hmac sdf 8 (byL n.toInt64) 8) 0 8
theorem id_of {sdf u cnf : Nat → Int32} {n : Int32} (q : ∀ j, j < 32 → u j = hmac sdf 8 (wlF n.toInt64 0 cnf 8) 8 j) : rdL u 0 8 = idS sdf n := rdL_congr 8 (fun j hj => by
  rw [q (0 + j) (by omega)]
  exact hmac_congr (fun i hi => by rw [wlF_get, if_pos (by omega)]; rfl) _ (by omega))
set_option maxHeartbeats 4000000 in
set_option maxRecDepth 100000 in
theorem c_X7_nextId (g : GG) (l : Launch) (ad : Nat → Nat) (ka : Nat → Nat) (kb : Nat → Nat) (ua : Nat → Nat) (sa : Nat → Nat) (now : Int64) (gr : Int64) (mo : Int64) (re : Int64) (bgn : Int32) (lin : Int32) (rfd : Int32) (rnd : Int32) (mB : Nat → Int32) (mb : Nat → Int32) (ms : Nat → Int32) (mt : Nat → Int32) (kept : Nat) (np : Nat) (cl : Nat) (cf : Nat → Int32) (tn : Nat) (tf : Nat → Int32) (dl : Nat) (df : Nat → Int32) (sdf : Nat → Int32) (cnf : Nat → Int32) (cbf : Nat → Int32) (mkf : Nat → Int32) (num : Nat → Int32) (rep : Nat → Int64) (kf : Nat → Nat → Int32) (uto : Nat → Int32) (ufi : Nat → Int32) (use : Nat → Int32) (sop : Nat → Int32) (sow : Nat → Int32) (sid : Nat → Int64) (sbe : Nat → Int64) (sla : Nat → Int64) : Ct g l yX7_nextId cX7_nextId 1 (some .long) 4 98 [.ref (ad 0)] (gX g ad ka ua sa now gr mo re bgn lin rfd rnd mB mb ms mt kept np cl cf tn tf dl df sdf cnf cbf mkf ++ (tl 4 ka (kE kb num rep) ++ (tl 4 kb (bE g kf) ++ (tl 8 ua (uE uto ufi use) ++ (tl 8 sa (sE sop sow sid sbe sla) ++ []))))) (Rl g (fun (v : Int64) (u : (Nat → Int32) × (Nat → Int32) × (Nat → Int32) × (Nat → Int32) × (Nat → Int32)) => v = idS sdf bgn) (fun (u : (Nat → Int32) × (Nat → Int32) × (Nat → Int32) × (Nat → Int32) × (Nat → Int32)) => (gX g ad ka ua sa now gr mo re bgn lin rfd rnd u.1 u.2.1 u.2.2.1 u.2.2.2.1 kept np cl cf tn tf dl df sdf u.2.2.2.2 cbf mkf ++ (tl 4 ka (kE kb num rep) ++ (tl 4 kb (bE g kf) ++ (tl 8 ua (uE uto ufi use) ++ (tl 8 sa (sE sop sow sid sbe sla) ++ []))))))) := by
  refine mkC (by decide) (Nat.le_of_ble_eq_true rfl) ?_
  intro p e s m args below meth c A ls QQ F hr hlk hnm hQ hw hl
  have hx := F.1
  have hb := F.2.1
  replace hl : lv_has ls 1 [(0, .ref (ad 0))] := hl
  refine lv_aload_n hx hb dX7_nextId_0 rfl (lv_at hl 0 rfl) ?_
  refine gf_X7_76 F hw 0 rfl rfl dX7_nextId_1 ?_
  refine lv_i2l (v := (bgn).toInt64) hx hb dX7_nextId_4 rfl ?_
  refine lv_aload_n hx hb dX7_nextId_5 rfl (lv_at hl 0 rfl) ?_
  refine gf_X7_52 F hw 0 rfl rfl dX7_nextId_6 ?_
  refine lv_iconst (v := nI 0) hx hb dX7_nextId_9 (by decide) ?_
  refine cl_v hw [17] rfl (rn_S F hw (c_X7_writeLong g l (ad 17) 8 cnf (bgn).toInt64 0 (by omega) (by omega)) (cw_X7_91 F.2.2.2.2 ⟨by decide, by decide⟩) [17] (by decide) rfl hl.1 rfl (Nat.le_of_ble_eq_true rfl) dX7_nextId_10 ⟨Nat.zero_le _, Nat.zero_le _⟩) (fun _ => rfl) (fun u_1 H locs hp_3 hw => ?_)
  replace hw : Wd g s A H locs (gX g ad ka ua sa now gr mo re bgn lin rfd rnd mB mb ms mt kept np cl cf tn tf dl df sdf (wlF (bgn).toInt64 0 cnf 8) cbf mkf ++ (tl 4 ka (kE kb num rep) ++ (tl 4 kb (bE g kf) ++ (tl 8 ua (uE uto ufi use) ++ (tl 8 sa (sE sop sow sid sbe sla) ++ []))))) := hw
  refine lv_aload_n hx hb dX7_nextId_13 rfl (lv_at hl 0 rfl) ?_
  refine gf_X7_10 F hw 0 rfl rfl dX7_nextId_14 ?_
  refine lv_aload_n hx hb dX7_nextId_17 rfl (lv_at hl 0 rfl) ?_
  refine gf_X7_48 F hw 0 rfl rfl dX7_nextId_18 ?_
  refine lv_aload_n hx hb dX7_nextId_21 rfl (lv_at hl 0 rfl) ?_
  refine gf_X7_52 F hw 0 rfl rfl dX7_nextId_22 ?_
  refine lv_bipush (v := nI 8) hx hb dX7_nextId_25 (by decide) ?_
  refine cl_v hw [1, 2, 3, 4, 5, 17, 16] rfl (rn_V F hw (c_X3_compute g l (ad 1) (ad 2) (ad 3) (ad 4) (ad 5) (ad 16) (ad 17) 8 8 mB mb ms mt sdf (wlF (bgn).toInt64 0 cnf 8) 8 (by omega) (by omega) (by omega) (by omega)) (cw_X7_217 F.2.2.2.2 ⟨by decide, by decide⟩) [1, 2, 3, 4, 5, 17, 16] (by decide) rfl 1 rfl rfl rfl hl.1 rfl (Nat.le_of_ble_eq_true rfl) dX7_nextId_27 ⟨Nat.zero_le _, Nat.zero_le _⟩) (fun _ => rfl) (fun u_4 H locs hp_6 hw => ?_)
  replace hw : Wd g s A H locs (gX g ad ka ua sa now gr mo re bgn lin rfd rnd u_4.1 u_4.2.1 u_4.2.2.1 u_4.2.2.2 kept np cl cf tn tf dl df sdf (wlF (bgn).toInt64 0 cnf 8) cbf mkf ++ (tl 4 ka (kE kb num rep) ++ (tl 4 kb (bE g kf) ++ (tl 8 ua (uE uto ufi use) ++ (tl 8 sa (sE sop sow sid sbe sla) ++ []))))) := hw
  have q1 := hp_6
  refine lv_aload_n hx hb dX7_nextId_30 rfl (lv_at hl 0 rfl) ?_
  refine gf_X7_10 F hw 0 rfl rfl dX7_nextId_31 ?_
  refine gf_X7_221 F hw 1 rfl rfl dX7_nextId_34 ?_
  refine lv_iconst (v := nI 0) hx hb dX7_nextId_37 (by decide) ?_
  refine cl_l hw [2] rfl (rn_S F hw (c_X7_readLong g l (ad 2) 32 u_4.1 0 (by omega) (by omega)) (cw_X7_231 F.2.2.2.2 ⟨by decide, by decide⟩) [2] (by decide) rfl hl.1 rfl (Nat.le_of_ble_eq_true rfl) dX7_nextId_38 ⟨Nat.zero_le _, Nat.zero_le _⟩) (fun _ => rfl) (fun v_8 u_7 H locs hp_9 hw => ?_)
  subst hp_9
  replace hw : Wd g s A H locs (gX g ad ka ua sa now gr mo re bgn lin rfd rnd u_4.1 u_4.2.1 u_4.2.2.1 u_4.2.2.2 kept np cl cf tn tf dl df sdf (wlF (bgn).toInt64 0 cnf 8) cbf mkf ++ (tl 4 ka (kE kb num rep) ++ (tl 4 kb (bE g kf) ++ (tl 8 ua (uE uto ufi use) ++ (tl 8 sa (sE sop sow sid sbe sla) ++ []))))) := hw
  exact rt_l F hr hlk hQ hw (u_4.1, u_4.2.1, u_4.2.2.1, u_4.2.2.2, (wlF (bgn).toInt64 0 cnf 8)) (id_of q1) rfl dX7_nextId_41
def sld (kf cbf : Nat → Int32) : Prop := ∀ i, i < 12 → cbf (10 + i) = hmac kf 16 cbf 10 i
set_option maxHeartbeats 4000000 in
set_option maxRecDepth 100000 in
theorem c_X7_isSealedBy (g : GG) (l : Launch) (ad : Nat → Nat) (ka : Nat → Nat) (kb : Nat → Nat) (ua : Nat → Nat) (sa : Nat → Nat) (now : Int64) (gr : Int64) (mo : Int64) (re : Int64) (bgn : Int32) (lin : Int32) (rfd : Int32) (rnd : Int32) (mB : Nat → Int32) (mb : Nat → Int32) (ms : Nat → Int32) (mt : Nat → Int32) (kept : Nat) (np : Nat) (cl : Nat) (cf : Nat → Int32) (tn : Nat) (tf : Nat → Int32) (dl : Nat) (df : Nat → Int32) (sdf : Nat → Int32) (cnf : Nat → Int32) (cbf : Nat → Int32) (mkf : Nat → Int32) (num : Nat → Int32) (rep : Nat → Int64) (kf : Nat → Nat → Int32) (uto : Nat → Int32) (ufi : Nat → Int32) (use : Nat → Int32) (sop : Nat → Int32) (sow : Nat → Int32) (sid : Nat → Int64) (sbe : Nat → Int64) (sla : Nat → Int64) (k : Nat) (hk : k < 4) : Ct g l yX7_isSealedBy cX7_isSealedBy 3 (some .boolean) 4 98 [.ref (ad 0), .ref (ka k)] (gX g ad ka ua sa now gr mo re bgn lin rfd rnd mB mb ms mt kept np cl cf tn tf dl df sdf cnf cbf mkf ++ (tl 4 ka (kE kb num rep) ++ (tl 4 kb (bE g kf) ++ (tl 8 ua (uE uto ufi use) ++ (tl 8 sa (sE sop sow sid sbe sla) ++ []))))) (Ri g (fun (v : Int32) (u : (Nat → Int32) × (Nat → Int32) × (Nat → Int32) × (Nat → Int32)) => (v = nI 1 ∧ sld (kf k) cbf) ∨ (v = nI 0 ∧ ¬ sld (kf k) cbf)) (fun (u : (Nat → Int32) × (Nat → Int32) × (Nat → Int32) × (Nat → Int32)) => (gX g ad ka ua sa now gr mo re bgn lin rfd rnd u.1 u.2.1 u.2.2.1 u.2.2.2 kept np cl cf tn tf dl df sdf cnf cbf mkf ++ (tl 4 ka (kE kb num rep) ++ (tl 4 kb (bE g kf) ++ (tl 8 ua (uE uto ufi use) ++ (tl 8 sa (sE sop sow sid sbe sla) ++ []))))))) := by
  refine mkC (by decide) (Nat.le_of_ble_eq_true rfl) ?_
  intro p e s m args below meth c A ls QQ F hr hlk hnm hQ hw hl
  have hx := F.1
  have hb := F.2.1
  replace hl : lv_has ls 3 [(0, .ref (ad 0)), (1, .ref (ka k))] := hl
  refine lv_aload_n hx hb dX7_isSealedBy_0 rfl (lv_at hl 0 rfl) ?_
  refine gf_X7_10 F hw 0 rfl rfl dX7_isSealedBy_1 ?_
  refine lv_aload_n hx hb dX7_isSealedBy_4 rfl (lv_at hl 1 rfl) ?_
  refine gf_X7_214 F hw (20 + k) (tg1 rfl (by omega)) rfl dX7_isSealedBy_5 ?_
  refine lv_aload_n hx hb dX7_isSealedBy_8 rfl (lv_at hl 0 rfl) ?_
  refine gf_X7_55 F hw 0 rfl rfl dX7_isSealedBy_9 ?_
  refine lv_bipush (v := nI 10) hx hb dX7_isSealedBy_12 (by decide) ?_
  have hC9 : List.map (fun zz9 : Nat => ((gX g ad ka ua sa now gr mo re bgn lin rfd rnd mB mb ms mt kept np cl cf tn tf dl df sdf cnf cbf mkf ++ (tl 4 ka (kE kb num rep) ++ (tl 4 kb (bE g kf) ++ (tl 8 ua (uE uto ufi use) ++ (tl 8 sa (sE sop sow sid sbe sla) ++ []))))))[zz9]?) [1, 2, 3, 4, 5, 18, (24 + k)] = List.map some [(ad 1, .inr (2, [.ref (ad 2), .ref (ad 3), .ref (ad 4), .ref (ad 5)])), (ad 2, iA g 32 mB), (ad 3, iA g 128 mb), (ad 4, iA g 64 ms), (ad 5, iA g 8 mt), (ad 18, iA g 22 cbf), (kb k, iA g 16 (kf k))] := (l_c rfl (l_c rfl (l_c rfl (l_c rfl (l_c rfl (l_c rfl (l_c (tg2 rfl (by omega)) rfl)))))))
  refine cl_v hw [1, 2, 3, 4, 5, 18, (24 + k)] hC9 (rn_V F hw (c_X3_compute g l (ad 1) (ad 2) (ad 3) (ad 4) (ad 5) (kb k) (ad 18) 16 22 mB mb ms mt (kf k) cbf 10 (by omega) (by omega) (by omega) (by omega)) (cw_X7_217 F.2.2.2.2 ⟨by decide, by decide⟩) [1, 2, 3, 4, 5, 18, (24 + k)] (by simp [va_nd] <;> omega) hC9 1 rfl rfl rfl hl.1 rfl (Nat.le_of_ble_eq_true rfl) dX7_isSealedBy_14 ⟨Nat.zero_le _, Nat.zero_le _⟩) (fun _ => rfl) (fun u_1 H locs hp_3 hw => ?_)
  replace hw : Wd g s A H locs (List.set (gX g ad ka ua sa now gr mo re bgn lin rfd rnd u_1.1 u_1.2.1 u_1.2.2.1 u_1.2.2.2 kept np cl cf tn tf dl df sdf cnf cbf mkf ++ (tl 4 ka (kE kb num rep) ++ (tl 4 kb (bE g kf) ++ (tl 8 ua (uE uto ufi use) ++ (tl 8 sa (sE sop sow sid sbe sla) ++ []))))) (24 + k) (kb k, iA g 16 (kf k))) := hw
  replace hw : Wd g s A H locs (gX g ad ka ua sa now gr mo re bgn lin rfd rnd u_1.1 u_1.2.1 u_1.2.2.1 u_1.2.2.2 kept np cl cf tn tf dl df sdf cnf cbf mkf ++ (tl 4 ka (kE kb num rep) ++ (tl 4 kb (bE g kf) ++ (tl 8 ua (uE uto ufi use) ++ (tl 8 sa (sE sop sow sid sbe sla) ++ []))))) := wd_eq (ts2 rfl (by omega) (by funext z; by_cases hz : z = k <;> simp [va_up, bE, upd, vp_updL, hz])) hw
  have q1 := hp_3
  refine lv_iconst (v := nI 0) hx hb dX7_isSealedBy_17 (by decide) ?_
  refine lv_istore_n (lv' := [(2, .int (nI 0)), (0, .ref (ad 0)), (1, .ref (ka k))]) hx hb dX7_isSealedBy_18 rfl hl (by decide) rfl (fun ls hl => ?_)
  have L_19 : ∀ (nn j : Nat), j ≤ 12 → 12 < j + nn → ∀ (H : Heap) (locs : List Loc) (ls : Array Slot), (∀ i, i < j → cbf (10 + i) = hmac (kf k) 16 cbf 10 i) → Wd g s A H locs (gX g ad ka ua sa now gr mo re bgn lin rfd rnd u_1.1 u_1.2.1 u_1.2.2.1 u_1.2.2.2 kept np cl cf tn tf dl df sdf cnf cbf mkf ++ (tl 4 ka (kE kb num rep) ++ (tl 4 kb (bE g kf) ++ (tl 8 ua (uE uto ufi use) ++ (tl 8 sa (sE sop sow sid sbe sla) ++ []))))) → lv_has ls 3 [(0, .ref (ad 0)), (2, .int (nI j))] → W p l e (rmm 4 98) s m args below meth c H locs 0 0 QQ (F0 m 19 ls []) := by
    intro nn
    induction nn with
    | zero => intro j h1 h2; exact absurd h2 (by omega)
    | succ nn ih =>
      intro j hk_j hn_j H locs ls hi_j_0 hw hl
      refine lv_iload_n hx hb dX7_isSealedBy_19 rfl (lv_at hl 1 rfl) ?_
      refine lv_bipush (v := nI 12) hx hb dX7_isSealedBy_20 (by decide) ?_
      refine n_ge (tgt := 54) hx hb (by omega) (by omega) dX7_isSealedBy_22 (by decide) (fun c_22 => ?_) (fun c_22 => ?_)
      · refine lv_iconst (v := nI 1) hx hb dX7_isSealedBy_54 (by decide) ?_
        exact rt_z F hr rfl hlk hQ hw (u_1.1, u_1.2.1, u_1.2.2.1, u_1.2.2.2) (Or.inl ⟨rfl, fun i hi => hi_j_0 i (by omega)⟩) rfl dX7_isSealedBy_55
      · refine lv_aload_n hx hb dX7_isSealedBy_25 rfl (lv_at hl 0 rfl) ?_
        refine gf_X7_55 F hw 0 rfl rfl dX7_isSealedBy_26 ?_
        refine lv_bipush (v := nI 10) hx hb dX7_isSealedBy_29 (by decide) ?_
        refine lv_iload_n hx hb dX7_isSealedBy_31 rfl (lv_at hl 1 rfl) ?_
        refine n_add hx hb dX7_isSealedBy_32 ?_
        refine ia_ld F hw 18 rfl (by omega) (by omega) dX7_isSealedBy_33 ?_
        refine lv_aload_n hx hb dX7_isSealedBy_34 rfl (lv_at hl 0 rfl) ?_
        refine gf_X7_10 F hw 0 rfl rfl dX7_isSealedBy_35 ?_
        refine gf_X7_221 F hw 1 rfl rfl dX7_isSealedBy_38 ?_
        refine lv_iload_n hx hb dX7_isSealedBy_41 rfl (lv_at hl 1 rfl) ?_
        refine ia_ld F hw 2 rfl (by omega) (by omega) dX7_isSealedBy_42 ?_
        refine lv_icmp_eq (tgt := 48) hx hb dX7_isSealedBy_43 (by decide) (fun c_43 => ?_) (fun c_43 => ?_)
        · refine lv_iinc (v := nI (j + 1)) (lv' := [(2, .int (nI (j + 1))), (0, .ref (ad 0))]) hx hb dX7_isSealedBy_48 hl (k := 1) rfl (inc_n _ 1) (by decide) rfl (fun ls hl => ?_)
          refine lv_goto (tgt := 19) hx hb dX7_isSealedBy_51 (by decide) ?_
          exact ih (j + 1) (by omega) (by omega) _ _ _ (lt_s hi_j_0 (c_43.trans (q1 j (by omega)))) hw (lv_sub hl [1, 0] rfl)
        · refine lv_iconst (v := nI 0) hx hb dX7_isSealedBy_46 (by decide) ?_
          exact rt_z F hr rfl hlk hQ hw (u_1.1, u_1.2.1, u_1.2.2.1, u_1.2.2.2) (Or.inr ⟨rfl, fun h => c_43 ((h j (by omega)).trans (q1 j (by omega)).symm)⟩) rfl dX7_isSealedBy_47
  exact L_19 (12 + 1) 0 (by omega) (by omega) _ _ _ (fun i h => absurd h (Nat.not_lt_zero i)) hw (lv_sub hl [1, 0] rfl)
def nfP (sop sow : Nat → Int32) (sid : Nat → Int64) (x : Int32) (y : Int64) (k : Nat) : Prop := ¬ sop k = 0 ∧ sow k = x ∧ sid k = y
set_option maxHeartbeats 4000000 in
set_option maxRecDepth 100000 in
theorem c_X7_numberOf (g : GG) (l : Launch) (ad : Nat → Nat) (ka : Nat → Nat) (kb : Nat → Nat) (ua : Nat → Nat) (sa : Nat → Nat) (now : Int64) (gr : Int64) (mo : Int64) (re : Int64) (bgn : Int32) (lin : Int32) (rfd : Int32) (rnd : Int32) (mB : Nat → Int32) (mb : Nat → Int32) (ms : Nat → Int32) (mt : Nat → Int32) (kept : Nat) (np : Nat) (cl : Nat) (cf : Nat → Int32) (tn : Nat) (tf : Nat → Int32) (dl : Nat) (df : Nat → Int32) (sdf : Nat → Int32) (cnf : Nat → Int32) (cbf : Nat → Int32) (mkf : Nat → Int32) (num : Nat → Int32) (rep : Nat → Int64) (kf : Nat → Nat → Int32) (uto : Nat → Int32) (ufi : Nat → Int32) (use : Nat → Int32) (sop : Nat → Int32) (sow : Nat → Int32) (sid : Nat → Int64) (sbe : Nat → Int64) (sla : Nat → Int64) (x : Int32) (y : Int64) : Ct g l yX7_numberOf cX7_numberOf 5 (some .int) 0 0 [.ref (ad 0), .int x, .long y] (gX g ad ka ua sa now gr mo re bgn lin rfd rnd mB mb ms mt kept np cl cf tn tf dl df sdf cnf cbf mkf ++ (tl 4 ka (kE kb num rep) ++ (tl 4 kb (bE g kf) ++ (tl 8 ua (uE uto ufi use) ++ (tl 8 sa (sE sop sow sid sbe sla) ++ []))))) (Ri g (fun (v : Int32) (u : Unit) => (∃ k, k < 8 ∧ v = nI k ∧ nfP sop sow sid x y k ∧ ∀ j, j < k → ¬ nfP sop sow sid x y j) ∨ (v = (-1) ∧ ∀ j, j < 8 → ¬ nfP sop sow sid x y j)) (fun (u : Unit) => (gX g ad ka ua sa now gr mo re bgn lin rfd rnd mB mb ms mt kept np cl cf tn tf dl df sdf cnf cbf mkf ++ (tl 4 ka (kE kb num rep) ++ (tl 4 kb (bE g kf) ++ (tl 8 ua (uE uto ufi use) ++ (tl 8 sa (sE sop sow sid sbe sla) ++ []))))))) := by
  refine mkC (by decide) (Nat.le_of_ble_eq_true rfl) ?_
  intro p e s m args below meth c A ls QQ F hr hlk hnm hQ hw hl
  have hx := F.1
  have hb := F.2.1
  replace hl : lv_has ls 5 [(0, .ref (ad 0)), (1, .int x), (2, .long y)] := hl
  refine lv_iconst (v := nI 0) hx hb dX7_numberOf_0 (by decide) ?_
  refine lv_istore (lv' := [(4, .int (nI 0)), (0, .ref (ad 0)), (1, .int x), (2, .long y)]) hx hb dX7_numberOf_1 hl (by decide) rfl (fun ls hl => ?_)
  have L_3 : ∀ (nn k : Nat), k ≤ 8 → 8 < k + nn → ∀ (H : Heap) (locs : List Loc) (ls : Array Slot), (∀ j, j < k → ¬ nfP sop sow sid x y j) → Wd g s A H locs (gX g ad ka ua sa now gr mo re bgn lin rfd rnd mB mb ms mt kept np cl cf tn tf dl df sdf cnf cbf mkf ++ (tl 4 ka (kE kb num rep) ++ (tl 4 kb (bE g kf) ++ (tl 8 ua (uE uto ufi use) ++ (tl 8 sa (sE sop sow sid sbe sla) ++ []))))) → lv_has ls 5 [(0, .ref (ad 0)), (1, .int x), (2, .long y), (4, .int (nI k))] → W p l e (rmm 0 0) s m args below meth c H locs 0 0 QQ (F0 m 3 ls []) := by
    intro nn
    induction nn with
    | zero => intro k h1 h2; exact absurd h2 (by omega)
    | succ nn ih =>
      intro k hk_k hn_k H locs ls hi_k_0 hw hl
      refine lv_iload hx hb dX7_numberOf_3 (lv_at hl 3 rfl) ?_
      refine lv_bipush (v := nI 8) hx hb dX7_numberOf_5 (by decide) ?_
      refine n_ge (tgt := 61) hx hb (by omega) (by omega) dX7_numberOf_7 (by decide) (fun c_7 => ?_) (fun c_7 => ?_)
      · refine lv_iconst (v := (-1)) hx hb dX7_numberOf_61 (by decide) ?_
        exact rt_i F hr hlk hQ hw () (Or.inr ⟨rfl, fun j hj => hi_k_0 j (by omega)⟩) rfl dX7_numberOf_62
      · refine lv_aload_n hx hb dX7_numberOf_10 rfl (lv_at hl 0 rfl) ?_
        refine gf_X7_44 F hw 0 rfl rfl dX7_numberOf_11 ?_
        refine lv_iload hx hb dX7_numberOf_14 (lv_at hl 3 rfl) ?_
        refine ra_ld F hw 15 4 rfl rfl (by omega) (by omega) rfl dX7_numberOf_16 ?_
        refine gf_X7_163 F hw (36 + k) (tg4 rfl (by omega)) rfl dX7_numberOf_17 ?_
        refine lv_if_eq (tgt := 55) hx hb dX7_numberOf_20 (by decide) (fun c_20 => ?_) (fun c_20 => ?_)
        · refine lv_iinc (v := nI (k + 1)) (lv' := [(4, .int (nI (k + 1))), (0, .ref (ad 0)), (1, .int x), (2, .long y)]) hx hb dX7_numberOf_55 hl (k := 3) rfl (inc_n _ 1) (by decide) rfl (fun ls hl => ?_)
          refine lv_goto (tgt := 3) hx hb dX7_numberOf_58 (by decide) ?_
          exact ih (k + 1) (by omega) (by omega) _ _ _ (by first | exact lt_s hi_k_0 (fun h => h.1 c_20) | exact lt_s hi_k_0 (fun h => c_34 h.2.1) | exact lt_s hi_k_0 (fun h => c_48 h.2.2)) hw (lv_sub hl [1, 2, 3, 0] rfl)
        · refine lv_aload_n hx hb dX7_numberOf_23 rfl (lv_at hl 0 rfl) ?_
          refine gf_X7_44 F hw 0 rfl rfl dX7_numberOf_24 ?_
          refine lv_iload hx hb dX7_numberOf_27 (lv_at hl 3 rfl) ?_
          refine ra_ld F hw 15 4 rfl rfl (by omega) (by omega) rfl dX7_numberOf_29 ?_
          refine gf_X7_167 F hw (36 + k) (tg4 rfl (by omega)) rfl dX7_numberOf_30 ?_
          refine lv_iload_n hx hb dX7_numberOf_33 rfl (lv_at hl 1 rfl) ?_
          refine lv_icmp_ne (tgt := 55) hx hb dX7_numberOf_34 (by decide) (fun c_34 => ?_) (fun c_34 => ?_)
          · refine lv_iinc (v := nI (k + 1)) (lv' := [(4, .int (nI (k + 1))), (0, .ref (ad 0)), (1, .int x), (2, .long y)]) hx hb dX7_numberOf_55 hl (k := 3) rfl (inc_n _ 1) (by decide) rfl (fun ls hl => ?_)
            refine lv_goto (tgt := 3) hx hb dX7_numberOf_58 (by decide) ?_
            exact ih (k + 1) (by omega) (by omega) _ _ _ (by first | exact lt_s hi_k_0 (fun h => h.1 c_20) | exact lt_s hi_k_0 (fun h => c_34 h.2.1) | exact lt_s hi_k_0 (fun h => c_48 h.2.2)) hw (lv_sub hl [1, 2, 3, 0] rfl)
          · refine lv_aload_n hx hb dX7_numberOf_37 rfl (lv_at hl 0 rfl) ?_
            refine gf_X7_44 F hw 0 rfl rfl dX7_numberOf_38 ?_
            refine lv_iload hx hb dX7_numberOf_41 (lv_at hl 3 rfl) ?_
            refine ra_ld F hw 15 4 rfl rfl (by omega) (by omega) rfl dX7_numberOf_43 ?_
            refine gf_X7_201 F hw (36 + k) (tg4 rfl (by omega)) rfl dX7_numberOf_44 ?_
            refine lv_lload_n hx hb dX7_numberOf_47 rfl (lv_at hl 2 rfl) ?_
            refine lc_ne (tgt := 55) hx hb dX7_numberOf_48 dX7_numberOf_49 (by decide) (fun c_48 => ?_) (fun c_48 => ?_)
            · refine lv_iinc (v := nI (k + 1)) (lv' := [(4, .int (nI (k + 1))), (0, .ref (ad 0)), (1, .int x), (2, .long y)]) hx hb dX7_numberOf_55 hl (k := 3) rfl (inc_n _ 1) (by decide) rfl (fun ls hl => ?_)
              refine lv_goto (tgt := 3) hx hb dX7_numberOf_58 (by decide) ?_
              exact ih (k + 1) (by omega) (by omega) _ _ _ (by first | exact lt_s hi_k_0 (fun h => h.1 c_20) | exact lt_s hi_k_0 (fun h => c_34 h.2.1) | exact lt_s hi_k_0 (fun h => c_48 h.2.2)) hw (lv_sub hl [1, 2, 3, 0] rfl)
            · refine lv_iload hx hb dX7_numberOf_52 (lv_at hl 3 rfl) ?_
              exact rt_i F hr hlk hQ hw () (Or.inl ⟨k, by omega, rfl, ⟨c_20, c_34, c_48⟩, hi_k_0⟩) rfl dX7_numberOf_54
  exact L_3 (8 + 1) 0 (by omega) (by omega) _ _ _ (fun i h => absurd h (Nat.not_lt_zero i)) hw (lv_sub hl [1, 2, 3, 0] rfl)
set_option maxHeartbeats 4000000 in
set_option maxRecDepth 100000 in
theorem c_X7_tally (g : GG) (l : Launch) (ad : Nat → Nat) (ka : Nat → Nat) (kb : Nat → Nat) (ua : Nat → Nat) (sa : Nat → Nat) (now : Int64) (gr : Int64) (mo : Int64) (re : Int64) (bgn : Int32) (lin : Int32) (rfd : Int32) (rnd : Int32) (mB : Nat → Int32) (mb : Nat → Int32) (ms : Nat → Int32) (mt : Nat → Int32) (kept : Nat) (np : Nat) (cl : Nat) (cf : Nat → Int32) (tn : Nat) (tf : Nat → Int32) (dl : Nat) (df : Nat → Int32) (sdf : Nat → Int32) (cnf : Nat → Int32) (cbf : Nat → Int32) (mkf : Nat → Int32) (num : Nat → Int32) (rep : Nat → Int64) (kf : Nat → Nat → Int32) (uto : Nat → Int32) (ufi : Nat → Int32) (use : Nat → Int32) (sop : Nat → Int32) (sow : Nat → Int32) (sid : Nat → Int64) (sbe : Nat → Int64) (sla : Nat → Int64) (x : Int32) : Ct g l yX7_tally cX7_tally 2 none 0 0 [.ref (ad 0), .int x] (gX g ad ka ua sa now gr mo re bgn lin rfd rnd mB mb ms mt kept np cl cf tn tf dl df sdf cnf cbf mkf ++ (tl 4 ka (kE kb num rep) ++ (tl 4 kb (bE g kf) ++ (tl 8 ua (uE uto ufi use) ++ (tl 8 sa (sE sop sow sid sbe sla) ++ []))))) (Rv g (fun (u : Int32 × Int32) => u = if x < 0 then (lin, rfd + nI 1) else (lin + nI 1, rfd)) (fun (u : Int32 × Int32) => (gX g ad ka ua sa now gr mo re bgn u.1 u.2 rnd mB mb ms mt kept np cl cf tn tf dl df sdf cnf cbf mkf ++ (tl 4 ka (kE kb num rep) ++ (tl 4 kb (bE g kf) ++ (tl 8 ua (uE uto ufi use) ++ (tl 8 sa (sE sop sow sid sbe sla) ++ []))))))) := by
  refine mkC (by decide) (Nat.le_of_ble_eq_true rfl) ?_
  intro p e s m args below meth c A ls QQ F hr hlk hnm hQ hw hl
  have hx := F.1
  have hb := F.2.1
  replace hl : lv_has ls 2 [(0, .ref (ad 0)), (1, .int x)] := hl
  refine lv_iload_n hx hb dX7_tally_0 rfl (lv_at hl 1 rfl) ?_
  refine lv_if_lt (tgt := 17) hx hb dX7_tally_1 (by decide) (fun c_1 => ?_) (fun c_1 => ?_)
  · refine lv_aload_n hx hb dX7_tally_17 rfl (lv_at hl 0 rfl) ?_
    refine lv_dup hx hb dX7_tally_18 rfl ?_
    refine gf_X7_83 F hw 0 rfl rfl dX7_tally_19 ?_
    refine lv_iconst (v := nI 1) hx hb dX7_tally_22 (by decide) ?_
    refine lv_iadd hx hb dX7_tally_23 ?_
    refine pf_X7_83 F hw 0 rfl (Nat.le_of_ble_eq_true rfl) rfl rfl dX7_tally_24 (fun H locs hw => ?_)
    replace hw : Wd g s A H locs (gX g ad ka ua sa now gr mo re bgn lin (rfd + (nI 1)) rnd mB mb ms mt kept np cl cf tn tf dl df sdf cnf cbf mkf ++ (tl 4 ka (kE kb num rep) ++ (tl 4 kb (bE g kf) ++ (tl 8 ua (uE uto ufi use) ++ (tl 8 sa (sE sop sow sid sbe sla) ++ []))))) := hw
    exact rt_v F hr hlk hQ hw (lin, (rfd + (nI 1))) (by simp only [c_1, if_true, if_false]) rfl dX7_tally_27
  · refine lv_aload_n hx hb dX7_tally_4 rfl (lv_at hl 0 rfl) ?_
    refine lv_dup hx hb dX7_tally_5 rfl ?_
    refine gf_X7_80 F hw 0 rfl rfl dX7_tally_6 ?_
    refine lv_iconst (v := nI 1) hx hb dX7_tally_9 (by decide) ?_
    refine lv_iadd hx hb dX7_tally_10 ?_
    refine pf_X7_80 F hw 0 rfl (Nat.le_of_ble_eq_true rfl) rfl rfl dX7_tally_11 (fun H locs hw => ?_)
    replace hw : Wd g s A H locs (gX g ad ka ua sa now gr mo re bgn (lin + (nI 1)) rfd rnd mB mb ms mt kept np cl cf tn tf dl df sdf cnf cbf mkf ++ (tl 4 ka (kE kb num rep) ++ (tl 4 kb (bE g kf) ++ (tl 8 ua (uE uto ufi use) ++ (tl 8 sa (sE sop sow sid sbe sla) ++ []))))) := hw
    refine lv_goto (tgt := 27) hx hb dX7_tally_14 (by decide) ?_
    exact rt_v F hr hlk hQ hw ((lin + (nI 1)), rfd) (by simp only [c_1, if_true, if_false]) rfl dX7_tally_27
def tkm (cbf : Nat → Int32) (j : Nat) : Int32 := if j = 0 then nI 84 else cbf (j - 1)
/-- the token's signs of a body under a key -/
def tkS (kf cbf : Nat → Int32) (j : Nat) : Int32 := kA (ecx (hmac kf 16 (tkm cbf) 11) 9 j)
theorem ecx_congr {fb fb' : Nat → Int32} {len k : Nat} (h : ∀ j, j < len → fb j = fb' j) (hk : 6 * k / 8 < len) : ecx fb len k = ecx fb' len k := by
  unfold ecx
  rw [h _ hk]
  by_cases h1 : 6 * k / 8 + 1 < len
  · simp only [h1, if_true, h _ h1]
  · simp only [h1, if_false]
theorem kA_lt : ∀ k, k < 64 → (kA k).toBitVec.toNat < 256 := by decide +kernel
theorem encF_B {fb : Nat → Int32} {len : Nat} {f : Nat → Int32} (hf : isB f) : ∀ k, isB (encF fb len f k) := by
  intro k
  induction k with
  | zero => exact hf
  | succ k ih =>
    intro i hi
    show (upd (encF fb len f k) k (kA (ecx fb len k)) i).toBitVec.toNat < 256
    by_cases e : i = k
    · subst e; rw [upd_s]; exact kA_lt _ (ecx_lt _ _ _)
    · rw [upd_n _ _ e]; exact ih i hi
theorem tk_of {kf cbf mkf u tf : Nat → Int32} (q : ∀ j, j < 32 → u j = hmac kf 16 (va_cpy cbf (upd mkf 0 (nI 84)) 0 1 10) 11 j) : ∀ j, j < 12 → encF u 9 tf ((8 * 9 + 5) / 6) j = tkS kf cbf j := by
  intro j hj
  rw [encF_get _ _ _ _ j (by omega)]
  unfold tkS
  congr 1
  refine ecx_congr (fun i hi => ?_) (by omega)
  rw [q i (by omega)]
  refine hmac_congr (fun i hi => ?_) i (by omega)
  unfold tkm
  by_cases e : i = 0
  · subst e; rw [if_pos rfl, pk_cpy_out (by omega)]; exact upd_s _ _ _
  · rw [if_neg e, pk_cpy_in (by omega) (by omega)]; congr 1; omega
set_option maxHeartbeats 4000000 in
set_option maxRecDepth 100000 in
theorem c_X7_writeToken_t (g : GG) (l : Launch) (ad : Nat → Nat) (ka : Nat → Nat) (kb : Nat → Nat) (ua : Nat → Nat) (sa : Nat → Nat) (now : Int64) (gr : Int64) (mo : Int64) (re : Int64) (bgn : Int32) (lin : Int32) (rfd : Int32) (rnd : Int32) (mB : Nat → Int32) (mb : Nat → Int32) (ms : Nat → Int32) (mt : Nat → Int32) (kept : Nat) (np : Nat) (cl : Nat) (cf : Nat → Int32) (tn : Nat) (tf : Nat → Int32) (dl : Nat) (df : Nat → Int32) (sdf : Nat → Int32) (cnf : Nat → Int32) (cbf : Nat → Int32) (mkf : Nat → Int32) (num : Nat → Int32) (rep : Nat → Int64) (kf : Nat → Nat → Int32) (uto : Nat → Int32) (ufi : Nat → Int32) (use : Nat → Int32) (sop : Nat → Int32) (sow : Nat → Int32) (sid : Nat → Int64) (sbe : Nat → Int64) (sla : Nat → Int64) (k : Nat) (hk : k < 4) : Ct g l yX7_writeToken cX7_writeToken 3 none 5 113 [.ref (ad 0), .ref (ka k), .ref (ad 10)] (gX g ad ka ua sa now gr mo re bgn lin rfd rnd mB mb ms mt kept np cl cf tn tf dl df sdf cnf cbf mkf ++ (tl 4 ka (kE kb num rep) ++ (tl 4 kb (bE g kf) ++ (tl 8 ua (uE uto ufi use) ++ (tl 8 sa (sE sop sow sid sbe sla) ++ []))))) (Rv g (fun (u : (Nat → Int32) × (Nat → Int32) × (Nat → Int32) × (Nat → Int32) × (Nat → Int32) × (Nat → Int32)) => (∀ j, j < 12 → u.2.2.2.2.2 j = tkS (kf k) cbf j) ∧ (isB tf → isB u.2.2.2.2.2)) (fun (u : (Nat → Int32) × (Nat → Int32) × (Nat → Int32) × (Nat → Int32) × (Nat → Int32) × (Nat → Int32)) => (gX g ad ka ua sa now gr mo re bgn lin rfd rnd u.1 u.2.1 u.2.2.1 u.2.2.2.1 kept np cl cf 12 u.2.2.2.2.2 dl df sdf cnf cbf u.2.2.2.2.1 ++ (tl 4 ka (kE kb num rep) ++ (tl 4 kb (bE g kf) ++ (tl 8 ua (uE uto ufi use) ++ (tl 8 sa (sE sop sow sid sbe sla) ++ []))))))) := by
  refine mkC (by decide) (Nat.le_of_ble_eq_true rfl) ?_
  intro p e s m args below meth c A ls QQ F hr hlk hnm hQ hw hl
  have hx := F.1
  have hb := F.2.1
  replace hl : lv_has ls 3 [(0, .ref (ad 0)), (1, .ref (ka k)), (2, .ref (ad 10))] := hl
  refine lv_aload_n hx hb dX7_writeToken_0 rfl (lv_at hl 0 rfl) ?_
  refine gf_X7_58 F hw 0 rfl rfl dX7_writeToken_1 ?_
  refine lv_iconst (v := nI 0) hx hb dX7_writeToken_4 (by decide) ?_
  refine lv_bipush (v := nI 84) hx hb dX7_writeToken_5 (by decide) ?_
  refine ia_st F hw 19 rfl (by omega) (by omega) dX7_writeToken_7 (fun H locs hw => ?_)
  replace hw : Wd g s A H locs (gX g ad ka ua sa now gr mo re bgn lin rfd rnd mB mb ms mt kept np cl cf tn tf dl df sdf cnf cbf (upd mkf 0 (nI 84)) ++ (tl 4 ka (kE kb num rep) ++ (tl 4 kb (bE g kf) ++ (tl 8 ua (uE uto ufi use) ++ (tl 8 sa (sE sop sow sid sbe sla) ++ []))))) := hw
  refine lv_aload_n hx hb dX7_writeToken_8 rfl (lv_at hl 0 rfl) ?_
  refine gf_X7_55 F hw 0 rfl rfl dX7_writeToken_9 ?_
  refine lv_iconst (v := nI 0) hx hb dX7_writeToken_12 (by decide) ?_
  refine lv_aload_n hx hb dX7_writeToken_13 rfl (lv_at hl 0 rfl) ?_
  refine gf_X7_58 F hw 0 rfl rfl dX7_writeToken_14 ?_
  refine lv_iconst (v := nI 1) hx hb dX7_writeToken_17 (by decide) ?_
  refine lv_bipush (v := nI 10) hx hb dX7_writeToken_18 (by decide) ?_
  refine cp_I bg_16_7 F hw 18 19 rfl rfl (by omega) (by omega) (by omega) (by omega) hl.1 (by decide) (by decide) dX7_writeToken_20 (fun H locs hw => ?_)
  replace hw : Wd g s A H locs (gX g ad ka ua sa now gr mo re bgn lin rfd rnd mB mb ms mt kept np cl cf tn tf dl df sdf cnf cbf (va_cpy cbf (upd mkf 0 (nI 84)) 0 1 10) ++ (tl 4 ka (kE kb num rep) ++ (tl 4 kb (bE g kf) ++ (tl 8 ua (uE uto ufi use) ++ (tl 8 sa (sE sop sow sid sbe sla) ++ []))))) := hw
  refine lv_aload_n hx hb dX7_writeToken_23 rfl (lv_at hl 0 rfl) ?_
  refine gf_X7_10 F hw 0 rfl rfl dX7_writeToken_24 ?_
  refine lv_aload_n hx hb dX7_writeToken_27 rfl (lv_at hl 1 rfl) ?_
  refine gf_X7_214 F hw (20 + k) (tg1 rfl (by omega)) rfl dX7_writeToken_28 ?_
  refine lv_aload_n hx hb dX7_writeToken_31 rfl (lv_at hl 0 rfl) ?_
  refine gf_X7_58 F hw 0 rfl rfl dX7_writeToken_32 ?_
  refine lv_bipush (v := nI 11) hx hb dX7_writeToken_35 (by decide) ?_
  have hC9 : List.map (fun zz9 : Nat => ((gX g ad ka ua sa now gr mo re bgn lin rfd rnd mB mb ms mt kept np cl cf tn tf dl df sdf cnf cbf (va_cpy cbf (upd mkf 0 (nI 84)) 0 1 10) ++ (tl 4 ka (kE kb num rep) ++ (tl 4 kb (bE g kf) ++ (tl 8 ua (uE uto ufi use) ++ (tl 8 sa (sE sop sow sid sbe sla) ++ []))))))[zz9]?) [1, 2, 3, 4, 5, 19, (24 + k)] = List.map some [(ad 1, .inr (2, [.ref (ad 2), .ref (ad 3), .ref (ad 4), .ref (ad 5)])), (ad 2, iA g 32 mB), (ad 3, iA g 128 mb), (ad 4, iA g 64 ms), (ad 5, iA g 8 mt), (ad 19, iA g 11 (va_cpy cbf (upd mkf 0 (nI 84)) 0 1 10)), (kb k, iA g 16 (kf k))] := (l_c rfl (l_c rfl (l_c rfl (l_c rfl (l_c rfl (l_c rfl (l_c (tg2 rfl (by omega)) rfl)))))))
  refine cl_v hw [1, 2, 3, 4, 5, 19, (24 + k)] hC9 (rn_V F hw (c_X3_compute g l (ad 1) (ad 2) (ad 3) (ad 4) (ad 5) (kb k) (ad 19) 16 11 mB mb ms mt (kf k) (va_cpy cbf (upd mkf 0 (nI 84)) 0 1 10) 11 (by omega) (by omega) (by omega) (by omega)) (cw_X7_217 F.2.2.2.2 ⟨by decide, by decide⟩) [1, 2, 3, 4, 5, 19, (24 + k)] (by simp [va_nd] <;> omega) hC9 1 rfl rfl rfl hl.1 rfl (Nat.le_of_ble_eq_true rfl) dX7_writeToken_37 ⟨Nat.zero_le _, Nat.zero_le _⟩) (fun _ => rfl) (fun u_1 H locs hp_3 hw => ?_)
  replace hw : Wd g s A H locs (List.set (gX g ad ka ua sa now gr mo re bgn lin rfd rnd u_1.1 u_1.2.1 u_1.2.2.1 u_1.2.2.2 kept np cl cf tn tf dl df sdf cnf cbf (va_cpy cbf (upd mkf 0 (nI 84)) 0 1 10) ++ (tl 4 ka (kE kb num rep) ++ (tl 4 kb (bE g kf) ++ (tl 8 ua (uE uto ufi use) ++ (tl 8 sa (sE sop sow sid sbe sla) ++ []))))) (24 + k) (kb k, iA g 16 (kf k))) := hw
  replace hw : Wd g s A H locs (gX g ad ka ua sa now gr mo re bgn lin rfd rnd u_1.1 u_1.2.1 u_1.2.2.1 u_1.2.2.2 kept np cl cf tn tf dl df sdf cnf cbf (va_cpy cbf (upd mkf 0 (nI 84)) 0 1 10) ++ (tl 4 ka (kE kb num rep) ++ (tl 4 kb (bE g kf) ++ (tl 8 ua (uE uto ufi use) ++ (tl 8 sa (sE sop sow sid sbe sla) ++ []))))) := wd_eq (ts2 rfl (by omega) (by funext z; by_cases hz : z = k <;> simp [va_up, bE, upd, vp_updL, hz])) hw
  have q1 := hp_3
  refine lv_aload_n hx hb dX7_writeToken_40 rfl (lv_at hl 0 rfl) ?_
  refine gf_X7_10 F hw 0 rfl rfl dX7_writeToken_41 ?_
  refine gf_X7_221 F hw 1 rfl rfl dX7_writeToken_44 ?_
  refine lv_bipush (v := nI 9) hx hb dX7_writeToken_47 (by decide) ?_
  refine lv_aload_n hx hb dX7_writeToken_49 rfl (lv_at hl 2 rfl) ?_
  refine cl_v hw [2, 10, 11] rfl (rn_S F hw (c_X0_encode g l (ad 2) (ad 10) (ad 11) 32 u_1.1 tf tn 9 (by omega) (by omega) (by omega)) (cw_X7_267 F.2.2.2.2 ⟨by decide, by decide⟩) [2, 10, 11] (by decide) rfl hl.1 rfl (Nat.le_of_ble_eq_true rfl) dX7_writeToken_50 ⟨Nat.zero_le _, Nat.zero_le _⟩) (fun _ => rfl) (fun u_4 H locs hp_6 hw => ?_)
  replace hw : Wd g s A H locs (gX g ad ka ua sa now gr mo re bgn lin rfd rnd u_1.1 u_1.2.1 u_1.2.2.1 u_1.2.2.2 kept np cl cf ((8 * 9 + 5) / 6) (encF u_1.1 9 tf ((8 * 9 + 5) / 6)) dl df sdf cnf cbf (va_cpy cbf (upd mkf 0 (nI 84)) 0 1 10) ++ (tl 4 ka (kE kb num rep) ++ (tl 4 kb (bE g kf) ++ (tl 8 ua (uE uto ufi use) ++ (tl 8 sa (sE sop sow sid sbe sla) ++ []))))) := hw
  exact rt_v F hr hlk hQ hw (u_1.1, u_1.2.1, u_1.2.2.1, u_1.2.2.2, (va_cpy cbf (upd mkf 0 (nI 84)) 0 1 10), encF u_1.1 9 tf ((8 * 9 + 5) / 6)) (⟨tk_of q1, fun h => encF_B h _⟩) rfl dX7_writeToken_53
set_option maxHeartbeats 4000000 in
set_option maxRecDepth 100000 in
theorem c_X7_writeToken_d (g : GG) (l : Launch) (ad : Nat → Nat) (ka : Nat → Nat) (kb : Nat → Nat) (ua : Nat → Nat) (sa : Nat → Nat) (now : Int64) (gr : Int64) (mo : Int64) (re : Int64) (bgn : Int32) (lin : Int32) (rfd : Int32) (rnd : Int32) (mB : Nat → Int32) (mb : Nat → Int32) (ms : Nat → Int32) (mt : Nat → Int32) (kept : Nat) (np : Nat) (cl : Nat) (cf : Nat → Int32) (tn : Nat) (tf : Nat → Int32) (dl : Nat) (df : Nat → Int32) (sdf : Nat → Int32) (cnf : Nat → Int32) (cbf : Nat → Int32) (mkf : Nat → Int32) (num : Nat → Int32) (rep : Nat → Int64) (kf : Nat → Nat → Int32) (uto : Nat → Int32) (ufi : Nat → Int32) (use : Nat → Int32) (sop : Nat → Int32) (sow : Nat → Int32) (sid : Nat → Int64) (sbe : Nat → Int64) (sla : Nat → Int64) (k : Nat) (hk : k < 4) : Ct g l yX7_writeToken cX7_writeToken 3 none 5 113 [.ref (ad 0), .ref (ka k), .ref (ad 12)] (gX g ad ka ua sa now gr mo re bgn lin rfd rnd mB mb ms mt kept np cl cf tn tf dl df sdf cnf cbf mkf ++ (tl 4 ka (kE kb num rep) ++ (tl 4 kb (bE g kf) ++ (tl 8 ua (uE uto ufi use) ++ (tl 8 sa (sE sop sow sid sbe sla) ++ []))))) (Rv g (fun (u : (Nat → Int32) × (Nat → Int32) × (Nat → Int32) × (Nat → Int32) × (Nat → Int32) × (Nat → Int32)) => (∀ j, j < 12 → u.2.2.2.2.2 j = tkS (kf k) cbf j) ∧ (isB df → isB u.2.2.2.2.2)) (fun (u : (Nat → Int32) × (Nat → Int32) × (Nat → Int32) × (Nat → Int32) × (Nat → Int32) × (Nat → Int32)) => (gX g ad ka ua sa now gr mo re bgn lin rfd rnd u.1 u.2.1 u.2.2.1 u.2.2.2.1 kept np cl cf tn tf 12 u.2.2.2.2.2 sdf cnf cbf u.2.2.2.2.1 ++ (tl 4 ka (kE kb num rep) ++ (tl 4 kb (bE g kf) ++ (tl 8 ua (uE uto ufi use) ++ (tl 8 sa (sE sop sow sid sbe sla) ++ []))))))) := by
  refine mkC (by decide) (Nat.le_of_ble_eq_true rfl) ?_
  intro p e s m args below meth c A ls QQ F hr hlk hnm hQ hw hl
  have hx := F.1
  have hb := F.2.1
  replace hl : lv_has ls 3 [(0, .ref (ad 0)), (1, .ref (ka k)), (2, .ref (ad 12))] := hl
  refine lv_aload_n hx hb dX7_writeToken_0 rfl (lv_at hl 0 rfl) ?_
  refine gf_X7_58 F hw 0 rfl rfl dX7_writeToken_1 ?_
  refine lv_iconst (v := nI 0) hx hb dX7_writeToken_4 (by decide) ?_
  refine lv_bipush (v := nI 84) hx hb dX7_writeToken_5 (by decide) ?_
  refine ia_st F hw 19 rfl (by omega) (by omega) dX7_writeToken_7 (fun H locs hw => ?_)
  replace hw : Wd g s A H locs (gX g ad ka ua sa now gr mo re bgn lin rfd rnd mB mb ms mt kept np cl cf tn tf dl df sdf cnf cbf (upd mkf 0 (nI 84)) ++ (tl 4 ka (kE kb num rep) ++ (tl 4 kb (bE g kf) ++ (tl 8 ua (uE uto ufi use) ++ (tl 8 sa (sE sop sow sid sbe sla) ++ []))))) := hw
  refine lv_aload_n hx hb dX7_writeToken_8 rfl (lv_at hl 0 rfl) ?_
  refine gf_X7_55 F hw 0 rfl rfl dX7_writeToken_9 ?_
  refine lv_iconst (v := nI 0) hx hb dX7_writeToken_12 (by decide) ?_
  refine lv_aload_n hx hb dX7_writeToken_13 rfl (lv_at hl 0 rfl) ?_
  refine gf_X7_58 F hw 0 rfl rfl dX7_writeToken_14 ?_
  refine lv_iconst (v := nI 1) hx hb dX7_writeToken_17 (by decide) ?_
  refine lv_bipush (v := nI 10) hx hb dX7_writeToken_18 (by decide) ?_
  refine cp_I bg_16_7 F hw 18 19 rfl rfl (by omega) (by omega) (by omega) (by omega) hl.1 (by decide) (by decide) dX7_writeToken_20 (fun H locs hw => ?_)
  replace hw : Wd g s A H locs (gX g ad ka ua sa now gr mo re bgn lin rfd rnd mB mb ms mt kept np cl cf tn tf dl df sdf cnf cbf (va_cpy cbf (upd mkf 0 (nI 84)) 0 1 10) ++ (tl 4 ka (kE kb num rep) ++ (tl 4 kb (bE g kf) ++ (tl 8 ua (uE uto ufi use) ++ (tl 8 sa (sE sop sow sid sbe sla) ++ []))))) := hw
  refine lv_aload_n hx hb dX7_writeToken_23 rfl (lv_at hl 0 rfl) ?_
  refine gf_X7_10 F hw 0 rfl rfl dX7_writeToken_24 ?_
  refine lv_aload_n hx hb dX7_writeToken_27 rfl (lv_at hl 1 rfl) ?_
  refine gf_X7_214 F hw (20 + k) (tg1 rfl (by omega)) rfl dX7_writeToken_28 ?_
  refine lv_aload_n hx hb dX7_writeToken_31 rfl (lv_at hl 0 rfl) ?_
  refine gf_X7_58 F hw 0 rfl rfl dX7_writeToken_32 ?_
  refine lv_bipush (v := nI 11) hx hb dX7_writeToken_35 (by decide) ?_
  have hC9 : List.map (fun zz9 : Nat => ((gX g ad ka ua sa now gr mo re bgn lin rfd rnd mB mb ms mt kept np cl cf tn tf dl df sdf cnf cbf (va_cpy cbf (upd mkf 0 (nI 84)) 0 1 10) ++ (tl 4 ka (kE kb num rep) ++ (tl 4 kb (bE g kf) ++ (tl 8 ua (uE uto ufi use) ++ (tl 8 sa (sE sop sow sid sbe sla) ++ []))))))[zz9]?) [1, 2, 3, 4, 5, 19, (24 + k)] = List.map some [(ad 1, .inr (2, [.ref (ad 2), .ref (ad 3), .ref (ad 4), .ref (ad 5)])), (ad 2, iA g 32 mB), (ad 3, iA g 128 mb), (ad 4, iA g 64 ms), (ad 5, iA g 8 mt), (ad 19, iA g 11 (va_cpy cbf (upd mkf 0 (nI 84)) 0 1 10)), (kb k, iA g 16 (kf k))] := (l_c rfl (l_c rfl (l_c rfl (l_c rfl (l_c rfl (l_c rfl (l_c (tg2 rfl (by omega)) rfl)))))))
  refine cl_v hw [1, 2, 3, 4, 5, 19, (24 + k)] hC9 (rn_V F hw (c_X3_compute g l (ad 1) (ad 2) (ad 3) (ad 4) (ad 5) (kb k) (ad 19) 16 11 mB mb ms mt (kf k) (va_cpy cbf (upd mkf 0 (nI 84)) 0 1 10) 11 (by omega) (by omega) (by omega) (by omega)) (cw_X7_217 F.2.2.2.2 ⟨by decide, by decide⟩) [1, 2, 3, 4, 5, 19, (24 + k)] (by simp [va_nd] <;> omega) hC9 1 rfl rfl rfl hl.1 rfl (Nat.le_of_ble_eq_true rfl) dX7_writeToken_37 ⟨Nat.zero_le _, Nat.zero_le _⟩) (fun _ => rfl) (fun u_1 H locs hp_3 hw => ?_)
  replace hw : Wd g s A H locs (List.set (gX g ad ka ua sa now gr mo re bgn lin rfd rnd u_1.1 u_1.2.1 u_1.2.2.1 u_1.2.2.2 kept np cl cf tn tf dl df sdf cnf cbf (va_cpy cbf (upd mkf 0 (nI 84)) 0 1 10) ++ (tl 4 ka (kE kb num rep) ++ (tl 4 kb (bE g kf) ++ (tl 8 ua (uE uto ufi use) ++ (tl 8 sa (sE sop sow sid sbe sla) ++ []))))) (24 + k) (kb k, iA g 16 (kf k))) := hw
  replace hw : Wd g s A H locs (gX g ad ka ua sa now gr mo re bgn lin rfd rnd u_1.1 u_1.2.1 u_1.2.2.1 u_1.2.2.2 kept np cl cf tn tf dl df sdf cnf cbf (va_cpy cbf (upd mkf 0 (nI 84)) 0 1 10) ++ (tl 4 ka (kE kb num rep) ++ (tl 4 kb (bE g kf) ++ (tl 8 ua (uE uto ufi use) ++ (tl 8 sa (sE sop sow sid sbe sla) ++ []))))) := wd_eq (ts2 rfl (by omega) (by funext z; by_cases hz : z = k <;> simp [va_up, bE, upd, vp_updL, hz])) hw
  have q1 := hp_3
  refine lv_aload_n hx hb dX7_writeToken_40 rfl (lv_at hl 0 rfl) ?_
  refine gf_X7_10 F hw 0 rfl rfl dX7_writeToken_41 ?_
  refine gf_X7_221 F hw 1 rfl rfl dX7_writeToken_44 ?_
  refine lv_bipush (v := nI 9) hx hb dX7_writeToken_47 (by decide) ?_
  refine lv_aload_n hx hb dX7_writeToken_49 rfl (lv_at hl 2 rfl) ?_
  refine cl_v hw [2, 12, 13] rfl (rn_S F hw (c_X0_encode g l (ad 2) (ad 12) (ad 13) 32 u_1.1 df dl 9 (by omega) (by omega) (by omega)) (cw_X7_267 F.2.2.2.2 ⟨by decide, by decide⟩) [2, 12, 13] (by decide) rfl hl.1 rfl (Nat.le_of_ble_eq_true rfl) dX7_writeToken_50 ⟨Nat.zero_le _, Nat.zero_le _⟩) (fun _ => rfl) (fun u_4 H locs hp_6 hw => ?_)
  replace hw : Wd g s A H locs (gX g ad ka ua sa now gr mo re bgn lin rfd rnd u_1.1 u_1.2.1 u_1.2.2.1 u_1.2.2.2 kept np cl cf tn tf ((8 * 9 + 5) / 6) (encF u_1.1 9 df ((8 * 9 + 5) / 6)) sdf cnf cbf (va_cpy cbf (upd mkf 0 (nI 84)) 0 1 10) ++ (tl 4 ka (kE kb num rep) ++ (tl 4 kb (bE g kf) ++ (tl 8 ua (uE uto ufi use) ++ (tl 8 sa (sE sop sow sid sbe sla) ++ []))))) := hw
  exact rt_v F hr hlk hQ hw (u_1.1, u_1.2.1, u_1.2.2.1, u_1.2.2.2, (va_cpy cbf (upd mkf 0 (nI 84)) 0 1 10), encF u_1.1 9 df ((8 * 9 + 5) / 6)) (⟨tk_of q1, fun h => encF_B h _⟩) rfl dX7_writeToken_53
