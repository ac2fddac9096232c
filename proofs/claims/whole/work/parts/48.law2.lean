section LW
variable {p : Program} {l : Launch} {e : Env} {s : State} {m : MethodId} {below : List Frame} {meth : Method} {c : Code} {g : GG} {ad ka kb ua sa md : Nat → Nat} {oa b L i n : Nat} {xs : Nat → Int32} {Q : State → Prop} {H : Heap} {locs : List Loc} {cells slots : Nat} {ls : Array Slot}
variable {now : Int64} {gr : Int64} {mo : Int64} {re : Int64} {bgn : Int32} {lin : Int32} {rfd : Int32} {rnd : Int32} {mB : Nat → Int32} {mb : Nat → Int32} {ms : Nat → Int32} {mt : Nat → Int32} {kept : Nat} {np : Nat} {cl : Nat} {cf : Nat → Int32} {tn : Nat} {tf : Nat → Int32} {dl : Nat} {df : Nat → Int32} {sdf : Nat → Int32} {cnf : Nat → Int32} {cbf : Nat → Int32} {mkf : Nat → Int32} {num : Nat → Int32} {rep : Nat → Int64} {kf : Nat → Nat → Int32} {uto : Nat → Int32} {ufi : Nat → Int32} {use : Nat → Int32} {sop : Nat → Int32} {sow : Nat → Int32} {sid : Nat → Int64} {sbe : Nat → Int64} {sla : Nat → Int64} {mfa : Int32} {mmz : Nat} {msz : Nat} {msd : Int64} {mbg : Int64} {mka : Int32} {mta : Nat → Int32} {mwd : Nat → Int32} {mms : Nat → Int32} {mhs : Nat → Int32} {mke : Nat → Int32} {msa : Nat → Int32} {mkn : Nat → Int32} {mkb : Nat → Int32} {mku : Nat → Int64} {mit : Nat → Int32} {msi : Nat → Int32} {mtx : Nat → Int32} {mra : Nat → Int32} {fo : Nat → Int64}
set_option maxHeartbeats 4000000 in
set_option maxRecDepth 100000 in
theorem law_request (F : CallFix p m c cL_law 8 s #[Value.ref b] BIG RL) (hX : va_X b L xs s s.heap) (hbl : b < s.heap.size) (hL : L ≤ 3584) (hi : i + 7 ≤ L) (hn : n < 600) (hst : l.stackTraces = false) (hcs : cells + 1 ≤ room_1.cells ∧ slots + 6 ≤ room_1.slots)
    (kk : ∀ (th : Int32) (o : Int64) (Wo : va_W) (H : Heap) (locs : List Loc) (ls : Array Slot), Iv g ad ka kb ua sa md oa (n + 1) th o Wo → Wd g s (fun q : Nat => s.heap.size ≤ q) H locs Wo → lv_has ls 8 [(0, .ref b), (1, .ref (ad 0)), (2, .ref (md 0)), (3, .ref oa), (4, .int (nI i))] → W p l e room_1 s m #[Value.ref b] below meth c H locs (cells + 1) (slots + 6) Q (F0 m 1218 ls []))
    (hw : Wd g s (fun q : Nat => s.heap.size ≤ q) H locs (mX g md mfa mmz msz now gr mo re msd mbg kept lin rfd rnd mka mta mwd mms mhs mke msa mkn mkb mku uto ufi use mit sow sid sbe sla msi mtx mra ++ ([(oa, jA g 1 fo)] ++ (gX g ad ka ua sa now gr mo re bgn lin rfd rnd mB mb ms mt kept np cl cf tn tf dl df sdf cnf cbf mkf ++ (tl 4 ka (kE kb num rep) ++ (tl 4 kb (bE g kf) ++ (tl 8 ua (uE uto ufi use) ++ (tl 8 sa (sE sop sow sid sbe sla) ++ [])))))))) (hR : Rel n kept np num rep kf mkn mku mkb sop mit cl cf tn tf msi mtx sdf bgn msd mbg dl sow) (hl : lv_has ls 8 [(0, .ref b), (1, .ref (ad 0)), (2, .ref (md 0)), (3, .ref oa), (4, .int (nI i))]) : W p l e room_1 s m #[Value.ref b] below meth c H locs cells slots Q (F0 m 621 ls []) := by
  have hx := F.1
  have hb := F.2.1
  refine lv_aload_n hx hb dL_law_621 rfl (lv_at hl 1 rfl) ?_
  refine lv_aload_n hx hb dL_law_622 rfl (lv_at hl 0 rfl) ?_
  refine lv_iload hx hb dL_law_623 (lv_at hl 4 rfl) ?_
  refine lv_iconst (v := nI 1) hx hb dL_law_625 (by decide) ?_
  refine n_add hx hb dL_law_626 ?_
  refine sc_ld F hX hbl hw (show i + 1 < L by omega) hL dL_law_627 ?_
  refine lv_if_eq (tgt := 635) hx hb dL_law_628 (by decide) (fun c_628 => ?_) (fun c_628 => ?_)
  · skip
    refine lv_iconst (v := nI 0) hx hb dL_law_635 (by decide) ?_
    replace hw := wd_as hw
    refine cl_iR hw (rn_VR F hw (c_X7_request g l ad ka kb ua sa now gr mo re bgn lin rfd rnd mB mb ms mt kept np cl cf tn tf dl df sdf cnf cbf mkf num rep kf uto ufi use sop sow sid sbe sla (nI 0) hR.1.2.2.1 hR.1.2.1 hR.2.2.1.1 hR.2.2.1.2.1 hR.2.2.2.2.1 hR.2.2.1.2.2.1 hR.2.2.1.2.2.2.1) (cw_L_97 F.2.2.2.2 ⟨by decide, by decide⟩) 0 rfl rfl rfl hl.1 rfl (Nat.le_of_ble_eq_true rfl) dL_law_636 ⟨Nat.le_of_succ_le hcs.1, Nat.le_trans (Nat.le_add_right _ 6) hcs.2⟩) (fun v_1 u_1 H locs hp_1 hw => ?_)
    replace hw := wd_sa hw
    refine lv_aload_n hx hb dL_law_639 rfl (lv_at hl 2 rfl) ?_
    refine lv_aload_n hx hb dL_law_640 rfl (lv_at hl 0 rfl) ?_
    refine lv_iload hx hb dL_law_641 (lv_at hl 4 rfl) ?_
    refine lv_iconst (v := nI 1) hx hb dL_law_643 (by decide) ?_
    refine n_add hx hb dL_law_644 ?_
    refine sc_ld F hX hbl hw (show i + 1 < L by omega) hL dL_law_645 ?_
    refine lv_if_eq (tgt := 653) hx hb dL_law_646 (by decide) (fun c_646 => ?_) (fun c_646 => ?_)
    · skip
      refine lv_iconst (v := nI 0) hx hb dL_law_653 (by decide) ?_
      refine cl_iL hw (rn_VL F hw (c_X8_request g l md mfa mmz msz now gr mo re msd mbg kept lin rfd rnd mka mta mwd mms mhs mke msa mkn mkb mku uto ufi use mit sow sid sbe sla msi mtx mra (nI 0) cl tn hR.2.2.1.2.2.2.2.1 hR.2.2.1.2.2.2.2.2.1 hR.2.2.1.1 hR.2.2.1.2.1 (tr_B hR.2.2.1) hR.1.1 hR.1.2.1) (cw_L_101 F.2.2.2.2 ⟨by decide, by decide⟩) 0 rfl rfl rfl hl.1 rfl (Nat.le_of_ble_eq_true rfl) dL_law_654 ⟨Nat.le_of_succ_le hcs.1, Nat.le_trans (Nat.le_add_right _ 6) hcs.2⟩) (fun v_2 u_2 H locs hp_2 hw => ?_)
      obtain ⟨e1, th, o, hI⟩ := st_request (v := v_1) (v2 := v_2) (u := u_1) (u2 := u_2) hR hn hp_1 hp_2
      obtain ⟨now, gr, mo, re, bgn, lin, rfd, rnd, mB, mb, ms, mt, kept, np, cl, cf, tn, tf, dl, df, sdf, cnf, cbf, mkf, num, rep, kf, uto, ufi, use, sop, sow, sid, sbe, sla, mmz, msz, msd, mbg, mka, mta, mwd, mms, mhs, mke, msa, mkn, mkb, mku, mit, msi, mtx, mra, fo, hw, ho, hR⟩ := iv_wd hI hw
      refine lv_icmp_eq (tgt := 1218) hx hb dL_law_657 (by decide) (fun c_657 => ?_) (fun c_657 => ?_)
      · skip
        refine W.widen (k := cells + 1) (n := slots + 6) (by omega) (by omega) ?_
        exact kk _ _ _ _ _ _ (iv_mk ho hR) hw (lv_sub hl [0, 1, 2, 3, 4] rfl)
      · exact absurd e1 c_657
    · exact absurd c_628 c_646
  · skip
    refine lv_iconst (v := nI 1) hx hb dL_law_631 (by decide) ?_
    refine lv_goto (tgt := 636) hx hb dL_law_632 (by decide) ?_
    replace hw := wd_as hw
    refine cl_iR hw (rn_VR F hw (c_X7_request g l ad ka kb ua sa now gr mo re bgn lin rfd rnd mB mb ms mt kept np cl cf tn tf dl df sdf cnf cbf mkf num rep kf uto ufi use sop sow sid sbe sla (nI 1) hR.1.2.2.1 hR.1.2.1 hR.2.2.1.1 hR.2.2.1.2.1 hR.2.2.2.2.1 hR.2.2.1.2.2.1 hR.2.2.1.2.2.2.1) (cw_L_97 F.2.2.2.2 ⟨by decide, by decide⟩) 0 rfl rfl rfl hl.1 rfl (Nat.le_of_ble_eq_true rfl) dL_law_636 ⟨Nat.le_of_succ_le hcs.1, Nat.le_trans (Nat.le_add_right _ 6) hcs.2⟩) (fun v_1 u_1 H locs hp_1 hw => ?_)
    replace hw := wd_sa hw
    refine lv_aload_n hx hb dL_law_639 rfl (lv_at hl 2 rfl) ?_
    refine lv_aload_n hx hb dL_law_640 rfl (lv_at hl 0 rfl) ?_
    refine lv_iload hx hb dL_law_641 (lv_at hl 4 rfl) ?_
    refine lv_iconst (v := nI 1) hx hb dL_law_643 (by decide) ?_
    refine n_add hx hb dL_law_644 ?_
    refine sc_ld F hX hbl hw (show i + 1 < L by omega) hL dL_law_645 ?_
    refine lv_if_eq (tgt := 653) hx hb dL_law_646 (by decide) (fun c_646 => ?_) (fun c_646 => ?_)
    · exact absurd c_646 c_628
    · skip
      refine lv_iconst (v := nI 1) hx hb dL_law_649 (by decide) ?_
      refine lv_goto (tgt := 654) hx hb dL_law_650 (by decide) ?_
      refine cl_iL hw (rn_VL F hw (c_X8_request g l md mfa mmz msz now gr mo re msd mbg kept lin rfd rnd mka mta mwd mms mhs mke msa mkn mkb mku uto ufi use mit sow sid sbe sla msi mtx mra (nI 1) cl tn hR.2.2.1.2.2.2.2.1 hR.2.2.1.2.2.2.2.2.1 hR.2.2.1.1 hR.2.2.1.2.1 (tr_B hR.2.2.1) hR.1.1 hR.1.2.1) (cw_L_101 F.2.2.2.2 ⟨by decide, by decide⟩) 0 rfl rfl rfl hl.1 rfl (Nat.le_of_ble_eq_true rfl) dL_law_654 ⟨Nat.le_of_succ_le hcs.1, Nat.le_trans (Nat.le_add_right _ 6) hcs.2⟩) (fun v_2 u_2 H locs hp_2 hw => ?_)
      obtain ⟨e1, th, o, hI⟩ := st_request (v := v_1) (v2 := v_2) (u := u_1) (u2 := u_2) hR hn hp_1 hp_2
      obtain ⟨now, gr, mo, re, bgn, lin, rfd, rnd, mB, mb, ms, mt, kept, np, cl, cf, tn, tf, dl, df, sdf, cnf, cbf, mkf, num, rep, kf, uto, ufi, use, sop, sow, sid, sbe, sla, mmz, msz, msd, mbg, mka, mta, mwd, mms, mhs, mke, msa, mkn, mkb, mku, mit, msi, mtx, mra, fo, hw, ho, hR⟩ := iv_wd hI hw
      refine lv_icmp_eq (tgt := 1218) hx hb dL_law_657 (by decide) (fun c_657 => ?_) (fun c_657 => ?_)
      · skip
        refine W.widen (k := cells + 1) (n := slots + 6) (by omega) (by omega) ?_
        exact kk _ _ _ _ _ _ (iv_mk ho hR) hw (lv_sub hl [0, 1, 2, 3, 4] rfl)
      · exact absurd e1 c_657
set_option maxHeartbeats 4000000 in
set_option maxRecDepth 100000 in
theorem law_logout (F : CallFix p m c cL_law 8 s #[Value.ref b] BIG RL) (hX : va_X b L xs s s.heap) (hbl : b < s.heap.size) (hL : L ≤ 3584) (hi : i + 7 ≤ L) (hn : n < 600) (hst : l.stackTraces = false) (hcs : cells + 1 ≤ room_1.cells ∧ slots + 6 ≤ room_1.slots)
    (kk : ∀ (th : Int32) (o : Int64) (Wo : va_W) (H : Heap) (locs : List Loc) (ls : Array Slot), Iv g ad ka kb ua sa md oa (n + 1) th o Wo → Wd g s (fun q : Nat => s.heap.size ≤ q) H locs Wo → lv_has ls 8 [(0, .ref b), (1, .ref (ad 0)), (2, .ref (md 0)), (3, .ref oa), (4, .int (nI i))] → W p l e room_1 s m #[Value.ref b] below meth c H locs (cells + 1) (slots + 6) Q (F0 m 1218 ls []))
    (hw : Wd g s (fun q : Nat => s.heap.size ≤ q) H locs (mX g md mfa mmz msz now gr mo re msd mbg kept lin rfd rnd mka mta mwd mms mhs mke msa mkn mkb mku uto ufi use mit sow sid sbe sla msi mtx mra ++ ([(oa, jA g 1 fo)] ++ (gX g ad ka ua sa now gr mo re bgn lin rfd rnd mB mb ms mt kept np cl cf tn tf dl df sdf cnf cbf mkf ++ (tl 4 ka (kE kb num rep) ++ (tl 4 kb (bE g kf) ++ (tl 8 ua (uE uto ufi use) ++ (tl 8 sa (sE sop sow sid sbe sla) ++ [])))))))) (hR : Rel n kept np num rep kf mkn mku mkb sop mit cl cf tn tf msi mtx sdf bgn msd mbg dl sow) (hl : lv_has ls 8 [(0, .ref b), (1, .ref (ad 0)), (2, .ref (md 0)), (3, .ref oa), (4, .int (nI i))]) : W p l e room_1 s m #[Value.ref b] below meth c H locs cells slots Q (F0 m 662 ls []) := by
  have hx := F.1
  have hb := F.2.1
  refine lv_aload_n hx hb dL_law_662 rfl (lv_at hl 1 rfl) ?_
  replace hw := wd_as hw
  refine cl_iR hw (rn_VR F hw (c_X7_logout g l ad ka kb ua sa now gr mo re bgn lin rfd rnd mB mb ms mt kept np cl cf tn tf dl df sdf cnf cbf mkf num rep kf uto ufi use sop sow sid sbe sla  hR.1.2.2.1 hR.1.2.1 hR.2.2.1.1 hR.2.2.1.2.1 hR.2.2.2.2.1 hR.2.2.1.2.2.1 hR.2.2.1.2.2.2.1) (cw_L_102 F.2.2.2.2 ⟨by decide, by decide⟩) 0 rfl rfl rfl hl.1 rfl (Nat.le_of_ble_eq_true rfl) dL_law_663 ⟨Nat.le_of_succ_le hcs.1, Nat.le_trans (Nat.le_add_right _ 6) hcs.2⟩) (fun v_1 u_1 H locs hp_1 hw => ?_)
  replace hw := wd_sa hw
  refine lv_aload_n hx hb dL_law_666 rfl (lv_at hl 2 rfl) ?_
  refine cl_iL hw (rn_VL F hw (c_X8_logout g l md mfa mmz msz now gr mo re msd mbg kept lin rfd rnd mka mta mwd mms mhs mke msa mkn mkb mku uto ufi use mit sow sid sbe sla msi mtx mra  cl tn hR.2.2.1.2.2.2.2.1 hR.2.2.1.2.2.2.2.2.1 hR.2.2.1.1 hR.2.2.1.2.1 (tr_B hR.2.2.1) hR.1.1 hR.1.2.1) (cw_L_105 F.2.2.2.2 ⟨by decide, by decide⟩) 0 rfl rfl rfl hl.1 rfl (Nat.le_of_ble_eq_true rfl) dL_law_667 ⟨Nat.le_of_succ_le hcs.1, Nat.le_trans (Nat.le_add_right _ 6) hcs.2⟩) (fun v_2 u_2 H locs hp_2 hw => ?_)
  obtain ⟨e1, th, o, hI⟩ := st_logout (v := v_1) (v2 := v_2) (u := u_1) (u2 := u_2) hR hn hp_1 hp_2
  obtain ⟨now, gr, mo, re, bgn, lin, rfd, rnd, mB, mb, ms, mt, kept, np, cl, cf, tn, tf, dl, df, sdf, cnf, cbf, mkf, num, rep, kf, uto, ufi, use, sop, sow, sid, sbe, sla, mmz, msz, msd, mbg, mka, mta, mwd, mms, mhs, mke, msa, mkn, mkb, mku, mit, msi, mtx, mra, fo, hw, ho, hR⟩ := iv_wd hI hw
  refine lv_icmp_eq (tgt := 1218) hx hb dL_law_670 (by decide) (fun c_670 => ?_) (fun c_670 => ?_)
  · skip
    refine W.widen (k := cells + 1) (n := slots + 6) (by omega) (by omega) ?_
    exact kk _ _ _ _ _ _ (iv_mk ho hR) hw (lv_sub hl [0, 1, 2, 3, 4] rfl)
  · exact absurd e1 c_670
set_option maxHeartbeats 4000000 in
set_option maxRecDepth 100000 in
theorem law_revoke (F : CallFix p m c cL_law 8 s #[Value.ref b] BIG RL) (hX : va_X b L xs s s.heap) (hbl : b < s.heap.size) (hL : L ≤ 3584) (hi : i + 7 ≤ L) (hn : n < 600) (hst : l.stackTraces = false) (hcs : cells + 1 ≤ room_1.cells ∧ slots + 6 ≤ room_1.slots)
    (kk : ∀ (th : Int32) (o : Int64) (Wo : va_W) (H : Heap) (locs : List Loc) (ls : Array Slot), Iv g ad ka kb ua sa md oa (n + 1) th o Wo → Wd g s (fun q : Nat => s.heap.size ≤ q) H locs Wo → lv_has ls 8 [(0, .ref b), (1, .ref (ad 0)), (2, .ref (md 0)), (3, .ref oa), (4, .int (nI i))] → W p l e room_1 s m #[Value.ref b] below meth c H locs (cells + 1) (slots + 6) Q (F0 m 1218 ls []))
    (hw : Wd g s (fun q : Nat => s.heap.size ≤ q) H locs (mX g md mfa mmz msz now gr mo re msd mbg kept lin rfd rnd mka mta mwd mms mhs mke msa mkn mkb mku uto ufi use mit sow sid sbe sla msi mtx mra ++ ([(oa, jA g 1 fo)] ++ (gX g ad ka ua sa now gr mo re bgn lin rfd rnd mB mb ms mt kept np cl cf tn tf dl df sdf cnf cbf mkf ++ (tl 4 ka (kE kb num rep) ++ (tl 4 kb (bE g kf) ++ (tl 8 ua (uE uto ufi use) ++ (tl 8 sa (sE sop sow sid sbe sla) ++ [])))))))) (hR : Rel n kept np num rep kf mkn mku mkb sop mit cl cf tn tf msi mtx sdf bgn msd mbg dl sow) (hl : lv_has ls 8 [(0, .ref b), (1, .ref (ad 0)), (2, .ref (md 0)), (3, .ref oa), (4, .int (nI i))]) : W p l e room_1 s m #[Value.ref b] below meth c H locs cells slots Q (F0 m 675 ls []) := by
  have hx := F.1
  have hb := F.2.1
  refine lv_aload_n hx hb dL_law_675 rfl (lv_at hl 1 rfl) ?_
  refine lv_aload_n hx hb dL_law_676 rfl (lv_at hl 0 rfl) ?_
  refine lv_iload hx hb dL_law_677 (lv_at hl 4 rfl) ?_
  refine lv_iconst (v := nI 1) hx hb dL_law_679 (by decide) ?_
  refine n_add hx hb dL_law_680 ?_
  refine sc_ld F hX hbl hw (show i + 1 < L by omega) hL dL_law_681 ?_
  refine lv_aload_n hx hb dL_law_682 rfl (lv_at hl 3 rfl) ?_
  refine cl_iR hw (rn_W F hw (w_revoke g l (ad 0) oa (xs (i + 1)) fo (c_X7_revoke g l ad ka kb ua sa now gr mo re bgn lin rfd rnd mB mb ms mt kept np cl cf tn tf dl df sdf cnf cbf mkf num rep kf uto ufi use sop sow sid sbe sla (xs (i + 1)) hst) rfl (fun E h => h.1)) (cw_L_106 F.2.2.2.2 ⟨by decide, by decide⟩) hl.1 rfl (Nat.le_of_ble_eq_true rfl) dL_law_683 hcs) (fun v_1 u_1 H locs hp_1 hw => ?_)
  refine lv_istore (lv' := [(5, .int v_1), (0, .ref b), (1, .ref (ad 0)), (2, .ref (md 0)), (3, .ref oa), (4, .int (nI i))]) hx hb dL_law_686 hl (by decide) rfl (fun ls hl => ?_)
  refine lv_aload_n hx hb dL_law_688 rfl (lv_at hl 3 rfl) ?_
  refine lv_aload_n hx hb dL_law_689 rfl (lv_at hl 1 rfl) ?_
  refine lv_iload hx hb dL_law_690 (lv_at hl 5 rfl) ?_
  refine lv_iconst (v := nI 1) hx hb dL_law_692 (by decide) ?_
  refine n_add hx hb dL_law_693 ?_
  refine sc_ld F hX hbl hw (show i + 1 < L by omega) hL dL_law_694 ?_
  refine cl_iL hw (rn_VL F hw (c_X8_revoke g l md mfa mmz msz now gr mo re msd mbg kept lin rfd rnd mka mta mwd mms mhs mke msa mkn mkb mku uto ufi use mit sow sid sbe sla msi mtx mra (xs (i + 1)) ) (cw_L_109 F.2.2.2.2 ⟨by decide, by decide⟩) 0 rfl rfl rfl hl.1 rfl (Nat.le_of_ble_eq_true rfl) dL_law_695 hcs) (fun v_2 u_2 H locs hp_2 hw => ?_)
  obtain ⟨th, o, hI, e1, e2⟩ := st_revoke (v := v_1) (v2 := v_2) (u := u_1) (u2 := u_2) hR hn (rv_eq hR.2.1 8 (by omega)).1 (rv_eq hR.2.1 8 (by omega)).2 hp_1 hp_2
  obtain ⟨now, gr, mo, re, bgn, lin, rfd, rnd, mB, mb, ms, mt, kept, np, cl, cf, tn, tf, dl, df, sdf, cnf, cbf, mkf, num, rep, kf, uto, ufi, use, sop, sow, sid, sbe, sla, mmz, msz, msd, mbg, mka, mta, mwd, mms, mhs, mke, msa, mkn, mkb, mku, mit, msi, mtx, mra, fo, hw, ho, hR⟩ := iv_wd hI hw
  refine lv_istore (lv' := [(6, .int v_2), (5, .int v_1), (0, .ref b), (1, .ref (ad 0)), (2, .ref (md 0)), (3, .ref oa), (4, .int (nI i))]) hx hb dL_law_698 hl (by decide) rfl (fun ls hl => ?_)
  refine lv_aload_n hx hb dL_law_700 rfl (lv_at hl 4 rfl) ?_
  refine cl_iL hw (rn_VL F hw (c_X8_thrown g l md th mmz msz now gr mo re msd mbg kept lin rfd rnd mka mta mwd mms mhs mke msa mkn mkb mku uto ufi use mit sow sid sbe sla msi mtx mra) (cw_L_76 F.2.2.2.2 ⟨by decide, by decide⟩) 0 rfl rfl rfl hl.1 rfl (Nat.le_of_ble_eq_true rfl) dL_law_701 hcs) (fun v_3 u_3 H locs hp_3 hw => ?_)
  obtain rfl : v_3 = th := hp_3
  refine lv_iload hx hb dL_law_704 (lv_at hl 1 rfl) ?_
  refine lv_icmp_eq (tgt := 711) hx hb dL_law_706 (by decide) (fun c_706 => ?_) (fun c_706 => ?_)
  · skip
    refine lv_iload hx hb dL_law_711 (lv_at hl 1 rfl) ?_
    refine lv_if_ne (tgt := 728) hx hb dL_law_713 (by decide) (fun c_713 => ?_) (fun c_713 => ?_)
    · skip
      refine lv_goto (tgt := 1218) hx hb dL_law_728 (by decide) ?_
      exact kk _ _ _ _ _ _ (iv_mk ho hR) hw (lv_sub hl [2, 3, 4, 5, 6] rfl)
    · skip
      refine lv_aload_n hx hb dL_law_716 rfl (lv_at hl 5 rfl) ?_
      refine lv_iconst (v := nI 0) hx hb dL_law_717 (by decide) ?_
      refine ja_ld F hw 23 rfl (by omega) (by omega) dL_law_718 ?_
      refine lv_iload hx hb dL_law_719 (lv_at hl 0 rfl) ?_
      refine lv_i2l (v := (v_2).toInt64) hx hb dL_law_721 rfl ?_
      refine lc_eq (tgt := 728) hx hb dL_law_722 dL_law_723 (by decide) (fun c_722 => ?_) (fun c_722 => ?_)
      · skip
        refine lv_goto (tgt := 1218) hx hb dL_law_728 (by decide) ?_
        exact kk _ _ _ _ _ _ (iv_mk ho hR) hw (lv_sub hl [2, 3, 4, 5, 6] rfl)
      · exact absurd (ho.trans (e2 c_713)) c_722
  · exact absurd e1.symm c_706
set_option maxHeartbeats 4000000 in
set_option maxRecDepth 100000 in
theorem law_type (F : CallFix p m c cL_law 8 s #[Value.ref b] BIG RL) (hX : va_X b L xs s s.heap) (hbl : b < s.heap.size) (hL : L ≤ 3584) (hi : i + 7 ≤ L) (hn : n < 600) (hst : l.stackTraces = false) (hcs : cells + 1 ≤ room_1.cells ∧ slots + 6 ≤ room_1.slots)
    (kk : ∀ (th : Int32) (o : Int64) (Wo : va_W) (H : Heap) (locs : List Loc) (ls : Array Slot), Iv g ad ka kb ua sa md oa (n + 1) th o Wo → Wd g s (fun q : Nat => s.heap.size ≤ q) H locs Wo → lv_has ls 8 [(0, .ref b), (1, .ref (ad 0)), (2, .ref (md 0)), (3, .ref oa), (4, .int (nI i))] → W p l e room_1 s m #[Value.ref b] below meth c H locs (cells + 1) (slots + 6) Q (F0 m 1218 ls []))
    (hw : Wd g s (fun q : Nat => s.heap.size ≤ q) H locs (mX g md mfa mmz msz now gr mo re msd mbg kept lin rfd rnd mka mta mwd mms mhs mke msa mkn mkb mku uto ufi use mit sow sid sbe sla msi mtx mra ++ ([(oa, jA g 1 fo)] ++ (gX g ad ka ua sa now gr mo re bgn lin rfd rnd mB mb ms mt kept np cl cf tn tf dl df sdf cnf cbf mkf ++ (tl 4 ka (kE kb num rep) ++ (tl 4 kb (bE g kf) ++ (tl 8 ua (uE uto ufi use) ++ (tl 8 sa (sE sop sow sid sbe sla) ++ [])))))))) (hR : Rel n kept np num rep kf mkn mku mkb sop mit cl cf tn tf msi mtx sdf bgn msd mbg dl sow) (hl : lv_has ls 8 [(0, .ref b), (1, .ref (ad 0)), (2, .ref (md 0)), (3, .ref oa), (4, .int (nI i))]) : W p l e room_1 s m #[Value.ref b] below meth c H locs cells slots Q (F0 m 731 ls []) := by
  have hx := F.1
  have hb := F.2.1
  refine lv_aload_n hx hb dL_law_731 rfl (lv_at hl 1 rfl) ?_
  refine lv_aload_n hx hb dL_law_732 rfl (lv_at hl 0 rfl) ?_
  refine lv_iload hx hb dL_law_733 (lv_at hl 4 rfl) ?_
  refine lv_iconst (v := nI 1) hx hb dL_law_735 (by decide) ?_
  refine n_add hx hb dL_law_736 ?_
  refine sc_ld F hX hbl hw (show i + 1 < L by omega) hL dL_law_737 ?_
  refine lv_aload_n hx hb dL_law_738 rfl (lv_at hl 0 rfl) ?_
  refine lv_iload hx hb dL_law_739 (lv_at hl 4 rfl) ?_
  refine lv_iconst (v := nI 2) hx hb dL_law_741 (by decide) ?_
  refine n_add hx hb dL_law_742 ?_
  refine sc_ld F hX hbl hw (show i + 2 < L by omega) hL dL_law_743 ?_
  refine lv_aload_n hx hb dL_law_744 rfl (lv_at hl 0 rfl) ?_
  refine lv_iload hx hb dL_law_745 (lv_at hl 4 rfl) ?_
  refine lv_iconst (v := nI 3) hx hb dL_law_747 (by decide) ?_
  refine n_add hx hb dL_law_748 ?_
  refine sc_ld F hX hbl hw (show i + 3 < L by omega) hL dL_law_749 ?_
  refine lv_aload_n hx hb dL_law_750 rfl (lv_at hl 0 rfl) ?_
  refine lv_iload hx hb dL_law_751 (lv_at hl 4 rfl) ?_
  refine lv_iconst (v := nI 4) hx hb dL_law_753 (by decide) ?_
  refine n_add hx hb dL_law_754 ?_
  refine sc_ld F hX hbl hw (show i + 4 < L by omega) hL dL_law_755 ?_
  refine lv_aload_n hx hb dL_law_756 rfl (lv_at hl 0 rfl) ?_
  refine lv_iload hx hb dL_law_757 (lv_at hl 4 rfl) ?_
  refine lv_iconst (v := nI 5) hx hb dL_law_759 (by decide) ?_
  refine n_add hx hb dL_law_760 ?_
  refine sc_ld F hX hbl hw (show i + 5 < L by omega) hL dL_law_761 ?_
  refine lv_aload_n hx hb dL_law_762 rfl (lv_at hl 3 rfl) ?_
  refine cl_iR hw (rn_W F hw (w_type g l (ad 0) oa (xs (i + 1)) (xs (i + 2)) (xs (i + 3)) (xs (i + 4)) (xs (i + 5)) fo (c_X7_type g l ad ka kb ua sa now gr mo re bgn lin rfd rnd mB mb ms mt kept np cl cf tn tf dl df sdf cnf cbf mkf num rep kf uto ufi use sop sow sid sbe sla (xs (i + 1)) (xs (i + 2)) (xs (i + 3)) (xs (i + 4)) (xs (i + 5)) hR.2.2.1.1 hR.2.2.1.2.1 hst) rfl (fun E h => h.imp (fun h => h.1) (fun h => h.1))) (cw_L_110 F.2.2.2.2 ⟨by decide, by decide⟩) hl.1 rfl (Nat.le_of_ble_eq_true rfl) dL_law_763 hcs) (fun v_1 u_1 H locs hp_1 hw => ?_)
  refine lv_istore (lv' := [(5, .int v_1), (0, .ref b), (1, .ref (ad 0)), (2, .ref (md 0)), (3, .ref oa), (4, .int (nI i))]) hx hb dL_law_766 hl (by decide) rfl (fun ls hl => ?_)
  refine lv_aload_n hx hb dL_law_768 rfl (lv_at hl 3 rfl) ?_
  refine lv_aload_n hx hb dL_law_769 rfl (lv_at hl 1 rfl) ?_
  refine lv_iload hx hb dL_law_770 (lv_at hl 5 rfl) ?_
  refine lv_iconst (v := nI 1) hx hb dL_law_772 (by decide) ?_
  refine n_add hx hb dL_law_773 ?_
  refine sc_ld F hX hbl hw (show i + 1 < L by omega) hL dL_law_774 ?_
  refine lv_aload_n hx hb dL_law_775 rfl (lv_at hl 1 rfl) ?_
  refine lv_iload hx hb dL_law_776 (lv_at hl 5 rfl) ?_
  refine lv_iconst (v := nI 2) hx hb dL_law_778 (by decide) ?_
  refine n_add hx hb dL_law_779 ?_
  refine sc_ld F hX hbl hw (show i + 2 < L by omega) hL dL_law_780 ?_
  refine lv_aload_n hx hb dL_law_781 rfl (lv_at hl 1 rfl) ?_
  refine lv_iload hx hb dL_law_782 (lv_at hl 5 rfl) ?_
  refine lv_iconst (v := nI 3) hx hb dL_law_784 (by decide) ?_
  refine n_add hx hb dL_law_785 ?_
  refine sc_ld F hX hbl hw (show i + 3 < L by omega) hL dL_law_786 ?_
  refine lv_aload_n hx hb dL_law_787 rfl (lv_at hl 1 rfl) ?_
  refine lv_iload hx hb dL_law_788 (lv_at hl 5 rfl) ?_
  refine lv_iconst (v := nI 4) hx hb dL_law_790 (by decide) ?_
  refine n_add hx hb dL_law_791 ?_
  refine sc_ld F hX hbl hw (show i + 4 < L by omega) hL dL_law_792 ?_
  refine lv_aload_n hx hb dL_law_793 rfl (lv_at hl 1 rfl) ?_
  refine lv_iload hx hb dL_law_794 (lv_at hl 5 rfl) ?_
  refine lv_iconst (v := nI 5) hx hb dL_law_796 (by decide) ?_
  refine n_add hx hb dL_law_797 ?_
  refine sc_ld F hX hbl hw (show i + 5 < L by omega) hL dL_law_798 ?_
  refine cl_iL hw (rn_VL F hw (c_X8_type g l md mfa mmz msz now gr mo re msd mbg kept lin rfd rnd mka mta mwd mms mhs mke msa mkn mkb mku uto ufi use mit sow sid sbe sla msi mtx mra (xs (i + 1)) (xs (i + 2)) (xs (i + 3)) (xs (i + 4)) (xs (i + 5)) cl tn hR.2.2.1.2.2.2.2.1 hR.2.2.1.2.2.2.2.2.1 hR.2.2.1.1 hR.2.2.1.2.1) (cw_L_113 F.2.2.2.2 ⟨by decide, by decide⟩) 0 rfl rfl rfl hl.1 rfl (Nat.le_of_ble_eq_true rfl) dL_law_799 hcs) (fun v_2 u_2 H locs hp_2 hw => ?_)
  obtain ⟨th, o, hI, e1, e2⟩ := st_type (v := v_1) (v2 := v_2) (u := u_1) (u2 := u_2) hR hn hp_1 hp_2
  obtain ⟨now, gr, mo, re, bgn, lin, rfd, rnd, mB, mb, ms, mt, kept, np, cl, cf, tn, tf, dl, df, sdf, cnf, cbf, mkf, num, rep, kf, uto, ufi, use, sop, sow, sid, sbe, sla, mmz, msz, msd, mbg, mka, mta, mwd, mms, mhs, mke, msa, mkn, mkb, mku, mit, msi, mtx, mra, fo, hw, ho, hR⟩ := iv_wd hI hw
  refine lv_istore (lv' := [(6, .int v_2), (5, .int v_1), (0, .ref b), (1, .ref (ad 0)), (2, .ref (md 0)), (3, .ref oa), (4, .int (nI i))]) hx hb dL_law_802 hl (by decide) rfl (fun ls hl => ?_)
  refine lv_aload_n hx hb dL_law_804 rfl (lv_at hl 4 rfl) ?_
  refine cl_iL hw (rn_VL F hw (c_X8_thrown g l md th mmz msz now gr mo re msd mbg kept lin rfd rnd mka mta mwd mms mhs mke msa mkn mkb mku uto ufi use mit sow sid sbe sla msi mtx mra) (cw_L_76 F.2.2.2.2 ⟨by decide, by decide⟩) 0 rfl rfl rfl hl.1 rfl (Nat.le_of_ble_eq_true rfl) dL_law_805 hcs) (fun v_3 u_3 H locs hp_3 hw => ?_)
  obtain rfl : v_3 = th := hp_3
  refine lv_iload hx hb dL_law_808 (lv_at hl 1 rfl) ?_
  refine lv_icmp_eq (tgt := 815) hx hb dL_law_810 (by decide) (fun c_810 => ?_) (fun c_810 => ?_)
  · skip
    refine lv_iload hx hb dL_law_815 (lv_at hl 1 rfl) ?_
    refine lv_if_ne (tgt := 832) hx hb dL_law_817 (by decide) (fun c_817 => ?_) (fun c_817 => ?_)
    · skip
      refine lv_goto (tgt := 1218) hx hb dL_law_832 (by decide) ?_
      exact kk _ _ _ _ _ _ (iv_mk ho hR) hw (lv_sub hl [2, 3, 4, 5, 6] rfl)
    · skip
      refine lv_aload_n hx hb dL_law_820 rfl (lv_at hl 5 rfl) ?_
      refine lv_iconst (v := nI 0) hx hb dL_law_821 (by decide) ?_
      refine ja_ld F hw 23 rfl (by omega) (by omega) dL_law_822 ?_
      refine lv_iload hx hb dL_law_823 (lv_at hl 0 rfl) ?_
      refine lv_i2l (v := (v_2).toInt64) hx hb dL_law_825 rfl ?_
      refine lc_eq (tgt := 832) hx hb dL_law_826 dL_law_827 (by decide) (fun c_826 => ?_) (fun c_826 => ?_)
      · skip
        refine lv_goto (tgt := 1218) hx hb dL_law_832 (by decide) ?_
        exact kk _ _ _ _ _ _ (iv_mk ho hR) hw (lv_sub hl [2, 3, 4, 5, 6] rfl)
      · exact absurd (ho.trans (e2 c_817)) c_826
  · exact absurd e1.symm c_810
set_option maxHeartbeats 4000000 in
set_option maxRecDepth 100000 in
theorem law_erase (F : CallFix p m c cL_law 8 s #[Value.ref b] BIG RL) (hX : va_X b L xs s s.heap) (hbl : b < s.heap.size) (hL : L ≤ 3584) (hi : i + 7 ≤ L) (hn : n < 600) (hst : l.stackTraces = false) (hcs : cells + 1 ≤ room_1.cells ∧ slots + 6 ≤ room_1.slots)
    (kk : ∀ (th : Int32) (o : Int64) (Wo : va_W) (H : Heap) (locs : List Loc) (ls : Array Slot), Iv g ad ka kb ua sa md oa (n + 1) th o Wo → Wd g s (fun q : Nat => s.heap.size ≤ q) H locs Wo → lv_has ls 8 [(0, .ref b), (1, .ref (ad 0)), (2, .ref (md 0)), (3, .ref oa), (4, .int (nI i))] → W p l e room_1 s m #[Value.ref b] below meth c H locs (cells + 1) (slots + 6) Q (F0 m 1218 ls []))
    (hw : Wd g s (fun q : Nat => s.heap.size ≤ q) H locs (mX g md mfa mmz msz now gr mo re msd mbg kept lin rfd rnd mka mta mwd mms mhs mke msa mkn mkb mku uto ufi use mit sow sid sbe sla msi mtx mra ++ ([(oa, jA g 1 fo)] ++ (gX g ad ka ua sa now gr mo re bgn lin rfd rnd mB mb ms mt kept np cl cf tn tf dl df sdf cnf cbf mkf ++ (tl 4 ka (kE kb num rep) ++ (tl 4 kb (bE g kf) ++ (tl 8 ua (uE uto ufi use) ++ (tl 8 sa (sE sop sow sid sbe sla) ++ [])))))))) (hR : Rel n kept np num rep kf mkn mku mkb sop mit cl cf tn tf msi mtx sdf bgn msd mbg dl sow) (hl : lv_has ls 8 [(0, .ref b), (1, .ref (ad 0)), (2, .ref (md 0)), (3, .ref oa), (4, .int (nI i))]) : W p l e room_1 s m #[Value.ref b] below meth c H locs cells slots Q (F0 m 835 ls []) := by
  have hx := F.1
  have hb := F.2.1
  refine lv_aload_n hx hb dL_law_835 rfl (lv_at hl 1 rfl) ?_
  refine lv_aload_n hx hb dL_law_836 rfl (lv_at hl 0 rfl) ?_
  refine lv_iload hx hb dL_law_837 (lv_at hl 4 rfl) ?_
  refine lv_iconst (v := nI 1) hx hb dL_law_839 (by decide) ?_
  refine n_add hx hb dL_law_840 ?_
  refine sc_ld F hX hbl hw (show i + 1 < L by omega) hL dL_law_841 ?_
  refine lv_aload_n hx hb dL_law_842 rfl (lv_at hl 3 rfl) ?_
  refine cl_iR hw (rn_W F hw (w_erase g l (ad 0) oa (xs (i + 1)) fo (c_X7_erase g l ad ka kb ua sa now gr mo re bgn lin rfd rnd mB mb ms mt kept np cl cf tn tf dl df sdf cnf cbf mkf num rep kf uto ufi use sop sow sid sbe sla (xs (i + 1)) hst) rfl (fun E h => h.1)) (cw_L_114 F.2.2.2.2 ⟨by decide, by decide⟩) hl.1 rfl (Nat.le_of_ble_eq_true rfl) dL_law_843 hcs) (fun v_1 u_1 H locs hp_1 hw => ?_)
  refine lv_istore (lv' := [(5, .int v_1), (0, .ref b), (1, .ref (ad 0)), (2, .ref (md 0)), (3, .ref oa), (4, .int (nI i))]) hx hb dL_law_846 hl (by decide) rfl (fun ls hl => ?_)
  refine lv_aload_n hx hb dL_law_848 rfl (lv_at hl 3 rfl) ?_
  refine lv_aload_n hx hb dL_law_849 rfl (lv_at hl 1 rfl) ?_
  refine lv_iload hx hb dL_law_850 (lv_at hl 5 rfl) ?_
  refine lv_iconst (v := nI 1) hx hb dL_law_852 (by decide) ?_
  refine n_add hx hb dL_law_853 ?_
  refine sc_ld F hX hbl hw (show i + 1 < L by omega) hL dL_law_854 ?_
  refine cl_iL hw (rn_VL F hw (c_X8_erase g l md mfa mmz msz now gr mo re msd mbg kept lin rfd rnd mka mta mwd mms mhs mke msa mkn mkb mku uto ufi use mit sow sid sbe sla msi mtx mra (xs (i + 1)) cl tn hR.2.2.1.2.2.2.2.1 hR.2.2.1.2.2.2.2.2.1 hR.2.2.1.1 hR.2.2.1.2.1) (cw_L_116 F.2.2.2.2 ⟨by decide, by decide⟩) 0 rfl rfl rfl hl.1 rfl (Nat.le_of_ble_eq_true rfl) dL_law_855 hcs) (fun v_2 u_2 H locs hp_2 hw => ?_)
  obtain ⟨th, o, hI, e1, e2⟩ := st_erase (v := v_1) (v2 := v_2) (u := u_1) (u2 := u_2) hR hn hp_1 hp_2
  obtain ⟨now, gr, mo, re, bgn, lin, rfd, rnd, mB, mb, ms, mt, kept, np, cl, cf, tn, tf, dl, df, sdf, cnf, cbf, mkf, num, rep, kf, uto, ufi, use, sop, sow, sid, sbe, sla, mmz, msz, msd, mbg, mka, mta, mwd, mms, mhs, mke, msa, mkn, mkb, mku, mit, msi, mtx, mra, fo, hw, ho, hR⟩ := iv_wd hI hw
  refine lv_istore (lv' := [(6, .int v_2), (5, .int v_1), (0, .ref b), (1, .ref (ad 0)), (2, .ref (md 0)), (3, .ref oa), (4, .int (nI i))]) hx hb dL_law_858 hl (by decide) rfl (fun ls hl => ?_)
  refine lv_aload_n hx hb dL_law_860 rfl (lv_at hl 4 rfl) ?_
  refine cl_iL hw (rn_VL F hw (c_X8_thrown g l md th mmz msz now gr mo re msd mbg kept lin rfd rnd mka mta mwd mms mhs mke msa mkn mkb mku uto ufi use mit sow sid sbe sla msi mtx mra) (cw_L_76 F.2.2.2.2 ⟨by decide, by decide⟩) 0 rfl rfl rfl hl.1 rfl (Nat.le_of_ble_eq_true rfl) dL_law_861 hcs) (fun v_3 u_3 H locs hp_3 hw => ?_)
  obtain rfl : v_3 = th := hp_3
  refine lv_iload hx hb dL_law_864 (lv_at hl 1 rfl) ?_
  refine lv_icmp_eq (tgt := 871) hx hb dL_law_866 (by decide) (fun c_866 => ?_) (fun c_866 => ?_)
  · skip
    refine lv_iload hx hb dL_law_871 (lv_at hl 1 rfl) ?_
    refine lv_if_ne (tgt := 888) hx hb dL_law_873 (by decide) (fun c_873 => ?_) (fun c_873 => ?_)
    · skip
      refine lv_goto (tgt := 1218) hx hb dL_law_888 (by decide) ?_
      exact kk _ _ _ _ _ _ (iv_mk ho hR) hw (lv_sub hl [2, 3, 4, 5, 6] rfl)
    · skip
      refine lv_aload_n hx hb dL_law_876 rfl (lv_at hl 5 rfl) ?_
      refine lv_iconst (v := nI 0) hx hb dL_law_877 (by decide) ?_
      refine ja_ld F hw 23 rfl (by omega) (by omega) dL_law_878 ?_
      refine lv_iload hx hb dL_law_879 (lv_at hl 0 rfl) ?_
      refine lv_i2l (v := (v_2).toInt64) hx hb dL_law_881 rfl ?_
      refine lc_eq (tgt := 888) hx hb dL_law_882 dL_law_883 (by decide) (fun c_882 => ?_) (fun c_882 => ?_)
      · skip
        refine lv_goto (tgt := 1218) hx hb dL_law_888 (by decide) ?_
        exact kk _ _ _ _ _ _ (iv_mk ho hR) hw (lv_sub hl [2, 3, 4, 5, 6] rfl)
      · exact absurd (ho.trans (e2 c_873)) c_882
  · exact absurd e1.symm c_866
end LW
