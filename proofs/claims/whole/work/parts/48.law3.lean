section LW
variable {p : Program} {l : Launch} {e : Env} {s : State} {m : MethodId} {below : List Frame} {meth : Method} {c : Code} {g : GG} {ad ka kb ua sa md : Nat → Nat} {oa b L i n : Nat} {xs : Nat → Int32} {Q : State → Prop} {H : Heap} {locs : List Loc} {cells slots : Nat} {ls : Array Slot}
variable {now : Int64} {gr : Int64} {mo : Int64} {re : Int64} {bgn : Int32} {lin : Int32} {rfd : Int32} {rnd : Int32} {mB : Nat → Int32} {mb : Nat → Int32} {ms : Nat → Int32} {mt : Nat → Int32} {kept : Nat} {np : Nat} {cl : Nat} {cf : Nat → Int32} {tn : Nat} {tf : Nat → Int32} {dl : Nat} {df : Nat → Int32} {sdf : Nat → Int32} {cnf : Nat → Int32} {cbf : Nat → Int32} {mkf : Nat → Int32} {num : Nat → Int32} {rep : Nat → Int64} {kf : Nat → Nat → Int32} {uto : Nat → Int32} {ufi : Nat → Int32} {use : Nat → Int32} {sop : Nat → Int32} {sow : Nat → Int32} {sid : Nat → Int64} {sbe : Nat → Int64} {sla : Nat → Int64} {mfa : Int32} {mmz : Nat} {msz : Nat} {msd : Int64} {mbg : Int64} {mka : Int32} {mta : Nat → Int32} {mwd : Nat → Int32} {mms : Nat → Int32} {mhs : Nat → Int32} {mke : Nat → Int32} {msa : Nat → Int32} {mkn : Nat → Int32} {mkb : Nat → Int32} {mku : Nat → Int64} {mit : Nat → Int32} {msi : Nat → Int32} {mtx : Nat → Int32} {mra : Nat → Int32} {fo : Nat → Int64}
set_option maxHeartbeats 4000000 in
set_option maxRecDepth 100000 in
theorem law_put (F : CallFix p m c cL_law 8 s #[Value.ref b] BIG RL) (hX : va_X b L xs s s.heap) (hbl : b < s.heap.size) (hL : L ≤ 3584) (hi : i + 7 ≤ L) (hn : n < 600) (hst : l.stackTraces = false) (hcs : cells + 1 ≤ room_1.cells ∧ slots + 6 ≤ room_1.slots)
    (kk : ∀ (th : Int32) (o : Int64) (Wo : va_W) (H : Heap) (locs : List Loc) (ls : Array Slot), Iv g ad ka kb ua sa md oa (n + 1) th o Wo → Wd g s (fun q : Nat => s.heap.size ≤ q) H locs Wo → lv_has ls 8 [(0, .ref b), (1, .ref (ad 0)), (2, .ref (md 0)), (3, .ref oa), (4, .int (nI i))] → W p l e room_1 s m #[Value.ref b] below meth c H locs (cells + 1) (slots + 6) Q (F0 m 1218 ls []))
    (hw : Wd g s (fun q : Nat => s.heap.size ≤ q) H locs (mX g md mfa mmz msz now gr mo re msd mbg kept lin rfd rnd mka mta mwd mms mhs mke msa mkn mkb mku uto ufi use mit sow sid sbe sla msi mtx mra ++ ([(oa, jA g 1 fo)] ++ (gX g ad ka ua sa now gr mo re bgn lin rfd rnd mB mb ms mt kept np cl cf tn tf dl df sdf cnf cbf mkf ++ (tl 4 ka (kE kb num rep) ++ (tl 4 kb (bE g kf) ++ (tl 8 ua (uE uto ufi use) ++ (tl 8 sa (sE sop sow sid sbe sla) ++ [])))))))) (hR : Rel n kept np num rep kf mkn mku mkb sop mit cl cf tn tf msi mtx sdf bgn msd mbg dl sow) (hl : lv_has ls 8 [(0, .ref b), (1, .ref (ad 0)), (2, .ref (md 0)), (3, .ref oa), (4, .int (nI i))]) : W p l e room_1 s m #[Value.ref b] below meth c H locs cells slots Q (F0 m 891 ls []) := by
  have hx := F.1
  have hb := F.2.1
  refine lv_aload_n hx hb dL_law_891 rfl (lv_at hl 1 rfl) ?_
  refine lv_aload_n hx hb dL_law_892 rfl (lv_at hl 0 rfl) ?_
  refine lv_iload hx hb dL_law_893 (lv_at hl 4 rfl) ?_
  refine lv_iconst (v := nI 1) hx hb dL_law_895 (by decide) ?_
  refine n_add hx hb dL_law_896 ?_
  refine sc_ld F hX hbl hw (show i + 1 < L by omega) hL dL_law_897 ?_
  refine lv_aload_n hx hb dL_law_898 rfl (lv_at hl 0 rfl) ?_
  refine lv_iload hx hb dL_law_899 (lv_at hl 4 rfl) ?_
  refine lv_iconst (v := nI 2) hx hb dL_law_901 (by decide) ?_
  refine n_add hx hb dL_law_902 ?_
  refine sc_ld F hX hbl hw (show i + 2 < L by omega) hL dL_law_903 ?_
  refine lv_aload_n hx hb dL_law_904 rfl (lv_at hl 0 rfl) ?_
  refine lv_iload hx hb dL_law_905 (lv_at hl 4 rfl) ?_
  refine lv_iconst (v := nI 3) hx hb dL_law_907 (by decide) ?_
  refine n_add hx hb dL_law_908 ?_
  refine sc_ld F hX hbl hw (show i + 3 < L by omega) hL dL_law_909 ?_
  refine lv_aload_n hx hb dL_law_910 rfl (lv_at hl 3 rfl) ?_
  refine cl_iR hw (rn_W F hw (w_put g l (ad 0) oa (xs (i + 1)) (xs (i + 2)) (xs (i + 3)) fo (c_X7_put g l ad ka kb ua sa now gr mo re bgn lin rfd rnd mB mb ms mt kept np cl cf tn tf dl df sdf cnf cbf mkf num rep kf uto ufi use sop sow sid sbe sla (xs (i + 1)) (xs (i + 2)) (xs (i + 3)) hR.2.2.1.1 hR.2.2.1.2.1 hst) rfl (fun E h => h.imp (fun h => h.1) (fun h => h.1))) (cw_L_117 F.2.2.2.2 ⟨by decide, by decide⟩) hl.1 rfl (Nat.le_of_ble_eq_true rfl) dL_law_911 hcs) (fun v_1 u_1 H locs hp_1 hw => ?_)
  refine lv_istore (lv' := [(5, .int v_1), (0, .ref b), (1, .ref (ad 0)), (2, .ref (md 0)), (3, .ref oa), (4, .int (nI i))]) hx hb dL_law_914 hl (by decide) rfl (fun ls hl => ?_)
  refine lv_aload_n hx hb dL_law_916 rfl (lv_at hl 3 rfl) ?_
  refine lv_aload_n hx hb dL_law_917 rfl (lv_at hl 1 rfl) ?_
  refine lv_iload hx hb dL_law_918 (lv_at hl 5 rfl) ?_
  refine lv_iconst (v := nI 1) hx hb dL_law_920 (by decide) ?_
  refine n_add hx hb dL_law_921 ?_
  refine sc_ld F hX hbl hw (show i + 1 < L by omega) hL dL_law_922 ?_
  refine lv_aload_n hx hb dL_law_923 rfl (lv_at hl 1 rfl) ?_
  refine lv_iload hx hb dL_law_924 (lv_at hl 5 rfl) ?_
  refine lv_iconst (v := nI 2) hx hb dL_law_926 (by decide) ?_
  refine n_add hx hb dL_law_927 ?_
  refine sc_ld F hX hbl hw (show i + 2 < L by omega) hL dL_law_928 ?_
  refine lv_aload_n hx hb dL_law_929 rfl (lv_at hl 1 rfl) ?_
  refine lv_iload hx hb dL_law_930 (lv_at hl 5 rfl) ?_
  refine lv_iconst (v := nI 3) hx hb dL_law_932 (by decide) ?_
  refine n_add hx hb dL_law_933 ?_
  refine sc_ld F hX hbl hw (show i + 3 < L by omega) hL dL_law_934 ?_
  refine cl_iL hw (rn_VL F hw (c_X8_put g l md mfa mmz msz now gr mo re msd mbg kept lin rfd rnd mka mta mwd mms mhs mke msa mkn mkb mku uto ufi use mit sow sid sbe sla msi mtx mra (xs (i + 1)) (xs (i + 2)) (xs (i + 3)) cl tn hR.2.2.1.2.2.2.2.1 hR.2.2.1.2.2.2.2.2.1 hR.2.2.1.1 hR.2.2.1.2.1) (cw_L_119 F.2.2.2.2 ⟨by decide, by decide⟩) 0 rfl rfl rfl hl.1 rfl (Nat.le_of_ble_eq_true rfl) dL_law_935 hcs) (fun v_2 u_2 H locs hp_2 hw => ?_)
  obtain ⟨th, o, hI, e1, e2⟩ := st_put (v := v_1) (v2 := v_2) (u := u_1) (u2 := u_2) hR hn hp_1 hp_2
  obtain ⟨now, gr, mo, re, bgn, lin, rfd, rnd, mB, mb, ms, mt, kept, np, cl, cf, tn, tf, dl, df, sdf, cnf, cbf, mkf, num, rep, kf, uto, ufi, use, sop, sow, sid, sbe, sla, mmz, msz, msd, mbg, mka, mta, mwd, mms, mhs, mke, msa, mkn, mkb, mku, mit, msi, mtx, mra, fo, hw, ho, hR⟩ := iv_wd hI hw
  refine lv_istore (lv' := [(6, .int v_2), (5, .int v_1), (0, .ref b), (1, .ref (ad 0)), (2, .ref (md 0)), (3, .ref oa), (4, .int (nI i))]) hx hb dL_law_938 hl (by decide) rfl (fun ls hl => ?_)
  refine lv_aload_n hx hb dL_law_940 rfl (lv_at hl 4 rfl) ?_
  refine cl_iL hw (rn_VL F hw (c_X8_thrown g l md th mmz msz now gr mo re msd mbg kept lin rfd rnd mka mta mwd mms mhs mke msa mkn mkb mku uto ufi use mit sow sid sbe sla msi mtx mra) (cw_L_76 F.2.2.2.2 ⟨by decide, by decide⟩) 0 rfl rfl rfl hl.1 rfl (Nat.le_of_ble_eq_true rfl) dL_law_941 hcs) (fun v_3 u_3 H locs hp_3 hw => ?_)
  obtain rfl : v_3 = th := hp_3
  refine lv_iload hx hb dL_law_944 (lv_at hl 1 rfl) ?_
  refine lv_icmp_eq (tgt := 951) hx hb dL_law_946 (by decide) (fun c_946 => ?_) (fun c_946 => ?_)
  · skip
    refine lv_iload hx hb dL_law_951 (lv_at hl 1 rfl) ?_
    refine lv_if_ne (tgt := 968) hx hb dL_law_953 (by decide) (fun c_953 => ?_) (fun c_953 => ?_)
    · skip
      refine lv_goto (tgt := 1218) hx hb dL_law_968 (by decide) ?_
      exact kk _ _ _ _ _ _ (iv_mk ho hR) hw (lv_sub hl [2, 3, 4, 5, 6] rfl)
    · skip
      refine lv_aload_n hx hb dL_law_956 rfl (lv_at hl 5 rfl) ?_
      refine lv_iconst (v := nI 0) hx hb dL_law_957 (by decide) ?_
      refine ja_ld F hw 23 rfl (by omega) (by omega) dL_law_958 ?_
      refine lv_iload hx hb dL_law_959 (lv_at hl 0 rfl) ?_
      refine lv_i2l (v := (v_2).toInt64) hx hb dL_law_961 rfl ?_
      refine lc_eq (tgt := 968) hx hb dL_law_962 dL_law_963 (by decide) (fun c_962 => ?_) (fun c_962 => ?_)
      · skip
        refine lv_goto (tgt := 1218) hx hb dL_law_968 (by decide) ?_
        exact kk _ _ _ _ _ _ (iv_mk ho hR) hw (lv_sub hl [2, 3, 4, 5, 6] rfl)
      · exact absurd (ho.trans (e2 c_953)) c_962
  · exact absurd e1.symm c_946
set_option maxHeartbeats 4000000 in
set_option maxRecDepth 100000 in
theorem law_sign (F : CallFix p m c cL_law 8 s #[Value.ref b] BIG RL) (hX : va_X b L xs s s.heap) (hbl : b < s.heap.size) (hL : L ≤ 3584) (hi : i + 7 ≤ L) (hn : n < 600) (hst : l.stackTraces = false) (hcs : cells + 1 ≤ room_1.cells ∧ slots + 6 ≤ room_1.slots)
    (kk : ∀ (th : Int32) (o : Int64) (Wo : va_W) (H : Heap) (locs : List Loc) (ls : Array Slot), Iv g ad ka kb ua sa md oa (n + 1) th o Wo → Wd g s (fun q : Nat => s.heap.size ≤ q) H locs Wo → lv_has ls 8 [(0, .ref b), (1, .ref (ad 0)), (2, .ref (md 0)), (3, .ref oa), (4, .int (nI i))] → W p l e room_1 s m #[Value.ref b] below meth c H locs (cells + 1) (slots + 6) Q (F0 m 1218 ls []))
    (hw : Wd g s (fun q : Nat => s.heap.size ≤ q) H locs (mX g md mfa mmz msz now gr mo re msd mbg kept lin rfd rnd mka mta mwd mms mhs mke msa mkn mkb mku uto ufi use mit sow sid sbe sla msi mtx mra ++ ([(oa, jA g 1 fo)] ++ (gX g ad ka ua sa now gr mo re bgn lin rfd rnd mB mb ms mt kept np cl cf tn tf dl df sdf cnf cbf mkf ++ (tl 4 ka (kE kb num rep) ++ (tl 4 kb (bE g kf) ++ (tl 8 ua (uE uto ufi use) ++ (tl 8 sa (sE sop sow sid sbe sla) ++ [])))))))) (hR : Rel n kept np num rep kf mkn mku mkb sop mit cl cf tn tf msi mtx sdf bgn msd mbg dl sow) (hl : lv_has ls 8 [(0, .ref b), (1, .ref (ad 0)), (2, .ref (md 0)), (3, .ref oa), (4, .int (nI i))]) : W p l e room_1 s m #[Value.ref b] below meth c H locs cells slots Q (F0 m 971 ls []) := by
  have hx := F.1
  have hb := F.2.1
  refine lv_aload_n hx hb dL_law_971 rfl (lv_at hl 1 rfl) ?_
  refine lv_aload_n hx hb dL_law_972 rfl (lv_at hl 0 rfl) ?_
  refine lv_iload hx hb dL_law_973 (lv_at hl 4 rfl) ?_
  refine lv_iconst (v := nI 1) hx hb dL_law_975 (by decide) ?_
  refine n_add hx hb dL_law_976 ?_
  refine sc_ld F hX hbl hw (show i + 1 < L by omega) hL dL_law_977 ?_
  refine lv_aload_n hx hb dL_law_978 rfl (lv_at hl 0 rfl) ?_
  refine lv_iload hx hb dL_law_979 (lv_at hl 4 rfl) ?_
  refine lv_iconst (v := nI 2) hx hb dL_law_981 (by decide) ?_
  refine n_add hx hb dL_law_982 ?_
  refine sc_ld F hX hbl hw (show i + 2 < L by omega) hL dL_law_983 ?_
  refine lv_aload_n hx hb dL_law_984 rfl (lv_at hl 3 rfl) ?_
  refine cl_iR hw (rn_W F hw (w_sign g l (ad 0) oa (xs (i + 1)) (xs (i + 2)) fo (c_X7_sign g l ad ka kb ua sa now gr mo re bgn lin rfd rnd mB mb ms mt kept np cl cf tn tf dl df sdf cnf cbf mkf num rep kf uto ufi use sop sow sid sbe sla (xs (i + 1)) (xs (i + 2)) hR.2.2.1.1 hR.2.2.1.2.1 hst) rfl (fun E h => h.1)) (cw_L_120 F.2.2.2.2 ⟨by decide, by decide⟩) hl.1 rfl (Nat.le_of_ble_eq_true rfl) dL_law_985 hcs) (fun v_1 u_1 H locs hp_1 hw => ?_)
  refine lv_istore (lv' := [(5, .int v_1), (0, .ref b), (1, .ref (ad 0)), (2, .ref (md 0)), (3, .ref oa), (4, .int (nI i))]) hx hb dL_law_988 hl (by decide) rfl (fun ls hl => ?_)
  refine lv_aload_n hx hb dL_law_990 rfl (lv_at hl 3 rfl) ?_
  refine lv_aload_n hx hb dL_law_991 rfl (lv_at hl 1 rfl) ?_
  refine lv_iload hx hb dL_law_992 (lv_at hl 5 rfl) ?_
  refine lv_iconst (v := nI 1) hx hb dL_law_994 (by decide) ?_
  refine n_add hx hb dL_law_995 ?_
  refine sc_ld F hX hbl hw (show i + 1 < L by omega) hL dL_law_996 ?_
  refine lv_aload_n hx hb dL_law_997 rfl (lv_at hl 1 rfl) ?_
  refine lv_iload hx hb dL_law_998 (lv_at hl 5 rfl) ?_
  refine lv_iconst (v := nI 2) hx hb dL_law_1000 (by decide) ?_
  refine n_add hx hb dL_law_1001 ?_
  refine sc_ld F hX hbl hw (show i + 2 < L by omega) hL dL_law_1002 ?_
  refine cl_iL hw (rn_VL F hw (c_X8_sign g l md mfa mmz msz now gr mo re msd mbg kept lin rfd rnd mka mta mwd mms mhs mke msa mkn mkb mku uto ufi use mit sow sid sbe sla msi mtx mra (xs (i + 1)) (xs (i + 2)) cl tn hR.2.2.1.2.2.2.2.1 hR.2.2.1.2.2.2.2.2.1 hR.2.2.1.1 hR.2.2.1.2.1) (cw_L_123 F.2.2.2.2 ⟨by decide, by decide⟩) 0 rfl rfl rfl hl.1 rfl (Nat.le_of_ble_eq_true rfl) dL_law_1003 hcs) (fun v_2 u_2 H locs hp_2 hw => ?_)
  obtain ⟨th, o, hI, e1, e2⟩ := st_sign (v := v_1) (v2 := v_2) (u := u_1) (u2 := u_2) hR hn hp_1 hp_2
  obtain ⟨now, gr, mo, re, bgn, lin, rfd, rnd, mB, mb, ms, mt, kept, np, cl, cf, tn, tf, dl, df, sdf, cnf, cbf, mkf, num, rep, kf, uto, ufi, use, sop, sow, sid, sbe, sla, mmz, msz, msd, mbg, mka, mta, mwd, mms, mhs, mke, msa, mkn, mkb, mku, mit, msi, mtx, mra, fo, hw, ho, hR⟩ := iv_wd hI hw
  refine lv_istore (lv' := [(6, .int v_2), (5, .int v_1), (0, .ref b), (1, .ref (ad 0)), (2, .ref (md 0)), (3, .ref oa), (4, .int (nI i))]) hx hb dL_law_1006 hl (by decide) rfl (fun ls hl => ?_)
  refine lv_aload_n hx hb dL_law_1008 rfl (lv_at hl 4 rfl) ?_
  refine cl_iL hw (rn_VL F hw (c_X8_thrown g l md th mmz msz now gr mo re msd mbg kept lin rfd rnd mka mta mwd mms mhs mke msa mkn mkb mku uto ufi use mit sow sid sbe sla msi mtx mra) (cw_L_76 F.2.2.2.2 ⟨by decide, by decide⟩) 0 rfl rfl rfl hl.1 rfl (Nat.le_of_ble_eq_true rfl) dL_law_1009 hcs) (fun v_3 u_3 H locs hp_3 hw => ?_)
  obtain rfl : v_3 = th := hp_3
  refine lv_iload hx hb dL_law_1012 (lv_at hl 1 rfl) ?_
  refine lv_icmp_eq (tgt := 1019) hx hb dL_law_1014 (by decide) (fun c_1014 => ?_) (fun c_1014 => ?_)
  · skip
    refine lv_iload hx hb dL_law_1019 (lv_at hl 1 rfl) ?_
    refine lv_if_ne (tgt := 1036) hx hb dL_law_1021 (by decide) (fun c_1021 => ?_) (fun c_1021 => ?_)
    · skip
      refine lv_goto (tgt := 1218) hx hb dL_law_1036 (by decide) ?_
      exact kk _ _ _ _ _ _ (iv_mk ho hR) hw (lv_sub hl [2, 3, 4, 5, 6] rfl)
    · skip
      refine lv_aload_n hx hb dL_law_1024 rfl (lv_at hl 5 rfl) ?_
      refine lv_iconst (v := nI 0) hx hb dL_law_1025 (by decide) ?_
      refine ja_ld F hw 23 rfl (by omega) (by omega) dL_law_1026 ?_
      refine lv_iload hx hb dL_law_1027 (lv_at hl 0 rfl) ?_
      refine lv_i2l (v := (v_2).toInt64) hx hb dL_law_1029 rfl ?_
      refine lc_eq (tgt := 1036) hx hb dL_law_1030 dL_law_1031 (by decide) (fun c_1030 => ?_) (fun c_1030 => ?_)
      · skip
        refine lv_goto (tgt := 1218) hx hb dL_law_1036 (by decide) ?_
        exact kk _ _ _ _ _ _ (iv_mk ho hR) hw (lv_sub hl [2, 3, 4, 5, 6] rfl)
      · exact absurd (ho.trans (e2 c_1021)) c_1030
  · exact absurd e1.symm c_1014
set_option maxHeartbeats 4000000 in
set_option maxRecDepth 100000 in
theorem law_session (F : CallFix p m c cL_law 8 s #[Value.ref b] BIG RL) (hX : va_X b L xs s s.heap) (hbl : b < s.heap.size) (hL : L ≤ 3584) (hi : i + 7 ≤ L) (hn : n < 600) (hst : l.stackTraces = false) (hcs : cells + 1 ≤ room_1.cells ∧ slots + 6 ≤ room_1.slots)
    (kk : ∀ (th : Int32) (o : Int64) (Wo : va_W) (H : Heap) (locs : List Loc) (ls : Array Slot), Iv g ad ka kb ua sa md oa (n + 1) th o Wo → Wd g s (fun q : Nat => s.heap.size ≤ q) H locs Wo → lv_has ls 8 [(0, .ref b), (1, .ref (ad 0)), (2, .ref (md 0)), (3, .ref oa), (4, .int (nI i))] → W p l e room_1 s m #[Value.ref b] below meth c H locs (cells + 1) (slots + 6) Q (F0 m 1218 ls []))
    (hw : Wd g s (fun q : Nat => s.heap.size ≤ q) H locs (mX g md mfa mmz msz now gr mo re msd mbg kept lin rfd rnd mka mta mwd mms mhs mke msa mkn mkb mku uto ufi use mit sow sid sbe sla msi mtx mra ++ ([(oa, jA g 1 fo)] ++ (gX g ad ka ua sa now gr mo re bgn lin rfd rnd mB mb ms mt kept np cl cf tn tf dl df sdf cnf cbf mkf ++ (tl 4 ka (kE kb num rep) ++ (tl 4 kb (bE g kf) ++ (tl 8 ua (uE uto ufi use) ++ (tl 8 sa (sE sop sow sid sbe sla) ++ [])))))))) (hR : Rel n kept np num rep kf mkn mku mkb sop mit cl cf tn tf msi mtx sdf bgn msd mbg dl sow) (hl : lv_has ls 8 [(0, .ref b), (1, .ref (ad 0)), (2, .ref (md 0)), (3, .ref oa), (4, .int (nI i))]) : W p l e room_1 s m #[Value.ref b] below meth c H locs cells slots Q (F0 m 1039 ls []) := by
  have hx := F.1
  have hb := F.2.1
  refine lv_aload_n hx hb dL_law_1039 rfl (lv_at hl 1 rfl) ?_
  refine lv_aload_n hx hb dL_law_1040 rfl (lv_at hl 0 rfl) ?_
  refine lv_iload hx hb dL_law_1041 (lv_at hl 4 rfl) ?_
  refine lv_iconst (v := nI 1) hx hb dL_law_1043 (by decide) ?_
  refine n_add hx hb dL_law_1044 ?_
  refine sc_ld F hX hbl hw (show i + 1 < L by omega) hL dL_law_1045 ?_
  refine lv_aload_n hx hb dL_law_1046 rfl (lv_at hl 0 rfl) ?_
  refine lv_iload hx hb dL_law_1047 (lv_at hl 4 rfl) ?_
  refine lv_iconst (v := nI 2) hx hb dL_law_1049 (by decide) ?_
  refine n_add hx hb dL_law_1050 ?_
  refine sc_ld F hX hbl hw (show i + 2 < L by omega) hL dL_law_1051 ?_
  refine lv_aload_n hx hb dL_law_1052 rfl (lv_at hl 3 rfl) ?_
  refine cl_iR hw (rn_W F hw (w_session g l (ad 0) oa (xs (i + 1)) (xs (i + 2)) fo (c_X7_session g l ad ka kb ua sa now gr mo re bgn lin rfd rnd mB mb ms mt kept np cl cf tn tf dl df sdf cnf cbf mkf num rep kf uto ufi use sop sow sid sbe sla (xs (i + 1)) (xs (i + 2)) hst) rfl (fun E h => h.1)) (cw_L_124 F.2.2.2.2 ⟨by decide, by decide⟩) hl.1 rfl (Nat.le_of_ble_eq_true rfl) dL_law_1053 hcs) (fun v_1 u_1 H locs hp_1 hw => ?_)
  refine lv_istore (lv' := [(5, .int v_1), (0, .ref b), (1, .ref (ad 0)), (2, .ref (md 0)), (3, .ref oa), (4, .int (nI i))]) hx hb dL_law_1056 hl (by decide) rfl (fun ls hl => ?_)
  refine lv_aload_n hx hb dL_law_1058 rfl (lv_at hl 3 rfl) ?_
  refine lv_aload_n hx hb dL_law_1059 rfl (lv_at hl 1 rfl) ?_
  refine lv_iload hx hb dL_law_1060 (lv_at hl 5 rfl) ?_
  refine lv_iconst (v := nI 1) hx hb dL_law_1062 (by decide) ?_
  refine n_add hx hb dL_law_1063 ?_
  refine sc_ld F hX hbl hw (show i + 1 < L by omega) hL dL_law_1064 ?_
  refine lv_aload_n hx hb dL_law_1065 rfl (lv_at hl 1 rfl) ?_
  refine lv_iload hx hb dL_law_1066 (lv_at hl 5 rfl) ?_
  refine lv_iconst (v := nI 2) hx hb dL_law_1068 (by decide) ?_
  refine n_add hx hb dL_law_1069 ?_
  refine sc_ld F hX hbl hw (show i + 2 < L by omega) hL dL_law_1070 ?_
  refine cl_lL hw (rn_VL F hw (c_X8_session g l md mfa mmz msz now gr mo re msd mbg kept lin rfd rnd mka mta mwd mms mhs mke msa mkn mkb mku uto ufi use mit sow sid sbe sla msi mtx mra (xs (i + 1)) (xs (i + 2)) ) (cw_L_126 F.2.2.2.2 ⟨by decide, by decide⟩) 0 rfl rfl rfl hl.1 rfl (Nat.le_of_ble_eq_true rfl) dL_law_1071 hcs) (fun v_2 u_2 H locs hp_2 hw => ?_)
  obtain ⟨th, o, hI, e1, e2⟩ := st_session (v := v_1) (v2 := v_2) (u := u_1) (u2 := u_2) hR hn hp_1 hp_2
  obtain ⟨now, gr, mo, re, bgn, lin, rfd, rnd, mB, mb, ms, mt, kept, np, cl, cf, tn, tf, dl, df, sdf, cnf, cbf, mkf, num, rep, kf, uto, ufi, use, sop, sow, sid, sbe, sla, mmz, msz, msd, mbg, mka, mta, mwd, mms, mhs, mke, msa, mkn, mkb, mku, mit, msi, mtx, mra, fo, hw, ho, hR⟩ := iv_wd hI hw
  refine lv_lstore (lv' := [(6, .long v_2), (5, .int v_1), (0, .ref b), (1, .ref (ad 0)), (2, .ref (md 0)), (3, .ref oa), (4, .int (nI i))]) hx hb dL_law_1074 hl (by decide) rfl (fun ls hl => ?_)
  refine lv_aload_n hx hb dL_law_1076 rfl (lv_at hl 4 rfl) ?_
  refine cl_iL hw (rn_VL F hw (c_X8_thrown g l md th mmz msz now gr mo re msd mbg kept lin rfd rnd mka mta mwd mms mhs mke msa mkn mkb mku uto ufi use mit sow sid sbe sla msi mtx mra) (cw_L_76 F.2.2.2.2 ⟨by decide, by decide⟩) 0 rfl rfl rfl hl.1 rfl (Nat.le_of_ble_eq_true rfl) dL_law_1077 hcs) (fun v_3 u_3 H locs hp_3 hw => ?_)
  obtain rfl : v_3 = th := hp_3
  refine lv_iload hx hb dL_law_1080 (lv_at hl 1 rfl) ?_
  refine lv_icmp_eq (tgt := 1087) hx hb dL_law_1082 (by decide) (fun c_1082 => ?_) (fun c_1082 => ?_)
  · skip
    refine lv_iload hx hb dL_law_1087 (lv_at hl 1 rfl) ?_
    refine lv_if_ne (tgt := 1103) hx hb dL_law_1089 (by decide) (fun c_1089 => ?_) (fun c_1089 => ?_)
    · skip
      refine lv_goto (tgt := 1218) hx hb dL_law_1103 (by decide) ?_
      exact kk _ _ _ _ _ _ (iv_mk ho hR) hw (lv_sub hl [2, 3, 4, 5, 6] rfl)
    · skip
      refine lv_aload_n hx hb dL_law_1092 rfl (lv_at hl 5 rfl) ?_
      refine lv_iconst (v := nI 0) hx hb dL_law_1093 (by decide) ?_
      refine ja_ld F hw 23 rfl (by omega) (by omega) dL_law_1094 ?_
      refine lv_lload hx hb dL_law_1095 (lv_at hl 0 rfl) ?_
      refine lc_eq (tgt := 1103) hx hb dL_law_1097 dL_law_1098 (by decide) (fun c_1097 => ?_) (fun c_1097 => ?_)
      · skip
        refine lv_goto (tgt := 1218) hx hb dL_law_1103 (by decide) ?_
        exact kk _ _ _ _ _ _ (iv_mk ho hR) hw (lv_sub hl [2, 3, 4, 5, 6] rfl)
      · exact absurd (ho.trans (e2 c_1089)) c_1097
  · exact absurd e1.symm c_1082
set_option maxHeartbeats 4000000 in
set_option maxRecDepth 100000 in
theorem law_count (F : CallFix p m c cL_law 8 s #[Value.ref b] BIG RL) (hX : va_X b L xs s s.heap) (hbl : b < s.heap.size) (hL : L ≤ 3584) (hi : i + 7 ≤ L) (hn : n < 600) (hst : l.stackTraces = false) (hcs : cells + 1 ≤ room_1.cells ∧ slots + 6 ≤ room_1.slots)
    (kk : ∀ (th : Int32) (o : Int64) (Wo : va_W) (H : Heap) (locs : List Loc) (ls : Array Slot), Iv g ad ka kb ua sa md oa (n + 1) th o Wo → Wd g s (fun q : Nat => s.heap.size ≤ q) H locs Wo → lv_has ls 8 [(0, .ref b), (1, .ref (ad 0)), (2, .ref (md 0)), (3, .ref oa), (4, .int (nI i))] → W p l e room_1 s m #[Value.ref b] below meth c H locs (cells + 1) (slots + 6) Q (F0 m 1218 ls []))
    (hw : Wd g s (fun q : Nat => s.heap.size ≤ q) H locs (mX g md mfa mmz msz now gr mo re msd mbg kept lin rfd rnd mka mta mwd mms mhs mke msa mkn mkb mku uto ufi use mit sow sid sbe sla msi mtx mra ++ ([(oa, jA g 1 fo)] ++ (gX g ad ka ua sa now gr mo re bgn lin rfd rnd mB mb ms mt kept np cl cf tn tf dl df sdf cnf cbf mkf ++ (tl 4 ka (kE kb num rep) ++ (tl 4 kb (bE g kf) ++ (tl 8 ua (uE uto ufi use) ++ (tl 8 sa (sE sop sow sid sbe sla) ++ [])))))))) (hR : Rel n kept np num rep kf mkn mku mkb sop mit cl cf tn tf msi mtx sdf bgn msd mbg dl sow) (hl : lv_has ls 8 [(0, .ref b), (1, .ref (ad 0)), (2, .ref (md 0)), (3, .ref oa), (4, .int (nI i))]) : W p l e room_1 s m #[Value.ref b] below meth c H locs cells slots Q (F0 m 1106 ls []) := by
  have hx := F.1
  have hb := F.2.1
  refine lv_aload_n hx hb dL_law_1106 rfl (lv_at hl 1 rfl) ?_
  refine lv_aload_n hx hb dL_law_1107 rfl (lv_at hl 0 rfl) ?_
  refine lv_iload hx hb dL_law_1108 (lv_at hl 4 rfl) ?_
  refine lv_iconst (v := nI 1) hx hb dL_law_1110 (by decide) ?_
  refine n_add hx hb dL_law_1111 ?_
  refine sc_ld F hX hbl hw (show i + 1 < L by omega) hL dL_law_1112 ?_
  refine lv_aload_n hx hb dL_law_1113 rfl (lv_at hl 3 rfl) ?_
  refine cl_iR hw (rn_W F hw (w_count g l (ad 0) oa (xs (i + 1)) fo (c_X7_count g l ad ka kb ua sa now gr mo re bgn lin rfd rnd mB mb ms mt kept np cl cf tn tf dl df sdf cnf cbf mkf num rep kf uto ufi use sop sow sid sbe sla (xs (i + 1)) hR.1.2.2.1 hR.1.2.1 hst) rfl (fun E h => h.1)) (cw_L_127 F.2.2.2.2 ⟨by decide, by decide⟩) hl.1 rfl (Nat.le_of_ble_eq_true rfl) dL_law_1114 hcs) (fun v_1 u_1 H locs hp_1 hw => ?_)
  refine lv_istore (lv' := [(5, .int v_1), (0, .ref b), (1, .ref (ad 0)), (2, .ref (md 0)), (3, .ref oa), (4, .int (nI i))]) hx hb dL_law_1117 hl (by decide) rfl (fun ls hl => ?_)
  refine lv_aload_n hx hb dL_law_1119 rfl (lv_at hl 3 rfl) ?_
  refine lv_aload_n hx hb dL_law_1120 rfl (lv_at hl 1 rfl) ?_
  refine lv_iload hx hb dL_law_1121 (lv_at hl 5 rfl) ?_
  refine lv_iconst (v := nI 1) hx hb dL_law_1123 (by decide) ?_
  refine n_add hx hb dL_law_1124 ?_
  refine sc_ld F hX hbl hw (show i + 1 < L by omega) hL dL_law_1125 ?_
  refine cl_iL hw (rn_VL F hw (c_X8_count g l md mfa mmz msz now gr mo re msd mbg kept lin rfd rnd mka mta mwd mms mhs mke msa mkn mkb mku uto ufi use mit sow sid sbe sla msi mtx mra (xs (i + 1)) hR.1.1 hR.1.2.1) (cw_L_129 F.2.2.2.2 ⟨by decide, by decide⟩) 0 rfl rfl rfl hl.1 rfl (Nat.le_of_ble_eq_true rfl) dL_law_1126 hcs) (fun v_2 u_2 H locs hp_2 hw => ?_)
  obtain ⟨th, o, hI, e1, e2⟩ := st_count (v := v_1) (v2 := v_2) (u := u_1) (u2 := u_2) hR hn hp_1 hp_2
  obtain ⟨now, gr, mo, re, bgn, lin, rfd, rnd, mB, mb, ms, mt, kept, np, cl, cf, tn, tf, dl, df, sdf, cnf, cbf, mkf, num, rep, kf, uto, ufi, use, sop, sow, sid, sbe, sla, mmz, msz, msd, mbg, mka, mta, mwd, mms, mhs, mke, msa, mkn, mkb, mku, mit, msi, mtx, mra, fo, hw, ho, hR⟩ := iv_wd hI hw
  refine lv_istore (lv' := [(6, .int v_2), (5, .int v_1), (0, .ref b), (1, .ref (ad 0)), (2, .ref (md 0)), (3, .ref oa), (4, .int (nI i))]) hx hb dL_law_1129 hl (by decide) rfl (fun ls hl => ?_)
  refine lv_aload_n hx hb dL_law_1131 rfl (lv_at hl 4 rfl) ?_
  refine cl_iL hw (rn_VL F hw (c_X8_thrown g l md th mmz msz now gr mo re msd mbg kept lin rfd rnd mka mta mwd mms mhs mke msa mkn mkb mku uto ufi use mit sow sid sbe sla msi mtx mra) (cw_L_76 F.2.2.2.2 ⟨by decide, by decide⟩) 0 rfl rfl rfl hl.1 rfl (Nat.le_of_ble_eq_true rfl) dL_law_1132 hcs) (fun v_3 u_3 H locs hp_3 hw => ?_)
  obtain rfl : v_3 = th := hp_3
  refine lv_iload hx hb dL_law_1135 (lv_at hl 1 rfl) ?_
  refine lv_icmp_eq (tgt := 1142) hx hb dL_law_1137 (by decide) (fun c_1137 => ?_) (fun c_1137 => ?_)
  · skip
    refine lv_iload hx hb dL_law_1142 (lv_at hl 1 rfl) ?_
    refine lv_if_ne (tgt := 1159) hx hb dL_law_1144 (by decide) (fun c_1144 => ?_) (fun c_1144 => ?_)
    · skip
      refine lv_goto (tgt := 1218) hx hb dL_law_1159 (by decide) ?_
      exact kk _ _ _ _ _ _ (iv_mk ho hR) hw (lv_sub hl [2, 3, 4, 5, 6] rfl)
    · skip
      refine lv_aload_n hx hb dL_law_1147 rfl (lv_at hl 5 rfl) ?_
      refine lv_iconst (v := nI 0) hx hb dL_law_1148 (by decide) ?_
      refine ja_ld F hw 23 rfl (by omega) (by omega) dL_law_1149 ?_
      refine lv_iload hx hb dL_law_1150 (lv_at hl 0 rfl) ?_
      refine lv_i2l (v := (v_2).toInt64) hx hb dL_law_1152 rfl ?_
      refine lc_eq (tgt := 1159) hx hb dL_law_1153 dL_law_1154 (by decide) (fun c_1153 => ?_) (fun c_1153 => ?_)
      · skip
        refine lv_goto (tgt := 1218) hx hb dL_law_1159 (by decide) ?_
        exact kk _ _ _ _ _ _ (iv_mk ho hR) hw (lv_sub hl [2, 3, 4, 5, 6] rfl)
      · exact absurd (ho.trans (e2 c_1144)) c_1153
  · exact absurd e1.symm c_1137
set_option maxHeartbeats 4000000 in
set_option maxRecDepth 100000 in
theorem law_octet (F : CallFix p m c cL_law 8 s #[Value.ref b] BIG RL) (hX : va_X b L xs s s.heap) (hbl : b < s.heap.size) (hL : L ≤ 3584) (hi : i + 7 ≤ L) (hn : n < 600) (hst : l.stackTraces = false) (hcs : cells + 1 ≤ room_1.cells ∧ slots + 6 ≤ room_1.slots)
    (kk : ∀ (th : Int32) (o : Int64) (Wo : va_W) (H : Heap) (locs : List Loc) (ls : Array Slot), Iv g ad ka kb ua sa md oa (n + 1) th o Wo → Wd g s (fun q : Nat => s.heap.size ≤ q) H locs Wo → lv_has ls 8 [(0, .ref b), (1, .ref (ad 0)), (2, .ref (md 0)), (3, .ref oa), (4, .int (nI i))] → W p l e room_1 s m #[Value.ref b] below meth c H locs (cells + 1) (slots + 6) Q (F0 m 1218 ls []))
    (hw : Wd g s (fun q : Nat => s.heap.size ≤ q) H locs (mX g md mfa mmz msz now gr mo re msd mbg kept lin rfd rnd mka mta mwd mms mhs mke msa mkn mkb mku uto ufi use mit sow sid sbe sla msi mtx mra ++ ([(oa, jA g 1 fo)] ++ (gX g ad ka ua sa now gr mo re bgn lin rfd rnd mB mb ms mt kept np cl cf tn tf dl df sdf cnf cbf mkf ++ (tl 4 ka (kE kb num rep) ++ (tl 4 kb (bE g kf) ++ (tl 8 ua (uE uto ufi use) ++ (tl 8 sa (sE sop sow sid sbe sla) ++ [])))))))) (hR : Rel n kept np num rep kf mkn mku mkb sop mit cl cf tn tf msi mtx sdf bgn msd mbg dl sow) (hl : lv_has ls 8 [(0, .ref b), (1, .ref (ad 0)), (2, .ref (md 0)), (3, .ref oa), (4, .int (nI i))]) : W p l e room_1 s m #[Value.ref b] below meth c H locs cells slots Q (F0 m 1162 ls []) := by
  have hx := F.1
  have hb := F.2.1
  refine lv_aload_n hx hb dL_law_1162 rfl (lv_at hl 1 rfl) ?_
  refine lv_aload_n hx hb dL_law_1163 rfl (lv_at hl 0 rfl) ?_
  refine lv_iload hx hb dL_law_1164 (lv_at hl 4 rfl) ?_
  refine lv_iconst (v := nI 1) hx hb dL_law_1166 (by decide) ?_
  refine n_add hx hb dL_law_1167 ?_
  refine sc_ld F hX hbl hw (show i + 1 < L by omega) hL dL_law_1168 ?_
  refine lv_aload_n hx hb dL_law_1169 rfl (lv_at hl 3 rfl) ?_
  refine cl_iR hw (rn_W F hw (w_octet g l (ad 0) oa (xs (i + 1)) fo (c_X7_octet g l ad ka kb ua sa now gr mo re bgn lin rfd rnd mB mb ms mt kept np cl cf tn tf dl df sdf cnf cbf mkf num rep kf uto ufi use sop sow sid sbe sla (xs (i + 1)) hR.1.2.2.1 hR.2.2.1.1 hst) rfl (fun E h => h.1)) (cw_L_130 F.2.2.2.2 ⟨by decide, by decide⟩) hl.1 rfl (Nat.le_of_ble_eq_true rfl) dL_law_1170 hcs) (fun v_1 u_1 H locs hp_1 hw => ?_)
  refine lv_istore (lv' := [(5, .int v_1), (0, .ref b), (1, .ref (ad 0)), (2, .ref (md 0)), (3, .ref oa), (4, .int (nI i))]) hx hb dL_law_1173 hl (by decide) rfl (fun ls hl => ?_)
  refine lv_aload_n hx hb dL_law_1175 rfl (lv_at hl 3 rfl) ?_
  refine lv_aload_n hx hb dL_law_1176 rfl (lv_at hl 1 rfl) ?_
  refine lv_iload hx hb dL_law_1177 (lv_at hl 5 rfl) ?_
  refine lv_iconst (v := nI 1) hx hb dL_law_1179 (by decide) ?_
  refine n_add hx hb dL_law_1180 ?_
  refine sc_ld F hX hbl hw (show i + 1 < L by omega) hL dL_law_1181 ?_
  refine cl_iL hw (rn_VL F hw (c_X8_octet g l md mfa mmz msz now gr mo re msd mbg kept lin rfd rnd mka mta mwd mms mhs mke msa mkn mkb mku uto ufi use mit sow sid sbe sla msi mtx mra (xs (i + 1)) hR.1.1 hR.1.2.1 cl hR.2.2.1.2.2.2.2.1 hR.2.2.1.1) (cw_L_132 F.2.2.2.2 ⟨by decide, by decide⟩) 0 rfl rfl rfl hl.1 rfl (Nat.le_of_ble_eq_true rfl) dL_law_1182 hcs) (fun v_2 u_2 H locs hp_2 hw => ?_)
  obtain ⟨th, o, hI, e1, e2⟩ := st_octet (v := v_1) (v2 := v_2) (u := u_1) (u2 := u_2) hR hn hp_1 hp_2
  obtain ⟨now, gr, mo, re, bgn, lin, rfd, rnd, mB, mb, ms, mt, kept, np, cl, cf, tn, tf, dl, df, sdf, cnf, cbf, mkf, num, rep, kf, uto, ufi, use, sop, sow, sid, sbe, sla, mmz, msz, msd, mbg, mka, mta, mwd, mms, mhs, mke, msa, mkn, mkb, mku, mit, msi, mtx, mra, fo, hw, ho, hR⟩ := iv_wd hI hw
  refine lv_istore (lv' := [(6, .int v_2), (5, .int v_1), (0, .ref b), (1, .ref (ad 0)), (2, .ref (md 0)), (3, .ref oa), (4, .int (nI i))]) hx hb dL_law_1185 hl (by decide) rfl (fun ls hl => ?_)
  refine lv_aload_n hx hb dL_law_1187 rfl (lv_at hl 4 rfl) ?_
  refine cl_iL hw (rn_VL F hw (c_X8_thrown g l md th mmz msz now gr mo re msd mbg kept lin rfd rnd mka mta mwd mms mhs mke msa mkn mkb mku uto ufi use mit sow sid sbe sla msi mtx mra) (cw_L_76 F.2.2.2.2 ⟨by decide, by decide⟩) 0 rfl rfl rfl hl.1 rfl (Nat.le_of_ble_eq_true rfl) dL_law_1188 hcs) (fun v_3 u_3 H locs hp_3 hw => ?_)
  obtain rfl : v_3 = th := hp_3
  refine lv_iload hx hb dL_law_1191 (lv_at hl 1 rfl) ?_
  refine lv_icmp_eq (tgt := 1198) hx hb dL_law_1193 (by decide) (fun c_1193 => ?_) (fun c_1193 => ?_)
  · skip
    refine lv_iload hx hb dL_law_1198 (lv_at hl 1 rfl) ?_
    refine lv_if_ne (tgt := 1215) hx hb dL_law_1200 (by decide) (fun c_1200 => ?_) (fun c_1200 => ?_)
    · skip
      refine lv_goto (tgt := 1218) hx hb dL_law_1215 (by decide) ?_
      exact kk _ _ _ _ _ _ (iv_mk ho hR) hw (lv_sub hl [2, 3, 4, 5, 6] rfl)
    · skip
      refine lv_aload_n hx hb dL_law_1203 rfl (lv_at hl 5 rfl) ?_
      refine lv_iconst (v := nI 0) hx hb dL_law_1204 (by decide) ?_
      refine ja_ld F hw 23 rfl (by omega) (by omega) dL_law_1205 ?_
      refine lv_iload hx hb dL_law_1206 (lv_at hl 0 rfl) ?_
      refine lv_i2l (v := (v_2).toInt64) hx hb dL_law_1208 rfl ?_
      refine lc_eq (tgt := 1215) hx hb dL_law_1209 dL_law_1210 (by decide) (fun c_1209 => ?_) (fun c_1209 => ?_)
      · skip
        refine lv_goto (tgt := 1218) hx hb dL_law_1215 (by decide) ?_
        exact kk _ _ _ _ _ _ (iv_mk ho hR) hw (lv_sub hl [2, 3, 4, 5, 6] rfl)
      · exact absurd (ho.trans (e2 c_1200)) c_1209
  · exact absurd e1.symm c_1193
end LW
