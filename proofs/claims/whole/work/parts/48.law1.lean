section LW
variable {p : Program} {l : Launch} {e : Env} {s : State} {m : MethodId} {below : List Frame} {meth : Method} {c : Code} {g : GG} {ad ka kb ua sa md : Nat → Nat} {oa b L i n : Nat} {xs : Nat → Int32} {Q : State → Prop} {H : Heap} {locs : List Loc} {cells slots : Nat} {ls : Array Slot}
variable {now : Int64} {gr : Int64} {mo : Int64} {re : Int64} {bgn : Int32} {lin : Int32} {rfd : Int32} {rnd : Int32} {mB : Nat → Int32} {mb : Nat → Int32} {ms : Nat → Int32} {mt : Nat → Int32} {kept : Nat} {np : Nat} {cl : Nat} {cf : Nat → Int32} {tn : Nat} {tf : Nat → Int32} {dl : Nat} {df : Nat → Int32} {sdf : Nat → Int32} {cnf : Nat → Int32} {cbf : Nat → Int32} {mkf : Nat → Int32} {num : Nat → Int32} {rep : Nat → Int64} {kf : Nat → Nat → Int32} {uto : Nat → Int32} {ufi : Nat → Int32} {use : Nat → Int32} {sop : Nat → Int32} {sow : Nat → Int32} {sid : Nat → Int64} {sbe : Nat → Int64} {sla : Nat → Int64} {mfa : Int32} {mmz : Nat} {msz : Nat} {msd : Int64} {mbg : Int64} {mka : Int32} {mta : Nat → Int32} {mwd : Nat → Int32} {mms : Nat → Int32} {mhs : Nat → Int32} {mke : Nat → Int32} {msa : Nat → Int32} {mkn : Nat → Int32} {mkb : Nat → Int32} {mku : Nat → Int64} {mit : Nat → Int32} {msi : Nat → Int32} {mtx : Nat → Int32} {mra : Nat → Int32} {fo : Nat → Int64}
set_option maxHeartbeats 4000000 in
set_option maxRecDepth 100000 in
theorem law_seed (F : CallFix p m c cL_law 8 s #[Value.ref b] BIG RL) (hX : va_X b L xs s s.heap) (hbl : b < s.heap.size) (hL : L ≤ 3584) (hi : i + 7 ≤ L) (hn : n < 600) (hst : l.stackTraces = false) (hcs : cells + 1 ≤ room_1.cells ∧ slots + 6 ≤ room_1.slots)
    (kk : ∀ (th : Int32) (o : Int64) (Wo : va_W) (H : Heap) (locs : List Loc) (ls : Array Slot), Iv g ad ka kb ua sa md oa (n + 1) th o Wo → Wd g s (fun q : Nat => s.heap.size ≤ q) H locs Wo → lv_has ls 8 [(0, .ref b), (1, .ref (ad 0)), (2, .ref (md 0)), (3, .ref oa), (4, .int (nI i))] → W p l e room_1 s m #[Value.ref b] below meth c H locs (cells + 1) (slots + 6) Q (F0 m 1218 ls []))
    (hw : Wd g s (fun q : Nat => s.heap.size ≤ q) H locs (mX g md mfa mmz msz now gr mo re msd mbg kept lin rfd rnd mka mta mwd mms mhs mke msa mkn mkb mku uto ufi use mit sow sid sbe sla msi mtx mra ++ ([(oa, jA g 1 fo)] ++ (gX g ad ka ua sa now gr mo re bgn lin rfd rnd mB mb ms mt kept np cl cf tn tf dl df sdf cnf cbf mkf ++ (tl 4 ka (kE kb num rep) ++ (tl 4 kb (bE g kf) ++ (tl 8 ua (uE uto ufi use) ++ (tl 8 sa (sE sop sow sid sbe sla) ++ [])))))))) (hR : Rel n kept np num rep kf mkn mku mkb sop mit cl cf tn tf msi mtx sdf bgn msd mbg dl sow) (hl : lv_has ls 8 [(0, .ref b), (1, .ref (ad 0)), (2, .ref (md 0)), (3, .ref oa), (4, .int (nI i))]) : W p l e room_1 s m #[Value.ref b] below meth c H locs cells slots Q (F0 m 120 ls []) := by
  have hx := F.1
  have hb := F.2.1
  refine lv_aload_n hx hb dL_law_120 rfl (lv_at hl 1 rfl) ?_
  refine lv_aload_n hx hb dL_law_121 rfl (lv_at hl 0 rfl) ?_
  refine lv_iload hx hb dL_law_122 (lv_at hl 4 rfl) ?_
  refine lv_iconst (v := nI 1) hx hb dL_law_124 (by decide) ?_
  refine n_add hx hb dL_law_125 ?_
  refine sc_ld F hX hbl hw (show i + 1 < L by omega) hL dL_law_126 ?_
  refine lv_i2l (v := ((xs (i + 1))).toInt64) hx hb dL_law_127 rfl ?_
  refine lv_bipush (v := nI 32) hx hb dL_law_128 (by decide) ?_
  refine lv_lshl (v := lshl (((xs (i + 1))).toInt64) (nI 32)) hx hb dL_law_130 rfl ?_
  refine lv_aload_n hx hb dL_law_131 rfl (lv_at hl 0 rfl) ?_
  refine lv_iload hx hb dL_law_132 (lv_at hl 4 rfl) ?_
  refine lv_iconst (v := nI 2) hx hb dL_law_134 (by decide) ?_
  refine n_add hx hb dL_law_135 ?_
  refine sc_ld F hX hbl hw (show i + 2 < L by omega) hL dL_law_136 ?_
  refine lv_i2l (v := ((xs (i + 2))).toInt64) hx hb dL_law_137 rfl ?_
  refine lv_ldc2 hx hb F.2.2.2.1 (F.2.2.2.2 _ bg_1_7) dL_law_138 ?_
  refine lv_land hx hb dL_law_141 ?_
  refine lv_lor hx hb dL_law_142 ?_
  replace hw := wd_as hw
  refine cl_vR hw (rn_VR F hw (c_X7_seed g l ad ka kb ua sa now gr mo re bgn lin rfd rnd mB mb ms mt kept np cl cf tn tf dl df sdf cnf cbf mkf num rep kf uto ufi use sop sow sid sbe sla ((lshl (((xs (i + 1))).toInt64) (nI 32)) ||| ((((xs (i + 2))).toInt64) &&& (4294967295))) ) (cw_L_65 F.2.2.2.2 ⟨by decide, by decide⟩) 0 rfl rfl rfl hl.1 rfl (Nat.le_of_ble_eq_true rfl) dL_law_143 ⟨Nat.le_of_succ_le hcs.1, Nat.le_trans (Nat.le_add_right _ 6) hcs.2⟩) (fun u_1 H locs hp_1 hw => ?_)
  replace hw := wd_sa hw
  refine lv_aload_n hx hb dL_law_146 rfl (lv_at hl 2 rfl) ?_
  refine lv_aload_n hx hb dL_law_147 rfl (lv_at hl 0 rfl) ?_
  refine lv_iload hx hb dL_law_148 (lv_at hl 4 rfl) ?_
  refine lv_iconst (v := nI 1) hx hb dL_law_150 (by decide) ?_
  refine n_add hx hb dL_law_151 ?_
  refine sc_ld F hX hbl hw (show i + 1 < L by omega) hL dL_law_152 ?_
  refine lv_i2l (v := ((xs (i + 1))).toInt64) hx hb dL_law_153 rfl ?_
  refine lv_bipush (v := nI 32) hx hb dL_law_154 (by decide) ?_
  refine lv_lshl (v := lshl (((xs (i + 1))).toInt64) (nI 32)) hx hb dL_law_156 rfl ?_
  refine lv_aload_n hx hb dL_law_157 rfl (lv_at hl 0 rfl) ?_
  refine lv_iload hx hb dL_law_158 (lv_at hl 4 rfl) ?_
  refine lv_iconst (v := nI 2) hx hb dL_law_160 (by decide) ?_
  refine n_add hx hb dL_law_161 ?_
  refine sc_ld F hX hbl hw (show i + 2 < L by omega) hL dL_law_162 ?_
  refine lv_i2l (v := ((xs (i + 2))).toInt64) hx hb dL_law_163 rfl ?_
  refine lv_ldc2 hx hb F.2.2.2.1 (F.2.2.2.2 _ bg_1_7) dL_law_164 ?_
  refine lv_land hx hb dL_law_167 ?_
  refine lv_lor hx hb dL_law_168 ?_
  refine cl_vL hw (rn_VL F hw (c_X8_seed g l md mfa mmz msz now gr mo re msd mbg kept lin rfd rnd mka mta mwd mms mhs mke msa mkn mkb mku uto ufi use mit sow sid sbe sla msi mtx mra ((lshl (((xs (i + 1))).toInt64) (nI 32)) ||| ((((xs (i + 2))).toInt64) &&& (4294967295))) ) (cw_L_69 F.2.2.2.2 ⟨by decide, by decide⟩) 0 rfl rfl rfl hl.1 rfl (Nat.le_of_ble_eq_true rfl) dL_law_169 ⟨Nat.le_of_succ_le hcs.1, Nat.le_trans (Nat.le_add_right _ 6) hcs.2⟩) (fun u_2 H locs hp_2 hw => ?_)
  obtain ⟨th, o, hI⟩ := st_seed (u := u_1) (u2 := u_2) hR hn hp_1 hp_2
  obtain ⟨now, gr, mo, re, bgn, lin, rfd, rnd, mB, mb, ms, mt, kept, np, cl, cf, tn, tf, dl, df, sdf, cnf, cbf, mkf, num, rep, kf, uto, ufi, use, sop, sow, sid, sbe, sla, mmz, msz, msd, mbg, mka, mta, mwd, mms, mhs, mke, msa, mkn, mkb, mku, mit, msi, mtx, mra, fo, hw, ho, hR⟩ := iv_wd hI hw
  refine lv_goto (tgt := 1218) hx hb dL_law_172 (by decide) ?_
  refine W.widen (k := cells + 1) (n := slots + 6) (by omega) (by omega) ?_
  exact kk _ _ _ _ _ _ (iv_mk ho hR) hw (lv_sub hl [0, 1, 2, 3, 4] rfl)
set_option maxHeartbeats 4000000 in
set_option maxRecDepth 100000 in
theorem law_pass (F : CallFix p m c cL_law 8 s #[Value.ref b] BIG RL) (hX : va_X b L xs s s.heap) (hbl : b < s.heap.size) (hL : L ≤ 3584) (hi : i + 7 ≤ L) (hn : n < 600) (hst : l.stackTraces = false) (hcs : cells + 1 ≤ room_1.cells ∧ slots + 6 ≤ room_1.slots)
    (kk : ∀ (th : Int32) (o : Int64) (Wo : va_W) (H : Heap) (locs : List Loc) (ls : Array Slot), Iv g ad ka kb ua sa md oa (n + 1) th o Wo → Wd g s (fun q : Nat => s.heap.size ≤ q) H locs Wo → lv_has ls 8 [(0, .ref b), (1, .ref (ad 0)), (2, .ref (md 0)), (3, .ref oa), (4, .int (nI i))] → W p l e room_1 s m #[Value.ref b] below meth c H locs (cells + 1) (slots + 6) Q (F0 m 1218 ls []))
    (hw : Wd g s (fun q : Nat => s.heap.size ≤ q) H locs (mX g md mfa mmz msz now gr mo re msd mbg kept lin rfd rnd mka mta mwd mms mhs mke msa mkn mkb mku uto ufi use mit sow sid sbe sla msi mtx mra ++ ([(oa, jA g 1 fo)] ++ (gX g ad ka ua sa now gr mo re bgn lin rfd rnd mB mb ms mt kept np cl cf tn tf dl df sdf cnf cbf mkf ++ (tl 4 ka (kE kb num rep) ++ (tl 4 kb (bE g kf) ++ (tl 8 ua (uE uto ufi use) ++ (tl 8 sa (sE sop sow sid sbe sla) ++ [])))))))) (hR : Rel n kept np num rep kf mkn mku mkb sop mit cl cf tn tf msi mtx sdf bgn msd mbg dl sow) (hl : lv_has ls 8 [(0, .ref b), (1, .ref (ad 0)), (2, .ref (md 0)), (3, .ref oa), (4, .int (nI i))]) : W p l e room_1 s m #[Value.ref b] below meth c H locs cells slots Q (F0 m 175 ls []) := by
  have hx := F.1
  have hb := F.2.1
  refine lv_aload_n hx hb dL_law_175 rfl (lv_at hl 1 rfl) ?_
  refine lv_aload_n hx hb dL_law_176 rfl (lv_at hl 0 rfl) ?_
  refine lv_iload hx hb dL_law_177 (lv_at hl 4 rfl) ?_
  refine lv_iconst (v := nI 1) hx hb dL_law_179 (by decide) ?_
  refine n_add hx hb dL_law_180 ?_
  refine sc_ld F hX hbl hw (show i + 1 < L by omega) hL dL_law_181 ?_
  refine lv_i2l (v := ((xs (i + 1))).toInt64) hx hb dL_law_182 rfl ?_
  refine lv_bipush (v := nI 32) hx hb dL_law_183 (by decide) ?_
  refine lv_lshl (v := lshl (((xs (i + 1))).toInt64) (nI 32)) hx hb dL_law_185 rfl ?_
  refine lv_aload_n hx hb dL_law_186 rfl (lv_at hl 0 rfl) ?_
  refine lv_iload hx hb dL_law_187 (lv_at hl 4 rfl) ?_
  refine lv_iconst (v := nI 2) hx hb dL_law_189 (by decide) ?_
  refine n_add hx hb dL_law_190 ?_
  refine sc_ld F hX hbl hw (show i + 2 < L by omega) hL dL_law_191 ?_
  refine lv_i2l (v := ((xs (i + 2))).toInt64) hx hb dL_law_192 rfl ?_
  refine lv_ldc2 hx hb F.2.2.2.1 (F.2.2.2.2 _ bg_1_7) dL_law_193 ?_
  refine lv_land hx hb dL_law_196 ?_
  refine lv_lor hx hb dL_law_197 ?_
  refine lv_aload_n hx hb dL_law_198 rfl (lv_at hl 3 rfl) ?_
  refine cl_iR hw (rn_W F hw (w_pass g l (ad 0) oa ((lshl (((xs (i + 1))).toInt64) (nI 32)) ||| ((((xs (i + 2))).toInt64) &&& (4294967295))) fo (c_X7_pass g l ad ka kb ua sa now gr mo re bgn lin rfd rnd mB mb ms mt kept np cl cf tn tf dl df sdf cnf cbf mkf num rep kf uto ufi use sop sow sid sbe sla ((lshl (((xs (i + 1))).toInt64) (nI 32)) ||| ((((xs (i + 2))).toInt64) &&& (4294967295))) hst) rfl (fun E h => h.1)) (cw_L_70 F.2.2.2.2 ⟨by decide, by decide⟩) hl.1 rfl (Nat.le_of_ble_eq_true rfl) dL_law_199 hcs) (fun v_1 u_1 H locs hp_1 hw => ?_)
  refine lv_istore (lv' := [(5, .int v_1), (0, .ref b), (1, .ref (ad 0)), (2, .ref (md 0)), (3, .ref oa), (4, .int (nI i))]) hx hb dL_law_202 hl (by decide) rfl (fun ls hl => ?_)
  refine lv_aload_n hx hb dL_law_204 rfl (lv_at hl 3 rfl) ?_
  refine lv_aload_n hx hb dL_law_205 rfl (lv_at hl 1 rfl) ?_
  refine lv_iload hx hb dL_law_206 (lv_at hl 5 rfl) ?_
  refine lv_iconst (v := nI 1) hx hb dL_law_208 (by decide) ?_
  refine n_add hx hb dL_law_209 ?_
  refine sc_ld F hX hbl hw (show i + 1 < L by omega) hL dL_law_210 ?_
  refine lv_i2l (v := ((xs (i + 1))).toInt64) hx hb dL_law_211 rfl ?_
  refine lv_bipush (v := nI 32) hx hb dL_law_212 (by decide) ?_
  refine lv_lshl (v := lshl (((xs (i + 1))).toInt64) (nI 32)) hx hb dL_law_214 rfl ?_
  refine lv_aload_n hx hb dL_law_215 rfl (lv_at hl 1 rfl) ?_
  refine lv_iload hx hb dL_law_216 (lv_at hl 5 rfl) ?_
  refine lv_iconst (v := nI 2) hx hb dL_law_218 (by decide) ?_
  refine n_add hx hb dL_law_219 ?_
  refine sc_ld F hX hbl hw (show i + 2 < L by omega) hL dL_law_220 ?_
  refine lv_i2l (v := ((xs (i + 2))).toInt64) hx hb dL_law_221 rfl ?_
  refine lv_ldc2 hx hb F.2.2.2.1 (F.2.2.2.2 _ bg_1_7) dL_law_222 ?_
  refine lv_land hx hb dL_law_225 ?_
  refine lv_lor hx hb dL_law_226 ?_
  refine cl_lL hw (rn_VL F hw (c_X8_pass g l md mfa mmz msz now gr mo re msd mbg kept lin rfd rnd mka mta mwd mms mhs mke msa mkn mkb mku uto ufi use mit sow sid sbe sla msi mtx mra ((lshl (((xs (i + 1))).toInt64) (nI 32)) ||| ((((xs (i + 2))).toInt64) &&& (4294967295))) ) (cw_L_75 F.2.2.2.2 ⟨by decide, by decide⟩) 0 rfl rfl rfl hl.1 rfl (Nat.le_of_ble_eq_true rfl) dL_law_227 hcs) (fun v_2 u_2 H locs hp_2 hw => ?_)
  obtain ⟨th, o, hI, e1, e2⟩ := st_pass (v := v_1) (v2 := v_2) (u := u_1) (u2 := u_2) hR hn hp_1 hp_2
  obtain ⟨now, gr, mo, re, bgn, lin, rfd, rnd, mB, mb, ms, mt, kept, np, cl, cf, tn, tf, dl, df, sdf, cnf, cbf, mkf, num, rep, kf, uto, ufi, use, sop, sow, sid, sbe, sla, mmz, msz, msd, mbg, mka, mta, mwd, mms, mhs, mke, msa, mkn, mkb, mku, mit, msi, mtx, mra, fo, hw, ho, hR⟩ := iv_wd hI hw
  refine lv_lstore (lv' := [(6, .long v_2), (5, .int v_1), (0, .ref b), (1, .ref (ad 0)), (2, .ref (md 0)), (3, .ref oa), (4, .int (nI i))]) hx hb dL_law_230 hl (by decide) rfl (fun ls hl => ?_)
  refine lv_aload_n hx hb dL_law_232 rfl (lv_at hl 4 rfl) ?_
  refine cl_iL hw (rn_VL F hw (c_X8_thrown g l md th mmz msz now gr mo re msd mbg kept lin rfd rnd mka mta mwd mms mhs mke msa mkn mkb mku uto ufi use mit sow sid sbe sla msi mtx mra) (cw_L_76 F.2.2.2.2 ⟨by decide, by decide⟩) 0 rfl rfl rfl hl.1 rfl (Nat.le_of_ble_eq_true rfl) dL_law_233 hcs) (fun v_3 u_3 H locs hp_3 hw => ?_)
  obtain rfl : v_3 = th := hp_3
  refine lv_iload hx hb dL_law_236 (lv_at hl 1 rfl) ?_
  refine lv_icmp_eq (tgt := 243) hx hb dL_law_238 (by decide) (fun c_238 => ?_) (fun c_238 => ?_)
  · skip
    refine lv_iload hx hb dL_law_243 (lv_at hl 1 rfl) ?_
    refine lv_if_ne (tgt := 259) hx hb dL_law_245 (by decide) (fun c_245 => ?_) (fun c_245 => ?_)
    · skip
      refine lv_goto (tgt := 1218) hx hb dL_law_259 (by decide) ?_
      exact kk _ _ _ _ _ _ (iv_mk ho hR) hw (lv_sub hl [2, 3, 4, 5, 6] rfl)
    · skip
      refine lv_aload_n hx hb dL_law_248 rfl (lv_at hl 5 rfl) ?_
      refine lv_iconst (v := nI 0) hx hb dL_law_249 (by decide) ?_
      refine ja_ld F hw 23 rfl (by omega) (by omega) dL_law_250 ?_
      refine lv_lload hx hb dL_law_251 (lv_at hl 0 rfl) ?_
      refine lc_eq (tgt := 259) hx hb dL_law_253 dL_law_254 (by decide) (fun c_253 => ?_) (fun c_253 => ?_)
      · skip
        refine lv_goto (tgt := 1218) hx hb dL_law_259 (by decide) ?_
        exact kk _ _ _ _ _ _ (iv_mk ho hR) hw (lv_sub hl [2, 3, 4, 5, 6] rfl)
      · exact absurd (ho.trans (e2 c_245)) c_253
  · exact absurd e1.symm c_238
set_option maxHeartbeats 4000000 in
set_option maxRecDepth 100000 in
theorem law_limits (F : CallFix p m c cL_law 8 s #[Value.ref b] BIG RL) (hX : va_X b L xs s s.heap) (hbl : b < s.heap.size) (hL : L ≤ 3584) (hi : i + 7 ≤ L) (hn : n < 600) (hst : l.stackTraces = false) (hcs : cells + 1 ≤ room_1.cells ∧ slots + 6 ≤ room_1.slots)
    (kk : ∀ (th : Int32) (o : Int64) (Wo : va_W) (H : Heap) (locs : List Loc) (ls : Array Slot), Iv g ad ka kb ua sa md oa (n + 1) th o Wo → Wd g s (fun q : Nat => s.heap.size ≤ q) H locs Wo → lv_has ls 8 [(0, .ref b), (1, .ref (ad 0)), (2, .ref (md 0)), (3, .ref oa), (4, .int (nI i))] → W p l e room_1 s m #[Value.ref b] below meth c H locs (cells + 1) (slots + 6) Q (F0 m 1218 ls []))
    (hw : Wd g s (fun q : Nat => s.heap.size ≤ q) H locs (mX g md mfa mmz msz now gr mo re msd mbg kept lin rfd rnd mka mta mwd mms mhs mke msa mkn mkb mku uto ufi use mit sow sid sbe sla msi mtx mra ++ ([(oa, jA g 1 fo)] ++ (gX g ad ka ua sa now gr mo re bgn lin rfd rnd mB mb ms mt kept np cl cf tn tf dl df sdf cnf cbf mkf ++ (tl 4 ka (kE kb num rep) ++ (tl 4 kb (bE g kf) ++ (tl 8 ua (uE uto ufi use) ++ (tl 8 sa (sE sop sow sid sbe sla) ++ [])))))))) (hR : Rel n kept np num rep kf mkn mku mkb sop mit cl cf tn tf msi mtx sdf bgn msd mbg dl sow) (hl : lv_has ls 8 [(0, .ref b), (1, .ref (ad 0)), (2, .ref (md 0)), (3, .ref oa), (4, .int (nI i))]) : W p l e room_1 s m #[Value.ref b] below meth c H locs cells slots Q (F0 m 262 ls []) := by
  have hx := F.1
  have hb := F.2.1
  refine lv_aload_n hx hb dL_law_262 rfl (lv_at hl 1 rfl) ?_
  refine lv_aload_n hx hb dL_law_263 rfl (lv_at hl 0 rfl) ?_
  refine lv_iload hx hb dL_law_264 (lv_at hl 4 rfl) ?_
  refine lv_iconst (v := nI 1) hx hb dL_law_266 (by decide) ?_
  refine n_add hx hb dL_law_267 ?_
  refine sc_ld F hX hbl hw (show i + 1 < L by omega) hL dL_law_268 ?_
  refine lv_i2l (v := ((xs (i + 1))).toInt64) hx hb dL_law_269 rfl ?_
  refine lv_bipush (v := nI 32) hx hb dL_law_270 (by decide) ?_
  refine lv_lshl (v := lshl (((xs (i + 1))).toInt64) (nI 32)) hx hb dL_law_272 rfl ?_
  refine lv_aload_n hx hb dL_law_273 rfl (lv_at hl 0 rfl) ?_
  refine lv_iload hx hb dL_law_274 (lv_at hl 4 rfl) ?_
  refine lv_iconst (v := nI 2) hx hb dL_law_276 (by decide) ?_
  refine n_add hx hb dL_law_277 ?_
  refine sc_ld F hX hbl hw (show i + 2 < L by omega) hL dL_law_278 ?_
  refine lv_i2l (v := ((xs (i + 2))).toInt64) hx hb dL_law_279 rfl ?_
  refine lv_ldc2 hx hb F.2.2.2.1 (F.2.2.2.2 _ bg_1_7) dL_law_280 ?_
  refine lv_land hx hb dL_law_283 ?_
  refine lv_lor hx hb dL_law_284 ?_
  refine lv_aload_n hx hb dL_law_285 rfl (lv_at hl 0 rfl) ?_
  refine lv_iload hx hb dL_law_286 (lv_at hl 4 rfl) ?_
  refine lv_iconst (v := nI 3) hx hb dL_law_288 (by decide) ?_
  refine n_add hx hb dL_law_289 ?_
  refine sc_ld F hX hbl hw (show i + 3 < L by omega) hL dL_law_290 ?_
  refine lv_i2l (v := ((xs (i + 3))).toInt64) hx hb dL_law_291 rfl ?_
  refine lv_bipush (v := nI 32) hx hb dL_law_292 (by decide) ?_
  refine lv_lshl (v := lshl (((xs (i + 3))).toInt64) (nI 32)) hx hb dL_law_294 rfl ?_
  refine lv_aload_n hx hb dL_law_295 rfl (lv_at hl 0 rfl) ?_
  refine lv_iload hx hb dL_law_296 (lv_at hl 4 rfl) ?_
  refine lv_iconst (v := nI 4) hx hb dL_law_298 (by decide) ?_
  refine n_add hx hb dL_law_299 ?_
  refine sc_ld F hX hbl hw (show i + 4 < L by omega) hL dL_law_300 ?_
  refine lv_i2l (v := ((xs (i + 4))).toInt64) hx hb dL_law_301 rfl ?_
  refine lv_ldc2 hx hb F.2.2.2.1 (F.2.2.2.2 _ bg_1_7) dL_law_302 ?_
  refine lv_land hx hb dL_law_305 ?_
  refine lv_lor hx hb dL_law_306 ?_
  refine lv_aload_n hx hb dL_law_307 rfl (lv_at hl 0 rfl) ?_
  refine lv_iload hx hb dL_law_308 (lv_at hl 4 rfl) ?_
  refine lv_iconst (v := nI 5) hx hb dL_law_310 (by decide) ?_
  refine n_add hx hb dL_law_311 ?_
  refine sc_ld F hX hbl hw (show i + 5 < L by omega) hL dL_law_312 ?_
  refine lv_i2l (v := ((xs (i + 5))).toInt64) hx hb dL_law_313 rfl ?_
  refine lv_bipush (v := nI 32) hx hb dL_law_314 (by decide) ?_
  refine lv_lshl (v := lshl (((xs (i + 5))).toInt64) (nI 32)) hx hb dL_law_316 rfl ?_
  refine lv_aload_n hx hb dL_law_317 rfl (lv_at hl 0 rfl) ?_
  refine lv_iload hx hb dL_law_318 (lv_at hl 4 rfl) ?_
  refine lv_bipush (v := nI 6) hx hb dL_law_320 (by decide) ?_
  refine n_add hx hb dL_law_322 ?_
  refine sc_ld F hX hbl hw (show i + 6 < L by omega) hL dL_law_323 ?_
  refine lv_i2l (v := ((xs (i + 6))).toInt64) hx hb dL_law_324 rfl ?_
  refine lv_ldc2 hx hb F.2.2.2.1 (F.2.2.2.2 _ bg_1_7) dL_law_325 ?_
  refine lv_land hx hb dL_law_328 ?_
  refine lv_lor hx hb dL_law_329 ?_
  replace hw := wd_as (Z := [] ++ (gX g ad ka ua sa now gr mo re bgn lin rfd rnd mB mb ms mt kept np cl cf tn tf dl df sdf cnf cbf mkf ++ (tl 4 ka (kE kb num rep) ++ (tl 4 kb (bE g kf) ++ (tl 8 ua (uE uto ufi use) ++ (tl 8 sa (sE sop sow sid sbe sla) ++ [])))))) hw
  refine cl_iR hw (rn_W F hw (w_limits g l (ad 0) ((lshl (((xs (i + 1))).toInt64) (nI 32)) ||| ((((xs (i + 2))).toInt64) &&& (4294967295))) ((lshl (((xs (i + 3))).toInt64) (nI 32)) ||| ((((xs (i + 4))).toInt64) &&& (4294967295))) ((lshl (((xs (i + 5))).toInt64) (nI 32)) ||| ((((xs (i + 6))).toInt64) &&& (4294967295))) (c_X7_limits g l ad ka kb ua sa now gr mo re bgn lin rfd rnd mB mb ms mt kept np cl cf tn tf dl df sdf cnf cbf mkf num rep kf uto ufi use sop sow sid sbe sla ((lshl (((xs (i + 1))).toInt64) (nI 32)) ||| ((((xs (i + 2))).toInt64) &&& (4294967295))) ((lshl (((xs (i + 3))).toInt64) (nI 32)) ||| ((((xs (i + 4))).toInt64) &&& (4294967295))) ((lshl (((xs (i + 5))).toInt64) (nI 32)) ||| ((((xs (i + 6))).toInt64) &&& (4294967295))) hst) rfl (fun E h => h.1)) (cw_L_80 F.2.2.2.2 ⟨by decide, by decide⟩) hl.1 rfl (Nat.le_of_ble_eq_true rfl) dL_law_330 hcs) (fun v_1 u_1 H locs hp_1 hw => ?_)
  replace hw := wd_sa hw
  refine lv_istore (lv' := [(5, .int v_1), (0, .ref b), (1, .ref (ad 0)), (2, .ref (md 0)), (3, .ref oa), (4, .int (nI i))]) hx hb dL_law_333 hl (by decide) rfl (fun ls hl => ?_)
  refine lv_aload_n hx hb dL_law_335 rfl (lv_at hl 3 rfl) ?_
  refine lv_aload_n hx hb dL_law_336 rfl (lv_at hl 1 rfl) ?_
  refine lv_iload hx hb dL_law_337 (lv_at hl 5 rfl) ?_
  refine lv_iconst (v := nI 1) hx hb dL_law_339 (by decide) ?_
  refine n_add hx hb dL_law_340 ?_
  refine sc_ld F hX hbl hw (show i + 1 < L by omega) hL dL_law_341 ?_
  refine lv_i2l (v := ((xs (i + 1))).toInt64) hx hb dL_law_342 rfl ?_
  refine lv_bipush (v := nI 32) hx hb dL_law_343 (by decide) ?_
  refine lv_lshl (v := lshl (((xs (i + 1))).toInt64) (nI 32)) hx hb dL_law_345 rfl ?_
  refine lv_aload_n hx hb dL_law_346 rfl (lv_at hl 1 rfl) ?_
  refine lv_iload hx hb dL_law_347 (lv_at hl 5 rfl) ?_
  refine lv_iconst (v := nI 2) hx hb dL_law_349 (by decide) ?_
  refine n_add hx hb dL_law_350 ?_
  refine sc_ld F hX hbl hw (show i + 2 < L by omega) hL dL_law_351 ?_
  refine lv_i2l (v := ((xs (i + 2))).toInt64) hx hb dL_law_352 rfl ?_
  refine lv_ldc2 hx hb F.2.2.2.1 (F.2.2.2.2 _ bg_1_7) dL_law_353 ?_
  refine lv_land hx hb dL_law_356 ?_
  refine lv_lor hx hb dL_law_357 ?_
  refine lv_aload_n hx hb dL_law_358 rfl (lv_at hl 1 rfl) ?_
  refine lv_iload hx hb dL_law_359 (lv_at hl 5 rfl) ?_
  refine lv_iconst (v := nI 3) hx hb dL_law_361 (by decide) ?_
  refine n_add hx hb dL_law_362 ?_
  refine sc_ld F hX hbl hw (show i + 3 < L by omega) hL dL_law_363 ?_
  refine lv_i2l (v := ((xs (i + 3))).toInt64) hx hb dL_law_364 rfl ?_
  refine lv_bipush (v := nI 32) hx hb dL_law_365 (by decide) ?_
  refine lv_lshl (v := lshl (((xs (i + 3))).toInt64) (nI 32)) hx hb dL_law_367 rfl ?_
  refine lv_aload_n hx hb dL_law_368 rfl (lv_at hl 1 rfl) ?_
  refine lv_iload hx hb dL_law_369 (lv_at hl 5 rfl) ?_
  refine lv_iconst (v := nI 4) hx hb dL_law_371 (by decide) ?_
  refine n_add hx hb dL_law_372 ?_
  refine sc_ld F hX hbl hw (show i + 4 < L by omega) hL dL_law_373 ?_
  refine lv_i2l (v := ((xs (i + 4))).toInt64) hx hb dL_law_374 rfl ?_
  refine lv_ldc2 hx hb F.2.2.2.1 (F.2.2.2.2 _ bg_1_7) dL_law_375 ?_
  refine lv_land hx hb dL_law_378 ?_
  refine lv_lor hx hb dL_law_379 ?_
  refine lv_aload_n hx hb dL_law_380 rfl (lv_at hl 1 rfl) ?_
  refine lv_iload hx hb dL_law_381 (lv_at hl 5 rfl) ?_
  refine lv_iconst (v := nI 5) hx hb dL_law_383 (by decide) ?_
  refine n_add hx hb dL_law_384 ?_
  refine sc_ld F hX hbl hw (show i + 5 < L by omega) hL dL_law_385 ?_
  refine lv_i2l (v := ((xs (i + 5))).toInt64) hx hb dL_law_386 rfl ?_
  refine lv_bipush (v := nI 32) hx hb dL_law_387 (by decide) ?_
  refine lv_lshl (v := lshl (((xs (i + 5))).toInt64) (nI 32)) hx hb dL_law_389 rfl ?_
  refine lv_aload_n hx hb dL_law_390 rfl (lv_at hl 1 rfl) ?_
  refine lv_iload hx hb dL_law_391 (lv_at hl 5 rfl) ?_
  refine lv_bipush (v := nI 6) hx hb dL_law_393 (by decide) ?_
  refine n_add hx hb dL_law_395 ?_
  refine sc_ld F hX hbl hw (show i + 6 < L by omega) hL dL_law_396 ?_
  refine lv_i2l (v := ((xs (i + 6))).toInt64) hx hb dL_law_397 rfl ?_
  refine lv_ldc2 hx hb F.2.2.2.1 (F.2.2.2.2 _ bg_1_7) dL_law_398 ?_
  refine lv_land hx hb dL_law_401 ?_
  refine lv_lor hx hb dL_law_402 ?_
  refine cl_vL hw (rn_VL F hw (c_X8_limits g l md mfa mmz msz now gr mo re msd mbg kept lin rfd rnd mka mta mwd mms mhs mke msa mkn mkb mku uto ufi use mit sow sid sbe sla msi mtx mra ((lshl (((xs (i + 1))).toInt64) (nI 32)) ||| ((((xs (i + 2))).toInt64) &&& (4294967295))) ((lshl (((xs (i + 3))).toInt64) (nI 32)) ||| ((((xs (i + 4))).toInt64) &&& (4294967295))) ((lshl (((xs (i + 5))).toInt64) (nI 32)) ||| ((((xs (i + 6))).toInt64) &&& (4294967295))) ) (cw_L_83 F.2.2.2.2 ⟨by decide, by decide⟩) 0 rfl rfl rfl hl.1 rfl (Nat.le_of_ble_eq_true rfl) dL_law_403 hcs) (fun u_2 H locs hp_2 hw => ?_)
  obtain ⟨th, o, hI, e1⟩ := st_limits (v := v_1) (u := u_1) (u2 := u_2) hR hn hp_1 hp_2
  obtain ⟨now, gr, mo, re, bgn, lin, rfd, rnd, mB, mb, ms, mt, kept, np, cl, cf, tn, tf, dl, df, sdf, cnf, cbf, mkf, num, rep, kf, uto, ufi, use, sop, sow, sid, sbe, sla, mmz, msz, msd, mbg, mka, mta, mwd, mms, mhs, mke, msa, mkn, mkb, mku, mit, msi, mtx, mra, fo, hw, ho, hR⟩ := iv_wd hI hw
  refine lv_aload_n hx hb dL_law_406 rfl (lv_at hl 3 rfl) ?_
  refine cl_iL hw (rn_VL F hw (c_X8_thrown g l md th mmz msz now gr mo re msd mbg kept lin rfd rnd mka mta mwd mms mhs mke msa mkn mkb mku uto ufi use mit sow sid sbe sla msi mtx mra) (cw_L_76 F.2.2.2.2 ⟨by decide, by decide⟩) 0 rfl rfl rfl hl.1 rfl (Nat.le_of_ble_eq_true rfl) dL_law_407 hcs) (fun v_3 u_3 H locs hp_3 hw => ?_)
  obtain rfl : v_3 = th := hp_3
  refine lv_iload hx hb dL_law_410 (lv_at hl 0 rfl) ?_
  refine lv_icmp_eq (tgt := 417) hx hb dL_law_412 (by decide) (fun c_412 => ?_) (fun c_412 => ?_)
  · skip
    refine lv_goto (tgt := 1218) hx hb dL_law_417 (by decide) ?_
    exact kk _ _ _ _ _ _ (iv_mk ho hR) hw (lv_sub hl [1, 2, 3, 4, 5] rfl)
  · exact absurd e1.symm c_412
set_option maxHeartbeats 4000000 in
set_option maxRecDepth 100000 in
theorem law_change (F : CallFix p m c cL_law 8 s #[Value.ref b] BIG RL) (hX : va_X b L xs s s.heap) (hbl : b < s.heap.size) (hL : L ≤ 3584) (hi : i + 7 ≤ L) (hn : n < 600) (hst : l.stackTraces = false) (hcs : cells + 1 ≤ room_1.cells ∧ slots + 6 ≤ room_1.slots)
    (kk : ∀ (th : Int32) (o : Int64) (Wo : va_W) (H : Heap) (locs : List Loc) (ls : Array Slot), Iv g ad ka kb ua sa md oa (n + 1) th o Wo → Wd g s (fun q : Nat => s.heap.size ≤ q) H locs Wo → lv_has ls 8 [(0, .ref b), (1, .ref (ad 0)), (2, .ref (md 0)), (3, .ref oa), (4, .int (nI i))] → W p l e room_1 s m #[Value.ref b] below meth c H locs (cells + 1) (slots + 6) Q (F0 m 1218 ls []))
    (hw : Wd g s (fun q : Nat => s.heap.size ≤ q) H locs (mX g md mfa mmz msz now gr mo re msd mbg kept lin rfd rnd mka mta mwd mms mhs mke msa mkn mkb mku uto ufi use mit sow sid sbe sla msi mtx mra ++ ([(oa, jA g 1 fo)] ++ (gX g ad ka ua sa now gr mo re bgn lin rfd rnd mB mb ms mt kept np cl cf tn tf dl df sdf cnf cbf mkf ++ (tl 4 ka (kE kb num rep) ++ (tl 4 kb (bE g kf) ++ (tl 8 ua (uE uto ufi use) ++ (tl 8 sa (sE sop sow sid sbe sla) ++ [])))))))) (hR : Rel n kept np num rep kf mkn mku mkb sop mit cl cf tn tf msi mtx sdf bgn msd mbg dl sow) (hl : lv_has ls 8 [(0, .ref b), (1, .ref (ad 0)), (2, .ref (md 0)), (3, .ref oa), (4, .int (nI i))]) : W p l e room_1 s m #[Value.ref b] below meth c H locs cells slots Q (F0 m 420 ls []) := by
  have hx := F.1
  have hb := F.2.1
  refine lv_aload_n hx hb dL_law_420 rfl (lv_at hl 1 rfl) ?_
  refine lv_aload_n hx hb dL_law_421 rfl (lv_at hl 0 rfl) ?_
  refine lv_iload hx hb dL_law_422 (lv_at hl 4 rfl) ?_
  refine lv_iconst (v := nI 1) hx hb dL_law_424 (by decide) ?_
  refine n_add hx hb dL_law_425 ?_
  refine sc_ld F hX hbl hw (show i + 1 < L by omega) hL dL_law_426 ?_
  refine lv_aload_n hx hb dL_law_427 rfl (lv_at hl 0 rfl) ?_
  refine lv_iload hx hb dL_law_428 (lv_at hl 4 rfl) ?_
  refine lv_iconst (v := nI 2) hx hb dL_law_430 (by decide) ?_
  refine n_add hx hb dL_law_431 ?_
  refine sc_ld F hX hbl hw (show i + 2 < L by omega) hL dL_law_432 ?_
  refine lv_aload_n hx hb dL_law_433 rfl (lv_at hl 0 rfl) ?_
  refine lv_iload hx hb dL_law_434 (lv_at hl 4 rfl) ?_
  refine lv_iconst (v := nI 3) hx hb dL_law_436 (by decide) ?_
  refine n_add hx hb dL_law_437 ?_
  refine sc_ld F hX hbl hw (show i + 3 < L by omega) hL dL_law_438 ?_
  refine lv_aload_n hx hb dL_law_439 rfl (lv_at hl 0 rfl) ?_
  refine lv_iload hx hb dL_law_440 (lv_at hl 4 rfl) ?_
  refine lv_iconst (v := nI 4) hx hb dL_law_442 (by decide) ?_
  refine n_add hx hb dL_law_443 ?_
  refine sc_ld F hX hbl hw (show i + 4 < L by omega) hL dL_law_444 ?_
  replace hw := wd_as hw
  refine cl_iR hw (rn_VR F hw (c_X7_change g l ad ka kb ua sa now gr mo re bgn lin rfd rnd mB mb ms mt kept np cl cf tn tf dl df sdf cnf cbf mkf num rep kf uto ufi use sop sow sid sbe sla (xs (i + 1)) (xs (i + 2)) (xs (i + 3)) (xs (i + 4)) hR.1.2.2.1 hR.1.2.1) (cw_L_84 F.2.2.2.2 ⟨by decide, by decide⟩) 0 rfl rfl rfl hl.1 rfl (Nat.le_of_ble_eq_true rfl) dL_law_445 ⟨Nat.le_of_succ_le hcs.1, Nat.le_trans (Nat.le_add_right _ 6) hcs.2⟩) (fun v_1 u_1 H locs hp_1 hw => ?_)
  replace hw := wd_sa hw
  refine lv_aload_n hx hb dL_law_448 rfl (lv_at hl 2 rfl) ?_
  refine lv_aload_n hx hb dL_law_449 rfl (lv_at hl 0 rfl) ?_
  refine lv_iload hx hb dL_law_450 (lv_at hl 4 rfl) ?_
  refine lv_iconst (v := nI 1) hx hb dL_law_452 (by decide) ?_
  refine n_add hx hb dL_law_453 ?_
  refine sc_ld F hX hbl hw (show i + 1 < L by omega) hL dL_law_454 ?_
  refine lv_aload_n hx hb dL_law_455 rfl (lv_at hl 0 rfl) ?_
  refine lv_iload hx hb dL_law_456 (lv_at hl 4 rfl) ?_
  refine lv_iconst (v := nI 2) hx hb dL_law_458 (by decide) ?_
  refine n_add hx hb dL_law_459 ?_
  refine sc_ld F hX hbl hw (show i + 2 < L by omega) hL dL_law_460 ?_
  refine lv_aload_n hx hb dL_law_461 rfl (lv_at hl 0 rfl) ?_
  refine lv_iload hx hb dL_law_462 (lv_at hl 4 rfl) ?_
  refine lv_iconst (v := nI 3) hx hb dL_law_464 (by decide) ?_
  refine n_add hx hb dL_law_465 ?_
  refine sc_ld F hX hbl hw (show i + 3 < L by omega) hL dL_law_466 ?_
  refine lv_aload_n hx hb dL_law_467 rfl (lv_at hl 0 rfl) ?_
  refine lv_iload hx hb dL_law_468 (lv_at hl 4 rfl) ?_
  refine lv_iconst (v := nI 4) hx hb dL_law_470 (by decide) ?_
  refine n_add hx hb dL_law_471 ?_
  refine sc_ld F hX hbl hw (show i + 4 < L by omega) hL dL_law_472 ?_
  obtain ⟨a0, ha0, hkn⟩ := kr_a0 hR.1
  refine cl_iL hw (rn_VL F hw (c_X8_change g l md mfa mmz msz now gr mo re msd mbg kept lin rfd rnd mka mta mwd mms mhs mke msa mkn mkb mku uto ufi use mit sow sid sbe sla msi mtx mra (xs (i + 1)) (xs (i + 2)) (xs (i + 3)) (xs (i + 4)) a0 ha0 hkn hR.1.1 hR.1.2.1) (cw_L_88 F.2.2.2.2 ⟨by decide, by decide⟩) 0 rfl rfl rfl hl.1 rfl (Nat.le_of_ble_eq_true rfl) dL_law_473 ⟨Nat.le_of_succ_le hcs.1, Nat.le_trans (Nat.le_add_right _ 6) hcs.2⟩) (fun v_2 u_2 H locs hp_2 hw => ?_)
  obtain ⟨e1, th, o, hI⟩ := st_change (v := v_1) (v2 := v_2) (u := u_1) (u2 := u_2) hR hn ha0 hkn hp_1 hp_2
  obtain ⟨now, gr, mo, re, bgn, lin, rfd, rnd, mB, mb, ms, mt, kept, np, cl, cf, tn, tf, dl, df, sdf, cnf, cbf, mkf, num, rep, kf, uto, ufi, use, sop, sow, sid, sbe, sla, mmz, msz, msd, mbg, mka, mta, mwd, mms, mhs, mke, msa, mkn, mkb, mku, mit, msi, mtx, mra, fo, hw, ho, hR⟩ := iv_wd hI hw
  refine lv_icmp_eq (tgt := 1218) hx hb dL_law_476 (by decide) (fun c_476 => ?_) (fun c_476 => ?_)
  · skip
    refine W.widen (k := cells + 1) (n := slots + 6) (by omega) (by omega) ?_
    exact kk _ _ _ _ _ _ (iv_mk ho hR) hw (lv_sub hl [0, 1, 2, 3, 4] rfl)
  · exact absurd e1 c_476
set_option maxHeartbeats 4000000 in
set_option maxRecDepth 100000 in
theorem law_user (F : CallFix p m c cL_law 8 s #[Value.ref b] BIG RL) (hX : va_X b L xs s s.heap) (hbl : b < s.heap.size) (hL : L ≤ 3584) (hi : i + 7 ≤ L) (hn : n < 600) (hst : l.stackTraces = false) (hcs : cells + 1 ≤ room_1.cells ∧ slots + 6 ≤ room_1.slots)
    (kk : ∀ (th : Int32) (o : Int64) (Wo : va_W) (H : Heap) (locs : List Loc) (ls : Array Slot), Iv g ad ka kb ua sa md oa (n + 1) th o Wo → Wd g s (fun q : Nat => s.heap.size ≤ q) H locs Wo → lv_has ls 8 [(0, .ref b), (1, .ref (ad 0)), (2, .ref (md 0)), (3, .ref oa), (4, .int (nI i))] → W p l e room_1 s m #[Value.ref b] below meth c H locs (cells + 1) (slots + 6) Q (F0 m 1218 ls []))
    (hw : Wd g s (fun q : Nat => s.heap.size ≤ q) H locs (mX g md mfa mmz msz now gr mo re msd mbg kept lin rfd rnd mka mta mwd mms mhs mke msa mkn mkb mku uto ufi use mit sow sid sbe sla msi mtx mra ++ ([(oa, jA g 1 fo)] ++ (gX g ad ka ua sa now gr mo re bgn lin rfd rnd mB mb ms mt kept np cl cf tn tf dl df sdf cnf cbf mkf ++ (tl 4 ka (kE kb num rep) ++ (tl 4 kb (bE g kf) ++ (tl 8 ua (uE uto ufi use) ++ (tl 8 sa (sE sop sow sid sbe sla) ++ [])))))))) (hR : Rel n kept np num rep kf mkn mku mkb sop mit cl cf tn tf msi mtx sdf bgn msd mbg dl sow) (hl : lv_has ls 8 [(0, .ref b), (1, .ref (ad 0)), (2, .ref (md 0)), (3, .ref oa), (4, .int (nI i))]) : W p l e room_1 s m #[Value.ref b] below meth c H locs cells slots Q (F0 m 481 ls []) := by
  have hx := F.1
  have hb := F.2.1
  refine lv_aload_n hx hb dL_law_481 rfl (lv_at hl 1 rfl) ?_
  refine lv_aload_n hx hb dL_law_482 rfl (lv_at hl 0 rfl) ?_
  refine lv_iload hx hb dL_law_483 (lv_at hl 4 rfl) ?_
  refine lv_iconst (v := nI 1) hx hb dL_law_485 (by decide) ?_
  refine n_add hx hb dL_law_486 ?_
  refine sc_ld F hX hbl hw (show i + 1 < L by omega) hL dL_law_487 ?_
  refine lv_aload_n hx hb dL_law_488 rfl (lv_at hl 0 rfl) ?_
  refine lv_iload hx hb dL_law_489 (lv_at hl 4 rfl) ?_
  refine lv_iconst (v := nI 2) hx hb dL_law_491 (by decide) ?_
  refine n_add hx hb dL_law_492 ?_
  refine sc_ld F hX hbl hw (show i + 2 < L by omega) hL dL_law_493 ?_
  refine lv_aload_n hx hb dL_law_494 rfl (lv_at hl 0 rfl) ?_
  refine lv_iload hx hb dL_law_495 (lv_at hl 4 rfl) ?_
  refine lv_iconst (v := nI 3) hx hb dL_law_497 (by decide) ?_
  refine n_add hx hb dL_law_498 ?_
  refine sc_ld F hX hbl hw (show i + 3 < L by omega) hL dL_law_499 ?_
  replace hw := wd_as (Z := [] ++ (gX g ad ka ua sa now gr mo re bgn lin rfd rnd mB mb ms mt kept np cl cf tn tf dl df sdf cnf cbf mkf ++ (tl 4 ka (kE kb num rep) ++ (tl 4 kb (bE g kf) ++ (tl 8 ua (uE uto ufi use) ++ (tl 8 sa (sE sop sow sid sbe sla) ++ [])))))) hw
  refine cl_iR hw (rn_W F hw (w_user g l (ad 0) (xs (i + 1)) (xs (i + 2)) (xs (i + 3)) (c_X7_user g l ad ka kb ua sa now gr mo re bgn lin rfd rnd mB mb ms mt kept np cl cf tn tf dl df sdf cnf cbf mkf num rep kf uto ufi use sop sow sid sbe sla (xs (i + 1)) (xs (i + 2)) (xs (i + 3)) hst) rfl (fun E h => h.1)) (cw_L_89 F.2.2.2.2 ⟨by decide, by decide⟩) hl.1 rfl (Nat.le_of_ble_eq_true rfl) dL_law_500 hcs) (fun v_1 u_1 H locs hp_1 hw => ?_)
  replace hw := wd_sa hw
  refine lv_istore (lv' := [(5, .int v_1), (0, .ref b), (1, .ref (ad 0)), (2, .ref (md 0)), (3, .ref oa), (4, .int (nI i))]) hx hb dL_law_503 hl (by decide) rfl (fun ls hl => ?_)
  refine lv_aload_n hx hb dL_law_505 rfl (lv_at hl 3 rfl) ?_
  refine lv_aload_n hx hb dL_law_506 rfl (lv_at hl 1 rfl) ?_
  refine lv_iload hx hb dL_law_507 (lv_at hl 5 rfl) ?_
  refine lv_iconst (v := nI 1) hx hb dL_law_509 (by decide) ?_
  refine n_add hx hb dL_law_510 ?_
  refine sc_ld F hX hbl hw (show i + 1 < L by omega) hL dL_law_511 ?_
  refine lv_aload_n hx hb dL_law_512 rfl (lv_at hl 1 rfl) ?_
  refine lv_iload hx hb dL_law_513 (lv_at hl 5 rfl) ?_
  refine lv_iconst (v := nI 2) hx hb dL_law_515 (by decide) ?_
  refine n_add hx hb dL_law_516 ?_
  refine sc_ld F hX hbl hw (show i + 2 < L by omega) hL dL_law_517 ?_
  refine lv_aload_n hx hb dL_law_518 rfl (lv_at hl 1 rfl) ?_
  refine lv_iload hx hb dL_law_519 (lv_at hl 5 rfl) ?_
  refine lv_iconst (v := nI 3) hx hb dL_law_521 (by decide) ?_
  refine n_add hx hb dL_law_522 ?_
  refine sc_ld F hX hbl hw (show i + 3 < L by omega) hL dL_law_523 ?_
  refine cl_vL hw (rn_VL F hw (c_X8_user g l md mfa mmz msz now gr mo re msd mbg kept lin rfd rnd mka mta mwd mms mhs mke msa mkn mkb mku uto ufi use mit sow sid sbe sla msi mtx mra (xs (i + 1)) (xs (i + 2)) (xs (i + 3)) ) (cw_L_92 F.2.2.2.2 ⟨by decide, by decide⟩) 0 rfl rfl rfl hl.1 rfl (Nat.le_of_ble_eq_true rfl) dL_law_524 hcs) (fun u_2 H locs hp_2 hw => ?_)
  obtain ⟨th, o, hI, e1⟩ := st_user (v := v_1) (u := u_1) (u2 := u_2) hR hn hp_1 hp_2
  obtain ⟨now, gr, mo, re, bgn, lin, rfd, rnd, mB, mb, ms, mt, kept, np, cl, cf, tn, tf, dl, df, sdf, cnf, cbf, mkf, num, rep, kf, uto, ufi, use, sop, sow, sid, sbe, sla, mmz, msz, msd, mbg, mka, mta, mwd, mms, mhs, mke, msa, mkn, mkb, mku, mit, msi, mtx, mra, fo, hw, ho, hR⟩ := iv_wd hI hw
  refine lv_aload_n hx hb dL_law_527 rfl (lv_at hl 3 rfl) ?_
  refine cl_iL hw (rn_VL F hw (c_X8_thrown g l md th mmz msz now gr mo re msd mbg kept lin rfd rnd mka mta mwd mms mhs mke msa mkn mkb mku uto ufi use mit sow sid sbe sla msi mtx mra) (cw_L_76 F.2.2.2.2 ⟨by decide, by decide⟩) 0 rfl rfl rfl hl.1 rfl (Nat.le_of_ble_eq_true rfl) dL_law_528 hcs) (fun v_3 u_3 H locs hp_3 hw => ?_)
  obtain rfl : v_3 = th := hp_3
  refine lv_iload hx hb dL_law_531 (lv_at hl 0 rfl) ?_
  refine lv_icmp_eq (tgt := 538) hx hb dL_law_533 (by decide) (fun c_533 => ?_) (fun c_533 => ?_)
  · skip
    refine lv_goto (tgt := 1218) hx hb dL_law_538 (by decide) ?_
    exact kk _ _ _ _ _ _ (iv_mk ho hR) hw (lv_sub hl [1, 2, 3, 4, 5] rfl)
  · exact absurd e1.symm c_533
set_option maxHeartbeats 4000000 in
set_option maxRecDepth 100000 in
theorem law_login (F : CallFix p m c cL_law 8 s #[Value.ref b] BIG RL) (hX : va_X b L xs s s.heap) (hbl : b < s.heap.size) (hL : L ≤ 3584) (hi : i + 7 ≤ L) (hn : n < 600) (hst : l.stackTraces = false) (hcs : cells + 1 ≤ room_1.cells ∧ slots + 6 ≤ room_1.slots)
    (kk : ∀ (th : Int32) (o : Int64) (Wo : va_W) (H : Heap) (locs : List Loc) (ls : Array Slot), Iv g ad ka kb ua sa md oa (n + 1) th o Wo → Wd g s (fun q : Nat => s.heap.size ≤ q) H locs Wo → lv_has ls 8 [(0, .ref b), (1, .ref (ad 0)), (2, .ref (md 0)), (3, .ref oa), (4, .int (nI i))] → W p l e room_1 s m #[Value.ref b] below meth c H locs (cells + 1) (slots + 6) Q (F0 m 1218 ls []))
    (hw : Wd g s (fun q : Nat => s.heap.size ≤ q) H locs (mX g md mfa mmz msz now gr mo re msd mbg kept lin rfd rnd mka mta mwd mms mhs mke msa mkn mkb mku uto ufi use mit sow sid sbe sla msi mtx mra ++ ([(oa, jA g 1 fo)] ++ (gX g ad ka ua sa now gr mo re bgn lin rfd rnd mB mb ms mt kept np cl cf tn tf dl df sdf cnf cbf mkf ++ (tl 4 ka (kE kb num rep) ++ (tl 4 kb (bE g kf) ++ (tl 8 ua (uE uto ufi use) ++ (tl 8 sa (sE sop sow sid sbe sla) ++ [])))))))) (hR : Rel n kept np num rep kf mkn mku mkb sop mit cl cf tn tf msi mtx sdf bgn msd mbg dl sow) (hl : lv_has ls 8 [(0, .ref b), (1, .ref (ad 0)), (2, .ref (md 0)), (3, .ref oa), (4, .int (nI i))]) : W p l e room_1 s m #[Value.ref b] below meth c H locs cells slots Q (F0 m 541 ls []) := by
  have hx := F.1
  have hb := F.2.1
  refine lv_aload_n hx hb dL_law_541 rfl (lv_at hl 1 rfl) ?_
  refine lv_aload_n hx hb dL_law_542 rfl (lv_at hl 0 rfl) ?_
  refine lv_iload hx hb dL_law_543 (lv_at hl 4 rfl) ?_
  refine lv_iconst (v := nI 1) hx hb dL_law_545 (by decide) ?_
  refine n_add hx hb dL_law_546 ?_
  refine sc_ld F hX hbl hw (show i + 1 < L by omega) hL dL_law_547 ?_
  refine lv_aload_n hx hb dL_law_548 rfl (lv_at hl 0 rfl) ?_
  refine lv_iload hx hb dL_law_549 (lv_at hl 4 rfl) ?_
  refine lv_iconst (v := nI 2) hx hb dL_law_551 (by decide) ?_
  refine n_add hx hb dL_law_552 ?_
  refine sc_ld F hX hbl hw (show i + 2 < L by omega) hL dL_law_553 ?_
  refine lv_aload_n hx hb dL_law_554 rfl (lv_at hl 0 rfl) ?_
  refine lv_iload hx hb dL_law_555 (lv_at hl 4 rfl) ?_
  refine lv_iconst (v := nI 3) hx hb dL_law_557 (by decide) ?_
  refine n_add hx hb dL_law_558 ?_
  refine sc_ld F hX hbl hw (show i + 3 < L by omega) hL dL_law_559 ?_
  refine lv_aload_n hx hb dL_law_560 rfl (lv_at hl 3 rfl) ?_
  refine cl_iR hw (rn_W F hw (w_login g l (ad 0) oa (xs (i + 1)) (xs (i + 2)) (xs (i + 3)) fo (c_X7_login g l ad ka kb ua sa now gr mo re bgn lin rfd rnd mB mb ms mt kept np cl cf tn tf dl df sdf cnf cbf mkf num rep kf uto ufi use sop sow sid sbe sla (xs (i + 1)) (xs (i + 2)) (xs (i + 3)) hR.1.2.2.1 hR.2.2.1.1 hR.2.2.1.2.2.1 hR.2.2.1.2.2.2.1 hst) rfl (fun E h => h.1)) (cw_L_93 F.2.2.2.2 ⟨by decide, by decide⟩) hl.1 rfl (Nat.le_of_ble_eq_true rfl) dL_law_561 hcs) (fun v_1 u_1 H locs hp_1 hw => ?_)
  refine lv_istore (lv' := [(5, .int v_1), (0, .ref b), (1, .ref (ad 0)), (2, .ref (md 0)), (3, .ref oa), (4, .int (nI i))]) hx hb dL_law_564 hl (by decide) rfl (fun ls hl => ?_)
  refine lv_aload_n hx hb dL_law_566 rfl (lv_at hl 3 rfl) ?_
  refine lv_aload_n hx hb dL_law_567 rfl (lv_at hl 1 rfl) ?_
  refine lv_iload hx hb dL_law_568 (lv_at hl 5 rfl) ?_
  refine lv_iconst (v := nI 1) hx hb dL_law_570 (by decide) ?_
  refine n_add hx hb dL_law_571 ?_
  refine sc_ld F hX hbl hw (show i + 1 < L by omega) hL dL_law_572 ?_
  refine lv_aload_n hx hb dL_law_573 rfl (lv_at hl 1 rfl) ?_
  refine lv_iload hx hb dL_law_574 (lv_at hl 5 rfl) ?_
  refine lv_iconst (v := nI 2) hx hb dL_law_576 (by decide) ?_
  refine n_add hx hb dL_law_577 ?_
  refine sc_ld F hX hbl hw (show i + 2 < L by omega) hL dL_law_578 ?_
  refine lv_aload_n hx hb dL_law_579 rfl (lv_at hl 1 rfl) ?_
  refine lv_iload hx hb dL_law_580 (lv_at hl 5 rfl) ?_
  refine lv_iconst (v := nI 3) hx hb dL_law_582 (by decide) ?_
  refine n_add hx hb dL_law_583 ?_
  refine sc_ld F hX hbl hw (show i + 3 < L by omega) hL dL_law_584 ?_
  refine cl_iL hw (rn_VL F hw (c_X8_login g l md mfa mmz msz now gr mo re msd mbg kept lin rfd rnd mka mta mwd mms mhs mke msa mkn mkb mku uto ufi use mit sow sid sbe sla msi mtx mra (xs (i + 1)) (xs (i + 2)) (xs (i + 3)) hR.1.1 hR.1.2.1) (cw_L_96 F.2.2.2.2 ⟨by decide, by decide⟩) 0 rfl rfl rfl hl.1 rfl (Nat.le_of_ble_eq_true rfl) dL_law_585 hcs) (fun v_2 u_2 H locs hp_2 hw => ?_)
  obtain ⟨th, o, hI, e1, e2⟩ := st_login (v := v_1) (v2 := v_2) (u := u_1) (u2 := u_2) hR hn hp_1 hp_2
  obtain ⟨now, gr, mo, re, bgn, lin, rfd, rnd, mB, mb, ms, mt, kept, np, cl, cf, tn, tf, dl, df, sdf, cnf, cbf, mkf, num, rep, kf, uto, ufi, use, sop, sow, sid, sbe, sla, mmz, msz, msd, mbg, mka, mta, mwd, mms, mhs, mke, msa, mkn, mkb, mku, mit, msi, mtx, mra, fo, hw, ho, hR⟩ := iv_wd hI hw
  refine lv_istore (lv' := [(6, .int v_2), (5, .int v_1), (0, .ref b), (1, .ref (ad 0)), (2, .ref (md 0)), (3, .ref oa), (4, .int (nI i))]) hx hb dL_law_588 hl (by decide) rfl (fun ls hl => ?_)
  refine lv_aload_n hx hb dL_law_590 rfl (lv_at hl 4 rfl) ?_
  refine cl_iL hw (rn_VL F hw (c_X8_thrown g l md th mmz msz now gr mo re msd mbg kept lin rfd rnd mka mta mwd mms mhs mke msa mkn mkb mku uto ufi use mit sow sid sbe sla msi mtx mra) (cw_L_76 F.2.2.2.2 ⟨by decide, by decide⟩) 0 rfl rfl rfl hl.1 rfl (Nat.le_of_ble_eq_true rfl) dL_law_591 hcs) (fun v_3 u_3 H locs hp_3 hw => ?_)
  obtain rfl : v_3 = th := hp_3
  refine lv_iload hx hb dL_law_594 (lv_at hl 1 rfl) ?_
  refine lv_icmp_eq (tgt := 601) hx hb dL_law_596 (by decide) (fun c_596 => ?_) (fun c_596 => ?_)
  · skip
    refine lv_iload hx hb dL_law_601 (lv_at hl 1 rfl) ?_
    refine lv_if_ne (tgt := 618) hx hb dL_law_603 (by decide) (fun c_603 => ?_) (fun c_603 => ?_)
    · skip
      refine lv_goto (tgt := 1218) hx hb dL_law_618 (by decide) ?_
      exact kk _ _ _ _ _ _ (iv_mk ho hR) hw (lv_sub hl [2, 3, 4, 5, 6] rfl)
    · skip
      refine lv_aload_n hx hb dL_law_606 rfl (lv_at hl 5 rfl) ?_
      refine lv_iconst (v := nI 0) hx hb dL_law_607 (by decide) ?_
      refine ja_ld F hw 23 rfl (by omega) (by omega) dL_law_608 ?_
      refine lv_iload hx hb dL_law_609 (lv_at hl 0 rfl) ?_
      refine lv_i2l (v := (v_2).toInt64) hx hb dL_law_611 rfl ?_
      refine lc_eq (tgt := 618) hx hb dL_law_612 dL_law_613 (by decide) (fun c_612 => ?_) (fun c_612 => ?_)
      · skip
        refine lv_goto (tgt := 1218) hx hb dL_law_618 (by decide) ?_
        exact kk _ _ _ _ _ _ (iv_mk ho hR) hw (lv_sub hl [2, 3, 4, 5, 6] rfl)
      · exact absurd (ho.trans (e2 c_603)) c_612
  · exact absurd e1.symm c_596
end LW
