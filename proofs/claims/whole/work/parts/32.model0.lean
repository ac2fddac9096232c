-- pasted: kit/laws/BITS.to-paste, Int32 by its bits
def bt (x : Int32) (i : Nat) : Bool := x.toBitVec.getLsbD i
theorem b_ext {x y : Int32} (h : ∀ i, i < 32 → bt x i = bt y i) : x = y := Int32.toBitVec_inj.mp (BitVec.eq_of_getLsbD_eq (fun i hi => h i hi))
theorem b_or (x y : Int32) (i : Nat) : bt (x ||| y) i = (bt x i || bt y i) := by unfold bt; rw [Int32.toBitVec_or, BitVec.getLsbD_or]
theorem b_and (x y : Int32) (i : Nat) : bt (x &&& y) i = (bt x i && bt y i) := by unfold bt; rw [Int32.toBitVec_and, BitVec.getLsbD_and]
theorem b_xor (x y : Int32) (i : Nat) : bt (x ^^^ y) i = (bt x i ^^ bt y i) := by unfold bt; rw [Int32.toBitVec_xor, BitVec.getLsbD_xor]
theorem b_big {x : Int32} {i : Nat} (h : 32 ≤ i) : bt x i = false := BitVec.getLsbD_of_ge _ _ h
theorem b_255 (i : Nat) : bt 255 i = decide (i < 8) := by
  rcases Nat.lt_or_ge i 32 with h | h
  · exact (by decide +kernel : ∀ i, i < 32 → bt 255 i = decide (i < 8)) i h
  · rw [b_big h, decide_eq_false (by omega)]
theorem b_65535 (i : Nat) : bt 65535 i = decide (i < 16) := by
  rcases Nat.lt_or_ge i 32 with h | h
  · exact (by decide +kernel : ∀ i, i < 32 → bt 65535 i = decide (i < 16)) i h
  · rw [b_big h, decide_eq_false (by omega)]
theorem b_m1 : ∀ i, i < 32 → bt (-1) i = true := by decide +kernel
theorem b_0 (i : Nat) : bt 0 i = false := BitVec.getLsbD_zero
theorem s_l : ∀ n, n < 32 → ((nI n &&& 31).toBitVec.smod 32).toNat = n := by decide +kernel
theorem s_u : ∀ n, n < 32 → (((nI n).toUInt32 &&& Int32.toUInt32 31).toBitVec % 32).toNat = n := by decide +kernel
theorem b_shl (n : Nat) (hn : n < 32) (x : Int32) {i : Nat} (hi : i < 32) : bt (x <<< (nI n &&& 31)) i = (decide (n ≤ i) && bt x (i - n)) := by
  unfold bt
  rw [Int32.toBitVec_shiftLeft]
  show (x.toBitVec <<< ((nI n &&& 31).toBitVec.smod 32).toNat).getLsbD i = _
  rw [s_l n hn, BitVec.getLsbD_shiftLeft]
  rcases Nat.lt_or_ge i n with h | h
  · simp [h, Nat.not_le.mpr h]
  · simp [hi, h, Nat.not_lt.mpr h]
theorem b_ushr (n : Nat) (hn : n < 32) (x : Int32) (i : Nat) : bt ((x.toUInt32 >>> ((nI n).toUInt32 &&& Int32.toUInt32 31)).toInt32) i = bt x (n + i) := by
  show (x.toUInt32 >>> ((nI n).toUInt32 &&& Int32.toUInt32 31)).toBitVec.getLsbD i = x.toUInt32.toBitVec.getLsbD (n + i)
  rw [UInt32.toBitVec_shiftRight]
  show (x.toUInt32.toBitVec >>> (((nI n).toUInt32 &&& Int32.toUInt32 31).toBitVec % 32).toNat).getLsbD i = _
  rw [s_u n hn, BitVec.getLsbD_ushiftRight]
theorem b_sshr (n : Nat) (hn : n < 32) (x : Int32) {i : Nat} (hi : i < 32) : bt (x >>> (nI n &&& 31)) i = if n + i < 32 then bt x (n + i) else bt x 31 := by
  unfold bt
  rw [Int32.toBitVec_shiftRight]
  show (x.toBitVec.sshiftRight ((nI n &&& 31).toBitVec.smod 32).toNat).getLsbD i = _
  rw [s_l n hn, BitVec.getLsbD_sshiftRight, BitVec.msb_eq_getLsbD_last]
  simp [hi]
theorem sar_byO (x : Int32) {k : Nat} (hk : k < 4) : (x >>> (nI (24 - 8 * k) &&& 31)) &&& nI 255 = byO x k := by
  apply b_ext
  intro i hi
  unfold byO
  rw [b_and, b_and]
  show (_ && bt 255 i) = (_ && bt 255 i)
  rw [b_255]
  by_cases h : i < 8
  · rw [b_sshr _ (by omega) _ hi, b_ushr _ (by omega), if_pos (by omega)]
  · simp [h]
def b6 (x : Int64) (i : Nat) : Bool := x.toBitVec.getLsbD i
theorem w_c : ∀ k, k < 64 → ((nI k).toInt64 &&& 63) = lN k := by decide +kernel
theorem w_cu : ∀ k, k < 64 → ((nI k).toInt64.toUInt64 &&& Int64.toUInt64 63) = UInt64.ofNat k := by decide +kernel
theorem w_sm : ∀ k, k < 64 → ((lN k).toBitVec.smod 64).toNat = k := by decide +kernel
theorem w_um : ∀ k, k < 64 → ((UInt64.ofNat k).toBitVec % 64).toNat = k := by decide +kernel
theorem b6_lshr {n : Nat} (hn : n < 64) (x : Int64) {i : Nat} (hi : i < 64) : b6 (lshr x (nI n)) i = if n + i < 64 then b6 x (n + i) else b6 x 63 := by
  unfold b6 lshr
  rw [w_c n hn, Int64.toBitVec_shiftRight]
  show (x.toBitVec.sshiftRight ((lN n).toBitVec.smod 64).toNat).getLsbD i = _
  rw [w_sm n hn, BitVec.getLsbD_sshiftRight, BitVec.msb_eq_getLsbD_last]
  simp [hi]
theorem b6_lushr {n : Nat} (hn : n < 64) (x : Int64) (i : Nat) : b6 (lushr x (nI n)) i = b6 x (n + i) := by
  unfold lushr
  rw [w_cu n hn]
  show (x.toUInt64 >>> UInt64.ofNat n).toBitVec.getLsbD i = x.toUInt64.toBitVec.getLsbD (n + i)
  rw [UInt64.toBitVec_shiftRight]
  show (x.toUInt64.toBitVec >>> ((UInt64.ofNat n).toBitVec % 64).toNat).getLsbD i = _
  rw [w_um n hn, BitVec.getLsbD_ushiftRight]
theorem b6_i32 (x : Int64) {i : Nat} (hi : i < 32) : bt x.toInt32 i = b6 x i := by
  unfold bt b6
  rw [Int64.toBitVec_toInt32, BitVec.getLsbD_signExtend]
  simp [hi, show i < 64 by omega]
theorem b6_and (x y : Int64) (i : Nat) : b6 (x &&& y) i = (b6 x i && b6 y i) := by unfold b6; rw [Int64.toBitVec_and, BitVec.getLsbD_and]
theorem b6_255 : ∀ i, i < 32 → b6 255 i = decide (i < 8) := by decide +kernel
theorem lsar_byL (x : Int64) {k : Nat} (hk : k < 8) : ((lshr x (nI (56 - 8 * k))).toInt32) &&& nI 255 = byL x k := by
  apply b_ext
  intro i hi
  unfold byL
  rw [b_and, b_and]
  show (_ && bt 255 i) = (_ && bt 255 i)
  rw [b_255]
  by_cases h : i < 8
  · rw [b6_i32 _ hi, b6_i32 _ hi, b6_lshr (by omega) _ (by omega), b6_lushr (by omega), if_pos (by omega)]
  · simp [h]
theorem lsar_byL2 (x : Int64) {k : Nat} (hk : k < 8) : (lshr x (nI (56 - 8 * k)) &&& 255).toInt32 = byL x k := by
  rw [← lsar_byL x hk]
  apply b_ext
  intro i hi
  rw [b_and, b6_i32 _ hi, b6_i32 _ hi, b6_and, b6_255 i hi]
  show _ = (_ && bt 255 i)
  rw [b_255]
theorem nar0 : vp_nar .boolean (nI 0) = nI 0 := by decide +kernel
theorem nar1 : vp_nar .boolean (nI 1) = nI 1 := by decide +kernel
def mX (g : GG) (md : Nat → Nat) (mfa : Int32) (mmz : Nat) (msz : Nat) (mnow : Int64) (mgr : Int64) (mmo : Int64) (mre : Int64) (msd : Int64) (mbg : Int64) (mky : Nat) (mli : Int32) (mrf : Int32) (mrn : Int32) (mka : Int32) (mta : Nat → Int32) (mwd : Nat → Int32) (mms : Nat → Int32) (mhs : Nat → Int32) (mke : Nat → Int32) (msa : Nat → Int32) (mkn : Nat → Int32) (mkb : Nat → Int32) (mku : Nat → Int64) (mhp : Nat → Int32) (mpa : Nat → Int32) (mpb : Nat → Int32) (mit : Nat → Int32) (mus : Nat → Int32) (mid : Nat → Int64) (mbe : Nat → Int64) (mla : Nat → Int64) (msi : Nat → Int32) (mtx : Nat → Int32) (mra : Nat → Int32) : va_W :=
  [(md 0, .inr (7, [.int mfa, .ref (md 1), .ref (md 2), .ref (md 3), .ref (md 4), .ref (md 5), .int (nI mmz), .ref (md 6), .ref (md 7), .ref (md 8), .int (nI msz), .long mnow, .long mgr, .long mmo, .long mre, .long msd, .long mbg, .int (nI mky), .ref (md 9), .ref (md 10), .ref (md 11), .ref (md 12), .ref (md 13), .ref (md 14), .ref (md 15), .ref (md 16), .ref (md 17), .ref (md 18), .ref (md 19), .ref (md 20), .ref (md 21), .ref (md 22), .int mli, .int mrf, .int mrn, .int mka])), (md 1, iA g 64 kR), (md 2, iA g 8 kS), (md 3, iA g 8 mta), (md 4, iA g 64 mwd), (md 5, iA g 256 mms), (md 6, iA g 32 mhs), (md 7, iA g 64 mke), (md 8, iA g 64 msa), (md 9, iA g 5 mkn), (md 10, iA g 80 mkb), (md 11, jA g 5 mku), (md 12, zA g 8 mhp), (md 13, iA g 8 mpa), (md 14, iA g 8 mpb), (md 15, zA g 8 mit), (md 16, iA g 8 mus), (md 17, jA g 8 mid), (md 18, jA g 8 mbe), (md 19, jA g 8 mla), (md 20, iA g 2 msi), (md 21, iA g 80 mtx), (md 22, iA g 24 mra)]
set_option maxHeartbeats 4000000 in
set_option maxRecDepth 100000 in
theorem c_X8_thrown (g : GG) (l : Launch) (md : Nat → Nat) (mfa : Int32) (mmz : Nat) (msz : Nat) (mnow : Int64) (mgr : Int64) (mmo : Int64) (mre : Int64) (msd : Int64) (mbg : Int64) (mky : Nat) (mli : Int32) (mrf : Int32) (mrn : Int32) (mka : Int32) (mta : Nat → Int32) (mwd : Nat → Int32) (mms : Nat → Int32) (mhs : Nat → Int32) (mke : Nat → Int32) (msa : Nat → Int32) (mkn : Nat → Int32) (mkb : Nat → Int32) (mku : Nat → Int64) (mhp : Nat → Int32) (mpa : Nat → Int32) (mpb : Nat → Int32) (mit : Nat → Int32) (mus : Nat → Int32) (mid : Nat → Int64) (mbe : Nat → Int64) (mla : Nat → Int64) (msi : Nat → Int32) (mtx : Nat → Int32) (mra : Nat → Int32) : Ct g l yX8_thrown cX8_thrown 1 (some .int) 0 0 [.ref (md 0)] (mX g md mfa mmz msz mnow mgr mmo mre msd mbg mky mli mrf mrn mka mta mwd mms mhs mke msa mkn mkb mku mhp mpa mpb mit mus mid mbe mla msi mtx mra) (Ri g (fun (v : Int32) (u : Unit) => v = mfa) (fun (u : Unit) => (mX g md mfa mmz msz mnow mgr mmo mre msd mbg mky mli mrf mrn mka mta mwd mms mhs mke msa mkn mkb mku mhp mpa mpb mit mus mid mbe mla msi mtx mra))) := by
  refine mkC (by decide) (Nat.le_of_ble_eq_true rfl) ?_
  intro p e s m args below meth c A ls QQ F hr hlk hnm hQ hw hl
  have hx := F.1
  have hb := F.2.1
  replace hl : lv_has ls 1 [(0, .ref (md 0))] := hl
  refine lv_aload_n hx hb dX8_thrown_0 rfl (lv_at hl 0 rfl) ?_
  refine gf_X8_166 F hw 0 rfl rfl dX8_thrown_1 ?_
  exact rt_i F hr hlk hQ hw () rfl rfl dX8_thrown_4
def gtI (x : Int32) : Int32 := if x ≤ 0 then nI 0 else nI 1
def inI (x lo hi : Int64) : Int32 := if x < lo then nI 0 else if hi < x then nI 0 else nI 1
set_option maxHeartbeats 4000000 in
set_option maxRecDepth 100000 in
theorem c_X8_refused (g : GG) (l : Launch) (md : Nat → Nat) (mfa : Int32) (mmz : Nat) (msz : Nat) (mnow : Int64) (mgr : Int64) (mmo : Int64) (mre : Int64) (msd : Int64) (mbg : Int64) (mky : Nat) (mli : Int32) (mrf : Int32) (mrn : Int32) (mka : Int32) (mta : Nat → Int32) (mwd : Nat → Int32) (mms : Nat → Int32) (mhs : Nat → Int32) (mke : Nat → Int32) (msa : Nat → Int32) (mkn : Nat → Int32) (mkb : Nat → Int32) (mku : Nat → Int64) (mhp : Nat → Int32) (mpa : Nat → Int32) (mpb : Nat → Int32) (mit : Nat → Int32) (mus : Nat → Int32) (mid : Nat → Int64) (mbe : Nat → Int64) (mla : Nat → Int64) (msi : Nat → Int32) (mtx : Nat → Int32) (mra : Nat → Int32) (x : Int32) : Ct g l yX8_refused cX8_refused 2 (some .boolean) 0 0 [.ref (md 0), .int x] (mX g md mfa mmz msz mnow mgr mmo mre msd mbg mky mli mrf mrn mka mta mwd mms mhs mke msa mkn mkb mku mhp mpa mpb mit mus mid mbe mla msi mtx mra) (Ri g (fun (v : Int32) (u : Unit) => v = gtI x) (fun (u : Unit) => (mX g md x mmz msz mnow mgr mmo mre msd mbg mky mli mrf mrn mka mta mwd mms mhs mke msa mkn mkb mku mhp mpa mpb mit mus mid mbe mla msi mtx mra))) := by
  refine mkC (by decide) (Nat.le_of_ble_eq_true rfl) ?_
  intro p e s m args below meth c A ls QQ F hr hlk hnm hQ hw hl
  have hx := F.1
  have hb := F.2.1
  replace hl : lv_has ls 2 [(0, .ref (md 0)), (1, .int x)] := hl
  refine lv_aload_n hx hb dX8_refused_0 rfl (lv_at hl 0 rfl) ?_
  refine lv_iload_n hx hb dX8_refused_1 rfl (lv_at hl 1 rfl) ?_
  refine pf_X8_166 F hw 0 rfl (Nat.le_of_ble_eq_true rfl) rfl rfl dX8_refused_2 (fun H locs hw => ?_)
  replace hw : Wd g s A H locs (mX g md x mmz msz mnow mgr mmo mre msd mbg mky mli mrf mrn mka mta mwd mms mhs mke msa mkn mkb mku mhp mpa mpb mit mus mid mbe mla msi mtx mra) := hw
  refine lv_iload_n hx hb dX8_refused_5 rfl (lv_at hl 1 rfl) ?_
  refine lv_if_le (tgt := 13) hx hb dX8_refused_6 (by decide) (fun c_6 => ?_) (fun c_6 => ?_)
  · refine lv_iconst (v := nI 0) hx hb dX8_refused_13 (by decide) ?_
    exact rt_z F hr rfl hlk hQ hw () (by simp only [gtI, c_6, if_true, if_false]) rfl dX8_refused_14
  · refine lv_iconst (v := nI 1) hx hb dX8_refused_9 (by decide) ?_
    refine lv_goto (tgt := 14) hx hb dX8_refused_10 (by decide) ?_
    exact rt_z F hr rfl hlk hQ hw () (by simp only [gtI, c_6, if_true, if_false]) rfl dX8_refused_14
set_option maxHeartbeats 4000000 in
set_option maxRecDepth 100000 in
theorem c_X8_isIn (g : GG) (l : Launch) (x : Int64) (lo : Int64) (hi : Int64) : Ct g l yX8_isIn cX8_isIn 6 (some .boolean) 0 0 [.long x, .long lo, .long hi] [] (Ri g (fun (v : Int32) (u : Unit) => v = inI x lo hi) (fun (u : Unit) => [])) := by
  refine mkC (by decide) (Nat.le_of_ble_eq_true rfl) ?_
  intro p e s m args below meth c A ls QQ F hr hlk hnm hQ hw hl
  have hx := F.1
  have hb := F.2.1
  replace hl : lv_has ls 6 [(0, .long x), (2, .long lo), (4, .long hi)] := hl
  refine lv_lload_n hx hb dX8_isIn_0 rfl (lv_at hl 0 rfl) ?_
  refine lv_lload_n hx hb dX8_isIn_1 rfl (lv_at hl 1 rfl) ?_
  refine lc_lt (tgt := 17) hx hb dX8_isIn_2 dX8_isIn_3 (by decide) (fun c_2 => ?_) (fun c_2 => ?_)
  · refine lv_iconst (v := nI 0) hx hb dX8_isIn_17 (by decide) ?_
    exact rt_z F hr rfl hlk hQ hw () (by simp only [inI, c_2, if_true, if_false]) rfl dX8_isIn_18
  · refine lv_lload_n hx hb dX8_isIn_6 rfl (lv_at hl 0 rfl) ?_
    refine lv_lload hx hb dX8_isIn_7 (lv_at hl 2 rfl) ?_
    refine lc_gt (tgt := 17) hx hb dX8_isIn_9 dX8_isIn_10 (by decide) (fun c_9 => ?_) (fun c_9 => ?_)
    · refine lv_iconst (v := nI 0) hx hb dX8_isIn_17 (by decide) ?_
      exact rt_z F hr rfl hlk hQ hw () (by simp only [inI, c_2, c_9, if_true, if_false]) rfl dX8_isIn_18
    · refine lv_iconst (v := nI 1) hx hb dX8_isIn_13 (by decide) ?_
      refine lv_goto (tgt := 18) hx hb dX8_isIn_14 (by decide) ?_
      exact rt_z F hr rfl hlk hQ hw () (by simp only [inI, c_2, c_9, if_true, if_false]) rfl dX8_isIn_18
set_option maxHeartbeats 4000000 in
set_option maxRecDepth 100000 in
theorem c_X8_turn (g : GG) (l : Launch) (w : Int32) (b : Nat) (hb2 : b ≤ 32) : Ct g l yX8_turn cX8_turn 2 (some .int) 0 0 [.int w, .int (nI b)] [] (Ri g (fun (v : Int32) (u : Unit) => v = rot w b) (fun (u : Unit) => [])) := by
  refine mkC (by decide) (Nat.le_of_ble_eq_true rfl) ?_
  intro p e s m args below meth c A ls QQ F hr hlk hnm hQ hw hl
  have hx := F.1
  have hb := F.2.1
  replace hl : lv_has ls 2 [(0, .int w), (1, .int (nI b))] := hl
  refine lv_iload_n hx hb dX8_turn_0 rfl (lv_at hl 0 rfl) ?_
  refine lv_iload_n hx hb dX8_turn_1 rfl (lv_at hl 1 rfl) ?_
  refine lv_iushr (v := ushr w (nI b)) hx hb dX8_turn_2 rfl ?_
  refine lv_iload_n hx hb dX8_turn_3 rfl (lv_at hl 0 rfl) ?_
  refine lv_bipush (v := nI 32) hx hb dX8_turn_4 (by decide) ?_
  refine lv_iload_n hx hb dX8_turn_6 rfl (lv_at hl 1 rfl) ?_
  refine n_sub hx hb (by omega) dX8_turn_7 ?_
  refine lv_ishl hx hb dX8_turn_8 ?_
  refine lv_ior hx hb dX8_turn_9 ?_
  exact rt_i F hr hlk hQ hw () rfl rfl dX8_turn_10
theorem nxw_ac (f : Nat → Int32) (t : Nat) : ((f (t - 16) + ((rot (f (t - 15)) 7 ^^^ rot (f (t - 15)) 18) ^^^ ushr (f (t - 15)) (nI 3))) + f (t - 7)) + ((rot (f (t - 2)) 17 ^^^ rot (f (t - 2)) 19) ^^^ ushr (f (t - 2)) (nI 10)) = nxw f t := by
  unfold nxw
  generalize f (t - 16) = x1
  generalize (rot (f (t - 15)) 7 ^^^ rot (f (t - 15)) 18) ^^^ ushr (f (t - 15)) (nI 3) = x2
  generalize f (t - 7) = x3
  generalize (rot (f (t - 2)) 17 ^^^ rot (f (t - 2)) 19) ^^^ ushr (f (t - 2)) (nI 10) = x4
  ac_rfl
theorem blk_end {mta mms mwd : Nat → Int32} {fr : Nat} : ∀ i, i < 8 → mta i + mx mta (sc2 (sc1 mms fr mwd 16) 48) 64 i = cmp1 mta mms fr i := by
  intro i hi
  show _ = mta i + mx mta (w64 mms fr) 64 i
  rw [mx_congr (fun _ _ => rfl) (fun t ht => sc2_congr (fun t ht => sc1_get mms fr mwd 16 t ht) 48 t ht) 64 (Nat.le_refl _) i hi]
  rfl
set_option maxHeartbeats 4000000 in
set_option maxRecDepth 100000 in
theorem c_X8_block (g : GG) (l : Launch) (md : Nat → Nat) (mfa : Int32) (mmz : Nat) (msz : Nat) (mnow : Int64) (mgr : Int64) (mmo : Int64) (mre : Int64) (msd : Int64) (mbg : Int64) (mky : Nat) (mli : Int32) (mrf : Int32) (mrn : Int32) (mka : Int32) (mta : Nat → Int32) (mwd : Nat → Int32) (mms : Nat → Int32) (mhs : Nat → Int32) (mke : Nat → Int32) (msa : Nat → Int32) (mkn : Nat → Int32) (mkb : Nat → Int32) (mku : Nat → Int64) (mhp : Nat → Int32) (mpa : Nat → Int32) (mpb : Nat → Int32) (mit : Nat → Int32) (mus : Nat → Int32) (mid : Nat → Int64) (mbe : Nat → Int64) (mla : Nat → Int64) (msi : Nat → Int32) (mtx : Nat → Int32) (mra : Nat → Int32) (fr : Nat) (hfr : fr ≤ 64) : Ct g l yX8_block cX8_block 13 none 1 21 [.ref (md 0), .int (nI fr)] (mX g md mfa mmz msz mnow mgr mmo mre msd mbg mky mli mrf mrn mka mta mwd mms mhs mke msa mkn mkb mku mhp mpa mpb mit mus mid mbe mla msi mtx mra) (Rv g (fun (u : (Nat → Int32) × (Nat → Int32)) => ∀ i, i < 8 → u.1 i = cmp1 mta mms fr i) (fun (u : (Nat → Int32) × (Nat → Int32)) => (mX g md mfa mmz msz mnow mgr mmo mre msd mbg mky mli mrf mrn mka u.1 u.2 mms mhs mke msa mkn mkb mku mhp mpa mpb mit mus mid mbe mla msi mtx mra))) := by
  refine mkC (by decide) (Nat.le_of_ble_eq_true rfl) ?_
  intro p e s m args below meth c A ls QQ F hr hlk hnm hQ hw hl
  have hx := F.1
  have hb := F.2.1
  replace hl : lv_has ls 13 [(0, .ref (md 0)), (1, .int (nI fr))] := hl
  refine lv_iconst (v := nI 0) hx hb dX8_block_0 (by decide) ?_
  refine lv_istore_n (lv' := [(2, .int (nI 0)), (0, .ref (md 0)), (1, .int (nI fr))]) hx hb dX8_block_1 rfl hl (by decide) rfl (fun ls hl => ?_)
  have L_2 : ∀ (nn k : Nat), k ≤ 16 → 16 < k + nn → ∀ (H : Heap) (locs : List Loc) (ls : Array Slot), Wd g s A H locs (mX g md mfa mmz msz mnow mgr mmo mre msd mbg mky mli mrf mrn mka mta (sc1 mms fr mwd k) mms mhs mke msa mkn mkb mku mhp mpa mpb mit mus mid mbe mla msi mtx mra) → lv_has ls 13 [(0, .ref (md 0)), (1, .int (nI fr)), (2, .int (nI k))] → W p l e (rmm 1 21) s m args below meth c H locs 0 0 QQ (F0 m 2 ls []) := by
    intro nn
    induction nn with
    | zero => intro k h1 h2; exact absurd h2 (by omega)
    | succ nn ih =>
      intro k hk_k hn_k H locs ls hw hl
      refine lv_iload_n hx hb dX8_block_2 rfl (lv_at hl 2 rfl) ?_
      refine lv_bipush (v := nI 16) hx hb dX8_block_3 (by decide) ?_
      refine n_ge (tgt := 68) hx hb (by omega) (by omega) dX8_block_5 (by decide) (fun c_5 => ?_) (fun c_5 => ?_)
      · obtain rfl : k = 16 := by omega
        refine lv_bipush (v := nI 16) hx hb dX8_block_68 (by decide) ?_
        refine lv_istore_n (lv' := [(2, .int (nI 16)), (0, .ref (md 0)), (1, .int (nI fr))]) hx hb dX8_block_70 rfl hl (by decide) rfl (fun ls hl => ?_)
        have L_71 : ∀ (nn j : Nat), j ≤ 48 → 48 < j + nn → ∀ (H : Heap) (locs : List Loc) (ls : Array Slot), Wd g s A H locs (mX g md mfa mmz msz mnow mgr mmo mre msd mbg mky mli mrf mrn mka mta (sc2 (sc1 mms fr mwd 16) j) mms mhs mke msa mkn mkb mku mhp mpa mpb mit mus mid mbe mla msi mtx mra) → lv_has ls 13 [(0, .ref (md 0)), (2, .int (nI (16 + j)))] → W p l e (rmm 1 21) s m args below meth c H locs 0 0 QQ (F0 m 71 ls []) := by
          intro nn
          induction nn with
          | zero => intro j h1 h2; exact absurd h2 (by omega)
          | succ nn ih =>
            intro j hk_j hn_j H locs ls hw hl
            refine lv_iload_n hx hb dX8_block_71 rfl (lv_at hl 1 rfl) ?_
            refine lv_bipush (v := nI 64) hx hb dX8_block_72 (by decide) ?_
            refine n_ge (tgt := 168) hx hb (by omega) (by omega) dX8_block_74 (by decide) (fun c_74 => ?_) (fun c_74 => ?_)
            · obtain rfl : j = 48 := by omega
              refine lv_aload_n hx hb dX8_block_168 rfl (lv_at hl 0 rfl) ?_
              refine gf_X8_88 F hw 0 rfl rfl dX8_block_169 ?_
              refine lv_iconst (v := nI 0) hx hb dX8_block_172 (by decide) ?_
              refine ia_ld F hw 3 rfl (by omega) (by omega) dX8_block_173 ?_
              refine lv_istore_n (lv' := [(2, .int ((mta 0))), (0, .ref (md 0))]) hx hb dX8_block_174 rfl hl (by decide) rfl (fun ls hl => ?_)
              refine lv_aload_n hx hb dX8_block_175 rfl (lv_at hl 1 rfl) ?_
              refine gf_X8_88 F hw 0 rfl rfl dX8_block_176 ?_
              refine lv_iconst (v := nI 1) hx hb dX8_block_179 (by decide) ?_
              refine ia_ld F hw 3 rfl (by omega) (by omega) dX8_block_180 ?_
              refine lv_istore_n (lv' := [(3, .int ((mta 1))), (2, .int ((mta 0))), (0, .ref (md 0))]) hx hb dX8_block_181 rfl hl (by decide) rfl (fun ls hl => ?_)
              refine lv_aload_n hx hb dX8_block_182 rfl (lv_at hl 2 rfl) ?_
              refine gf_X8_88 F hw 0 rfl rfl dX8_block_183 ?_
              refine lv_iconst (v := nI 2) hx hb dX8_block_186 (by decide) ?_
              refine ia_ld F hw 3 rfl (by omega) (by omega) dX8_block_187 ?_
              refine lv_istore (lv' := [(4, .int ((mta 2))), (3, .int ((mta 1))), (2, .int ((mta 0))), (0, .ref (md 0))]) hx hb dX8_block_188 hl (by decide) rfl (fun ls hl => ?_)
              refine lv_aload_n hx hb dX8_block_190 rfl (lv_at hl 3 rfl) ?_
              refine gf_X8_88 F hw 0 rfl rfl dX8_block_191 ?_
              refine lv_iconst (v := nI 3) hx hb dX8_block_194 (by decide) ?_
              refine ia_ld F hw 3 rfl (by omega) (by omega) dX8_block_195 ?_
              refine lv_istore (lv' := [(5, .int ((mta 3))), (4, .int ((mta 2))), (3, .int ((mta 1))), (2, .int ((mta 0))), (0, .ref (md 0))]) hx hb dX8_block_196 hl (by decide) rfl (fun ls hl => ?_)
              refine lv_aload_n hx hb dX8_block_198 rfl (lv_at hl 4 rfl) ?_
              refine gf_X8_88 F hw 0 rfl rfl dX8_block_199 ?_
              refine lv_iconst (v := nI 4) hx hb dX8_block_202 (by decide) ?_
              refine ia_ld F hw 3 rfl (by omega) (by omega) dX8_block_203 ?_
              refine lv_istore (lv' := [(6, .int ((mta 4))), (5, .int ((mta 3))), (4, .int ((mta 2))), (3, .int ((mta 1))), (2, .int ((mta 0))), (0, .ref (md 0))]) hx hb dX8_block_204 hl (by decide) rfl (fun ls hl => ?_)
              refine lv_aload_n hx hb dX8_block_206 rfl (lv_at hl 5 rfl) ?_
              refine gf_X8_88 F hw 0 rfl rfl dX8_block_207 ?_
              refine lv_iconst (v := nI 5) hx hb dX8_block_210 (by decide) ?_
              refine ia_ld F hw 3 rfl (by omega) (by omega) dX8_block_211 ?_
              refine lv_istore (lv' := [(7, .int ((mta 5))), (6, .int ((mta 4))), (5, .int ((mta 3))), (4, .int ((mta 2))), (3, .int ((mta 1))), (2, .int ((mta 0))), (0, .ref (md 0))]) hx hb dX8_block_212 hl (by decide) rfl (fun ls hl => ?_)
              refine lv_aload_n hx hb dX8_block_214 rfl (lv_at hl 6 rfl) ?_
              refine gf_X8_88 F hw 0 rfl rfl dX8_block_215 ?_
              refine lv_bipush (v := nI 6) hx hb dX8_block_218 (by decide) ?_
              refine ia_ld F hw 3 rfl (by omega) (by omega) dX8_block_220 ?_
              refine lv_istore (lv' := [(8, .int ((mta 6))), (7, .int ((mta 5))), (6, .int ((mta 4))), (5, .int ((mta 3))), (4, .int ((mta 2))), (3, .int ((mta 1))), (2, .int ((mta 0))), (0, .ref (md 0))]) hx hb dX8_block_221 hl (by decide) rfl (fun ls hl => ?_)
              refine lv_aload_n hx hb dX8_block_223 rfl (lv_at hl 7 rfl) ?_
              refine gf_X8_88 F hw 0 rfl rfl dX8_block_224 ?_
              refine lv_bipush (v := nI 7) hx hb dX8_block_227 (by decide) ?_
              refine ia_ld F hw 3 rfl (by omega) (by omega) dX8_block_229 ?_
              refine lv_istore (lv' := [(9, .int ((mta 7))), (8, .int ((mta 6))), (7, .int ((mta 5))), (6, .int ((mta 4))), (5, .int ((mta 3))), (4, .int ((mta 2))), (3, .int ((mta 1))), (2, .int ((mta 0))), (0, .ref (md 0))]) hx hb dX8_block_230 hl (by decide) rfl (fun ls hl => ?_)
              refine lv_iconst (v := nI 0) hx hb dX8_block_232 (by decide) ?_
              refine lv_istore (lv' := [(10, .int (nI 0)), (9, .int ((mta 7))), (8, .int ((mta 6))), (7, .int ((mta 5))), (6, .int ((mta 4))), (5, .int ((mta 3))), (4, .int ((mta 2))), (3, .int ((mta 1))), (2, .int ((mta 0))), (0, .ref (md 0))]) hx hb dX8_block_233 hl (by decide) rfl (fun ls hl => ?_)
              have L_235 : ∀ (nn k3 : Nat), k3 ≤ 64 → 64 < k3 + nn → ∀ (H : Heap) (locs : List Loc) (ls : Array Slot), Wd g s A H locs (mX g md mfa mmz msz mnow mgr mmo mre msd mbg mky mli mrf mrn mka mta (sc2 (sc1 mms fr mwd 16) 48) mms mhs mke msa mkn mkb mku mhp mpa mpb mit mus mid mbe mla msi mtx mra) → lv_has ls 13 [(0, .ref (md 0)), (2, .int ((mx mta (sc2 (sc1 mms fr mwd 16) 48) k3 0))), (3, .int ((mx mta (sc2 (sc1 mms fr mwd 16) 48) k3 1))), (4, .int ((mx mta (sc2 (sc1 mms fr mwd 16) 48) k3 2))), (5, .int ((mx mta (sc2 (sc1 mms fr mwd 16) 48) k3 3))), (6, .int ((mx mta (sc2 (sc1 mms fr mwd 16) 48) k3 4))), (7, .int ((mx mta (sc2 (sc1 mms fr mwd 16) 48) k3 5))), (8, .int ((mx mta (sc2 (sc1 mms fr mwd 16) 48) k3 6))), (9, .int ((mx mta (sc2 (sc1 mms fr mwd 16) 48) k3 7))), (10, .int (nI k3))] → W p l e (rmm 1 21) s m args below meth c H locs 0 0 QQ (F0 m 235 ls []) := by
                intro nn
                induction nn with
                | zero => intro k3 h1 h2; exact absurd h2 (by omega)
                | succ nn ih =>
                  intro k3 hk_k3 hn_k3 H locs ls hw hl
                  refine lv_iload hx hb dX8_block_235 (lv_at hl 9 rfl) ?_
                  refine lv_bipush (v := nI 64) hx hb dX8_block_237 (by decide) ?_
                  refine n_ge (tgt := 375) hx hb (by omega) (by omega) dX8_block_239 (by decide) (fun c_239 => ?_) (fun c_239 => ?_)
                  · obtain rfl : k3 = 64 := by omega
                    refine lv_aload_n hx hb dX8_block_375 rfl (lv_at hl 0 rfl) ?_
                    refine gf_X8_88 F hw 0 rfl rfl dX8_block_376 ?_
                    refine lv_iconst (v := nI 0) hx hb dX8_block_379 (by decide) ?_
                    refine lv_aload_n hx hb dX8_block_380 rfl (lv_at hl 0 rfl) ?_
                    refine gf_X8_88 F hw 0 rfl rfl dX8_block_381 ?_
                    refine lv_iconst (v := nI 0) hx hb dX8_block_384 (by decide) ?_
                    refine ia_ld F hw 3 rfl (by omega) (by omega) dX8_block_385 ?_
                    refine lv_iload_n hx hb dX8_block_386 rfl (lv_at hl 1 rfl) ?_
                    refine lv_iadd hx hb dX8_block_387 ?_
                    refine ia_st F hw 3 rfl (by omega) (by omega) dX8_block_388 (fun H locs hw => ?_)
                    replace hw : Wd g s A H locs (mX g md mfa mmz msz mnow mgr mmo mre msd mbg mky mli mrf mrn mka (upd mta 0 ((mta 0) + (mx mta (sc2 (sc1 mms fr mwd 16) 48) 64 0))) (sc2 (sc1 mms fr mwd 16) 48) mms mhs mke msa mkn mkb mku mhp mpa mpb mit mus mid mbe mla msi mtx mra) := hw
                    refine lv_aload_n hx hb dX8_block_389 rfl (lv_at hl 0 rfl) ?_
                    refine gf_X8_88 F hw 0 rfl rfl dX8_block_390 ?_
                    refine lv_iconst (v := nI 1) hx hb dX8_block_393 (by decide) ?_
                    refine lv_aload_n hx hb dX8_block_394 rfl (lv_at hl 0 rfl) ?_
                    refine gf_X8_88 F hw 0 rfl rfl dX8_block_395 ?_
                    refine lv_iconst (v := nI 1) hx hb dX8_block_398 (by decide) ?_
                    refine ia_ld F hw 3 rfl (by omega) (by omega) dX8_block_399 ?_
                    refine tp_i (y := (mta 1)) rfl ?_
                    refine lv_iload_n hx hb dX8_block_400 rfl (lv_at hl 2 rfl) ?_
                    refine lv_iadd hx hb dX8_block_401 ?_
                    refine ia_st F hw 3 rfl (by omega) (by omega) dX8_block_402 (fun H locs hw => ?_)
                    replace hw : Wd g s A H locs (mX g md mfa mmz msz mnow mgr mmo mre msd mbg mky mli mrf mrn mka (upd (upd mta 0 ((mta 0) + (mx mta (sc2 (sc1 mms fr mwd 16) 48) 64 0))) 1 ((mta 1) + (mx mta (sc2 (sc1 mms fr mwd 16) 48) 64 1))) (sc2 (sc1 mms fr mwd 16) 48) mms mhs mke msa mkn mkb mku mhp mpa mpb mit mus mid mbe mla msi mtx mra) := hw
                    refine lv_aload_n hx hb dX8_block_403 rfl (lv_at hl 0 rfl) ?_
                    refine gf_X8_88 F hw 0 rfl rfl dX8_block_404 ?_
                    refine lv_iconst (v := nI 2) hx hb dX8_block_407 (by decide) ?_
                    refine lv_aload_n hx hb dX8_block_408 rfl (lv_at hl 0 rfl) ?_
                    refine gf_X8_88 F hw 0 rfl rfl dX8_block_409 ?_
                    refine lv_iconst (v := nI 2) hx hb dX8_block_412 (by decide) ?_
                    refine ia_ld F hw 3 rfl (by omega) (by omega) dX8_block_413 ?_
                    refine tp_i (y := (mta 2)) rfl ?_
                    refine lv_iload hx hb dX8_block_414 (lv_at hl 3 rfl) ?_
                    refine lv_iadd hx hb dX8_block_416 ?_
                    refine ia_st F hw 3 rfl (by omega) (by omega) dX8_block_417 (fun H locs hw => ?_)
                    replace hw : Wd g s A H locs (mX g md mfa mmz msz mnow mgr mmo mre msd mbg mky mli mrf mrn mka (upd (upd (upd mta 0 ((mta 0) + (mx mta (sc2 (sc1 mms fr mwd 16) 48) 64 0))) 1 ((mta 1) + (mx mta (sc2 (sc1 mms fr mwd 16) 48) 64 1))) 2 ((mta 2) + (mx mta (sc2 (sc1 mms fr mwd 16) 48) 64 2))) (sc2 (sc1 mms fr mwd 16) 48) mms mhs mke msa mkn mkb mku mhp mpa mpb mit mus mid mbe mla msi mtx mra) := hw
                    refine lv_aload_n hx hb dX8_block_418 rfl (lv_at hl 0 rfl) ?_
                    refine gf_X8_88 F hw 0 rfl rfl dX8_block_419 ?_
                    refine lv_iconst (v := nI 3) hx hb dX8_block_422 (by decide) ?_
                    refine lv_aload_n hx hb dX8_block_423 rfl (lv_at hl 0 rfl) ?_
                    refine gf_X8_88 F hw 0 rfl rfl dX8_block_424 ?_
                    refine lv_iconst (v := nI 3) hx hb dX8_block_427 (by decide) ?_
                    refine ia_ld F hw 3 rfl (by omega) (by omega) dX8_block_428 ?_
                    refine tp_i (y := (mta 3)) rfl ?_
                    refine lv_iload hx hb dX8_block_429 (lv_at hl 4 rfl) ?_
                    refine lv_iadd hx hb dX8_block_431 ?_
                    refine ia_st F hw 3 rfl (by omega) (by omega) dX8_block_432 (fun H locs hw => ?_)
                    replace hw : Wd g s A H locs (mX g md mfa mmz msz mnow mgr mmo mre msd mbg mky mli mrf mrn mka (upd (upd (upd (upd mta 0 ((mta 0) + (mx mta (sc2 (sc1 mms fr mwd 16) 48) 64 0))) 1 ((mta 1) + (mx mta (sc2 (sc1 mms fr mwd 16) 48) 64 1))) 2 ((mta 2) + (mx mta (sc2 (sc1 mms fr mwd 16) 48) 64 2))) 3 ((mta 3) + (mx mta (sc2 (sc1 mms fr mwd 16) 48) 64 3))) (sc2 (sc1 mms fr mwd 16) 48) mms mhs mke msa mkn mkb mku mhp mpa mpb mit mus mid mbe mla msi mtx mra) := hw
                    refine lv_aload_n hx hb dX8_block_433 rfl (lv_at hl 0 rfl) ?_
                    refine gf_X8_88 F hw 0 rfl rfl dX8_block_434 ?_
                    refine lv_iconst (v := nI 4) hx hb dX8_block_437 (by decide) ?_
                    refine lv_aload_n hx hb dX8_block_438 rfl (lv_at hl 0 rfl) ?_
                    refine gf_X8_88 F hw 0 rfl rfl dX8_block_439 ?_
                    refine lv_iconst (v := nI 4) hx hb dX8_block_442 (by decide) ?_
                    refine ia_ld F hw 3 rfl (by omega) (by omega) dX8_block_443 ?_
                    refine tp_i (y := (mta 4)) rfl ?_
                    refine lv_iload hx hb dX8_block_444 (lv_at hl 5 rfl) ?_
                    refine lv_iadd hx hb dX8_block_446 ?_
                    refine ia_st F hw 3 rfl (by omega) (by omega) dX8_block_447 (fun H locs hw => ?_)
                    replace hw : Wd g s A H locs (mX g md mfa mmz msz mnow mgr mmo mre msd mbg mky mli mrf mrn mka (upd (upd (upd (upd (upd mta 0 ((mta 0) + (mx mta (sc2 (sc1 mms fr mwd 16) 48) 64 0))) 1 ((mta 1) + (mx mta (sc2 (sc1 mms fr mwd 16) 48) 64 1))) 2 ((mta 2) + (mx mta (sc2 (sc1 mms fr mwd 16) 48) 64 2))) 3 ((mta 3) + (mx mta (sc2 (sc1 mms fr mwd 16) 48) 64 3))) 4 ((mta 4) + (mx mta (sc2 (sc1 mms fr mwd 16) 48) 64 4))) (sc2 (sc1 mms fr mwd 16) 48) mms mhs mke msa mkn mkb mku mhp mpa mpb mit mus mid mbe mla msi mtx mra) := hw
                    refine lv_aload_n hx hb dX8_block_448 rfl (lv_at hl 0 rfl) ?_
                    refine gf_X8_88 F hw 0 rfl rfl dX8_block_449 ?_
                    refine lv_iconst (v := nI 5) hx hb dX8_block_452 (by decide) ?_
                    refine lv_aload_n hx hb dX8_block_453 rfl (lv_at hl 0 rfl) ?_
                    refine gf_X8_88 F hw 0 rfl rfl dX8_block_454 ?_
                    refine lv_iconst (v := nI 5) hx hb dX8_block_457 (by decide) ?_
                    refine ia_ld F hw 3 rfl (by omega) (by omega) dX8_block_458 ?_
                    refine tp_i (y := (mta 5)) rfl ?_
                    refine lv_iload hx hb dX8_block_459 (lv_at hl 6 rfl) ?_
                    refine lv_iadd hx hb dX8_block_461 ?_
                    refine ia_st F hw 3 rfl (by omega) (by omega) dX8_block_462 (fun H locs hw => ?_)
                    replace hw : Wd g s A H locs (mX g md mfa mmz msz mnow mgr mmo mre msd mbg mky mli mrf mrn mka (upd (upd (upd (upd (upd (upd mta 0 ((mta 0) + (mx mta (sc2 (sc1 mms fr mwd 16) 48) 64 0))) 1 ((mta 1) + (mx mta (sc2 (sc1 mms fr mwd 16) 48) 64 1))) 2 ((mta 2) + (mx mta (sc2 (sc1 mms fr mwd 16) 48) 64 2))) 3 ((mta 3) + (mx mta (sc2 (sc1 mms fr mwd 16) 48) 64 3))) 4 ((mta 4) + (mx mta (sc2 (sc1 mms fr mwd 16) 48) 64 4))) 5 ((mta 5) + (mx mta (sc2 (sc1 mms fr mwd 16) 48) 64 5))) (sc2 (sc1 mms fr mwd 16) 48) mms mhs mke msa mkn mkb mku mhp mpa mpb mit mus mid mbe mla msi mtx mra) := hw
                    refine lv_aload_n hx hb dX8_block_463 rfl (lv_at hl 0 rfl) ?_
                    refine gf_X8_88 F hw 0 rfl rfl dX8_block_464 ?_
                    refine lv_bipush (v := nI 6) hx hb dX8_block_467 (by decide) ?_
                    refine lv_aload_n hx hb dX8_block_469 rfl (lv_at hl 0 rfl) ?_
                    refine gf_X8_88 F hw 0 rfl rfl dX8_block_470 ?_
                    refine lv_bipush (v := nI 6) hx hb dX8_block_473 (by decide) ?_
                    refine ia_ld F hw 3 rfl (by omega) (by omega) dX8_block_475 ?_
                    refine tp_i (y := (mta 6)) rfl ?_
                    refine lv_iload hx hb dX8_block_476 (lv_at hl 7 rfl) ?_
                    refine lv_iadd hx hb dX8_block_478 ?_
                    refine ia_st F hw 3 rfl (by omega) (by omega) dX8_block_479 (fun H locs hw => ?_)
                    replace hw : Wd g s A H locs (mX g md mfa mmz msz mnow mgr mmo mre msd mbg mky mli mrf mrn mka (upd (upd (upd (upd (upd (upd (upd mta 0 ((mta 0) + (mx mta (sc2 (sc1 mms fr mwd 16) 48) 64 0))) 1 ((mta 1) + (mx mta (sc2 (sc1 mms fr mwd 16) 48) 64 1))) 2 ((mta 2) + (mx mta (sc2 (sc1 mms fr mwd 16) 48) 64 2))) 3 ((mta 3) + (mx mta (sc2 (sc1 mms fr mwd 16) 48) 64 3))) 4 ((mta 4) + (mx mta (sc2 (sc1 mms fr mwd 16) 48) 64 4))) 5 ((mta 5) + (mx mta (sc2 (sc1 mms fr mwd 16) 48) 64 5))) 6 ((mta 6) + (mx mta (sc2 (sc1 mms fr mwd 16) 48) 64 6))) (sc2 (sc1 mms fr mwd 16) 48) mms mhs mke msa mkn mkb mku mhp mpa mpb mit mus mid mbe mla msi mtx mra) := hw
                    refine lv_aload_n hx hb dX8_block_480 rfl (lv_at hl 0 rfl) ?_
                    refine gf_X8_88 F hw 0 rfl rfl dX8_block_481 ?_
                    refine lv_bipush (v := nI 7) hx hb dX8_block_484 (by decide) ?_
                    refine lv_aload_n hx hb dX8_block_486 rfl (lv_at hl 0 rfl) ?_
                    refine gf_X8_88 F hw 0 rfl rfl dX8_block_487 ?_
                    refine lv_bipush (v := nI 7) hx hb dX8_block_490 (by decide) ?_
                    refine ia_ld F hw 3 rfl (by omega) (by omega) dX8_block_492 ?_
                    refine tp_i (y := (mta 7)) rfl ?_
                    refine lv_iload hx hb dX8_block_493 (lv_at hl 8 rfl) ?_
                    refine lv_iadd hx hb dX8_block_495 ?_
                    refine ia_st F hw 3 rfl (by omega) (by omega) dX8_block_496 (fun H locs hw => ?_)
                    replace hw : Wd g s A H locs (mX g md mfa mmz msz mnow mgr mmo mre msd mbg mky mli mrf mrn mka (upd (upd (upd (upd (upd (upd (upd (upd mta 0 ((mta 0) + (mx mta (sc2 (sc1 mms fr mwd 16) 48) 64 0))) 1 ((mta 1) + (mx mta (sc2 (sc1 mms fr mwd 16) 48) 64 1))) 2 ((mta 2) + (mx mta (sc2 (sc1 mms fr mwd 16) 48) 64 2))) 3 ((mta 3) + (mx mta (sc2 (sc1 mms fr mwd 16) 48) 64 3))) 4 ((mta 4) + (mx mta (sc2 (sc1 mms fr mwd 16) 48) 64 4))) 5 ((mta 5) + (mx mta (sc2 (sc1 mms fr mwd 16) 48) 64 5))) 6 ((mta 6) + (mx mta (sc2 (sc1 mms fr mwd 16) 48) 64 6))) 7 ((mta 7) + (mx mta (sc2 (sc1 mms fr mwd 16) 48) 64 7))) (sc2 (sc1 mms fr mwd 16) 48) mms mhs mke msa mkn mkb mku mhp mpa mpb mit mus mid mbe mla msi mtx mra) := hw
                    exact rt_v F hr hlk hQ hw (upd (upd (upd (upd (upd (upd (upd (upd mta 0 ((mta 0) + (mx mta (sc2 (sc1 mms fr mwd 16) 48) 64 0))) 1 ((mta 1) + (mx mta (sc2 (sc1 mms fr mwd 16) 48) 64 1))) 2 ((mta 2) + (mx mta (sc2 (sc1 mms fr mwd 16) 48) 64 2))) 3 ((mta 3) + (mx mta (sc2 (sc1 mms fr mwd 16) 48) 64 3))) 4 ((mta 4) + (mx mta (sc2 (sc1 mms fr mwd 16) 48) 64 4))) 5 ((mta 5) + (mx mta (sc2 (sc1 mms fr mwd 16) 48) 64 5))) 6 ((mta 6) + (mx mta (sc2 (sc1 mms fr mwd 16) 48) 64 6))) 7 ((mta 7) + (mx mta (sc2 (sc1 mms fr mwd 16) 48) 64 7)), (sc2 (sc1 mms fr mwd 16) 48)) (fun i hi => Eq.trans (b := mta i + mx mta (sc2 (sc1 mms fr mwd 16) 48) 64 i) (match i, hi with | 0, _ => rfl | 1, _ => rfl | 2, _ => rfl | 3, _ => rfl | 4, _ => rfl | 5, _ => rfl | 6, _ => rfl | 7, _ => rfl | n + 8, h => absurd h (by omega)) (blk_end i hi)) rfl dX8_block_497
                  · refine lv_iload hx hb dX8_block_242 (lv_at hl 8 rfl) ?_
                    refine lv_iload hx hb dX8_block_244 (lv_at hl 5 rfl) ?_
                    refine lv_bipush (v := nI 6) hx hb dX8_block_246 (by decide) ?_
                    refine cl_i hw [] rfl (rn_S F hw (c_X8_turn g l (mx mta (sc2 (sc1 mms fr mwd 16) 48) k3 4) 6 (by omega)) (cw_X8_169 F.2.2.2.2 ⟨by decide, by decide⟩) [] (by decide) rfl hl.1 rfl (Nat.le_of_ble_eq_true rfl) dX8_block_248 ⟨Nat.zero_le _, Nat.zero_le _⟩) (fun _ => rfl) (fun v_2 u_1 H locs hp_3 hw => ?_)
                    subst hp_3
                    replace hw : Wd g s A H locs (mX g md mfa mmz msz mnow mgr mmo mre msd mbg mky mli mrf mrn mka mta (sc2 (sc1 mms fr mwd 16) 48) mms mhs mke msa mkn mkb mku mhp mpa mpb mit mus mid mbe mla msi mtx mra) := hw
                    refine lv_iload hx hb dX8_block_251 (lv_at hl 5 rfl) ?_
                    refine lv_bipush (v := nI 11) hx hb dX8_block_253 (by decide) ?_
                    refine cl_i hw [] rfl (rn_S F hw (c_X8_turn g l (mx mta (sc2 (sc1 mms fr mwd 16) 48) k3 4) 11 (by omega)) (cw_X8_169 F.2.2.2.2 ⟨by decide, by decide⟩) [] (by decide) rfl hl.1 rfl (Nat.le_of_ble_eq_true rfl) dX8_block_255 ⟨Nat.zero_le _, Nat.zero_le _⟩) (fun _ => rfl) (fun v_5 u_4 H locs hp_6 hw => ?_)
                    subst hp_6
                    replace hw : Wd g s A H locs (mX g md mfa mmz msz mnow mgr mmo mre msd mbg mky mli mrf mrn mka mta (sc2 (sc1 mms fr mwd 16) 48) mms mhs mke msa mkn mkb mku mhp mpa mpb mit mus mid mbe mla msi mtx mra) := hw
                    refine lv_ixor hx hb dX8_block_258 ?_
                    refine lv_iload hx hb dX8_block_259 (lv_at hl 5 rfl) ?_
                    refine lv_bipush (v := nI 25) hx hb dX8_block_261 (by decide) ?_
                    refine cl_i hw [] rfl (rn_S F hw (c_X8_turn g l (mx mta (sc2 (sc1 mms fr mwd 16) 48) k3 4) 25 (by omega)) (cw_X8_169 F.2.2.2.2 ⟨by decide, by decide⟩) [] (by decide) rfl hl.1 rfl (Nat.le_of_ble_eq_true rfl) dX8_block_263 ⟨Nat.zero_le _, Nat.zero_le _⟩) (fun _ => rfl) (fun v_8 u_7 H locs hp_9 hw => ?_)
                    subst hp_9
                    replace hw : Wd g s A H locs (mX g md mfa mmz msz mnow mgr mmo mre msd mbg mky mli mrf mrn mka mta (sc2 (sc1 mms fr mwd 16) 48) mms mhs mke msa mkn mkb mku mhp mpa mpb mit mus mid mbe mla msi mtx mra) := hw
                    refine lv_ixor hx hb dX8_block_266 ?_
                    refine lv_iadd hx hb dX8_block_267 ?_
                    refine lv_iload hx hb dX8_block_268 (lv_at hl 5 rfl) ?_
                    refine lv_iload hx hb dX8_block_270 (lv_at hl 6 rfl) ?_
                    refine lv_iand hx hb dX8_block_272 ?_
                    refine lv_iload hx hb dX8_block_273 (lv_at hl 5 rfl) ?_
                    refine lv_iconst (v := (-1)) hx hb dX8_block_275 (by decide) ?_
                    refine lv_ixor hx hb dX8_block_276 ?_
                    refine lv_iload hx hb dX8_block_277 (lv_at hl 7 rfl) ?_
                    refine lv_iand hx hb dX8_block_279 ?_
                    refine lv_ixor hx hb dX8_block_280 ?_
                    refine lv_iadd hx hb dX8_block_281 ?_
                    refine lv_aload_n hx hb dX8_block_282 rfl (lv_at hl 0 rfl) ?_
                    refine gf_X8_71 F hw 0 rfl rfl dX8_block_283 ?_
                    refine lv_iload hx hb dX8_block_286 (lv_at hl 9 rfl) ?_
                    refine ia_ld F hw 1 rfl (by omega) (by omega) dX8_block_288 ?_
                    refine lv_iadd hx hb dX8_block_289 ?_
                    refine lv_aload_n hx hb dX8_block_290 rfl (lv_at hl 0 rfl) ?_
                    refine gf_X8_91 F hw 0 rfl rfl dX8_block_291 ?_
                    refine lv_iload hx hb dX8_block_294 (lv_at hl 9 rfl) ?_
                    refine ia_ld F hw 4 rfl (by omega) (by omega) dX8_block_296 ?_
                    refine lv_iadd hx hb dX8_block_297 ?_
                    refine tp_i (y := loS (mx mta (sc2 (sc1 mms fr mwd 16) 48) k3 4) (mx mta (sc2 (sc1 mms fr mwd 16) 48) k3 5) (mx mta (sc2 (sc1 mms fr mwd 16) 48) k3 6) (mx mta (sc2 (sc1 mms fr mwd 16) 48) k3 7) (kR k3) ((sc2 (sc1 mms fr mwd 16) 48) k3)) rfl ?_
                    refine lv_istore (lv' := [(11, .int ((loS (mx mta (sc2 (sc1 mms fr mwd 16) 48) k3 4) (mx mta (sc2 (sc1 mms fr mwd 16) 48) k3 5) (mx mta (sc2 (sc1 mms fr mwd 16) 48) k3 6) (mx mta (sc2 (sc1 mms fr mwd 16) 48) k3 7) (kR k3) ((sc2 (sc1 mms fr mwd 16) 48) k3)))), (0, .ref (md 0)), (2, .int ((mx mta (sc2 (sc1 mms fr mwd 16) 48) k3 0))), (3, .int ((mx mta (sc2 (sc1 mms fr mwd 16) 48) k3 1))), (4, .int ((mx mta (sc2 (sc1 mms fr mwd 16) 48) k3 2))), (5, .int ((mx mta (sc2 (sc1 mms fr mwd 16) 48) k3 3))), (6, .int ((mx mta (sc2 (sc1 mms fr mwd 16) 48) k3 4))), (7, .int ((mx mta (sc2 (sc1 mms fr mwd 16) 48) k3 5))), (8, .int ((mx mta (sc2 (sc1 mms fr mwd 16) 48) k3 6))), (9, .int ((mx mta (sc2 (sc1 mms fr mwd 16) 48) k3 7))), (10, .int (nI k3))]) hx hb dX8_block_298 hl (by decide) rfl (fun ls hl => ?_)
                    refine lv_iload_n hx hb dX8_block_300 rfl (lv_at hl 2 rfl) ?_
                    refine lv_iconst (v := nI 2) hx hb dX8_block_301 (by decide) ?_
                    refine cl_i hw [] rfl (rn_S F hw (c_X8_turn g l (mx mta (sc2 (sc1 mms fr mwd 16) 48) k3 0) 2 (by omega)) (cw_X8_169 F.2.2.2.2 ⟨by decide, by decide⟩) [] (by decide) rfl hl.1 rfl (Nat.le_of_ble_eq_true rfl) dX8_block_302 ⟨Nat.zero_le _, Nat.zero_le _⟩) (fun _ => rfl) (fun v_11 u_10 H locs hp_12 hw => ?_)
                    subst hp_12
                    replace hw : Wd g s A H locs (mX g md mfa mmz msz mnow mgr mmo mre msd mbg mky mli mrf mrn mka mta (sc2 (sc1 mms fr mwd 16) 48) mms mhs mke msa mkn mkb mku mhp mpa mpb mit mus mid mbe mla msi mtx mra) := hw
                    refine lv_iload_n hx hb dX8_block_305 rfl (lv_at hl 2 rfl) ?_
                    refine lv_bipush (v := nI 13) hx hb dX8_block_306 (by decide) ?_
                    refine cl_i hw [] rfl (rn_S F hw (c_X8_turn g l (mx mta (sc2 (sc1 mms fr mwd 16) 48) k3 0) 13 (by omega)) (cw_X8_169 F.2.2.2.2 ⟨by decide, by decide⟩) [] (by decide) rfl hl.1 rfl (Nat.le_of_ble_eq_true rfl) dX8_block_308 ⟨Nat.zero_le _, Nat.zero_le _⟩) (fun _ => rfl) (fun v_14 u_13 H locs hp_15 hw => ?_)
                    subst hp_15
                    replace hw : Wd g s A H locs (mX g md mfa mmz msz mnow mgr mmo mre msd mbg mky mli mrf mrn mka mta (sc2 (sc1 mms fr mwd 16) 48) mms mhs mke msa mkn mkb mku mhp mpa mpb mit mus mid mbe mla msi mtx mra) := hw
                    refine lv_ixor hx hb dX8_block_311 ?_
                    refine lv_iload_n hx hb dX8_block_312 rfl (lv_at hl 2 rfl) ?_
                    refine lv_bipush (v := nI 22) hx hb dX8_block_313 (by decide) ?_
                    refine cl_i hw [] rfl (rn_S F hw (c_X8_turn g l (mx mta (sc2 (sc1 mms fr mwd 16) 48) k3 0) 22 (by omega)) (cw_X8_169 F.2.2.2.2 ⟨by decide, by decide⟩) [] (by decide) rfl hl.1 rfl (Nat.le_of_ble_eq_true rfl) dX8_block_315 ⟨Nat.zero_le _, Nat.zero_le _⟩) (fun _ => rfl) (fun v_17 u_16 H locs hp_18 hw => ?_)
                    subst hp_18
                    replace hw : Wd g s A H locs (mX g md mfa mmz msz mnow mgr mmo mre msd mbg mky mli mrf mrn mka mta (sc2 (sc1 mms fr mwd 16) 48) mms mhs mke msa mkn mkb mku mhp mpa mpb mit mus mid mbe mla msi mtx mra) := hw
                    refine lv_ixor hx hb dX8_block_318 ?_
                    refine lv_iload_n hx hb dX8_block_319 rfl (lv_at hl 2 rfl) ?_
                    refine lv_iload_n hx hb dX8_block_320 rfl (lv_at hl 3 rfl) ?_
                    refine lv_iand hx hb dX8_block_321 ?_
                    refine lv_iload_n hx hb dX8_block_322 rfl (lv_at hl 2 rfl) ?_
                    refine lv_iload hx hb dX8_block_323 (lv_at hl 4 rfl) ?_
                    refine lv_iand hx hb dX8_block_325 ?_
                    refine lv_ixor hx hb dX8_block_326 ?_
                    refine lv_iload_n hx hb dX8_block_327 rfl (lv_at hl 3 rfl) ?_
                    refine lv_iload hx hb dX8_block_328 (lv_at hl 4 rfl) ?_
                    refine lv_iand hx hb dX8_block_330 ?_
                    refine lv_ixor hx hb dX8_block_331 ?_
                    refine lv_iadd hx hb dX8_block_332 ?_
                    refine tp_i (y := upS (mx mta (sc2 (sc1 mms fr mwd 16) 48) k3 0) (mx mta (sc2 (sc1 mms fr mwd 16) 48) k3 1) (mx mta (sc2 (sc1 mms fr mwd 16) 48) k3 2)) rfl ?_
                    refine lv_istore (lv' := [(12, .int ((upS (mx mta (sc2 (sc1 mms fr mwd 16) 48) k3 0) (mx mta (sc2 (sc1 mms fr mwd 16) 48) k3 1) (mx mta (sc2 (sc1 mms fr mwd 16) 48) k3 2)))), (11, .int ((loS (mx mta (sc2 (sc1 mms fr mwd 16) 48) k3 4) (mx mta (sc2 (sc1 mms fr mwd 16) 48) k3 5) (mx mta (sc2 (sc1 mms fr mwd 16) 48) k3 6) (mx mta (sc2 (sc1 mms fr mwd 16) 48) k3 7) (kR k3) ((sc2 (sc1 mms fr mwd 16) 48) k3)))), (0, .ref (md 0)), (2, .int ((mx mta (sc2 (sc1 mms fr mwd 16) 48) k3 0))), (3, .int ((mx mta (sc2 (sc1 mms fr mwd 16) 48) k3 1))), (4, .int ((mx mta (sc2 (sc1 mms fr mwd 16) 48) k3 2))), (5, .int ((mx mta (sc2 (sc1 mms fr mwd 16) 48) k3 3))), (6, .int ((mx mta (sc2 (sc1 mms fr mwd 16) 48) k3 4))), (7, .int ((mx mta (sc2 (sc1 mms fr mwd 16) 48) k3 5))), (8, .int ((mx mta (sc2 (sc1 mms fr mwd 16) 48) k3 6))), (9, .int ((mx mta (sc2 (sc1 mms fr mwd 16) 48) k3 7))), (10, .int (nI k3))]) hx hb dX8_block_333 hl (by decide) rfl (fun ls hl => ?_)
                    refine lv_iload hx hb dX8_block_335 (lv_at hl 9 rfl) ?_
                    refine lv_istore (lv' := [(9, .int ((mx mta (sc2 (sc1 mms fr mwd 16) 48) k3 6))), (12, .int ((upS (mx mta (sc2 (sc1 mms fr mwd 16) 48) k3 0) (mx mta (sc2 (sc1 mms fr mwd 16) 48) k3 1) (mx mta (sc2 (sc1 mms fr mwd 16) 48) k3 2)))), (11, .int ((loS (mx mta (sc2 (sc1 mms fr mwd 16) 48) k3 4) (mx mta (sc2 (sc1 mms fr mwd 16) 48) k3 5) (mx mta (sc2 (sc1 mms fr mwd 16) 48) k3 6) (mx mta (sc2 (sc1 mms fr mwd 16) 48) k3 7) (kR k3) ((sc2 (sc1 mms fr mwd 16) 48) k3)))), (0, .ref (md 0)), (2, .int ((mx mta (sc2 (sc1 mms fr mwd 16) 48) k3 0))), (3, .int ((mx mta (sc2 (sc1 mms fr mwd 16) 48) k3 1))), (4, .int ((mx mta (sc2 (sc1 mms fr mwd 16) 48) k3 2))), (5, .int ((mx mta (sc2 (sc1 mms fr mwd 16) 48) k3 3))), (6, .int ((mx mta (sc2 (sc1 mms fr mwd 16) 48) k3 4))), (7, .int ((mx mta (sc2 (sc1 mms fr mwd 16) 48) k3 5))), (8, .int ((mx mta (sc2 (sc1 mms fr mwd 16) 48) k3 6))), (10, .int (nI k3))]) hx hb dX8_block_337 hl (by decide) rfl (fun ls hl => ?_)
                    refine lv_iload hx hb dX8_block_339 (lv_at hl 9 rfl) ?_
                    refine lv_istore (lv' := [(8, .int ((mx mta (sc2 (sc1 mms fr mwd 16) 48) k3 5))), (9, .int ((mx mta (sc2 (sc1 mms fr mwd 16) 48) k3 6))), (12, .int ((upS (mx mta (sc2 (sc1 mms fr mwd 16) 48) k3 0) (mx mta (sc2 (sc1 mms fr mwd 16) 48) k3 1) (mx mta (sc2 (sc1 mms fr mwd 16) 48) k3 2)))), (11, .int ((loS (mx mta (sc2 (sc1 mms fr mwd 16) 48) k3 4) (mx mta (sc2 (sc1 mms fr mwd 16) 48) k3 5) (mx mta (sc2 (sc1 mms fr mwd 16) 48) k3 6) (mx mta (sc2 (sc1 mms fr mwd 16) 48) k3 7) (kR k3) ((sc2 (sc1 mms fr mwd 16) 48) k3)))), (0, .ref (md 0)), (2, .int ((mx mta (sc2 (sc1 mms fr mwd 16) 48) k3 0))), (3, .int ((mx mta (sc2 (sc1 mms fr mwd 16) 48) k3 1))), (4, .int ((mx mta (sc2 (sc1 mms fr mwd 16) 48) k3 2))), (5, .int ((mx mta (sc2 (sc1 mms fr mwd 16) 48) k3 3))), (6, .int ((mx mta (sc2 (sc1 mms fr mwd 16) 48) k3 4))), (7, .int ((mx mta (sc2 (sc1 mms fr mwd 16) 48) k3 5))), (10, .int (nI k3))]) hx hb dX8_block_341 hl (by decide) rfl (fun ls hl => ?_)
                    refine lv_iload hx hb dX8_block_343 (lv_at hl 9 rfl) ?_
                    refine lv_istore (lv' := [(7, .int ((mx mta (sc2 (sc1 mms fr mwd 16) 48) k3 4))), (8, .int ((mx mta (sc2 (sc1 mms fr mwd 16) 48) k3 5))), (9, .int ((mx mta (sc2 (sc1 mms fr mwd 16) 48) k3 6))), (12, .int ((upS (mx mta (sc2 (sc1 mms fr mwd 16) 48) k3 0) (mx mta (sc2 (sc1 mms fr mwd 16) 48) k3 1) (mx mta (sc2 (sc1 mms fr mwd 16) 48) k3 2)))), (11, .int ((loS (mx mta (sc2 (sc1 mms fr mwd 16) 48) k3 4) (mx mta (sc2 (sc1 mms fr mwd 16) 48) k3 5) (mx mta (sc2 (sc1 mms fr mwd 16) 48) k3 6) (mx mta (sc2 (sc1 mms fr mwd 16) 48) k3 7) (kR k3) ((sc2 (sc1 mms fr mwd 16) 48) k3)))), (0, .ref (md 0)), (2, .int ((mx mta (sc2 (sc1 mms fr mwd 16) 48) k3 0))), (3, .int ((mx mta (sc2 (sc1 mms fr mwd 16) 48) k3 1))), (4, .int ((mx mta (sc2 (sc1 mms fr mwd 16) 48) k3 2))), (5, .int ((mx mta (sc2 (sc1 mms fr mwd 16) 48) k3 3))), (6, .int ((mx mta (sc2 (sc1 mms fr mwd 16) 48) k3 4))), (10, .int (nI k3))]) hx hb dX8_block_345 hl (by decide) rfl (fun ls hl => ?_)
                    refine lv_iload hx hb dX8_block_347 (lv_at hl 9 rfl) ?_
                    refine lv_iload hx hb dX8_block_349 (lv_at hl 4 rfl) ?_
                    refine lv_iadd hx hb dX8_block_351 ?_
                    refine lv_istore (lv' := [(6, .int (((mx mta (sc2 (sc1 mms fr mwd 16) 48) k3 3) + (loS (mx mta (sc2 (sc1 mms fr mwd 16) 48) k3 4) (mx mta (sc2 (sc1 mms fr mwd 16) 48) k3 5) (mx mta (sc2 (sc1 mms fr mwd 16) 48) k3 6) (mx mta (sc2 (sc1 mms fr mwd 16) 48) k3 7) (kR k3) ((sc2 (sc1 mms fr mwd 16) 48) k3))))), (7, .int ((mx mta (sc2 (sc1 mms fr mwd 16) 48) k3 4))), (8, .int ((mx mta (sc2 (sc1 mms fr mwd 16) 48) k3 5))), (9, .int ((mx mta (sc2 (sc1 mms fr mwd 16) 48) k3 6))), (12, .int ((upS (mx mta (sc2 (sc1 mms fr mwd 16) 48) k3 0) (mx mta (sc2 (sc1 mms fr mwd 16) 48) k3 1) (mx mta (sc2 (sc1 mms fr mwd 16) 48) k3 2)))), (11, .int ((loS (mx mta (sc2 (sc1 mms fr mwd 16) 48) k3 4) (mx mta (sc2 (sc1 mms fr mwd 16) 48) k3 5) (mx mta (sc2 (sc1 mms fr mwd 16) 48) k3 6) (mx mta (sc2 (sc1 mms fr mwd 16) 48) k3 7) (kR k3) ((sc2 (sc1 mms fr mwd 16) 48) k3)))), (0, .ref (md 0)), (2, .int ((mx mta (sc2 (sc1 mms fr mwd 16) 48) k3 0))), (3, .int ((mx mta (sc2 (sc1 mms fr mwd 16) 48) k3 1))), (4, .int ((mx mta (sc2 (sc1 mms fr mwd 16) 48) k3 2))), (5, .int ((mx mta (sc2 (sc1 mms fr mwd 16) 48) k3 3))), (10, .int (nI k3))]) hx hb dX8_block_352 hl (by decide) rfl (fun ls hl => ?_)
                    refine lv_iload hx hb dX8_block_354 (lv_at hl 9 rfl) ?_
                    refine lv_istore (lv' := [(5, .int ((mx mta (sc2 (sc1 mms fr mwd 16) 48) k3 2))), (6, .int (((mx mta (sc2 (sc1 mms fr mwd 16) 48) k3 3) + (loS (mx mta (sc2 (sc1 mms fr mwd 16) 48) k3 4) (mx mta (sc2 (sc1 mms fr mwd 16) 48) k3 5) (mx mta (sc2 (sc1 mms fr mwd 16) 48) k3 6) (mx mta (sc2 (sc1 mms fr mwd 16) 48) k3 7) (kR k3) ((sc2 (sc1 mms fr mwd 16) 48) k3))))), (7, .int ((mx mta (sc2 (sc1 mms fr mwd 16) 48) k3 4))), (8, .int ((mx mta (sc2 (sc1 mms fr mwd 16) 48) k3 5))), (9, .int ((mx mta (sc2 (sc1 mms fr mwd 16) 48) k3 6))), (12, .int ((upS (mx mta (sc2 (sc1 mms fr mwd 16) 48) k3 0) (mx mta (sc2 (sc1 mms fr mwd 16) 48) k3 1) (mx mta (sc2 (sc1 mms fr mwd 16) 48) k3 2)))), (11, .int ((loS (mx mta (sc2 (sc1 mms fr mwd 16) 48) k3 4) (mx mta (sc2 (sc1 mms fr mwd 16) 48) k3 5) (mx mta (sc2 (sc1 mms fr mwd 16) 48) k3 6) (mx mta (sc2 (sc1 mms fr mwd 16) 48) k3 7) (kR k3) ((sc2 (sc1 mms fr mwd 16) 48) k3)))), (0, .ref (md 0)), (2, .int ((mx mta (sc2 (sc1 mms fr mwd 16) 48) k3 0))), (3, .int ((mx mta (sc2 (sc1 mms fr mwd 16) 48) k3 1))), (4, .int ((mx mta (sc2 (sc1 mms fr mwd 16) 48) k3 2))), (10, .int (nI k3))]) hx hb dX8_block_356 hl (by decide) rfl (fun ls hl => ?_)
                    refine lv_iload_n hx hb dX8_block_358 rfl (lv_at hl 9 rfl) ?_
                    refine lv_istore (lv' := [(4, .int ((mx mta (sc2 (sc1 mms fr mwd 16) 48) k3 1))), (5, .int ((mx mta (sc2 (sc1 mms fr mwd 16) 48) k3 2))), (6, .int (((mx mta (sc2 (sc1 mms fr mwd 16) 48) k3 3) + (loS (mx mta (sc2 (sc1 mms fr mwd 16) 48) k3 4) (mx mta (sc2 (sc1 mms fr mwd 16) 48) k3 5) (mx mta (sc2 (sc1 mms fr mwd 16) 48) k3 6) (mx mta (sc2 (sc1 mms fr mwd 16) 48) k3 7) (kR k3) ((sc2 (sc1 mms fr mwd 16) 48) k3))))), (7, .int ((mx mta (sc2 (sc1 mms fr mwd 16) 48) k3 4))), (8, .int ((mx mta (sc2 (sc1 mms fr mwd 16) 48) k3 5))), (9, .int ((mx mta (sc2 (sc1 mms fr mwd 16) 48) k3 6))), (12, .int ((upS (mx mta (sc2 (sc1 mms fr mwd 16) 48) k3 0) (mx mta (sc2 (sc1 mms fr mwd 16) 48) k3 1) (mx mta (sc2 (sc1 mms fr mwd 16) 48) k3 2)))), (11, .int ((loS (mx mta (sc2 (sc1 mms fr mwd 16) 48) k3 4) (mx mta (sc2 (sc1 mms fr mwd 16) 48) k3 5) (mx mta (sc2 (sc1 mms fr mwd 16) 48) k3 6) (mx mta (sc2 (sc1 mms fr mwd 16) 48) k3 7) (kR k3) ((sc2 (sc1 mms fr mwd 16) 48) k3)))), (0, .ref (md 0)), (2, .int ((mx mta (sc2 (sc1 mms fr mwd 16) 48) k3 0))), (3, .int ((mx mta (sc2 (sc1 mms fr mwd 16) 48) k3 1))), (10, .int (nI k3))]) hx hb dX8_block_359 hl (by decide) rfl (fun ls hl => ?_)
                    refine lv_iload_n hx hb dX8_block_361 rfl (lv_at hl 9 rfl) ?_
                    refine lv_istore_n (lv' := [(3, .int ((mx mta (sc2 (sc1 mms fr mwd 16) 48) k3 0))), (4, .int ((mx mta (sc2 (sc1 mms fr mwd 16) 48) k3 1))), (5, .int ((mx mta (sc2 (sc1 mms fr mwd 16) 48) k3 2))), (6, .int (((mx mta (sc2 (sc1 mms fr mwd 16) 48) k3 3) + (loS (mx mta (sc2 (sc1 mms fr mwd 16) 48) k3 4) (mx mta (sc2 (sc1 mms fr mwd 16) 48) k3 5) (mx mta (sc2 (sc1 mms fr mwd 16) 48) k3 6) (mx mta (sc2 (sc1 mms fr mwd 16) 48) k3 7) (kR k3) ((sc2 (sc1 mms fr mwd 16) 48) k3))))), (7, .int ((mx mta (sc2 (sc1 mms fr mwd 16) 48) k3 4))), (8, .int ((mx mta (sc2 (sc1 mms fr mwd 16) 48) k3 5))), (9, .int ((mx mta (sc2 (sc1 mms fr mwd 16) 48) k3 6))), (12, .int ((upS (mx mta (sc2 (sc1 mms fr mwd 16) 48) k3 0) (mx mta (sc2 (sc1 mms fr mwd 16) 48) k3 1) (mx mta (sc2 (sc1 mms fr mwd 16) 48) k3 2)))), (11, .int ((loS (mx mta (sc2 (sc1 mms fr mwd 16) 48) k3 4) (mx mta (sc2 (sc1 mms fr mwd 16) 48) k3 5) (mx mta (sc2 (sc1 mms fr mwd 16) 48) k3 6) (mx mta (sc2 (sc1 mms fr mwd 16) 48) k3 7) (kR k3) ((sc2 (sc1 mms fr mwd 16) 48) k3)))), (0, .ref (md 0)), (2, .int ((mx mta (sc2 (sc1 mms fr mwd 16) 48) k3 0))), (10, .int (nI k3))]) hx hb dX8_block_362 rfl hl (by decide) rfl (fun ls hl => ?_)
                    refine lv_iload hx hb dX8_block_363 (lv_at hl 8 rfl) ?_
                    refine lv_iload hx hb dX8_block_365 (lv_at hl 7 rfl) ?_
                    refine lv_iadd hx hb dX8_block_367 ?_
                    refine lv_istore_n (lv' := [(2, .int (((loS (mx mta (sc2 (sc1 mms fr mwd 16) 48) k3 4) (mx mta (sc2 (sc1 mms fr mwd 16) 48) k3 5) (mx mta (sc2 (sc1 mms fr mwd 16) 48) k3 6) (mx mta (sc2 (sc1 mms fr mwd 16) 48) k3 7) (kR k3) ((sc2 (sc1 mms fr mwd 16) 48) k3)) + (upS (mx mta (sc2 (sc1 mms fr mwd 16) 48) k3 0) (mx mta (sc2 (sc1 mms fr mwd 16) 48) k3 1) (mx mta (sc2 (sc1 mms fr mwd 16) 48) k3 2))))), (3, .int ((mx mta (sc2 (sc1 mms fr mwd 16) 48) k3 0))), (4, .int ((mx mta (sc2 (sc1 mms fr mwd 16) 48) k3 1))), (5, .int ((mx mta (sc2 (sc1 mms fr mwd 16) 48) k3 2))), (6, .int (((mx mta (sc2 (sc1 mms fr mwd 16) 48) k3 3) + (loS (mx mta (sc2 (sc1 mms fr mwd 16) 48) k3 4) (mx mta (sc2 (sc1 mms fr mwd 16) 48) k3 5) (mx mta (sc2 (sc1 mms fr mwd 16) 48) k3 6) (mx mta (sc2 (sc1 mms fr mwd 16) 48) k3 7) (kR k3) ((sc2 (sc1 mms fr mwd 16) 48) k3))))), (7, .int ((mx mta (sc2 (sc1 mms fr mwd 16) 48) k3 4))), (8, .int ((mx mta (sc2 (sc1 mms fr mwd 16) 48) k3 5))), (9, .int ((mx mta (sc2 (sc1 mms fr mwd 16) 48) k3 6))), (12, .int ((upS (mx mta (sc2 (sc1 mms fr mwd 16) 48) k3 0) (mx mta (sc2 (sc1 mms fr mwd 16) 48) k3 1) (mx mta (sc2 (sc1 mms fr mwd 16) 48) k3 2)))), (11, .int ((loS (mx mta (sc2 (sc1 mms fr mwd 16) 48) k3 4) (mx mta (sc2 (sc1 mms fr mwd 16) 48) k3 5) (mx mta (sc2 (sc1 mms fr mwd 16) 48) k3 6) (mx mta (sc2 (sc1 mms fr mwd 16) 48) k3 7) (kR k3) ((sc2 (sc1 mms fr mwd 16) 48) k3)))), (0, .ref (md 0)), (10, .int (nI k3))]) hx hb dX8_block_368 rfl hl (by decide) rfl (fun ls hl => ?_)
                    refine lv_iinc (v := nI (k3 + 1)) (lv' := [(10, .int (nI (k3 + 1))), (2, .int (((loS (mx mta (sc2 (sc1 mms fr mwd 16) 48) k3 4) (mx mta (sc2 (sc1 mms fr mwd 16) 48) k3 5) (mx mta (sc2 (sc1 mms fr mwd 16) 48) k3 6) (mx mta (sc2 (sc1 mms fr mwd 16) 48) k3 7) (kR k3) ((sc2 (sc1 mms fr mwd 16) 48) k3)) + (upS (mx mta (sc2 (sc1 mms fr mwd 16) 48) k3 0) (mx mta (sc2 (sc1 mms fr mwd 16) 48) k3 1) (mx mta (sc2 (sc1 mms fr mwd 16) 48) k3 2))))), (3, .int ((mx mta (sc2 (sc1 mms fr mwd 16) 48) k3 0))), (4, .int ((mx mta (sc2 (sc1 mms fr mwd 16) 48) k3 1))), (5, .int ((mx mta (sc2 (sc1 mms fr mwd 16) 48) k3 2))), (6, .int (((mx mta (sc2 (sc1 mms fr mwd 16) 48) k3 3) + (loS (mx mta (sc2 (sc1 mms fr mwd 16) 48) k3 4) (mx mta (sc2 (sc1 mms fr mwd 16) 48) k3 5) (mx mta (sc2 (sc1 mms fr mwd 16) 48) k3 6) (mx mta (sc2 (sc1 mms fr mwd 16) 48) k3 7) (kR k3) ((sc2 (sc1 mms fr mwd 16) 48) k3))))), (7, .int ((mx mta (sc2 (sc1 mms fr mwd 16) 48) k3 4))), (8, .int ((mx mta (sc2 (sc1 mms fr mwd 16) 48) k3 5))), (9, .int ((mx mta (sc2 (sc1 mms fr mwd 16) 48) k3 6))), (12, .int ((upS (mx mta (sc2 (sc1 mms fr mwd 16) 48) k3 0) (mx mta (sc2 (sc1 mms fr mwd 16) 48) k3 1) (mx mta (sc2 (sc1 mms fr mwd 16) 48) k3 2)))), (11, .int ((loS (mx mta (sc2 (sc1 mms fr mwd 16) 48) k3 4) (mx mta (sc2 (sc1 mms fr mwd 16) 48) k3 5) (mx mta (sc2 (sc1 mms fr mwd 16) 48) k3 6) (mx mta (sc2 (sc1 mms fr mwd 16) 48) k3 7) (kR k3) ((sc2 (sc1 mms fr mwd 16) 48) k3)))), (0, .ref (md 0))]) hx hb dX8_block_369 hl (k := 11) rfl (inc_n _ 1) (by decide) rfl (fun ls hl => ?_)
                    refine lv_goto (tgt := 235) hx hb dX8_block_372 (by decide) ?_
                    exact ih (k3 + 1) (by omega) (by omega) _ _ _ hw (lv_sub hl [11, 1, 2, 3, 4, 5, 6, 7, 8, 0] rfl)
              exact L_235 (64 + 1) 0 (by omega) (by omega) _ _ _ hw (lv_sub hl [9, 8, 7, 6, 5, 4, 3, 2, 1, 0] rfl)
            · refine lv_aload_n hx hb dX8_block_77 rfl (lv_at hl 0 rfl) ?_
              refine gf_X8_91 F hw 0 rfl rfl dX8_block_78 ?_
              refine lv_iload_n hx hb dX8_block_81 rfl (lv_at hl 1 rfl) ?_
              refine lv_bipush (v := nI 15) hx hb dX8_block_82 (by decide) ?_
              refine n_sub hx hb (by omega) dX8_block_84 ?_
              refine ia_ld F hw 4 rfl (by omega) (by omega) dX8_block_85 ?_
              refine lv_istore_n (lv' := [(3, .int (((sc2 (sc1 mms fr mwd 16) j) ((16 + j) - 15)))), (0, .ref (md 0)), (2, .int (nI (16 + j)))]) hx hb dX8_block_86 rfl hl (by decide) rfl (fun ls hl => ?_)
              refine lv_aload_n hx hb dX8_block_87 rfl (lv_at hl 1 rfl) ?_
              refine gf_X8_91 F hw 0 rfl rfl dX8_block_88 ?_
              refine lv_iload_n hx hb dX8_block_91 rfl (lv_at hl 2 rfl) ?_
              refine lv_iconst (v := nI 2) hx hb dX8_block_92 (by decide) ?_
              refine n_sub hx hb (by omega) dX8_block_93 ?_
              refine ia_ld F hw 4 rfl (by omega) (by omega) dX8_block_94 ?_
              refine lv_istore (lv' := [(4, .int (((sc2 (sc1 mms fr mwd 16) j) ((16 + j) - 2)))), (3, .int (((sc2 (sc1 mms fr mwd 16) j) ((16 + j) - 15)))), (0, .ref (md 0)), (2, .int (nI (16 + j)))]) hx hb dX8_block_95 hl (by decide) rfl (fun ls hl => ?_)
              refine lv_aload_n hx hb dX8_block_97 rfl (lv_at hl 2 rfl) ?_
              refine gf_X8_91 F hw 0 rfl rfl dX8_block_98 ?_
              refine lv_iload_n hx hb dX8_block_101 rfl (lv_at hl 3 rfl) ?_
              refine lv_aload_n hx hb dX8_block_102 rfl (lv_at hl 2 rfl) ?_
              refine gf_X8_91 F hw 0 rfl rfl dX8_block_103 ?_
              refine lv_iload_n hx hb dX8_block_106 rfl (lv_at hl 3 rfl) ?_
              refine lv_bipush (v := nI 16) hx hb dX8_block_107 (by decide) ?_
              refine n_sub hx hb (by omega) dX8_block_109 ?_
              refine ia_ld F hw 4 rfl (by omega) (by omega) dX8_block_110 ?_
              refine lv_iload_n hx hb dX8_block_111 rfl (lv_at hl 1 rfl) ?_
              refine lv_bipush (v := nI 7) hx hb dX8_block_112 (by decide) ?_
              refine cl_i hw [] rfl (rn_S F hw (c_X8_turn g l ((sc2 (sc1 mms fr mwd 16) j) ((16 + j) - 15)) 7 (by omega)) (cw_X8_169 F.2.2.2.2 ⟨by decide, by decide⟩) [] (by decide) rfl hl.1 rfl (Nat.le_of_ble_eq_true rfl) dX8_block_114 ⟨Nat.zero_le _, Nat.zero_le _⟩) (fun _ => rfl) (fun v_20 u_19 H locs hp_21 hw => ?_)
              subst hp_21
              replace hw : Wd g s A H locs (mX g md mfa mmz msz mnow mgr mmo mre msd mbg mky mli mrf mrn mka mta (sc2 (sc1 mms fr mwd 16) j) mms mhs mke msa mkn mkb mku mhp mpa mpb mit mus mid mbe mla msi mtx mra) := hw
              refine lv_iload_n hx hb dX8_block_117 rfl (lv_at hl 1 rfl) ?_
              refine lv_bipush (v := nI 18) hx hb dX8_block_118 (by decide) ?_
              refine cl_i hw [] rfl (rn_S F hw (c_X8_turn g l ((sc2 (sc1 mms fr mwd 16) j) ((16 + j) - 15)) 18 (by omega)) (cw_X8_169 F.2.2.2.2 ⟨by decide, by decide⟩) [] (by decide) rfl hl.1 rfl (Nat.le_of_ble_eq_true rfl) dX8_block_120 ⟨Nat.zero_le _, Nat.zero_le _⟩) (fun _ => rfl) (fun v_23 u_22 H locs hp_24 hw => ?_)
              subst hp_24
              replace hw : Wd g s A H locs (mX g md mfa mmz msz mnow mgr mmo mre msd mbg mky mli mrf mrn mka mta (sc2 (sc1 mms fr mwd 16) j) mms mhs mke msa mkn mkb mku mhp mpa mpb mit mus mid mbe mla msi mtx mra) := hw
              refine lv_ixor hx hb dX8_block_123 ?_
              refine lv_iload_n hx hb dX8_block_124 rfl (lv_at hl 1 rfl) ?_
              refine lv_iconst (v := nI 3) hx hb dX8_block_125 (by decide) ?_
              refine lv_iushr (v := ushr ((sc2 (sc1 mms fr mwd 16) j) ((16 + j) - 15)) (nI 3)) hx hb dX8_block_126 rfl ?_
              refine lv_ixor hx hb dX8_block_127 ?_
              refine lv_iadd hx hb dX8_block_128 ?_
              refine lv_aload_n hx hb dX8_block_129 rfl (lv_at hl 2 rfl) ?_
              refine gf_X8_91 F hw 0 rfl rfl dX8_block_130 ?_
              refine lv_iload_n hx hb dX8_block_133 rfl (lv_at hl 3 rfl) ?_
              refine lv_bipush (v := nI 7) hx hb dX8_block_134 (by decide) ?_
              refine n_sub hx hb (by omega) dX8_block_136 ?_
              refine ia_ld F hw 4 rfl (by omega) (by omega) dX8_block_137 ?_
              refine lv_iadd hx hb dX8_block_138 ?_
              refine lv_iload hx hb dX8_block_139 (lv_at hl 0 rfl) ?_
              refine lv_bipush (v := nI 17) hx hb dX8_block_141 (by decide) ?_
              refine cl_i hw [] rfl (rn_S F hw (c_X8_turn g l ((sc2 (sc1 mms fr mwd 16) j) ((16 + j) - 2)) 17 (by omega)) (cw_X8_169 F.2.2.2.2 ⟨by decide, by decide⟩) [] (by decide) rfl hl.1 rfl (Nat.le_of_ble_eq_true rfl) dX8_block_143 ⟨Nat.zero_le _, Nat.zero_le _⟩) (fun _ => rfl) (fun v_26 u_25 H locs hp_27 hw => ?_)
              subst hp_27
              replace hw : Wd g s A H locs (mX g md mfa mmz msz mnow mgr mmo mre msd mbg mky mli mrf mrn mka mta (sc2 (sc1 mms fr mwd 16) j) mms mhs mke msa mkn mkb mku mhp mpa mpb mit mus mid mbe mla msi mtx mra) := hw
              refine lv_iload hx hb dX8_block_146 (lv_at hl 0 rfl) ?_
              refine lv_bipush (v := nI 19) hx hb dX8_block_148 (by decide) ?_
              refine cl_i hw [] rfl (rn_S F hw (c_X8_turn g l ((sc2 (sc1 mms fr mwd 16) j) ((16 + j) - 2)) 19 (by omega)) (cw_X8_169 F.2.2.2.2 ⟨by decide, by decide⟩) [] (by decide) rfl hl.1 rfl (Nat.le_of_ble_eq_true rfl) dX8_block_150 ⟨Nat.zero_le _, Nat.zero_le _⟩) (fun _ => rfl) (fun v_29 u_28 H locs hp_30 hw => ?_)
              subst hp_30
              replace hw : Wd g s A H locs (mX g md mfa mmz msz mnow mgr mmo mre msd mbg mky mli mrf mrn mka mta (sc2 (sc1 mms fr mwd 16) j) mms mhs mke msa mkn mkb mku mhp mpa mpb mit mus mid mbe mla msi mtx mra) := hw
              refine lv_ixor hx hb dX8_block_153 ?_
              refine lv_iload hx hb dX8_block_154 (lv_at hl 0 rfl) ?_
              refine lv_bipush (v := nI 10) hx hb dX8_block_156 (by decide) ?_
              refine lv_iushr (v := ushr ((sc2 (sc1 mms fr mwd 16) j) ((16 + j) - 2)) (nI 10)) hx hb dX8_block_158 rfl ?_
              refine lv_ixor hx hb dX8_block_159 ?_
              refine lv_iadd hx hb dX8_block_160 ?_
              refine tp_i (y := nxw (sc2 (sc1 mms fr mwd 16) j) (16 + j)) (nxw_ac _ _) ?_
              refine ia_st F hw 4 rfl (by omega) (by omega) dX8_block_161 (fun H locs hw => ?_)
              replace hw : Wd g s A H locs (mX g md mfa mmz msz mnow mgr mmo mre msd mbg mky mli mrf mrn mka mta (upd (sc2 (sc1 mms fr mwd 16) j) (16 + j) (nxw (sc2 (sc1 mms fr mwd 16) j) (16 + j))) mms mhs mke msa mkn mkb mku mhp mpa mpb mit mus mid mbe mla msi mtx mra) := hw
              refine lv_iinc (v := nI (16 + j + 1)) (lv' := [(2, .int (nI (16 + j + 1))), (4, .int (((sc2 (sc1 mms fr mwd 16) j) ((16 + j) - 2)))), (3, .int (((sc2 (sc1 mms fr mwd 16) j) ((16 + j) - 15)))), (0, .ref (md 0))]) hx hb dX8_block_162 hl (k := 3) rfl (inc_n _ 1) (by decide) rfl (fun ls hl => ?_)
              refine lv_goto (tgt := 71) hx hb dX8_block_165 (by decide) ?_
              exact ih (j + 1) (by omega) (by omega) _ _ _ hw (lv_sub hl [3, 0] rfl)
        exact L_71 (48 + 1) 0 (by omega) (by omega) _ _ _ hw (lv_sub hl [1, 0] rfl)
      · refine lv_iload_n hx hb dX8_block_8 rfl (lv_at hl 1 rfl) ?_
        refine lv_iconst (v := nI 4) hx hb dX8_block_9 (by decide) ?_
        refine lv_iload_n hx hb dX8_block_10 rfl (lv_at hl 2 rfl) ?_
        refine n_mul hx hb dX8_block_11 ?_
        refine n_add hx hb dX8_block_12 ?_
        refine lv_istore_n (lv' := [(3, .int (nI (fr + (4 * k)))), (0, .ref (md 0)), (1, .int (nI fr)), (2, .int (nI k))]) hx hb dX8_block_13 rfl hl (by decide) rfl (fun ls hl => ?_)
        refine lv_aload_n hx hb dX8_block_14 rfl (lv_at hl 1 rfl) ?_
        refine gf_X8_91 F hw 0 rfl rfl dX8_block_15 ?_
        refine lv_iload_n hx hb dX8_block_18 rfl (lv_at hl 3 rfl) ?_
        refine lv_aload_n hx hb dX8_block_19 rfl (lv_at hl 1 rfl) ?_
        refine gf_X8_94 F hw 0 rfl rfl dX8_block_20 ?_
        refine lv_iload_n hx hb dX8_block_23 rfl (lv_at hl 0 rfl) ?_
        refine ia_ld F hw 5 rfl (by omega) (by omega) dX8_block_24 ?_
        refine lv_bipush (v := nI 24) hx hb dX8_block_25 (by decide) ?_
        refine lv_ishl hx hb dX8_block_27 ?_
        refine lv_aload_n hx hb dX8_block_28 rfl (lv_at hl 1 rfl) ?_
        refine gf_X8_94 F hw 0 rfl rfl dX8_block_29 ?_
        refine lv_iload_n hx hb dX8_block_32 rfl (lv_at hl 0 rfl) ?_
        refine lv_iconst (v := nI 1) hx hb dX8_block_33 (by decide) ?_
        refine n_add hx hb dX8_block_34 ?_
        refine ia_ld F hw 5 rfl (by omega) (by omega) dX8_block_35 ?_
        refine lv_bipush (v := nI 16) hx hb dX8_block_36 (by decide) ?_
        refine lv_ishl hx hb dX8_block_38 ?_
        refine lv_ior hx hb dX8_block_39 ?_
        refine lv_aload_n hx hb dX8_block_40 rfl (lv_at hl 1 rfl) ?_
        refine gf_X8_94 F hw 0 rfl rfl dX8_block_41 ?_
        refine lv_iload_n hx hb dX8_block_44 rfl (lv_at hl 0 rfl) ?_
        refine lv_iconst (v := nI 2) hx hb dX8_block_45 (by decide) ?_
        refine n_add hx hb dX8_block_46 ?_
        refine ia_ld F hw 5 rfl (by omega) (by omega) dX8_block_47 ?_
        refine lv_bipush (v := nI 8) hx hb dX8_block_48 (by decide) ?_
        refine lv_ishl hx hb dX8_block_50 ?_
        refine lv_ior hx hb dX8_block_51 ?_
        refine lv_aload_n hx hb dX8_block_52 rfl (lv_at hl 1 rfl) ?_
        refine gf_X8_94 F hw 0 rfl rfl dX8_block_53 ?_
        refine lv_iload_n hx hb dX8_block_56 rfl (lv_at hl 0 rfl) ?_
        refine lv_iconst (v := nI 3) hx hb dX8_block_57 (by decide) ?_
        refine n_add hx hb dX8_block_58 ?_
        refine ia_ld F hw 5 rfl (by omega) (by omega) dX8_block_59 ?_
        refine lv_ior hx hb dX8_block_60 ?_
        refine ia_st F hw 4 rfl (by omega) (by omega) dX8_block_61 (fun H locs hw => ?_)
        replace hw : Wd g s A H locs (mX g md mfa mmz msz mnow mgr mmo mre msd mbg mky mli mrf mrn mka mta (upd (sc1 mms fr mwd k) k (((((mms (fr + (4 * k))) <<< ((nI 24) &&& 31)) ||| ((mms ((fr + (4 * k)) + 1)) <<< ((nI 16) &&& 31))) ||| ((mms ((fr + (4 * k)) + 2)) <<< ((nI 8) &&& 31))) ||| (mms ((fr + (4 * k)) + 3)))) mms mhs mke msa mkn mkb mku mhp mpa mpb mit mus mid mbe mla msi mtx mra) := hw
        refine lv_iinc (v := nI (k + 1)) (lv' := [(2, .int (nI (k + 1))), (3, .int (nI (fr + (4 * k)))), (0, .ref (md 0)), (1, .int (nI fr))]) hx hb dX8_block_62 hl (k := 3) rfl (inc_n _ 1) (by decide) rfl (fun ls hl => ?_)
        refine lv_goto (tgt := 2) hx hb dX8_block_65 (by decide) ?_
        exact ih (k + 1) (by omega) (by omega) _ _ _ hw (lv_sub hl [2, 3, 0] rfl)
  exact L_2 (16 + 1) 0 (by omega) (by omega) _ _ _ hw (lv_sub hl [1, 2, 0] rfl)
