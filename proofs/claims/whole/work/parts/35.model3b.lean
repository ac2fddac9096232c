set_option maxHeartbeats 4000000 in
set_option maxRecDepth 100000 in
theorem c_X8_seed (g : GG) (l : Launch) (md : Nat → Nat) (mfa : Int32) (mmz : Nat) (msz : Nat) (mnow : Int64) (mgr : Int64) (mmo : Int64) (mre : Int64) (msd : Int64) (mbg : Int64) (mky : Nat) (mli : Int32) (mrf : Int32) (mrn : Int32) (mka : Int32) (mta : Nat → Int32) (mwd : Nat → Int32) (mms : Nat → Int32) (mhs : Nat → Int32) (mke : Nat → Int32) (msa : Nat → Int32) (mkn : Nat → Int32) (mkb : Nat → Int32) (mku : Nat → Int64) (mhp : Nat → Int32) (mpa : Nat → Int32) (mpb : Nat → Int32) (mit : Nat → Int32) (mus : Nat → Int32) (mid : Nat → Int64) (mbe : Nat → Int64) (mla : Nat → Int64) (msi : Nat → Int32) (mtx : Nat → Int32) (mra : Nat → Int32) (x : Int64) : Ct g l yX8_seed cX8_seed 3 none 0 0 [.ref (md 0), .long x] (mX g md mfa mmz msz mnow mgr mmo mre msd mbg mky mli mrf mrn mka mta mwd mms mhs mke msa mkn mkb mku mhp mpa mpb mit mus mid mbe mla msi mtx mra) (Rv g (fun (u : Unit) => True) (fun (u : Unit) => (mX g md (nI 0) mmz msz mnow mgr mmo mre x 0 mky mli mrf mrn mka mta mwd mms mhs mke msa mkn mkb mku mhp mpa mpb mit mus mid mbe mla msi mtx mra))) := by
  refine mkC (by decide) (Nat.le_of_ble_eq_true rfl) ?_
  intro p e s m args below meth c A ls QQ F hr hlk hnm hQ hw hl
  have hx := F.1
  have hb := F.2.1
  replace hl : lv_has ls 3 [(0, .ref (md 0)), (1, .long x)] := hl
  refine lv_aload_n hx hb dX8_seed_0 rfl (lv_at hl 0 rfl) ?_
  refine lv_iconst (v := nI 0) hx hb dX8_seed_1 (by decide) ?_
  refine pf_X8_166 F hw 0 rfl (Nat.le_of_ble_eq_true rfl) rfl rfl dX8_seed_2 (fun H locs hw => ?_)
  replace hw : Wd g s A H locs (mX g md (nI 0) mmz msz mnow mgr mmo mre msd mbg mky mli mrf mrn mka mta mwd mms mhs mke msa mkn mkb mku mhp mpa mpb mit mus mid mbe mla msi mtx mra) := hw
  refine lv_aload_n hx hb dX8_seed_5 rfl (lv_at hl 0 rfl) ?_
  refine lv_lload_n hx hb dX8_seed_6 rfl (lv_at hl 1 rfl) ?_
  refine pf_X8_186 F hw 0 rfl (Nat.le_of_ble_eq_true rfl) rfl rfl dX8_seed_7 (fun H locs hw => ?_)
  replace hw : Wd g s A H locs (mX g md (nI 0) mmz msz mnow mgr mmo mre x mbg mky mli mrf mrn mka mta mwd mms mhs mke msa mkn mkb mku mhp mpa mpb mit mus mid mbe mla msi mtx mra) := hw
  refine lv_aload_n hx hb dX8_seed_10 rfl (lv_at hl 0 rfl) ?_
  refine lv_lconst (v := 0) hx hb dX8_seed_11 (by decide) ?_
  refine pf_X8_191 F hw 0 rfl (Nat.le_of_ble_eq_true rfl) rfl rfl dX8_seed_12 (fun H locs hw => ?_)
  replace hw : Wd g s A H locs (mX g md (nI 0) mmz msz mnow mgr mmo mre x 0 mky mli mrf mrn mka mta mwd mms mhs mke msa mkn mkb mku mhp mpa mpb mit mus mid mbe mla msi mtx mra) := hw
  exact rt_v F hr hlk hQ hw () trivial rfl dX8_seed_15
set_option maxHeartbeats 4000000 in
set_option maxRecDepth 100000 in
theorem c_X8_pass (g : GG) (l : Launch) (md : Nat → Nat) (mfa : Int32) (mmz : Nat) (msz : Nat) (mnow : Int64) (mgr : Int64) (mmo : Int64) (mre : Int64) (msd : Int64) (mbg : Int64) (mky : Nat) (mli : Int32) (mrf : Int32) (mrn : Int32) (mka : Int32) (mta : Nat → Int32) (mwd : Nat → Int32) (mms : Nat → Int32) (mhs : Nat → Int32) (mke : Nat → Int32) (msa : Nat → Int32) (mkn : Nat → Int32) (mkb : Nat → Int32) (mku : Nat → Int64) (mhp : Nat → Int32) (mpa : Nat → Int32) (mpb : Nat → Int32) (mit : Nat → Int32) (mus : Nat → Int32) (mid : Nat → Int64) (mbe : Nat → Int64) (mla : Nat → Int64) (msi : Nat → Int32) (mtx : Nat → Int32) (mra : Nat → Int32) (x : Int64) : Ct g l yX8_pass cX8_pass 3 (some .long) 1 25 [.ref (md 0), .long x] (mX g md mfa mmz msz mnow mgr mmo mre msd mbg mky mli mrf mrn mka mta mwd mms mhs mke msa mkn mkb mku mhp mpa mpb mit mus mid mbe mla msi mtx mra) (Rl g (fun (v : Int64) (u : Int32 × Int64) => (¬ inI x 1 10000000000 = 0 ∧ v = mnow + x ∧ u = (nI 0, mnow + x)) ∨ (inI x 1 10000000000 = 0 ∧ u = (nI 1, mnow))) (fun (u : Int32 × Int64) => (mX g md u.1 mmz msz u.2 mgr mmo mre msd mbg mky mli mrf mrn mka mta mwd mms mhs mke msa mkn mkb mku mhp mpa mpb mit mus mid mbe mla msi mtx mra))) := by
  refine mkC (by decide) (Nat.le_of_ble_eq_true rfl) ?_
  intro p e s m args below meth c A ls QQ F hr hlk hnm hQ hw hl
  have hx := F.1
  have hb := F.2.1
  replace hl : lv_has ls 3 [(0, .ref (md 0)), (1, .long x)] := hl
  refine lv_aload_n hx hb dX8_pass_0 rfl (lv_at hl 0 rfl) ?_
  refine lv_lload_n hx hb dX8_pass_1 rfl (lv_at hl 1 rfl) ?_
  refine lv_lconst (v := 1) hx hb dX8_pass_2 (by decide) ?_
  refine lv_ldc2 hx hb F.2.2.2.1 (F.2.2.2.2 _ bg_10_10) dX8_pass_3 ?_
  refine cl_i hw [] rfl (rn_S F hw (c_X8_isIn g l x 1 (10000000000)) (cw_X8_223 F.2.2.2.2 ⟨by decide, by decide⟩) [] (by decide) rfl hl.1 rfl (Nat.le_of_ble_eq_true rfl) dX8_pass_6 ⟨Nat.zero_le _, Nat.zero_le _⟩) (fun _ => rfl) (fun v_2 u_1 H locs hp_3 hw => ?_)
  subst hp_3
  replace hw : Wd g s A H locs (mX g md mfa mmz msz mnow mgr mmo mre msd mbg mky mli mrf mrn mka mta mwd mms mhs mke msa mkn mkb mku mhp mpa mpb mit mus mid mbe mla msi mtx mra) := hw
  refine lv_if_eq (tgt := 16) hx hb dX8_pass_9 (by decide) (fun c_9 => ?_) (fun c_9 => ?_)
  · refine lv_iconst (v := nI 1) hx hb dX8_pass_16 (by decide) ?_
    refine cl_iF hw (rn_VF F hw (c_X8_refused g l md mfa mmz msz mnow mgr mmo mre msd mbg mky mli mrf mrn mka mta mwd mms mhs mke msa mkn mkb mku mhp mpa mpb mit mus mid mbe mla msi mtx mra (nI 1)) (cw_X8_227 F.2.2.2.2 ⟨by decide, by decide⟩)    0 rfl rfl rfl hl.1 rfl (Nat.le_of_ble_eq_true rfl) dX8_pass_17 ⟨Nat.zero_le _, Nat.zero_le _⟩) (fun v_5 u_4 H locs hp_6 hw => ?_)
    subst hp_6
    replace hw : Wd g s A H locs (mX g md (nI 1) mmz msz mnow mgr mmo mre msd mbg mky mli mrf mrn mka mta mwd mms mhs mke msa mkn mkb mku mhp mpa mpb mit mus mid mbe mla msi mtx mra) := hw
    refine lv_if_eq (tgt := 25) hx hb dX8_pass_20 (by decide) (fun c_20 => ?_) (fun c_20 => ?_)
    · exact absurd c_20 (by decide)
    · refine lv_lconst (v := 0) hx hb dX8_pass_23 (by decide) ?_
      exact rt_l F hr hlk hQ hw ((nI 1), mnow) (Or.inr ⟨c_9, rfl⟩) rfl dX8_pass_24
  · refine lv_iconst (v := nI 0) hx hb dX8_pass_12 (by decide) ?_
    refine lv_goto (tgt := 17) hx hb dX8_pass_13 (by decide) ?_
    refine cl_iF hw (rn_VF F hw (c_X8_refused g l md mfa mmz msz mnow mgr mmo mre msd mbg mky mli mrf mrn mka mta mwd mms mhs mke msa mkn mkb mku mhp mpa mpb mit mus mid mbe mla msi mtx mra (nI 0)) (cw_X8_227 F.2.2.2.2 ⟨by decide, by decide⟩)    0 rfl rfl rfl hl.1 rfl (Nat.le_of_ble_eq_true rfl) dX8_pass_17 ⟨Nat.zero_le _, Nat.zero_le _⟩) (fun v_8 u_7 H locs hp_9 hw => ?_)
    subst hp_9
    replace hw : Wd g s A H locs (mX g md (nI 0) mmz msz mnow mgr mmo mre msd mbg mky mli mrf mrn mka mta mwd mms mhs mke msa mkn mkb mku mhp mpa mpb mit mus mid mbe mla msi mtx mra) := hw
    refine lv_if_eq (tgt := 25) hx hb dX8_pass_20 (by decide) (fun c_20 => ?_) (fun c_20 => ?_)
    · refine lv_aload_n hx hb dX8_pass_25 rfl (lv_at hl 0 rfl) ?_
      refine lv_aload_n hx hb dX8_pass_26 rfl (lv_at hl 0 rfl) ?_
      refine gf_X8_231 F hw 0 rfl rfl dX8_pass_27 ?_
      refine lv_lload_n hx hb dX8_pass_30 rfl (lv_at hl 1 rfl) ?_
      refine lv_ladd hx hb dX8_pass_31 ?_
      refine pf_X8_231 F hw 0 rfl (Nat.le_of_ble_eq_true rfl) rfl rfl dX8_pass_32 (fun H locs hw => ?_)
      replace hw : Wd g s A H locs (mX g md (nI 0) mmz msz (mnow + x) mgr mmo mre msd mbg mky mli mrf mrn mka mta mwd mms mhs mke msa mkn mkb mku mhp mpa mpb mit mus mid mbe mla msi mtx mra) := hw
      refine lv_aload_n hx hb dX8_pass_35 rfl (lv_at hl 0 rfl) ?_
      refine gf_X8_231 F hw 0 rfl rfl dX8_pass_36 ?_
      exact rt_l F hr hlk hQ hw ((nI 0), (mnow + x)) (Or.inl ⟨c_9, rfl, rfl⟩) rfl dX8_pass_39
    · exact absurd (by decide) c_20
set_option maxHeartbeats 4000000 in
set_option maxRecDepth 100000 in
theorem c_X8_limits (g : GG) (l : Launch) (md : Nat → Nat) (mfa : Int32) (mmz : Nat) (msz : Nat) (mnow : Int64) (mgr : Int64) (mmo : Int64) (mre : Int64) (msd : Int64) (mbg : Int64) (mky : Nat) (mli : Int32) (mrf : Int32) (mrn : Int32) (mka : Int32) (mta : Nat → Int32) (mwd : Nat → Int32) (mms : Nat → Int32) (mhs : Nat → Int32) (mke : Nat → Int32) (msa : Nat → Int32) (mkn : Nat → Int32) (mkb : Nat → Int32) (mku : Nat → Int64) (mhp : Nat → Int32) (mpa : Nat → Int32) (mpb : Nat → Int32) (mit : Nat → Int32) (mus : Nat → Int32) (mid : Nat → Int64) (mbe : Nat → Int64) (mla : Nat → Int64) (msi : Nat → Int32) (mtx : Nat → Int32) (mra : Nat → Int32) (x : Int64) (y : Int64) (z : Int64) : Ct g l yX8_limits cX8_limits 9 none 1 25 [.ref (md 0), .long x, .long y, .long z] (mX g md mfa mmz msz mnow mgr mmo mre msd mbg mky mli mrf mrn mka mta mwd mms mhs mke msa mkn mkb mku mhp mpa mpb mit mus mid mbe mla msi mtx mra) (Rv g (fun (u : Int32 × Int64 × Int64 × Int64) => (¬ inI x 1 1000000000000 = 0 ∧ ¬ inI y 1 1000000000000 = 0 ∧ ¬ inI z 1 1000000000000 = 0 ∧ u = (nI 0, x, y, z)) ∨ ((inI x 1 1000000000000 = 0 ∨ inI y 1 1000000000000 = 0 ∨ inI z 1 1000000000000 = 0) ∧ u = (nI 1, mgr, mmo, mre))) (fun (u : Int32 × Int64 × Int64 × Int64) => (mX g md u.1 mmz msz mnow u.2.1 u.2.2.1 u.2.2.2 msd mbg mky mli mrf mrn mka mta mwd mms mhs mke msa mkn mkb mku mhp mpa mpb mit mus mid mbe mla msi mtx mra))) := by
  refine mkC (by decide) (Nat.le_of_ble_eq_true rfl) ?_
  intro p e s m args below meth c A ls QQ F hr hlk hnm hQ hw hl
  have hx := F.1
  have hb := F.2.1
  replace hl : lv_has ls 9 [(0, .ref (md 0)), (1, .long x), (3, .long y), (5, .long z)] := hl
  refine lv_ldc2 hx hb F.2.2.2.1 (F.2.2.2.2 _ bg_11_14) dX8_limits_0 ?_
  refine lv_lstore (lv' := [(7, .long (1000000000000)), (0, .ref (md 0)), (1, .long x), (3, .long y), (5, .long z)]) hx hb dX8_limits_3 hl (by decide) rfl (fun ls hl => ?_)
  refine lv_aload_n hx hb dX8_limits_5 rfl (lv_at hl 1 rfl) ?_
  refine lv_lload_n hx hb dX8_limits_6 rfl (lv_at hl 2 rfl) ?_
  refine lv_lconst (v := 1) hx hb dX8_limits_7 (by decide) ?_
  refine lv_lload hx hb dX8_limits_8 (lv_at hl 0 rfl) ?_
  refine cl_i hw [] rfl (rn_S F hw (c_X8_isIn g l x 1 (1000000000000)) (cw_X8_223 F.2.2.2.2 ⟨by decide, by decide⟩) [] (by decide) rfl hl.1 rfl (Nat.le_of_ble_eq_true rfl) dX8_limits_10 ⟨Nat.zero_le _, Nat.zero_le _⟩) (fun _ => rfl) (fun v_2 u_1 H locs hp_3 hw => ?_)
  subst hp_3
  replace hw : Wd g s A H locs (mX g md mfa mmz msz mnow mgr mmo mre msd mbg mky mli mrf mrn mka mta mwd mms mhs mke msa mkn mkb mku mhp mpa mpb mit mus mid mbe mla msi mtx mra) := hw
  refine lv_if_eq (tgt := 41) hx hb dX8_limits_13 (by decide) (fun c_13 => ?_) (fun c_13 => ?_)
  · refine lv_iconst (v := nI 1) hx hb dX8_limits_41 (by decide) ?_
    refine cl_iF hw (rn_VF F hw (c_X8_refused g l md mfa mmz msz mnow mgr mmo mre msd mbg mky mli mrf mrn mka mta mwd mms mhs mke msa mkn mkb mku mhp mpa mpb mit mus mid mbe mla msi mtx mra (nI 1)) (cw_X8_227 F.2.2.2.2 ⟨by decide, by decide⟩)    0 rfl rfl rfl hl.1 rfl (Nat.le_of_ble_eq_true rfl) dX8_limits_42 ⟨Nat.zero_le _, Nat.zero_le _⟩) (fun v_5 u_4 H locs hp_6 hw => ?_)
    subst hp_6
    replace hw : Wd g s A H locs (mX g md (nI 1) mmz msz mnow mgr mmo mre msd mbg mky mli mrf mrn mka mta mwd mms mhs mke msa mkn mkb mku mhp mpa mpb mit mus mid mbe mla msi mtx mra) := hw
    refine lv_if_eq (tgt := 49) hx hb dX8_limits_45 (by decide) (fun c_45 => ?_) (fun c_45 => ?_)
    · exact absurd c_45 (by decide)
    · exact rt_v F hr hlk hQ hw ((nI 1), mgr, mmo, mre) (Or.inr ⟨by first | exact Or.inl c_13 | exact Or.inr (Or.inl c_23) | exact Or.inr (Or.inr c_34), rfl⟩) rfl dX8_limits_48
  · refine lv_lload_n hx hb dX8_limits_16 rfl (lv_at hl 3 rfl) ?_
    refine lv_lconst (v := 1) hx hb dX8_limits_17 (by decide) ?_
    refine lv_lload hx hb dX8_limits_18 (lv_at hl 0 rfl) ?_
    refine cl_i hw [] rfl (rn_S F hw (c_X8_isIn g l y 1 (1000000000000)) (cw_X8_223 F.2.2.2.2 ⟨by decide, by decide⟩) [] (by decide) rfl hl.1 rfl (Nat.le_of_ble_eq_true rfl) dX8_limits_20 ⟨Nat.zero_le _, Nat.zero_le _⟩) (fun _ => rfl) (fun v_8 u_7 H locs hp_9 hw => ?_)
    subst hp_9
    replace hw : Wd g s A H locs (mX g md mfa mmz msz mnow mgr mmo mre msd mbg mky mli mrf mrn mka mta mwd mms mhs mke msa mkn mkb mku mhp mpa mpb mit mus mid mbe mla msi mtx mra) := hw
    refine lv_if_eq (tgt := 41) hx hb dX8_limits_23 (by decide) (fun c_23 => ?_) (fun c_23 => ?_)
    · refine lv_iconst (v := nI 1) hx hb dX8_limits_41 (by decide) ?_
      refine cl_iF hw (rn_VF F hw (c_X8_refused g l md mfa mmz msz mnow mgr mmo mre msd mbg mky mli mrf mrn mka mta mwd mms mhs mke msa mkn mkb mku mhp mpa mpb mit mus mid mbe mla msi mtx mra (nI 1)) (cw_X8_227 F.2.2.2.2 ⟨by decide, by decide⟩)    0 rfl rfl rfl hl.1 rfl (Nat.le_of_ble_eq_true rfl) dX8_limits_42 ⟨Nat.zero_le _, Nat.zero_le _⟩) (fun v_11 u_10 H locs hp_12 hw => ?_)
      subst hp_12
      replace hw : Wd g s A H locs (mX g md (nI 1) mmz msz mnow mgr mmo mre msd mbg mky mli mrf mrn mka mta mwd mms mhs mke msa mkn mkb mku mhp mpa mpb mit mus mid mbe mla msi mtx mra) := hw
      refine lv_if_eq (tgt := 49) hx hb dX8_limits_45 (by decide) (fun c_45 => ?_) (fun c_45 => ?_)
      · exact absurd c_45 (by decide)
      · exact rt_v F hr hlk hQ hw ((nI 1), mgr, mmo, mre) (Or.inr ⟨by first | exact Or.inl c_13 | exact Or.inr (Or.inl c_23) | exact Or.inr (Or.inr c_34), rfl⟩) rfl dX8_limits_48
    · refine lv_lload hx hb dX8_limits_26 (lv_at hl 4 rfl) ?_
      refine lv_lconst (v := 1) hx hb dX8_limits_28 (by decide) ?_
      refine lv_lload hx hb dX8_limits_29 (lv_at hl 0 rfl) ?_
      refine cl_i hw [] rfl (rn_S F hw (c_X8_isIn g l z 1 (1000000000000)) (cw_X8_223 F.2.2.2.2 ⟨by decide, by decide⟩) [] (by decide) rfl hl.1 rfl (Nat.le_of_ble_eq_true rfl) dX8_limits_31 ⟨Nat.zero_le _, Nat.zero_le _⟩) (fun _ => rfl) (fun v_14 u_13 H locs hp_15 hw => ?_)
      subst hp_15
      replace hw : Wd g s A H locs (mX g md mfa mmz msz mnow mgr mmo mre msd mbg mky mli mrf mrn mka mta mwd mms mhs mke msa mkn mkb mku mhp mpa mpb mit mus mid mbe mla msi mtx mra) := hw
      refine lv_if_eq (tgt := 41) hx hb dX8_limits_34 (by decide) (fun c_34 => ?_) (fun c_34 => ?_)
      · refine lv_iconst (v := nI 1) hx hb dX8_limits_41 (by decide) ?_
        refine cl_iF hw (rn_VF F hw (c_X8_refused g l md mfa mmz msz mnow mgr mmo mre msd mbg mky mli mrf mrn mka mta mwd mms mhs mke msa mkn mkb mku mhp mpa mpb mit mus mid mbe mla msi mtx mra (nI 1)) (cw_X8_227 F.2.2.2.2 ⟨by decide, by decide⟩)    0 rfl rfl rfl hl.1 rfl (Nat.le_of_ble_eq_true rfl) dX8_limits_42 ⟨Nat.zero_le _, Nat.zero_le _⟩) (fun v_17 u_16 H locs hp_18 hw => ?_)
        subst hp_18
        replace hw : Wd g s A H locs (mX g md (nI 1) mmz msz mnow mgr mmo mre msd mbg mky mli mrf mrn mka mta mwd mms mhs mke msa mkn mkb mku mhp mpa mpb mit mus mid mbe mla msi mtx mra) := hw
        refine lv_if_eq (tgt := 49) hx hb dX8_limits_45 (by decide) (fun c_45 => ?_) (fun c_45 => ?_)
        · exact absurd c_45 (by decide)
        · exact rt_v F hr hlk hQ hw ((nI 1), mgr, mmo, mre) (Or.inr ⟨by first | exact Or.inl c_13 | exact Or.inr (Or.inl c_23) | exact Or.inr (Or.inr c_34), rfl⟩) rfl dX8_limits_48
      · refine lv_iconst (v := nI 0) hx hb dX8_limits_37 (by decide) ?_
        refine lv_goto (tgt := 42) hx hb dX8_limits_38 (by decide) ?_
        refine cl_iF hw (rn_VF F hw (c_X8_refused g l md mfa mmz msz mnow mgr mmo mre msd mbg mky mli mrf mrn mka mta mwd mms mhs mke msa mkn mkb mku mhp mpa mpb mit mus mid mbe mla msi mtx mra (nI 0)) (cw_X8_227 F.2.2.2.2 ⟨by decide, by decide⟩)    0 rfl rfl rfl hl.1 rfl (Nat.le_of_ble_eq_true rfl) dX8_limits_42 ⟨Nat.zero_le _, Nat.zero_le _⟩) (fun v_20 u_19 H locs hp_21 hw => ?_)
        subst hp_21
        replace hw : Wd g s A H locs (mX g md (nI 0) mmz msz mnow mgr mmo mre msd mbg mky mli mrf mrn mka mta mwd mms mhs mke msa mkn mkb mku mhp mpa mpb mit mus mid mbe mla msi mtx mra) := hw
        refine lv_if_eq (tgt := 49) hx hb dX8_limits_45 (by decide) (fun c_45 => ?_) (fun c_45 => ?_)
        · refine lv_aload_n hx hb dX8_limits_49 rfl (lv_at hl 1 rfl) ?_
          refine lv_lload_n hx hb dX8_limits_50 rfl (lv_at hl 2 rfl) ?_
          refine pf_X8_108 F hw 0 rfl (Nat.le_of_ble_eq_true rfl) rfl rfl dX8_limits_51 (fun H locs hw => ?_)
          replace hw : Wd g s A H locs (mX g md (nI 0) mmz msz mnow x mmo mre msd mbg mky mli mrf mrn mka mta mwd mms mhs mke msa mkn mkb mku mhp mpa mpb mit mus mid mbe mla msi mtx mra) := hw
          refine lv_aload_n hx hb dX8_limits_54 rfl (lv_at hl 1 rfl) ?_
          refine lv_lload_n hx hb dX8_limits_55 rfl (lv_at hl 3 rfl) ?_
          refine pf_X8_112 F hw 0 rfl (Nat.le_of_ble_eq_true rfl) rfl rfl dX8_limits_56 (fun H locs hw => ?_)
          replace hw : Wd g s A H locs (mX g md (nI 0) mmz msz mnow x y mre msd mbg mky mli mrf mrn mka mta mwd mms mhs mke msa mkn mkb mku mhp mpa mpb mit mus mid mbe mla msi mtx mra) := hw
          refine lv_aload_n hx hb dX8_limits_59 rfl (lv_at hl 1 rfl) ?_
          refine lv_lload hx hb dX8_limits_60 (lv_at hl 4 rfl) ?_
          refine pf_X8_115 F hw 0 rfl (Nat.le_of_ble_eq_true rfl) rfl rfl dX8_limits_62 (fun H locs hw => ?_)
          replace hw : Wd g s A H locs (mX g md (nI 0) mmz msz mnow x y z msd mbg mky mli mrf mrn mka mta mwd mms mhs mke msa mkn mkb mku mhp mpa mpb mit mus mid mbe mla msi mtx mra) := hw
          exact rt_v F hr hlk hQ hw ((nI 0), x, y, z) (Or.inl ⟨c_13, c_23, c_34, rfl⟩) rfl dX8_limits_65
        · exact absurd (by decide) c_45
def lvM (ky : Nat) (ku : Nat → Int64) (now gr : Int64) (k : Nat) : Int32 := if k = ky - 1 then nI 1 else if gr ≤ now - ku k then nI 0 else nI 1
set_option maxHeartbeats 4000000 in
set_option maxRecDepth 100000 in
theorem c_X8_isLive (g : GG) (l : Launch) (md : Nat → Nat) (mfa : Int32) (mmz : Nat) (msz : Nat) (mnow : Int64) (mgr : Int64) (mmo : Int64) (mre : Int64) (msd : Int64) (mbg : Int64) (mky : Nat) (mli : Int32) (mrf : Int32) (mrn : Int32) (mka : Int32) (mta : Nat → Int32) (mwd : Nat → Int32) (mms : Nat → Int32) (mhs : Nat → Int32) (mke : Nat → Int32) (msa : Nat → Int32) (mkn : Nat → Int32) (mkb : Nat → Int32) (mku : Nat → Int64) (mhp : Nat → Int32) (mpa : Nat → Int32) (mpb : Nat → Int32) (mit : Nat → Int32) (mus : Nat → Int32) (mid : Nat → Int64) (mbe : Nat → Int64) (mla : Nat → Int64) (msi : Nat → Int32) (mtx : Nat → Int32) (mra : Nat → Int32) (k : Nat) (hk : k < 5) (hky : 1 ≤ mky) (hky4 : mky ≤ 5) : Ct g l yX8_isLive cX8_isLive 2 (some .boolean) 0 0 [.ref (md 0), .int (nI k)] (mX g md mfa mmz msz mnow mgr mmo mre msd mbg mky mli mrf mrn mka mta mwd mms mhs mke msa mkn mkb mku mhp mpa mpb mit mus mid mbe mla msi mtx mra) (Ri g (fun (v : Int32) (u : Unit) => v = lvM mky mku mnow mgr k) (fun (u : Unit) => (mX g md mfa mmz msz mnow mgr mmo mre msd mbg mky mli mrf mrn mka mta mwd mms mhs mke msa mkn mkb mku mhp mpa mpb mit mus mid mbe mla msi mtx mra))) := by
  refine mkC (by decide) (Nat.le_of_ble_eq_true rfl) ?_
  intro p e s m args below meth c A ls QQ F hr hlk hnm hQ hw hl
  have hx := F.1
  have hb := F.2.1
  replace hl : lv_has ls 2 [(0, .ref (md 0)), (1, .int (nI k))] := hl
  refine lv_iload_n hx hb dX8_isLive_0 rfl (lv_at hl 1 rfl) ?_
  refine lv_aload_n hx hb dX8_isLive_1 rfl (lv_at hl 0 rfl) ?_
  refine gf_X8_118 F hw 0 rfl rfl dX8_isLive_2 ?_
  refine lv_iconst (v := nI 1) hx hb dX8_isLive_5 (by decide) ?_
  refine n_sub hx hb (by omega) dX8_isLive_6 ?_
  refine n_eq (tgt := 29) hx hb (by omega) (by omega) dX8_isLive_7 (by decide) (fun c_7 => ?_) (fun c_7 => ?_)
  · refine lv_iconst (v := nI 1) hx hb dX8_isLive_29 (by decide) ?_
    refine lv_goto (tgt := 34) hx hb dX8_isLive_30 (by decide) ?_
    exact rt_z F hr rfl hlk hQ hw () (by first | rw [lvM, if_pos c_7] | rw [lvM, if_neg c_7, if_pos c_25] | rw [lvM, if_neg c_7, if_neg c_25]) rfl dX8_isLive_34
  · refine lv_aload_n hx hb dX8_isLive_10 rfl (lv_at hl 0 rfl) ?_
    refine gf_X8_231 F hw 0 rfl rfl dX8_isLive_11 ?_
    refine lv_aload_n hx hb dX8_isLive_14 rfl (lv_at hl 0 rfl) ?_
    refine gf_X8_128 F hw 0 rfl rfl dX8_isLive_15 ?_
    refine lv_iload_n hx hb dX8_isLive_18 rfl (lv_at hl 1 rfl) ?_
    refine ja_ld F hw 11 rfl (by omega) (by omega) dX8_isLive_19 ?_
    refine lv_lsub hx hb dX8_isLive_20 ?_
    refine lv_aload_n hx hb dX8_isLive_21 rfl (lv_at hl 0 rfl) ?_
    refine gf_X8_108 F hw 0 rfl rfl dX8_isLive_22 ?_
    refine lc_ge (tgt := 33) hx hb dX8_isLive_25 dX8_isLive_26 (by decide) (fun c_25 => ?_) (fun c_25 => ?_)
    · refine lv_iconst (v := nI 0) hx hb dX8_isLive_33 (by decide) ?_
      exact rt_z F hr rfl hlk hQ hw () (by first | rw [lvM, if_pos c_7] | rw [lvM, if_neg c_7, if_pos c_25] | rw [lvM, if_neg c_7, if_neg c_25]) rfl dX8_isLive_34
    · refine lv_iconst (v := nI 1) hx hb dX8_isLive_29 (by decide) ?_
      refine lv_goto (tgt := 34) hx hb dX8_isLive_30 (by decide) ?_
      exact rt_z F hr rfl hlk hQ hw () (by first | rw [lvM, if_pos c_7] | rw [lvM, if_neg c_7, if_pos c_25] | rw [lvM, if_neg c_7, if_neg c_25]) rfl dX8_isLive_34
set_option maxHeartbeats 4000000 in
set_option maxRecDepth 100000 in
theorem c_X8_isOld (g : GG) (l : Launch) (md : Nat → Nat) (mfa : Int32) (mmz : Nat) (msz : Nat) (mnow : Int64) (mgr : Int64) (mmo : Int64) (mre : Int64) (msd : Int64) (mbg : Int64) (mky : Nat) (mli : Int32) (mrf : Int32) (mrn : Int32) (mka : Int32) (mta : Nat → Int32) (mwd : Nat → Int32) (mms : Nat → Int32) (mhs : Nat → Int32) (mke : Nat → Int32) (msa : Nat → Int32) (mkn : Nat → Int32) (mkb : Nat → Int32) (mku : Nat → Int64) (mhp : Nat → Int32) (mpa : Nat → Int32) (mpb : Nat → Int32) (mit : Nat → Int32) (mus : Nat → Int32) (mid : Nat → Int64) (mbe : Nat → Int64) (mla : Nat → Int64) (msi : Nat → Int32) (mtx : Nat → Int32) (mra : Nat → Int32) (i : Nat) (hi : i < 8) : Ct g l yX8_isOld cX8_isOld 2 (some .boolean) 0 0 [.ref (md 0), .int (nI i)] (mX g md mfa mmz msz mnow mgr mmo mre msd mbg mky mli mrf mrn mka mta mwd mms mhs mke msa mkn mkb mku mhp mpa mpb mit mus mid mbe mla msi mtx mra) (Ri g (fun (v : Int32) (u : Unit) => v = ageI mnow (mbe i) mmo) (fun (u : Unit) => (mX g md mfa mmz msz mnow mgr mmo mre msd mbg mky mli mrf mrn mka mta mwd mms mhs mke msa mkn mkb mku mhp mpa mpb mit mus mid mbe mla msi mtx mra))) := by
  refine mkC (by decide) (Nat.le_of_ble_eq_true rfl) ?_
  intro p e s m args below meth c A ls QQ F hr hlk hnm hQ hw hl
  have hx := F.1
  have hb := F.2.1
  replace hl : lv_has ls 2 [(0, .ref (md 0)), (1, .int (nI i))] := hl
  refine lv_aload_n hx hb dX8_isOld_0 rfl (lv_at hl 0 rfl) ?_
  refine gf_X8_231 F hw 0 rfl rfl dX8_isOld_1 ?_
  refine lv_aload_n hx hb dX8_isOld_4 rfl (lv_at hl 0 rfl) ?_
  refine gf_X8_151 F hw 0 rfl rfl dX8_isOld_5 ?_
  refine lv_iload_n hx hb dX8_isOld_8 rfl (lv_at hl 1 rfl) ?_
  refine ja_ld F hw 18 rfl (by omega) (by omega) dX8_isOld_9 ?_
  refine lv_lsub hx hb dX8_isOld_10 ?_
  refine lv_aload_n hx hb dX8_isOld_11 rfl (lv_at hl 0 rfl) ?_
  refine gf_X8_112 F hw 0 rfl rfl dX8_isOld_12 ?_
  refine lc_lt (tgt := 23) hx hb dX8_isOld_15 dX8_isOld_16 (by decide) (fun c_15 => ?_) (fun c_15 => ?_)
  · refine lv_iconst (v := nI 0) hx hb dX8_isOld_23 (by decide) ?_
    exact rt_z F hr rfl hlk hQ hw () (by simp only [ageI, c_15, if_true, if_false]) rfl dX8_isOld_24
  · refine lv_iconst (v := nI 1) hx hb dX8_isOld_19 (by decide) ?_
    refine lv_goto (tgt := 24) hx hb dX8_isOld_20 (by decide) ?_
    exact rt_z F hr rfl hlk hQ hw () (by simp only [ageI, c_15, if_true, if_false]) rfl dX8_isOld_24
set_option maxHeartbeats 4000000 in
set_option maxRecDepth 100000 in
theorem c_X8_isIdle (g : GG) (l : Launch) (md : Nat → Nat) (mfa : Int32) (mmz : Nat) (msz : Nat) (mnow : Int64) (mgr : Int64) (mmo : Int64) (mre : Int64) (msd : Int64) (mbg : Int64) (mky : Nat) (mli : Int32) (mrf : Int32) (mrn : Int32) (mka : Int32) (mta : Nat → Int32) (mwd : Nat → Int32) (mms : Nat → Int32) (mhs : Nat → Int32) (mke : Nat → Int32) (msa : Nat → Int32) (mkn : Nat → Int32) (mkb : Nat → Int32) (mku : Nat → Int64) (mhp : Nat → Int32) (mpa : Nat → Int32) (mpb : Nat → Int32) (mit : Nat → Int32) (mus : Nat → Int32) (mid : Nat → Int64) (mbe : Nat → Int64) (mla : Nat → Int64) (msi : Nat → Int32) (mtx : Nat → Int32) (mra : Nat → Int32) (i : Nat) (hi : i < 8) : Ct g l yX8_isIdle cX8_isIdle 2 (some .boolean) 0 0 [.ref (md 0), .int (nI i)] (mX g md mfa mmz msz mnow mgr mmo mre msd mbg mky mli mrf mrn mka mta mwd mms mhs mke msa mkn mkb mku mhp mpa mpb mit mus mid mbe mla msi mtx mra) (Ri g (fun (v : Int32) (u : Unit) => v = ageI mnow (mla i) mre) (fun (u : Unit) => (mX g md mfa mmz msz mnow mgr mmo mre msd mbg mky mli mrf mrn mka mta mwd mms mhs mke msa mkn mkb mku mhp mpa mpb mit mus mid mbe mla msi mtx mra))) := by
  refine mkC (by decide) (Nat.le_of_ble_eq_true rfl) ?_
  intro p e s m args below meth c A ls QQ F hr hlk hnm hQ hw hl
  have hx := F.1
  have hb := F.2.1
  replace hl : lv_has ls 2 [(0, .ref (md 0)), (1, .int (nI i))] := hl
  refine lv_aload_n hx hb dX8_isIdle_0 rfl (lv_at hl 0 rfl) ?_
  refine gf_X8_231 F hw 0 rfl rfl dX8_isIdle_1 ?_
  refine lv_aload_n hx hb dX8_isIdle_4 rfl (lv_at hl 0 rfl) ?_
  refine gf_X8_154 F hw 0 rfl rfl dX8_isIdle_5 ?_
  refine lv_iload_n hx hb dX8_isIdle_8 rfl (lv_at hl 1 rfl) ?_
  refine ja_ld F hw 19 rfl (by omega) (by omega) dX8_isIdle_9 ?_
  refine lv_lsub hx hb dX8_isIdle_10 ?_
  refine lv_aload_n hx hb dX8_isIdle_11 rfl (lv_at hl 0 rfl) ?_
  refine gf_X8_115 F hw 0 rfl rfl dX8_isIdle_12 ?_
  refine lc_lt (tgt := 23) hx hb dX8_isIdle_15 dX8_isIdle_16 (by decide) (fun c_15 => ?_) (fun c_15 => ?_)
  · refine lv_iconst (v := nI 0) hx hb dX8_isIdle_23 (by decide) ?_
    exact rt_z F hr rfl hlk hQ hw () (by simp only [ageI, c_15, if_true, if_false]) rfl dX8_isIdle_24
  · refine lv_iconst (v := nI 1) hx hb dX8_isIdle_19 (by decide) ?_
    refine lv_goto (tgt := 24) hx hb dX8_isIdle_20 (by decide) ?_
    exact rt_z F hr rfl hlk hQ hw () (by simp only [ageI, c_15, if_true, if_false]) rfl dX8_isIdle_24
theorem in8 {x : Int32} (h : ¬ inI x.toInt64 0 7 = 0) : ∃ k, k < 8 ∧ x = nI k := by
  unfold inI at h
  by_cases h1 : x.toInt64 < 0
  · rw [if_pos h1] at h; exact absurd rfl h
  · rw [if_neg h1] at h
    by_cases h2 : (7 : Int64) < x.toInt64
    · rw [if_pos h2] at h; exact absurd rfl h
    · have e1 : (0 : Int) ≤ x.toInt := by
        have := Int64.not_lt.mp h1
        have := Int64.le_iff_toInt_le.mp this
        simpa using this
      have e2 : x.toInt ≤ 7 := by
        have := Int64.not_lt.mp h2
        have := Int64.le_iff_toInt_le.mp this
        simpa using this
      have h3 : ¬ x < 0 := fun hh => by
        have := Int32.lt_iff_toInt_lt.mp hh
        simp at this
        omega
      obtain ⟨j, hj, rfl⟩ := nI_of h3
      rw [nI_toInt hj] at e2
      exact ⟨j, by omega, rfl⟩
theorem in8z {x : Int32} (h : inI x.toInt64 0 7 = 0) : ∀ k, k < 8 → ¬ x = nI k := by
  intro k hk e
  subst e
  revert h
  exact (by decide +kernel : ∀ k, k < 8 → ¬ inI (nI k).toInt64 0 7 = 0) k hk
set_option maxHeartbeats 4000000 in
set_option maxRecDepth 100000 in
theorem c_X8_user (g : GG) (l : Launch) (md : Nat → Nat) (mfa : Int32) (mmz : Nat) (msz : Nat) (mnow : Int64) (mgr : Int64) (mmo : Int64) (mre : Int64) (msd : Int64) (mbg : Int64) (mky : Nat) (mli : Int32) (mrf : Int32) (mrn : Int32) (mka : Int32) (mta : Nat → Int32) (mwd : Nat → Int32) (mms : Nat → Int32) (mhs : Nat → Int32) (mke : Nat → Int32) (msa : Nat → Int32) (mkn : Nat → Int32) (mkb : Nat → Int32) (mku : Nat → Int64) (mhp : Nat → Int32) (mpa : Nat → Int32) (mpb : Nat → Int32) (mit : Nat → Int32) (mus : Nat → Int32) (mid : Nat → Int64) (mbe : Nat → Int64) (mla : Nat → Int64) (msi : Nat → Int32) (mtx : Nat → Int32) (mra : Nat → Int32) (x : Int32) (a : Int32) (b : Int32) : Ct g l yX8_user cX8_user 4 none 1 25 [.ref (md 0), .int x, .int a, .int b] (mX g md mfa mmz msz mnow mgr mmo mre msd mbg mky mli mrf mrn mka mta mwd mms mhs mke msa mkn mkb mku mhp mpa mpb mit mus mid mbe mla msi mtx mra) (Rv g (fun (u : Int32 × (Nat → Int32) × (Nat → Int32) × (Nat → Int32)) => (∃ k, k < 8 ∧ x = nI k ∧ u = (nI 0, upd mhp k (nI 1), upd mpa k a, upd mpb k b)) ∨ ((∀ k, k < 8 → ¬ x = nI k) ∧ u = (nI 1, mhp, mpa, mpb))) (fun (u : Int32 × (Nat → Int32) × (Nat → Int32) × (Nat → Int32)) => (mX g md u.1 mmz msz mnow mgr mmo mre msd mbg mky mli mrf mrn mka mta mwd mms mhs mke msa mkn mkb mku u.2.1 u.2.2.1 u.2.2.2 mit mus mid mbe mla msi mtx mra))) := by
  refine mkC (by decide) (Nat.le_of_ble_eq_true rfl) ?_
  intro p e s m args below meth c A ls QQ F hr hlk hnm hQ hw hl
  have hx := F.1
  have hb := F.2.1
  replace hl : lv_has ls 4 [(0, .ref (md 0)), (1, .int x), (2, .int a), (3, .int b)] := hl
  refine lv_aload_n hx hb dX8_user_0 rfl (lv_at hl 0 rfl) ?_
  refine lv_iload_n hx hb dX8_user_1 rfl (lv_at hl 1 rfl) ?_
  refine lv_i2l (v := (x).toInt64) hx hb dX8_user_2 rfl ?_
  refine lv_lconst (v := 0) hx hb dX8_user_3 (by decide) ?_
  refine lv_ldc2 hx hb F.2.2.2.1 (F.2.2.2.2 _ bg_13_7) dX8_user_4 ?_
  refine cl_i hw [] rfl (rn_S F hw (c_X8_isIn g l (x).toInt64 0 (7)) (cw_X8_223 F.2.2.2.2 ⟨by decide, by decide⟩) [] (by decide) rfl hl.1 rfl (Nat.le_of_ble_eq_true rfl) dX8_user_7 ⟨Nat.zero_le _, Nat.zero_le _⟩) (fun _ => rfl) (fun v_2 u_1 H locs hp_3 hw => ?_)
  subst hp_3
  replace hw : Wd g s A H locs (mX g md mfa mmz msz mnow mgr mmo mre msd mbg mky mli mrf mrn mka mta mwd mms mhs mke msa mkn mkb mku mhp mpa mpb mit mus mid mbe mla msi mtx mra) := hw
  refine lv_if_eq (tgt := 17) hx hb dX8_user_10 (by decide) (fun c_10 => ?_) (fun c_10 => ?_)
  · refine lv_iconst (v := nI 1) hx hb dX8_user_17 (by decide) ?_
    refine cl_iF hw (rn_VF F hw (c_X8_refused g l md mfa mmz msz mnow mgr mmo mre msd mbg mky mli mrf mrn mka mta mwd mms mhs mke msa mkn mkb mku mhp mpa mpb mit mus mid mbe mla msi mtx mra (nI 1)) (cw_X8_227 F.2.2.2.2 ⟨by decide, by decide⟩)    0 rfl rfl rfl hl.1 rfl (Nat.le_of_ble_eq_true rfl) dX8_user_18 ⟨Nat.zero_le _, Nat.zero_le _⟩) (fun v_5 u_4 H locs hp_6 hw => ?_)
    subst hp_6
    replace hw : Wd g s A H locs (mX g md (nI 1) mmz msz mnow mgr mmo mre msd mbg mky mli mrf mrn mka mta mwd mms mhs mke msa mkn mkb mku mhp mpa mpb mit mus mid mbe mla msi mtx mra) := hw
    refine lv_if_eq (tgt := 25) hx hb dX8_user_21 (by decide) (fun c_21 => ?_) (fun c_21 => ?_)
    · exact absurd c_21 (by decide)
    · exact rt_v F hr hlk hQ hw ((nI 1), mhp, mpa, mpb) (Or.inr ⟨in8z c_10, rfl⟩) rfl dX8_user_24
  · refine lv_iconst (v := nI 0) hx hb dX8_user_13 (by decide) ?_
    refine lv_goto (tgt := 18) hx hb dX8_user_14 (by decide) ?_
    refine cl_iF hw (rn_VF F hw (c_X8_refused g l md mfa mmz msz mnow mgr mmo mre msd mbg mky mli mrf mrn mka mta mwd mms mhs mke msa mkn mkb mku mhp mpa mpb mit mus mid mbe mla msi mtx mra (nI 0)) (cw_X8_227 F.2.2.2.2 ⟨by decide, by decide⟩)    0 rfl rfl rfl hl.1 rfl (Nat.le_of_ble_eq_true rfl) dX8_user_18 ⟨Nat.zero_le _, Nat.zero_le _⟩) (fun v_8 u_7 H locs hp_9 hw => ?_)
    subst hp_9
    replace hw : Wd g s A H locs (mX g md (nI 0) mmz msz mnow mgr mmo mre msd mbg mky mli mrf mrn mka mta mwd mms mhs mke msa mkn mkb mku mhp mpa mpb mit mus mid mbe mla msi mtx mra) := hw
    refine lv_if_eq (tgt := 25) hx hb dX8_user_21 (by decide) (fun c_21 => ?_) (fun c_21 => ?_)
    · obtain ⟨k, hk, rfl⟩ := in8 c_10
      refine lv_aload_n hx hb dX8_user_25 rfl (lv_at hl 0 rfl) ?_
      refine gf_X8_132 F hw 0 rfl rfl dX8_user_26 ?_
      refine lv_iload_n hx hb dX8_user_29 rfl (lv_at hl 1 rfl) ?_
      refine lv_iconst (v := nI 1) hx hb dX8_user_30 (by decide) ?_
      refine za_st F hw 12 rfl (by omega) (by omega) nar1 dX8_user_31 (fun H locs hw => ?_)
      replace hw : Wd g s A H locs (mX g md (nI 0) mmz msz mnow mgr mmo mre msd mbg mky mli mrf mrn mka mta mwd mms mhs mke msa mkn mkb mku (upd mhp k (nI 1)) mpa mpb mit mus mid mbe mla msi mtx mra) := hw
      refine lv_aload_n hx hb dX8_user_32 rfl (lv_at hl 0 rfl) ?_
      refine gf_X8_136 F hw 0 rfl rfl dX8_user_33 ?_
      refine lv_iload_n hx hb dX8_user_36 rfl (lv_at hl 1 rfl) ?_
      refine lv_iload_n hx hb dX8_user_37 rfl (lv_at hl 2 rfl) ?_
      refine ia_st F hw 13 rfl (by omega) (by omega) dX8_user_38 (fun H locs hw => ?_)
      replace hw : Wd g s A H locs (mX g md (nI 0) mmz msz mnow mgr mmo mre msd mbg mky mli mrf mrn mka mta mwd mms mhs mke msa mkn mkb mku (upd mhp k (nI 1)) (upd mpa k a) mpb mit mus mid mbe mla msi mtx mra) := hw
      refine lv_aload_n hx hb dX8_user_39 rfl (lv_at hl 0 rfl) ?_
      refine gf_X8_139 F hw 0 rfl rfl dX8_user_40 ?_
      refine lv_iload_n hx hb dX8_user_43 rfl (lv_at hl 1 rfl) ?_
      refine lv_iload_n hx hb dX8_user_44 rfl (lv_at hl 3 rfl) ?_
      refine ia_st F hw 14 rfl (by omega) (by omega) dX8_user_45 (fun H locs hw => ?_)
      replace hw : Wd g s A H locs (mX g md (nI 0) mmz msz mnow mgr mmo mre msd mbg mky mli mrf mrn mka mta mwd mms mhs mke msa mkn mkb mku (upd mhp k (nI 1)) (upd mpa k a) (upd mpb k b) mit mus mid mbe mla msi mtx mra) := hw
      exact rt_v F hr hlk hQ hw ((nI 0), upd mhp k (nI 1), upd mpa k a, upd mpb k b) (Or.inl ⟨k, hk, rfl, rfl⟩) rfl dX8_user_46
    · exact absurd (by decide) c_21
set_option maxHeartbeats 4000000 in
set_option maxRecDepth 100000 in
theorem c_X8_revoke (g : GG) (l : Launch) (md : Nat → Nat) (mfa : Int32) (mmz : Nat) (msz : Nat) (mnow : Int64) (mgr : Int64) (mmo : Int64) (mre : Int64) (msd : Int64) (mbg : Int64) (mky : Nat) (mli : Int32) (mrf : Int32) (mrn : Int32) (mka : Int32) (mta : Nat → Int32) (mwd : Nat → Int32) (mms : Nat → Int32) (mhs : Nat → Int32) (mke : Nat → Int32) (msa : Nat → Int32) (mkn : Nat → Int32) (mkb : Nat → Int32) (mku : Nat → Int64) (mhp : Nat → Int32) (mpa : Nat → Int32) (mpb : Nat → Int32) (mit : Nat → Int32) (mus : Nat → Int32) (mid : Nat → Int64) (mbe : Nat → Int64) (mla : Nat → Int64) (msi : Nat → Int32) (mtx : Nat → Int32) (mra : Nat → Int32) (x : Int32) : Ct g l yX8_revoke cX8_revoke 4 (some .int) 1 25 [.ref (md 0), .int x] (mX g md mfa mmz msz mnow mgr mmo mre msd mbg mky mli mrf mrn mka mta mwd mms mhs mke msa mkn mkb mku mhp mpa mpb mit mus mid mbe mla msi mtx mra) (Ri g (fun (v : Int32) (u : Int32 × (Nat → Int32)) => ((∃ k, k < 8 ∧ x = nI k) ∧ v = nI (rvF mit mus x 8).2 ∧ u = (nI 0, (rvF mit mus x 8).1)) ∨ ((∀ k, k < 8 → ¬ x = nI k) ∧ u = (nI 1, mit))) (fun (u : Int32 × (Nat → Int32)) => (mX g md u.1 mmz msz mnow mgr mmo mre msd mbg mky mli mrf mrn mka mta mwd mms mhs mke msa mkn mkb mku mhp mpa mpb u.2 mus mid mbe mla msi mtx mra))) := by
  refine mkC (by decide) (Nat.le_of_ble_eq_true rfl) ?_
  intro p e s m args below meth c A ls QQ F hr hlk hnm hQ hw hl
  have hx := F.1
  have hb := F.2.1
  replace hl : lv_has ls 4 [(0, .ref (md 0)), (1, .int x)] := hl
  refine lv_aload_n hx hb dX8_revoke_0 rfl (lv_at hl 0 rfl) ?_
  refine lv_iload_n hx hb dX8_revoke_1 rfl (lv_at hl 1 rfl) ?_
  refine lv_i2l (v := (x).toInt64) hx hb dX8_revoke_2 rfl ?_
  refine lv_lconst (v := 0) hx hb dX8_revoke_3 (by decide) ?_
  refine lv_ldc2 hx hb F.2.2.2.1 (F.2.2.2.2 _ bg_13_7) dX8_revoke_4 ?_
  refine cl_i hw [] rfl (rn_S F hw (c_X8_isIn g l (x).toInt64 0 (7)) (cw_X8_223 F.2.2.2.2 ⟨by decide, by decide⟩) [] (by decide) rfl hl.1 rfl (Nat.le_of_ble_eq_true rfl) dX8_revoke_7 ⟨Nat.zero_le _, Nat.zero_le _⟩) (fun _ => rfl) (fun v_2 u_1 H locs hp_3 hw => ?_)
  subst hp_3
  replace hw : Wd g s A H locs (mX g md mfa mmz msz mnow mgr mmo mre msd mbg mky mli mrf mrn mka mta mwd mms mhs mke msa mkn mkb mku mhp mpa mpb mit mus mid mbe mla msi mtx mra) := hw
  refine lv_if_eq (tgt := 17) hx hb dX8_revoke_10 (by decide) (fun c_10 => ?_) (fun c_10 => ?_)
  · refine lv_iconst (v := nI 1) hx hb dX8_revoke_17 (by decide) ?_
    refine cl_iF hw (rn_VF F hw (c_X8_refused g l md mfa mmz msz mnow mgr mmo mre msd mbg mky mli mrf mrn mka mta mwd mms mhs mke msa mkn mkb mku mhp mpa mpb mit mus mid mbe mla msi mtx mra (nI 1)) (cw_X8_227 F.2.2.2.2 ⟨by decide, by decide⟩)    0 rfl rfl rfl hl.1 rfl (Nat.le_of_ble_eq_true rfl) dX8_revoke_18 ⟨Nat.zero_le _, Nat.zero_le _⟩) (fun v_5 u_4 H locs hp_6 hw => ?_)
    subst hp_6
    replace hw : Wd g s A H locs (mX g md (nI 1) mmz msz mnow mgr mmo mre msd mbg mky mli mrf mrn mka mta mwd mms mhs mke msa mkn mkb mku mhp mpa mpb mit mus mid mbe mla msi mtx mra) := hw
    refine lv_if_eq (tgt := 26) hx hb dX8_revoke_21 (by decide) (fun c_21 => ?_) (fun c_21 => ?_)
    · exact absurd c_21 (by decide)
    · refine lv_iconst (v := nI 0) hx hb dX8_revoke_24 (by decide) ?_
      exact rt_i F hr hlk hQ hw ((nI 1), mit) (Or.inr ⟨in8z c_10, rfl⟩) rfl dX8_revoke_25
  · refine lv_iconst (v := nI 0) hx hb dX8_revoke_13 (by decide) ?_
    refine lv_goto (tgt := 18) hx hb dX8_revoke_14 (by decide) ?_
    refine cl_iF hw (rn_VF F hw (c_X8_refused g l md mfa mmz msz mnow mgr mmo mre msd mbg mky mli mrf mrn mka mta mwd mms mhs mke msa mkn mkb mku mhp mpa mpb mit mus mid mbe mla msi mtx mra (nI 0)) (cw_X8_227 F.2.2.2.2 ⟨by decide, by decide⟩)    0 rfl rfl rfl hl.1 rfl (Nat.le_of_ble_eq_true rfl) dX8_revoke_18 ⟨Nat.zero_le _, Nat.zero_le _⟩) (fun v_8 u_7 H locs hp_9 hw => ?_)
    subst hp_9
    replace hw : Wd g s A H locs (mX g md (nI 0) mmz msz mnow mgr mmo mre msd mbg mky mli mrf mrn mka mta mwd mms mhs mke msa mkn mkb mku mhp mpa mpb mit mus mid mbe mla msi mtx mra) := hw
    refine lv_if_eq (tgt := 26) hx hb dX8_revoke_21 (by decide) (fun c_21 => ?_) (fun c_21 => ?_)
    · refine lv_iconst (v := nI 0) hx hb dX8_revoke_26 (by decide) ?_
      refine lv_istore_n (lv' := [(2, .int (nI 0)), (0, .ref (md 0)), (1, .int x)]) hx hb dX8_revoke_27 rfl hl (by decide) rfl (fun ls hl => ?_)
      refine lv_iconst (v := nI 0) hx hb dX8_revoke_28 (by decide) ?_
      refine lv_istore_n (lv' := [(3, .int (nI 0)), (2, .int (nI 0)), (0, .ref (md 0)), (1, .int x)]) hx hb dX8_revoke_29 rfl hl (by decide) rfl (fun ls hl => ?_)
      have L_30 : ∀ (nn k : Nat), k ≤ 8 → 8 < k + nn → ∀ (H : Heap) (locs : List Loc) (ls : Array Slot), Wd g s A H locs (mX g md (nI 0) mmz msz mnow mgr mmo mre msd mbg mky mli mrf mrn mka mta mwd mms mhs mke msa mkn mkb mku mhp mpa mpb ((rvF mit mus x k).1) mus mid mbe mla msi mtx mra) → lv_has ls 4 [(0, .ref (md 0)), (1, .int x), (2, .int (nI ((rvF mit mus x k).2))), (3, .int (nI k))] → W p l e (rmm 1 25) s m args below meth c H locs 0 0 QQ (F0 m 30 ls []) := by
        intro nn
        induction nn with
        | zero => intro k h1 h2; exact absurd h2 (by omega)
        | succ nn ih =>
          intro k hk_k hn_k H locs ls hw hl
          refine lv_iload_n hx hb dX8_revoke_30 rfl (lv_at hl 3 rfl) ?_
          refine lv_bipush (v := nI 8) hx hb dX8_revoke_31 (by decide) ?_
          refine n_ge (tgt := 71) hx hb (by omega) (by omega) dX8_revoke_33 (by decide) (fun c_33 => ?_) (fun c_33 => ?_)
          · obtain rfl : k = 8 := by omega
            obtain ⟨rv, hrv⟩ : ∃ r : (Nat → Int32) × Nat, r = rvF mit mus x 8 := ⟨_, rfl⟩
            rw [← hrv] at hw hl
            refine lv_iload_n hx hb dX8_revoke_71 rfl (lv_at hl 2 rfl) ?_
            exact rt_i F hr hlk hQ hw ((nI 0), rv.1) (by rw [← hrv]; exact Or.inl ⟨in8 c_10, rfl, rfl⟩) rfl dX8_revoke_72
          · refine lv_aload_n hx hb dX8_revoke_36 rfl (lv_at hl 0 rfl) ?_
            refine gf_X8_142 F hw 0 rfl rfl dX8_revoke_37 ?_
            refine lv_iload_n hx hb dX8_revoke_40 rfl (lv_at hl 3 rfl) ?_
            refine za_ld F hw 15 rfl (by omega) (by omega) dX8_revoke_41 ?_
            refine lv_if_eq (tgt := 65) hx hb dX8_revoke_42 (by decide) (fun c_42 => ?_) (fun c_42 => ?_)
            · refine lv_iinc (v := nI (k + 1)) (lv' := [(3, .int (nI (k + 1))), (0, .ref (md 0)), (1, .int x), (2, .int (nI ((rvF mit mus x k).2)))]) hx hb dX8_revoke_65 hl (k := 3) rfl (inc_n _ 1) (by decide) rfl (fun ls hl => ?_)
              refine lv_goto (tgt := 30) hx hb dX8_revoke_68 (by decide) ?_
              first | (have e9 := rv_0 c_42; rw [← e9] at hw hl) | (have e9 := rv_1 c_42 c_52; rw [← e9] at hw hl) | (have e9 := rv_2 c_42 c_52; have e8 := congrArg Prod.fst e9; have e7 := congrArg Prod.snd e9; dsimp only at e8 e7; rw [← e8] at hw; rw [← e7] at hl)
              exact ih (k + 1) (by omega) (by omega) _ _ _ hw (lv_sub hl [1, 2, 3, 0] rfl)
            · refine lv_aload_n hx hb dX8_revoke_45 rfl (lv_at hl 0 rfl) ?_
              refine gf_X8_145 F hw 0 rfl rfl dX8_revoke_46 ?_
              refine lv_iload_n hx hb dX8_revoke_49 rfl (lv_at hl 3 rfl) ?_
              refine ia_ld F hw 16 rfl (by omega) (by omega) dX8_revoke_50 ?_
              refine lv_iload_n hx hb dX8_revoke_51 rfl (lv_at hl 1 rfl) ?_
              refine lv_icmp_ne (tgt := 65) hx hb dX8_revoke_52 (by decide) (fun c_52 => ?_) (fun c_52 => ?_)
              · refine lv_iinc (v := nI (k + 1)) (lv' := [(3, .int (nI (k + 1))), (0, .ref (md 0)), (1, .int x), (2, .int (nI ((rvF mit mus x k).2)))]) hx hb dX8_revoke_65 hl (k := 3) rfl (inc_n _ 1) (by decide) rfl (fun ls hl => ?_)
                refine lv_goto (tgt := 30) hx hb dX8_revoke_68 (by decide) ?_
                first | (have e9 := rv_0 c_42; rw [← e9] at hw hl) | (have e9 := rv_1 c_42 c_52; rw [← e9] at hw hl) | (have e9 := rv_2 c_42 c_52; have e8 := congrArg Prod.fst e9; have e7 := congrArg Prod.snd e9; dsimp only at e8 e7; rw [← e8] at hw; rw [← e7] at hl)
                exact ih (k + 1) (by omega) (by omega) _ _ _ hw (lv_sub hl [1, 2, 3, 0] rfl)
              · refine lv_aload_n hx hb dX8_revoke_55 rfl (lv_at hl 0 rfl) ?_
                refine gf_X8_142 F hw 0 rfl rfl dX8_revoke_56 ?_
                refine lv_iload_n hx hb dX8_revoke_59 rfl (lv_at hl 3 rfl) ?_
                refine lv_iconst (v := nI 0) hx hb dX8_revoke_60 (by decide) ?_
                refine za_st F hw 15 rfl (by omega) (by omega) nar0 dX8_revoke_61 (fun H locs hw => ?_)
                replace hw : Wd g s A H locs (mX g md (nI 0) mmz msz mnow mgr mmo mre msd mbg mky mli mrf mrn mka mta mwd mms mhs mke msa mkn mkb mku mhp mpa mpb (upd ((rvF mit mus x k).1) k (nI 0)) mus mid mbe mla msi mtx mra) := hw
                refine lv_iinc (v := nI ((rvF mit mus x k).2 + 1)) (lv' := [(2, .int (nI ((rvF mit mus x k).2 + 1))), (0, .ref (md 0)), (1, .int x), (3, .int (nI k))]) hx hb dX8_revoke_62 hl (k := 2) rfl (inc_n _ 1) (by decide) rfl (fun ls hl => ?_)
                refine lv_iinc (v := nI (k + 1)) (lv' := [(3, .int (nI (k + 1))), (2, .int (nI ((rvF mit mus x k).2 + 1))), (0, .ref (md 0)), (1, .int x)]) hx hb dX8_revoke_65 hl (k := 3) rfl (inc_n _ 1) (by decide) rfl (fun ls hl => ?_)
                refine lv_goto (tgt := 30) hx hb dX8_revoke_68 (by decide) ?_
                first | (have e9 := rv_0 c_42; rw [← e9] at hw hl) | (have e9 := rv_1 c_42 c_52; rw [← e9] at hw hl) | (have e9 := rv_2 c_42 c_52; have e8 := congrArg Prod.fst e9; have e7 := congrArg Prod.snd e9; dsimp only at e8 e7; rw [← e8] at hw; rw [← e7] at hl)
                exact ih (k + 1) (by omega) (by omega) _ _ _ hw (lv_sub hl [2, 3, 1, 0] rfl)
      exact L_30 (8 + 1) 0 (by omega) (by omega) _ _ _ hw (lv_sub hl [2, 3, 1, 0] rfl)
    · exact absurd (by decide) c_21
