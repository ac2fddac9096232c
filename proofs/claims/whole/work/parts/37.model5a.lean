def tyM (off : Nat) (a b c d : Int32) (t : (Nat → Int32) × Nat) : (Nat → Int32) × Nat :=
  adM d off (adM c off (adM b off (adM a off t.1 t.2 4).1 (adM a off t.1 t.2 4).2 4).1 (adM b off (adM a off t.1 t.2 4).1 (adM a off t.1 t.2 4).2 4).2 4).1 (adM c off (adM b off (adM a off t.1 t.2 4).1 (adM a off t.1 t.2 4).2 4).1 (adM b off (adM a off t.1 t.2 4).1 (adM a off t.1 t.2 4).2 4).2 4).2 4
set_option maxHeartbeats 4000000 in
set_option maxRecDepth 100000 in
theorem c_X8_type (g : GG) (l : Launch) (md : Nat → Nat) (mfa : Int32) (mmz : Nat) (msz : Nat) (mnow : Int64) (mgr : Int64) (mmo : Int64) (mre : Int64) (msd : Int64) (mbg : Int64) (mky : Nat) (mli : Int32) (mrf : Int32) (mrn : Int32) (mka : Int32) (mta : Nat → Int32) (mwd : Nat → Int32) (mms : Nat → Int32) (mhs : Nat → Int32) (mke : Nat → Int32) (msa : Nat → Int32) (mkn : Nat → Int32) (mkb : Nat → Int32) (mku : Nat → Int64) (mhp : Nat → Int32) (mpa : Nat → Int32) (mpb : Nat → Int32) (mit : Nat → Int32) (mus : Nat → Int32) (mid : Nat → Int64) (mbe : Nat → Int64) (mla : Nat → Int64) (msi : Nat → Int32) (mtx : Nat → Int32) (mra : Nat → Int32) (x : Int32) (pa : Int32) (pb : Int32) (pc : Int32) (pd : Int32) (s0 : Nat) (s1 : Nat) (hs0 : msi 0 = nI s0) (hs1 : msi 1 = nI s1) (hl0 : s0 ≤ 40) (hl1 : s1 ≤ 40) : Ct g l yX8_type cX8_type 8 (some .int) 1 26 [.ref (md 0), .int x, .int pa, .int pb, .int pc, .int pd] (mX g md mfa mmz msz mnow mgr mmo mre msd mbg mky mli mrf mrn mka mta mwd mms mhs mke msa mkn mkb mku mhp mpa mpb mit mus mid mbe mla msi mtx mra) (Ri g (fun (v : Int32) (u : Int32 × (Nat → Int32) × (Nat → Int32)) => (x = nI 0 ∧ s0 + mor pa pb pc pd ≤ 40 ∧ ∃ t : (Nat → Int32) × Nat, t = tyM (40 * 0) pa pb pc pd (mtx, s0) ∧ u = (nI 0, t.1, upd msi 0 (nI t.2)) ∧ v = nI t.2) ∨ (x = nI 1 ∧ s1 + mor pa pb pc pd ≤ 40 ∧ ∃ t : (Nat → Int32) × Nat, t = tyM (40 * 1) pa pb pc pd (mtx, s1) ∧ u = (nI 0, t.1, upd msi 1 (nI t.2)) ∧ v = nI t.2) ∨ (((x = nI 0 ∧ 40 < s0 + mor pa pb pc pd) ∨ (x = nI 1 ∧ 40 < s1 + mor pa pb pc pd)) ∧ u = (nI 2, mtx, msi)) ∨ ((¬ x = nI 0 ∧ ¬ x = nI 1) ∧ u = (nI 1, mtx, msi))) (fun (u : Int32 × (Nat → Int32) × (Nat → Int32)) => (mX g md u.1 mmz msz mnow mgr mmo mre msd mbg mky mli mrf mrn mka mta mwd mms mhs mke msa mkn mkb mku mhp mpa mpb mit mus mid mbe mla u.2.2 u.2.1 mra))) := by
  refine mkC (by decide) (Nat.le_of_ble_eq_true rfl) ?_
  intro p e s m args below meth c A ls QQ F hr hlk hnm hQ hw hl
  have hx := F.1
  have hb := F.2.1
  replace hl : lv_has ls 8 [(0, .ref (md 0)), (1, .int x), (2, .int pa), (3, .int pb), (4, .int pc), (5, .int pd)] := hl
  have hc1 := cnt_le (byO pa) 4
  have hc2 := cnt_le (byO pb) 4
  have hc3 := cnt_le (byO pc) 4
  have hc4 := cnt_le (byO pd) 4
  refine lv_iload_n hx hb dX8_type_0 rfl (lv_at hl 1 rfl) ?_
  refine lv_if_eq (tgt := 9) hx hb dX8_type_1 (by decide) (fun c_1 => ?_) (fun c_1 => ?_)
  · refine lv_iconst (v := nI 1) hx hb dX8_type_9 (by decide) ?_
    refine lv_goto (tgt := 14) hx hb dX8_type_10 (by decide) ?_
    refine lv_istore (lv' := [(6, .int (nI 1)), (0, .ref (md 0)), (1, .int x), (2, .int pa), (3, .int pb), (4, .int pc), (5, .int pd)]) hx hb dX8_type_14 hl (by decide) rfl (fun ls hl => ?_)
    refine lv_aload_n hx hb dX8_type_16 rfl (lv_at hl 1 rfl) ?_
    refine lv_iload hx hb dX8_type_17 (lv_at hl 0 rfl) ?_
    refine lv_if_ne (tgt := 26) hx hb dX8_type_19 (by decide) (fun c_19 => ?_) (fun c_19 => ?_)
    · obtain rfl : x = nI 0 := c_1
      refine lv_aload_n hx hb dX8_type_26 rfl (lv_at hl 1 rfl) ?_
      refine gf_X8_157 F hw 0 rfl rfl dX8_type_27 ?_
      refine lv_iload_n hx hb dX8_type_30 rfl (lv_at hl 2 rfl) ?_
      refine ia_ld F hw 20 rfl (by omega) (by omega) dX8_type_31 ?_
      refine tp_i (y := nI s0) hs0 ?_
      refine lv_iload_n hx hb dX8_type_32 rfl (lv_at hl 3 rfl) ?_
      refine cl_i hw [] rfl (rn_S F hw (c_X8_many g l pa) (cw_X8_277 F.2.2.2.2 ⟨by decide, by decide⟩) [] (by decide) rfl hl.1 rfl (Nat.le_of_ble_eq_true rfl) dX8_type_33 ⟨Nat.zero_le _, Nat.zero_le _⟩) (fun _ => rfl) (fun v_2 u_1 H locs hp_3 hw => ?_)
      subst hp_3
      replace hw : Wd g s A H locs (mX g md mfa mmz msz mnow mgr mmo mre msd mbg mky mli mrf mrn mka mta mwd mms mhs mke msa mkn mkb mku mhp mpa mpb mit mus mid mbe mla msi mtx mra) := hw
      refine n_add hx hb dX8_type_36 ?_
      refine lv_iload_n hx hb dX8_type_37 rfl (lv_at hl 4 rfl) ?_
      refine cl_i hw [] rfl (rn_S F hw (c_X8_many g l pb) (cw_X8_277 F.2.2.2.2 ⟨by decide, by decide⟩) [] (by decide) rfl hl.1 rfl (Nat.le_of_ble_eq_true rfl) dX8_type_38 ⟨Nat.zero_le _, Nat.zero_le _⟩) (fun _ => rfl) (fun v_5 u_4 H locs hp_6 hw => ?_)
      subst hp_6
      replace hw : Wd g s A H locs (mX g md mfa mmz msz mnow mgr mmo mre msd mbg mky mli mrf mrn mka mta mwd mms mhs mke msa mkn mkb mku mhp mpa mpb mit mus mid mbe mla msi mtx mra) := hw
      refine n_add hx hb dX8_type_41 ?_
      refine lv_iload hx hb dX8_type_42 (lv_at hl 5 rfl) ?_
      refine cl_i hw [] rfl (rn_S F hw (c_X8_many g l pc) (cw_X8_277 F.2.2.2.2 ⟨by decide, by decide⟩) [] (by decide) rfl hl.1 rfl (Nat.le_of_ble_eq_true rfl) dX8_type_44 ⟨Nat.zero_le _, Nat.zero_le _⟩) (fun _ => rfl) (fun v_8 u_7 H locs hp_9 hw => ?_)
      subst hp_9
      replace hw : Wd g s A H locs (mX g md mfa mmz msz mnow mgr mmo mre msd mbg mky mli mrf mrn mka mta mwd mms mhs mke msa mkn mkb mku mhp mpa mpb mit mus mid mbe mla msi mtx mra) := hw
      refine n_add hx hb dX8_type_47 ?_
      refine lv_iload hx hb dX8_type_48 (lv_at hl 6 rfl) ?_
      refine cl_i hw [] rfl (rn_S F hw (c_X8_many g l pd) (cw_X8_277 F.2.2.2.2 ⟨by decide, by decide⟩) [] (by decide) rfl hl.1 rfl (Nat.le_of_ble_eq_true rfl) dX8_type_50 ⟨Nat.zero_le _, Nat.zero_le _⟩) (fun _ => rfl) (fun v_11 u_10 H locs hp_12 hw => ?_)
      subst hp_12
      replace hw : Wd g s A H locs (mX g md mfa mmz msz mnow mgr mmo mre msd mbg mky mli mrf mrn mka mta mwd mms mhs mke msa mkn mkb mku mhp mpa mpb mit mus mid mbe mla msi mtx mra) := hw
      refine n_add hx hb dX8_type_53 ?_
      refine lv_bipush (v := nI 40) hx hb dX8_type_54 (by decide) ?_
      refine n_le (tgt := 63) hx hb (by omega) (by omega) dX8_type_56 (by decide) (fun c_56 => ?_) (fun c_56 => ?_)
      · refine lv_iconst (v := nI 0) hx hb dX8_type_63 (by decide) ?_
        refine cl_iF hw (rn_VF F hw (c_X8_refused g l md mfa mmz msz mnow mgr mmo mre msd mbg mky mli mrf mrn mka mta mwd mms mhs mke msa mkn mkb mku mhp mpa mpb mit mus mid mbe mla msi mtx mra (nI 0)) (cw_X8_227 F.2.2.2.2 ⟨by decide, by decide⟩)    0 rfl rfl rfl hl.1 rfl (Nat.le_of_ble_eq_true rfl) dX8_type_64 ⟨Nat.zero_le _, Nat.zero_le _⟩) (fun v_14 u_13 H locs hp_15 hw => ?_)
        subst hp_15
        replace hw : Wd g s A H locs (mX g md (nI 0) mmz msz mnow mgr mmo mre msd mbg mky mli mrf mrn mka mta mwd mms mhs mke msa mkn mkb mku mhp mpa mpb mit mus mid mbe mla msi mtx mra) := hw
        refine lv_if_eq (tgt := 72) hx hb dX8_type_67 (by decide) (fun c_67 => ?_) (fun c_67 => ?_)
        · refine lv_aload_n hx hb dX8_type_72 rfl (lv_at hl 1 rfl) ?_
          refine lv_iload_n hx hb dX8_type_73 rfl (lv_at hl 2 rfl) ?_
          refine lv_iload_n hx hb dX8_type_74 rfl (lv_at hl 3 rfl) ?_
          refine lv_aload_n hx hb dX8_type_75 rfl (lv_at hl 1 rfl) ?_
          refine gf_X8_157 F hw 0 rfl rfl dX8_type_76 ?_
          refine lv_iload_n hx hb dX8_type_79 rfl (lv_at hl 2 rfl) ?_
          refine ia_ld F hw 20 rfl (by omega) (by omega) dX8_type_80 ?_
          refine tp_i (y := nI s0) hs0 ?_
          refine cl_iF hw (rn_VF F hw (c_X8_typed g l md (nI 0) mmz msz mnow mgr mmo mre msd mbg mky mli mrf mrn mka mta mwd mms mhs mke msa mkn mkb mku mhp mpa mpb mit mus mid mbe mla msi mtx mra 0 pa s0 (by omega) (by omega)) (cw_X8_280 F.2.2.2.2 ⟨by decide, by decide⟩)    0 rfl rfl rfl hl.1 rfl (Nat.le_of_ble_eq_true rfl) dX8_type_81 ⟨Nat.zero_le _, Nat.zero_le _⟩) (fun v_17 u_16 H locs hp_18 hw => ?_)
          subst hp_18
          replace hw : Wd g s A H locs (mX g md (nI 0) mmz msz mnow mgr mmo mre msd mbg mky mli mrf mrn mka mta mwd mms mhs mke msa mkn mkb mku mhp mpa mpb mit mus mid mbe mla msi ((adM pa (40 * 0) mtx s0 4).1) mra) := hw
          obtain ⟨t1, ht1⟩ : ∃ t : (Nat → Int32) × Nat, t = (adM pa (40 * 0) mtx s0 4) := ⟨_, rfl⟩
          rw [← ht1] at hw
          refine tp_i (y := nI t1.2) (by rw [ht1]) ?_
          have et1 : t1.2 = s0 + cntL (byO pa) 4 := by rw [ht1]; exact am_cnt _ _ _ _ 4
          refine lv_istore (lv' := [(7, .int (nI (t1.2))), (6, .int (nI 1)), (0, .ref (md 0)), (1, .int (nI 0)), (2, .int pa), (3, .int pb), (4, .int pc), (5, .int pd)]) hx hb dX8_type_84 hl (by decide) rfl (fun ls hl => ?_)
          refine lv_aload_n hx hb dX8_type_86 rfl (lv_at hl 2 rfl) ?_
          refine lv_iload_n hx hb dX8_type_87 rfl (lv_at hl 3 rfl) ?_
          refine lv_iload_n hx hb dX8_type_88 rfl (lv_at hl 5 rfl) ?_
          refine lv_iload hx hb dX8_type_89 (lv_at hl 0 rfl) ?_
          refine cl_iF hw (rn_VF F hw (c_X8_typed g l md (nI 0) mmz msz mnow mgr mmo mre msd mbg mky mli mrf mrn mka mta mwd mms mhs mke msa mkn mkb mku mhp mpa mpb mit mus mid mbe mla msi t1.1 mra 0 pb t1.2 (by omega) (by omega)) (cw_X8_280 F.2.2.2.2 ⟨by decide, by decide⟩)    0 rfl rfl rfl hl.1 rfl (Nat.le_of_ble_eq_true rfl) dX8_type_91 ⟨Nat.zero_le _, Nat.zero_le _⟩) (fun v_20 u_19 H locs hp_21 hw => ?_)
          subst hp_21
          replace hw : Wd g s A H locs (mX g md (nI 0) mmz msz mnow mgr mmo mre msd mbg mky mli mrf mrn mka mta mwd mms mhs mke msa mkn mkb mku mhp mpa mpb mit mus mid mbe mla msi ((adM pb (40 * 0) t1.1 t1.2 4).1) mra) := hw
          obtain ⟨t2, ht2⟩ : ∃ t : (Nat → Int32) × Nat, t = (adM pb (40 * 0) t1.1 t1.2 4) := ⟨_, rfl⟩
          rw [← ht2] at hw
          refine tp_i (y := nI t2.2) (by rw [ht2]) ?_
          have et2 : t2.2 = t1.2 + cntL (byO pb) 4 := by rw [ht2]; exact am_cnt _ _ _ _ 4
          refine lv_istore (lv' := [(7, .int (nI (t2.2))), (6, .int (nI 1)), (0, .ref (md 0)), (1, .int (nI 0)), (2, .int pa), (3, .int pb), (4, .int pc), (5, .int pd)]) hx hb dX8_type_94 hl (by decide) rfl (fun ls hl => ?_)
          refine lv_aload_n hx hb dX8_type_96 rfl (lv_at hl 2 rfl) ?_
          refine lv_iload_n hx hb dX8_type_97 rfl (lv_at hl 3 rfl) ?_
          refine lv_iload hx hb dX8_type_98 (lv_at hl 6 rfl) ?_
          refine lv_iload hx hb dX8_type_100 (lv_at hl 0 rfl) ?_
          refine cl_iF hw (rn_VF F hw (c_X8_typed g l md (nI 0) mmz msz mnow mgr mmo mre msd mbg mky mli mrf mrn mka mta mwd mms mhs mke msa mkn mkb mku mhp mpa mpb mit mus mid mbe mla msi t2.1 mra 0 pc t2.2 (by omega) (by omega)) (cw_X8_280 F.2.2.2.2 ⟨by decide, by decide⟩)    0 rfl rfl rfl hl.1 rfl (Nat.le_of_ble_eq_true rfl) dX8_type_102 ⟨Nat.zero_le _, Nat.zero_le _⟩) (fun v_23 u_22 H locs hp_24 hw => ?_)
          subst hp_24
          replace hw : Wd g s A H locs (mX g md (nI 0) mmz msz mnow mgr mmo mre msd mbg mky mli mrf mrn mka mta mwd mms mhs mke msa mkn mkb mku mhp mpa mpb mit mus mid mbe mla msi ((adM pc (40 * 0) t2.1 t2.2 4).1) mra) := hw
          obtain ⟨t3, ht3⟩ : ∃ t : (Nat → Int32) × Nat, t = (adM pc (40 * 0) t2.1 t2.2 4) := ⟨_, rfl⟩
          rw [← ht3] at hw
          refine tp_i (y := nI t3.2) (by rw [ht3]) ?_
          have et3 : t3.2 = t2.2 + cntL (byO pc) 4 := by rw [ht3]; exact am_cnt _ _ _ _ 4
          refine lv_istore (lv' := [(7, .int (nI (t3.2))), (6, .int (nI 1)), (0, .ref (md 0)), (1, .int (nI 0)), (2, .int pa), (3, .int pb), (4, .int pc), (5, .int pd)]) hx hb dX8_type_105 hl (by decide) rfl (fun ls hl => ?_)
          refine lv_aload_n hx hb dX8_type_107 rfl (lv_at hl 2 rfl) ?_
          refine lv_iload_n hx hb dX8_type_108 rfl (lv_at hl 3 rfl) ?_
          refine lv_iload hx hb dX8_type_109 (lv_at hl 7 rfl) ?_
          refine lv_iload hx hb dX8_type_111 (lv_at hl 0 rfl) ?_
          refine cl_iF hw (rn_VF F hw (c_X8_typed g l md (nI 0) mmz msz mnow mgr mmo mre msd mbg mky mli mrf mrn mka mta mwd mms mhs mke msa mkn mkb mku mhp mpa mpb mit mus mid mbe mla msi t3.1 mra 0 pd t3.2 (by omega) (by omega)) (cw_X8_280 F.2.2.2.2 ⟨by decide, by decide⟩)    0 rfl rfl rfl hl.1 rfl (Nat.le_of_ble_eq_true rfl) dX8_type_113 ⟨Nat.zero_le _, Nat.zero_le _⟩) (fun v_26 u_25 H locs hp_27 hw => ?_)
          subst hp_27
          replace hw : Wd g s A H locs (mX g md (nI 0) mmz msz mnow mgr mmo mre msd mbg mky mli mrf mrn mka mta mwd mms mhs mke msa mkn mkb mku mhp mpa mpb mit mus mid mbe mla msi ((adM pd (40 * 0) t3.1 t3.2 4).1) mra) := hw
          obtain ⟨t4, ht4⟩ : ∃ t : (Nat → Int32) × Nat, t = (adM pd (40 * 0) t3.1 t3.2 4) := ⟨_, rfl⟩
          rw [← ht4] at hw
          refine tp_i (y := nI t4.2) (by rw [ht4]) ?_
          have et4 : t4.2 = t3.2 + cntL (byO pd) 4 := by rw [ht4]; exact am_cnt _ _ _ _ 4
          refine lv_istore (lv' := [(7, .int (nI (t4.2))), (6, .int (nI 1)), (0, .ref (md 0)), (1, .int (nI 0)), (2, .int pa), (3, .int pb), (4, .int pc), (5, .int pd)]) hx hb dX8_type_116 hl (by decide) rfl (fun ls hl => ?_)
          refine lv_aload_n hx hb dX8_type_118 rfl (lv_at hl 2 rfl) ?_
          refine gf_X8_157 F hw 0 rfl rfl dX8_type_119 ?_
          refine lv_iload_n hx hb dX8_type_122 rfl (lv_at hl 3 rfl) ?_
          refine lv_iload hx hb dX8_type_123 (lv_at hl 0 rfl) ?_
          refine ia_st F hw 20 rfl (by omega) (by omega) dX8_type_125 (fun H locs hw => ?_)
          replace hw : Wd g s A H locs (mX g md (nI 0) mmz msz mnow mgr mmo mre msd mbg mky mli mrf mrn mka mta mwd mms mhs mke msa mkn mkb mku mhp mpa mpb mit mus mid mbe mla (upd msi 0 (nI (t4.2))) t4.1 mra) := hw
          refine lv_iload hx hb dX8_type_126 (lv_at hl 0 rfl) ?_
          exact rt_i F hr hlk hQ hw ((nI 0), t4.1, (upd msi 0 (nI (t4.2)))) (by first | exact Or.inl ⟨rfl, by unfold mor; omega, t4, (by rw [ht4, ht3, ht2, ht1]; rfl), rfl, rfl⟩ | exact Or.inr (Or.inl ⟨rfl, by unfold mor; omega, t4, (by rw [ht4, ht3, ht2, ht1]; rfl), rfl, rfl⟩)) rfl dX8_type_128
        · exact absurd (by decide) c_67
      · refine lv_iconst (v := nI 2) hx hb dX8_type_59 (by decide) ?_
        refine lv_goto (tgt := 64) hx hb dX8_type_60 (by decide) ?_
        refine cl_iF hw (rn_VF F hw (c_X8_refused g l md mfa mmz msz mnow mgr mmo mre msd mbg mky mli mrf mrn mka mta mwd mms mhs mke msa mkn mkb mku mhp mpa mpb mit mus mid mbe mla msi mtx mra (nI 2)) (cw_X8_227 F.2.2.2.2 ⟨by decide, by decide⟩)    0 rfl rfl rfl hl.1 rfl (Nat.le_of_ble_eq_true rfl) dX8_type_64 ⟨Nat.zero_le _, Nat.zero_le _⟩) (fun v_29 u_28 H locs hp_30 hw => ?_)
        subst hp_30
        replace hw : Wd g s A H locs (mX g md (nI 2) mmz msz mnow mgr mmo mre msd mbg mky mli mrf mrn mka mta mwd mms mhs mke msa mkn mkb mku mhp mpa mpb mit mus mid mbe mla msi mtx mra) := hw
        refine lv_if_eq (tgt := 72) hx hb dX8_type_67 (by decide) (fun c_67 => ?_) (fun c_67 => ?_)
        · exact absurd c_67 (by decide)
        · refine lv_iconst (v := nI 0) hx hb dX8_type_70 (by decide) ?_
          exact rt_i F hr hlk hQ hw ((nI 2), mtx, msi) (by first | exact Or.inr (Or.inr (Or.inr ⟨⟨c_1, c_6⟩, rfl⟩)) | exact Or.inr (Or.inr (Or.inl ⟨Or.inl ⟨rfl, by unfold mor; omega⟩, rfl⟩)) | exact Or.inr (Or.inr (Or.inl ⟨Or.inr ⟨rfl, by unfold mor; omega⟩, rfl⟩))) rfl dX8_type_71
    · exact absurd c_19 (by decide)
  · refine lv_iload_n hx hb dX8_type_4 rfl (lv_at hl 1 rfl) ?_
    refine lv_iconst (v := nI 1) hx hb dX8_type_5 (by decide) ?_
    refine lv_icmp_ne (tgt := 13) hx hb dX8_type_6 (by decide) (fun c_6 => ?_) (fun c_6 => ?_)
    · refine lv_iconst (v := nI 0) hx hb dX8_type_13 (by decide) ?_
      refine lv_istore (lv' := [(6, .int (nI 0)), (0, .ref (md 0)), (1, .int x), (2, .int pa), (3, .int pb), (4, .int pc), (5, .int pd)]) hx hb dX8_type_14 hl (by decide) rfl (fun ls hl => ?_)
      refine lv_aload_n hx hb dX8_type_16 rfl (lv_at hl 1 rfl) ?_
      refine lv_iload hx hb dX8_type_17 (lv_at hl 0 rfl) ?_
      refine lv_if_ne (tgt := 26) hx hb dX8_type_19 (by decide) (fun c_19 => ?_) (fun c_19 => ?_)
      · exact absurd rfl c_19
      · refine lv_iconst (v := nI 1) hx hb dX8_type_22 (by decide) ?_
        refine lv_goto (tgt := 64) hx hb dX8_type_23 (by decide) ?_
        refine cl_iF hw (rn_VF F hw (c_X8_refused g l md mfa mmz msz mnow mgr mmo mre msd mbg mky mli mrf mrn mka mta mwd mms mhs mke msa mkn mkb mku mhp mpa mpb mit mus mid mbe mla msi mtx mra (nI 1)) (cw_X8_227 F.2.2.2.2 ⟨by decide, by decide⟩)    0 rfl rfl rfl hl.1 rfl (Nat.le_of_ble_eq_true rfl) dX8_type_64 ⟨Nat.zero_le _, Nat.zero_le _⟩) (fun v_32 u_31 H locs hp_33 hw => ?_)
        subst hp_33
        replace hw : Wd g s A H locs (mX g md (nI 1) mmz msz mnow mgr mmo mre msd mbg mky mli mrf mrn mka mta mwd mms mhs mke msa mkn mkb mku mhp mpa mpb mit mus mid mbe mla msi mtx mra) := hw
        refine lv_if_eq (tgt := 72) hx hb dX8_type_67 (by decide) (fun c_67 => ?_) (fun c_67 => ?_)
        · exact absurd c_67 (by decide)
        · refine lv_iconst (v := nI 0) hx hb dX8_type_70 (by decide) ?_
          exact rt_i F hr hlk hQ hw ((nI 1), mtx, msi) (by first | exact Or.inr (Or.inr (Or.inr ⟨⟨c_1, c_6⟩, rfl⟩)) | exact Or.inr (Or.inr (Or.inl ⟨Or.inl ⟨rfl, by unfold mor; omega⟩, rfl⟩)) | exact Or.inr (Or.inr (Or.inl ⟨Or.inr ⟨rfl, by unfold mor; omega⟩, rfl⟩))) rfl dX8_type_71
    · refine lv_iconst (v := nI 1) hx hb dX8_type_9 (by decide) ?_
      refine lv_goto (tgt := 14) hx hb dX8_type_10 (by decide) ?_
      refine lv_istore (lv' := [(6, .int (nI 1)), (0, .ref (md 0)), (1, .int x), (2, .int pa), (3, .int pb), (4, .int pc), (5, .int pd)]) hx hb dX8_type_14 hl (by decide) rfl (fun ls hl => ?_)
      refine lv_aload_n hx hb dX8_type_16 rfl (lv_at hl 1 rfl) ?_
      refine lv_iload hx hb dX8_type_17 (lv_at hl 0 rfl) ?_
      refine lv_if_ne (tgt := 26) hx hb dX8_type_19 (by decide) (fun c_19 => ?_) (fun c_19 => ?_)
      · obtain rfl : x = nI 1 := c_6
        refine lv_aload_n hx hb dX8_type_26 rfl (lv_at hl 1 rfl) ?_
        refine gf_X8_157 F hw 0 rfl rfl dX8_type_27 ?_
        refine lv_iload_n hx hb dX8_type_30 rfl (lv_at hl 2 rfl) ?_
        refine ia_ld F hw 20 rfl (by omega) (by omega) dX8_type_31 ?_
        refine tp_i (y := nI s1) hs1 ?_
        refine lv_iload_n hx hb dX8_type_32 rfl (lv_at hl 3 rfl) ?_
        refine cl_i hw [] rfl (rn_S F hw (c_X8_many g l pa) (cw_X8_277 F.2.2.2.2 ⟨by decide, by decide⟩) [] (by decide) rfl hl.1 rfl (Nat.le_of_ble_eq_true rfl) dX8_type_33 ⟨Nat.zero_le _, Nat.zero_le _⟩) (fun _ => rfl) (fun v_35 u_34 H locs hp_36 hw => ?_)
        subst hp_36
        replace hw : Wd g s A H locs (mX g md mfa mmz msz mnow mgr mmo mre msd mbg mky mli mrf mrn mka mta mwd mms mhs mke msa mkn mkb mku mhp mpa mpb mit mus mid mbe mla msi mtx mra) := hw
        refine n_add hx hb dX8_type_36 ?_
        refine lv_iload_n hx hb dX8_type_37 rfl (lv_at hl 4 rfl) ?_
        refine cl_i hw [] rfl (rn_S F hw (c_X8_many g l pb) (cw_X8_277 F.2.2.2.2 ⟨by decide, by decide⟩) [] (by decide) rfl hl.1 rfl (Nat.le_of_ble_eq_true rfl) dX8_type_38 ⟨Nat.zero_le _, Nat.zero_le _⟩) (fun _ => rfl) (fun v_38 u_37 H locs hp_39 hw => ?_)
        subst hp_39
        replace hw : Wd g s A H locs (mX g md mfa mmz msz mnow mgr mmo mre msd mbg mky mli mrf mrn mka mta mwd mms mhs mke msa mkn mkb mku mhp mpa mpb mit mus mid mbe mla msi mtx mra) := hw
        refine n_add hx hb dX8_type_41 ?_
        refine lv_iload hx hb dX8_type_42 (lv_at hl 5 rfl) ?_
        refine cl_i hw [] rfl (rn_S F hw (c_X8_many g l pc) (cw_X8_277 F.2.2.2.2 ⟨by decide, by decide⟩) [] (by decide) rfl hl.1 rfl (Nat.le_of_ble_eq_true rfl) dX8_type_44 ⟨Nat.zero_le _, Nat.zero_le _⟩) (fun _ => rfl) (fun v_41 u_40 H locs hp_42 hw => ?_)
        subst hp_42
        replace hw : Wd g s A H locs (mX g md mfa mmz msz mnow mgr mmo mre msd mbg mky mli mrf mrn mka mta mwd mms mhs mke msa mkn mkb mku mhp mpa mpb mit mus mid mbe mla msi mtx mra) := hw
        refine n_add hx hb dX8_type_47 ?_
        refine lv_iload hx hb dX8_type_48 (lv_at hl 6 rfl) ?_
        refine cl_i hw [] rfl (rn_S F hw (c_X8_many g l pd) (cw_X8_277 F.2.2.2.2 ⟨by decide, by decide⟩) [] (by decide) rfl hl.1 rfl (Nat.le_of_ble_eq_true rfl) dX8_type_50 ⟨Nat.zero_le _, Nat.zero_le _⟩) (fun _ => rfl) (fun v_44 u_43 H locs hp_45 hw => ?_)
        subst hp_45
        replace hw : Wd g s A H locs (mX g md mfa mmz msz mnow mgr mmo mre msd mbg mky mli mrf mrn mka mta mwd mms mhs mke msa mkn mkb mku mhp mpa mpb mit mus mid mbe mla msi mtx mra) := hw
        refine n_add hx hb dX8_type_53 ?_
        refine lv_bipush (v := nI 40) hx hb dX8_type_54 (by decide) ?_
        refine n_le (tgt := 63) hx hb (by omega) (by omega) dX8_type_56 (by decide) (fun c_56 => ?_) (fun c_56 => ?_)
        · refine lv_iconst (v := nI 0) hx hb dX8_type_63 (by decide) ?_
          refine cl_iF hw (rn_VF F hw (c_X8_refused g l md mfa mmz msz mnow mgr mmo mre msd mbg mky mli mrf mrn mka mta mwd mms mhs mke msa mkn mkb mku mhp mpa mpb mit mus mid mbe mla msi mtx mra (nI 0)) (cw_X8_227 F.2.2.2.2 ⟨by decide, by decide⟩)    0 rfl rfl rfl hl.1 rfl (Nat.le_of_ble_eq_true rfl) dX8_type_64 ⟨Nat.zero_le _, Nat.zero_le _⟩) (fun v_47 u_46 H locs hp_48 hw => ?_)
          subst hp_48
          replace hw : Wd g s A H locs (mX g md (nI 0) mmz msz mnow mgr mmo mre msd mbg mky mli mrf mrn mka mta mwd mms mhs mke msa mkn mkb mku mhp mpa mpb mit mus mid mbe mla msi mtx mra) := hw
          refine lv_if_eq (tgt := 72) hx hb dX8_type_67 (by decide) (fun c_67 => ?_) (fun c_67 => ?_)
          · refine lv_aload_n hx hb dX8_type_72 rfl (lv_at hl 1 rfl) ?_
            refine lv_iload_n hx hb dX8_type_73 rfl (lv_at hl 2 rfl) ?_
            refine lv_iload_n hx hb dX8_type_74 rfl (lv_at hl 3 rfl) ?_
            refine lv_aload_n hx hb dX8_type_75 rfl (lv_at hl 1 rfl) ?_
            refine gf_X8_157 F hw 0 rfl rfl dX8_type_76 ?_
            refine lv_iload_n hx hb dX8_type_79 rfl (lv_at hl 2 rfl) ?_
            refine ia_ld F hw 20 rfl (by omega) (by omega) dX8_type_80 ?_
            refine tp_i (y := nI s1) hs1 ?_
            refine cl_iF hw (rn_VF F hw (c_X8_typed g l md (nI 0) mmz msz mnow mgr mmo mre msd mbg mky mli mrf mrn mka mta mwd mms mhs mke msa mkn mkb mku mhp mpa mpb mit mus mid mbe mla msi mtx mra 1 pa s1 (by omega) (by omega)) (cw_X8_280 F.2.2.2.2 ⟨by decide, by decide⟩)    0 rfl rfl rfl hl.1 rfl (Nat.le_of_ble_eq_true rfl) dX8_type_81 ⟨Nat.zero_le _, Nat.zero_le _⟩) (fun v_50 u_49 H locs hp_51 hw => ?_)
            subst hp_51
            replace hw : Wd g s A H locs (mX g md (nI 0) mmz msz mnow mgr mmo mre msd mbg mky mli mrf mrn mka mta mwd mms mhs mke msa mkn mkb mku mhp mpa mpb mit mus mid mbe mla msi ((adM pa (40 * 1) mtx s1 4).1) mra) := hw
            obtain ⟨t1, ht1⟩ : ∃ t : (Nat → Int32) × Nat, t = (adM pa (40 * 1) mtx s1 4) := ⟨_, rfl⟩
            rw [← ht1] at hw
            refine tp_i (y := nI t1.2) (by rw [ht1]) ?_
            have et1 : t1.2 = s1 + cntL (byO pa) 4 := by rw [ht1]; exact am_cnt _ _ _ _ 4
            refine lv_istore (lv' := [(7, .int (nI (t1.2))), (6, .int (nI 1)), (0, .ref (md 0)), (1, .int (nI 1)), (2, .int pa), (3, .int pb), (4, .int pc), (5, .int pd)]) hx hb dX8_type_84 hl (by decide) rfl (fun ls hl => ?_)
            refine lv_aload_n hx hb dX8_type_86 rfl (lv_at hl 2 rfl) ?_
            refine lv_iload_n hx hb dX8_type_87 rfl (lv_at hl 3 rfl) ?_
            refine lv_iload_n hx hb dX8_type_88 rfl (lv_at hl 5 rfl) ?_
            refine lv_iload hx hb dX8_type_89 (lv_at hl 0 rfl) ?_
            refine cl_iF hw (rn_VF F hw (c_X8_typed g l md (nI 0) mmz msz mnow mgr mmo mre msd mbg mky mli mrf mrn mka mta mwd mms mhs mke msa mkn mkb mku mhp mpa mpb mit mus mid mbe mla msi t1.1 mra 1 pb t1.2 (by omega) (by omega)) (cw_X8_280 F.2.2.2.2 ⟨by decide, by decide⟩)    0 rfl rfl rfl hl.1 rfl (Nat.le_of_ble_eq_true rfl) dX8_type_91 ⟨Nat.zero_le _, Nat.zero_le _⟩) (fun v_53 u_52 H locs hp_54 hw => ?_)
            subst hp_54
            replace hw : Wd g s A H locs (mX g md (nI 0) mmz msz mnow mgr mmo mre msd mbg mky mli mrf mrn mka mta mwd mms mhs mke msa mkn mkb mku mhp mpa mpb mit mus mid mbe mla msi ((adM pb (40 * 1) t1.1 t1.2 4).1) mra) := hw
            obtain ⟨t2, ht2⟩ : ∃ t : (Nat → Int32) × Nat, t = (adM pb (40 * 1) t1.1 t1.2 4) := ⟨_, rfl⟩
            rw [← ht2] at hw
            refine tp_i (y := nI t2.2) (by rw [ht2]) ?_
            have et2 : t2.2 = t1.2 + cntL (byO pb) 4 := by rw [ht2]; exact am_cnt _ _ _ _ 4
            refine lv_istore (lv' := [(7, .int (nI (t2.2))), (6, .int (nI 1)), (0, .ref (md 0)), (1, .int (nI 1)), (2, .int pa), (3, .int pb), (4, .int pc), (5, .int pd)]) hx hb dX8_type_94 hl (by decide) rfl (fun ls hl => ?_)
            refine lv_aload_n hx hb dX8_type_96 rfl (lv_at hl 2 rfl) ?_
            refine lv_iload_n hx hb dX8_type_97 rfl (lv_at hl 3 rfl) ?_
            refine lv_iload hx hb dX8_type_98 (lv_at hl 6 rfl) ?_
            refine lv_iload hx hb dX8_type_100 (lv_at hl 0 rfl) ?_
            refine cl_iF hw (rn_VF F hw (c_X8_typed g l md (nI 0) mmz msz mnow mgr mmo mre msd mbg mky mli mrf mrn mka mta mwd mms mhs mke msa mkn mkb mku mhp mpa mpb mit mus mid mbe mla msi t2.1 mra 1 pc t2.2 (by omega) (by omega)) (cw_X8_280 F.2.2.2.2 ⟨by decide, by decide⟩)    0 rfl rfl rfl hl.1 rfl (Nat.le_of_ble_eq_true rfl) dX8_type_102 ⟨Nat.zero_le _, Nat.zero_le _⟩) (fun v_56 u_55 H locs hp_57 hw => ?_)
            subst hp_57
            replace hw : Wd g s A H locs (mX g md (nI 0) mmz msz mnow mgr mmo mre msd mbg mky mli mrf mrn mka mta mwd mms mhs mke msa mkn mkb mku mhp mpa mpb mit mus mid mbe mla msi ((adM pc (40 * 1) t2.1 t2.2 4).1) mra) := hw
            obtain ⟨t3, ht3⟩ : ∃ t : (Nat → Int32) × Nat, t = (adM pc (40 * 1) t2.1 t2.2 4) := ⟨_, rfl⟩
            rw [← ht3] at hw
            refine tp_i (y := nI t3.2) (by rw [ht3]) ?_
            have et3 : t3.2 = t2.2 + cntL (byO pc) 4 := by rw [ht3]; exact am_cnt _ _ _ _ 4
            refine lv_istore (lv' := [(7, .int (nI (t3.2))), (6, .int (nI 1)), (0, .ref (md 0)), (1, .int (nI 1)), (2, .int pa), (3, .int pb), (4, .int pc), (5, .int pd)]) hx hb dX8_type_105 hl (by decide) rfl (fun ls hl => ?_)
            refine lv_aload_n hx hb dX8_type_107 rfl (lv_at hl 2 rfl) ?_
            refine lv_iload_n hx hb dX8_type_108 rfl (lv_at hl 3 rfl) ?_
            refine lv_iload hx hb dX8_type_109 (lv_at hl 7 rfl) ?_
            refine lv_iload hx hb dX8_type_111 (lv_at hl 0 rfl) ?_
            refine cl_iF hw (rn_VF F hw (c_X8_typed g l md (nI 0) mmz msz mnow mgr mmo mre msd mbg mky mli mrf mrn mka mta mwd mms mhs mke msa mkn mkb mku mhp mpa mpb mit mus mid mbe mla msi t3.1 mra 1 pd t3.2 (by omega) (by omega)) (cw_X8_280 F.2.2.2.2 ⟨by decide, by decide⟩)    0 rfl rfl rfl hl.1 rfl (Nat.le_of_ble_eq_true rfl) dX8_type_113 ⟨Nat.zero_le _, Nat.zero_le _⟩) (fun v_59 u_58 H locs hp_60 hw => ?_)
            subst hp_60
            replace hw : Wd g s A H locs (mX g md (nI 0) mmz msz mnow mgr mmo mre msd mbg mky mli mrf mrn mka mta mwd mms mhs mke msa mkn mkb mku mhp mpa mpb mit mus mid mbe mla msi ((adM pd (40 * 1) t3.1 t3.2 4).1) mra) := hw
            obtain ⟨t4, ht4⟩ : ∃ t : (Nat → Int32) × Nat, t = (adM pd (40 * 1) t3.1 t3.2 4) := ⟨_, rfl⟩
            rw [← ht4] at hw
            refine tp_i (y := nI t4.2) (by rw [ht4]) ?_
            have et4 : t4.2 = t3.2 + cntL (byO pd) 4 := by rw [ht4]; exact am_cnt _ _ _ _ 4
            refine lv_istore (lv' := [(7, .int (nI (t4.2))), (6, .int (nI 1)), (0, .ref (md 0)), (1, .int (nI 1)), (2, .int pa), (3, .int pb), (4, .int pc), (5, .int pd)]) hx hb dX8_type_116 hl (by decide) rfl (fun ls hl => ?_)
            refine lv_aload_n hx hb dX8_type_118 rfl (lv_at hl 2 rfl) ?_
            refine gf_X8_157 F hw 0 rfl rfl dX8_type_119 ?_
            refine lv_iload_n hx hb dX8_type_122 rfl (lv_at hl 3 rfl) ?_
            refine lv_iload hx hb dX8_type_123 (lv_at hl 0 rfl) ?_
            refine ia_st F hw 20 rfl (by omega) (by omega) dX8_type_125 (fun H locs hw => ?_)
            replace hw : Wd g s A H locs (mX g md (nI 0) mmz msz mnow mgr mmo mre msd mbg mky mli mrf mrn mka mta mwd mms mhs mke msa mkn mkb mku mhp mpa mpb mit mus mid mbe mla (upd msi 1 (nI (t4.2))) t4.1 mra) := hw
            refine lv_iload hx hb dX8_type_126 (lv_at hl 0 rfl) ?_
            exact rt_i F hr hlk hQ hw ((nI 0), t4.1, (upd msi 1 (nI (t4.2)))) (by first | exact Or.inl ⟨rfl, by unfold mor; omega, t4, (by rw [ht4, ht3, ht2, ht1]; rfl), rfl, rfl⟩ | exact Or.inr (Or.inl ⟨rfl, by unfold mor; omega, t4, (by rw [ht4, ht3, ht2, ht1]; rfl), rfl, rfl⟩)) rfl dX8_type_128
          · exact absurd (by decide) c_67
        · refine lv_iconst (v := nI 2) hx hb dX8_type_59 (by decide) ?_
          refine lv_goto (tgt := 64) hx hb dX8_type_60 (by decide) ?_
          refine cl_iF hw (rn_VF F hw (c_X8_refused g l md mfa mmz msz mnow mgr mmo mre msd mbg mky mli mrf mrn mka mta mwd mms mhs mke msa mkn mkb mku mhp mpa mpb mit mus mid mbe mla msi mtx mra (nI 2)) (cw_X8_227 F.2.2.2.2 ⟨by decide, by decide⟩)    0 rfl rfl rfl hl.1 rfl (Nat.le_of_ble_eq_true rfl) dX8_type_64 ⟨Nat.zero_le _, Nat.zero_le _⟩) (fun v_62 u_61 H locs hp_63 hw => ?_)
          subst hp_63
          replace hw : Wd g s A H locs (mX g md (nI 2) mmz msz mnow mgr mmo mre msd mbg mky mli mrf mrn mka mta mwd mms mhs mke msa mkn mkb mku mhp mpa mpb mit mus mid mbe mla msi mtx mra) := hw
          refine lv_if_eq (tgt := 72) hx hb dX8_type_67 (by decide) (fun c_67 => ?_) (fun c_67 => ?_)
          · exact absurd c_67 (by decide)
          · refine lv_iconst (v := nI 0) hx hb dX8_type_70 (by decide) ?_
            exact rt_i F hr hlk hQ hw ((nI 2), mtx, msi) (by first | exact Or.inr (Or.inr (Or.inr ⟨⟨c_1, c_6⟩, rfl⟩)) | exact Or.inr (Or.inr (Or.inl ⟨Or.inl ⟨rfl, by unfold mor; omega⟩, rfl⟩)) | exact Or.inr (Or.inr (Or.inl ⟨Or.inr ⟨rfl, by unfold mor; omega⟩, rfl⟩))) rfl dX8_type_71
      · exact absurd c_19 (by decide)
