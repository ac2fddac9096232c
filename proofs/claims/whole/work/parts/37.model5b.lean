theorem inB {z : Int32} : ¬ inI z.toInt64 1 255 = 0 ↔ (¬ z < nI 1 ∧ z ≤ nI 255) := by
  have e1 : (nI 1).toInt = 1 := rfl
  have e2 : (nI 255).toInt = 255 := rfl
  unfold inI
  by_cases h1 : z.toInt64 < 1
  · rw [if_pos h1]
    have := Int64.lt_iff_toInt_lt.mp h1
    rw [i64_t] at this
    constructor
    · intro h; exact absurd rfl h
    · intro h; exact absurd (Int32.lt_iff_toInt_lt.mpr (by rw [e1]; exact this)) h.1
  · rw [if_neg h1]
    have h3 := Int64.le_iff_toInt_le.mp (Int64.not_lt.mp h1)
    rw [i64_t] at h3
    by_cases h2 : (255 : Int64) < z.toInt64
    · rw [if_pos h2]
      have := Int64.lt_iff_toInt_lt.mp h2
      rw [i64_t] at this
      constructor
      · intro h; exact absurd rfl h
      · intro h
        have h5 := Int32.le_iff_toInt_le.mp h.2
        rw [e2] at h5
        have : (255 : Int) < z.toInt := this
        omega
    · rw [if_neg h2]
      have h4 := Int64.le_iff_toInt_le.mp (Int64.not_lt.mp h2)
      rw [i64_t] at h4
      refine ⟨fun _ => ⟨fun hh => ?_, Int32.le_iff_toInt_le.mpr (by rw [e2]; exact h4)⟩, fun _ => by decide⟩
      have h6 := Int32.lt_iff_toInt_lt.mp hh
      rw [e1] at h6
      have : (1 : Int) ≤ z.toInt := h3
      omega
set_option maxHeartbeats 4000000 in
set_option maxRecDepth 100000 in
theorem c_X8_put (g : GG) (l : Launch) (md : Nat → Nat) (mfa : Int32) (mmz : Nat) (msz : Nat) (mnow : Int64) (mgr : Int64) (mmo : Int64) (mre : Int64) (msd : Int64) (mbg : Int64) (mky : Nat) (mli : Int32) (mrf : Int32) (mrn : Int32) (mka : Int32) (mta : Nat → Int32) (mwd : Nat → Int32) (mms : Nat → Int32) (mhs : Nat → Int32) (mke : Nat → Int32) (msa : Nat → Int32) (mkn : Nat → Int32) (mkb : Nat → Int32) (mku : Nat → Int64) (mhp : Nat → Int32) (mpa : Nat → Int32) (mpb : Nat → Int32) (mit : Nat → Int32) (mus : Nat → Int32) (mid : Nat → Int64) (mbe : Nat → Int64) (mla : Nat → Int64) (msi : Nat → Int32) (mtx : Nat → Int32) (mra : Nat → Int32) (x : Int32) (y : Int32) (z : Int32) (s0 : Nat) (s1 : Nat) (hs0 : msi 0 = nI s0) (hs1 : msi 1 = nI s1) (hl0 : s0 ≤ 40) (hl1 : s1 ≤ 40) : Ct g l yX8_put cX8_put 6 (some .int) 1 25 [.ref (md 0), .int x, .int y, .int z] (mX g md mfa mmz msz mnow mgr mmo mre msd mbg mky mli mrf mrn mka mta mwd mms mhs mke msa mkn mkb mku mhp mpa mpb mit mus mid mbe mla msi mtx mra) (Ri g (fun (v : Int32) (u : Int32 × (Nat → Int32)) => (x = nI 0 ∧ ¬ inI z.toInt64 1 255 = 0 ∧ ∃ j, j < s0 ∧ y = nI j ∧ v = mtx j ∧ u = (nI 0, upd mtx j z)) ∨ (x = nI 1 ∧ ¬ inI z.toInt64 1 255 = 0 ∧ ∃ j, j < s1 ∧ y = nI j ∧ v = mtx (40 + j) ∧ u = (nI 0, upd mtx (40 + j) z)) ∨ (((x = nI 0 ∧ ¬ inI z.toInt64 1 255 = 0 ∧ ∀ j, j < s0 → ¬ y = nI j) ∨ (x = nI 1 ∧ ¬ inI z.toInt64 1 255 = 0 ∧ ∀ j, j < s1 → ¬ y = nI j)) ∧ u = (nI 2, mtx)) ∨ (((¬ x = nI 0 ∧ ¬ x = nI 1) ∨ inI z.toInt64 1 255 = 0) ∧ u = (nI 1, mtx))) (fun (u : Int32 × (Nat → Int32)) => (mX g md u.1 mmz msz mnow mgr mmo mre msd mbg mky mli mrf mrn mka mta mwd mms mhs mke msa mkn mkb mku mhp mpa mpb mit mus mid mbe mla msi u.2 mra))) := by
  refine mkC (by decide) (Nat.le_of_ble_eq_true rfl) ?_
  intro p e s m args below meth c A ls QQ F hr hlk hnm hQ hw hl
  have hx := F.1
  have hb := F.2.1
  replace hl : lv_has ls 6 [(0, .ref (md 0)), (1, .int x), (2, .int y), (3, .int z)] := hl
  refine lv_iload_n hx hb dX8_put_0 rfl (lv_at hl 1 rfl) ?_
  refine lv_if_eq (tgt := 9) hx hb dX8_put_1 (by decide) (fun c_1 => ?_) (fun c_1 => ?_)
  · refine lv_iload_n hx hb dX8_put_9 rfl (lv_at hl 3 rfl) ?_
    refine lv_i2l (v := (z).toInt64) hx hb dX8_put_10 rfl ?_
    refine lv_lconst (v := 1) hx hb dX8_put_11 (by decide) ?_
    refine lv_ldc2 hx hb F.2.2.2.1 (F.2.2.2.2 _ bg_19_5) dX8_put_12 ?_
    refine cl_i hw [] rfl (rn_S F hw (c_X8_isIn g l (z).toInt64 1 (255)) (cw_X8_223 F.2.2.2.2 ⟨by decide, by decide⟩) [] (by decide) rfl hl.1 rfl (Nat.le_of_ble_eq_true rfl) dX8_put_15 ⟨Nat.zero_le _, Nat.zero_le _⟩) (fun _ => rfl) (fun v_2 u_1 H locs hp_3 hw => ?_)
    subst hp_3
    replace hw : Wd g s A H locs (mX g md mfa mmz msz mnow mgr mmo mre msd mbg mky mli mrf mrn mka mta mwd mms mhs mke msa mkn mkb mku mhp mpa mpb mit mus mid mbe mla msi mtx mra) := hw
    refine lv_if_eq (tgt := 25) hx hb dX8_put_18 (by decide) (fun c_18 => ?_) (fun c_18 => ?_)
    · refine lv_iconst (v := nI 0) hx hb dX8_put_25 (by decide) ?_
      refine lv_istore (lv' := [(4, .int (nI 0)), (0, .ref (md 0)), (1, .int x), (2, .int y), (3, .int z)]) hx hb dX8_put_26 hl (by decide) rfl (fun ls hl => ?_)
      refine lv_aload_n hx hb dX8_put_28 rfl (lv_at hl 1 rfl) ?_
      refine lv_iload hx hb dX8_put_29 (lv_at hl 0 rfl) ?_
      refine lv_if_ne (tgt := 38) hx hb dX8_put_31 (by decide) (fun c_31 => ?_) (fun c_31 => ?_)
      · exact absurd rfl c_31
      · refine lv_iconst (v := nI 1) hx hb dX8_put_34 (by decide) ?_
        refine lv_goto (tgt := 61) hx hb dX8_put_35 (by decide) ?_
        refine cl_iF hw (rn_VF F hw (c_X8_refused g l md mfa mmz msz mnow mgr mmo mre msd mbg mky mli mrf mrn mka mta mwd mms mhs mke msa mkn mkb mku mhp mpa mpb mit mus mid mbe mla msi mtx mra (nI 1)) (cw_X8_227 F.2.2.2.2 ⟨by decide, by decide⟩)    0 rfl rfl rfl hl.1 rfl (Nat.le_of_ble_eq_true rfl) dX8_put_61 ⟨Nat.zero_le _, Nat.zero_le _⟩) (fun v_5 u_4 H locs hp_6 hw => ?_)
        subst hp_6
        replace hw : Wd g s A H locs (mX g md (nI 1) mmz msz mnow mgr mmo mre msd mbg mky mli mrf mrn mka mta mwd mms mhs mke msa mkn mkb mku mhp mpa mpb mit mus mid mbe mla msi mtx mra) := hw
        refine lv_if_eq (tgt := 69) hx hb dX8_put_64 (by decide) (fun c_64 => ?_) (fun c_64 => ?_)
        · exact absurd c_64 (by decide)
        · refine lv_iconst (v := nI 0) hx hb dX8_put_67 (by decide) ?_
          exact rt_i F hr hlk hQ hw ((nI 1), mtx) (by first | exact Or.inr (Or.inr (Or.inr ⟨Or.inl ⟨c_1, c_6⟩, rfl⟩)) | exact Or.inr (Or.inr (Or.inr ⟨Or.inr c_18, rfl⟩)) | exact Or.inr (Or.inr (Or.inl ⟨Or.inl ⟨rfl, c_18, inSz hl0 c_53⟩, rfl⟩)) | exact Or.inr (Or.inr (Or.inl ⟨Or.inr ⟨rfl, c_18, inSz hl1 c_53⟩, rfl⟩))) rfl dX8_put_68
    · refine lv_iconst (v := nI 1) hx hb dX8_put_21 (by decide) ?_
      refine lv_goto (tgt := 26) hx hb dX8_put_22 (by decide) ?_
      refine lv_istore (lv' := [(4, .int (nI 1)), (0, .ref (md 0)), (1, .int x), (2, .int y), (3, .int z)]) hx hb dX8_put_26 hl (by decide) rfl (fun ls hl => ?_)
      refine lv_aload_n hx hb dX8_put_28 rfl (lv_at hl 1 rfl) ?_
      refine lv_iload hx hb dX8_put_29 (lv_at hl 0 rfl) ?_
      refine lv_if_ne (tgt := 38) hx hb dX8_put_31 (by decide) (fun c_31 => ?_) (fun c_31 => ?_)
      · obtain rfl : x = nI 0 := c_1
        refine lv_iload_n hx hb dX8_put_38 rfl (lv_at hl 3 rfl) ?_
        refine lv_i2l (v := (y).toInt64) hx hb dX8_put_39 rfl ?_
        refine lv_lconst (v := 0) hx hb dX8_put_40 (by decide) ?_
        refine lv_aload_n hx hb dX8_put_41 rfl (lv_at hl 1 rfl) ?_
        refine gf_X8_157 F hw 0 rfl rfl dX8_put_42 ?_
        refine lv_iload_n hx hb dX8_put_45 rfl (lv_at hl 2 rfl) ?_
        refine ia_ld F hw 20 rfl (by omega) (by omega) dX8_put_46 ?_
        refine tp_i (y := nI s0) hs0 ?_
        refine lv_iconst (v := nI 1) hx hb dX8_put_47 (by decide) ?_
        refine lv_isub hx hb dX8_put_48 ?_
        refine lv_i2l (v := (((nI s0) - (nI 1))).toInt64) hx hb dX8_put_49 rfl ?_
        refine cl_i hw [] rfl (rn_S F hw (c_X8_isIn g l (y).toInt64 0 ((((nI s0) - (nI 1))).toInt64)) (cw_X8_223 F.2.2.2.2 ⟨by decide, by decide⟩) [] (by decide) rfl hl.1 rfl (Nat.le_of_ble_eq_true rfl) dX8_put_50 ⟨Nat.zero_le _, Nat.zero_le _⟩) (fun _ => rfl) (fun v_8 u_7 H locs hp_9 hw => ?_)
        subst hp_9
        replace hw : Wd g s A H locs (mX g md mfa mmz msz mnow mgr mmo mre msd mbg mky mli mrf mrn mka mta mwd mms mhs mke msa mkn mkb mku mhp mpa mpb mit mus mid mbe mla msi mtx mra) := hw
        refine lv_if_ne (tgt := 60) hx hb dX8_put_53 (by decide) (fun c_53 => ?_) (fun c_53 => ?_)
        · refine lv_iconst (v := nI 0) hx hb dX8_put_60 (by decide) ?_
          refine cl_iF hw (rn_VF F hw (c_X8_refused g l md mfa mmz msz mnow mgr mmo mre msd mbg mky mli mrf mrn mka mta mwd mms mhs mke msa mkn mkb mku mhp mpa mpb mit mus mid mbe mla msi mtx mra (nI 0)) (cw_X8_227 F.2.2.2.2 ⟨by decide, by decide⟩)    0 rfl rfl rfl hl.1 rfl (Nat.le_of_ble_eq_true rfl) dX8_put_61 ⟨Nat.zero_le _, Nat.zero_le _⟩) (fun v_11 u_10 H locs hp_12 hw => ?_)
          subst hp_12
          replace hw : Wd g s A H locs (mX g md (nI 0) mmz msz mnow mgr mmo mre msd mbg mky mli mrf mrn mka mta mwd mms mhs mke msa mkn mkb mku mhp mpa mpb mit mus mid mbe mla msi mtx mra) := hw
          refine lv_if_eq (tgt := 69) hx hb dX8_put_64 (by decide) (fun c_64 => ?_) (fun c_64 => ?_)
          · obtain ⟨j, hj, rfl⟩ := inS hl0 c_53
            refine lv_aload_n hx hb dX8_put_69 rfl (lv_at hl 1 rfl) ?_
            refine gf_X8_160 F hw 0 rfl rfl dX8_put_70 ?_
            refine lv_bipush (v := nI 40) hx hb dX8_put_73 (by decide) ?_
            refine lv_iload_n hx hb dX8_put_75 rfl (lv_at hl 2 rfl) ?_
            refine n_mul hx hb dX8_put_76 ?_
            refine lv_iload_n hx hb dX8_put_77 rfl (lv_at hl 3 rfl) ?_
            refine n_add hx hb dX8_put_78 ?_
            refine ia_ld F hw 21 rfl (by omega) (by omega) dX8_put_79 ?_
            refine lv_istore (lv' := [(5, .int ((mtx ((40 * 0) + j)))), (4, .int (nI 1)), (0, .ref (md 0)), (1, .int (nI 0)), (2, .int (nI j)), (3, .int z)]) hx hb dX8_put_80 hl (by decide) rfl (fun ls hl => ?_)
            refine lv_aload_n hx hb dX8_put_82 rfl (lv_at hl 2 rfl) ?_
            refine gf_X8_160 F hw 0 rfl rfl dX8_put_83 ?_
            refine lv_bipush (v := nI 40) hx hb dX8_put_86 (by decide) ?_
            refine lv_iload_n hx hb dX8_put_88 rfl (lv_at hl 3 rfl) ?_
            refine n_mul hx hb dX8_put_89 ?_
            refine lv_iload_n hx hb dX8_put_90 rfl (lv_at hl 4 rfl) ?_
            refine n_add hx hb dX8_put_91 ?_
            refine lv_iload_n hx hb dX8_put_92 rfl (lv_at hl 5 rfl) ?_
            refine ia_st F hw 21 rfl (by omega) (by omega) dX8_put_93 (fun H locs hw => ?_)
            replace hw : Wd g s A H locs (mX g md (nI 0) mmz msz mnow mgr mmo mre msd mbg mky mli mrf mrn mka mta mwd mms mhs mke msa mkn mkb mku mhp mpa mpb mit mus mid mbe mla msi (upd mtx ((40 * 0) + j) z) mra) := hw
            refine lv_iload hx hb dX8_put_94 (lv_at hl 0 rfl) ?_
            exact rt_i F hr hlk hQ hw ((nI 0), (upd mtx ((40 * 0) + j) z)) (by first | exact Or.inl ⟨rfl, c_18, j, hj, rfl, by rw [z40], by rw [z40]⟩ | exact Or.inr (Or.inl ⟨rfl, c_18, j, hj, rfl, rfl, rfl⟩)) rfl dX8_put_96
          · exact absurd (by decide) c_64
        · refine lv_iconst (v := nI 2) hx hb dX8_put_56 (by decide) ?_
          refine lv_goto (tgt := 61) hx hb dX8_put_57 (by decide) ?_
          refine cl_iF hw (rn_VF F hw (c_X8_refused g l md mfa mmz msz mnow mgr mmo mre msd mbg mky mli mrf mrn mka mta mwd mms mhs mke msa mkn mkb mku mhp mpa mpb mit mus mid mbe mla msi mtx mra (nI 2)) (cw_X8_227 F.2.2.2.2 ⟨by decide, by decide⟩)    0 rfl rfl rfl hl.1 rfl (Nat.le_of_ble_eq_true rfl) dX8_put_61 ⟨Nat.zero_le _, Nat.zero_le _⟩) (fun v_14 u_13 H locs hp_15 hw => ?_)
          subst hp_15
          replace hw : Wd g s A H locs (mX g md (nI 2) mmz msz mnow mgr mmo mre msd mbg mky mli mrf mrn mka mta mwd mms mhs mke msa mkn mkb mku mhp mpa mpb mit mus mid mbe mla msi mtx mra) := hw
          refine lv_if_eq (tgt := 69) hx hb dX8_put_64 (by decide) (fun c_64 => ?_) (fun c_64 => ?_)
          · exact absurd c_64 (by decide)
          · refine lv_iconst (v := nI 0) hx hb dX8_put_67 (by decide) ?_
            exact rt_i F hr hlk hQ hw ((nI 2), mtx) (by first | exact Or.inr (Or.inr (Or.inr ⟨Or.inl ⟨c_1, c_6⟩, rfl⟩)) | exact Or.inr (Or.inr (Or.inr ⟨Or.inr c_18, rfl⟩)) | exact Or.inr (Or.inr (Or.inl ⟨Or.inl ⟨rfl, c_18, inSz hl0 c_53⟩, rfl⟩)) | exact Or.inr (Or.inr (Or.inl ⟨Or.inr ⟨rfl, c_18, inSz hl1 c_53⟩, rfl⟩))) rfl dX8_put_68
      · exact absurd c_31 (by decide)
  · refine lv_iload_n hx hb dX8_put_4 rfl (lv_at hl 1 rfl) ?_
    refine lv_iconst (v := nI 1) hx hb dX8_put_5 (by decide) ?_
    refine lv_icmp_ne (tgt := 25) hx hb dX8_put_6 (by decide) (fun c_6 => ?_) (fun c_6 => ?_)
    · refine lv_iconst (v := nI 0) hx hb dX8_put_25 (by decide) ?_
      refine lv_istore (lv' := [(4, .int (nI 0)), (0, .ref (md 0)), (1, .int x), (2, .int y), (3, .int z)]) hx hb dX8_put_26 hl (by decide) rfl (fun ls hl => ?_)
      refine lv_aload_n hx hb dX8_put_28 rfl (lv_at hl 1 rfl) ?_
      refine lv_iload hx hb dX8_put_29 (lv_at hl 0 rfl) ?_
      refine lv_if_ne (tgt := 38) hx hb dX8_put_31 (by decide) (fun c_31 => ?_) (fun c_31 => ?_)
      · exact absurd rfl c_31
      · refine lv_iconst (v := nI 1) hx hb dX8_put_34 (by decide) ?_
        refine lv_goto (tgt := 61) hx hb dX8_put_35 (by decide) ?_
        refine cl_iF hw (rn_VF F hw (c_X8_refused g l md mfa mmz msz mnow mgr mmo mre msd mbg mky mli mrf mrn mka mta mwd mms mhs mke msa mkn mkb mku mhp mpa mpb mit mus mid mbe mla msi mtx mra (nI 1)) (cw_X8_227 F.2.2.2.2 ⟨by decide, by decide⟩)    0 rfl rfl rfl hl.1 rfl (Nat.le_of_ble_eq_true rfl) dX8_put_61 ⟨Nat.zero_le _, Nat.zero_le _⟩) (fun v_17 u_16 H locs hp_18 hw => ?_)
        subst hp_18
        replace hw : Wd g s A H locs (mX g md (nI 1) mmz msz mnow mgr mmo mre msd mbg mky mli mrf mrn mka mta mwd mms mhs mke msa mkn mkb mku mhp mpa mpb mit mus mid mbe mla msi mtx mra) := hw
        refine lv_if_eq (tgt := 69) hx hb dX8_put_64 (by decide) (fun c_64 => ?_) (fun c_64 => ?_)
        · exact absurd c_64 (by decide)
        · refine lv_iconst (v := nI 0) hx hb dX8_put_67 (by decide) ?_
          exact rt_i F hr hlk hQ hw ((nI 1), mtx) (by first | exact Or.inr (Or.inr (Or.inr ⟨Or.inl ⟨c_1, c_6⟩, rfl⟩)) | exact Or.inr (Or.inr (Or.inr ⟨Or.inr c_18, rfl⟩)) | exact Or.inr (Or.inr (Or.inl ⟨Or.inl ⟨rfl, c_18, inSz hl0 c_53⟩, rfl⟩)) | exact Or.inr (Or.inr (Or.inl ⟨Or.inr ⟨rfl, c_18, inSz hl1 c_53⟩, rfl⟩))) rfl dX8_put_68
    · refine lv_iload_n hx hb dX8_put_9 rfl (lv_at hl 3 rfl) ?_
      refine lv_i2l (v := (z).toInt64) hx hb dX8_put_10 rfl ?_
      refine lv_lconst (v := 1) hx hb dX8_put_11 (by decide) ?_
      refine lv_ldc2 hx hb F.2.2.2.1 (F.2.2.2.2 _ bg_19_5) dX8_put_12 ?_
      refine cl_i hw [] rfl (rn_S F hw (c_X8_isIn g l (z).toInt64 1 (255)) (cw_X8_223 F.2.2.2.2 ⟨by decide, by decide⟩) [] (by decide) rfl hl.1 rfl (Nat.le_of_ble_eq_true rfl) dX8_put_15 ⟨Nat.zero_le _, Nat.zero_le _⟩) (fun _ => rfl) (fun v_20 u_19 H locs hp_21 hw => ?_)
      subst hp_21
      replace hw : Wd g s A H locs (mX g md mfa mmz msz mnow mgr mmo mre msd mbg mky mli mrf mrn mka mta mwd mms mhs mke msa mkn mkb mku mhp mpa mpb mit mus mid mbe mla msi mtx mra) := hw
      refine lv_if_eq (tgt := 25) hx hb dX8_put_18 (by decide) (fun c_18 => ?_) (fun c_18 => ?_)
      · refine lv_iconst (v := nI 0) hx hb dX8_put_25 (by decide) ?_
        refine lv_istore (lv' := [(4, .int (nI 0)), (0, .ref (md 0)), (1, .int x), (2, .int y), (3, .int z)]) hx hb dX8_put_26 hl (by decide) rfl (fun ls hl => ?_)
        refine lv_aload_n hx hb dX8_put_28 rfl (lv_at hl 1 rfl) ?_
        refine lv_iload hx hb dX8_put_29 (lv_at hl 0 rfl) ?_
        refine lv_if_ne (tgt := 38) hx hb dX8_put_31 (by decide) (fun c_31 => ?_) (fun c_31 => ?_)
        · exact absurd rfl c_31
        · refine lv_iconst (v := nI 1) hx hb dX8_put_34 (by decide) ?_
          refine lv_goto (tgt := 61) hx hb dX8_put_35 (by decide) ?_
          refine cl_iF hw (rn_VF F hw (c_X8_refused g l md mfa mmz msz mnow mgr mmo mre msd mbg mky mli mrf mrn mka mta mwd mms mhs mke msa mkn mkb mku mhp mpa mpb mit mus mid mbe mla msi mtx mra (nI 1)) (cw_X8_227 F.2.2.2.2 ⟨by decide, by decide⟩)    0 rfl rfl rfl hl.1 rfl (Nat.le_of_ble_eq_true rfl) dX8_put_61 ⟨Nat.zero_le _, Nat.zero_le _⟩) (fun v_23 u_22 H locs hp_24 hw => ?_)
          subst hp_24
          replace hw : Wd g s A H locs (mX g md (nI 1) mmz msz mnow mgr mmo mre msd mbg mky mli mrf mrn mka mta mwd mms mhs mke msa mkn mkb mku mhp mpa mpb mit mus mid mbe mla msi mtx mra) := hw
          refine lv_if_eq (tgt := 69) hx hb dX8_put_64 (by decide) (fun c_64 => ?_) (fun c_64 => ?_)
          · exact absurd c_64 (by decide)
          · refine lv_iconst (v := nI 0) hx hb dX8_put_67 (by decide) ?_
            exact rt_i F hr hlk hQ hw ((nI 1), mtx) (by first | exact Or.inr (Or.inr (Or.inr ⟨Or.inl ⟨c_1, c_6⟩, rfl⟩)) | exact Or.inr (Or.inr (Or.inr ⟨Or.inr c_18, rfl⟩)) | exact Or.inr (Or.inr (Or.inl ⟨Or.inl ⟨rfl, c_18, inSz hl0 c_53⟩, rfl⟩)) | exact Or.inr (Or.inr (Or.inl ⟨Or.inr ⟨rfl, c_18, inSz hl1 c_53⟩, rfl⟩))) rfl dX8_put_68
      · refine lv_iconst (v := nI 1) hx hb dX8_put_21 (by decide) ?_
        refine lv_goto (tgt := 26) hx hb dX8_put_22 (by decide) ?_
        refine lv_istore (lv' := [(4, .int (nI 1)), (0, .ref (md 0)), (1, .int x), (2, .int y), (3, .int z)]) hx hb dX8_put_26 hl (by decide) rfl (fun ls hl => ?_)
        refine lv_aload_n hx hb dX8_put_28 rfl (lv_at hl 1 rfl) ?_
        refine lv_iload hx hb dX8_put_29 (lv_at hl 0 rfl) ?_
        refine lv_if_ne (tgt := 38) hx hb dX8_put_31 (by decide) (fun c_31 => ?_) (fun c_31 => ?_)
        · obtain rfl : x = nI 1 := c_6
          refine lv_iload_n hx hb dX8_put_38 rfl (lv_at hl 3 rfl) ?_
          refine lv_i2l (v := (y).toInt64) hx hb dX8_put_39 rfl ?_
          refine lv_lconst (v := 0) hx hb dX8_put_40 (by decide) ?_
          refine lv_aload_n hx hb dX8_put_41 rfl (lv_at hl 1 rfl) ?_
          refine gf_X8_157 F hw 0 rfl rfl dX8_put_42 ?_
          refine lv_iload_n hx hb dX8_put_45 rfl (lv_at hl 2 rfl) ?_
          refine ia_ld F hw 20 rfl (by omega) (by omega) dX8_put_46 ?_
          refine tp_i (y := nI s1) hs1 ?_
          refine lv_iconst (v := nI 1) hx hb dX8_put_47 (by decide) ?_
          refine lv_isub hx hb dX8_put_48 ?_
          refine lv_i2l (v := (((nI s1) - (nI 1))).toInt64) hx hb dX8_put_49 rfl ?_
          refine cl_i hw [] rfl (rn_S F hw (c_X8_isIn g l (y).toInt64 0 ((((nI s1) - (nI 1))).toInt64)) (cw_X8_223 F.2.2.2.2 ⟨by decide, by decide⟩) [] (by decide) rfl hl.1 rfl (Nat.le_of_ble_eq_true rfl) dX8_put_50 ⟨Nat.zero_le _, Nat.zero_le _⟩) (fun _ => rfl) (fun v_26 u_25 H locs hp_27 hw => ?_)
          subst hp_27
          replace hw : Wd g s A H locs (mX g md mfa mmz msz mnow mgr mmo mre msd mbg mky mli mrf mrn mka mta mwd mms mhs mke msa mkn mkb mku mhp mpa mpb mit mus mid mbe mla msi mtx mra) := hw
          refine lv_if_ne (tgt := 60) hx hb dX8_put_53 (by decide) (fun c_53 => ?_) (fun c_53 => ?_)
          · refine lv_iconst (v := nI 0) hx hb dX8_put_60 (by decide) ?_
            refine cl_iF hw (rn_VF F hw (c_X8_refused g l md mfa mmz msz mnow mgr mmo mre msd mbg mky mli mrf mrn mka mta mwd mms mhs mke msa mkn mkb mku mhp mpa mpb mit mus mid mbe mla msi mtx mra (nI 0)) (cw_X8_227 F.2.2.2.2 ⟨by decide, by decide⟩)    0 rfl rfl rfl hl.1 rfl (Nat.le_of_ble_eq_true rfl) dX8_put_61 ⟨Nat.zero_le _, Nat.zero_le _⟩) (fun v_29 u_28 H locs hp_30 hw => ?_)
            subst hp_30
            replace hw : Wd g s A H locs (mX g md (nI 0) mmz msz mnow mgr mmo mre msd mbg mky mli mrf mrn mka mta mwd mms mhs mke msa mkn mkb mku mhp mpa mpb mit mus mid mbe mla msi mtx mra) := hw
            refine lv_if_eq (tgt := 69) hx hb dX8_put_64 (by decide) (fun c_64 => ?_) (fun c_64 => ?_)
            · obtain ⟨j, hj, rfl⟩ := inS hl1 c_53
              refine lv_aload_n hx hb dX8_put_69 rfl (lv_at hl 1 rfl) ?_
              refine gf_X8_160 F hw 0 rfl rfl dX8_put_70 ?_
              refine lv_bipush (v := nI 40) hx hb dX8_put_73 (by decide) ?_
              refine lv_iload_n hx hb dX8_put_75 rfl (lv_at hl 2 rfl) ?_
              refine n_mul hx hb dX8_put_76 ?_
              refine lv_iload_n hx hb dX8_put_77 rfl (lv_at hl 3 rfl) ?_
              refine n_add hx hb dX8_put_78 ?_
              refine ia_ld F hw 21 rfl (by omega) (by omega) dX8_put_79 ?_
              refine lv_istore (lv' := [(5, .int ((mtx ((40 * 1) + j)))), (4, .int (nI 1)), (0, .ref (md 0)), (1, .int (nI 1)), (2, .int (nI j)), (3, .int z)]) hx hb dX8_put_80 hl (by decide) rfl (fun ls hl => ?_)
              refine lv_aload_n hx hb dX8_put_82 rfl (lv_at hl 2 rfl) ?_
              refine gf_X8_160 F hw 0 rfl rfl dX8_put_83 ?_
              refine lv_bipush (v := nI 40) hx hb dX8_put_86 (by decide) ?_
              refine lv_iload_n hx hb dX8_put_88 rfl (lv_at hl 3 rfl) ?_
              refine n_mul hx hb dX8_put_89 ?_
              refine lv_iload_n hx hb dX8_put_90 rfl (lv_at hl 4 rfl) ?_
              refine n_add hx hb dX8_put_91 ?_
              refine lv_iload_n hx hb dX8_put_92 rfl (lv_at hl 5 rfl) ?_
              refine ia_st F hw 21 rfl (by omega) (by omega) dX8_put_93 (fun H locs hw => ?_)
              replace hw : Wd g s A H locs (mX g md (nI 0) mmz msz mnow mgr mmo mre msd mbg mky mli mrf mrn mka mta mwd mms mhs mke msa mkn mkb mku mhp mpa mpb mit mus mid mbe mla msi (upd mtx ((40 * 1) + j) z) mra) := hw
              refine lv_iload hx hb dX8_put_94 (lv_at hl 0 rfl) ?_
              exact rt_i F hr hlk hQ hw ((nI 0), (upd mtx ((40 * 1) + j) z)) (by first | exact Or.inl ⟨rfl, c_18, j, hj, rfl, by rw [z40], by rw [z40]⟩ | exact Or.inr (Or.inl ⟨rfl, c_18, j, hj, rfl, rfl, rfl⟩)) rfl dX8_put_96
            · exact absurd (by decide) c_64
          · refine lv_iconst (v := nI 2) hx hb dX8_put_56 (by decide) ?_
            refine lv_goto (tgt := 61) hx hb dX8_put_57 (by decide) ?_
            refine cl_iF hw (rn_VF F hw (c_X8_refused g l md mfa mmz msz mnow mgr mmo mre msd mbg mky mli mrf mrn mka mta mwd mms mhs mke msa mkn mkb mku mhp mpa mpb mit mus mid mbe mla msi mtx mra (nI 2)) (cw_X8_227 F.2.2.2.2 ⟨by decide, by decide⟩)    0 rfl rfl rfl hl.1 rfl (Nat.le_of_ble_eq_true rfl) dX8_put_61 ⟨Nat.zero_le _, Nat.zero_le _⟩) (fun v_32 u_31 H locs hp_33 hw => ?_)
            subst hp_33
            replace hw : Wd g s A H locs (mX g md (nI 2) mmz msz mnow mgr mmo mre msd mbg mky mli mrf mrn mka mta mwd mms mhs mke msa mkn mkb mku mhp mpa mpb mit mus mid mbe mla msi mtx mra) := hw
            refine lv_if_eq (tgt := 69) hx hb dX8_put_64 (by decide) (fun c_64 => ?_) (fun c_64 => ?_)
            · exact absurd c_64 (by decide)
            · refine lv_iconst (v := nI 0) hx hb dX8_put_67 (by decide) ?_
              exact rt_i F hr hlk hQ hw ((nI 2), mtx) (by first | exact Or.inr (Or.inr (Or.inr ⟨Or.inl ⟨c_1, c_6⟩, rfl⟩)) | exact Or.inr (Or.inr (Or.inr ⟨Or.inr c_18, rfl⟩)) | exact Or.inr (Or.inr (Or.inl ⟨Or.inl ⟨rfl, c_18, inSz hl0 c_53⟩, rfl⟩)) | exact Or.inr (Or.inr (Or.inl ⟨Or.inr ⟨rfl, c_18, inSz hl1 c_53⟩, rfl⟩))) rfl dX8_put_68
        · exact absurd c_31 (by decide)
