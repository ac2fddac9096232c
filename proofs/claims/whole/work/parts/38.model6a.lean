theorem inR {x : Int32} {n : Nat} (hn : n < 2 ^ 31) (h : ¬ inI x.toInt64 0 (lN n) = 0) : ∃ k, k ≤ n ∧ x = nI k := by
  obtain ⟨h1, h2⟩ := inI_0.mp h
  rw [lN_toInt hn] at h2
  have h3 : ¬ x < 0 := fun hh => by
    have := Int32.lt_iff_toInt_lt.mp hh
    simp at this
    omega
  obtain ⟨j, hj, rfl⟩ := nI_of h3
  rw [nI_toInt hj] at h2
  exact ⟨j, by omega, rfl⟩
theorem inRz {x : Int32} {n : Nat} (hn : n < 2 ^ 31) (h : inI x.toInt64 0 (lN n) = 0) : ∀ k, k ≤ n → ¬ x = nI k := by
  intro k hk e
  subst e
  refine absurd h (inI_0.mpr ⟨?_, ?_⟩)
  · rw [nI_toInt (by omega)]; omega
  · rw [nI_toInt (by omega), lN_toInt hn]; omega
theorem in4 {x : Int32} (h : ¬ inI x.toInt64 0 3 = 0) : x = nI 0 ∨ x = nI 1 ∨ x = nI 2 ∨ x = nI 3 := by
  obtain ⟨j, hj, rfl⟩ := inR (n := 3) (by decide) h
  rcases (show j = 0 ∨ j = 1 ∨ j = 2 ∨ j = 3 by omega) with rfl | rfl | rfl | rfl
  · exact Or.inl rfl
  · exact Or.inr (Or.inl rfl)
  · exact Or.inr (Or.inr (Or.inl rfl))
  · exact Or.inr (Or.inr (Or.inr rfl))
theorem in7 {x : Int32} (h : ¬ inI x.toInt64 0 6 = 0) : x = nI 0 ∨ x = nI 1 ∨ x = nI 2 ∨ x = nI 3 ∨ x = nI 4 ∨ x = nI 5 ∨ x = nI 6 := by
  obtain ⟨j, hj, rfl⟩ := inR (n := 6) (by decide) h
  rcases (show j = 0 ∨ j = 1 ∨ j = 2 ∨ j = 3 ∨ j = 4 ∨ j = 5 ∨ j = 6 by omega) with rfl | rfl | rfl | rfl | rfl | rfl | rfl <;> simp
set_option maxHeartbeats 4000000 in
set_option maxRecDepth 100000 in
theorem c_X8_session (g : GG) (l : Launch) (md : Nat → Nat) (mfa : Int32) (mmz : Nat) (msz : Nat) (mnow : Int64) (mgr : Int64) (mmo : Int64) (mre : Int64) (msd : Int64) (mbg : Int64) (mky : Nat) (mli : Int32) (mrf : Int32) (mrn : Int32) (mka : Int32) (mta : Nat → Int32) (mwd : Nat → Int32) (mms : Nat → Int32) (mhs : Nat → Int32) (mke : Nat → Int32) (msa : Nat → Int32) (mkn : Nat → Int32) (mkb : Nat → Int32) (mku : Nat → Int64) (mhp : Nat → Int32) (mpa : Nat → Int32) (mpb : Nat → Int32) (mit : Nat → Int32) (mus : Nat → Int32) (mid : Nat → Int64) (mbe : Nat → Int64) (mla : Nat → Int64) (msi : Nat → Int32) (mtx : Nat → Int32) (mra : Nat → Int32) (x : Int32) (y : Int32) : Ct g l yX8_session cX8_session 3 (some .long) 1 25 [.ref (md 0), .int x, .int y] (mX g md mfa mmz msz mnow mgr mmo mre msd mbg mky mli mrf mrn mka mta mwd mms mhs mke msa mkn mkb mku mhp mpa mpb mit mus mid mbe mla msi mtx mra) (Rl g (fun (v : Int64) (u : Int32) => (∃ k w, k < 8 ∧ w < 4 ∧ x = nI k ∧ y = nI w ∧ v = sesV (mit k) (mus k) (mid k) (mbe k) (mla k) w ∧ u = nI 0) ∨ (((∀ k, k < 8 → ¬ x = nI k) ∨ (∀ w, w ≤ 3 → ¬ y = nI w)) ∧ u = nI 1)) (fun (u : Int32) => (mX g md u mmz msz mnow mgr mmo mre msd mbg mky mli mrf mrn mka mta mwd mms mhs mke msa mkn mkb mku mhp mpa mpb mit mus mid mbe mla msi mtx mra))) := by
  refine mkC (by decide) (Nat.le_of_ble_eq_true rfl) ?_
  intro p e s m args below meth c A ls QQ F hr hlk hnm hQ hw hl
  have hx := F.1
  have hb := F.2.1
  replace hl : lv_has ls 3 [(0, .ref (md 0)), (1, .int x), (2, .int y)] := hl
  refine lv_aload_n hx hb dX8_session_0 rfl (lv_at hl 0 rfl) ?_
  refine lv_iload_n hx hb dX8_session_1 rfl (lv_at hl 1 rfl) ?_
  refine lv_i2l (v := (x).toInt64) hx hb dX8_session_2 rfl ?_
  refine lv_lconst (v := 0) hx hb dX8_session_3 (by decide) ?_
  refine lv_ldc2 hx hb F.2.2.2.1 (F.2.2.2.2 _ bg_13_7) dX8_session_4 ?_
  refine cl_i hw [] rfl (rn_S F hw (c_X8_isIn g l (x).toInt64 0 (7)) (cw_X8_223 F.2.2.2.2 ⟨by decide, by decide⟩) [] (by decide) rfl hl.1 rfl (Nat.le_of_ble_eq_true rfl) dX8_session_7 ⟨Nat.zero_le _, Nat.zero_le _⟩) (fun _ => rfl) (fun v_2 u_1 H locs hp_3 hw => ?_)
  subst hp_3
  replace hw : Wd g s A H locs (mX g md mfa mmz msz mnow mgr mmo mre msd mbg mky mli mrf mrn mka mta mwd mms mhs mke msa mkn mkb mku mhp mpa mpb mit mus mid mbe mla msi mtx mra) := hw
  refine lv_if_eq (tgt := 29) hx hb dX8_session_10 (by decide) (fun c_10 => ?_) (fun c_10 => ?_)
  · refine lv_iconst (v := nI 1) hx hb dX8_session_29 (by decide) ?_
    refine cl_iF hw (rn_VF F hw (c_X8_refused g l md mfa mmz msz mnow mgr mmo mre msd mbg mky mli mrf mrn mka mta mwd mms mhs mke msa mkn mkb mku mhp mpa mpb mit mus mid mbe mla msi mtx mra (nI 1)) (cw_X8_227 F.2.2.2.2 ⟨by decide, by decide⟩)    0 rfl rfl rfl hl.1 rfl (Nat.le_of_ble_eq_true rfl) dX8_session_30 ⟨Nat.zero_le _, Nat.zero_le _⟩) (fun v_5 u_4 H locs hp_6 hw => ?_)
    subst hp_6
    replace hw : Wd g s A H locs (mX g md (nI 1) mmz msz mnow mgr mmo mre msd mbg mky mli mrf mrn mka mta mwd mms mhs mke msa mkn mkb mku mhp mpa mpb mit mus mid mbe mla msi mtx mra) := hw
    refine lv_if_eq (tgt := 38) hx hb dX8_session_33 (by decide) (fun c_33 => ?_) (fun c_33 => ?_)
    · exact absurd c_33 (by decide)
    · refine lv_lconst (v := 0) hx hb dX8_session_36 (by decide) ?_
      exact rt_l F hr hlk hQ hw (nI 1) (by first | exact Or.inr ⟨Or.inl (in8z c_10), rfl⟩ | exact Or.inr ⟨Or.inr (inRz (n := 3) (by decide) c_22), rfl⟩) rfl dX8_session_37
  · refine lv_iload_n hx hb dX8_session_13 rfl (lv_at hl 2 rfl) ?_
    refine lv_i2l (v := (y).toInt64) hx hb dX8_session_14 rfl ?_
    refine lv_lconst (v := 0) hx hb dX8_session_15 (by decide) ?_
    refine lv_ldc2 hx hb F.2.2.2.1 (F.2.2.2.2 _ bg_31_6) dX8_session_16 ?_
    refine cl_i hw [] rfl (rn_S F hw (c_X8_isIn g l (y).toInt64 0 (3)) (cw_X8_223 F.2.2.2.2 ⟨by decide, by decide⟩) [] (by decide) rfl hl.1 rfl (Nat.le_of_ble_eq_true rfl) dX8_session_19 ⟨Nat.zero_le _, Nat.zero_le _⟩) (fun _ => rfl) (fun v_8 u_7 H locs hp_9 hw => ?_)
    subst hp_9
    replace hw : Wd g s A H locs (mX g md mfa mmz msz mnow mgr mmo mre msd mbg mky mli mrf mrn mka mta mwd mms mhs mke msa mkn mkb mku mhp mpa mpb mit mus mid mbe mla msi mtx mra) := hw
    refine lv_if_eq (tgt := 29) hx hb dX8_session_22 (by decide) (fun c_22 => ?_) (fun c_22 => ?_)
    · refine lv_iconst (v := nI 1) hx hb dX8_session_29 (by decide) ?_
      refine cl_iF hw (rn_VF F hw (c_X8_refused g l md mfa mmz msz mnow mgr mmo mre msd mbg mky mli mrf mrn mka mta mwd mms mhs mke msa mkn mkb mku mhp mpa mpb mit mus mid mbe mla msi mtx mra (nI 1)) (cw_X8_227 F.2.2.2.2 ⟨by decide, by decide⟩)    0 rfl rfl rfl hl.1 rfl (Nat.le_of_ble_eq_true rfl) dX8_session_30 ⟨Nat.zero_le _, Nat.zero_le _⟩) (fun v_11 u_10 H locs hp_12 hw => ?_)
      subst hp_12
      replace hw : Wd g s A H locs (mX g md (nI 1) mmz msz mnow mgr mmo mre msd mbg mky mli mrf mrn mka mta mwd mms mhs mke msa mkn mkb mku mhp mpa mpb mit mus mid mbe mla msi mtx mra) := hw
      refine lv_if_eq (tgt := 38) hx hb dX8_session_33 (by decide) (fun c_33 => ?_) (fun c_33 => ?_)
      · exact absurd c_33 (by decide)
      · refine lv_lconst (v := 0) hx hb dX8_session_36 (by decide) ?_
        exact rt_l F hr hlk hQ hw (nI 1) (by first | exact Or.inr ⟨Or.inl (in8z c_10), rfl⟩ | exact Or.inr ⟨Or.inr (inRz (n := 3) (by decide) c_22), rfl⟩) rfl dX8_session_37
    · refine lv_iconst (v := nI 0) hx hb dX8_session_25 (by decide) ?_
      refine lv_goto (tgt := 30) hx hb dX8_session_26 (by decide) ?_
      refine cl_iF hw (rn_VF F hw (c_X8_refused g l md mfa mmz msz mnow mgr mmo mre msd mbg mky mli mrf mrn mka mta mwd mms mhs mke msa mkn mkb mku mhp mpa mpb mit mus mid mbe mla msi mtx mra (nI 0)) (cw_X8_227 F.2.2.2.2 ⟨by decide, by decide⟩)    0 rfl rfl rfl hl.1 rfl (Nat.le_of_ble_eq_true rfl) dX8_session_30 ⟨Nat.zero_le _, Nat.zero_le _⟩) (fun v_14 u_13 H locs hp_15 hw => ?_)
      subst hp_15
      replace hw : Wd g s A H locs (mX g md (nI 0) mmz msz mnow mgr mmo mre msd mbg mky mli mrf mrn mka mta mwd mms mhs mke msa mkn mkb mku mhp mpa mpb mit mus mid mbe mla msi mtx mra) := hw
      refine lv_if_eq (tgt := 38) hx hb dX8_session_33 (by decide) (fun c_33 => ?_) (fun c_33 => ?_)
      · obtain ⟨k, hk, rfl⟩ := in8 c_10
        rcases in4 c_22 with rfl | rfl | rfl | rfl
        · refine lv_aload_n hx hb dX8_session_38 rfl (lv_at hl 0 rfl) ?_
          refine gf_X8_142 F hw 0 rfl rfl dX8_session_39 ?_
          refine lv_iload_n hx hb dX8_session_42 rfl (lv_at hl 1 rfl) ?_
          refine za_ld F hw 15 rfl (by omega) (by omega) dX8_session_43 ?_
          refine lv_if_ne (tgt := 53) hx hb dX8_session_44 (by decide) (fun c_44 => ?_) (fun c_44 => ?_)
          · refine lv_iload_n hx hb dX8_session_53 rfl (lv_at hl 2 rfl) ?_
            refine lv_if_ne (tgt := 67) hx hb dX8_session_54 (by decide) (fun c_54 => ?_) (fun c_54 => ?_)
            · exact absurd rfl c_54
            · refine lv_aload_n hx hb dX8_session_57 rfl (lv_at hl 0 rfl) ?_
              refine gf_X8_145 F hw 0 rfl rfl dX8_session_58 ?_
              refine lv_iload_n hx hb dX8_session_61 rfl (lv_at hl 1 rfl) ?_
              refine ia_ld F hw 16 rfl (by omega) (by omega) dX8_session_62 ?_
              refine lv_i2l (v := ((mus k)).toInt64) hx hb dX8_session_63 rfl ?_
              refine lv_goto (tgt := 101) hx hb dX8_session_64 (by decide) ?_
              exact rt_l F hr hlk hQ hw (nI 0) (Or.inl ⟨k, 0, hk, by omega, rfl, rfl, by simp [sesV, c_44], rfl⟩) rfl dX8_session_101
          · refine lv_ldc2 hx hb F.2.2.2.1 (F.2.2.2.2 _ bg_31_7) dX8_session_47 ?_
            refine lv_goto (tgt := 101) hx hb dX8_session_50 (by decide) ?_
            exact rt_l F hr hlk hQ hw (nI 0) (Or.inl ⟨k, 0, hk, by omega, rfl, rfl, by simp [sesV, c_44], rfl⟩) rfl dX8_session_101
        · refine lv_aload_n hx hb dX8_session_38 rfl (lv_at hl 0 rfl) ?_
          refine gf_X8_142 F hw 0 rfl rfl dX8_session_39 ?_
          refine lv_iload_n hx hb dX8_session_42 rfl (lv_at hl 1 rfl) ?_
          refine za_ld F hw 15 rfl (by omega) (by omega) dX8_session_43 ?_
          refine lv_if_ne (tgt := 53) hx hb dX8_session_44 (by decide) (fun c_44 => ?_) (fun c_44 => ?_)
          · refine lv_iload_n hx hb dX8_session_53 rfl (lv_at hl 2 rfl) ?_
            refine lv_if_ne (tgt := 67) hx hb dX8_session_54 (by decide) (fun c_54 => ?_) (fun c_54 => ?_)
            · refine lv_iload_n hx hb dX8_session_67 rfl (lv_at hl 2 rfl) ?_
              refine lv_iconst (v := nI 1) hx hb dX8_session_68 (by decide) ?_
              refine n_ne (tgt := 81) hx hb (by omega) (by omega) dX8_session_69 (by decide) (fun c_69 => ?_) (fun c_69 => ?_)
              · exact absurd rfl c_69
              · refine lv_aload_n hx hb dX8_session_72 rfl (lv_at hl 0 rfl) ?_
                refine gf_X8_148 F hw 0 rfl rfl dX8_session_73 ?_
                refine lv_iload_n hx hb dX8_session_76 rfl (lv_at hl 1 rfl) ?_
                refine ja_ld F hw 17 rfl (by omega) (by omega) dX8_session_77 ?_
                refine lv_goto (tgt := 101) hx hb dX8_session_78 (by decide) ?_
                exact rt_l F hr hlk hQ hw (nI 0) (Or.inl ⟨k, 1, hk, by omega, rfl, rfl, by simp [sesV, c_44], rfl⟩) rfl dX8_session_101
            · exact absurd c_54 (by decide)
          · refine lv_ldc2 hx hb F.2.2.2.1 (F.2.2.2.2 _ bg_31_7) dX8_session_47 ?_
            refine lv_goto (tgt := 101) hx hb dX8_session_50 (by decide) ?_
            exact rt_l F hr hlk hQ hw (nI 0) (Or.inl ⟨k, 1, hk, by omega, rfl, rfl, by simp [sesV, c_44], rfl⟩) rfl dX8_session_101
        · refine lv_aload_n hx hb dX8_session_38 rfl (lv_at hl 0 rfl) ?_
          refine gf_X8_142 F hw 0 rfl rfl dX8_session_39 ?_
          refine lv_iload_n hx hb dX8_session_42 rfl (lv_at hl 1 rfl) ?_
          refine za_ld F hw 15 rfl (by omega) (by omega) dX8_session_43 ?_
          refine lv_if_ne (tgt := 53) hx hb dX8_session_44 (by decide) (fun c_44 => ?_) (fun c_44 => ?_)
          · refine lv_iload_n hx hb dX8_session_53 rfl (lv_at hl 2 rfl) ?_
            refine lv_if_ne (tgt := 67) hx hb dX8_session_54 (by decide) (fun c_54 => ?_) (fun c_54 => ?_)
            · refine lv_iload_n hx hb dX8_session_67 rfl (lv_at hl 2 rfl) ?_
              refine lv_iconst (v := nI 1) hx hb dX8_session_68 (by decide) ?_
              refine n_ne (tgt := 81) hx hb (by omega) (by omega) dX8_session_69 (by decide) (fun c_69 => ?_) (fun c_69 => ?_)
              · refine lv_iload_n hx hb dX8_session_81 rfl (lv_at hl 2 rfl) ?_
                refine lv_iconst (v := nI 2) hx hb dX8_session_82 (by decide) ?_
                refine n_ne (tgt := 95) hx hb (by omega) (by omega) dX8_session_83 (by decide) (fun c_83 => ?_) (fun c_83 => ?_)
                · exact absurd rfl c_83
                · refine lv_aload_n hx hb dX8_session_86 rfl (lv_at hl 0 rfl) ?_
                  refine gf_X8_151 F hw 0 rfl rfl dX8_session_87 ?_
                  refine lv_iload_n hx hb dX8_session_90 rfl (lv_at hl 1 rfl) ?_
                  refine ja_ld F hw 18 rfl (by omega) (by omega) dX8_session_91 ?_
                  refine lv_goto (tgt := 101) hx hb dX8_session_92 (by decide) ?_
                  exact rt_l F hr hlk hQ hw (nI 0) (Or.inl ⟨k, 2, hk, by omega, rfl, rfl, by simp [sesV, c_44], rfl⟩) rfl dX8_session_101
              · exact absurd c_69 (by decide)
            · exact absurd c_54 (by decide)
          · refine lv_ldc2 hx hb F.2.2.2.1 (F.2.2.2.2 _ bg_31_7) dX8_session_47 ?_
            refine lv_goto (tgt := 101) hx hb dX8_session_50 (by decide) ?_
            exact rt_l F hr hlk hQ hw (nI 0) (Or.inl ⟨k, 2, hk, by omega, rfl, rfl, by simp [sesV, c_44], rfl⟩) rfl dX8_session_101
        · refine lv_aload_n hx hb dX8_session_38 rfl (lv_at hl 0 rfl) ?_
          refine gf_X8_142 F hw 0 rfl rfl dX8_session_39 ?_
          refine lv_iload_n hx hb dX8_session_42 rfl (lv_at hl 1 rfl) ?_
          refine za_ld F hw 15 rfl (by omega) (by omega) dX8_session_43 ?_
          refine lv_if_ne (tgt := 53) hx hb dX8_session_44 (by decide) (fun c_44 => ?_) (fun c_44 => ?_)
          · refine lv_iload_n hx hb dX8_session_53 rfl (lv_at hl 2 rfl) ?_
            refine lv_if_ne (tgt := 67) hx hb dX8_session_54 (by decide) (fun c_54 => ?_) (fun c_54 => ?_)
            · refine lv_iload_n hx hb dX8_session_67 rfl (lv_at hl 2 rfl) ?_
              refine lv_iconst (v := nI 1) hx hb dX8_session_68 (by decide) ?_
              refine n_ne (tgt := 81) hx hb (by omega) (by omega) dX8_session_69 (by decide) (fun c_69 => ?_) (fun c_69 => ?_)
              · refine lv_iload_n hx hb dX8_session_81 rfl (lv_at hl 2 rfl) ?_
                refine lv_iconst (v := nI 2) hx hb dX8_session_82 (by decide) ?_
                refine n_ne (tgt := 95) hx hb (by omega) (by omega) dX8_session_83 (by decide) (fun c_83 => ?_) (fun c_83 => ?_)
                · refine lv_aload_n hx hb dX8_session_95 rfl (lv_at hl 0 rfl) ?_
                  refine gf_X8_154 F hw 0 rfl rfl dX8_session_96 ?_
                  refine lv_iload_n hx hb dX8_session_99 rfl (lv_at hl 1 rfl) ?_
                  refine ja_ld F hw 19 rfl (by omega) (by omega) dX8_session_100 ?_
                  exact rt_l F hr hlk hQ hw (nI 0) (Or.inl ⟨k, 3, hk, by omega, rfl, rfl, by simp [sesV, c_44], rfl⟩) rfl dX8_session_101
                · exact absurd c_83 (by decide)
              · exact absurd c_69 (by decide)
            · exact absurd c_54 (by decide)
          · refine lv_ldc2 hx hb F.2.2.2.1 (F.2.2.2.2 _ bg_31_7) dX8_session_47 ?_
            refine lv_goto (tgt := 101) hx hb dX8_session_50 (by decide) ?_
            exact rt_l F hr hlk hQ hw (nI 0) (Or.inl ⟨k, 3, hk, by omega, rfl, rfl, by simp [sesV, c_44], rfl⟩) rfl dX8_session_101
      · exact absurd (by decide) c_33
