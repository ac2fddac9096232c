set_option maxHeartbeats 4000000 in
set_option maxRecDepth 100000 in
theorem c_X8_erase (g : GG) (l : Launch) (md : Nat → Nat) (mfa : Int32) (mmz : Nat) (msz : Nat) (mnow : Int64) (mgr : Int64) (mmo : Int64) (mre : Int64) (msd : Int64) (mbg : Int64) (mky : Nat) (mli : Int32) (mrf : Int32) (mrn : Int32) (mka : Int32) (mta : Nat → Int32) (mwd : Nat → Int32) (mms : Nat → Int32) (mhs : Nat → Int32) (mke : Nat → Int32) (msa : Nat → Int32) (mkn : Nat → Int32) (mkb : Nat → Int32) (mku : Nat → Int64) (mhp : Nat → Int32) (mpa : Nat → Int32) (mpb : Nat → Int32) (mit : Nat → Int32) (mus : Nat → Int32) (mid : Nat → Int64) (mbe : Nat → Int64) (mla : Nat → Int64) (msi : Nat → Int32) (mtx : Nat → Int32) (mra : Nat → Int32) (x : Int32) (s0 : Nat) (s1 : Nat) (hs0 : msi 0 = nI s0) (hs1 : msi 1 = nI s1) (hl0 : s0 ≤ 40) (hl1 : s1 ≤ 40) : Ct g l yX8_erase cX8_erase 3 (some .int) 1 21 [.ref (md 0), .int x] (mX g md mfa mmz msz mnow mgr mmo mre msd mbg mky mli mrf mrn mka mta mwd mms mhs mke msa mkn mkb mku mhp mpa mpb mit mus mid mbe mla msi mtx mra) (Ri g (fun (v : Int32) (u : Int32 × (Nat → Int32)) => (x = nI 0 ∧ v = nI s0 ∧ u = (nI 0, upd msi 0 (nI 0))) ∨ (x = nI 1 ∧ v = nI s1 ∧ u = (nI 0, upd msi 1 (nI 0))) ∨ ((¬ x = nI 0 ∧ ¬ x = nI 1) ∧ u = (nI 1, msi))) (fun (u : Int32 × (Nat → Int32)) => (mX g md u.1 mmz msz mnow mgr mmo mre msd mbg mky mli mrf mrn mka mta mwd mms mhs mke msa mkn mkb mku mhp mpa mpb mit mus mid mbe mla u.2 mtx mra))) := by
  refine mkC (by decide) (Nat.le_of_ble_eq_true rfl) ?_
  intro p e s m args below meth c A ls QQ F hr hlk hnm hQ hw hl
  have hx := F.1
  have hb := F.2.1
  replace hl : lv_has ls 3 [(0, .ref (md 0)), (1, .int x)] := hl
  refine lv_aload_n hx hb dX8_erase_0 rfl (lv_at hl 0 rfl) ?_
  refine lv_iload_n hx hb dX8_erase_1 rfl (lv_at hl 1 rfl) ?_
  refine lv_if_eq (tgt := 10) hx hb dX8_erase_2 (by decide) (fun c_2 => ?_) (fun c_2 => ?_)
  · refine lv_iconst (v := nI 0) hx hb dX8_erase_10 (by decide) ?_
    refine lv_goto (tgt := 15) hx hb dX8_erase_11 (by decide) ?_
    refine cl_iF hw (rn_VF F hw (c_X8_refused g l md mfa mmz msz mnow mgr mmo mre msd mbg mky mli mrf mrn mka mta mwd mms mhs mke msa mkn mkb mku mhp mpa mpb mit mus mid mbe mla msi mtx mra (nI 0)) (cw_X8_227 F.2.2.2.2 ⟨by decide, by decide⟩)    0 rfl rfl rfl hl.1 rfl (Nat.le_of_ble_eq_true rfl) dX8_erase_15 ⟨Nat.zero_le _, Nat.zero_le _⟩) (fun v_2 u_1 H locs hp_3 hw => ?_)
    subst hp_3
    replace hw : Wd g s A H locs (mX g md (nI 0) mmz msz mnow mgr mmo mre msd mbg mky mli mrf mrn mka mta mwd mms mhs mke msa mkn mkb mku mhp mpa mpb mit mus mid mbe mla msi mtx mra) := hw
    refine lv_if_eq (tgt := 23) hx hb dX8_erase_18 (by decide) (fun c_18 => ?_) (fun c_18 => ?_)
    · obtain rfl : x = nI 0 := c_2
      refine lv_aload_n hx hb dX8_erase_23 rfl (lv_at hl 0 rfl) ?_
      refine gf_X8_157 F hw 0 rfl rfl dX8_erase_24 ?_
      refine lv_iload_n hx hb dX8_erase_27 rfl (lv_at hl 1 rfl) ?_
      refine ia_ld F hw 20 rfl (by omega) (by omega) dX8_erase_28 ?_
      refine tp_i (y := nI s0) hs0 ?_
      refine lv_istore_n (lv' := [(2, .int (nI s0)), (0, .ref (md 0)), (1, .int (nI 0))]) hx hb dX8_erase_29 rfl hl (by decide) rfl (fun ls hl => ?_)
      refine lv_aload_n hx hb dX8_erase_30 rfl (lv_at hl 1 rfl) ?_
      refine gf_X8_157 F hw 0 rfl rfl dX8_erase_31 ?_
      refine lv_iload_n hx hb dX8_erase_34 rfl (lv_at hl 2 rfl) ?_
      refine lv_iconst (v := nI 0) hx hb dX8_erase_35 (by decide) ?_
      refine ia_st F hw 20 rfl (by omega) (by omega) dX8_erase_36 (fun H locs hw => ?_)
      replace hw : Wd g s A H locs (mX g md (nI 0) mmz msz mnow mgr mmo mre msd mbg mky mli mrf mrn mka mta mwd mms mhs mke msa mkn mkb mku mhp mpa mpb mit mus mid mbe mla (upd msi 0 (nI 0)) mtx mra) := hw
      refine lv_iload_n hx hb dX8_erase_37 rfl (lv_at hl 0 rfl) ?_
      exact rt_i F hr hlk hQ hw ((nI 0), upd msi 0 (nI 0)) (by first | exact Or.inl ⟨rfl, rfl, rfl⟩ | exact Or.inr (Or.inl ⟨rfl, rfl, rfl⟩)) rfl dX8_erase_38
    · exact absurd (by decide) c_18
  · refine lv_iload_n hx hb dX8_erase_5 rfl (lv_at hl 1 rfl) ?_
    refine lv_iconst (v := nI 1) hx hb dX8_erase_6 (by decide) ?_
    refine lv_icmp_ne (tgt := 14) hx hb dX8_erase_7 (by decide) (fun c_7 => ?_) (fun c_7 => ?_)
    · refine lv_iconst (v := nI 1) hx hb dX8_erase_14 (by decide) ?_
      refine cl_iF hw (rn_VF F hw (c_X8_refused g l md mfa mmz msz mnow mgr mmo mre msd mbg mky mli mrf mrn mka mta mwd mms mhs mke msa mkn mkb mku mhp mpa mpb mit mus mid mbe mla msi mtx mra (nI 1)) (cw_X8_227 F.2.2.2.2 ⟨by decide, by decide⟩)    0 rfl rfl rfl hl.1 rfl (Nat.le_of_ble_eq_true rfl) dX8_erase_15 ⟨Nat.zero_le _, Nat.zero_le _⟩) (fun v_5 u_4 H locs hp_6 hw => ?_)
      subst hp_6
      replace hw : Wd g s A H locs (mX g md (nI 1) mmz msz mnow mgr mmo mre msd mbg mky mli mrf mrn mka mta mwd mms mhs mke msa mkn mkb mku mhp mpa mpb mit mus mid mbe mla msi mtx mra) := hw
      refine lv_if_eq (tgt := 23) hx hb dX8_erase_18 (by decide) (fun c_18 => ?_) (fun c_18 => ?_)
      · exact absurd c_18 (by decide)
      · refine lv_iconst (v := nI 0) hx hb dX8_erase_21 (by decide) ?_
        exact rt_i F hr hlk hQ hw ((nI 1), msi) (Or.inr (Or.inr ⟨⟨c_2, c_7⟩, rfl⟩)) rfl dX8_erase_22
    · refine lv_iconst (v := nI 0) hx hb dX8_erase_10 (by decide) ?_
      refine lv_goto (tgt := 15) hx hb dX8_erase_11 (by decide) ?_
      refine cl_iF hw (rn_VF F hw (c_X8_refused g l md mfa mmz msz mnow mgr mmo mre msd mbg mky mli mrf mrn mka mta mwd mms mhs mke msa mkn mkb mku mhp mpa mpb mit mus mid mbe mla msi mtx mra (nI 0)) (cw_X8_227 F.2.2.2.2 ⟨by decide, by decide⟩)    0 rfl rfl rfl hl.1 rfl (Nat.le_of_ble_eq_true rfl) dX8_erase_15 ⟨Nat.zero_le _, Nat.zero_le _⟩) (fun v_8 u_7 H locs hp_9 hw => ?_)
      subst hp_9
      replace hw : Wd g s A H locs (mX g md (nI 0) mmz msz mnow mgr mmo mre msd mbg mky mli mrf mrn mka mta mwd mms mhs mke msa mkn mkb mku mhp mpa mpb mit mus mid mbe mla msi mtx mra) := hw
      refine lv_if_eq (tgt := 23) hx hb dX8_erase_18 (by decide) (fun c_18 => ?_) (fun c_18 => ?_)
      · obtain rfl : x = nI 1 := c_7
        refine lv_aload_n hx hb dX8_erase_23 rfl (lv_at hl 0 rfl) ?_
        refine gf_X8_157 F hw 0 rfl rfl dX8_erase_24 ?_
        refine lv_iload_n hx hb dX8_erase_27 rfl (lv_at hl 1 rfl) ?_
        refine ia_ld F hw 20 rfl (by omega) (by omega) dX8_erase_28 ?_
        refine tp_i (y := nI s1) hs1 ?_
        refine lv_istore_n (lv' := [(2, .int (nI s1)), (0, .ref (md 0)), (1, .int (nI 1))]) hx hb dX8_erase_29 rfl hl (by decide) rfl (fun ls hl => ?_)
        refine lv_aload_n hx hb dX8_erase_30 rfl (lv_at hl 1 rfl) ?_
        refine gf_X8_157 F hw 0 rfl rfl dX8_erase_31 ?_
        refine lv_iload_n hx hb dX8_erase_34 rfl (lv_at hl 2 rfl) ?_
        refine lv_iconst (v := nI 0) hx hb dX8_erase_35 (by decide) ?_
        refine ia_st F hw 20 rfl (by omega) (by omega) dX8_erase_36 (fun H locs hw => ?_)
        replace hw : Wd g s A H locs (mX g md (nI 0) mmz msz mnow mgr mmo mre msd mbg mky mli mrf mrn mka mta mwd mms mhs mke msa mkn mkb mku mhp mpa mpb mit mus mid mbe mla (upd msi 1 (nI 0)) mtx mra) := hw
        refine lv_iload_n hx hb dX8_erase_37 rfl (lv_at hl 0 rfl) ?_
        exact rt_i F hr hlk hQ hw ((nI 0), upd msi 1 (nI 0)) (by first | exact Or.inl ⟨rfl, rfl, rfl⟩ | exact Or.inr (Or.inl ⟨rfl, rfl, rfl⟩)) rfl dX8_erase_38
      · exact absurd (by decide) c_18
theorem i64_t (x : Int32) : x.toInt64.toInt = x.toInt := by simp
theorem inI_0 {x : Int32} {hi : Int64} : ¬ inI x.toInt64 0 hi = 0 ↔ (0 ≤ x.toInt ∧ x.toInt ≤ hi.toInt) := by
  unfold inI
  by_cases h1 : x.toInt64 < 0
  · rw [if_pos h1]
    have := Int64.lt_iff_toInt_lt.mp h1
    rw [i64_t] at this
    simp at this
    constructor
    · intro h; exact absurd rfl h
    · intro h; omega
  · rw [if_neg h1]
    have h3 := Int64.le_iff_toInt_le.mp (Int64.not_lt.mp h1)
    rw [i64_t] at h3
    simp at h3
    by_cases h2 : hi < x.toInt64
    · rw [if_pos h2]
      have := Int64.lt_iff_toInt_lt.mp h2
      rw [i64_t] at this
      constructor
      · intro h; exact absurd rfl h
      · intro h; omega
    · rw [if_neg h2]
      have h4 := Int64.le_iff_toInt_le.mp (Int64.not_lt.mp h2)
      rw [i64_t] at h4
      exact ⟨fun _ => ⟨h3, h4⟩, fun _ => by decide⟩
theorem sz_t {s : Nat} (h : s ≤ 40) : ((nI s - nI 1).toInt64).toInt = (s : Int) - 1 := by
  rw [i64_t, pk_sub_toInt (by omega) (by omega)]; rfl
theorem inS {x : Int32} {s : Nat} (hs : s ≤ 40) (h : ¬ inI x.toInt64 0 (nI s - nI 1).toInt64 = 0) : ∃ j, j < s ∧ x = nI j := by
  obtain ⟨h1, h2⟩ := inI_0.mp h
  rw [sz_t hs] at h2
  have h3 : ¬ x < 0 := fun hh => by
    have := Int32.lt_iff_toInt_lt.mp hh
    simp at this
    omega
  obtain ⟨j, hj, rfl⟩ := nI_of h3
  rw [nI_toInt hj] at h2
  exact ⟨j, by omega, rfl⟩
theorem inSz {x : Int32} {s : Nat} (hs : s ≤ 40) (h : inI x.toInt64 0 (nI s - nI 1).toInt64 = 0) : ∀ j, j < s → ¬ x = nI j := by
  intro j hj e
  subst e
  refine absurd h (inI_0.mpr ⟨?_, ?_⟩)
  · rw [nI_toInt (by omega)]; omega
  · rw [nI_toInt (by omega), sz_t hs]; omega
theorem z40 (j : Nat) : 40 * 0 + j = j := by omega
set_option maxHeartbeats 4000000 in
set_option maxRecDepth 100000 in
theorem c_X8_sign (g : GG) (l : Launch) (md : Nat → Nat) (mfa : Int32) (mmz : Nat) (msz : Nat) (mnow : Int64) (mgr : Int64) (mmo : Int64) (mre : Int64) (msd : Int64) (mbg : Int64) (mky : Nat) (mli : Int32) (mrf : Int32) (mrn : Int32) (mka : Int32) (mta : Nat → Int32) (mwd : Nat → Int32) (mms : Nat → Int32) (mhs : Nat → Int32) (mke : Nat → Int32) (msa : Nat → Int32) (mkn : Nat → Int32) (mkb : Nat → Int32) (mku : Nat → Int64) (mhp : Nat → Int32) (mpa : Nat → Int32) (mpb : Nat → Int32) (mit : Nat → Int32) (mus : Nat → Int32) (mid : Nat → Int64) (mbe : Nat → Int64) (mla : Nat → Int64) (msi : Nat → Int32) (mtx : Nat → Int32) (mra : Nat → Int32) (x : Int32) (y : Int32) (s0 : Nat) (s1 : Nat) (hs0 : msi 0 = nI s0) (hs1 : msi 1 = nI s1) (hl0 : s0 ≤ 40) (hl1 : s1 ≤ 40) : Ct g l yX8_sign cX8_sign 3 (some .int) 1 25 [.ref (md 0), .int x, .int y] (mX g md mfa mmz msz mnow mgr mmo mre msd mbg mky mli mrf mrn mka mta mwd mms mhs mke msa mkn mkb mku mhp mpa mpb mit mus mid mbe mla msi mtx mra) (Ri g (fun (v : Int32) (u : Int32) => (x = nI 0 ∧ u = nI 0 ∧ ((∃ j, j < s0 ∧ y = nI j ∧ v = mtx j) ∨ ((∀ j, j < s0 → ¬ y = nI j) ∧ v = (-1)))) ∨ (x = nI 1 ∧ u = nI 0 ∧ ((∃ j, j < s1 ∧ y = nI j ∧ v = mtx (40 + j)) ∨ ((∀ j, j < s1 → ¬ y = nI j) ∧ v = (-1)))) ∨ ((¬ x = nI 0 ∧ ¬ x = nI 1) ∧ u = nI 1)) (fun (u : Int32) => (mX g md u mmz msz mnow mgr mmo mre msd mbg mky mli mrf mrn mka mta mwd mms mhs mke msa mkn mkb mku mhp mpa mpb mit mus mid mbe mla msi mtx mra))) := by
  refine mkC (by decide) (Nat.le_of_ble_eq_true rfl) ?_
  intro p e s m args below meth c A ls QQ F hr hlk hnm hQ hw hl
  have hx := F.1
  have hb := F.2.1
  replace hl : lv_has ls 3 [(0, .ref (md 0)), (1, .int x), (2, .int y)] := hl
  refine lv_aload_n hx hb dX8_sign_0 rfl (lv_at hl 0 rfl) ?_
  refine lv_iload_n hx hb dX8_sign_1 rfl (lv_at hl 1 rfl) ?_
  refine lv_if_eq (tgt := 10) hx hb dX8_sign_2 (by decide) (fun c_2 => ?_) (fun c_2 => ?_)
  · refine lv_iconst (v := nI 0) hx hb dX8_sign_10 (by decide) ?_
    refine lv_goto (tgt := 15) hx hb dX8_sign_11 (by decide) ?_
    refine cl_iF hw (rn_VF F hw (c_X8_refused g l md mfa mmz msz mnow mgr mmo mre msd mbg mky mli mrf mrn mka mta mwd mms mhs mke msa mkn mkb mku mhp mpa mpb mit mus mid mbe mla msi mtx mra (nI 0)) (cw_X8_227 F.2.2.2.2 ⟨by decide, by decide⟩)    0 rfl rfl rfl hl.1 rfl (Nat.le_of_ble_eq_true rfl) dX8_sign_15 ⟨Nat.zero_le _, Nat.zero_le _⟩) (fun v_2 u_1 H locs hp_3 hw => ?_)
    subst hp_3
    replace hw : Wd g s A H locs (mX g md (nI 0) mmz msz mnow mgr mmo mre msd mbg mky mli mrf mrn mka mta mwd mms mhs mke msa mkn mkb mku mhp mpa mpb mit mus mid mbe mla msi mtx mra) := hw
    refine lv_if_eq (tgt := 23) hx hb dX8_sign_18 (by decide) (fun c_18 => ?_) (fun c_18 => ?_)
    · obtain rfl : x = nI 0 := c_2
      refine lv_iload_n hx hb dX8_sign_23 rfl (lv_at hl 2 rfl) ?_
      refine lv_i2l (v := (y).toInt64) hx hb dX8_sign_24 rfl ?_
      refine lv_lconst (v := 0) hx hb dX8_sign_25 (by decide) ?_
      refine lv_aload_n hx hb dX8_sign_26 rfl (lv_at hl 0 rfl) ?_
      refine gf_X8_157 F hw 0 rfl rfl dX8_sign_27 ?_
      refine lv_iload_n hx hb dX8_sign_30 rfl (lv_at hl 1 rfl) ?_
      refine ia_ld F hw 20 rfl (by omega) (by omega) dX8_sign_31 ?_
      refine tp_i (y := nI s0) hs0 ?_
      refine lv_iconst (v := nI 1) hx hb dX8_sign_32 (by decide) ?_
      refine lv_isub hx hb dX8_sign_33 ?_
      refine lv_i2l (v := (((nI s0) - (nI 1))).toInt64) hx hb dX8_sign_34 rfl ?_
      refine cl_i hw [] rfl (rn_S F hw (c_X8_isIn g l (y).toInt64 0 ((((nI s0) - (nI 1))).toInt64)) (cw_X8_223 F.2.2.2.2 ⟨by decide, by decide⟩) [] (by decide) rfl hl.1 rfl (Nat.le_of_ble_eq_true rfl) dX8_sign_35 ⟨Nat.zero_le _, Nat.zero_le _⟩) (fun _ => rfl) (fun v_5 u_4 H locs hp_6 hw => ?_)
      subst hp_6
      replace hw : Wd g s A H locs (mX g md (nI 0) mmz msz mnow mgr mmo mre msd mbg mky mli mrf mrn mka mta mwd mms mhs mke msa mkn mkb mku mhp mpa mpb mit mus mid mbe mla msi mtx mra) := hw
      refine lv_if_eq (tgt := 55) hx hb dX8_sign_38 (by decide) (fun c_38 => ?_) (fun c_38 => ?_)
      · refine lv_iconst (v := (-1)) hx hb dX8_sign_55 (by decide) ?_
        exact rt_i F hr hlk hQ hw (nI 0) (by first | exact Or.inl ⟨rfl, rfl, Or.inl ⟨j, hj, rfl, by rw [z40]⟩⟩ | exact Or.inr (Or.inl ⟨rfl, rfl, Or.inl ⟨j, hj, rfl, rfl⟩⟩) | exact Or.inl ⟨rfl, rfl, Or.inr ⟨inSz hl0 c_38, rfl⟩⟩ | exact Or.inr (Or.inl ⟨rfl, rfl, Or.inr ⟨inSz hl1 c_38, rfl⟩⟩)) rfl dX8_sign_56
      · obtain ⟨j, hj, rfl⟩ := inS hl0 c_38
        refine lv_aload_n hx hb dX8_sign_41 rfl (lv_at hl 0 rfl) ?_
        refine gf_X8_160 F hw 0 rfl rfl dX8_sign_42 ?_
        refine lv_bipush (v := nI 40) hx hb dX8_sign_45 (by decide) ?_
        refine lv_iload_n hx hb dX8_sign_47 rfl (lv_at hl 1 rfl) ?_
        refine n_mul hx hb dX8_sign_48 ?_
        refine lv_iload_n hx hb dX8_sign_49 rfl (lv_at hl 2 rfl) ?_
        refine n_add hx hb dX8_sign_50 ?_
        refine ia_ld F hw 21 rfl (by omega) (by omega) dX8_sign_51 ?_
        refine lv_goto (tgt := 56) hx hb dX8_sign_52 (by decide) ?_
        exact rt_i F hr hlk hQ hw (nI 0) (by first | exact Or.inl ⟨rfl, rfl, Or.inl ⟨j, hj, rfl, by rw [z40]⟩⟩ | exact Or.inr (Or.inl ⟨rfl, rfl, Or.inl ⟨j, hj, rfl, rfl⟩⟩) | exact Or.inl ⟨rfl, rfl, Or.inr ⟨inSz hl0 c_38, rfl⟩⟩ | exact Or.inr (Or.inl ⟨rfl, rfl, Or.inr ⟨inSz hl1 c_38, rfl⟩⟩)) rfl dX8_sign_56
    · exact absurd (by decide) c_18
  · refine lv_iload_n hx hb dX8_sign_5 rfl (lv_at hl 1 rfl) ?_
    refine lv_iconst (v := nI 1) hx hb dX8_sign_6 (by decide) ?_
    refine lv_icmp_ne (tgt := 14) hx hb dX8_sign_7 (by decide) (fun c_7 => ?_) (fun c_7 => ?_)
    · refine lv_iconst (v := nI 1) hx hb dX8_sign_14 (by decide) ?_
      refine cl_iF hw (rn_VF F hw (c_X8_refused g l md mfa mmz msz mnow mgr mmo mre msd mbg mky mli mrf mrn mka mta mwd mms mhs mke msa mkn mkb mku mhp mpa mpb mit mus mid mbe mla msi mtx mra (nI 1)) (cw_X8_227 F.2.2.2.2 ⟨by decide, by decide⟩)    0 rfl rfl rfl hl.1 rfl (Nat.le_of_ble_eq_true rfl) dX8_sign_15 ⟨Nat.zero_le _, Nat.zero_le _⟩) (fun v_8 u_7 H locs hp_9 hw => ?_)
      subst hp_9
      replace hw : Wd g s A H locs (mX g md (nI 1) mmz msz mnow mgr mmo mre msd mbg mky mli mrf mrn mka mta mwd mms mhs mke msa mkn mkb mku mhp mpa mpb mit mus mid mbe mla msi mtx mra) := hw
      refine lv_if_eq (tgt := 23) hx hb dX8_sign_18 (by decide) (fun c_18 => ?_) (fun c_18 => ?_)
      · exact absurd c_18 (by decide)
      · refine lv_iconst (v := nI 0) hx hb dX8_sign_21 (by decide) ?_
        exact rt_i F hr hlk hQ hw (nI 1) (Or.inr (Or.inr ⟨⟨c_2, c_7⟩, rfl⟩)) rfl dX8_sign_22
    · refine lv_iconst (v := nI 0) hx hb dX8_sign_10 (by decide) ?_
      refine lv_goto (tgt := 15) hx hb dX8_sign_11 (by decide) ?_
      refine cl_iF hw (rn_VF F hw (c_X8_refused g l md mfa mmz msz mnow mgr mmo mre msd mbg mky mli mrf mrn mka mta mwd mms mhs mke msa mkn mkb mku mhp mpa mpb mit mus mid mbe mla msi mtx mra (nI 0)) (cw_X8_227 F.2.2.2.2 ⟨by decide, by decide⟩)    0 rfl rfl rfl hl.1 rfl (Nat.le_of_ble_eq_true rfl) dX8_sign_15 ⟨Nat.zero_le _, Nat.zero_le _⟩) (fun v_11 u_10 H locs hp_12 hw => ?_)
      subst hp_12
      replace hw : Wd g s A H locs (mX g md (nI 0) mmz msz mnow mgr mmo mre msd mbg mky mli mrf mrn mka mta mwd mms mhs mke msa mkn mkb mku mhp mpa mpb mit mus mid mbe mla msi mtx mra) := hw
      refine lv_if_eq (tgt := 23) hx hb dX8_sign_18 (by decide) (fun c_18 => ?_) (fun c_18 => ?_)
      · obtain rfl : x = nI 1 := c_7
        refine lv_iload_n hx hb dX8_sign_23 rfl (lv_at hl 2 rfl) ?_
        refine lv_i2l (v := (y).toInt64) hx hb dX8_sign_24 rfl ?_
        refine lv_lconst (v := 0) hx hb dX8_sign_25 (by decide) ?_
        refine lv_aload_n hx hb dX8_sign_26 rfl (lv_at hl 0 rfl) ?_
        refine gf_X8_157 F hw 0 rfl rfl dX8_sign_27 ?_
        refine lv_iload_n hx hb dX8_sign_30 rfl (lv_at hl 1 rfl) ?_
        refine ia_ld F hw 20 rfl (by omega) (by omega) dX8_sign_31 ?_
        refine tp_i (y := nI s1) hs1 ?_
        refine lv_iconst (v := nI 1) hx hb dX8_sign_32 (by decide) ?_
        refine lv_isub hx hb dX8_sign_33 ?_
        refine lv_i2l (v := (((nI s1) - (nI 1))).toInt64) hx hb dX8_sign_34 rfl ?_
        refine cl_i hw [] rfl (rn_S F hw (c_X8_isIn g l (y).toInt64 0 ((((nI s1) - (nI 1))).toInt64)) (cw_X8_223 F.2.2.2.2 ⟨by decide, by decide⟩) [] (by decide) rfl hl.1 rfl (Nat.le_of_ble_eq_true rfl) dX8_sign_35 ⟨Nat.zero_le _, Nat.zero_le _⟩) (fun _ => rfl) (fun v_14 u_13 H locs hp_15 hw => ?_)
        subst hp_15
        replace hw : Wd g s A H locs (mX g md (nI 0) mmz msz mnow mgr mmo mre msd mbg mky mli mrf mrn mka mta mwd mms mhs mke msa mkn mkb mku mhp mpa mpb mit mus mid mbe mla msi mtx mra) := hw
        refine lv_if_eq (tgt := 55) hx hb dX8_sign_38 (by decide) (fun c_38 => ?_) (fun c_38 => ?_)
        · refine lv_iconst (v := (-1)) hx hb dX8_sign_55 (by decide) ?_
          exact rt_i F hr hlk hQ hw (nI 0) (by first | exact Or.inl ⟨rfl, rfl, Or.inl ⟨j, hj, rfl, by rw [z40]⟩⟩ | exact Or.inr (Or.inl ⟨rfl, rfl, Or.inl ⟨j, hj, rfl, rfl⟩⟩) | exact Or.inl ⟨rfl, rfl, Or.inr ⟨inSz hl0 c_38, rfl⟩⟩ | exact Or.inr (Or.inl ⟨rfl, rfl, Or.inr ⟨inSz hl1 c_38, rfl⟩⟩)) rfl dX8_sign_56
        · obtain ⟨j, hj, rfl⟩ := inS hl1 c_38
          refine lv_aload_n hx hb dX8_sign_41 rfl (lv_at hl 0 rfl) ?_
          refine gf_X8_160 F hw 0 rfl rfl dX8_sign_42 ?_
          refine lv_bipush (v := nI 40) hx hb dX8_sign_45 (by decide) ?_
          refine lv_iload_n hx hb dX8_sign_47 rfl (lv_at hl 1 rfl) ?_
          refine n_mul hx hb dX8_sign_48 ?_
          refine lv_iload_n hx hb dX8_sign_49 rfl (lv_at hl 2 rfl) ?_
          refine n_add hx hb dX8_sign_50 ?_
          refine ia_ld F hw 21 rfl (by omega) (by omega) dX8_sign_51 ?_
          refine lv_goto (tgt := 56) hx hb dX8_sign_52 (by decide) ?_
          exact rt_i F hr hlk hQ hw (nI 0) (by first | exact Or.inl ⟨rfl, rfl, Or.inl ⟨j, hj, rfl, by rw [z40]⟩⟩ | exact Or.inr (Or.inl ⟨rfl, rfl, Or.inl ⟨j, hj, rfl, rfl⟩⟩) | exact Or.inl ⟨rfl, rfl, Or.inr ⟨inSz hl0 c_38, rfl⟩⟩ | exact Or.inr (Or.inl ⟨rfl, rfl, Or.inr ⟨inSz hl1 c_38, rfl⟩⟩)) rfl dX8_sign_56
      · exact absurd (by decide) c_18
