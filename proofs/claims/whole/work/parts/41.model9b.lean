theorem mj_nat {s0 s1 ky : Nat} {tx ra kn kb : Nat → Int32} {ku : Nat → Int64} {it us : Nat → Int32} {id be la : Nat → Int64} {now gr mo re : Int64} {ch v ka2 : Int32} {i2 : Nat → Int32} (h : mjP s0 s1 ky tx ra kn kb ku it us id be la now gr mo re ch v ka2 i2) (hv : 0 ≤ v) : ∃ n, n < 8 ∧ v = nI n := by
  rcases h with ⟨-, rfl, -⟩ | ⟨-, -, rfl, -⟩ | ⟨-, k, -, -, -, h⟩
  · exact absurd hv (by decide)
  · exact absurd hv (by decide)
  · rcases h with ⟨-, rfl, -⟩ | ⟨-, -, rfl, -⟩ | ⟨-, n, hn, -, -, h⟩
    · exact absurd hv (by decide)
    · exact absurd hv (by decide)
    · rcases h with ⟨-, rfl, -⟩ | ⟨-, -, rfl, -⟩ | ⟨-, -, -, h⟩
      · exact absurd hv (by decide)
      · exact absurd hv (by decide)
      · rcases h with ⟨-, rfl⟩ | ⟨-, -, rfl⟩ | ⟨-, -, rfl⟩
        · exact ⟨n, hn, rfl⟩
        · exact ⟨n, hn, rfl⟩
        · exact absurd hv (by decide)
theorem mj_key {s0 s1 ky : Nat} {tx ra kn kb : Nat → Int32} {ku : Nat → Int64} {it us : Nat → Int32} {id be la : Nat → Int64} {now gr mo re : Int64} {ch v ka2 : Int32} {i2 : Nat → Int32} (h : mjP s0 s1 ky tx ra kn kb ku it us id be la now gr mo re ch v ka2 i2) (hv : 0 ≤ v) : ∃ k, k < ky ∧ ka2 = nI k ∧ kn k = rbM tx ra 0 := by
  rcases h with ⟨-, rfl, -⟩ | ⟨-, -, rfl, -⟩ | ⟨-, k, hk, h1, h2, -⟩
  · exact absurd hv (by decide)
  · exact absurd hv (by decide)
  · exact ⟨k, hk, h2, h1.2⟩
theorem neg_of {v : Int32} (h : ¬ 0 ≤ v) : v < 0 := Int32.not_le.mp h
set_option maxHeartbeats 4000000 in
set_option maxRecDepth 100000 in
theorem c_X8_request (g : GG) (l : Launch) (md : Nat → Nat) (mfa : Int32) (mmz : Nat) (msz : Nat) (mnow : Int64) (mgr : Int64) (mmo : Int64) (mre : Int64) (msd : Int64) (mbg : Int64) (mky : Nat) (mli : Int32) (mrf : Int32) (mrn : Int32) (mka : Int32) (mta : Nat → Int32) (mwd : Nat → Int32) (mms : Nat → Int32) (mhs : Nat → Int32) (mke : Nat → Int32) (msa : Nat → Int32) (mkn : Nat → Int32) (mkb : Nat → Int32) (mku : Nat → Int64) (mhp : Nat → Int32) (mpa : Nat → Int32) (mpb : Nat → Int32) (mit : Nat → Int32) (mus : Nat → Int32) (mid : Nat → Int64) (mbe : Nat → Int64) (mla : Nat → Int64) (msi : Nat → Int32) (mtx : Nat → Int32) (mra : Nat → Int32) (ch : Int32) (s0 : Nat) (s1 : Nat) (hs0 : msi 0 = nI s0) (hs1 : msi 1 = nI s1) (hl0 : s0 ≤ 40) (hl1 : s1 ≤ 40) (hB : ∀ i, i < s0 → (mtx i).toBitVec.toNat < 256) (hky : 1 ≤ mky) (hky4 : mky ≤ 4) : Ct g l yX8_request cX8_request 3 (some .int) 7 168 [.ref (md 0), .int ch] (mX g md mfa mmz msz mnow mgr mmo mre msd mbg mky mli mrf mrn mka mta mwd mms mhs mke msa mkn mkb mku mhp mpa mpb mit mus mid mbe mla msi mtx mra) (Ri g (fun (v : Int32) (u : (Nat → Int32) × (Nat → Int32) × (Nat → Int32) × (Nat → Int32) × (Nat → Int32) × (Nat → Int32) × (Nat → Int32) × (Nat → Int32) × Int32 × Nat × Nat × (Nat → Int64) × (Nat → Int32) × (Nat → Int32) × Int32 × Int32 × Int32) => (∃ ka2, mjP s0 s1 mky mtx mra mkn mkb mku mit mus mid mbe mla mnow mgr mmo mre ch v ka2 u.2.2.2.2.2.2.2.1) ∧ (u.2.2.2.2.2.2.2.2.2.2.2.2.2.2.1, u.2.2.2.2.2.2.2.2.2.2.2.2.2.2.2.1) = (if v < 0 then (mli, mrf + nI 1) else (mli + nI 1, mrf)) ∧ ((v < 0 ∧ u.2.2.2.2.2.2.2.2.2.2.2.1 = mla ∧ u.2.2.2.2.2.2.2.2.2.2.2.2.1 = msi ∧ u.2.2.2.2.2.2.2.2.2.2.2.2.2.1 = mtx ∧ u.2.2.2.2.2.2.2.2.2.2.2.2.2.2.2.2 = mrn) ∨ (∃ n k, n < 8 ∧ v = nI n ∧ u.2.2.2.2.2.2.2.2.2.2.2.1 = vp_updL mla n mnow ∧ k < mky ∧ mkn k = rbM mtx mra 0 ∧ ((mky - 1 ≤ k ∧ u.2.2.2.2.2.2.2.2.2.2.2.2.1 = msi ∧ u.2.2.2.2.2.2.2.2.2.2.2.2.2.1 = mtx ∧ u.2.2.2.2.2.2.2.2.2.2.2.2.2.2.2.2 = mrn) ∨ (k < mky - 1 ∧ u.2.2.2.2.2.2.2.2.2.2.2.2.1 = upd (upd msi 0 (nI 30)) 1 (nI 12) ∧ (∀ j, j < 30 → u.2.2.2.2.2.2.2.2.2.2.2.2.2.1 j = kA (cdV (ckR (k16 mkb (mky - 1)) (mkn (mky - 1)) (mus n) (mid n)) 22 j 6)) ∧ (∀ j, j < 12 → u.2.2.2.2.2.2.2.2.2.2.2.2.2.1 (40 + j) = kA (cdV (hmac (k16 mkb (mky - 1)) 16 (tkm (rw8 (bod (mkn (mky - 1)) (mus n) (mid n)))) 11) 9 j 6)) ∧ u.2.2.2.2.2.2.2.2.2.2.2.2.2.2.2.2 = mrn + nI 1))))) (fun (u : (Nat → Int32) × (Nat → Int32) × (Nat → Int32) × (Nat → Int32) × (Nat → Int32) × (Nat → Int32) × (Nat → Int32) × (Nat → Int32) × Int32 × Nat × Nat × (Nat → Int64) × (Nat → Int32) × (Nat → Int32) × Int32 × Int32 × Int32) => (mX g md (nI 0) u.2.2.2.2.2.2.2.2.2.1 u.2.2.2.2.2.2.2.2.2.2.1 mnow mgr mmo mre msd mbg mky u.2.2.2.2.2.2.2.2.2.2.2.2.2.2.1 u.2.2.2.2.2.2.2.2.2.2.2.2.2.2.2.1 u.2.2.2.2.2.2.2.2.2.2.2.2.2.2.2.2 u.2.2.2.2.2.2.2.2.1 u.1 u.2.1 u.2.2.1 u.2.2.2.1 u.2.2.2.2.1 u.2.2.2.2.2.1 mkn mkb mku mhp mpa mpb u.2.2.2.2.2.2.2.1 mus mid mbe u.2.2.2.2.2.2.2.2.2.2.2.1 u.2.2.2.2.2.2.2.2.2.2.2.2.1 u.2.2.2.2.2.2.2.2.2.2.2.2.2.1 u.2.2.2.2.2.2.1))) := by
  refine mkC (by decide) (Nat.le_of_ble_eq_true rfl) ?_
  intro p e s m args below meth c A ls QQ F hr hlk hnm hQ hw hl
  have hx := F.1
  have hb := F.2.1
  replace hl : lv_has ls 3 [(0, .ref (md 0)), (1, .int ch)] := hl
  refine lv_aload_n hx hb dX8_request_0 rfl (lv_at hl 0 rfl) ?_
  refine lv_iconst (v := nI 0) hx hb dX8_request_1 (by decide) ?_
  refine pf_X8_166 F hw 0 rfl (Nat.le_of_ble_eq_true rfl) rfl rfl dX8_request_2 (fun H locs hw => ?_)
  replace hw : Wd g s A H locs (mX g md (nI 0) mmz msz mnow mgr mmo mre msd mbg mky mli mrf mrn mka mta mwd mms mhs mke msa mkn mkb mku mhp mpa mpb mit mus mid mbe mla msi mtx mra) := hw
  refine lv_aload_n hx hb dX8_request_5 rfl (lv_at hl 0 rfl) ?_
  refine lv_iload_n hx hb dX8_request_6 rfl (lv_at hl 1 rfl) ?_
  refine cl_iF hw (rn_VF F hw (c_X8_look g l md (nI 0) mmz msz mnow mgr mmo mre msd mbg mky mli mrf mrn mka mta mwd mms mhs mke msa mkn mkb mku mhp mpa mpb mit mus mid mbe mla msi mtx mra ch s0 s1 hs0 hs1 hl0 hl1 hB hky hky4) (cw_X8_264 F.2.2.2.2 ⟨by decide, by decide⟩)    0 rfl rfl rfl hl.1 rfl (Nat.le_of_ble_eq_true rfl) dX8_request_7 ⟨Nat.zero_le _, Nat.zero_le _⟩) (fun v_2 u_1 H locs hp_3 hw => ?_)
  replace hw : Wd g s A H locs (mX g md (nI 0) u_1.2.2.2.2.2.2.2.2.2.1 u_1.2.2.2.2.2.2.2.2.2.2 mnow mgr mmo mre msd mbg mky mli mrf mrn u_1.2.2.2.2.2.2.2.2.1 u_1.1 u_1.2.1 u_1.2.2.1 u_1.2.2.2.1 u_1.2.2.2.2.1 u_1.2.2.2.2.2.1 mkn mkb mku mhp mpa mpb u_1.2.2.2.2.2.2.2.1 mus mid mbe mla msi mtx u_1.2.2.2.2.2.2.1) := hw
  have q1 := hp_3
  refine lv_istore_n (lv' := [(2, .int v_2), (0, .ref (md 0)), (1, .int ch)]) hx hb dX8_request_10 rfl hl (by decide) rfl (fun ls hl => ?_)
  refine lv_iload_n hx hb dX8_request_11 rfl (lv_at hl 0 rfl) ?_
  refine lv_if_ge (tgt := 27) hx hb dX8_request_12 (by decide) (fun c_12 => ?_) (fun c_12 => ?_)
  · obtain ⟨n, hn, rfl⟩ := mj_nat q1 c_12
    refine lv_aload_n hx hb dX8_request_27 rfl (lv_at hl 1 rfl) ?_
    refine lv_dup hx hb dX8_request_28 rfl ?_
    refine gf_X8_271 F hw 0 rfl rfl dX8_request_29 ?_
    refine lv_iconst (v := nI 1) hx hb dX8_request_32 (by decide) ?_
    refine lv_iadd hx hb dX8_request_33 ?_
    refine pf_X8_271 F hw 0 rfl (Nat.le_of_ble_eq_true rfl) rfl rfl dX8_request_34 (fun H locs hw => ?_)
    replace hw : Wd g s A H locs (mX g md (nI 0) u_1.2.2.2.2.2.2.2.2.2.1 u_1.2.2.2.2.2.2.2.2.2.2 mnow mgr mmo mre msd mbg mky (mli + (nI 1)) mrf mrn u_1.2.2.2.2.2.2.2.2.1 u_1.1 u_1.2.1 u_1.2.2.1 u_1.2.2.2.1 u_1.2.2.2.2.1 u_1.2.2.2.2.2.1 mkn mkb mku mhp mpa mpb u_1.2.2.2.2.2.2.2.1 mus mid mbe mla msi mtx u_1.2.2.2.2.2.2.1) := hw
    refine lv_aload_n hx hb dX8_request_37 rfl (lv_at hl 1 rfl) ?_
    refine gf_X8_154 F hw 0 rfl rfl dX8_request_38 ?_
    refine lv_iload_n hx hb dX8_request_41 rfl (lv_at hl 0 rfl) ?_
    refine lv_aload_n hx hb dX8_request_42 rfl (lv_at hl 1 rfl) ?_
    refine gf_X8_231 F hw 0 rfl rfl dX8_request_43 ?_
    refine ja_st F hw 19 rfl (by omega) (by omega) dX8_request_46 (fun H locs hw => ?_)
    replace hw : Wd g s A H locs (mX g md (nI 0) u_1.2.2.2.2.2.2.2.2.2.1 u_1.2.2.2.2.2.2.2.2.2.2 mnow mgr mmo mre msd mbg mky (mli + (nI 1)) mrf mrn u_1.2.2.2.2.2.2.2.2.1 u_1.1 u_1.2.1 u_1.2.2.1 u_1.2.2.2.1 u_1.2.2.2.2.1 u_1.2.2.2.2.2.1 mkn mkb mku mhp mpa mpb u_1.2.2.2.2.2.2.2.1 mus mid mbe (vp_updL mla n mnow) msi mtx u_1.2.2.2.2.2.2.1) := hw
    obtain ⟨k, hk, hka, hkr⟩ := mj_key q1 (nI_pos' (by omega))
    rw [hka] at hw
    refine lv_aload_n hx hb dX8_request_47 rfl (lv_at hl 1 rfl) ?_
    refine gf_X8_258 F hw 0 rfl rfl dX8_request_48 ?_
    refine lv_aload_n hx hb dX8_request_51 rfl (lv_at hl 1 rfl) ?_
    refine gf_X8_118 F hw 0 rfl rfl dX8_request_52 ?_
    refine lv_iconst (v := nI 1) hx hb dX8_request_55 (by decide) ?_
    refine n_sub hx hb (by omega) dX8_request_56 ?_
    refine n_ge (tgt := 75) hx hb (by omega) (by omega) dX8_request_57 (by decide) (fun c_57 => ?_) (fun c_57 => ?_)
    · refine lv_iload_n hx hb dX8_request_75 rfl (lv_at hl 0 rfl) ?_
      exact rt_i F hr hlk hQ hw (u_1.1, u_1.2.1, u_1.2.2.1, u_1.2.2.2.1, u_1.2.2.2.2.1, u_1.2.2.2.2.2.1, u_1.2.2.2.2.2.2.1, u_1.2.2.2.2.2.2.2.1, (nI k), u_1.2.2.2.2.2.2.2.2.2.1, u_1.2.2.2.2.2.2.2.2.2.2, (vp_updL mla n mnow), msi, mtx, (mli + (nI 1)), mrf, mrn) (by first | exact ⟨⟨_, q1⟩, by rw [if_neg (Int32.not_lt.mpr (nI_pos' (by omega)))], Or.inr ⟨n, k, hn, rfl, rfl, hk, hkr, Or.inl ⟨c_57, rfl, rfl, rfl⟩⟩⟩ | exact ⟨⟨_, q1⟩, by rw [if_neg (Int32.not_lt.mpr (nI_pos' (by omega)))], Or.inr ⟨n, k, hn, rfl, rfl, hk, hkr, Or.inr ⟨c_57, rfl, q3.1, q3.2, rfl⟩⟩⟩) rfl dX8_request_76
    · refine lv_aload_n hx hb dX8_request_60 rfl (lv_at hl 1 rfl) ?_
      refine lv_iload_n hx hb dX8_request_61 rfl (lv_at hl 0 rfl) ?_
      refine cl_vF hw (rn_VF F hw (c_X8_issue g l md (nI 0) u_1.2.2.2.2.2.2.2.2.2.1 u_1.2.2.2.2.2.2.2.2.2.2 mnow mgr mmo mre msd mbg mky (mli + (nI 1)) mrf mrn (nI k) u_1.1 u_1.2.1 u_1.2.2.1 u_1.2.2.2.1 u_1.2.2.2.2.1 u_1.2.2.2.2.2.1 mkn mkb mku mhp mpa mpb u_1.2.2.2.2.2.2.2.1 mus mid mbe (vp_updL mla n mnow) msi mtx u_1.2.2.2.2.2.2.1 n (by omega) (by omega) (by omega)) (cw_X8_248 F.2.2.2.2 ⟨by decide, by decide⟩)    0 rfl rfl rfl hl.1 rfl (Nat.le_of_ble_eq_true rfl) dX8_request_62 ⟨Nat.zero_le _, Nat.zero_le _⟩) (fun u_4 H locs hp_6 hw => ?_)
      replace hw : Wd g s A H locs (mX g md (nI 0) 96 11 mnow mgr mmo mre msd mbg mky (mli + (nI 1)) mrf mrn (nI k) u_4.1 u_4.2.1 u_4.2.2.1 u_4.2.2.2.1 u_4.2.2.2.2.1 u_4.2.2.2.2.2.1 mkn mkb mku mhp mpa mpb u_1.2.2.2.2.2.2.2.1 mus mid mbe (vp_updL mla n mnow) (upd (upd msi 0 (nI 30)) 1 (nI 12)) u_4.2.2.2.2.2.2.2 u_4.2.2.2.2.2.2.1) := hw
      have q3 := hp_6
      refine lv_aload_n hx hb dX8_request_65 rfl (lv_at hl 1 rfl) ?_
      refine lv_dup hx hb dX8_request_66 rfl ?_
      refine gf_X8_274 F hw 0 rfl rfl dX8_request_67 ?_
      refine lv_iconst (v := nI 1) hx hb dX8_request_70 (by decide) ?_
      refine lv_iadd hx hb dX8_request_71 ?_
      refine pf_X8_274 F hw 0 rfl (Nat.le_of_ble_eq_true rfl) rfl rfl dX8_request_72 (fun H locs hw => ?_)
      replace hw : Wd g s A H locs (mX g md (nI 0) 96 11 mnow mgr mmo mre msd mbg mky (mli + (nI 1)) mrf (mrn + (nI 1)) (nI k) u_4.1 u_4.2.1 u_4.2.2.1 u_4.2.2.2.1 u_4.2.2.2.2.1 u_4.2.2.2.2.2.1 mkn mkb mku mhp mpa mpb u_1.2.2.2.2.2.2.2.1 mus mid mbe (vp_updL mla n mnow) (upd (upd msi 0 (nI 30)) 1 (nI 12)) u_4.2.2.2.2.2.2.2 u_4.2.2.2.2.2.2.1) := hw
      refine lv_iload_n hx hb dX8_request_75 rfl (lv_at hl 0 rfl) ?_
      exact rt_i F hr hlk hQ hw (u_4.1, u_4.2.1, u_4.2.2.1, u_4.2.2.2.1, u_4.2.2.2.2.1, u_4.2.2.2.2.2.1, u_4.2.2.2.2.2.2.1, u_1.2.2.2.2.2.2.2.1, (nI k), 96, 11, (vp_updL mla n mnow), (upd (upd msi 0 (nI 30)) 1 (nI 12)), u_4.2.2.2.2.2.2.2, (mli + (nI 1)), mrf, (mrn + (nI 1))) (by first | exact ⟨⟨_, q1⟩, by rw [if_neg (Int32.not_lt.mpr (nI_pos' (by omega)))], Or.inr ⟨n, k, hn, rfl, rfl, hk, hkr, Or.inl ⟨c_57, rfl, rfl, rfl⟩⟩⟩ | exact ⟨⟨_, q1⟩, by rw [if_neg (Int32.not_lt.mpr (nI_pos' (by omega)))], Or.inr ⟨n, k, hn, rfl, rfl, hk, hkr, Or.inr ⟨c_57, rfl, q3.1, q3.2, rfl⟩⟩⟩) rfl dX8_request_76
  · refine lv_aload_n hx hb dX8_request_15 rfl (lv_at hl 1 rfl) ?_
    refine lv_dup hx hb dX8_request_16 rfl ?_
    refine gf_X8_268 F hw 0 rfl rfl dX8_request_17 ?_
    refine lv_iconst (v := nI 1) hx hb dX8_request_20 (by decide) ?_
    refine lv_iadd hx hb dX8_request_21 ?_
    refine pf_X8_268 F hw 0 rfl (Nat.le_of_ble_eq_true rfl) rfl rfl dX8_request_22 (fun H locs hw => ?_)
    replace hw : Wd g s A H locs (mX g md (nI 0) u_1.2.2.2.2.2.2.2.2.2.1 u_1.2.2.2.2.2.2.2.2.2.2 mnow mgr mmo mre msd mbg mky mli (mrf + (nI 1)) mrn u_1.2.2.2.2.2.2.2.2.1 u_1.1 u_1.2.1 u_1.2.2.1 u_1.2.2.2.1 u_1.2.2.2.2.1 u_1.2.2.2.2.2.1 mkn mkb mku mhp mpa mpb u_1.2.2.2.2.2.2.2.1 mus mid mbe mla msi mtx u_1.2.2.2.2.2.2.1) := hw
    refine lv_iload_n hx hb dX8_request_25 rfl (lv_at hl 0 rfl) ?_
    exact rt_i F hr hlk hQ hw (u_1.1, u_1.2.1, u_1.2.2.1, u_1.2.2.2.1, u_1.2.2.2.2.1, u_1.2.2.2.2.2.1, u_1.2.2.2.2.2.2.1, u_1.2.2.2.2.2.2.2.1, u_1.2.2.2.2.2.2.2.2.1, u_1.2.2.2.2.2.2.2.2.2.1, u_1.2.2.2.2.2.2.2.2.2.2, mla, msi, mtx, mli, (mrf + (nI 1)), mrn) (⟨⟨_, q1⟩, by rw [if_pos (neg_of c_12)], Or.inl ⟨neg_of c_12, rfl, rfl, rfl, rfl⟩⟩) rfl dX8_request_26
set_option maxHeartbeats 4000000 in
set_option maxRecDepth 100000 in
theorem c_X8_logout (g : GG) (l : Launch) (md : Nat → Nat) (mfa : Int32) (mmz : Nat) (msz : Nat) (mnow : Int64) (mgr : Int64) (mmo : Int64) (mre : Int64) (msd : Int64) (mbg : Int64) (mky : Nat) (mli : Int32) (mrf : Int32) (mrn : Int32) (mka : Int32) (mta : Nat → Int32) (mwd : Nat → Int32) (mms : Nat → Int32) (mhs : Nat → Int32) (mke : Nat → Int32) (msa : Nat → Int32) (mkn : Nat → Int32) (mkb : Nat → Int32) (mku : Nat → Int64) (mhp : Nat → Int32) (mpa : Nat → Int32) (mpb : Nat → Int32) (mit : Nat → Int32) (mus : Nat → Int32) (mid : Nat → Int64) (mbe : Nat → Int64) (mla : Nat → Int64) (msi : Nat → Int32) (mtx : Nat → Int32) (mra : Nat → Int32) (s0 : Nat) (s1 : Nat) (hs0 : msi 0 = nI s0) (hs1 : msi 1 = nI s1) (hl0 : s0 ≤ 40) (hl1 : s1 ≤ 40) (hB : ∀ i, i < s0 → (mtx i).toBitVec.toNat < 256) (hky : 1 ≤ mky) (hky4 : mky ≤ 4) : Ct g l yX8_logout cX8_logout 2 (some .int) 7 168 [.ref (md 0)] (mX g md mfa mmz msz mnow mgr mmo mre msd mbg mky mli mrf mrn mka mta mwd mms mhs mke msa mkn mkb mku mhp mpa mpb mit mus mid mbe mla msi mtx mra) (Ri g (fun (v : Int32) (u : (Nat → Int32) × (Nat → Int32) × (Nat → Int32) × (Nat → Int32) × (Nat → Int32) × (Nat → Int32) × (Nat → Int32) × Int32 × Nat × Nat × Int32 × Int32 × (Nat → Int32) × (Nat → Int32)) => (∃ ka2, mjP s0 s1 mky mtx mra mkn mkb mku mit mus mid mbe mla mnow mgr mmo mre (nI 1) v ka2 u.2.2.2.2.2.2.2.2.2.2.2.2.1) ∧ (u.2.2.2.2.2.2.2.2.2.2.1, u.2.2.2.2.2.2.2.2.2.2.2.1) = (if v < 0 then (mli, mrf + nI 1) else (mli + nI 1, mrf)) ∧ ((v < 0 ∧ u.2.2.2.2.2.2.2.2.2.2.2.2.2 = u.2.2.2.2.2.2.2.2.2.2.2.2.1) ∨ (∃ n, n < 8 ∧ v = nI n ∧ u.2.2.2.2.2.2.2.2.2.2.2.2.2 = upd u.2.2.2.2.2.2.2.2.2.2.2.2.1 n (nI 0)))) (fun (u : (Nat → Int32) × (Nat → Int32) × (Nat → Int32) × (Nat → Int32) × (Nat → Int32) × (Nat → Int32) × (Nat → Int32) × Int32 × Nat × Nat × Int32 × Int32 × (Nat → Int32) × (Nat → Int32)) => (mX g md (nI 0) u.2.2.2.2.2.2.2.2.1 u.2.2.2.2.2.2.2.2.2.1 mnow mgr mmo mre msd mbg mky u.2.2.2.2.2.2.2.2.2.2.1 u.2.2.2.2.2.2.2.2.2.2.2.1 mrn u.2.2.2.2.2.2.2.1 u.1 u.2.1 u.2.2.1 u.2.2.2.1 u.2.2.2.2.1 u.2.2.2.2.2.1 mkn mkb mku mhp mpa mpb u.2.2.2.2.2.2.2.2.2.2.2.2.2 mus mid mbe mla msi mtx u.2.2.2.2.2.2.1))) := by
  refine mkC (by decide) (Nat.le_of_ble_eq_true rfl) ?_
  intro p e s m args below meth c A ls QQ F hr hlk hnm hQ hw hl
  have hx := F.1
  have hb := F.2.1
  replace hl : lv_has ls 2 [(0, .ref (md 0))] := hl
  refine lv_aload_n hx hb dX8_logout_0 rfl (lv_at hl 0 rfl) ?_
  refine lv_iconst (v := nI 0) hx hb dX8_logout_1 (by decide) ?_
  refine pf_X8_166 F hw 0 rfl (Nat.le_of_ble_eq_true rfl) rfl rfl dX8_logout_2 (fun H locs hw => ?_)
  replace hw : Wd g s A H locs (mX g md (nI 0) mmz msz mnow mgr mmo mre msd mbg mky mli mrf mrn mka mta mwd mms mhs mke msa mkn mkb mku mhp mpa mpb mit mus mid mbe mla msi mtx mra) := hw
  refine lv_aload_n hx hb dX8_logout_5 rfl (lv_at hl 0 rfl) ?_
  refine lv_iconst (v := nI 1) hx hb dX8_logout_6 (by decide) ?_
  refine cl_iF hw (rn_VF F hw (c_X8_look g l md (nI 0) mmz msz mnow mgr mmo mre msd mbg mky mli mrf mrn mka mta mwd mms mhs mke msa mkn mkb mku mhp mpa mpb mit mus mid mbe mla msi mtx mra (nI 1) s0 s1 hs0 hs1 hl0 hl1 hB hky hky4) (cw_X8_264 F.2.2.2.2 ⟨by decide, by decide⟩)    0 rfl rfl rfl hl.1 rfl (Nat.le_of_ble_eq_true rfl) dX8_logout_7 ⟨Nat.zero_le _, Nat.zero_le _⟩) (fun v_2 u_1 H locs hp_3 hw => ?_)
  replace hw : Wd g s A H locs (mX g md (nI 0) u_1.2.2.2.2.2.2.2.2.2.1 u_1.2.2.2.2.2.2.2.2.2.2 mnow mgr mmo mre msd mbg mky mli mrf mrn u_1.2.2.2.2.2.2.2.2.1 u_1.1 u_1.2.1 u_1.2.2.1 u_1.2.2.2.1 u_1.2.2.2.2.1 u_1.2.2.2.2.2.1 mkn mkb mku mhp mpa mpb u_1.2.2.2.2.2.2.2.1 mus mid mbe mla msi mtx u_1.2.2.2.2.2.2.1) := hw
  have q1 := hp_3
  refine lv_istore_n (lv' := [(1, .int v_2), (0, .ref (md 0))]) hx hb dX8_logout_10 rfl hl (by decide) rfl (fun ls hl => ?_)
  refine lv_iload_n hx hb dX8_logout_11 rfl (lv_at hl 0 rfl) ?_
  refine lv_if_ge (tgt := 27) hx hb dX8_logout_12 (by decide) (fun c_12 => ?_) (fun c_12 => ?_)
  · obtain ⟨n, hn, rfl⟩ := mj_nat q1 c_12
    refine lv_aload_n hx hb dX8_logout_27 rfl (lv_at hl 1 rfl) ?_
    refine lv_dup hx hb dX8_logout_28 rfl ?_
    refine gf_X8_271 F hw 0 rfl rfl dX8_logout_29 ?_
    refine lv_iconst (v := nI 1) hx hb dX8_logout_32 (by decide) ?_
    refine lv_iadd hx hb dX8_logout_33 ?_
    refine pf_X8_271 F hw 0 rfl (Nat.le_of_ble_eq_true rfl) rfl rfl dX8_logout_34 (fun H locs hw => ?_)
    replace hw : Wd g s A H locs (mX g md (nI 0) u_1.2.2.2.2.2.2.2.2.2.1 u_1.2.2.2.2.2.2.2.2.2.2 mnow mgr mmo mre msd mbg mky (mli + (nI 1)) mrf mrn u_1.2.2.2.2.2.2.2.2.1 u_1.1 u_1.2.1 u_1.2.2.1 u_1.2.2.2.1 u_1.2.2.2.2.1 u_1.2.2.2.2.2.1 mkn mkb mku mhp mpa mpb u_1.2.2.2.2.2.2.2.1 mus mid mbe mla msi mtx u_1.2.2.2.2.2.2.1) := hw
    refine lv_aload_n hx hb dX8_logout_37 rfl (lv_at hl 1 rfl) ?_
    refine gf_X8_142 F hw 0 rfl rfl dX8_logout_38 ?_
    refine lv_iload_n hx hb dX8_logout_41 rfl (lv_at hl 0 rfl) ?_
    refine lv_iconst (v := nI 0) hx hb dX8_logout_42 (by decide) ?_
    refine za_st F hw 15 rfl (by omega) (by omega) nar0 dX8_logout_43 (fun H locs hw => ?_)
    replace hw : Wd g s A H locs (mX g md (nI 0) u_1.2.2.2.2.2.2.2.2.2.1 u_1.2.2.2.2.2.2.2.2.2.2 mnow mgr mmo mre msd mbg mky (mli + (nI 1)) mrf mrn u_1.2.2.2.2.2.2.2.2.1 u_1.1 u_1.2.1 u_1.2.2.1 u_1.2.2.2.1 u_1.2.2.2.2.1 u_1.2.2.2.2.2.1 mkn mkb mku mhp mpa mpb (upd u_1.2.2.2.2.2.2.2.1 n (nI 0)) mus mid mbe mla msi mtx u_1.2.2.2.2.2.2.1) := hw
    refine lv_iload_n hx hb dX8_logout_44 rfl (lv_at hl 0 rfl) ?_
    exact rt_i F hr hlk hQ hw (u_1.1, u_1.2.1, u_1.2.2.1, u_1.2.2.2.1, u_1.2.2.2.2.1, u_1.2.2.2.2.2.1, u_1.2.2.2.2.2.2.1, u_1.2.2.2.2.2.2.2.2.1, u_1.2.2.2.2.2.2.2.2.2.1, u_1.2.2.2.2.2.2.2.2.2.2, (mli + (nI 1)), mrf, u_1.2.2.2.2.2.2.2.1, (upd u_1.2.2.2.2.2.2.2.1 n (nI 0))) (⟨⟨_, q1⟩, by rw [if_neg (Int32.not_lt.mpr (nI_pos' (by omega)))], Or.inr ⟨n, hn, rfl, rfl⟩⟩) rfl dX8_logout_45
  · refine lv_aload_n hx hb dX8_logout_15 rfl (lv_at hl 1 rfl) ?_
    refine lv_dup hx hb dX8_logout_16 rfl ?_
    refine gf_X8_268 F hw 0 rfl rfl dX8_logout_17 ?_
    refine lv_iconst (v := nI 1) hx hb dX8_logout_20 (by decide) ?_
    refine lv_iadd hx hb dX8_logout_21 ?_
    refine pf_X8_268 F hw 0 rfl (Nat.le_of_ble_eq_true rfl) rfl rfl dX8_logout_22 (fun H locs hw => ?_)
    replace hw : Wd g s A H locs (mX g md (nI 0) u_1.2.2.2.2.2.2.2.2.2.1 u_1.2.2.2.2.2.2.2.2.2.2 mnow mgr mmo mre msd mbg mky mli (mrf + (nI 1)) mrn u_1.2.2.2.2.2.2.2.2.1 u_1.1 u_1.2.1 u_1.2.2.1 u_1.2.2.2.1 u_1.2.2.2.2.1 u_1.2.2.2.2.2.1 mkn mkb mku mhp mpa mpb u_1.2.2.2.2.2.2.2.1 mus mid mbe mla msi mtx u_1.2.2.2.2.2.2.1) := hw
    refine lv_iload_n hx hb dX8_logout_25 rfl (lv_at hl 0 rfl) ?_
    exact rt_i F hr hlk hQ hw (u_1.1, u_1.2.1, u_1.2.2.1, u_1.2.2.2.1, u_1.2.2.2.2.1, u_1.2.2.2.2.2.1, u_1.2.2.2.2.2.2.1, u_1.2.2.2.2.2.2.2.2.1, u_1.2.2.2.2.2.2.2.2.2.1, u_1.2.2.2.2.2.2.2.2.2.2, mli, (mrf + (nI 1)), u_1.2.2.2.2.2.2.2.1, u_1.2.2.2.2.2.2.2.1) (⟨⟨_, q1⟩, by rw [if_pos (neg_of c_12)], Or.inl ⟨neg_of c_12, rfl⟩⟩) rfl dX8_logout_26
