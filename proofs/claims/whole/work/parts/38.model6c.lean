def sqF (tx f0 : Nat → Int32) : Nat → Nat → Int32
  | 0 => f0
  | i + 1 => upd (sqF tx f0 i) i (tx i &&& nI 255)
theorem sqF_get (tx f0 : Nat → Int32) : ∀ i t, t < i → sqF tx f0 i t = rw8 tx t := by
  intro i
  induction i with
  | zero => intro t h; omega
  | succ i ih =>
    intro t h
    show upd (sqF tx f0 i) i _ t = _
    by_cases e : t = i
    · subst e; rw [upd_s]; rfl
    · rw [upd_n _ _ e]; exact ih t (by omega)
theorem oc_of {kb tx ke sa u : Nat → Int32} {k n : Nat} (q : ∀ j, j < 32 → u j = hmac (tkF kb k ke 64) 64 (sqF tx sa n) n j) : ∀ j, j < 32 → u j = hmac (k16 kb k) 16 (rw8 tx) n j := by
  intro j hj
  rw [q j hj, hmac_pad (fk := k16 kb k) (n := 16) (by omega) (fun j hj => tkF_get kb k ke 64 j hj)]
  exact hmac_congr (fun i hi => sqF_get tx sa n i hi) j hj
set_option maxHeartbeats 4000000 in
set_option maxRecDepth 100000 in
theorem c_X8_octet (g : GG) (l : Launch) (md : Nat → Nat) (mfa : Int32) (mmz : Nat) (msz : Nat) (mnow : Int64) (mgr : Int64) (mmo : Int64) (mre : Int64) (msd : Int64) (mbg : Int64) (mky : Nat) (mli : Int32) (mrf : Int32) (mrn : Int32) (mka : Int32) (mta : Nat → Int32) (mwd : Nat → Int32) (mms : Nat → Int32) (mhs : Nat → Int32) (mke : Nat → Int32) (msa : Nat → Int32) (mkn : Nat → Int32) (mkb : Nat → Int32) (mku : Nat → Int64) (mhp : Nat → Int32) (mpa : Nat → Int32) (mpb : Nat → Int32) (mit : Nat → Int32) (mus : Nat → Int32) (mid : Nat → Int64) (mbe : Nat → Int64) (mla : Nat → Int64) (msi : Nat → Int32) (mtx : Nat → Int32) (mra : Nat → Int32) (x : Int32) (hky : 1 ≤ mky) (hky4 : mky ≤ 4) (s0 : Nat) (hs0 : msi 0 = nI s0) (hl0 : s0 ≤ 40) : Ct g l yX8_octet cX8_octet 3 (some .int) 4 97 [.ref (md 0), .int x] (mX g md mfa mmz msz mnow mgr mmo mre msd mbg mky mli mrf mrn mka mta mwd mms mhs mke msa mkn mkb mku mhp mpa mpb mit mus mid mbe mla msi mtx mra) (Ri g (fun (v : Int32) (u : (Nat → Int32) × (Nat → Int32) × (Nat → Int32) × (Nat → Int32) × (Nat → Int32) × (Nat → Int32) × Nat × Nat × Int32) => (∃ k, k < 32 ∧ x = nI k ∧ v = hmac (k16 mkb (mky - 1)) 16 (rw8 mtx) s0 k ∧ u.2.2.2.2.2.2.2.2 = nI 0) ∨ ((∀ k, k ≤ 31 → ¬ x = nI k) ∧ u.2.2.2.2.2.2.2.2 = nI 1)) (fun (u : (Nat → Int32) × (Nat → Int32) × (Nat → Int32) × (Nat → Int32) × (Nat → Int32) × (Nat → Int32) × Nat × Nat × Int32) => (mX g md u.2.2.2.2.2.2.2.2 u.2.2.2.2.2.2.1 u.2.2.2.2.2.2.2.1 mnow mgr mmo mre msd mbg mky mli mrf mrn mka u.1 u.2.1 u.2.2.1 u.2.2.2.1 u.2.2.2.2.1 u.2.2.2.2.2.1 mkn mkb mku mhp mpa mpb mit mus mid mbe mla msi mtx mra))) := by
  refine mkC (by decide) (Nat.le_of_ble_eq_true rfl) ?_
  intro p e s m args below meth c A ls QQ F hr hlk hnm hQ hw hl
  have hx := F.1
  have hb := F.2.1
  replace hl : lv_has ls 3 [(0, .ref (md 0)), (1, .int x)] := hl
  refine lv_aload_n hx hb dX8_octet_0 rfl (lv_at hl 0 rfl) ?_
  refine lv_iload_n hx hb dX8_octet_1 rfl (lv_at hl 1 rfl) ?_
  refine lv_i2l (v := (x).toInt64) hx hb dX8_octet_2 rfl ?_
  refine lv_lconst (v := 0) hx hb dX8_octet_3 (by decide) ?_
  refine lv_ldc2 hx hb F.2.2.2.1 (F.2.2.2.2 _ bg_32_15) dX8_octet_4 ?_
  refine cl_i hw [] rfl (rn_S F hw (c_X8_isIn g l (x).toInt64 0 (31)) (cw_X8_223 F.2.2.2.2 ⟨by decide, by decide⟩) [] (by decide) rfl hl.1 rfl (Nat.le_of_ble_eq_true rfl) dX8_octet_7 ⟨Nat.zero_le _, Nat.zero_le _⟩) (fun _ => rfl) (fun v_2 u_1 H locs hp_3 hw => ?_)
  subst hp_3
  replace hw : Wd g s A H locs (mX g md mfa mmz msz mnow mgr mmo mre msd mbg mky mli mrf mrn mka mta mwd mms mhs mke msa mkn mkb mku mhp mpa mpb mit mus mid mbe mla msi mtx mra) := hw
  refine lv_if_eq (tgt := 17) hx hb dX8_octet_10 (by decide) (fun c_10 => ?_) (fun c_10 => ?_)
  · refine lv_iconst (v := nI 1) hx hb dX8_octet_17 (by decide) ?_
    refine cl_iF hw (rn_VF F hw (c_X8_refused g l md mfa mmz msz mnow mgr mmo mre msd mbg mky mli mrf mrn mka mta mwd mms mhs mke msa mkn mkb mku mhp mpa mpb mit mus mid mbe mla msi mtx mra (nI 1)) (cw_X8_227 F.2.2.2.2 ⟨by decide, by decide⟩)    0 rfl rfl rfl hl.1 rfl (Nat.le_of_ble_eq_true rfl) dX8_octet_18 ⟨Nat.zero_le _, Nat.zero_le _⟩) (fun v_5 u_4 H locs hp_6 hw => ?_)
    subst hp_6
    replace hw : Wd g s A H locs (mX g md (nI 1) mmz msz mnow mgr mmo mre msd mbg mky mli mrf mrn mka mta mwd mms mhs mke msa mkn mkb mku mhp mpa mpb mit mus mid mbe mla msi mtx mra) := hw
    refine lv_if_eq (tgt := 26) hx hb dX8_octet_21 (by decide) (fun c_21 => ?_) (fun c_21 => ?_)
    · exact absurd c_21 (by decide)
    · refine lv_iconst (v := nI 0) hx hb dX8_octet_24 (by decide) ?_
      exact rt_i F hr hlk hQ hw (mta, mwd, mms, mhs, mke, msa, mmz, msz, (nI 1)) (Or.inr ⟨inRz (n := 31) (by decide) c_10, rfl⟩) rfl dX8_octet_25
  · refine lv_iconst (v := nI 0) hx hb dX8_octet_13 (by decide) ?_
    refine lv_goto (tgt := 18) hx hb dX8_octet_14 (by decide) ?_
    refine cl_iF hw (rn_VF F hw (c_X8_refused g l md mfa mmz msz mnow mgr mmo mre msd mbg mky mli mrf mrn mka mta mwd mms mhs mke msa mkn mkb mku mhp mpa mpb mit mus mid mbe mla msi mtx mra (nI 0)) (cw_X8_227 F.2.2.2.2 ⟨by decide, by decide⟩)    0 rfl rfl rfl hl.1 rfl (Nat.le_of_ble_eq_true rfl) dX8_octet_18 ⟨Nat.zero_le _, Nat.zero_le _⟩) (fun v_8 u_7 H locs hp_9 hw => ?_)
    subst hp_9
    replace hw : Wd g s A H locs (mX g md (nI 0) mmz msz mnow mgr mmo mre msd mbg mky mli mrf mrn mka mta mwd mms mhs mke msa mkn mkb mku mhp mpa mpb mit mus mid mbe mla msi mtx mra) := hw
    refine lv_if_eq (tgt := 26) hx hb dX8_octet_21 (by decide) (fun c_21 => ?_) (fun c_21 => ?_)
    · obtain ⟨k, hk, rfl⟩ := inR (n := 31) (by decide) c_10
      refine lv_aload_n hx hb dX8_octet_26 rfl (lv_at hl 0 rfl) ?_
      refine lv_aload_n hx hb dX8_octet_27 rfl (lv_at hl 0 rfl) ?_
      refine gf_X8_118 F hw 0 rfl rfl dX8_octet_28 ?_
      refine lv_iconst (v := nI 1) hx hb dX8_octet_31 (by decide) ?_
      refine n_sub hx hb (by omega) dX8_octet_32 ?_
      refine cl_vF hw (rn_VF F hw (c_X8_takeKey g l md (nI 0) mmz msz mnow mgr mmo mre msd mbg mky mli mrf mrn mka mta mwd mms mhs mke msa mkn mkb mku mhp mpa mpb mit mus mid mbe mla msi mtx mra (mky - 1) (by omega)) (cw_X8_204 F.2.2.2.2 ⟨by decide, by decide⟩)    0 rfl rfl rfl hl.1 rfl (Nat.le_of_ble_eq_true rfl) dX8_octet_33 ⟨Nat.zero_le _, Nat.zero_le _⟩) (fun u_10 H locs hp_12 hw => ?_)
      replace hw : Wd g s A H locs (mX g md (nI 0) mmz msz mnow mgr mmo mre msd mbg mky mli mrf mrn mka mta mwd mms mhs (tkF mkb (mky - 1) mke 64) msa mkn mkb mku mhp mpa mpb mit mus mid mbe mla msi mtx mra) := hw
      refine lv_aload_n hx hb dX8_octet_36 rfl (lv_at hl 0 rfl) ?_
      refine lv_iconst (v := nI 0) hx hb dX8_octet_37 (by decide) ?_
      refine pf_X8_180 F hw 0 rfl (Nat.le_of_ble_eq_true rfl) rfl rfl dX8_octet_38 (fun H locs hw => ?_)
      replace hw : Wd g s A H locs (mX g md (nI 0) mmz 0 mnow mgr mmo mre msd mbg mky mli mrf mrn mka mta mwd mms mhs (tkF mkb (mky - 1) mke 64) msa mkn mkb mku mhp mpa mpb mit mus mid mbe mla msi mtx mra) := hw
      refine lv_iconst (v := nI 0) hx hb dX8_octet_41 (by decide) ?_
      refine lv_istore_n (lv' := [(2, .int (nI 0)), (0, .ref (md 0)), (1, .int (nI k))]) hx hb dX8_octet_42 rfl hl (by decide) rfl (fun ls hl => ?_)
      have L_43 : ∀ (nn i : Nat), i ≤ s0 → s0 < i + nn → ∀ (H : Heap) (locs : List Loc) (ls : Array Slot), Wd g s A H locs (mX g md (nI 0) mmz i mnow mgr mmo mre msd mbg mky mli mrf mrn mka mta mwd mms mhs (tkF mkb (mky - 1) mke 64) (sqF mtx msa i) mkn mkb mku mhp mpa mpb mit mus mid mbe mla msi mtx mra) → lv_has ls 3 [(0, .ref (md 0)), (1, .int (nI k)), (2, .int (nI i))] → W p l e (rmm 4 97) s m args below meth c H locs 0 0 QQ (F0 m 43 ls []) := by
        intro nn
        induction nn with
        | zero => intro i h1 h2; exact absurd h2 (by omega)
        | succ nn ih =>
          intro i hk_i hn_i H locs ls hw hl
          refine lv_iload_n hx hb dX8_octet_43 rfl (lv_at hl 2 rfl) ?_
          refine lv_aload_n hx hb dX8_octet_44 rfl (lv_at hl 0 rfl) ?_
          refine gf_X8_157 F hw 0 rfl rfl dX8_octet_45 ?_
          refine lv_iconst (v := nI 0) hx hb dX8_octet_48 (by decide) ?_
          refine ia_ld F hw 20 rfl (by omega) (by omega) dX8_octet_49 ?_
          refine tp_i (y := nI s0) hs0 ?_
          refine n_ge (tgt := 69) hx hb (by omega) (by omega) dX8_octet_50 (by decide) (fun c_50 => ?_) (fun c_50 => ?_)
          · obtain rfl : s0 = i := by omega
            refine lv_aload_n hx hb dX8_octet_69 rfl (lv_at hl 0 rfl) ?_
            refine cl_vF hw (rn_VF F hw (c_X8_seal g l md (nI 0) mmz s0 mnow mgr mmo mre msd mbg mky mli mrf mrn mka mta mwd mms mhs (tkF mkb (mky - 1) mke 64) (sqF mtx msa s0) mkn mkb mku mhp mpa mpb mit mus mid mbe mla msi mtx mra (by omega)) (cw_X8_197 F.2.2.2.2 ⟨by decide, by decide⟩)    0 rfl rfl rfl hl.1 rfl (Nat.le_of_ble_eq_true rfl) dX8_octet_70 ⟨Nat.zero_le _, Nat.zero_le _⟩) (fun u_13 H locs hp_15 hw => ?_)
            replace hw : Wd g s A H locs (mX g md (nI 0) 96 s0 mnow mgr mmo mre msd mbg mky mli mrf mrn mka u_13.1 u_13.2.1 u_13.2.2.1 u_13.2.2.2 (tkF mkb (mky - 1) mke 64) (sqF mtx msa s0) mkn mkb mku mhp mpa mpb mit mus mid mbe mla msi mtx mra) := hw
            have q1 := hp_15
            refine lv_aload_n hx hb dX8_octet_73 rfl (lv_at hl 0 rfl) ?_
            refine gf_X8_97 F hw 0 rfl rfl dX8_octet_74 ?_
            refine lv_iload_n hx hb dX8_octet_77 rfl (lv_at hl 1 rfl) ?_
            refine ia_ld F hw 6 rfl (by omega) (by omega) dX8_octet_78 ?_
            exact rt_i F hr hlk hQ hw (u_13.1, u_13.2.1, u_13.2.2.1, u_13.2.2.2, (tkF mkb (mky - 1) mke 64), (sqF mtx msa s0), 96, s0, (nI 0)) (Or.inl ⟨k, by omega, rfl, oc_of q1 k (by omega), rfl⟩) rfl dX8_octet_79
          · refine lv_aload_n hx hb dX8_octet_53 rfl (lv_at hl 0 rfl) ?_
            refine lv_aload_n hx hb dX8_octet_54 rfl (lv_at hl 0 rfl) ?_
            refine gf_X8_160 F hw 0 rfl rfl dX8_octet_55 ?_
            refine lv_iload_n hx hb dX8_octet_58 rfl (lv_at hl 2 rfl) ?_
            refine ia_ld F hw 21 rfl (by omega) (by omega) dX8_octet_59 ?_
            refine cl_vF hw (rn_VF F hw (c_X8_say g l md (nI 0) mmz i mnow mgr mmo mre msd mbg mky mli mrf mrn mka mta mwd mms mhs (tkF mkb (mky - 1) mke 64) (sqF mtx msa i) mkn mkb mku mhp mpa mpb mit mus mid mbe mla msi mtx mra (mtx i) (by omega)) (cw_X8_194 F.2.2.2.2 ⟨by decide, by decide⟩)    0 rfl rfl rfl hl.1 rfl (Nat.le_of_ble_eq_true rfl) dX8_octet_60 ⟨Nat.zero_le _, Nat.zero_le _⟩) (fun u_16 H locs hp_18 hw => ?_)
            replace hw : Wd g s A H locs (mX g md (nI 0) mmz (i + 1) mnow mgr mmo mre msd mbg mky mli mrf mrn mka mta mwd mms mhs (tkF mkb (mky - 1) mke 64) (upd (sqF mtx msa i) i ((mtx i) &&& nI 255)) mkn mkb mku mhp mpa mpb mit mus mid mbe mla msi mtx mra) := hw
            refine lv_iinc (v := nI (i + 1)) (lv' := [(2, .int (nI (i + 1))), (0, .ref (md 0)), (1, .int (nI k))]) hx hb dX8_octet_63 hl (k := 2) rfl (inc_n _ 1) (by decide) rfl (fun ls hl => ?_)
            refine lv_goto (tgt := 43) hx hb dX8_octet_66 (by decide) ?_
            exact ih (i + 1) (by omega) (by omega) _ _ _ hw (lv_sub hl [1, 2, 0] rfl)
      exact L_43 (s0 + 1) 0 (by omega) (by omega) _ _ _ hw (lv_sub hl [1, 2, 0] rfl)
    · exact absurd (by decide) c_21
