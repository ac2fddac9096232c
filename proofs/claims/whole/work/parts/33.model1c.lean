set_option maxHeartbeats 4000000 in
set_option maxRecDepth 100000 in
theorem c_X8_seal (g : GG) (l : Launch) (md : Nat → Nat) (mfa : Int32) (mmz : Nat) (msz : Nat) (mnow : Int64) (mgr : Int64) (mmo : Int64) (mre : Int64) (msd : Int64) (mbg : Int64) (mky : Nat) (mli : Int32) (mrf : Int32) (mrn : Int32) (mka : Int32) (mta : Nat → Int32) (mwd : Nat → Int32) (mms : Nat → Int32) (mhs : Nat → Int32) (mke : Nat → Int32) (msa : Nat → Int32) (mkn : Nat → Int32) (mkb : Nat → Int32) (mku : Nat → Int64) (mhp : Nat → Int32) (mpa : Nat → Int32) (mpb : Nat → Int32) (mit : Nat → Int32) (mus : Nat → Int32) (mid : Nat → Int64) (mbe : Nat → Int64) (mla : Nat → Int64) (msi : Nat → Int32) (mtx : Nat → Int32) (mra : Nat → Int32) (hsz : msz ≤ 40) : Ct g l yX8_seal cX8_seal 2 none 3 76 [.ref (md 0)] (mX g md mfa mmz msz mnow mgr mmo mre msd mbg mky mli mrf mrn mka mta mwd mms mhs mke msa mkn mkb mku mhp mpa mpb mit mus mid mbe mla msi mtx mra) (Rv g (fun (u : (Nat → Int32) × (Nat → Int32) × (Nat → Int32) × (Nat → Int32)) => ∀ j, j < 32 → u.2.2.2 j = hmac mke 64 msa msz j) (fun (u : (Nat → Int32) × (Nat → Int32) × (Nat → Int32) × (Nat → Int32)) => (mX g md mfa 96 msz mnow mgr mmo mre msd mbg mky mli mrf mrn mka u.1 u.2.1 u.2.2.1 u.2.2.2 mke msa mkn mkb mku mhp mpa mpb mit mus mid mbe mla msi mtx mra))) := by
  refine mkC (by decide) (Nat.le_of_ble_eq_true rfl) ?_
  intro p e s m args below meth c A ls QQ F hr hlk hnm hQ hw hl
  have hx := F.1
  have hb := F.2.1
  replace hl : lv_has ls 2 [(0, .ref (md 0))] := hl
  refine lv_iconst (v := nI 0) hx hb dX8_seal_0 (by decide) ?_
  refine lv_istore_n (lv' := [(1, .int (nI 0)), (0, .ref (md 0))]) hx hb dX8_seal_1 rfl hl (by decide) rfl (fun ls hl => ?_)
  have L_2 : ∀ (nn k : Nat), k ≤ 64 → 64 < k + nn → ∀ (H : Heap) (locs : List Loc) (ls : Array Slot), Wd g s A H locs (mX g md mfa mmz msz mnow mgr mmo mre msd mbg mky mli mrf mrn mka mta mwd (xrF mke (nI 54) mms k) mhs mke msa mkn mkb mku mhp mpa mpb mit mus mid mbe mla msi mtx mra) → lv_has ls 2 [(0, .ref (md 0)), (1, .int (nI k))] → W p l e (rmm 3 76) s m args below meth c H locs 0 0 QQ (F0 m 2 ls []) := by
    intro nn
    induction nn with
    | zero => intro k h1 h2; exact absurd h2 (by omega)
    | succ nn ih =>
      intro k hk_k hn_k H locs ls hw hl
      refine lv_iload_n hx hb dX8_seal_2 rfl (lv_at hl 1 rfl) ?_
      refine lv_bipush (v := nI 64) hx hb dX8_seal_3 (by decide) ?_
      refine n_ge (tgt := 29) hx hb (by omega) (by omega) dX8_seal_5 (by decide) (fun c_5 => ?_) (fun c_5 => ?_)
      · obtain rfl : k = 64 := by omega
        refine lv_iconst (v := nI 0) hx hb dX8_seal_29 (by decide) ?_
        refine lv_istore_n (lv' := [(1, .int (nI 0)), (0, .ref (md 0))]) hx hb dX8_seal_30 rfl hl (by decide) rfl (fun ls hl => ?_)
        have L_31 : ∀ (nn k2 : Nat), k2 ≤ msz → msz < k2 + nn → ∀ (H : Heap) (locs : List Loc) (ls : Array Slot), Wd g s A H locs (mX g md mfa mmz msz mnow mgr mmo mre msd mbg mky mli mrf mrn mka mta mwd (cyF msa (xrF mke (nI 54) mms 64) k2) mhs mke msa mkn mkb mku mhp mpa mpb mit mus mid mbe mla msi mtx mra) → lv_has ls 2 [(0, .ref (md 0)), (1, .int (nI k2))] → W p l e (rmm 3 76) s m args below meth c H locs 0 0 QQ (F0 m 31 ls []) := by
          intro nn
          induction nn with
          | zero => intro k2 h1 h2; exact absurd h2 (by omega)
          | succ nn ih =>
            intro k2 hk_k2 hn_k2 H locs ls hw hl
            refine lv_iload_n hx hb dX8_seal_31 rfl (lv_at hl 1 rfl) ?_
            refine lv_aload_n hx hb dX8_seal_32 rfl (lv_at hl 0 rfl) ?_
            refine gf_X8_180 F hw 0 rfl rfl dX8_seal_33 ?_
            refine n_ge (tgt := 60) hx hb (by omega) (by omega) dX8_seal_36 (by decide) (fun c_36 => ?_) (fun c_36 => ?_)
            · obtain rfl : msz = k2 := by omega
              refine lv_aload_n hx hb dX8_seal_60 rfl (lv_at hl 0 rfl) ?_
              refine lv_bipush (v := nI 64) hx hb dX8_seal_61 (by decide) ?_
              refine lv_aload_n hx hb dX8_seal_63 rfl (lv_at hl 0 rfl) ?_
              refine gf_X8_180 F hw 0 rfl rfl dX8_seal_64 ?_
              refine n_add hx hb dX8_seal_67 ?_
              refine pf_X8_173 F hw 0 rfl (Nat.le_of_ble_eq_true rfl) rfl rfl dX8_seal_68 (fun H locs hw => ?_)
              replace hw : Wd g s A H locs (mX g md mfa (64 + msz) msz mnow mgr mmo mre msd mbg mky mli mrf mrn mka mta mwd (cyF msa (xrF mke (nI 54) mms 64) msz) mhs mke msa mkn mkb mku mhp mpa mpb mit mus mid mbe mla msi mtx mra) := hw
              refine lv_aload_n hx hb dX8_seal_71 rfl (lv_at hl 0 rfl) ?_
              refine cl_vF hw (rn_VF F hw (c_X8_hashNow g l md mfa (64 + msz) msz mnow mgr mmo mre msd mbg mky mli mrf mrn mka mta mwd (cyF msa (xrF mke (nI 54) mms 64) msz) mhs mke msa mkn mkb mku mhp mpa mpb mit mus mid mbe mla msi mtx mra (by omega) (by omega)) (cw_X8_183 F.2.2.2.2 ⟨by decide, by decide⟩)    0 rfl rfl rfl hl.1 rfl (Nat.le_of_ble_eq_true rfl) dX8_seal_72 ⟨Nat.zero_le _, Nat.zero_le _⟩) (fun u_1 H locs hp_3 hw => ?_)
              replace hw : Wd g s A H locs (mX g md mfa (64 + msz) msz mnow mgr mmo mre msd mbg mky mli mrf mrn mka u_1.1 u_1.2.1 u_1.2.2.1 u_1.2.2.2 mke msa mkn mkb mku mhp mpa mpb mit mus mid mbe mla msi mtx mra) := hw
              have q1 := hp_3
              refine lv_iconst (v := nI 0) hx hb dX8_seal_75 (by decide) ?_
              refine lv_istore_n (lv' := [(1, .int (nI 0)), (0, .ref (md 0))]) hx hb dX8_seal_76 rfl hl (by decide) rfl (fun ls hl => ?_)
              have L_77 : ∀ (nn k3 : Nat), k3 ≤ 64 → 64 < k3 + nn → ∀ (H : Heap) (locs : List Loc) (ls : Array Slot), Wd g s A H locs (mX g md mfa (64 + msz) msz mnow mgr mmo mre msd mbg mky mli mrf mrn mka u_1.1 u_1.2.1 (xrF mke (nI 92) u_1.2.2.1 k3) u_1.2.2.2 mke msa mkn mkb mku mhp mpa mpb mit mus mid mbe mla msi mtx mra) → lv_has ls 2 [(0, .ref (md 0)), (1, .int (nI k3))] → W p l e (rmm 3 76) s m args below meth c H locs 0 0 QQ (F0 m 77 ls []) := by
                intro nn
                induction nn with
                | zero => intro k3 h1 h2; exact absurd h2 (by omega)
                | succ nn ih =>
                  intro k3 hk_k3 hn_k3 H locs ls hw hl
                  refine lv_iload_n hx hb dX8_seal_77 rfl (lv_at hl 1 rfl) ?_
                  refine lv_bipush (v := nI 64) hx hb dX8_seal_78 (by decide) ?_
                  refine n_ge (tgt := 104) hx hb (by omega) (by omega) dX8_seal_80 (by decide) (fun c_80 => ?_) (fun c_80 => ?_)
                  · obtain rfl : k3 = 64 := by omega
                    refine lv_iconst (v := nI 0) hx hb dX8_seal_104 (by decide) ?_
                    refine lv_istore_n (lv' := [(1, .int (nI 0)), (0, .ref (md 0))]) hx hb dX8_seal_105 rfl hl (by decide) rfl (fun ls hl => ?_)
                    have L_106 : ∀ (nn k4 : Nat), k4 ≤ 32 → 32 < k4 + nn → ∀ (H : Heap) (locs : List Loc) (ls : Array Slot), Wd g s A H locs (mX g md mfa (64 + msz) msz mnow mgr mmo mre msd mbg mky mli mrf mrn mka u_1.1 u_1.2.1 (cyF u_1.2.2.2 (xrF mke (nI 92) u_1.2.2.1 64) k4) u_1.2.2.2 mke msa mkn mkb mku mhp mpa mpb mit mus mid mbe mla msi mtx mra) → lv_has ls 2 [(0, .ref (md 0)), (1, .int (nI k4))] → W p l e (rmm 3 76) s m args below meth c H locs 0 0 QQ (F0 m 106 ls []) := by
                      intro nn
                      induction nn with
                      | zero => intro k4 h1 h2; exact absurd h2 (by omega)
                      | succ nn ih =>
                        intro k4 hk_k4 hn_k4 H locs ls hw hl
                        refine lv_iload_n hx hb dX8_seal_106 rfl (lv_at hl 1 rfl) ?_
                        refine lv_bipush (v := nI 32) hx hb dX8_seal_107 (by decide) ?_
                        refine n_ge (tgt := 133) hx hb (by omega) (by omega) dX8_seal_109 (by decide) (fun c_109 => ?_) (fun c_109 => ?_)
                        · obtain rfl : k4 = 32 := by omega
                          refine lv_aload_n hx hb dX8_seal_133 rfl (lv_at hl 0 rfl) ?_
                          refine lv_bipush (v := nI 96) hx hb dX8_seal_134 (by decide) ?_
                          refine pf_X8_173 F hw 0 rfl (Nat.le_of_ble_eq_true rfl) rfl rfl dX8_seal_136 (fun H locs hw => ?_)
                          replace hw : Wd g s A H locs (mX g md mfa 96 msz mnow mgr mmo mre msd mbg mky mli mrf mrn mka u_1.1 u_1.2.1 (cyF u_1.2.2.2 (xrF mke (nI 92) u_1.2.2.1 64) 32) u_1.2.2.2 mke msa mkn mkb mku mhp mpa mpb mit mus mid mbe mla msi mtx mra) := hw
                          refine lv_aload_n hx hb dX8_seal_139 rfl (lv_at hl 0 rfl) ?_
                          refine cl_vF hw (rn_VF F hw (c_X8_hashNow g l md mfa 96 msz mnow mgr mmo mre msd mbg mky mli mrf mrn mka u_1.1 u_1.2.1 (cyF u_1.2.2.2 (xrF mke (nI 92) u_1.2.2.1 64) 32) u_1.2.2.2 mke msa mkn mkb mku mhp mpa mpb mit mus mid mbe mla msi mtx mra (by omega) (by omega)) (cw_X8_183 F.2.2.2.2 ⟨by decide, by decide⟩)    0 rfl rfl rfl hl.1 rfl (Nat.le_of_ble_eq_true rfl) dX8_seal_140 ⟨Nat.zero_le _, Nat.zero_le _⟩) (fun u_4 H locs hp_6 hw => ?_)
                          replace hw : Wd g s A H locs (mX g md mfa 96 msz mnow mgr mmo mre msd mbg mky mli mrf mrn mka u_4.1 u_4.2.1 u_4.2.2.1 u_4.2.2.2 mke msa mkn mkb mku mhp mpa mpb mit mus mid mbe mla msi mtx mra) := hw
                          have q2 := hp_6
                          exact rt_v F hr hlk hQ hw (u_4.1, u_4.2.1, u_4.2.2.1, u_4.2.2.2) (seal_of hsz q1 q2) rfl dX8_seal_143
                        · refine lv_aload_n hx hb dX8_seal_112 rfl (lv_at hl 0 rfl) ?_
                          refine gf_X8_94 F hw 0 rfl rfl dX8_seal_113 ?_
                          refine lv_bipush (v := nI 64) hx hb dX8_seal_116 (by decide) ?_
                          refine lv_iload_n hx hb dX8_seal_118 rfl (lv_at hl 1 rfl) ?_
                          refine n_add hx hb dX8_seal_119 ?_
                          refine lv_aload_n hx hb dX8_seal_120 rfl (lv_at hl 0 rfl) ?_
                          refine gf_X8_97 F hw 0 rfl rfl dX8_seal_121 ?_
                          refine lv_iload_n hx hb dX8_seal_124 rfl (lv_at hl 1 rfl) ?_
                          refine ia_ld F hw 6 rfl (by omega) (by omega) dX8_seal_125 ?_
                          refine ia_st F hw 5 rfl (by omega) (by omega) dX8_seal_126 (fun H locs hw => ?_)
                          replace hw : Wd g s A H locs (mX g md mfa (64 + msz) msz mnow mgr mmo mre msd mbg mky mli mrf mrn mka u_1.1 u_1.2.1 (upd (cyF u_1.2.2.2 (xrF mke (nI 92) u_1.2.2.1 64) k4) (64 + k4) (u_1.2.2.2 k4)) u_1.2.2.2 mke msa mkn mkb mku mhp mpa mpb mit mus mid mbe mla msi mtx mra) := hw
                          refine lv_iinc (v := nI (k4 + 1)) (lv' := [(1, .int (nI (k4 + 1))), (0, .ref (md 0))]) hx hb dX8_seal_127 hl (k := 1) rfl (inc_n _ 1) (by decide) rfl (fun ls hl => ?_)
                          refine lv_goto (tgt := 106) hx hb dX8_seal_130 (by decide) ?_
                          exact ih (k4 + 1) (by omega) (by omega) _ _ _ hw (lv_sub hl [1, 0] rfl)
                    exact L_106 (32 + 1) 0 (by omega) (by omega) _ _ _ hw (lv_sub hl [1, 0] rfl)
                  · refine lv_aload_n hx hb dX8_seal_83 rfl (lv_at hl 0 rfl) ?_
                    refine gf_X8_94 F hw 0 rfl rfl dX8_seal_84 ?_
                    refine lv_iload_n hx hb dX8_seal_87 rfl (lv_at hl 1 rfl) ?_
                    refine lv_aload_n hx hb dX8_seal_88 rfl (lv_at hl 0 rfl) ?_
                    refine gf_X8_100 F hw 0 rfl rfl dX8_seal_89 ?_
                    refine lv_iload_n hx hb dX8_seal_92 rfl (lv_at hl 1 rfl) ?_
                    refine ia_ld F hw 7 rfl (by omega) (by omega) dX8_seal_93 ?_
                    refine lv_bipush (v := nI 92) hx hb dX8_seal_94 (by decide) ?_
                    refine lv_ixor hx hb dX8_seal_96 ?_
                    refine ia_st F hw 5 rfl (by omega) (by omega) dX8_seal_97 (fun H locs hw => ?_)
                    replace hw : Wd g s A H locs (mX g md mfa (64 + msz) msz mnow mgr mmo mre msd mbg mky mli mrf mrn mka u_1.1 u_1.2.1 (upd (xrF mke (nI 92) u_1.2.2.1 k3) k3 ((mke k3) ^^^ (nI 92))) u_1.2.2.2 mke msa mkn mkb mku mhp mpa mpb mit mus mid mbe mla msi mtx mra) := hw
                    refine lv_iinc (v := nI (k3 + 1)) (lv' := [(1, .int (nI (k3 + 1))), (0, .ref (md 0))]) hx hb dX8_seal_98 hl (k := 1) rfl (inc_n _ 1) (by decide) rfl (fun ls hl => ?_)
                    refine lv_goto (tgt := 77) hx hb dX8_seal_101 (by decide) ?_
                    exact ih (k3 + 1) (by omega) (by omega) _ _ _ hw (lv_sub hl [1, 0] rfl)
              exact L_77 (64 + 1) 0 (by omega) (by omega) _ _ _ hw (lv_sub hl [1, 0] rfl)
            · refine lv_aload_n hx hb dX8_seal_39 rfl (lv_at hl 0 rfl) ?_
              refine gf_X8_94 F hw 0 rfl rfl dX8_seal_40 ?_
              refine lv_bipush (v := nI 64) hx hb dX8_seal_43 (by decide) ?_
              refine lv_iload_n hx hb dX8_seal_45 rfl (lv_at hl 1 rfl) ?_
              refine n_add hx hb dX8_seal_46 ?_
              refine lv_aload_n hx hb dX8_seal_47 rfl (lv_at hl 0 rfl) ?_
              refine gf_X8_103 F hw 0 rfl rfl dX8_seal_48 ?_
              refine lv_iload_n hx hb dX8_seal_51 rfl (lv_at hl 1 rfl) ?_
              refine ia_ld F hw 8 rfl (by omega) (by omega) dX8_seal_52 ?_
              refine ia_st F hw 5 rfl (by omega) (by omega) dX8_seal_53 (fun H locs hw => ?_)
              replace hw : Wd g s A H locs (mX g md mfa mmz msz mnow mgr mmo mre msd mbg mky mli mrf mrn mka mta mwd (upd (cyF msa (xrF mke (nI 54) mms 64) k2) (64 + k2) (msa k2)) mhs mke msa mkn mkb mku mhp mpa mpb mit mus mid mbe mla msi mtx mra) := hw
              refine lv_iinc (v := nI (k2 + 1)) (lv' := [(1, .int (nI (k2 + 1))), (0, .ref (md 0))]) hx hb dX8_seal_54 hl (k := 1) rfl (inc_n _ 1) (by decide) rfl (fun ls hl => ?_)
              refine lv_goto (tgt := 31) hx hb dX8_seal_57 (by decide) ?_
              exact ih (k2 + 1) (by omega) (by omega) _ _ _ hw (lv_sub hl [1, 0] rfl)
        exact L_31 (msz + 1) 0 (by omega) (by omega) _ _ _ hw (lv_sub hl [1, 0] rfl)
      · refine lv_aload_n hx hb dX8_seal_8 rfl (lv_at hl 0 rfl) ?_
        refine gf_X8_94 F hw 0 rfl rfl dX8_seal_9 ?_
        refine lv_iload_n hx hb dX8_seal_12 rfl (lv_at hl 1 rfl) ?_
        refine lv_aload_n hx hb dX8_seal_13 rfl (lv_at hl 0 rfl) ?_
        refine gf_X8_100 F hw 0 rfl rfl dX8_seal_14 ?_
        refine lv_iload_n hx hb dX8_seal_17 rfl (lv_at hl 1 rfl) ?_
        refine ia_ld F hw 7 rfl (by omega) (by omega) dX8_seal_18 ?_
        refine lv_bipush (v := nI 54) hx hb dX8_seal_19 (by decide) ?_
        refine lv_ixor hx hb dX8_seal_21 ?_
        refine ia_st F hw 5 rfl (by omega) (by omega) dX8_seal_22 (fun H locs hw => ?_)
        replace hw : Wd g s A H locs (mX g md mfa mmz msz mnow mgr mmo mre msd mbg mky mli mrf mrn mka mta mwd (upd (xrF mke (nI 54) mms k) k ((mke k) ^^^ (nI 54))) mhs mke msa mkn mkb mku mhp mpa mpb mit mus mid mbe mla msi mtx mra) := hw
        refine lv_iinc (v := nI (k + 1)) (lv' := [(1, .int (nI (k + 1))), (0, .ref (md 0))]) hx hb dX8_seal_23 hl (k := 1) rfl (inc_n _ 1) (by decide) rfl (fun ls hl => ?_)
        refine lv_goto (tgt := 2) hx hb dX8_seal_26 (by decide) ?_
        exact ih (k + 1) (by omega) (by omega) _ _ _ hw (lv_sub hl [1, 0] rfl)
  exact L_2 (64 + 1) 0 (by omega) (by omega) _ _ _ hw (lv_sub hl [1, 0] rfl)
