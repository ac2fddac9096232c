def lvK (ky : Nat) (ku : Nat → Int64) (now gr : Int64) (k : Nat) : Int32 := if k < ky then lvM ky ku now gr k else nI 0
theorem lk_1 {ky : Nat} {ku : Nat → Int64} {now gr : Int64} {k : Nat} (h : ky ≤ k) : cntL (lvK ky ku now gr) (k + 1) = cntL (lvK ky ku now gr) k := cnt_0 (by rw [lvK, if_neg (by omega)]; rfl)
theorem lk_2 {ky : Nat} {ku : Nat → Int64} {now gr : Int64} {k : Nat} (h : k < ky) (h2 : lvM ky ku now gr k = 0) : cntL (lvK ky ku now gr) (k + 1) = cntL (lvK ky ku now gr) k := cnt_0 (by rw [lvK, if_pos h]; exact h2)
theorem lk_3 {ky : Nat} {ku : Nat → Int64} {now gr : Int64} {k : Nat} (h : k < ky) (h2 : ¬ lvM ky ku now gr k = 0) : cntL (lvK ky ku now gr) (k + 1) = cntL (lvK ky ku now gr) k + 1 := cnt_1 (by rw [lvK, if_pos h]; exact h2)
set_option maxHeartbeats 4000000 in
set_option maxRecDepth 100000 in
theorem c_X8_count (g : GG) (l : Launch) (md : Nat → Nat) (mfa : Int32) (mmz : Nat) (msz : Nat) (mnow : Int64) (mgr : Int64) (mmo : Int64) (mre : Int64) (msd : Int64) (mbg : Int64) (mky : Nat) (mli : Int32) (mrf : Int32) (mrn : Int32) (mka : Int32) (mta : Nat → Int32) (mwd : Nat → Int32) (mms : Nat → Int32) (mhs : Nat → Int32) (mke : Nat → Int32) (msa : Nat → Int32) (mkn : Nat → Int32) (mkb : Nat → Int32) (mku : Nat → Int64) (mhp : Nat → Int32) (mpa : Nat → Int32) (mpb : Nat → Int32) (mit : Nat → Int32) (mus : Nat → Int32) (mid : Nat → Int64) (mbe : Nat → Int64) (mla : Nat → Int64) (msi : Nat → Int32) (mtx : Nat → Int32) (mra : Nat → Int32) (x : Int32) (hky : 1 ≤ mky) (hky4 : mky ≤ 4) : Ct g l yX8_count cX8_count 4 (some .int) 1 25 [.ref (md 0), .int x] (mX g md mfa mmz msz mnow mgr mmo mre msd mbg mky mli mrf mrn mka mta mwd mms mhs mke msa mkn mkb mku mhp mpa mpb mit mus mid mbe mla msi mtx mra) (Ri g (fun (v : Int32) (u : Int32) => (∃ w, w < 7 ∧ x = nI w ∧ v = couV (nI (cntL mit 8)) mbg.toInt32 mli mrf mrn (nI (cntL (lvK mky mku mnow mgr) 8)) (mkn (mky - 1)) w ∧ u = nI 0) ∨ ((∀ w, w ≤ 6 → ¬ x = nI w) ∧ u = nI 1)) (fun (u : Int32) => (mX g md u mmz msz mnow mgr mmo mre msd mbg mky mli mrf mrn mka mta mwd mms mhs mke msa mkn mkb mku mhp mpa mpb mit mus mid mbe mla msi mtx mra))) := by
  refine mkC (by decide) (Nat.le_of_ble_eq_true rfl) ?_
  intro p e s m args below meth c A ls QQ F hr hlk hnm hQ hw hl
  have hx := F.1
  have hb := F.2.1
  replace hl : lv_has ls 4 [(0, .ref (md 0)), (1, .int x)] := hl
  refine lv_aload_n hx hb dX8_count_0 rfl (lv_at hl 0 rfl) ?_
  refine lv_iload_n hx hb dX8_count_1 rfl (lv_at hl 1 rfl) ?_
  refine lv_i2l (v := (x).toInt64) hx hb dX8_count_2 rfl ?_
  refine lv_lconst (v := 0) hx hb dX8_count_3 (by decide) ?_
  refine lv_ldc2 hx hb F.2.2.2.1 (F.2.2.2.2 _ bg_32_3) dX8_count_4 ?_
  refine cl_i hw [] rfl (rn_S F hw (c_X8_isIn g l (x).toInt64 0 (6)) (cw_X8_223 F.2.2.2.2 ⟨by decide, by decide⟩) [] (by decide) rfl hl.1 rfl (Nat.le_of_ble_eq_true rfl) dX8_count_7 ⟨Nat.zero_le _, Nat.zero_le _⟩) (fun _ => rfl) (fun v_2 u_1 H locs hp_3 hw => ?_)
  subst hp_3
  replace hw : Wd g s A H locs (mX g md mfa mmz msz mnow mgr mmo mre msd mbg mky mli mrf mrn mka mta mwd mms mhs mke msa mkn mkb mku mhp mpa mpb mit mus mid mbe mla msi mtx mra) := hw
  refine lv_if_eq (tgt := 17) hx hb dX8_count_10 (by decide) (fun c_10 => ?_) (fun c_10 => ?_)
  · refine lv_iconst (v := nI 1) hx hb dX8_count_17 (by decide) ?_
    refine cl_iF hw (rn_VF F hw (c_X8_refused g l md mfa mmz msz mnow mgr mmo mre msd mbg mky mli mrf mrn mka mta mwd mms mhs mke msa mkn mkb mku mhp mpa mpb mit mus mid mbe mla msi mtx mra (nI 1)) (cw_X8_227 F.2.2.2.2 ⟨by decide, by decide⟩)    0 rfl rfl rfl hl.1 rfl (Nat.le_of_ble_eq_true rfl) dX8_count_18 ⟨Nat.zero_le _, Nat.zero_le _⟩) (fun v_5 u_4 H locs hp_6 hw => ?_)
    subst hp_6
    replace hw : Wd g s A H locs (mX g md (nI 1) mmz msz mnow mgr mmo mre msd mbg mky mli mrf mrn mka mta mwd mms mhs mke msa mkn mkb mku mhp mpa mpb mit mus mid mbe mla msi mtx mra) := hw
    refine lv_if_eq (tgt := 26) hx hb dX8_count_21 (by decide) (fun c_21 => ?_) (fun c_21 => ?_)
    · exact absurd c_21 (by decide)
    · refine lv_iconst (v := nI 0) hx hb dX8_count_24 (by decide) ?_
      exact rt_i F hr hlk hQ hw (nI 1) (Or.inr ⟨inRz (n := 6) (by decide) c_10, rfl⟩) rfl dX8_count_25
  · refine lv_iconst (v := nI 0) hx hb dX8_count_13 (by decide) ?_
    refine lv_goto (tgt := 18) hx hb dX8_count_14 (by decide) ?_
    refine cl_iF hw (rn_VF F hw (c_X8_refused g l md mfa mmz msz mnow mgr mmo mre msd mbg mky mli mrf mrn mka mta mwd mms mhs mke msa mkn mkb mku mhp mpa mpb mit mus mid mbe mla msi mtx mra (nI 0)) (cw_X8_227 F.2.2.2.2 ⟨by decide, by decide⟩)    0 rfl rfl rfl hl.1 rfl (Nat.le_of_ble_eq_true rfl) dX8_count_18 ⟨Nat.zero_le _, Nat.zero_le _⟩) (fun v_8 u_7 H locs hp_9 hw => ?_)
    subst hp_9
    replace hw : Wd g s A H locs (mX g md (nI 0) mmz msz mnow mgr mmo mre msd mbg mky mli mrf mrn mka mta mwd mms mhs mke msa mkn mkb mku mhp mpa mpb mit mus mid mbe mla msi mtx mra) := hw
    refine lv_if_eq (tgt := 26) hx hb dX8_count_21 (by decide) (fun c_21 => ?_) (fun c_21 => ?_)
    · rcases in7 c_10 with rfl | rfl | rfl | rfl | rfl | rfl | rfl
      · refine lv_iconst (v := nI 0) hx hb dX8_count_26 (by decide) ?_
        refine lv_istore_n (lv' := [(2, .int (nI 0)), (0, .ref (md 0)), (1, .int (nI 0))]) hx hb dX8_count_27 rfl hl (by decide) rfl (fun ls hl => ?_)
        refine lv_iconst (v := nI 0) hx hb dX8_count_28 (by decide) ?_
        refine lv_istore_n (lv' := [(3, .int (nI 0)), (2, .int (nI 0)), (0, .ref (md 0)), (1, .int (nI 0))]) hx hb dX8_count_29 rfl hl (by decide) rfl (fun ls hl => ?_)
        have L_30 : ∀ (nn k : Nat), k ≤ 8 → 8 < k + nn → ∀ (H : Heap) (locs : List Loc) (ls : Array Slot), Wd g s A H locs (mX g md (nI 0) mmz msz mnow mgr mmo mre msd mbg mky mli mrf mrn mka mta mwd mms mhs mke msa mkn mkb mku mhp mpa mpb mit mus mid mbe mla msi mtx mra) → lv_has ls 4 [(0, .ref (md 0)), (1, .int (nI 0)), (2, .int (nI (cntL mit k))), (3, .int (nI k))] → W p l e (rmm 1 25) s m args below meth c H locs 0 0 QQ (F0 m 30 ls []) := by
          intro nn
          induction nn with
          | zero => intro k h1 h2; exact absurd h2 (by omega)
          | succ nn ih =>
            intro k hk_k hn_k H locs ls hw hl
            refine lv_iload_n hx hb dX8_count_30 rfl (lv_at hl 3 rfl) ?_
            refine lv_bipush (v := nI 8) hx hb dX8_count_31 (by decide) ?_
            refine n_ge (tgt := 92) hx hb (by omega) (by omega) dX8_count_33 (by decide) (fun c_33 => ?_) (fun c_33 => ?_)
            · obtain rfl : k = 8 := by omega
              refine lv_iload_n hx hb dX8_count_92 rfl (lv_at hl 1 rfl) ?_
              refine lv_iconst (v := nI 1) hx hb dX8_count_93 (by decide) ?_
              refine n_ne (tgt := 105) hx hb (by omega) (by omega) dX8_count_94 (by decide) (fun c_94 => ?_) (fun c_94 => ?_)
              · refine lv_iload_n hx hb dX8_count_105 rfl (lv_at hl 1 rfl) ?_
                refine lv_iconst (v := nI 2) hx hb dX8_count_106 (by decide) ?_
                refine n_ne (tgt := 117) hx hb (by omega) (by omega) dX8_count_107 (by decide) (fun c_107 => ?_) (fun c_107 => ?_)
                · refine lv_iload_n hx hb dX8_count_117 rfl (lv_at hl 1 rfl) ?_
                  refine lv_iconst (v := nI 3) hx hb dX8_count_118 (by decide) ?_
                  refine n_ne (tgt := 129) hx hb (by omega) (by omega) dX8_count_119 (by decide) (fun c_119 => ?_) (fun c_119 => ?_)
                  · refine lv_iload_n hx hb dX8_count_129 rfl (lv_at hl 1 rfl) ?_
                    refine lv_iconst (v := nI 4) hx hb dX8_count_130 (by decide) ?_
                    refine n_ne (tgt := 141) hx hb (by omega) (by omega) dX8_count_131 (by decide) (fun c_131 => ?_) (fun c_131 => ?_)
                    · refine lv_iload_n hx hb dX8_count_141 rfl (lv_at hl 1 rfl) ?_
                      refine lv_bipush (v := nI 6) hx hb dX8_count_142 (by decide) ?_
                      refine n_ne (tgt := 161) hx hb (by omega) (by omega) dX8_count_144 (by decide) (fun c_144 => ?_) (fun c_144 => ?_)
                      · refine lv_iload_n hx hb dX8_count_161 rfl (lv_at hl 2 rfl) ?_
                        exact rt_i F hr hlk hQ hw (nI 0) (Or.inl ⟨0, by decide, rfl, rfl, rfl⟩) rfl dX8_count_162
                      · exact absurd c_144 (by decide)
                    · exact absurd c_131 (by decide)
                  · exact absurd c_119 (by decide)
                · exact absurd c_107 (by decide)
              · exact absurd c_94 (by decide)
            · refine lv_iload_n hx hb dX8_count_36 rfl (lv_at hl 2 rfl) ?_
              refine lv_iload_n hx hb dX8_count_37 rfl (lv_at hl 1 rfl) ?_
              refine lv_if_ne (tgt := 58) hx hb dX8_count_38 (by decide) (fun c_38 => ?_) (fun c_38 => ?_)
              · exact absurd rfl c_38
              · refine lv_aload_n hx hb dX8_count_41 rfl (lv_at hl 0 rfl) ?_
                refine gf_X8_142 F hw 0 rfl rfl dX8_count_42 ?_
                refine lv_iload_n hx hb dX8_count_45 rfl (lv_at hl 3 rfl) ?_
                refine za_ld F hw 15 rfl (by omega) (by omega) dX8_count_46 ?_
                refine lv_if_eq (tgt := 54) hx hb dX8_count_47 (by decide) (fun c_47 => ?_) (fun c_47 => ?_)
                · refine lv_iconst (v := nI 0) hx hb dX8_count_54 (by decide) ?_
                  refine lv_goto (tgt := 84) hx hb dX8_count_55 (by decide) ?_
                  refine n_add hx hb dX8_count_84 ?_
                  refine lv_istore_n (lv' := [(2, .int (nI ((cntL mit k) + 0))), (0, .ref (md 0)), (1, .int (nI 0)), (3, .int (nI k))]) hx hb dX8_count_85 rfl hl (by decide) rfl (fun ls hl => ?_)
                  refine lv_iinc (v := nI (k + 1)) (lv' := [(3, .int (nI (k + 1))), (2, .int (nI ((cntL mit k) + 0))), (0, .ref (md 0)), (1, .int (nI 0))]) hx hb dX8_count_86 hl (k := 3) rfl (inc_n _ 1) (by decide) rfl (fun ls hl => ?_)
                  refine lv_goto (tgt := 30) hx hb dX8_count_89 (by decide) ?_
                  first | rw [← cnt_0 c_47] at hl | rw [← cnt_1 c_47] at hl
                  exact ih (k + 1) (by omega) (by omega) _ _ _ hw (lv_sub hl [2, 3, 1, 0] rfl)
                · refine lv_iconst (v := nI 1) hx hb dX8_count_50 (by decide) ?_
                  refine lv_goto (tgt := 84) hx hb dX8_count_51 (by decide) ?_
                  refine n_add hx hb dX8_count_84 ?_
                  refine lv_istore_n (lv' := [(2, .int (nI ((cntL mit k) + 1))), (0, .ref (md 0)), (1, .int (nI 0)), (3, .int (nI k))]) hx hb dX8_count_85 rfl hl (by decide) rfl (fun ls hl => ?_)
                  refine lv_iinc (v := nI (k + 1)) (lv' := [(3, .int (nI (k + 1))), (2, .int (nI ((cntL mit k) + 1))), (0, .ref (md 0)), (1, .int (nI 0))]) hx hb dX8_count_86 hl (k := 3) rfl (inc_n _ 1) (by decide) rfl (fun ls hl => ?_)
                  refine lv_goto (tgt := 30) hx hb dX8_count_89 (by decide) ?_
                  first | rw [← cnt_0 c_47] at hl | rw [← cnt_1 c_47] at hl
                  exact ih (k + 1) (by omega) (by omega) _ _ _ hw (lv_sub hl [2, 3, 1, 0] rfl)
        exact L_30 (8 + 1) 0 (by omega) (by omega) _ _ _ hw (lv_sub hl [2, 3, 1, 0] rfl)
      · refine lv_iconst (v := nI 0) hx hb dX8_count_26 (by decide) ?_
        refine lv_istore_n (lv' := [(2, .int (nI 0)), (0, .ref (md 0)), (1, .int (nI 1))]) hx hb dX8_count_27 rfl hl (by decide) rfl (fun ls hl => ?_)
        refine lv_iconst (v := nI 0) hx hb dX8_count_28 (by decide) ?_
        refine lv_istore_n (lv' := [(3, .int (nI 0)), (2, .int (nI 0)), (0, .ref (md 0)), (1, .int (nI 1))]) hx hb dX8_count_29 rfl hl (by decide) rfl (fun ls hl => ?_)
        have L_30 : ∀ (nn k : Nat), k ≤ 8 → 8 < k + nn → ∀ (H : Heap) (locs : List Loc) (ls : Array Slot), Wd g s A H locs (mX g md (nI 0) mmz msz mnow mgr mmo mre msd mbg mky mli mrf mrn mka mta mwd mms mhs mke msa mkn mkb mku mhp mpa mpb mit mus mid mbe mla msi mtx mra) → lv_has ls 4 [(0, .ref (md 0)), (1, .int (nI 1)), (2, .int (nI 0)), (3, .int (nI k))] → W p l e (rmm 1 25) s m args below meth c H locs 0 0 QQ (F0 m 30 ls []) := by
          intro nn
          induction nn with
          | zero => intro k h1 h2; exact absurd h2 (by omega)
          | succ nn ih =>
            intro k hk_k hn_k H locs ls hw hl
            refine lv_iload_n hx hb dX8_count_30 rfl (lv_at hl 3 rfl) ?_
            refine lv_bipush (v := nI 8) hx hb dX8_count_31 (by decide) ?_
            refine n_ge (tgt := 92) hx hb (by omega) (by omega) dX8_count_33 (by decide) (fun c_33 => ?_) (fun c_33 => ?_)
            · obtain rfl : k = 8 := by omega
              refine lv_iload_n hx hb dX8_count_92 rfl (lv_at hl 1 rfl) ?_
              refine lv_iconst (v := nI 1) hx hb dX8_count_93 (by decide) ?_
              refine n_ne (tgt := 105) hx hb (by omega) (by omega) dX8_count_94 (by decide) (fun c_94 => ?_) (fun c_94 => ?_)
              · exact absurd rfl c_94
              · refine lv_aload_n hx hb dX8_count_97 rfl (lv_at hl 0 rfl) ?_
                refine gf_X8_191 F hw 0 rfl rfl dX8_count_98 ?_
                refine lv_l2i (v := (mbg).toInt32) hx hb dX8_count_101 rfl ?_
                refine lv_goto (tgt := 162) hx hb dX8_count_102 (by decide) ?_
                exact rt_i F hr hlk hQ hw (nI 0) (Or.inl ⟨1, by decide, rfl, rfl, rfl⟩) rfl dX8_count_162
            · refine lv_iload_n hx hb dX8_count_36 rfl (lv_at hl 2 rfl) ?_
              refine lv_iload_n hx hb dX8_count_37 rfl (lv_at hl 1 rfl) ?_
              refine lv_if_ne (tgt := 58) hx hb dX8_count_38 (by decide) (fun c_38 => ?_) (fun c_38 => ?_)
              · refine lv_iload_n hx hb dX8_count_58 rfl (lv_at hl 1 rfl) ?_
                refine lv_iconst (v := nI 5) hx hb dX8_count_59 (by decide) ?_
                refine n_ne (tgt := 83) hx hb (by omega) (by omega) dX8_count_60 (by decide) (fun c_60 => ?_) (fun c_60 => ?_)
                · refine lv_iconst (v := nI 0) hx hb dX8_count_83 (by decide) ?_
                  refine n_add hx hb dX8_count_84 ?_
                  refine lv_istore_n (lv' := [(2, .int (nI (0 + 0))), (0, .ref (md 0)), (1, .int (nI 1)), (3, .int (nI k))]) hx hb dX8_count_85 rfl hl (by decide) rfl (fun ls hl => ?_)
                  refine lv_iinc (v := nI (k + 1)) (lv' := [(3, .int (nI (k + 1))), (2, .int (nI (0 + 0))), (0, .ref (md 0)), (1, .int (nI 1))]) hx hb dX8_count_86 hl (k := 3) rfl (inc_n _ 1) (by decide) rfl (fun ls hl => ?_)
                  refine lv_goto (tgt := 30) hx hb dX8_count_89 (by decide) ?_
                  exact ih (k + 1) (by omega) (by omega) _ _ _ hw (lv_sub hl [2, 3, 1, 0] rfl)
                · exact absurd c_60 (by decide)
              · exact absurd c_38 (by decide)
        exact L_30 (8 + 1) 0 (by omega) (by omega) _ _ _ hw (lv_sub hl [2, 3, 1, 0] rfl)
      · refine lv_iconst (v := nI 0) hx hb dX8_count_26 (by decide) ?_
        refine lv_istore_n (lv' := [(2, .int (nI 0)), (0, .ref (md 0)), (1, .int (nI 2))]) hx hb dX8_count_27 rfl hl (by decide) rfl (fun ls hl => ?_)
        refine lv_iconst (v := nI 0) hx hb dX8_count_28 (by decide) ?_
        refine lv_istore_n (lv' := [(3, .int (nI 0)), (2, .int (nI 0)), (0, .ref (md 0)), (1, .int (nI 2))]) hx hb dX8_count_29 rfl hl (by decide) rfl (fun ls hl => ?_)
        have L_30 : ∀ (nn k : Nat), k ≤ 8 → 8 < k + nn → ∀ (H : Heap) (locs : List Loc) (ls : Array Slot), Wd g s A H locs (mX g md (nI 0) mmz msz mnow mgr mmo mre msd mbg mky mli mrf mrn mka mta mwd mms mhs mke msa mkn mkb mku mhp mpa mpb mit mus mid mbe mla msi mtx mra) → lv_has ls 4 [(0, .ref (md 0)), (1, .int (nI 2)), (2, .int (nI 0)), (3, .int (nI k))] → W p l e (rmm 1 25) s m args below meth c H locs 0 0 QQ (F0 m 30 ls []) := by
          intro nn
          induction nn with
          | zero => intro k h1 h2; exact absurd h2 (by omega)
          | succ nn ih =>
            intro k hk_k hn_k H locs ls hw hl
            refine lv_iload_n hx hb dX8_count_30 rfl (lv_at hl 3 rfl) ?_
            refine lv_bipush (v := nI 8) hx hb dX8_count_31 (by decide) ?_
            refine n_ge (tgt := 92) hx hb (by omega) (by omega) dX8_count_33 (by decide) (fun c_33 => ?_) (fun c_33 => ?_)
            · obtain rfl : k = 8 := by omega
              refine lv_iload_n hx hb dX8_count_92 rfl (lv_at hl 1 rfl) ?_
              refine lv_iconst (v := nI 1) hx hb dX8_count_93 (by decide) ?_
              refine n_ne (tgt := 105) hx hb (by omega) (by omega) dX8_count_94 (by decide) (fun c_94 => ?_) (fun c_94 => ?_)
              · refine lv_iload_n hx hb dX8_count_105 rfl (lv_at hl 1 rfl) ?_
                refine lv_iconst (v := nI 2) hx hb dX8_count_106 (by decide) ?_
                refine n_ne (tgt := 117) hx hb (by omega) (by omega) dX8_count_107 (by decide) (fun c_107 => ?_) (fun c_107 => ?_)
                · exact absurd rfl c_107
                · refine lv_aload_n hx hb dX8_count_110 rfl (lv_at hl 0 rfl) ?_
                  refine gf_X8_271 F hw 0 rfl rfl dX8_count_111 ?_
                  refine lv_goto (tgt := 162) hx hb dX8_count_114 (by decide) ?_
                  exact rt_i F hr hlk hQ hw (nI 0) (Or.inl ⟨2, by decide, rfl, rfl, rfl⟩) rfl dX8_count_162
              · exact absurd c_94 (by decide)
            · refine lv_iload_n hx hb dX8_count_36 rfl (lv_at hl 2 rfl) ?_
              refine lv_iload_n hx hb dX8_count_37 rfl (lv_at hl 1 rfl) ?_
              refine lv_if_ne (tgt := 58) hx hb dX8_count_38 (by decide) (fun c_38 => ?_) (fun c_38 => ?_)
              · refine lv_iload_n hx hb dX8_count_58 rfl (lv_at hl 1 rfl) ?_
                refine lv_iconst (v := nI 5) hx hb dX8_count_59 (by decide) ?_
                refine n_ne (tgt := 83) hx hb (by omega) (by omega) dX8_count_60 (by decide) (fun c_60 => ?_) (fun c_60 => ?_)
                · refine lv_iconst (v := nI 0) hx hb dX8_count_83 (by decide) ?_
                  refine n_add hx hb dX8_count_84 ?_
                  refine lv_istore_n (lv' := [(2, .int (nI (0 + 0))), (0, .ref (md 0)), (1, .int (nI 2)), (3, .int (nI k))]) hx hb dX8_count_85 rfl hl (by decide) rfl (fun ls hl => ?_)
                  refine lv_iinc (v := nI (k + 1)) (lv' := [(3, .int (nI (k + 1))), (2, .int (nI (0 + 0))), (0, .ref (md 0)), (1, .int (nI 2))]) hx hb dX8_count_86 hl (k := 3) rfl (inc_n _ 1) (by decide) rfl (fun ls hl => ?_)
                  refine lv_goto (tgt := 30) hx hb dX8_count_89 (by decide) ?_
                  exact ih (k + 1) (by omega) (by omega) _ _ _ hw (lv_sub hl [2, 3, 1, 0] rfl)
                · exact absurd c_60 (by decide)
              · exact absurd c_38 (by decide)
        exact L_30 (8 + 1) 0 (by omega) (by omega) _ _ _ hw (lv_sub hl [2, 3, 1, 0] rfl)
      · refine lv_iconst (v := nI 0) hx hb dX8_count_26 (by decide) ?_
        refine lv_istore_n (lv' := [(2, .int (nI 0)), (0, .ref (md 0)), (1, .int (nI 3))]) hx hb dX8_count_27 rfl hl (by decide) rfl (fun ls hl => ?_)
        refine lv_iconst (v := nI 0) hx hb dX8_count_28 (by decide) ?_
        refine lv_istore_n (lv' := [(3, .int (nI 0)), (2, .int (nI 0)), (0, .ref (md 0)), (1, .int (nI 3))]) hx hb dX8_count_29 rfl hl (by decide) rfl (fun ls hl => ?_)
        have L_30 : ∀ (nn k : Nat), k ≤ 8 → 8 < k + nn → ∀ (H : Heap) (locs : List Loc) (ls : Array Slot), Wd g s A H locs (mX g md (nI 0) mmz msz mnow mgr mmo mre msd mbg mky mli mrf mrn mka mta mwd mms mhs mke msa mkn mkb mku mhp mpa mpb mit mus mid mbe mla msi mtx mra) → lv_has ls 4 [(0, .ref (md 0)), (1, .int (nI 3)), (2, .int (nI 0)), (3, .int (nI k))] → W p l e (rmm 1 25) s m args below meth c H locs 0 0 QQ (F0 m 30 ls []) := by
          intro nn
          induction nn with
          | zero => intro k h1 h2; exact absurd h2 (by omega)
          | succ nn ih =>
            intro k hk_k hn_k H locs ls hw hl
            refine lv_iload_n hx hb dX8_count_30 rfl (lv_at hl 3 rfl) ?_
            refine lv_bipush (v := nI 8) hx hb dX8_count_31 (by decide) ?_
            refine n_ge (tgt := 92) hx hb (by omega) (by omega) dX8_count_33 (by decide) (fun c_33 => ?_) (fun c_33 => ?_)
            · obtain rfl : k = 8 := by omega
              refine lv_iload_n hx hb dX8_count_92 rfl (lv_at hl 1 rfl) ?_
              refine lv_iconst (v := nI 1) hx hb dX8_count_93 (by decide) ?_
              refine n_ne (tgt := 105) hx hb (by omega) (by omega) dX8_count_94 (by decide) (fun c_94 => ?_) (fun c_94 => ?_)
              · refine lv_iload_n hx hb dX8_count_105 rfl (lv_at hl 1 rfl) ?_
                refine lv_iconst (v := nI 2) hx hb dX8_count_106 (by decide) ?_
                refine n_ne (tgt := 117) hx hb (by omega) (by omega) dX8_count_107 (by decide) (fun c_107 => ?_) (fun c_107 => ?_)
                · refine lv_iload_n hx hb dX8_count_117 rfl (lv_at hl 1 rfl) ?_
                  refine lv_iconst (v := nI 3) hx hb dX8_count_118 (by decide) ?_
                  refine n_ne (tgt := 129) hx hb (by omega) (by omega) dX8_count_119 (by decide) (fun c_119 => ?_) (fun c_119 => ?_)
                  · exact absurd rfl c_119
                  · refine lv_aload_n hx hb dX8_count_122 rfl (lv_at hl 0 rfl) ?_
                    refine gf_X8_268 F hw 0 rfl rfl dX8_count_123 ?_
                    refine lv_goto (tgt := 162) hx hb dX8_count_126 (by decide) ?_
                    exact rt_i F hr hlk hQ hw (nI 0) (Or.inl ⟨3, by decide, rfl, rfl, rfl⟩) rfl dX8_count_162
                · exact absurd c_107 (by decide)
              · exact absurd c_94 (by decide)
            · refine lv_iload_n hx hb dX8_count_36 rfl (lv_at hl 2 rfl) ?_
              refine lv_iload_n hx hb dX8_count_37 rfl (lv_at hl 1 rfl) ?_
              refine lv_if_ne (tgt := 58) hx hb dX8_count_38 (by decide) (fun c_38 => ?_) (fun c_38 => ?_)
              · refine lv_iload_n hx hb dX8_count_58 rfl (lv_at hl 1 rfl) ?_
                refine lv_iconst (v := nI 5) hx hb dX8_count_59 (by decide) ?_
                refine n_ne (tgt := 83) hx hb (by omega) (by omega) dX8_count_60 (by decide) (fun c_60 => ?_) (fun c_60 => ?_)
                · refine lv_iconst (v := nI 0) hx hb dX8_count_83 (by decide) ?_
                  refine n_add hx hb dX8_count_84 ?_
                  refine lv_istore_n (lv' := [(2, .int (nI (0 + 0))), (0, .ref (md 0)), (1, .int (nI 3)), (3, .int (nI k))]) hx hb dX8_count_85 rfl hl (by decide) rfl (fun ls hl => ?_)
                  refine lv_iinc (v := nI (k + 1)) (lv' := [(3, .int (nI (k + 1))), (2, .int (nI (0 + 0))), (0, .ref (md 0)), (1, .int (nI 3))]) hx hb dX8_count_86 hl (k := 3) rfl (inc_n _ 1) (by decide) rfl (fun ls hl => ?_)
                  refine lv_goto (tgt := 30) hx hb dX8_count_89 (by decide) ?_
                  exact ih (k + 1) (by omega) (by omega) _ _ _ hw (lv_sub hl [2, 3, 1, 0] rfl)
                · exact absurd c_60 (by decide)
              · exact absurd c_38 (by decide)
        exact L_30 (8 + 1) 0 (by omega) (by omega) _ _ _ hw (lv_sub hl [2, 3, 1, 0] rfl)
      · refine lv_iconst (v := nI 0) hx hb dX8_count_26 (by decide) ?_
        refine lv_istore_n (lv' := [(2, .int (nI 0)), (0, .ref (md 0)), (1, .int (nI 4))]) hx hb dX8_count_27 rfl hl (by decide) rfl (fun ls hl => ?_)
        refine lv_iconst (v := nI 0) hx hb dX8_count_28 (by decide) ?_
        refine lv_istore_n (lv' := [(3, .int (nI 0)), (2, .int (nI 0)), (0, .ref (md 0)), (1, .int (nI 4))]) hx hb dX8_count_29 rfl hl (by decide) rfl (fun ls hl => ?_)
        have L_30 : ∀ (nn k : Nat), k ≤ 8 → 8 < k + nn → ∀ (H : Heap) (locs : List Loc) (ls : Array Slot), Wd g s A H locs (mX g md (nI 0) mmz msz mnow mgr mmo mre msd mbg mky mli mrf mrn mka mta mwd mms mhs mke msa mkn mkb mku mhp mpa mpb mit mus mid mbe mla msi mtx mra) → lv_has ls 4 [(0, .ref (md 0)), (1, .int (nI 4)), (2, .int (nI 0)), (3, .int (nI k))] → W p l e (rmm 1 25) s m args below meth c H locs 0 0 QQ (F0 m 30 ls []) := by
          intro nn
          induction nn with
          | zero => intro k h1 h2; exact absurd h2 (by omega)
          | succ nn ih =>
            intro k hk_k hn_k H locs ls hw hl
            refine lv_iload_n hx hb dX8_count_30 rfl (lv_at hl 3 rfl) ?_
            refine lv_bipush (v := nI 8) hx hb dX8_count_31 (by decide) ?_
            refine n_ge (tgt := 92) hx hb (by omega) (by omega) dX8_count_33 (by decide) (fun c_33 => ?_) (fun c_33 => ?_)
            · obtain rfl : k = 8 := by omega
              refine lv_iload_n hx hb dX8_count_92 rfl (lv_at hl 1 rfl) ?_
              refine lv_iconst (v := nI 1) hx hb dX8_count_93 (by decide) ?_
              refine n_ne (tgt := 105) hx hb (by omega) (by omega) dX8_count_94 (by decide) (fun c_94 => ?_) (fun c_94 => ?_)
              · refine lv_iload_n hx hb dX8_count_105 rfl (lv_at hl 1 rfl) ?_
                refine lv_iconst (v := nI 2) hx hb dX8_count_106 (by decide) ?_
                refine n_ne (tgt := 117) hx hb (by omega) (by omega) dX8_count_107 (by decide) (fun c_107 => ?_) (fun c_107 => ?_)
                · refine lv_iload_n hx hb dX8_count_117 rfl (lv_at hl 1 rfl) ?_
                  refine lv_iconst (v := nI 3) hx hb dX8_count_118 (by decide) ?_
                  refine n_ne (tgt := 129) hx hb (by omega) (by omega) dX8_count_119 (by decide) (fun c_119 => ?_) (fun c_119 => ?_)
                  · refine lv_iload_n hx hb dX8_count_129 rfl (lv_at hl 1 rfl) ?_
                    refine lv_iconst (v := nI 4) hx hb dX8_count_130 (by decide) ?_
                    refine n_ne (tgt := 141) hx hb (by omega) (by omega) dX8_count_131 (by decide) (fun c_131 => ?_) (fun c_131 => ?_)
                    · exact absurd rfl c_131
                    · refine lv_aload_n hx hb dX8_count_134 rfl (lv_at hl 0 rfl) ?_
                      refine gf_X8_274 F hw 0 rfl rfl dX8_count_135 ?_
                      refine lv_goto (tgt := 162) hx hb dX8_count_138 (by decide) ?_
                      exact rt_i F hr hlk hQ hw (nI 0) (Or.inl ⟨4, by decide, rfl, rfl, rfl⟩) rfl dX8_count_162
                  · exact absurd c_119 (by decide)
                · exact absurd c_107 (by decide)
              · exact absurd c_94 (by decide)
            · refine lv_iload_n hx hb dX8_count_36 rfl (lv_at hl 2 rfl) ?_
              refine lv_iload_n hx hb dX8_count_37 rfl (lv_at hl 1 rfl) ?_
              refine lv_if_ne (tgt := 58) hx hb dX8_count_38 (by decide) (fun c_38 => ?_) (fun c_38 => ?_)
              · refine lv_iload_n hx hb dX8_count_58 rfl (lv_at hl 1 rfl) ?_
                refine lv_iconst (v := nI 5) hx hb dX8_count_59 (by decide) ?_
                refine n_ne (tgt := 83) hx hb (by omega) (by omega) dX8_count_60 (by decide) (fun c_60 => ?_) (fun c_60 => ?_)
                · refine lv_iconst (v := nI 0) hx hb dX8_count_83 (by decide) ?_
                  refine n_add hx hb dX8_count_84 ?_
                  refine lv_istore_n (lv' := [(2, .int (nI (0 + 0))), (0, .ref (md 0)), (1, .int (nI 4)), (3, .int (nI k))]) hx hb dX8_count_85 rfl hl (by decide) rfl (fun ls hl => ?_)
                  refine lv_iinc (v := nI (k + 1)) (lv' := [(3, .int (nI (k + 1))), (2, .int (nI (0 + 0))), (0, .ref (md 0)), (1, .int (nI 4))]) hx hb dX8_count_86 hl (k := 3) rfl (inc_n _ 1) (by decide) rfl (fun ls hl => ?_)
                  refine lv_goto (tgt := 30) hx hb dX8_count_89 (by decide) ?_
                  exact ih (k + 1) (by omega) (by omega) _ _ _ hw (lv_sub hl [2, 3, 1, 0] rfl)
                · exact absurd c_60 (by decide)
              · exact absurd c_38 (by decide)
        exact L_30 (8 + 1) 0 (by omega) (by omega) _ _ _ hw (lv_sub hl [2, 3, 1, 0] rfl)
      · refine lv_iconst (v := nI 0) hx hb dX8_count_26 (by decide) ?_
        refine lv_istore_n (lv' := [(2, .int (nI 0)), (0, .ref (md 0)), (1, .int (nI 5))]) hx hb dX8_count_27 rfl hl (by decide) rfl (fun ls hl => ?_)
        refine lv_iconst (v := nI 0) hx hb dX8_count_28 (by decide) ?_
        refine lv_istore_n (lv' := [(3, .int (nI 0)), (2, .int (nI 0)), (0, .ref (md 0)), (1, .int (nI 5))]) hx hb dX8_count_29 rfl hl (by decide) rfl (fun ls hl => ?_)
        have L_30 : ∀ (nn k : Nat), k ≤ 8 → 8 < k + nn → ∀ (H : Heap) (locs : List Loc) (ls : Array Slot), Wd g s A H locs (mX g md (nI 0) mmz msz mnow mgr mmo mre msd mbg mky mli mrf mrn mka mta mwd mms mhs mke msa mkn mkb mku mhp mpa mpb mit mus mid mbe mla msi mtx mra) → lv_has ls 4 [(0, .ref (md 0)), (1, .int (nI 5)), (2, .int (nI (cntL (lvK mky mku mnow mgr) k))), (3, .int (nI k))] → W p l e (rmm 1 25) s m args below meth c H locs 0 0 QQ (F0 m 30 ls []) := by
          intro nn
          induction nn with
          | zero => intro k h1 h2; exact absurd h2 (by omega)
          | succ nn ih =>
            intro k hk_k hn_k H locs ls hw hl
            refine lv_iload_n hx hb dX8_count_30 rfl (lv_at hl 3 rfl) ?_
            refine lv_bipush (v := nI 8) hx hb dX8_count_31 (by decide) ?_
            refine n_ge (tgt := 92) hx hb (by omega) (by omega) dX8_count_33 (by decide) (fun c_33 => ?_) (fun c_33 => ?_)
            · obtain rfl : k = 8 := by omega
              refine lv_iload_n hx hb dX8_count_92 rfl (lv_at hl 1 rfl) ?_
              refine lv_iconst (v := nI 1) hx hb dX8_count_93 (by decide) ?_
              refine n_ne (tgt := 105) hx hb (by omega) (by omega) dX8_count_94 (by decide) (fun c_94 => ?_) (fun c_94 => ?_)
              · refine lv_iload_n hx hb dX8_count_105 rfl (lv_at hl 1 rfl) ?_
                refine lv_iconst (v := nI 2) hx hb dX8_count_106 (by decide) ?_
                refine n_ne (tgt := 117) hx hb (by omega) (by omega) dX8_count_107 (by decide) (fun c_107 => ?_) (fun c_107 => ?_)
                · refine lv_iload_n hx hb dX8_count_117 rfl (lv_at hl 1 rfl) ?_
                  refine lv_iconst (v := nI 3) hx hb dX8_count_118 (by decide) ?_
                  refine n_ne (tgt := 129) hx hb (by omega) (by omega) dX8_count_119 (by decide) (fun c_119 => ?_) (fun c_119 => ?_)
                  · refine lv_iload_n hx hb dX8_count_129 rfl (lv_at hl 1 rfl) ?_
                    refine lv_iconst (v := nI 4) hx hb dX8_count_130 (by decide) ?_
                    refine n_ne (tgt := 141) hx hb (by omega) (by omega) dX8_count_131 (by decide) (fun c_131 => ?_) (fun c_131 => ?_)
                    · refine lv_iload_n hx hb dX8_count_141 rfl (lv_at hl 1 rfl) ?_
                      refine lv_bipush (v := nI 6) hx hb dX8_count_142 (by decide) ?_
                      refine n_ne (tgt := 161) hx hb (by omega) (by omega) dX8_count_144 (by decide) (fun c_144 => ?_) (fun c_144 => ?_)
                      · refine lv_iload_n hx hb dX8_count_161 rfl (lv_at hl 2 rfl) ?_
                        exact rt_i F hr hlk hQ hw (nI 0) (Or.inl ⟨5, by decide, rfl, rfl, rfl⟩) rfl dX8_count_162
                      · exact absurd c_144 (by decide)
                    · exact absurd c_131 (by decide)
                  · exact absurd c_119 (by decide)
                · exact absurd c_107 (by decide)
              · exact absurd c_94 (by decide)
            · refine lv_iload_n hx hb dX8_count_36 rfl (lv_at hl 2 rfl) ?_
              refine lv_iload_n hx hb dX8_count_37 rfl (lv_at hl 1 rfl) ?_
              refine lv_if_ne (tgt := 58) hx hb dX8_count_38 (by decide) (fun c_38 => ?_) (fun c_38 => ?_)
              · refine lv_iload_n hx hb dX8_count_58 rfl (lv_at hl 1 rfl) ?_
                refine lv_iconst (v := nI 5) hx hb dX8_count_59 (by decide) ?_
                refine n_ne (tgt := 83) hx hb (by omega) (by omega) dX8_count_60 (by decide) (fun c_60 => ?_) (fun c_60 => ?_)
                · exact absurd rfl c_60
                · refine lv_iload_n hx hb dX8_count_63 rfl (lv_at hl 3 rfl) ?_
                  refine lv_aload_n hx hb dX8_count_64 rfl (lv_at hl 0 rfl) ?_
                  refine gf_X8_118 F hw 0 rfl rfl dX8_count_65 ?_
                  refine n_ge (tgt := 83) hx hb (by omega) (by omega) dX8_count_68 (by decide) (fun c_68 => ?_) (fun c_68 => ?_)
                  · refine lv_iconst (v := nI 0) hx hb dX8_count_83 (by decide) ?_
                    refine n_add hx hb dX8_count_84 ?_
                    refine lv_istore_n (lv' := [(2, .int (nI ((cntL (lvK mky mku mnow mgr) k) + 0))), (0, .ref (md 0)), (1, .int (nI 5)), (3, .int (nI k))]) hx hb dX8_count_85 rfl hl (by decide) rfl (fun ls hl => ?_)
                    refine lv_iinc (v := nI (k + 1)) (lv' := [(3, .int (nI (k + 1))), (2, .int (nI ((cntL (lvK mky mku mnow mgr) k) + 0))), (0, .ref (md 0)), (1, .int (nI 5))]) hx hb dX8_count_86 hl (k := 3) rfl (inc_n _ 1) (by decide) rfl (fun ls hl => ?_)
                    refine lv_goto (tgt := 30) hx hb dX8_count_89 (by decide) ?_
                    first | rw [← lk_1 c_68] at hl | rw [← lk_2 c_68 c_76] at hl | rw [← lk_3 c_68 c_76] at hl
                    exact ih (k + 1) (by omega) (by omega) _ _ _ hw (lv_sub hl [2, 3, 1, 0] rfl)
                  · refine lv_aload_n hx hb dX8_count_71 rfl (lv_at hl 0 rfl) ?_
                    refine lv_iload_n hx hb dX8_count_72 rfl (lv_at hl 3 rfl) ?_
                    refine cl_iF hw (rn_VF F hw (c_X8_isLive g l md (nI 0) mmz msz mnow mgr mmo mre msd mbg mky mli mrf mrn mka mta mwd mms mhs mke msa mkn mkb mku mhp mpa mpb mit mus mid mbe mla msi mtx mra k (by omega) (by omega) (by omega)) (cw_X8_261 F.2.2.2.2 ⟨by decide, by decide⟩)    0 rfl rfl rfl hl.1 rfl (Nat.le_of_ble_eq_true rfl) dX8_count_73 ⟨Nat.zero_le _, Nat.zero_le _⟩) (fun v_11 u_10 H locs hp_12 hw => ?_)
                    subst hp_12
                    replace hw : Wd g s A H locs (mX g md (nI 0) mmz msz mnow mgr mmo mre msd mbg mky mli mrf mrn mka mta mwd mms mhs mke msa mkn mkb mku mhp mpa mpb mit mus mid mbe mla msi mtx mra) := hw
                    refine lv_if_eq (tgt := 83) hx hb dX8_count_76 (by decide) (fun c_76 => ?_) (fun c_76 => ?_)
                    · refine lv_iconst (v := nI 0) hx hb dX8_count_83 (by decide) ?_
                      refine n_add hx hb dX8_count_84 ?_
                      refine lv_istore_n (lv' := [(2, .int (nI ((cntL (lvK mky mku mnow mgr) k) + 0))), (0, .ref (md 0)), (1, .int (nI 5)), (3, .int (nI k))]) hx hb dX8_count_85 rfl hl (by decide) rfl (fun ls hl => ?_)
                      refine lv_iinc (v := nI (k + 1)) (lv' := [(3, .int (nI (k + 1))), (2, .int (nI ((cntL (lvK mky mku mnow mgr) k) + 0))), (0, .ref (md 0)), (1, .int (nI 5))]) hx hb dX8_count_86 hl (k := 3) rfl (inc_n _ 1) (by decide) rfl (fun ls hl => ?_)
                      refine lv_goto (tgt := 30) hx hb dX8_count_89 (by decide) ?_
                      first | rw [← lk_1 c_68] at hl | rw [← lk_2 c_68 c_76] at hl | rw [← lk_3 c_68 c_76] at hl
                      exact ih (k + 1) (by omega) (by omega) _ _ _ hw (lv_sub hl [2, 3, 1, 0] rfl)
                    · refine lv_iconst (v := nI 1) hx hb dX8_count_79 (by decide) ?_
                      refine lv_goto (tgt := 84) hx hb dX8_count_80 (by decide) ?_
                      refine n_add hx hb dX8_count_84 ?_
                      refine lv_istore_n (lv' := [(2, .int (nI ((cntL (lvK mky mku mnow mgr) k) + 1))), (0, .ref (md 0)), (1, .int (nI 5)), (3, .int (nI k))]) hx hb dX8_count_85 rfl hl (by decide) rfl (fun ls hl => ?_)
                      refine lv_iinc (v := nI (k + 1)) (lv' := [(3, .int (nI (k + 1))), (2, .int (nI ((cntL (lvK mky mku mnow mgr) k) + 1))), (0, .ref (md 0)), (1, .int (nI 5))]) hx hb dX8_count_86 hl (k := 3) rfl (inc_n _ 1) (by decide) rfl (fun ls hl => ?_)
                      refine lv_goto (tgt := 30) hx hb dX8_count_89 (by decide) ?_
                      first | rw [← lk_1 c_68] at hl | rw [← lk_2 c_68 c_76] at hl | rw [← lk_3 c_68 c_76] at hl
                      exact ih (k + 1) (by omega) (by omega) _ _ _ hw (lv_sub hl [2, 3, 1, 0] rfl)
              · exact absurd c_38 (by decide)
        exact L_30 (8 + 1) 0 (by omega) (by omega) _ _ _ hw (lv_sub hl [2, 3, 1, 0] rfl)
      · refine lv_iconst (v := nI 0) hx hb dX8_count_26 (by decide) ?_
        refine lv_istore_n (lv' := [(2, .int (nI 0)), (0, .ref (md 0)), (1, .int (nI 6))]) hx hb dX8_count_27 rfl hl (by decide) rfl (fun ls hl => ?_)
        refine lv_iconst (v := nI 0) hx hb dX8_count_28 (by decide) ?_
        refine lv_istore_n (lv' := [(3, .int (nI 0)), (2, .int (nI 0)), (0, .ref (md 0)), (1, .int (nI 6))]) hx hb dX8_count_29 rfl hl (by decide) rfl (fun ls hl => ?_)
        have L_30 : ∀ (nn k : Nat), k ≤ 8 → 8 < k + nn → ∀ (H : Heap) (locs : List Loc) (ls : Array Slot), Wd g s A H locs (mX g md (nI 0) mmz msz mnow mgr mmo mre msd mbg mky mli mrf mrn mka mta mwd mms mhs mke msa mkn mkb mku mhp mpa mpb mit mus mid mbe mla msi mtx mra) → lv_has ls 4 [(0, .ref (md 0)), (1, .int (nI 6)), (2, .int (nI 0)), (3, .int (nI k))] → W p l e (rmm 1 25) s m args below meth c H locs 0 0 QQ (F0 m 30 ls []) := by
          intro nn
          induction nn with
          | zero => intro k h1 h2; exact absurd h2 (by omega)
          | succ nn ih =>
            intro k hk_k hn_k H locs ls hw hl
            refine lv_iload_n hx hb dX8_count_30 rfl (lv_at hl 3 rfl) ?_
            refine lv_bipush (v := nI 8) hx hb dX8_count_31 (by decide) ?_
            refine n_ge (tgt := 92) hx hb (by omega) (by omega) dX8_count_33 (by decide) (fun c_33 => ?_) (fun c_33 => ?_)
            · obtain rfl : k = 8 := by omega
              refine lv_iload_n hx hb dX8_count_92 rfl (lv_at hl 1 rfl) ?_
              refine lv_iconst (v := nI 1) hx hb dX8_count_93 (by decide) ?_
              refine n_ne (tgt := 105) hx hb (by omega) (by omega) dX8_count_94 (by decide) (fun c_94 => ?_) (fun c_94 => ?_)
              · refine lv_iload_n hx hb dX8_count_105 rfl (lv_at hl 1 rfl) ?_
                refine lv_iconst (v := nI 2) hx hb dX8_count_106 (by decide) ?_
                refine n_ne (tgt := 117) hx hb (by omega) (by omega) dX8_count_107 (by decide) (fun c_107 => ?_) (fun c_107 => ?_)
                · refine lv_iload_n hx hb dX8_count_117 rfl (lv_at hl 1 rfl) ?_
                  refine lv_iconst (v := nI 3) hx hb dX8_count_118 (by decide) ?_
                  refine n_ne (tgt := 129) hx hb (by omega) (by omega) dX8_count_119 (by decide) (fun c_119 => ?_) (fun c_119 => ?_)
                  · refine lv_iload_n hx hb dX8_count_129 rfl (lv_at hl 1 rfl) ?_
                    refine lv_iconst (v := nI 4) hx hb dX8_count_130 (by decide) ?_
                    refine n_ne (tgt := 141) hx hb (by omega) (by omega) dX8_count_131 (by decide) (fun c_131 => ?_) (fun c_131 => ?_)
                    · refine lv_iload_n hx hb dX8_count_141 rfl (lv_at hl 1 rfl) ?_
                      refine lv_bipush (v := nI 6) hx hb dX8_count_142 (by decide) ?_
                      refine n_ne (tgt := 161) hx hb (by omega) (by omega) dX8_count_144 (by decide) (fun c_144 => ?_) (fun c_144 => ?_)
                      · exact absurd rfl c_144
                      · refine lv_aload_n hx hb dX8_count_147 rfl (lv_at hl 0 rfl) ?_
                        refine gf_X8_122 F hw 0 rfl rfl dX8_count_148 ?_
                        refine lv_aload_n hx hb dX8_count_151 rfl (lv_at hl 0 rfl) ?_
                        refine gf_X8_118 F hw 0 rfl rfl dX8_count_152 ?_
                        refine lv_iconst (v := nI 1) hx hb dX8_count_155 (by decide) ?_
                        refine n_sub hx hb (by omega) dX8_count_156 ?_
                        refine ia_ld F hw 9 rfl (by omega) (by omega) dX8_count_157 ?_
                        refine lv_goto (tgt := 162) hx hb dX8_count_158 (by decide) ?_
                        exact rt_i F hr hlk hQ hw (nI 0) (Or.inl ⟨6, by decide, rfl, rfl, rfl⟩) rfl dX8_count_162
                    · exact absurd c_131 (by decide)
                  · exact absurd c_119 (by decide)
                · exact absurd c_107 (by decide)
              · exact absurd c_94 (by decide)
            · refine lv_iload_n hx hb dX8_count_36 rfl (lv_at hl 2 rfl) ?_
              refine lv_iload_n hx hb dX8_count_37 rfl (lv_at hl 1 rfl) ?_
              refine lv_if_ne (tgt := 58) hx hb dX8_count_38 (by decide) (fun c_38 => ?_) (fun c_38 => ?_)
              · refine lv_iload_n hx hb dX8_count_58 rfl (lv_at hl 1 rfl) ?_
                refine lv_iconst (v := nI 5) hx hb dX8_count_59 (by decide) ?_
                refine n_ne (tgt := 83) hx hb (by omega) (by omega) dX8_count_60 (by decide) (fun c_60 => ?_) (fun c_60 => ?_)
                · refine lv_iconst (v := nI 0) hx hb dX8_count_83 (by decide) ?_
                  refine n_add hx hb dX8_count_84 ?_
                  refine lv_istore_n (lv' := [(2, .int (nI (0 + 0))), (0, .ref (md 0)), (1, .int (nI 6)), (3, .int (nI k))]) hx hb dX8_count_85 rfl hl (by decide) rfl (fun ls hl => ?_)
                  refine lv_iinc (v := nI (k + 1)) (lv' := [(3, .int (nI (k + 1))), (2, .int (nI (0 + 0))), (0, .ref (md 0)), (1, .int (nI 6))]) hx hb dX8_count_86 hl (k := 3) rfl (inc_n _ 1) (by decide) rfl (fun ls hl => ?_)
                  refine lv_goto (tgt := 30) hx hb dX8_count_89 (by decide) ?_
                  exact ih (k + 1) (by omega) (by omega) _ _ _ hw (lv_sub hl [2, 3, 1, 0] rfl)
                · exact absurd c_60 (by decide)
              · exact absurd c_38 (by decide)
        exact L_30 (8 + 1) 0 (by omega) (by omega) _ _ _ hw (lv_sub hl [2, 3, 1, 0] rfl)
    · exact absurd (by decide) c_21
