theorem sg_1 : ∀ n, n < 26 → nI (65 + n) = kA n := by decide +kernel
theorem sg_2 : ∀ n, n < 52 → 26 ≤ n → nI (97 + n - 26) = kA n := by decide +kernel
theorem sg_3 : ∀ n, n < 62 → 52 ≤ n → nI (48 + n - 52) = kA n := by decide +kernel
set_option maxHeartbeats 4000000 in
set_option maxRecDepth 100000 in
theorem c_X8_signOf (g : GG) (l : Launch) (n : Nat) (hn : n < 64) : Ct g l yX8_signOf cX8_signOf 1 (some .int) 0 0 [.int (nI n)] [] (Ri g (fun (v : Int32) (u : Unit) => v = kA n) (fun (u : Unit) => [])) := by
  refine mkC (by decide) (Nat.le_of_ble_eq_true rfl) ?_
  intro p e s m args below meth c A ls QQ F hr hlk hnm hQ hw hl
  have hx := F.1
  have hb := F.2.1
  replace hl : lv_has ls 1 [(0, .int (nI n))] := hl
  refine lv_iload_n hx hb dX8_signOf_0 rfl (lv_at hl 0 rfl) ?_
  refine lv_bipush (v := nI 26) hx hb dX8_signOf_1 (by decide) ?_
  refine n_ge (tgt := 13) hx hb (by omega) (by omega) dX8_signOf_3 (by decide) (fun c_3 => ?_) (fun c_3 => ?_)
  · refine lv_iload_n hx hb dX8_signOf_13 rfl (lv_at hl 0 rfl) ?_
    refine lv_bipush (v := nI 52) hx hb dX8_signOf_14 (by decide) ?_
    refine n_ge (tgt := 29) hx hb (by omega) (by omega) dX8_signOf_16 (by decide) (fun c_16 => ?_) (fun c_16 => ?_)
    · refine lv_iload_n hx hb dX8_signOf_29 rfl (lv_at hl 0 rfl) ?_
      refine lv_bipush (v := nI 62) hx hb dX8_signOf_30 (by decide) ?_
      refine n_ge (tgt := 45) hx hb (by omega) (by omega) dX8_signOf_32 (by decide) (fun c_32 => ?_) (fun c_32 => ?_)
      · refine lv_iload_n hx hb dX8_signOf_45 rfl (lv_at hl 0 rfl) ?_
        refine lv_bipush (v := nI 62) hx hb dX8_signOf_46 (by decide) ?_
        refine n_ne (tgt := 56) hx hb (by omega) (by omega) dX8_signOf_48 (by decide) (fun c_48 => ?_) (fun c_48 => ?_)
        · refine lv_bipush (v := nI 95) hx hb dX8_signOf_56 (by decide) ?_
          exact rt_i F hr hlk hQ hw () (by first | exact sg_1 n c_3 | exact sg_2 n c_16 c_3 | exact sg_3 n c_32 c_16 | (subst c_48; decide) | (have e9 : n = 63 := (by omega); subst e9; decide)) rfl dX8_signOf_58
        · refine lv_bipush (v := nI 45) hx hb dX8_signOf_51 (by decide) ?_
          refine lv_goto (tgt := 58) hx hb dX8_signOf_53 (by decide) ?_
          exact rt_i F hr hlk hQ hw () (by first | exact sg_1 n c_3 | exact sg_2 n c_16 c_3 | exact sg_3 n c_32 c_16 | (subst c_48; decide) | (have e9 : n = 63 := (by omega); subst e9; decide)) rfl dX8_signOf_58
      · refine lv_bipush (v := nI 48) hx hb dX8_signOf_35 (by decide) ?_
        refine lv_iload_n hx hb dX8_signOf_37 rfl (lv_at hl 0 rfl) ?_
        refine n_add hx hb dX8_signOf_38 ?_
        refine lv_bipush (v := nI 52) hx hb dX8_signOf_39 (by decide) ?_
        refine n_sub hx hb (by omega) dX8_signOf_41 ?_
        refine lv_goto (tgt := 58) hx hb dX8_signOf_42 (by decide) ?_
        exact rt_i F hr hlk hQ hw () (by first | exact sg_1 n c_3 | exact sg_2 n c_16 c_3 | exact sg_3 n c_32 c_16 | (subst c_48; decide) | (have e9 : n = 63 := (by omega); subst e9; decide)) rfl dX8_signOf_58
    · refine lv_bipush (v := nI 97) hx hb dX8_signOf_19 (by decide) ?_
      refine lv_iload_n hx hb dX8_signOf_21 rfl (lv_at hl 0 rfl) ?_
      refine n_add hx hb dX8_signOf_22 ?_
      refine lv_bipush (v := nI 26) hx hb dX8_signOf_23 (by decide) ?_
      refine n_sub hx hb (by omega) dX8_signOf_25 ?_
      refine lv_goto (tgt := 58) hx hb dX8_signOf_26 (by decide) ?_
      exact rt_i F hr hlk hQ hw () (by first | exact sg_1 n c_3 | exact sg_2 n c_16 c_3 | exact sg_3 n c_32 c_16 | (subst c_48; decide) | (have e9 : n = 63 := (by omega); subst e9; decide)) rfl dX8_signOf_58
  · refine lv_bipush (v := nI 65) hx hb dX8_signOf_6 (by decide) ?_
    refine lv_iload_n hx hb dX8_signOf_8 rfl (lv_at hl 0 rfl) ?_
    refine n_add hx hb dX8_signOf_9 ?_
    refine lv_goto (tgt := 58) hx hb dX8_signOf_10 (by decide) ?_
    exact rt_i F hr hlk hQ hw () (by first | exact sg_1 n c_3 | exact sg_2 n c_16 c_3 | exact sg_3 n c_32 c_16 | (subst c_48; decide) | (have e9 : n = 63 := (by omega); subst e9; decide)) rfl dX8_signOf_58
def btN (x : Int32) (s : Nat) : Nat := (x >>> (nI s &&& 31)).toBitVec.toNat % 2 ^ 1
def cdV (ra : Nat → Int32) (bytes k : Nat) : Nat → Nat
  | 0 => 0
  | j + 1 => 2 * cdV ra bytes k j + (if 6 * k + j < 8 * bytes then btN (ra ((6 * k + j) / 8)) (7 - (6 * k + j) % 8) else 0)
theorem cd_t {ra : Nat → Int32} {bytes k j : Nat} (h : 6 * k + j < 8 * bytes) : cdV ra bytes k (j + 1) = 2 * cdV ra bytes k j + btN (ra ((6 * k + j) / 8)) (7 - (6 * k + j) % 8) := by simp only [cdV, h, if_true]
theorem cd_f {ra : Nat → Int32} {bytes k j : Nat} (h : 8 * bytes ≤ 6 * k + j) : cdV ra bytes k (j + 1) = 2 * cdV ra bytes k j + 0 := by simp only [cdV, Nat.not_lt.mpr h, if_false]
theorem btN_lt (x : Int32) (s : Nat) : btN x s < 2 := Nat.mod_lt _ (by decide)
theorem cd_lt (ra : Nat → Int32) (bytes k : Nat) : ∀ j, cdV ra bytes k j < 2 ^ j := by
  intro j
  induction j with
  | zero => exact Nat.one_pos
  | succ j ih =>
    rw [Nat.pow_succ]
    by_cases h : 6 * k + j < 8 * bytes
    · rw [cd_t h]; have := btN_lt (ra ((6 * k + j) / 8)) (7 - (6 * k + j) % 8); omega
    · rw [cd_f (by omega)]; omega
set_option maxHeartbeats 4000000 in
set_option maxRecDepth 100000 in
theorem c_X8_codedAt (g : GG) (l : Launch) (md : Nat → Nat) (mfa : Int32) (mmz : Nat) (msz : Nat) (mnow : Int64) (mgr : Int64) (mmo : Int64) (mre : Int64) (msd : Int64) (mbg : Int64) (mky : Nat) (mli : Int32) (mrf : Int32) (mrn : Int32) (mka : Int32) (mta : Nat → Int32) (mwd : Nat → Int32) (mms : Nat → Int32) (mhs : Nat → Int32) (mke : Nat → Int32) (msa : Nat → Int32) (mkn : Nat → Int32) (mkb : Nat → Int32) (mku : Nat → Int64) (mhp : Nat → Int32) (mpa : Nat → Int32) (mpb : Nat → Int32) (mit : Nat → Int32) (mus : Nat → Int32) (mid : Nat → Int64) (mbe : Nat → Int64) (mla : Nat → Int64) (msi : Nat → Int32) (mtx : Nat → Int32) (mra : Nat → Int32) (k : Nat) (bytes : Nat) (hby : bytes ≤ 24) (hk : k ≤ 31) : Ct g l yX8_codedAt cX8_codedAt 5 (some .int) 1 20 [.ref (md 0), .int (nI k), .int (nI bytes)] (mX g md mfa mmz msz mnow mgr mmo mre msd mbg mky mli mrf mrn mka mta mwd mms mhs mke msa mkn mkb mku mhp mpa mpb mit mus mid mbe mla msi mtx mra) (Ri g (fun (v : Int32) (u : Unit) => v = kA (cdV mra bytes k 6)) (fun (u : Unit) => (mX g md mfa mmz msz mnow mgr mmo mre msd mbg mky mli mrf mrn mka mta mwd mms mhs mke msa mkn mkb mku mhp mpa mpb mit mus mid mbe mla msi mtx mra))) := by
  refine mkC (by decide) (Nat.le_of_ble_eq_true rfl) ?_
  intro p e s m args below meth c A ls QQ F hr hlk hnm hQ hw hl
  have hx := F.1
  have hb := F.2.1
  replace hl : lv_has ls 5 [(0, .ref (md 0)), (1, .int (nI k)), (2, .int (nI bytes))] := hl
  refine lv_iconst (v := nI 0) hx hb dX8_codedAt_0 (by decide) ?_
  refine lv_istore_n (lv' := [(3, .int (nI 0)), (0, .ref (md 0)), (1, .int (nI k)), (2, .int (nI bytes))]) hx hb dX8_codedAt_1 rfl hl (by decide) rfl (fun ls hl => ?_)
  refine lv_bipush (v := nI 6) hx hb dX8_codedAt_2 (by decide) ?_
  refine lv_iload_n hx hb dX8_codedAt_4 rfl (lv_at hl 2 rfl) ?_
  refine n_mul hx hb dX8_codedAt_5 ?_
  refine lv_istore (lv' := [(4, .int (nI (6 * k))), (3, .int (nI 0)), (0, .ref (md 0)), (1, .int (nI k)), (2, .int (nI bytes))]) hx hb dX8_codedAt_6 hl (by decide) rfl (fun ls hl => ?_)
  have L_8 : ∀ (nn j : Nat), j ≤ 6 → 6 < j + nn → ∀ (H : Heap) (locs : List Loc) (ls : Array Slot), Wd g s A H locs (mX g md mfa mmz msz mnow mgr mmo mre msd mbg mky mli mrf mrn mka mta mwd mms mhs mke msa mkn mkb mku mhp mpa mpb mit mus mid mbe mla msi mtx mra) → lv_has ls 5 [(0, .ref (md 0)), (1, .int (nI k)), (2, .int (nI bytes)), (3, .int (nI (cdV mra bytes k j))), (4, .int (nI (6 * k + j)))] → W p l e (rmm 1 20) s m args below meth c H locs 0 0 QQ (F0 m 8 ls []) := by
    intro nn
    induction nn with
    | zero => intro j h1 h2; exact absurd h2 (by omega)
    | succ nn ih =>
      intro j hk_j hn_j H locs ls hw hl
      refine lv_iload hx hb dX8_codedAt_8 (lv_at hl 4 rfl) ?_
      refine lv_bipush (v := nI 6) hx hb dX8_codedAt_10 (by decide) ?_
      refine lv_iload_n hx hb dX8_codedAt_12 rfl (lv_at hl 1 rfl) ?_
      refine n_mul hx hb dX8_codedAt_13 ?_
      refine lv_bipush (v := nI 6) hx hb dX8_codedAt_14 (by decide) ?_
      refine n_add hx hb dX8_codedAt_16 ?_
      refine n_ge (tgt := 65) hx hb (by omega) (by omega) dX8_codedAt_17 (by decide) (fun c_17 => ?_) (fun c_17 => ?_)
      · obtain rfl : j = 6 := by omega
        refine lv_iload_n hx hb dX8_codedAt_65 rfl (lv_at hl 3 rfl) ?_
        refine cl_i hw [] rfl (rn_S F hw (c_X8_signOf g l (cdV mra bytes k 6) (cd_lt mra bytes k 6)) (cw_X8_200 F.2.2.2.2 ⟨by decide, by decide⟩) [] (by decide) rfl hl.1 rfl (Nat.le_of_ble_eq_true rfl) dX8_codedAt_66 ⟨Nat.zero_le _, Nat.zero_le _⟩) (fun _ => rfl) (fun v_2 u_1 H locs hp_3 hw => ?_)
        subst hp_3
        replace hw : Wd g s A H locs (mX g md mfa mmz msz mnow mgr mmo mre msd mbg mky mli mrf mrn mka mta mwd mms mhs mke msa mkn mkb mku mhp mpa mpb mit mus mid mbe mla msi mtx mra) := hw
        exact rt_i F hr hlk hQ hw () rfl rfl dX8_codedAt_69
      · refine lv_iconst (v := nI 2) hx hb dX8_codedAt_20 (by decide) ?_
        refine lv_iload_n hx hb dX8_codedAt_21 rfl (lv_at hl 3 rfl) ?_
        refine n_mul hx hb dX8_codedAt_22 ?_
        refine lv_iload hx hb dX8_codedAt_23 (lv_at hl 4 rfl) ?_
        refine lv_bipush (v := nI 8) hx hb dX8_codedAt_25 (by decide) ?_
        refine lv_iload_n hx hb dX8_codedAt_27 rfl (lv_at hl 2 rfl) ?_
        refine n_mul hx hb dX8_codedAt_28 ?_
        refine n_ge (tgt := 56) hx hb (by omega) (by omega) dX8_codedAt_29 (by decide) (fun c_29 => ?_) (fun c_29 => ?_)
        · refine lv_iconst (v := nI 0) hx hb dX8_codedAt_56 (by decide) ?_
          refine n_add hx hb dX8_codedAt_57 ?_
          refine lv_istore_n (lv' := [(3, .int (nI ((2 * (cdV mra bytes k j)) + 0))), (0, .ref (md 0)), (1, .int (nI k)), (2, .int (nI bytes)), (4, .int (nI (6 * k + j)))]) hx hb dX8_codedAt_58 rfl hl (by decide) rfl (fun ls hl => ?_)
          refine lv_iinc (v := nI (6 * k + j + 1)) (lv' := [(4, .int (nI (6 * k + j + 1))), (3, .int (nI ((2 * (cdV mra bytes k j)) + 0))), (0, .ref (md 0)), (1, .int (nI k)), (2, .int (nI bytes))]) hx hb dX8_codedAt_59 hl (k := 4) rfl (inc_n _ 1) (by decide) rfl (fun ls hl => ?_)
          refine lv_goto (tgt := 8) hx hb dX8_codedAt_62 (by decide) ?_
          first | rw [← cd_t c_29] at hl | rw [← cd_f c_29] at hl
          exact ih (j + 1) (by omega) (by omega) _ _ _ hw (lv_sub hl [2, 3, 4, 1, 0] rfl)
        · refine lv_aload_n hx hb dX8_codedAt_32 rfl (lv_at hl 0 rfl) ?_
          refine gf_X8_163 F hw 0 rfl rfl dX8_codedAt_33 ?_
          refine lv_iload hx hb dX8_codedAt_36 (lv_at hl 4 rfl) ?_
          refine lv_bipush (v := nI 8) hx hb dX8_codedAt_38 (by decide) ?_
          refine n_div hx hb (by omega) (by omega) (by omega) dX8_codedAt_40 ?_
          refine ia_ld F hw 22 rfl (by omega) (by omega) dX8_codedAt_41 ?_
          refine lv_bipush (v := nI 7) hx hb dX8_codedAt_42 (by decide) ?_
          refine lv_iload hx hb dX8_codedAt_44 (lv_at hl 4 rfl) ?_
          refine lv_bipush (v := nI 8) hx hb dX8_codedAt_46 (by decide) ?_
          refine n_rem hx hb (by omega) (by omega) (by omega) dX8_codedAt_48 ?_
          refine n_sub hx hb (by omega) dX8_codedAt_49 ?_
          refine lv_ishr hx hb dX8_codedAt_50 ?_
          refine lv_iconst (v := nI 1) hx hb dX8_codedAt_51 (by decide) ?_
          refine lv_iand hx hb dX8_codedAt_52 ?_
          refine tp_i (y := nI (btN (mra ((6 * k + j) / 8)) (7 - (6 * k + j) % 8))) (pk_and _ 1 (by decide)) ?_
          refine lv_goto (tgt := 57) hx hb dX8_codedAt_53 (by decide) ?_
          refine n_add hx hb dX8_codedAt_57 ?_
          refine lv_istore_n (lv' := [(3, .int (nI ((2 * (cdV mra bytes k j)) + (btN (mra ((6 * k + j) / 8)) (7 - (6 * k + j) % 8))))), (0, .ref (md 0)), (1, .int (nI k)), (2, .int (nI bytes)), (4, .int (nI (6 * k + j)))]) hx hb dX8_codedAt_58 rfl hl (by decide) rfl (fun ls hl => ?_)
          refine lv_iinc (v := nI (6 * k + j + 1)) (lv' := [(4, .int (nI (6 * k + j + 1))), (3, .int (nI ((2 * (cdV mra bytes k j)) + (btN (mra ((6 * k + j) / 8)) (7 - (6 * k + j) % 8))))), (0, .ref (md 0)), (1, .int (nI k)), (2, .int (nI bytes))]) hx hb dX8_codedAt_59 hl (k := 4) rfl (inc_n _ 1) (by decide) rfl (fun ls hl => ?_)
          refine lv_goto (tgt := 8) hx hb dX8_codedAt_62 (by decide) ?_
          first | rw [← cd_t c_29] at hl | rw [← cd_f c_29] at hl
          exact ih (j + 1) (by omega) (by omega) _ _ _ hw (lv_sub hl [2, 3, 4, 1, 0] rfl)
  exact L_8 (6 + 1) 0 (by omega) (by omega) _ _ _ hw (lv_sub hl [2, 3, 4, 1, 0] rfl)
