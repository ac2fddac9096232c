theorem dn_lt : ∀ j, j ≤ 8 → (nI 7 - nI j < 0 ↔ j = 8) := by decide +kernel
theorem dn_s : ∀ j, j ≤ 7 → nI (7 - j) + -1 = nI 7 - nI (j + 1) := by decide +kernel
def stM (now mo re : Int64) (it : Nat → Int32) (be la : Nat → Int64) : Nat → Nat → Int32
  | 0 => it
  | j + 1 => upd (stM now mo re it be la j) (7 - j) (if stM now mo re it be la j (7 - j) = 0 then nI 0 else if ageI now (be (7 - j)) mo = 0 then (if ageI now (la (7 - j)) re = 0 then nI 1 else nI 0) else nI 0)
def frM (now mo re : Int64) (it : Nat → Int32) (be la : Nat → Int64) : Nat → Int32
  | 0 => (-1)
  | j + 1 => if stM now mo re it be la (j + 1) (7 - j) = 0 then nI (7 - j) else frM now mo re it be la j
section
variable {now mo re : Int64} {it : Nat → Int32} {be la : Nat → Int64} {j : Nat}
theorem sm_0 (h : stM now mo re it be la j (7 - j) = 0) : stM now mo re it be la (j + 1) = upd (stM now mo re it be la j) (7 - j) (nI 0) := by simp only [stM, h, if_true]
theorem sm_1 (h : ¬ stM now mo re it be la j (7 - j) = 0) (h1 : ¬ ageI now (be (7 - j)) mo = 0) : stM now mo re it be la (j + 1) = upd (stM now mo re it be la j) (7 - j) (nI 0) := by simp only [stM, h, h1, if_false]
theorem sm_2 (h : ¬ stM now mo re it be la j (7 - j) = 0) (h1 : ageI now (be (7 - j)) mo = 0) (h2 : ¬ ageI now (la (7 - j)) re = 0) : stM now mo re it be la (j + 1) = upd (stM now mo re it be la j) (7 - j) (nI 0) := by simp only [stM, h, h1, h2, if_true, if_false]
theorem sm_3 (h : ¬ stM now mo re it be la j (7 - j) = 0) (h1 : ageI now (be (7 - j)) mo = 0) (h2 : ageI now (la (7 - j)) re = 0) : stM now mo re it be la (j + 1) = upd (stM now mo re it be la j) (7 - j) (nI 1) := by simp only [stM, h, h1, h2, if_true, if_false]
theorem fr_0 (e : stM now mo re it be la (j + 1) = upd (stM now mo re it be la j) (7 - j) (nI 0)) : frM now mo re it be la (j + 1) = nI (7 - j) := if_pos (by rw [e]; exact upd_s _ _ _)
theorem fr_1 (e : stM now mo re it be la (j + 1) = upd (stM now mo re it be la j) (7 - j) (nI 1)) : frM now mo re it be la (j + 1) = frM now mo re it be la j := if_neg (by rw [e, upd_s]; decide)
end
theorem frM_all (now mo re : Int64) (it : Nat → Int32) (be la : Nat → Int64) : ∀ j, j ≤ 8 → (frM now mo re it be la j = (-1) ∧ ∀ t, 8 - j ≤ t → t < 8 → ¬ stM now mo re it be la j t = 0) ∨ (∃ n, 8 - j ≤ n ∧ n < 8 ∧ frM now mo re it be la j = nI n ∧ stM now mo re it be la j n = 0 ∧ ∀ t, 8 - j ≤ t → t < n → ¬ stM now mo re it be la j t = 0) := by
  intro j
  induction j with
  | zero => intro _; exact Or.inl ⟨rfl, fun t h1 h2 => absurd h1 (by omega)⟩
  | succ j ih =>
    intro hj
    have hk : ∀ t, 8 - j ≤ t → stM now mo re it be la (j + 1) t = stM now mo re it be la j t := by
      intro t ht
      show upd _ _ _ t = _
      exact upd_n _ _ (by omega)
    by_cases h : stM now mo re it be la (j + 1) (7 - j) = 0
    · exact Or.inr ⟨7 - j, by omega, by omega, if_pos h, h, fun t h1 h2 => absurd h1 (by omega)⟩
    · have e : frM now mo re it be la (j + 1) = frM now mo re it be la j := if_neg h
      rcases ih (by omega) with ⟨q1, q2⟩ | ⟨n, h1, h2, q1, q2, q3⟩
      · refine Or.inl ⟨e.trans q1, fun t t1 t2 => ?_⟩
        by_cases z : t = 7 - j
        · subst z; exact h
        · rw [hk t (by omega)]; exact q2 t (by omega) t2
      · refine Or.inr ⟨n, by omega, h2, e.trans q1, (hk n h1).trans q2, fun t t1 t2 => ?_⟩
        by_cases z : t = 7 - j
        · subst z; exact h
        · rw [hk t (by omega)]; exact q3 t (by omega) t2
theorem fr_nat {now mo re : Int64} {it : Nat → Int32} {be la : Nat → Int64} (h : 0 ≤ frM now mo re it be la 8) : ∃ n, n < 8 ∧ frM now mo re it be la 8 = nI n ∧ stM now mo re it be la 8 n = 0 ∧ ∀ t, t < n → ¬ stM now mo re it be la 8 t = 0 := by
  rcases frM_all now mo re it be la 8 (by omega) with ⟨q1, q2⟩ | ⟨n, h1, h2, q1, q2, q3⟩
  · rw [q1] at h; exact absurd h (by decide)
  · exact ⟨n, h2, q1, q2, fun t ht => q3 t (by omega) ht⟩
theorem fr_no {now mo re : Int64} {it : Nat → Int32} {be la : Nat → Int64} (h : ¬ 0 ≤ frM now mo re it be la 8) : ∀ t, t < 8 → ¬ stM now mo re it be la 8 t = 0 := by
  rcases frM_all now mo re it be la 8 (by omega) with ⟨q1, q2⟩ | ⟨n, h1, h2, q1, q2, q3⟩
  · exact fun t ht => q2 t (by omega) ht
  · rw [q1] at h; exact absurd (nI_pos' (by omega)) h
set_option maxHeartbeats 4000000 in
set_option maxRecDepth 100000 in
theorem c_X8_login (g : GG) (l : Launch) (md : Nat → Nat) (mfa : Int32) (mmz : Nat) (msz : Nat) (mnow : Int64) (mgr : Int64) (mmo : Int64) (mre : Int64) (msd : Int64) (mbg : Int64) (mky : Nat) (mli : Int32) (mrf : Int32) (mrn : Int32) (mka : Int32) (mta : Nat → Int32) (mwd : Nat → Int32) (mms : Nat → Int32) (mhs : Nat → Int32) (mke : Nat → Int32) (msa : Nat → Int32) (mkn : Nat → Int32) (mkb : Nat → Int32) (mku : Nat → Int64) (mhp : Nat → Int32) (mpa : Nat → Int32) (mpb : Nat → Int32) (mit : Nat → Int32) (mus : Nat → Int32) (mid : Nat → Int64) (mbe : Nat → Int64) (mla : Nat → Int64) (msi : Nat → Int32) (mtx : Nat → Int32) (mra : Nat → Int32) (x : Int32) (a : Int32) (b : Int32) (hky : 1 ≤ mky) (hky4 : mky ≤ 4) : Ct g l yX8_login cX8_login 6 (some .int) 7 165 [.ref (md 0), .int x, .int a, .int b] (mX g md mfa mmz msz mnow mgr mmo mre msd mbg mky mli mrf mrn mka mta mwd mms mhs mke msa mkn mkb mku mhp mpa mpb mit mus mid mbe mla msi mtx mra) (Ri g (fun (v : Int32) (u : (Nat → Int32) × (Nat → Int32) × (Nat → Int32) × (Nat → Int32) × (Nat → Int32) × (Nat → Int32) × (Nat → Int32) × (Nat → Int32) × (Nat → Int32) × (Nat → Int32) × (Nat → Int32) × (Nat → Int64) × (Nat → Int64) × (Nat → Int64) × Int64 × Nat × Nat × Int32) => (∃ k, k < 8 ∧ x = nI k ∧ u.2.2.2.2.2.2.2.2.2.2.2.2.2.2.2.2.2 = nI 0 ∧ ((knS (mhp k) (mpa k) (mpb k) a b = 0 ∧ v = (-9) ∧ u.2.2.2.2.2.2.2.2.1 = mit ∧ u.2.2.2.2.2.2.2.2.2.1 = mus ∧ u.2.2.2.2.2.2.2.2.2.2.2.1 = mid ∧ u.2.2.2.2.2.2.2.2.2.2.2.2.1 = mbe ∧ u.2.2.2.2.2.2.2.2.2.2.2.2.2.1 = mla ∧ u.2.2.2.2.2.2.2.2.2.2.1 = msi ∧ u.2.2.2.2.2.2.2.1 = mtx ∧ u.2.2.2.2.2.2.2.2.2.2.2.2.2.2.1 = mbg) ∨ (¬ knS (mhp k) (mpa k) (mpb k) a b = 0 ∧ (∀ j, j < 8 → ¬ stM mnow mmo mre mit mbe mla 8 j = 0) ∧ v = (-10) ∧ u.2.2.2.2.2.2.2.2.1 = stM mnow mmo mre mit mbe mla 8 ∧ u.2.2.2.2.2.2.2.2.2.1 = mus ∧ u.2.2.2.2.2.2.2.2.2.2.2.1 = mid ∧ u.2.2.2.2.2.2.2.2.2.2.2.2.1 = mbe ∧ u.2.2.2.2.2.2.2.2.2.2.2.2.2.1 = mla ∧ u.2.2.2.2.2.2.2.2.2.2.1 = msi ∧ u.2.2.2.2.2.2.2.1 = mtx ∧ u.2.2.2.2.2.2.2.2.2.2.2.2.2.2.1 = mbg) ∨ (¬ knS (mhp k) (mpa k) (mpb k) a b = 0 ∧ ∃ n, n < 8 ∧ v = nI n ∧ stM mnow mmo mre mit mbe mla 8 n = 0 ∧ (∀ j, j < n → ¬ stM mnow mmo mre mit mbe mla 8 j = 0) ∧ u.2.2.2.2.2.2.2.2.1 = upd (stM mnow mmo mre mit mbe mla 8) n (nI 1) ∧ u.2.2.2.2.2.2.2.2.2.1 = upd mus n x ∧ u.2.2.2.2.2.2.2.2.2.2.2.1 = vp_updL mid n (idM msd mbg) ∧ u.2.2.2.2.2.2.2.2.2.2.2.2.1 = vp_updL mbe n mnow ∧ u.2.2.2.2.2.2.2.2.2.2.2.2.2.1 = vp_updL mla n mnow ∧ u.2.2.2.2.2.2.2.2.2.2.2.2.2.2.1 = mbg + 1 ∧ u.2.2.2.2.2.2.2.2.2.2.1 = (upd (upd msi 0 (nI 30)) 1 (nI 12)) ∧ (∀ j, j < 30 → u.2.2.2.2.2.2.2.1 j = kA (cdV (ckR (k16 mkb (mky - 1)) (mkn (mky - 1)) x (idM msd mbg)) 22 j 6)) ∧ (∀ j, j < 12 → u.2.2.2.2.2.2.2.1 (40 + j) = kA (cdV (hmac (k16 mkb (mky - 1)) 16 (tkm (rw8 (bod (mkn (mky - 1)) x (idM msd mbg)))) 11) 9 j 6))))) ∨ ((∀ k, k < 8 → ¬ x = nI k) ∧ u.2.2.2.2.2.2.2.2.2.2.2.2.2.2.2.2.2 = nI 1 ∧ u.2.2.2.2.2.2.2.2.1 = mit ∧ u.2.2.2.2.2.2.2.2.2.1 = mus ∧ u.2.2.2.2.2.2.2.2.2.2.2.1 = mid ∧ u.2.2.2.2.2.2.2.2.2.2.2.2.1 = mbe ∧ u.2.2.2.2.2.2.2.2.2.2.2.2.2.1 = mla ∧ u.2.2.2.2.2.2.2.2.2.2.1 = msi ∧ u.2.2.2.2.2.2.2.1 = mtx ∧ u.2.2.2.2.2.2.2.2.2.2.2.2.2.2.1 = mbg)) (fun (u : (Nat → Int32) × (Nat → Int32) × (Nat → Int32) × (Nat → Int32) × (Nat → Int32) × (Nat → Int32) × (Nat → Int32) × (Nat → Int32) × (Nat → Int32) × (Nat → Int32) × (Nat → Int32) × (Nat → Int64) × (Nat → Int64) × (Nat → Int64) × Int64 × Nat × Nat × Int32) => (mX g md u.2.2.2.2.2.2.2.2.2.2.2.2.2.2.2.2.2 u.2.2.2.2.2.2.2.2.2.2.2.2.2.2.2.1 u.2.2.2.2.2.2.2.2.2.2.2.2.2.2.2.2.1 mnow mgr mmo mre msd u.2.2.2.2.2.2.2.2.2.2.2.2.2.2.1 mky mli mrf mrn mka u.1 u.2.1 u.2.2.1 u.2.2.2.1 u.2.2.2.2.1 u.2.2.2.2.2.1 mkn mkb mku mhp mpa mpb u.2.2.2.2.2.2.2.2.1 u.2.2.2.2.2.2.2.2.2.1 u.2.2.2.2.2.2.2.2.2.2.2.1 u.2.2.2.2.2.2.2.2.2.2.2.2.1 u.2.2.2.2.2.2.2.2.2.2.2.2.2.1 u.2.2.2.2.2.2.2.2.2.2.1 u.2.2.2.2.2.2.2.1 u.2.2.2.2.2.2.1))) := by
  refine mkC (by decide) (Nat.le_of_ble_eq_true rfl) ?_
  intro p e s m args below meth c A ls QQ F hr hlk hnm hQ hw hl
  have hx := F.1
  have hb := F.2.1
  replace hl : lv_has ls 6 [(0, .ref (md 0)), (1, .int x), (2, .int a), (3, .int b)] := hl
  refine lv_aload_n hx hb dX8_login_0 rfl (lv_at hl 0 rfl) ?_
  refine lv_iload_n hx hb dX8_login_1 rfl (lv_at hl 1 rfl) ?_
  refine lv_i2l (v := (x).toInt64) hx hb dX8_login_2 rfl ?_
  refine lv_lconst (v := 0) hx hb dX8_login_3 (by decide) ?_
  refine lv_ldc2 hx hb F.2.2.2.1 (F.2.2.2.2 _ bg_13_7) dX8_login_4 ?_
  refine cl_i hw [] rfl (rn_S F hw (c_X8_isIn g l (x).toInt64 0 (7)) (cw_X8_223 F.2.2.2.2 ⟨by decide, by decide⟩) [] (by decide) rfl hl.1 rfl (Nat.le_of_ble_eq_true rfl) dX8_login_7 ⟨Nat.zero_le _, Nat.zero_le _⟩) (fun _ => rfl) (fun v_2 u_1 H locs hp_3 hw => ?_)
  subst hp_3
  replace hw : Wd g s A H locs (mX g md mfa mmz msz mnow mgr mmo mre msd mbg mky mli mrf mrn mka mta mwd mms mhs mke msa mkn mkb mku mhp mpa mpb mit mus mid mbe mla msi mtx mra) := hw
  refine lv_if_eq (tgt := 17) hx hb dX8_login_10 (by decide) (fun c_10 => ?_) (fun c_10 => ?_)
  · refine lv_iconst (v := nI 1) hx hb dX8_login_17 (by decide) ?_
    refine cl_iF hw (rn_VF F hw (c_X8_refused g l md mfa mmz msz mnow mgr mmo mre msd mbg mky mli mrf mrn mka mta mwd mms mhs mke msa mkn mkb mku mhp mpa mpb mit mus mid mbe mla msi mtx mra (nI 1)) (cw_X8_227 F.2.2.2.2 ⟨by decide, by decide⟩)    0 rfl rfl rfl hl.1 rfl (Nat.le_of_ble_eq_true rfl) dX8_login_18 ⟨Nat.zero_le _, Nat.zero_le _⟩) (fun v_5 u_4 H locs hp_6 hw => ?_)
    subst hp_6
    replace hw : Wd g s A H locs (mX g md (nI 1) mmz msz mnow mgr mmo mre msd mbg mky mli mrf mrn mka mta mwd mms mhs mke msa mkn mkb mku mhp mpa mpb mit mus mid mbe mla msi mtx mra) := hw
    refine lv_if_eq (tgt := 26) hx hb dX8_login_21 (by decide) (fun c_21 => ?_) (fun c_21 => ?_)
    · exact absurd c_21 (by decide)
    · refine lv_iconst (v := nI 0) hx hb dX8_login_24 (by decide) ?_
      exact rt_i F hr hlk hQ hw (mta, mwd, mms, mhs, mke, msa, mra, mtx, mit, mus, msi, mid, mbe, mla, mbg, mmz, msz, (nI 1)) (Or.inr ⟨in8z c_10, rfl, rfl, rfl, rfl, rfl, rfl, rfl, rfl, rfl⟩) rfl dX8_login_25
  · refine lv_iconst (v := nI 0) hx hb dX8_login_13 (by decide) ?_
    refine lv_goto (tgt := 18) hx hb dX8_login_14 (by decide) ?_
    refine cl_iF hw (rn_VF F hw (c_X8_refused g l md mfa mmz msz mnow mgr mmo mre msd mbg mky mli mrf mrn mka mta mwd mms mhs mke msa mkn mkb mku mhp mpa mpb mit mus mid mbe mla msi mtx mra (nI 0)) (cw_X8_227 F.2.2.2.2 ⟨by decide, by decide⟩)    0 rfl rfl rfl hl.1 rfl (Nat.le_of_ble_eq_true rfl) dX8_login_18 ⟨Nat.zero_le _, Nat.zero_le _⟩) (fun v_8 u_7 H locs hp_9 hw => ?_)
    subst hp_9
    replace hw : Wd g s A H locs (mX g md (nI 0) mmz msz mnow mgr mmo mre msd mbg mky mli mrf mrn mka mta mwd mms mhs mke msa mkn mkb mku mhp mpa mpb mit mus mid mbe mla msi mtx mra) := hw
    refine lv_if_eq (tgt := 26) hx hb dX8_login_21 (by decide) (fun c_21 => ?_) (fun c_21 => ?_)
    · obtain ⟨k, hk, rfl⟩ := in8 c_10
      refine lv_aload_n hx hb dX8_login_26 rfl (lv_at hl 0 rfl) ?_
      refine gf_X8_132 F hw 0 rfl rfl dX8_login_27 ?_
      refine lv_iload_n hx hb dX8_login_30 rfl (lv_at hl 1 rfl) ?_
      refine za_ld F hw 12 rfl (by omega) (by omega) dX8_login_31 ?_
      refine lv_if_eq (tgt := 55) hx hb dX8_login_32 (by decide) (fun c_32 => ?_) (fun c_32 => ?_)
      · refine lv_bipush (v := (-9)) hx hb dX8_login_55 (by decide) ?_
        exact rt_i F hr hlk hQ hw (mta, mwd, mms, mhs, mke, msa, mra, mtx, mit, mus, msi, mid, mbe, mla, mbg, mmz, msz, (nI 0)) (Or.inl ⟨k, hk, rfl, rfl, Or.inl ⟨by first | exact if_pos c_32 | (rw [knS, if_neg c_32, if_neg c_42]; rfl) | (rw [knS, if_neg c_32, if_pos c_42, if_neg c_52]; rfl), rfl, rfl, rfl, rfl, rfl, rfl, rfl, rfl, rfl⟩⟩) rfl dX8_login_57
      · refine lv_aload_n hx hb dX8_login_35 rfl (lv_at hl 0 rfl) ?_
        refine gf_X8_136 F hw 0 rfl rfl dX8_login_36 ?_
        refine lv_iload_n hx hb dX8_login_39 rfl (lv_at hl 1 rfl) ?_
        refine ia_ld F hw 13 rfl (by omega) (by omega) dX8_login_40 ?_
        refine lv_iload_n hx hb dX8_login_41 rfl (lv_at hl 2 rfl) ?_
        refine lv_icmp_ne (tgt := 55) hx hb dX8_login_42 (by decide) (fun c_42 => ?_) (fun c_42 => ?_)
        · refine lv_bipush (v := (-9)) hx hb dX8_login_55 (by decide) ?_
          exact rt_i F hr hlk hQ hw (mta, mwd, mms, mhs, mke, msa, mra, mtx, mit, mus, msi, mid, mbe, mla, mbg, mmz, msz, (nI 0)) (Or.inl ⟨k, hk, rfl, rfl, Or.inl ⟨by first | exact if_pos c_32 | (rw [knS, if_neg c_32, if_neg c_42]; rfl) | (rw [knS, if_neg c_32, if_pos c_42, if_neg c_52]; rfl), rfl, rfl, rfl, rfl, rfl, rfl, rfl, rfl, rfl⟩⟩) rfl dX8_login_57
        · refine lv_aload_n hx hb dX8_login_45 rfl (lv_at hl 0 rfl) ?_
          refine gf_X8_139 F hw 0 rfl rfl dX8_login_46 ?_
          refine lv_iload_n hx hb dX8_login_49 rfl (lv_at hl 1 rfl) ?_
          refine ia_ld F hw 14 rfl (by omega) (by omega) dX8_login_50 ?_
          refine lv_iload_n hx hb dX8_login_51 rfl (lv_at hl 3 rfl) ?_
          refine lv_icmp_eq (tgt := 58) hx hb dX8_login_52 (by decide) (fun c_52 => ?_) (fun c_52 => ?_)
          · refine lv_iconst (v := (-1)) hx hb dX8_login_58 (by decide) ?_
            refine lv_istore (lv' := [(4, .int (-1)), (0, .ref (md 0)), (1, .int (nI k)), (2, .int a), (3, .int b)]) hx hb dX8_login_59 hl (by decide) rfl (fun ls hl => ?_)
            refine lv_bipush (v := nI 7) hx hb dX8_login_61 (by decide) ?_
            refine lv_istore (lv' := [(5, .int (nI 7)), (4, .int (-1)), (0, .ref (md 0)), (1, .int (nI k)), (2, .int a), (3, .int b)]) hx hb dX8_login_63 hl (by decide) rfl (fun ls hl => ?_)
            have L_65 : ∀ (nn j : Nat), j ≤ 8 → 8 < j + nn → ∀ (H : Heap) (locs : List Loc) (ls : Array Slot), Wd g s A H locs (mX g md (nI 0) mmz msz mnow mgr mmo mre msd mbg mky mli mrf mrn mka mta mwd mms mhs mke msa mkn mkb mku mhp mpa mpb (stM mnow mmo mre mit mbe mla j) mus mid mbe mla msi mtx mra) → lv_has ls 6 [(0, .ref (md 0)), (1, .int (nI k)), (2, .int a), (3, .int b), (4, .int ((frM mnow mmo mre mit mbe mla j))), (5, .int ((nI 7 - nI j)))] → W p l e (rmm 7 165) s m args below meth c H locs 0 0 QQ (F0 m 65 ls []) := by
              intro nn
              induction nn with
              | zero => intro j h1 h2; exact absurd h2 (by omega)
              | succ nn ih =>
                intro j hk_j hn_j H locs ls hw hl
                refine lv_iload hx hb dX8_login_65 (lv_at hl 5 rfl) ?_
                refine lv_if_lt (tgt := 135) hx hb dX8_login_67 (by decide) (fun c_67 => ?_) (fun c_67 => ?_)
                · obtain rfl : j = 8 := (dn_lt _ hk_j).mp c_67
                  refine lv_iload hx hb dX8_login_135 (lv_at hl 4 rfl) ?_
                  refine lv_if_ge (tgt := 143) hx hb dX8_login_137 (by decide) (fun c_137 => ?_) (fun c_137 => ?_)
                  · obtain ⟨n, hn, hfr, q5, q6⟩ := fr_nat c_137
                    rw [hfr] at hl
                    refine lv_aload_n hx hb dX8_login_143 rfl (lv_at hl 0 rfl) ?_
                    refine gf_X8_142 F hw 0 rfl rfl dX8_login_144 ?_
                    refine lv_iload hx hb dX8_login_147 (lv_at hl 4 rfl) ?_
                    refine lv_iconst (v := nI 1) hx hb dX8_login_149 (by decide) ?_
                    refine za_st F hw 15 rfl (by omega) (by omega) nar1 dX8_login_150 (fun H locs hw => ?_)
                    replace hw : Wd g s A H locs (mX g md (nI 0) mmz msz mnow mgr mmo mre msd mbg mky mli mrf mrn mka mta mwd mms mhs mke msa mkn mkb mku mhp mpa mpb (upd (stM mnow mmo mre mit mbe mla 8) n (nI 1)) mus mid mbe mla msi mtx mra) := hw
                    refine lv_aload_n hx hb dX8_login_151 rfl (lv_at hl 0 rfl) ?_
                    refine gf_X8_145 F hw 0 rfl rfl dX8_login_152 ?_
                    refine lv_iload hx hb dX8_login_155 (lv_at hl 4 rfl) ?_
                    refine lv_iload_n hx hb dX8_login_157 rfl (lv_at hl 1 rfl) ?_
                    refine ia_st F hw 16 rfl (by omega) (by omega) dX8_login_158 (fun H locs hw => ?_)
                    replace hw : Wd g s A H locs (mX g md (nI 0) mmz msz mnow mgr mmo mre msd mbg mky mli mrf mrn mka mta mwd mms mhs mke msa mkn mkb mku mhp mpa mpb (upd (stM mnow mmo mre mit mbe mla 8) n (nI 1)) (upd mus n (nI k)) mid mbe mla msi mtx mra) := hw
                    refine lv_aload_n hx hb dX8_login_159 rfl (lv_at hl 0 rfl) ?_
                    refine gf_X8_148 F hw 0 rfl rfl dX8_login_160 ?_
                    refine lv_iload hx hb dX8_login_163 (lv_at hl 4 rfl) ?_
                    refine lv_aload_n hx hb dX8_login_165 rfl (lv_at hl 0 rfl) ?_
                    refine cl_lF hw (rn_VF F hw (c_X8_newId g l md (nI 0) mmz msz mnow mgr mmo mre msd mbg mky mli mrf mrn mka mta mwd mms mhs mke msa mkn mkb mku mhp mpa mpb (upd (stM mnow mmo mre mit mbe mla 8) n (nI 1)) (upd mus n (nI k)) mid mbe mla msi mtx mra) (cw_X8_244 F.2.2.2.2 ⟨by decide, by decide⟩)    0 rfl rfl rfl hl.1 rfl (Nat.le_of_ble_eq_true rfl) dX8_login_166 ⟨Nat.zero_le _, Nat.zero_le _⟩) (fun v_11 u_10 H locs hp_12 hw => ?_)
                    subst hp_12
                    replace hw : Wd g s A H locs (mX g md (nI 0) 96 8 mnow mgr mmo mre msd mbg mky mli mrf mrn mka u_10.1 u_10.2.1 u_10.2.2.1 u_10.2.2.2.1 u_10.2.2.2.2.1 u_10.2.2.2.2.2 mkn mkb mku mhp mpa mpb (upd (stM mnow mmo mre mit mbe mla 8) n (nI 1)) (upd mus n (nI k)) mid mbe mla msi mtx mra) := hw
                    refine ja_st F hw 17 rfl (by omega) (by omega) dX8_login_169 (fun H locs hw => ?_)
                    replace hw : Wd g s A H locs (mX g md (nI 0) 96 8 mnow mgr mmo mre msd mbg mky mli mrf mrn mka u_10.1 u_10.2.1 u_10.2.2.1 u_10.2.2.2.1 u_10.2.2.2.2.1 u_10.2.2.2.2.2 mkn mkb mku mhp mpa mpb (upd (stM mnow mmo mre mit mbe mla 8) n (nI 1)) (upd mus n (nI k)) (vp_updL mid n (idM msd mbg)) mbe mla msi mtx mra) := hw
                    refine lv_aload_n hx hb dX8_login_170 rfl (lv_at hl 0 rfl) ?_
                    refine lv_dup hx hb dX8_login_171 rfl ?_
                    refine gf_X8_191 F hw 0 rfl rfl dX8_login_172 ?_
                    refine lv_lconst (v := 1) hx hb dX8_login_175 (by decide) ?_
                    refine lv_ladd hx hb dX8_login_176 ?_
                    refine pf_X8_191 F hw 0 rfl (Nat.le_of_ble_eq_true rfl) rfl rfl dX8_login_177 (fun H locs hw => ?_)
                    replace hw : Wd g s A H locs (mX g md (nI 0) 96 8 mnow mgr mmo mre msd (mbg + 1) mky mli mrf mrn mka u_10.1 u_10.2.1 u_10.2.2.1 u_10.2.2.2.1 u_10.2.2.2.2.1 u_10.2.2.2.2.2 mkn mkb mku mhp mpa mpb (upd (stM mnow mmo mre mit mbe mla 8) n (nI 1)) (upd mus n (nI k)) (vp_updL mid n (idM msd mbg)) mbe mla msi mtx mra) := hw
                    refine lv_aload_n hx hb dX8_login_180 rfl (lv_at hl 0 rfl) ?_
                    refine gf_X8_151 F hw 0 rfl rfl dX8_login_181 ?_
                    refine lv_iload hx hb dX8_login_184 (lv_at hl 4 rfl) ?_
                    refine lv_aload_n hx hb dX8_login_186 rfl (lv_at hl 0 rfl) ?_
                    refine gf_X8_231 F hw 0 rfl rfl dX8_login_187 ?_
                    refine ja_st F hw 18 rfl (by omega) (by omega) dX8_login_190 (fun H locs hw => ?_)
                    replace hw : Wd g s A H locs (mX g md (nI 0) 96 8 mnow mgr mmo mre msd (mbg + 1) mky mli mrf mrn mka u_10.1 u_10.2.1 u_10.2.2.1 u_10.2.2.2.1 u_10.2.2.2.2.1 u_10.2.2.2.2.2 mkn mkb mku mhp mpa mpb (upd (stM mnow mmo mre mit mbe mla 8) n (nI 1)) (upd mus n (nI k)) (vp_updL mid n (idM msd mbg)) (vp_updL mbe n mnow) mla msi mtx mra) := hw
                    refine lv_aload_n hx hb dX8_login_191 rfl (lv_at hl 0 rfl) ?_
                    refine gf_X8_154 F hw 0 rfl rfl dX8_login_192 ?_
                    refine lv_iload hx hb dX8_login_195 (lv_at hl 4 rfl) ?_
                    refine lv_aload_n hx hb dX8_login_197 rfl (lv_at hl 0 rfl) ?_
                    refine gf_X8_231 F hw 0 rfl rfl dX8_login_198 ?_
                    refine ja_st F hw 19 rfl (by omega) (by omega) dX8_login_201 (fun H locs hw => ?_)
                    replace hw : Wd g s A H locs (mX g md (nI 0) 96 8 mnow mgr mmo mre msd (mbg + 1) mky mli mrf mrn mka u_10.1 u_10.2.1 u_10.2.2.1 u_10.2.2.2.1 u_10.2.2.2.2.1 u_10.2.2.2.2.2 mkn mkb mku mhp mpa mpb (upd (stM mnow mmo mre mit mbe mla 8) n (nI 1)) (upd mus n (nI k)) (vp_updL mid n (idM msd mbg)) (vp_updL mbe n mnow) (vp_updL mla n mnow) msi mtx mra) := hw
                    refine lv_aload_n hx hb dX8_login_202 rfl (lv_at hl 0 rfl) ?_
                    refine lv_iload hx hb dX8_login_203 (lv_at hl 4 rfl) ?_
                    refine cl_vF hw (rn_VF F hw (c_X8_issue g l md (nI 0) 96 8 mnow mgr mmo mre msd (mbg + 1) mky mli mrf mrn mka u_10.1 u_10.2.1 u_10.2.2.1 u_10.2.2.2.1 u_10.2.2.2.2.1 u_10.2.2.2.2.2 mkn mkb mku mhp mpa mpb (upd (stM mnow mmo mre mit mbe mla 8) n (nI 1)) (upd mus n (nI k)) (vp_updL mid n (idM msd mbg)) (vp_updL mbe n mnow) (vp_updL mla n mnow) msi mtx mra n (by omega) (by omega) (by omega)) (cw_X8_248 F.2.2.2.2 ⟨by decide, by decide⟩)    0 rfl rfl rfl hl.1 rfl (Nat.le_of_ble_eq_true rfl) dX8_login_205 ⟨Nat.zero_le _, Nat.zero_le _⟩) (fun u_13 H locs hp_15 hw => ?_)
                    replace hw : Wd g s A H locs (mX g md (nI 0) 96 11 mnow mgr mmo mre msd (mbg + 1) mky mli mrf mrn mka u_13.1 u_13.2.1 u_13.2.2.1 u_13.2.2.2.1 u_13.2.2.2.2.1 u_13.2.2.2.2.2.1 mkn mkb mku mhp mpa mpb (upd (stM mnow mmo mre mit mbe mla 8) n (nI 1)) (upd mus n (nI k)) (vp_updL mid n (idM msd mbg)) (vp_updL mbe n mnow) (vp_updL mla n mnow) (upd (upd msi 0 (nI 30)) 1 (nI 12)) u_13.2.2.2.2.2.2.2 u_13.2.2.2.2.2.2.1) := hw
                    have q9 := hp_15
                    refine lv_iload hx hb dX8_login_208 (lv_at hl 4 rfl) ?_
                    exact rt_i F hr hlk hQ hw (u_13.1, u_13.2.1, u_13.2.2.1, u_13.2.2.2.1, u_13.2.2.2.2.1, u_13.2.2.2.2.2.1, u_13.2.2.2.2.2.2.1, u_13.2.2.2.2.2.2.2, (upd (stM mnow mmo mre mit mbe mla 8) n (nI 1)), (upd mus n (nI k)), (upd (upd msi 0 (nI 30)) 1 (nI 12)), (vp_updL mid n (idM msd mbg)), (vp_updL mbe n mnow), (vp_updL mla n mnow), (mbg + 1), 96, 11, (nI 0)) (Or.inl ⟨k, hk, rfl, rfl, Or.inr (Or.inr ⟨by rw [knS, if_neg c_32, if_pos c_42, if_pos c_52]; decide, n, hn, rfl, q5, q6, rfl, rfl, rfl, rfl, rfl, rfl, rfl, fun j hj => by have h := q9.1 j hj; rw [upd_s, updL_s] at h; exact h, fun j hj => by have h := q9.2 j hj; rw [upd_s, updL_s] at h; exact h⟩)⟩) rfl dX8_login_210
                  · refine lv_bipush (v := (-10)) hx hb dX8_login_140 (by decide) ?_
                    exact rt_i F hr hlk hQ hw (mta, mwd, mms, mhs, mke, msa, mra, mtx, (stM mnow mmo mre mit mbe mla 8), mus, msi, mid, mbe, mla, mbg, mmz, msz, (nI 0)) (Or.inl ⟨k, hk, rfl, rfl, Or.inr (Or.inl ⟨by rw [knS, if_neg c_32, if_pos c_42, if_pos c_52]; decide, fr_no c_137, rfl, rfl, rfl, rfl, rfl, rfl, rfl, rfl, rfl⟩)⟩) rfl dX8_login_142
                · have hj8 : j < 8 := Nat.lt_of_le_of_ne hk_j (fun h => c_67 ((dn_lt j hk_j).mpr h))
                  rw [show nI 7 - nI j = nI (7 - j) from pk_sub (by omega)] at hl
                  refine lv_aload_n hx hb dX8_login_70 rfl (lv_at hl 0 rfl) ?_
                  refine gf_X8_142 F hw 0 rfl rfl dX8_login_71 ?_
                  refine lv_iload hx hb dX8_login_74 (lv_at hl 5 rfl) ?_
                  refine lv_aload_n hx hb dX8_login_76 rfl (lv_at hl 0 rfl) ?_
                  refine gf_X8_142 F hw 0 rfl rfl dX8_login_77 ?_
                  refine lv_iload hx hb dX8_login_80 (lv_at hl 5 rfl) ?_
                  refine za_ld F hw 15 rfl (by omega) (by omega) dX8_login_82 ?_
                  refine lv_if_eq (tgt := 108) hx hb dX8_login_83 (by decide) (fun c_83 => ?_) (fun c_83 => ?_)
                  · refine lv_iconst (v := nI 0) hx hb dX8_login_108 (by decide) ?_
                    refine za_st F hw 15 rfl (by omega) (by omega) nar0 dX8_login_109 (fun H locs hw => ?_)
                    replace hw : Wd g s A H locs (mX g md (nI 0) mmz msz mnow mgr mmo mre msd mbg mky mli mrf mrn mka mta mwd mms mhs mke msa mkn mkb mku mhp mpa mpb (upd (stM mnow mmo mre mit mbe mla j) (7 - j) (nI 0)) mus mid mbe mla msi mtx mra) := hw
                    refine lv_aload_n hx hb dX8_login_110 rfl (lv_at hl 0 rfl) ?_
                    refine gf_X8_142 F hw 0 rfl rfl dX8_login_111 ?_
                    refine lv_iload hx hb dX8_login_114 (lv_at hl 5 rfl) ?_
                    refine za_ld F hw 15 rfl (by omega) (by omega) dX8_login_116 ?_
                    refine lv_if_eq (tgt := 125) hx hb dX8_login_117 (by decide) (fun c_117 => ?_) (fun c_117 => ?_)
                    · refine lv_iload hx hb dX8_login_125 (lv_at hl 5 rfl) ?_
                      refine lv_istore (lv' := [(4, .int (nI (7 - j))), (0, .ref (md 0)), (1, .int (nI k)), (2, .int a), (3, .int b), (5, .int (nI (7 - j)))]) hx hb dX8_login_127 hl (by decide) rfl (fun ls hl => ?_)
                      refine lv_iinc (v := (nI (7 - j) + -1)) (lv' := [(5, .int ((nI (7 - j) + -1))), (4, .int (nI (7 - j))), (0, .ref (md 0)), (1, .int (nI k)), (2, .int a), (3, .int b)]) hx hb dX8_login_129 hl (k := 5) rfl (rfl) (by decide) rfl (fun ls hl => ?_)
                      refine lv_goto (tgt := 65) hx hb dX8_login_132 (by decide) ?_
                      rw [dn_s j (by omega)] at hl
                      first | (have e9 := sm_0 c_83; rw [← e9] at hw; rw [← fr_0 e9] at hl) | (have e9 := sm_1 c_83 c_92; rw [← e9] at hw; rw [← fr_0 e9] at hl) | (have e9 := sm_2 c_83 c_92 c_101; rw [← e9] at hw; rw [← fr_0 e9] at hl) | (have e9 := sm_3 c_83 c_92 c_101; rw [← e9] at hw; rw [← fr_1 e9] at hl)
                      exact ih (j + 1) (by omega) (by omega) _ _ _ hw (lv_sub hl [2, 3, 4, 5, 1, 0] rfl)
                    · exact absurd (upd_s _ _ _) c_117
                  · refine lv_aload_n hx hb dX8_login_86 rfl (lv_at hl 0 rfl) ?_
                    refine lv_iload hx hb dX8_login_87 (lv_at hl 5 rfl) ?_
                    refine cl_iF hw (rn_VF F hw (c_X8_isOld g l md (nI 0) mmz msz mnow mgr mmo mre msd mbg mky mli mrf mrn mka mta mwd mms mhs mke msa mkn mkb mku mhp mpa mpb (stM mnow mmo mre mit mbe mla j) mus mid mbe mla msi mtx mra (7 - j) (by omega)) (cw_X8_238 F.2.2.2.2 ⟨by decide, by decide⟩)    0 rfl rfl rfl hl.1 rfl (Nat.le_of_ble_eq_true rfl) dX8_login_89 ⟨Nat.zero_le _, Nat.zero_le _⟩) (fun v_17 u_16 H locs hp_18 hw => ?_)
                    subst hp_18
                    replace hw : Wd g s A H locs (mX g md (nI 0) mmz msz mnow mgr mmo mre msd mbg mky mli mrf mrn mka mta mwd mms mhs mke msa mkn mkb mku mhp mpa mpb (stM mnow mmo mre mit mbe mla j) mus mid mbe mla msi mtx mra) := hw
                    refine lv_if_ne (tgt := 108) hx hb dX8_login_92 (by decide) (fun c_92 => ?_) (fun c_92 => ?_)
                    · refine lv_iconst (v := nI 0) hx hb dX8_login_108 (by decide) ?_
                      refine za_st F hw 15 rfl (by omega) (by omega) nar0 dX8_login_109 (fun H locs hw => ?_)
                      replace hw : Wd g s A H locs (mX g md (nI 0) mmz msz mnow mgr mmo mre msd mbg mky mli mrf mrn mka mta mwd mms mhs mke msa mkn mkb mku mhp mpa mpb (upd (stM mnow mmo mre mit mbe mla j) (7 - j) (nI 0)) mus mid mbe mla msi mtx mra) := hw
                      refine lv_aload_n hx hb dX8_login_110 rfl (lv_at hl 0 rfl) ?_
                      refine gf_X8_142 F hw 0 rfl rfl dX8_login_111 ?_
                      refine lv_iload hx hb dX8_login_114 (lv_at hl 5 rfl) ?_
                      refine za_ld F hw 15 rfl (by omega) (by omega) dX8_login_116 ?_
                      refine lv_if_eq (tgt := 125) hx hb dX8_login_117 (by decide) (fun c_117 => ?_) (fun c_117 => ?_)
                      · refine lv_iload hx hb dX8_login_125 (lv_at hl 5 rfl) ?_
                        refine lv_istore (lv' := [(4, .int (nI (7 - j))), (0, .ref (md 0)), (1, .int (nI k)), (2, .int a), (3, .int b), (5, .int (nI (7 - j)))]) hx hb dX8_login_127 hl (by decide) rfl (fun ls hl => ?_)
                        refine lv_iinc (v := (nI (7 - j) + -1)) (lv' := [(5, .int ((nI (7 - j) + -1))), (4, .int (nI (7 - j))), (0, .ref (md 0)), (1, .int (nI k)), (2, .int a), (3, .int b)]) hx hb dX8_login_129 hl (k := 5) rfl (rfl) (by decide) rfl (fun ls hl => ?_)
                        refine lv_goto (tgt := 65) hx hb dX8_login_132 (by decide) ?_
                        rw [dn_s j (by omega)] at hl
                        first | (have e9 := sm_0 c_83; rw [← e9] at hw; rw [← fr_0 e9] at hl) | (have e9 := sm_1 c_83 c_92; rw [← e9] at hw; rw [← fr_0 e9] at hl) | (have e9 := sm_2 c_83 c_92 c_101; rw [← e9] at hw; rw [← fr_0 e9] at hl) | (have e9 := sm_3 c_83 c_92 c_101; rw [← e9] at hw; rw [← fr_1 e9] at hl)
                        exact ih (j + 1) (by omega) (by omega) _ _ _ hw (lv_sub hl [2, 3, 4, 5, 1, 0] rfl)
                      · exact absurd (upd_s _ _ _) c_117
                    · refine lv_aload_n hx hb dX8_login_95 rfl (lv_at hl 0 rfl) ?_
                      refine lv_iload hx hb dX8_login_96 (lv_at hl 5 rfl) ?_
                      refine cl_iF hw (rn_VF F hw (c_X8_isIdle g l md (nI 0) mmz msz mnow mgr mmo mre msd mbg mky mli mrf mrn mka mta mwd mms mhs mke msa mkn mkb mku mhp mpa mpb (stM mnow mmo mre mit mbe mla j) mus mid mbe mla msi mtx mra (7 - j) (by omega)) (cw_X8_241 F.2.2.2.2 ⟨by decide, by decide⟩)    0 rfl rfl rfl hl.1 rfl (Nat.le_of_ble_eq_true rfl) dX8_login_98 ⟨Nat.zero_le _, Nat.zero_le _⟩) (fun v_20 u_19 H locs hp_21 hw => ?_)
                      subst hp_21
                      replace hw : Wd g s A H locs (mX g md (nI 0) mmz msz mnow mgr mmo mre msd mbg mky mli mrf mrn mka mta mwd mms mhs mke msa mkn mkb mku mhp mpa mpb (stM mnow mmo mre mit mbe mla j) mus mid mbe mla msi mtx mra) := hw
                      refine lv_if_ne (tgt := 108) hx hb dX8_login_101 (by decide) (fun c_101 => ?_) (fun c_101 => ?_)
                      · refine lv_iconst (v := nI 0) hx hb dX8_login_108 (by decide) ?_
                        refine za_st F hw 15 rfl (by omega) (by omega) nar0 dX8_login_109 (fun H locs hw => ?_)
                        replace hw : Wd g s A H locs (mX g md (nI 0) mmz msz mnow mgr mmo mre msd mbg mky mli mrf mrn mka mta mwd mms mhs mke msa mkn mkb mku mhp mpa mpb (upd (stM mnow mmo mre mit mbe mla j) (7 - j) (nI 0)) mus mid mbe mla msi mtx mra) := hw
                        refine lv_aload_n hx hb dX8_login_110 rfl (lv_at hl 0 rfl) ?_
                        refine gf_X8_142 F hw 0 rfl rfl dX8_login_111 ?_
                        refine lv_iload hx hb dX8_login_114 (lv_at hl 5 rfl) ?_
                        refine za_ld F hw 15 rfl (by omega) (by omega) dX8_login_116 ?_
                        refine lv_if_eq (tgt := 125) hx hb dX8_login_117 (by decide) (fun c_117 => ?_) (fun c_117 => ?_)
                        · refine lv_iload hx hb dX8_login_125 (lv_at hl 5 rfl) ?_
                          refine lv_istore (lv' := [(4, .int (nI (7 - j))), (0, .ref (md 0)), (1, .int (nI k)), (2, .int a), (3, .int b), (5, .int (nI (7 - j)))]) hx hb dX8_login_127 hl (by decide) rfl (fun ls hl => ?_)
                          refine lv_iinc (v := (nI (7 - j) + -1)) (lv' := [(5, .int ((nI (7 - j) + -1))), (4, .int (nI (7 - j))), (0, .ref (md 0)), (1, .int (nI k)), (2, .int a), (3, .int b)]) hx hb dX8_login_129 hl (k := 5) rfl (rfl) (by decide) rfl (fun ls hl => ?_)
                          refine lv_goto (tgt := 65) hx hb dX8_login_132 (by decide) ?_
                          rw [dn_s j (by omega)] at hl
                          first | (have e9 := sm_0 c_83; rw [← e9] at hw; rw [← fr_0 e9] at hl) | (have e9 := sm_1 c_83 c_92; rw [← e9] at hw; rw [← fr_0 e9] at hl) | (have e9 := sm_2 c_83 c_92 c_101; rw [← e9] at hw; rw [← fr_0 e9] at hl) | (have e9 := sm_3 c_83 c_92 c_101; rw [← e9] at hw; rw [← fr_1 e9] at hl)
                          exact ih (j + 1) (by omega) (by omega) _ _ _ hw (lv_sub hl [2, 3, 4, 5, 1, 0] rfl)
                        · exact absurd (upd_s _ _ _) c_117
                      · refine lv_iconst (v := nI 1) hx hb dX8_login_104 (by decide) ?_
                        refine lv_goto (tgt := 109) hx hb dX8_login_105 (by decide) ?_
                        refine za_st F hw 15 rfl (by omega) (by omega) nar1 dX8_login_109 (fun H locs hw => ?_)
                        replace hw : Wd g s A H locs (mX g md (nI 0) mmz msz mnow mgr mmo mre msd mbg mky mli mrf mrn mka mta mwd mms mhs mke msa mkn mkb mku mhp mpa mpb (upd (stM mnow mmo mre mit mbe mla j) (7 - j) (nI 1)) mus mid mbe mla msi mtx mra) := hw
                        refine lv_aload_n hx hb dX8_login_110 rfl (lv_at hl 0 rfl) ?_
                        refine gf_X8_142 F hw 0 rfl rfl dX8_login_111 ?_
                        refine lv_iload hx hb dX8_login_114 (lv_at hl 5 rfl) ?_
                        refine za_ld F hw 15 rfl (by omega) (by omega) dX8_login_116 ?_
                        refine lv_if_eq (tgt := 125) hx hb dX8_login_117 (by decide) (fun c_117 => ?_) (fun c_117 => ?_)
                        · exact absurd ((upd_s _ _ _).symm.trans c_117) (by decide)
                        · refine lv_iload hx hb dX8_login_120 (lv_at hl 4 rfl) ?_
                          refine lv_goto (tgt := 127) hx hb dX8_login_122 (by decide) ?_
                          refine lv_istore (lv' := [(4, .int ((frM mnow mmo mre mit mbe mla j))), (0, .ref (md 0)), (1, .int (nI k)), (2, .int a), (3, .int b), (5, .int (nI (7 - j)))]) hx hb dX8_login_127 hl (by decide) rfl (fun ls hl => ?_)
                          refine lv_iinc (v := (nI (7 - j) + -1)) (lv' := [(5, .int ((nI (7 - j) + -1))), (4, .int ((frM mnow mmo mre mit mbe mla j))), (0, .ref (md 0)), (1, .int (nI k)), (2, .int a), (3, .int b)]) hx hb dX8_login_129 hl (k := 5) rfl (rfl) (by decide) rfl (fun ls hl => ?_)
                          refine lv_goto (tgt := 65) hx hb dX8_login_132 (by decide) ?_
                          rw [dn_s j (by omega)] at hl
                          first | (have e9 := sm_0 c_83; rw [← e9] at hw; rw [← fr_0 e9] at hl) | (have e9 := sm_1 c_83 c_92; rw [← e9] at hw; rw [← fr_0 e9] at hl) | (have e9 := sm_2 c_83 c_92 c_101; rw [← e9] at hw; rw [← fr_0 e9] at hl) | (have e9 := sm_3 c_83 c_92 c_101; rw [← e9] at hw; rw [← fr_1 e9] at hl)
                          exact ih (j + 1) (by omega) (by omega) _ _ _ hw (lv_sub hl [2, 3, 4, 5, 1, 0] rfl)
            exact L_65 (8 + 1) 0 (by omega) (by omega) _ _ _ hw (lv_sub hl [2, 3, 4, 5, 1, 0] rfl)
          · refine lv_bipush (v := (-9)) hx hb dX8_login_55 (by decide) ?_
            exact rt_i F hr hlk hQ hw (mta, mwd, mms, mhs, mke, msa, mra, mtx, mit, mus, msi, mid, mbe, mla, mbg, mmz, msz, (nI 0)) (Or.inl ⟨k, hk, rfl, rfl, Or.inl ⟨by first | exact if_pos c_32 | (rw [knS, if_neg c_32, if_neg c_42]; rfl) | (rw [knS, if_neg c_32, if_pos c_42, if_neg c_52]; rfl), rfl, rfl, rfl, rfl, rfl, rfl, rfl, rfl, rfl⟩⟩) rfl dX8_login_57
    · exact absurd (by decide) c_21
