def wd4 (a b c d : Int32) (i : Nat) : Int32 := if i < 4 then a else if i < 8 then b else if i < 12 then c else d
def chF (a b c d : Int32) (ky : Nat) (f0 : Nat → Int32) : Nat → Nat → Int32
  | 0 => f0
  | i + 1 => upd (chF a b c d ky f0 i) (16 * ky + i) (byO (wd4 a b c d i) (i % 4))
theorem chF_get (a b c d : Int32) (ky : Nat) (f0 : Nat → Int32) : ∀ i t, chF a b c d ky f0 i t = if 16 * ky ≤ t ∧ t < 16 * ky + i then byO (wd4 a b c d (t - 16 * ky)) ((t - 16 * ky) % 4) else f0 t := by
  intro i
  induction i with
  | zero => intro t; rw [if_neg (by omega)]; rfl
  | succ i ih =>
    intro t
    show upd (chF a b c d ky f0 i) (16 * ky + i) _ t = _
    by_cases e : t = 16 * ky + i
    · subst e; rw [upd_s, if_pos (show 16 * ky ≤ 16 * ky + i ∧ 16 * ky + i < 16 * ky + (i + 1) by omega), show 16 * ky + i - 16 * ky = i by omega]
    · rw [upd_n _ _ e, ih t]
      by_cases h1 : 16 * ky ≤ t ∧ t < 16 * ky + i
      · rw [if_pos h1, if_pos (show 16 * ky ≤ t ∧ t < 16 * ky + (i + 1) by omega)]
      · rw [if_neg h1, if_neg (show ¬ (16 * ky ≤ t ∧ t < 16 * ky + (i + 1)) by omega)]
section
variable {a b c d : Int32} {ky : Nat} {f0 : Nat → Int32} {i : Nat}
theorem ch_a (h : i < 4) : chF a b c d ky f0 (i + 1) = upd (chF a b c d ky f0 i) (16 * ky + i) (byO a (i % 4)) := by simp only [chF, wd4, h, if_true]
theorem ch_b (h : 4 ≤ i) (h1 : i < 8) : chF a b c d ky f0 (i + 1) = upd (chF a b c d ky f0 i) (16 * ky + i) (byO b (i % 4)) := by simp only [chF, wd4, Nat.not_lt.mpr h, h1, if_true, if_false]
theorem ch_c (h : 4 ≤ i) (h1 : 8 ≤ i) (h2 : i < 12) : chF a b c d ky f0 (i + 1) = upd (chF a b c d ky f0 i) (16 * ky + i) (byO c (i % 4)) := by simp only [chF, wd4, Nat.not_lt.mpr h, Nat.not_lt.mpr h1, h2, if_true, if_false]
theorem ch_d (h : 4 ≤ i) (h1 : 8 ≤ i) (h2 : 12 ≤ i) : chF a b c d ky f0 (i + 1) = upd (chF a b c d ky f0 i) (16 * ky + i) (byO d (i % 4)) := by simp only [chF, wd4, Nat.not_lt.mpr h, Nat.not_lt.mpr h1, Nat.not_lt.mpr h2, if_false]
end
def shN (f : Nat → Int32) : Nat → Nat → Int32
  | 0 => f
  | k + 1 => upd (shN f k) k (shN f k (k + 1))
def shU (f : Nat → Int64) : Nat → Nat → Int64
  | 0 => f
  | k + 1 => vp_updL (shU f k) k (shU f k (k + 1))
def shB (f : Nat → Int32) (k : Nat) : Nat → Nat → Int32
  | 0 => f
  | i + 1 => upd (shB f k i) (16 * k + i) (shB f k i (16 * k + 16 + i))
def shO (f : Nat → Int32) : Nat → Nat → Int32
  | 0 => f
  | k + 1 => shB (shO f k) k 16
theorem shN_get (f : Nat → Int32) : ∀ k t, shN f k t = if t < k then f (t + 1) else f t := by
  intro k
  induction k with
  | zero => intro t; rw [if_neg (by omega)]; rfl
  | succ k ih =>
    intro t
    show upd (shN f k) k (shN f k (k + 1)) t = _
    by_cases e : t = k
    · subst e; rw [upd_s, ih, if_neg (by omega), if_pos (by omega)]
    · rw [upd_n _ _ e, ih]
      by_cases h : t < k
      · rw [if_pos h, if_pos (by omega)]
      · rw [if_neg h, if_neg (by omega)]
theorem updL_n {f : Nat → Int64} {k t : Nat} (x : Int64) (h : ¬ t = k) : vp_updL f k x t = f t := by simp [vp_updL, h]
theorem shU_get (f : Nat → Int64) : ∀ k t, shU f k t = if t < k then f (t + 1) else f t := by
  intro k
  induction k with
  | zero => intro t; rw [if_neg (by omega)]; rfl
  | succ k ih =>
    intro t
    show vp_updL (shU f k) k (shU f k (k + 1)) t = _
    by_cases e : t = k
    · subst e; rw [updL_s, ih, if_neg (by omega), if_pos (by omega)]
    · rw [updL_n _ e, ih]
      by_cases h : t < k
      · rw [if_pos h, if_pos (by omega)]
      · rw [if_neg h, if_neg (by omega)]
theorem shB_get (f : Nat → Int32) (k : Nat) : ∀ i, i ≤ 16 → ∀ t, shB f k i t = if 16 * k ≤ t ∧ t < 16 * k + i then f (t + 16) else f t := by
  intro i
  induction i with
  | zero => intro _ t; rw [if_neg (by omega)]; rfl
  | succ i ih =>
    intro hi t
    show upd (shB f k i) (16 * k + i) (shB f k i (16 * k + 16 + i)) t = _
    by_cases e : t = 16 * k + i
    · subst e; rw [upd_s, ih (by omega), if_neg (by omega), if_pos (show 16 * k ≤ 16 * k + i ∧ 16 * k + i < 16 * k + (i + 1) by omega), show 16 * k + 16 + i = 16 * k + i + 16 by omega]
    · rw [upd_n _ _ e, ih (by omega)]
      by_cases h : 16 * k ≤ t ∧ t < 16 * k + i
      · rw [if_pos h, if_pos (show 16 * k ≤ t ∧ t < 16 * k + (i + 1) by omega)]
      · rw [if_neg h, if_neg (show ¬ (16 * k ≤ t ∧ t < 16 * k + (i + 1)) by omega)]
theorem shO_get (f : Nat → Int32) : ∀ k t, shO f k t = if t < 16 * k then f (t + 16) else f t := by
  intro k
  induction k with
  | zero => intro t; rw [if_neg (by omega)]; rfl
  | succ k ih =>
    intro t
    show shB (shO f k) k 16 t = _
    rw [shB_get _ _ 16 (by omega)]
    by_cases h : 16 * k ≤ t ∧ t < 16 * k + 16
    · rw [if_pos h, ih, if_neg (by omega), if_pos (by omega)]
    · rw [if_neg h, ih]
      by_cases h1 : t < 16 * k
      · rw [if_pos h1, if_pos (by omega)]
      · rw [if_neg h1, if_neg (by omega)]
theorem sh_16 (f : Nat → Int32) (t i : Nat) (ht : t < 4) (hi : i < 16) : k16 (shO f 4) t i = k16 f (t + 1) i := by
  unfold k16
  rw [shO_get, if_pos (by omega), show 16 * t + i + 16 = 16 * (t + 1) + i by omega]
set_option maxHeartbeats 4000000 in
set_option maxRecDepth 100000 in
theorem c_X8_change (g : GG) (l : Launch) (md : Nat → Nat) (mfa : Int32) (mmz : Nat) (msz : Nat) (mnow : Int64) (mgr : Int64) (mmo : Int64) (mre : Int64) (msd : Int64) (mbg : Int64) (mky : Nat) (mli : Int32) (mrf : Int32) (mrn : Int32) (mka : Int32) (mta : Nat → Int32) (mwd : Nat → Int32) (mms : Nat → Int32) (mhs : Nat → Int32) (mke : Nat → Int32) (msa : Nat → Int32) (mkn : Nat → Int32) (mkb : Nat → Int32) (mku : Nat → Int64) (mhp : Nat → Int32) (mpa : Nat → Int32) (mpb : Nat → Int32) (mit : Nat → Int32) (mus : Nat → Int32) (mid : Nat → Int64) (mbe : Nat → Int64) (mla : Nat → Int64) (msi : Nat → Int32) (mtx : Nat → Int32) (mra : Nat → Int32) (pa : Int32) (pb : Int32) (pc : Int32) (pd : Int32) (a0 : Nat) (ha0 : a0 < 256) (hkn : mkn (mky - 1) = nI a0) (hky : 1 ≤ mky) (hky4 : mky ≤ 4) : Ct g l yX8_change cX8_change 7 (some .int) 0 0 [.ref (md 0), .int pa, .int pb, .int pc, .int pd] (mX g md mfa mmz msz mnow mgr mmo mre msd mbg mky mli mrf mrn mka mta mwd mms mhs mke msa mkn mkb mku mhp mpa mpb mit mus mid mbe mla msi mtx mra) (Ri g (fun (v : Int32) (u : Nat × (Nat → Int32) × (Nat → Int64) × (Nat → Int32)) => v = nI ((a0 + 1) % 256) ∧ ∃ z, ((z = 0 ∧ mky < 4 ∧ u.1 = mky + 1) ∨ (z = 1 ∧ mky = 4 ∧ u.1 = 4)) ∧ ∀ t, t < u.1 → (u.2.1 t = (upd mkn mky (nI ((a0 + 1) % 256))) (t + z) ∧ u.2.2.1 t = (vp_updL mku (mky - 1) mnow) (t + z) ∧ ∀ i, i < 16 → k16 u.2.2.2 t i = k16 (chF pa pb pc pd mky mkb 16) (t + z) i)) (fun (u : Nat × (Nat → Int32) × (Nat → Int64) × (Nat → Int32)) => (mX g md (nI 0) mmz msz mnow mgr mmo mre msd mbg u.1 mli mrf mrn mka mta mwd mms mhs mke msa u.2.1 u.2.2.2 u.2.2.1 mhp mpa mpb mit mus mid mbe mla msi mtx mra))) := by
  refine mkC (by decide) (Nat.le_of_ble_eq_true rfl) ?_
  intro p e s m args below meth c A ls QQ F hr hlk hnm hQ hw hl
  have hx := F.1
  have hb := F.2.1
  replace hl : lv_has ls 7 [(0, .ref (md 0)), (1, .int pa), (2, .int pb), (3, .int pc), (4, .int pd)] := hl
  refine lv_aload_n hx hb dX8_change_0 rfl (lv_at hl 0 rfl) ?_
  refine lv_iconst (v := nI 0) hx hb dX8_change_1 (by decide) ?_
  refine pf_X8_166 F hw 0 rfl (Nat.le_of_ble_eq_true rfl) rfl rfl dX8_change_2 (fun H locs hw => ?_)
  replace hw : Wd g s A H locs (mX g md (nI 0) mmz msz mnow mgr mmo mre msd mbg mky mli mrf mrn mka mta mwd mms mhs mke msa mkn mkb mku mhp mpa mpb mit mus mid mbe mla msi mtx mra) := hw
  refine lv_aload_n hx hb dX8_change_5 rfl (lv_at hl 0 rfl) ?_
  refine gf_X8_128 F hw 0 rfl rfl dX8_change_6 ?_
  refine lv_aload_n hx hb dX8_change_9 rfl (lv_at hl 0 rfl) ?_
  refine gf_X8_118 F hw 0 rfl rfl dX8_change_10 ?_
  refine lv_iconst (v := nI 1) hx hb dX8_change_13 (by decide) ?_
  refine n_sub hx hb (by omega) dX8_change_14 ?_
  refine lv_aload_n hx hb dX8_change_15 rfl (lv_at hl 0 rfl) ?_
  refine gf_X8_231 F hw 0 rfl rfl dX8_change_16 ?_
  refine ja_st F hw 11 rfl (by omega) (by omega) dX8_change_19 (fun H locs hw => ?_)
  replace hw : Wd g s A H locs (mX g md (nI 0) mmz msz mnow mgr mmo mre msd mbg mky mli mrf mrn mka mta mwd mms mhs mke msa mkn mkb (vp_updL mku (mky - 1) mnow) mhp mpa mpb mit mus mid mbe mla msi mtx mra) := hw
  refine lv_aload_n hx hb dX8_change_20 rfl (lv_at hl 0 rfl) ?_
  refine gf_X8_122 F hw 0 rfl rfl dX8_change_21 ?_
  refine lv_aload_n hx hb dX8_change_24 rfl (lv_at hl 0 rfl) ?_
  refine gf_X8_118 F hw 0 rfl rfl dX8_change_25 ?_
  refine lv_aload_n hx hb dX8_change_28 rfl (lv_at hl 0 rfl) ?_
  refine gf_X8_122 F hw 0 rfl rfl dX8_change_29 ?_
  refine lv_aload_n hx hb dX8_change_32 rfl (lv_at hl 0 rfl) ?_
  refine gf_X8_118 F hw 0 rfl rfl dX8_change_33 ?_
  refine lv_iconst (v := nI 1) hx hb dX8_change_36 (by decide) ?_
  refine n_sub hx hb (by omega) dX8_change_37 ?_
  refine ia_ld F hw 9 rfl (by omega) (by omega) dX8_change_38 ?_
  refine tp_i (y := nI a0) (hkn) ?_
  refine lv_iconst (v := nI 1) hx hb dX8_change_39 (by decide) ?_
  refine n_add hx hb dX8_change_40 ?_
  refine lv_sipush (v := nI 256) hx hb dX8_change_41 (by decide) ?_
  refine n_rem hx hb (by omega) (by omega) (by omega) dX8_change_44 ?_
  refine ia_st F hw 9 rfl (by omega) (by omega) dX8_change_45 (fun H locs hw => ?_)
  replace hw : Wd g s A H locs (mX g md (nI 0) mmz msz mnow mgr mmo mre msd mbg mky mli mrf mrn mka mta mwd mms mhs mke msa (upd mkn mky (nI ((a0 + 1) % 256))) mkb (vp_updL mku (mky - 1) mnow) mhp mpa mpb mit mus mid mbe mla msi mtx mra) := hw
  refine lv_iconst (v := nI 0) hx hb dX8_change_46 (by decide) ?_
  refine lv_istore (lv' := [(5, .int (nI 0)), (0, .ref (md 0)), (1, .int pa), (2, .int pb), (3, .int pc), (4, .int pd)]) hx hb dX8_change_47 hl (by decide) rfl (fun ls hl => ?_)
  have L_49 : ∀ (nn i : Nat), i ≤ 16 → 16 < i + nn → ∀ (H : Heap) (locs : List Loc) (ls : Array Slot), Wd g s A H locs (mX g md (nI 0) mmz msz mnow mgr mmo mre msd mbg mky mli mrf mrn mka mta mwd mms mhs mke msa (upd mkn mky (nI ((a0 + 1) % 256))) (chF pa pb pc pd mky mkb i) (vp_updL mku (mky - 1) mnow) mhp mpa mpb mit mus mid mbe mla msi mtx mra) → lv_has ls 7 [(0, .ref (md 0)), (1, .int pa), (2, .int pb), (3, .int pc), (4, .int pd), (5, .int (nI i))] → W p l e (rmm 0 0) s m args below meth c H locs 0 0 QQ (F0 m 49 ls []) := by
    intro nn
    induction nn with
    | zero => intro i h1 h2; exact absurd h2 (by omega)
    | succ nn ih =>
      intro i hk_i hn_i H locs ls hw hl
      refine lv_iload hx hb dX8_change_49 (lv_at hl 5 rfl) ?_
      refine lv_bipush (v := nI 16) hx hb dX8_change_51 (by decide) ?_
      refine n_ge (tgt := 130) hx hb (by omega) (by omega) dX8_change_53 (by decide) (fun c_53 => ?_) (fun c_53 => ?_)
      · obtain rfl : i = 16 := by omega
        refine lv_aload_n hx hb dX8_change_130 rfl (lv_at hl 0 rfl) ?_
        refine lv_dup hx hb dX8_change_131 rfl ?_
        refine gf_X8_118 F hw 0 rfl rfl dX8_change_132 ?_
        refine lv_iconst (v := nI 1) hx hb dX8_change_135 (by decide) ?_
        refine n_add hx hb dX8_change_136 ?_
        refine pf_X8_118 F hw 0 rfl (Nat.le_of_ble_eq_true rfl) rfl rfl dX8_change_137 (fun H locs hw => ?_)
        replace hw : Wd g s A H locs (mX g md (nI 0) mmz msz mnow mgr mmo mre msd mbg (mky + 1) mli mrf mrn mka mta mwd mms mhs mke msa (upd mkn mky (nI ((a0 + 1) % 256))) (chF pa pb pc pd mky mkb 16) (vp_updL mku (mky - 1) mnow) mhp mpa mpb mit mus mid mbe mla msi mtx mra) := hw
        refine lv_aload_n hx hb dX8_change_140 rfl (lv_at hl 0 rfl) ?_
        refine gf_X8_118 F hw 0 rfl rfl dX8_change_141 ?_
        refine lv_iconst (v := nI 5) hx hb dX8_change_144 (by decide) ?_
        refine n_ne (tgt := 245) hx hb (by omega) (by omega) dX8_change_145 (by decide) (fun c_145 => ?_) (fun c_145 => ?_)
        · refine lv_aload_n hx hb dX8_change_245 rfl (lv_at hl 0 rfl) ?_
          refine gf_X8_122 F hw 0 rfl rfl dX8_change_246 ?_
          refine lv_aload_n hx hb dX8_change_249 rfl (lv_at hl 0 rfl) ?_
          refine gf_X8_118 F hw 0 rfl rfl dX8_change_250 ?_
          refine lv_iconst (v := nI 1) hx hb dX8_change_253 (by decide) ?_
          refine n_sub hx hb (by omega) dX8_change_254 ?_
          refine ia_ld F hw 9 rfl (by omega) (by omega) dX8_change_255 ?_
          exact rt_i F hr hlk hQ hw ((mky + 1), (upd mkn mky (nI ((a0 + 1) % 256))), (vp_updL mku (mky - 1) mnow), (chF pa pb pc pd mky mkb 16)) (by first | exact ⟨upd_s _ _ _, 0, Or.inl ⟨rfl, by omega, rfl⟩, fun t ht => ⟨rfl, rfl, fun i hi => rfl⟩⟩ | exact ⟨by obtain rfl : mky = 4 := (by omega); exact (shN_get _ 4 3).trans ((if_pos (by decide)).trans (upd_s _ _ _)), 1, Or.inr ⟨rfl, by omega, rfl⟩, fun t ht => ⟨(shN_get _ 4 t).trans (if_pos ht), (shU_get _ 4 t).trans (if_pos ht), fun i hi => sh_16 _ t i ht hi⟩⟩) rfl dX8_change_256
        · refine lv_iconst (v := nI 0) hx hb dX8_change_148 (by decide) ?_
          refine lv_istore (lv' := [(5, .int (nI 0)), (0, .ref (md 0)), (1, .int pa), (2, .int pb), (3, .int pc), (4, .int pd)]) hx hb dX8_change_149 hl (by decide) rfl (fun ls hl => ?_)
          have L_151 : ∀ (nn k : Nat), k ≤ 4 → 4 < k + nn → ∀ (H : Heap) (locs : List Loc) (ls : Array Slot), Wd g s A H locs (mX g md (nI 0) mmz msz mnow mgr mmo mre msd mbg (mky + 1) mli mrf mrn mka mta mwd mms mhs mke msa (shN (upd mkn mky (nI ((a0 + 1) % 256))) k) (shO (chF pa pb pc pd mky mkb 16) k) (shU (vp_updL mku (mky - 1) mnow) k) mhp mpa mpb mit mus mid mbe mla msi mtx mra) → lv_has ls 7 [(0, .ref (md 0)), (5, .int (nI k))] → W p l e (rmm 0 0) s m args below meth c H locs 0 0 QQ (F0 m 151 ls []) := by
            intro nn
            induction nn with
            | zero => intro k h1 h2; exact absurd h2 (by omega)
            | succ nn ih =>
              intro k hk_k hn_k H locs ls hw hl
              refine lv_iload hx hb dX8_change_151 (lv_at hl 1 rfl) ?_
              refine lv_iconst (v := nI 4) hx hb dX8_change_153 (by decide) ?_
              refine n_ge (tgt := 240) hx hb (by omega) (by omega) dX8_change_154 (by decide) (fun c_154 => ?_) (fun c_154 => ?_)
              · obtain rfl : k = 4 := by omega
                refine lv_aload_n hx hb dX8_change_240 rfl (lv_at hl 0 rfl) ?_
                refine lv_iconst (v := nI 4) hx hb dX8_change_241 (by decide) ?_
                refine pf_X8_118 F hw 0 rfl (Nat.le_of_ble_eq_true rfl) rfl rfl dX8_change_242 (fun H locs hw => ?_)
                replace hw : Wd g s A H locs (mX g md (nI 0) mmz msz mnow mgr mmo mre msd mbg 4 mli mrf mrn mka mta mwd mms mhs mke msa (shN (upd mkn mky (nI ((a0 + 1) % 256))) 4) (shO (chF pa pb pc pd mky mkb 16) 4) (shU (vp_updL mku (mky - 1) mnow) 4) mhp mpa mpb mit mus mid mbe mla msi mtx mra) := hw
                refine lv_aload_n hx hb dX8_change_245 rfl (lv_at hl 0 rfl) ?_
                refine gf_X8_122 F hw 0 rfl rfl dX8_change_246 ?_
                refine lv_aload_n hx hb dX8_change_249 rfl (lv_at hl 0 rfl) ?_
                refine gf_X8_118 F hw 0 rfl rfl dX8_change_250 ?_
                refine lv_iconst (v := nI 1) hx hb dX8_change_253 (by decide) ?_
                refine n_sub hx hb (by omega) dX8_change_254 ?_
                refine ia_ld F hw 9 rfl (by omega) (by omega) dX8_change_255 ?_
                exact rt_i F hr hlk hQ hw (4, (shN (upd mkn mky (nI ((a0 + 1) % 256))) 4), (shU (vp_updL mku (mky - 1) mnow) 4), (shO (chF pa pb pc pd mky mkb 16) 4)) (by first | exact ⟨upd_s _ _ _, 0, Or.inl ⟨rfl, by omega, rfl⟩, fun t ht => ⟨rfl, rfl, fun i hi => rfl⟩⟩ | exact ⟨by obtain rfl : mky = 4 := (by omega); exact (shN_get _ 4 3).trans ((if_pos (by decide)).trans (upd_s _ _ _)), 1, Or.inr ⟨rfl, by omega, rfl⟩, fun t ht => ⟨(shN_get _ 4 t).trans (if_pos ht), (shU_get _ 4 t).trans (if_pos ht), fun i hi => sh_16 _ t i ht hi⟩⟩) rfl dX8_change_256
              · refine lv_aload_n hx hb dX8_change_157 rfl (lv_at hl 0 rfl) ?_
                refine gf_X8_122 F hw 0 rfl rfl dX8_change_158 ?_
                refine lv_iload hx hb dX8_change_161 (lv_at hl 1 rfl) ?_
                refine lv_aload_n hx hb dX8_change_163 rfl (lv_at hl 0 rfl) ?_
                refine gf_X8_122 F hw 0 rfl rfl dX8_change_164 ?_
                refine lv_iload hx hb dX8_change_167 (lv_at hl 1 rfl) ?_
                refine lv_iconst (v := nI 1) hx hb dX8_change_169 (by decide) ?_
                refine n_add hx hb dX8_change_170 ?_
                refine ia_ld F hw 9 rfl (by omega) (by omega) dX8_change_171 ?_
                refine ia_st F hw 9 rfl (by omega) (by omega) dX8_change_172 (fun H locs hw => ?_)
                replace hw : Wd g s A H locs (mX g md (nI 0) mmz msz mnow mgr mmo mre msd mbg (mky + 1) mli mrf mrn mka mta mwd mms mhs mke msa (upd (shN (upd mkn mky (nI ((a0 + 1) % 256))) k) k ((shN (upd mkn mky (nI ((a0 + 1) % 256))) k) (k + 1))) (shO (chF pa pb pc pd mky mkb 16) k) (shU (vp_updL mku (mky - 1) mnow) k) mhp mpa mpb mit mus mid mbe mla msi mtx mra) := hw
                refine lv_aload_n hx hb dX8_change_173 rfl (lv_at hl 0 rfl) ?_
                refine gf_X8_128 F hw 0 rfl rfl dX8_change_174 ?_
                refine lv_iload hx hb dX8_change_177 (lv_at hl 1 rfl) ?_
                refine lv_aload_n hx hb dX8_change_179 rfl (lv_at hl 0 rfl) ?_
                refine gf_X8_128 F hw 0 rfl rfl dX8_change_180 ?_
                refine lv_iload hx hb dX8_change_183 (lv_at hl 1 rfl) ?_
                refine lv_iconst (v := nI 1) hx hb dX8_change_185 (by decide) ?_
                refine n_add hx hb dX8_change_186 ?_
                refine ja_ld F hw 11 rfl (by omega) (by omega) dX8_change_187 ?_
                refine ja_st F hw 11 rfl (by omega) (by omega) dX8_change_188 (fun H locs hw => ?_)
                replace hw : Wd g s A H locs (mX g md (nI 0) mmz msz mnow mgr mmo mre msd mbg (mky + 1) mli mrf mrn mka mta mwd mms mhs mke msa (upd (shN (upd mkn mky (nI ((a0 + 1) % 256))) k) k ((shN (upd mkn mky (nI ((a0 + 1) % 256))) k) (k + 1))) (shO (chF pa pb pc pd mky mkb 16) k) (vp_updL (shU (vp_updL mku (mky - 1) mnow) k) k ((shU (vp_updL mku (mky - 1) mnow) k) (k + 1))) mhp mpa mpb mit mus mid mbe mla msi mtx mra) := hw
                refine lv_iconst (v := nI 0) hx hb dX8_change_189 (by decide) ?_
                refine lv_istore (lv' := [(6, .int (nI 0)), (0, .ref (md 0)), (5, .int (nI k))]) hx hb dX8_change_190 hl (by decide) rfl (fun ls hl => ?_)
                have L_192 : ∀ (nn r : Nat), r ≤ 16 → 16 < r + nn → ∀ (H : Heap) (locs : List Loc) (ls : Array Slot), Wd g s A H locs (mX g md (nI 0) mmz msz mnow mgr mmo mre msd mbg (mky + 1) mli mrf mrn mka mta mwd mms mhs mke msa (shN (upd mkn mky (nI ((a0 + 1) % 256))) (k + 1)) (shB (shO (chF pa pb pc pd mky mkb 16) k) k r) (shU (vp_updL mku (mky - 1) mnow) (k + 1)) mhp mpa mpb mit mus mid mbe mla msi mtx mra) → lv_has ls 7 [(0, .ref (md 0)), (5, .int (nI k)), (6, .int (nI r))] → W p l e (rmm 0 0) s m args below meth c H locs 0 0 QQ (F0 m 192 ls []) := by
                  intro nn
                  induction nn with
                  | zero => intro r h1 h2; exact absurd h2 (by omega)
                  | succ nn ih2 =>
                    intro r hk_r hn_r H locs ls hw hl
                    refine lv_iload hx hb dX8_change_192 (lv_at hl 2 rfl) ?_
                    refine lv_bipush (v := nI 16) hx hb dX8_change_194 (by decide) ?_
                    refine n_ge (tgt := 234) hx hb (by omega) (by omega) dX8_change_196 (by decide) (fun c_196 => ?_) (fun c_196 => ?_)
                    · obtain rfl : r = 16 := by omega
                      refine lv_iinc (v := nI (k + 1)) (lv' := [(5, .int (nI (k + 1))), (0, .ref (md 0)), (6, .int (nI 16))]) hx hb dX8_change_234 hl (k := 1) rfl (inc_n _ 1) (by decide) rfl (fun ls hl => ?_)
                      refine lv_goto (tgt := 151) hx hb dX8_change_237 (by decide) ?_
                      exact ih (k + 1) (by omega) (by omega) _ _ _ hw (lv_sub hl [1, 0] rfl)
                    · refine lv_aload_n hx hb dX8_change_199 rfl (lv_at hl 0 rfl) ?_
                      refine gf_X8_125 F hw 0 rfl rfl dX8_change_200 ?_
                      refine lv_bipush (v := nI 16) hx hb dX8_change_203 (by decide) ?_
                      refine lv_iload hx hb dX8_change_205 (lv_at hl 1 rfl) ?_
                      refine n_mul hx hb dX8_change_207 ?_
                      refine lv_iload hx hb dX8_change_208 (lv_at hl 2 rfl) ?_
                      refine n_add hx hb dX8_change_210 ?_
                      refine lv_aload_n hx hb dX8_change_211 rfl (lv_at hl 0 rfl) ?_
                      refine gf_X8_125 F hw 0 rfl rfl dX8_change_212 ?_
                      refine lv_bipush (v := nI 16) hx hb dX8_change_215 (by decide) ?_
                      refine lv_iload hx hb dX8_change_217 (lv_at hl 1 rfl) ?_
                      refine n_mul hx hb dX8_change_219 ?_
                      refine lv_bipush (v := nI 16) hx hb dX8_change_220 (by decide) ?_
                      refine n_add hx hb dX8_change_222 ?_
                      refine lv_iload hx hb dX8_change_223 (lv_at hl 2 rfl) ?_
                      refine n_add hx hb dX8_change_225 ?_
                      refine ia_ld F hw 10 rfl (by omega) (by omega) dX8_change_226 ?_
                      refine ia_st F hw 10 rfl (by omega) (by omega) dX8_change_227 (fun H locs hw => ?_)
                      replace hw : Wd g s A H locs (mX g md (nI 0) mmz msz mnow mgr mmo mre msd mbg (mky + 1) mli mrf mrn mka mta mwd mms mhs mke msa (shN (upd mkn mky (nI ((a0 + 1) % 256))) (k + 1)) (upd (shB (shO (chF pa pb pc pd mky mkb 16) k) k r) ((16 * k) + r) ((shB (shO (chF pa pb pc pd mky mkb 16) k) k r) (((16 * k) + 16) + r))) (shU (vp_updL mku (mky - 1) mnow) (k + 1)) mhp mpa mpb mit mus mid mbe mla msi mtx mra) := hw
                      refine lv_iinc (v := nI (r + 1)) (lv' := [(6, .int (nI (r + 1))), (0, .ref (md 0)), (5, .int (nI k))]) hx hb dX8_change_228 hl (k := 2) rfl (inc_n _ 1) (by decide) rfl (fun ls hl => ?_)
                      refine lv_goto (tgt := 192) hx hb dX8_change_231 (by decide) ?_
                      exact ih2 (r + 1) (by omega) (by omega) _ _ _ hw (lv_sub hl [1, 2, 0] rfl)
                exact L_192 (16 + 1) 0 (by omega) (by omega) _ _ _ hw (lv_sub hl [1, 2, 0] rfl)
          exact L_151 (4 + 1) 0 (by omega) (by omega) _ _ _ hw (lv_sub hl [1, 0] rfl)
      · refine lv_iload hx hb dX8_change_56 (lv_at hl 5 rfl) ?_
        refine lv_iconst (v := nI 4) hx hb dX8_change_58 (by decide) ?_
        refine n_ge (tgt := 66) hx hb (by omega) (by omega) dX8_change_59 (by decide) (fun c_59 => ?_) (fun c_59 => ?_)
        · refine lv_iload hx hb dX8_change_66 (lv_at hl 5 rfl) ?_
          refine lv_bipush (v := nI 8) hx hb dX8_change_68 (by decide) ?_
          refine n_ge (tgt := 77) hx hb (by omega) (by omega) dX8_change_70 (by decide) (fun c_70 => ?_) (fun c_70 => ?_)
          · refine lv_iload hx hb dX8_change_77 (lv_at hl 5 rfl) ?_
            refine lv_bipush (v := nI 12) hx hb dX8_change_79 (by decide) ?_
            refine n_ge (tgt := 88) hx hb (by omega) (by omega) dX8_change_81 (by decide) (fun c_81 => ?_) (fun c_81 => ?_)
            · refine lv_iload hx hb dX8_change_88 (lv_at hl 4 rfl) ?_
              refine lv_istore (lv' := [(6, .int pd), (0, .ref (md 0)), (1, .int pa), (2, .int pb), (3, .int pc), (4, .int pd), (5, .int (nI i))]) hx hb dX8_change_90 hl (by decide) rfl (fun ls hl => ?_)
              refine lv_aload_n hx hb dX8_change_92 rfl (lv_at hl 1 rfl) ?_
              refine gf_X8_125 F hw 0 rfl rfl dX8_change_93 ?_
              refine lv_bipush (v := nI 16) hx hb dX8_change_96 (by decide) ?_
              refine lv_aload_n hx hb dX8_change_98 rfl (lv_at hl 1 rfl) ?_
              refine gf_X8_118 F hw 0 rfl rfl dX8_change_99 ?_
              refine n_mul hx hb dX8_change_102 ?_
              refine lv_iload hx hb dX8_change_103 (lv_at hl 6 rfl) ?_
              refine n_add hx hb dX8_change_105 ?_
              refine lv_iload hx hb dX8_change_106 (lv_at hl 0 rfl) ?_
              refine lv_bipush (v := nI 24) hx hb dX8_change_108 (by decide) ?_
              refine lv_bipush (v := nI 8) hx hb dX8_change_110 (by decide) ?_
              refine lv_iload hx hb dX8_change_112 (lv_at hl 6 rfl) ?_
              refine lv_iconst (v := nI 4) hx hb dX8_change_114 (by decide) ?_
              refine n_rem hx hb (by omega) (by omega) (by omega) dX8_change_115 ?_
              refine n_mul hx hb dX8_change_116 ?_
              refine n_sub hx hb (by omega) dX8_change_117 ?_
              refine lv_ishr hx hb dX8_change_118 ?_
              refine lv_sipush (v := nI 255) hx hb dX8_change_119 (by decide) ?_
              refine lv_iand hx hb dX8_change_122 ?_
              refine tp_i (y := byO pd (i % 4)) (sar_byO _ (by omega)) ?_
              refine ia_st F hw 10 rfl (by omega) (by omega) dX8_change_123 (fun H locs hw => ?_)
              replace hw : Wd g s A H locs (mX g md (nI 0) mmz msz mnow mgr mmo mre msd mbg mky mli mrf mrn mka mta mwd mms mhs mke msa (upd mkn mky (nI ((a0 + 1) % 256))) (upd (chF pa pb pc pd mky mkb i) ((16 * mky) + i) (byO pd (i % 4))) (vp_updL mku (mky - 1) mnow) mhp mpa mpb mit mus mid mbe mla msi mtx mra) := hw
              refine lv_iinc (v := nI (i + 1)) (lv' := [(5, .int (nI (i + 1))), (6, .int pd), (0, .ref (md 0)), (1, .int pa), (2, .int pb), (3, .int pc), (4, .int pd)]) hx hb dX8_change_124 hl (k := 6) rfl (inc_n _ 1) (by decide) rfl (fun ls hl => ?_)
              refine lv_goto (tgt := 49) hx hb dX8_change_127 (by decide) ?_
              exact ih (i + 1) (by omega) (by omega) _ _ _ (by first | (rw [ch_a c_59]; exact hw) | (rw [ch_b c_59 c_70]; exact hw) | (rw [ch_c c_59 c_70 c_81]; exact hw) | (rw [ch_d c_59 c_70 c_81]; exact hw)) (lv_sub hl [2, 3, 4, 5, 6, 0] rfl)
            · refine lv_iload_n hx hb dX8_change_84 rfl (lv_at hl 3 rfl) ?_
              refine lv_goto (tgt := 90) hx hb dX8_change_85 (by decide) ?_
              refine lv_istore (lv' := [(6, .int pc), (0, .ref (md 0)), (1, .int pa), (2, .int pb), (3, .int pc), (4, .int pd), (5, .int (nI i))]) hx hb dX8_change_90 hl (by decide) rfl (fun ls hl => ?_)
              refine lv_aload_n hx hb dX8_change_92 rfl (lv_at hl 1 rfl) ?_
              refine gf_X8_125 F hw 0 rfl rfl dX8_change_93 ?_
              refine lv_bipush (v := nI 16) hx hb dX8_change_96 (by decide) ?_
              refine lv_aload_n hx hb dX8_change_98 rfl (lv_at hl 1 rfl) ?_
              refine gf_X8_118 F hw 0 rfl rfl dX8_change_99 ?_
              refine n_mul hx hb dX8_change_102 ?_
              refine lv_iload hx hb dX8_change_103 (lv_at hl 6 rfl) ?_
              refine n_add hx hb dX8_change_105 ?_
              refine lv_iload hx hb dX8_change_106 (lv_at hl 0 rfl) ?_
              refine lv_bipush (v := nI 24) hx hb dX8_change_108 (by decide) ?_
              refine lv_bipush (v := nI 8) hx hb dX8_change_110 (by decide) ?_
              refine lv_iload hx hb dX8_change_112 (lv_at hl 6 rfl) ?_
              refine lv_iconst (v := nI 4) hx hb dX8_change_114 (by decide) ?_
              refine n_rem hx hb (by omega) (by omega) (by omega) dX8_change_115 ?_
              refine n_mul hx hb dX8_change_116 ?_
              refine n_sub hx hb (by omega) dX8_change_117 ?_
              refine lv_ishr hx hb dX8_change_118 ?_
              refine lv_sipush (v := nI 255) hx hb dX8_change_119 (by decide) ?_
              refine lv_iand hx hb dX8_change_122 ?_
              refine tp_i (y := byO pc (i % 4)) (sar_byO _ (by omega)) ?_
              refine ia_st F hw 10 rfl (by omega) (by omega) dX8_change_123 (fun H locs hw => ?_)
              replace hw : Wd g s A H locs (mX g md (nI 0) mmz msz mnow mgr mmo mre msd mbg mky mli mrf mrn mka mta mwd mms mhs mke msa (upd mkn mky (nI ((a0 + 1) % 256))) (upd (chF pa pb pc pd mky mkb i) ((16 * mky) + i) (byO pc (i % 4))) (vp_updL mku (mky - 1) mnow) mhp mpa mpb mit mus mid mbe mla msi mtx mra) := hw
              refine lv_iinc (v := nI (i + 1)) (lv' := [(5, .int (nI (i + 1))), (6, .int pc), (0, .ref (md 0)), (1, .int pa), (2, .int pb), (3, .int pc), (4, .int pd)]) hx hb dX8_change_124 hl (k := 6) rfl (inc_n _ 1) (by decide) rfl (fun ls hl => ?_)
              refine lv_goto (tgt := 49) hx hb dX8_change_127 (by decide) ?_
              exact ih (i + 1) (by omega) (by omega) _ _ _ (by first | (rw [ch_a c_59]; exact hw) | (rw [ch_b c_59 c_70]; exact hw) | (rw [ch_c c_59 c_70 c_81]; exact hw) | (rw [ch_d c_59 c_70 c_81]; exact hw)) (lv_sub hl [2, 3, 4, 5, 6, 0] rfl)
          · refine lv_iload_n hx hb dX8_change_73 rfl (lv_at hl 2 rfl) ?_
            refine lv_goto (tgt := 90) hx hb dX8_change_74 (by decide) ?_
            refine lv_istore (lv' := [(6, .int pb), (0, .ref (md 0)), (1, .int pa), (2, .int pb), (3, .int pc), (4, .int pd), (5, .int (nI i))]) hx hb dX8_change_90 hl (by decide) rfl (fun ls hl => ?_)
            refine lv_aload_n hx hb dX8_change_92 rfl (lv_at hl 1 rfl) ?_
            refine gf_X8_125 F hw 0 rfl rfl dX8_change_93 ?_
            refine lv_bipush (v := nI 16) hx hb dX8_change_96 (by decide) ?_
            refine lv_aload_n hx hb dX8_change_98 rfl (lv_at hl 1 rfl) ?_
            refine gf_X8_118 F hw 0 rfl rfl dX8_change_99 ?_
            refine n_mul hx hb dX8_change_102 ?_
            refine lv_iload hx hb dX8_change_103 (lv_at hl 6 rfl) ?_
            refine n_add hx hb dX8_change_105 ?_
            refine lv_iload hx hb dX8_change_106 (lv_at hl 0 rfl) ?_
            refine lv_bipush (v := nI 24) hx hb dX8_change_108 (by decide) ?_
            refine lv_bipush (v := nI 8) hx hb dX8_change_110 (by decide) ?_
            refine lv_iload hx hb dX8_change_112 (lv_at hl 6 rfl) ?_
            refine lv_iconst (v := nI 4) hx hb dX8_change_114 (by decide) ?_
            refine n_rem hx hb (by omega) (by omega) (by omega) dX8_change_115 ?_
            refine n_mul hx hb dX8_change_116 ?_
            refine n_sub hx hb (by omega) dX8_change_117 ?_
            refine lv_ishr hx hb dX8_change_118 ?_
            refine lv_sipush (v := nI 255) hx hb dX8_change_119 (by decide) ?_
            refine lv_iand hx hb dX8_change_122 ?_
            refine tp_i (y := byO pb (i % 4)) (sar_byO _ (by omega)) ?_
            refine ia_st F hw 10 rfl (by omega) (by omega) dX8_change_123 (fun H locs hw => ?_)
            replace hw : Wd g s A H locs (mX g md (nI 0) mmz msz mnow mgr mmo mre msd mbg mky mli mrf mrn mka mta mwd mms mhs mke msa (upd mkn mky (nI ((a0 + 1) % 256))) (upd (chF pa pb pc pd mky mkb i) ((16 * mky) + i) (byO pb (i % 4))) (vp_updL mku (mky - 1) mnow) mhp mpa mpb mit mus mid mbe mla msi mtx mra) := hw
            refine lv_iinc (v := nI (i + 1)) (lv' := [(5, .int (nI (i + 1))), (6, .int pb), (0, .ref (md 0)), (1, .int pa), (2, .int pb), (3, .int pc), (4, .int pd)]) hx hb dX8_change_124 hl (k := 6) rfl (inc_n _ 1) (by decide) rfl (fun ls hl => ?_)
            refine lv_goto (tgt := 49) hx hb dX8_change_127 (by decide) ?_
            exact ih (i + 1) (by omega) (by omega) _ _ _ (by first | (rw [ch_a c_59]; exact hw) | (rw [ch_b c_59 c_70]; exact hw) | (rw [ch_c c_59 c_70 c_81]; exact hw) | (rw [ch_d c_59 c_70 c_81]; exact hw)) (lv_sub hl [2, 3, 4, 5, 6, 0] rfl)
        · refine lv_iload_n hx hb dX8_change_62 rfl (lv_at hl 1 rfl) ?_
          refine lv_goto (tgt := 90) hx hb dX8_change_63 (by decide) ?_
          refine lv_istore (lv' := [(6, .int pa), (0, .ref (md 0)), (1, .int pa), (2, .int pb), (3, .int pc), (4, .int pd), (5, .int (nI i))]) hx hb dX8_change_90 hl (by decide) rfl (fun ls hl => ?_)
          refine lv_aload_n hx hb dX8_change_92 rfl (lv_at hl 1 rfl) ?_
          refine gf_X8_125 F hw 0 rfl rfl dX8_change_93 ?_
          refine lv_bipush (v := nI 16) hx hb dX8_change_96 (by decide) ?_
          refine lv_aload_n hx hb dX8_change_98 rfl (lv_at hl 1 rfl) ?_
          refine gf_X8_118 F hw 0 rfl rfl dX8_change_99 ?_
          refine n_mul hx hb dX8_change_102 ?_
          refine lv_iload hx hb dX8_change_103 (lv_at hl 6 rfl) ?_
          refine n_add hx hb dX8_change_105 ?_
          refine lv_iload hx hb dX8_change_106 (lv_at hl 0 rfl) ?_
          refine lv_bipush (v := nI 24) hx hb dX8_change_108 (by decide) ?_
          refine lv_bipush (v := nI 8) hx hb dX8_change_110 (by decide) ?_
          refine lv_iload hx hb dX8_change_112 (lv_at hl 6 rfl) ?_
          refine lv_iconst (v := nI 4) hx hb dX8_change_114 (by decide) ?_
          refine n_rem hx hb (by omega) (by omega) (by omega) dX8_change_115 ?_
          refine n_mul hx hb dX8_change_116 ?_
          refine n_sub hx hb (by omega) dX8_change_117 ?_
          refine lv_ishr hx hb dX8_change_118 ?_
          refine lv_sipush (v := nI 255) hx hb dX8_change_119 (by decide) ?_
          refine lv_iand hx hb dX8_change_122 ?_
          refine tp_i (y := byO pa (i % 4)) (sar_byO _ (by omega)) ?_
          refine ia_st F hw 10 rfl (by omega) (by omega) dX8_change_123 (fun H locs hw => ?_)
          replace hw : Wd g s A H locs (mX g md (nI 0) mmz msz mnow mgr mmo mre msd mbg mky mli mrf mrn mka mta mwd mms mhs mke msa (upd mkn mky (nI ((a0 + 1) % 256))) (upd (chF pa pb pc pd mky mkb i) ((16 * mky) + i) (byO pa (i % 4))) (vp_updL mku (mky - 1) mnow) mhp mpa mpb mit mus mid mbe mla msi mtx mra) := hw
          refine lv_iinc (v := nI (i + 1)) (lv' := [(5, .int (nI (i + 1))), (6, .int pa), (0, .ref (md 0)), (1, .int pa), (2, .int pb), (3, .int pc), (4, .int pd)]) hx hb dX8_change_124 hl (k := 6) rfl (inc_n _ 1) (by decide) rfl (fun ls hl => ?_)
          refine lv_goto (tgt := 49) hx hb dX8_change_127 (by decide) ?_
          exact ih (i + 1) (by omega) (by omega) _ _ _ (by first | (rw [ch_a c_59]; exact hw) | (rw [ch_b c_59 c_70]; exact hw) | (rw [ch_c c_59 c_70 c_81]; exact hw) | (rw [ch_d c_59 c_70 c_81]; exact hw)) (lv_sub hl [2, 3, 4, 5, 6, 0] rfl)
  exact L_49 (16 + 1) 0 (by omega) (by omega) _ _ _ hw (lv_sub hl [1, 2, 3, 4, 5, 0] rfl)
