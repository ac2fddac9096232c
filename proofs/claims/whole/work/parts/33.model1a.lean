def zrF (f : Nat → Int32) (a : Nat) : Nat → Nat → Int32
  | 0 => f
  | j + 1 => upd (zrF f a j) (a + j) (nI 0)
theorem zrF_get (f : Nat → Int32) (a : Nat) : ∀ j t, zrF f a j t = if a ≤ t ∧ t < a + j then nI 0 else f t := by
  intro j
  induction j with
  | zero => intro t; rw [if_neg (by omega)]; rfl
  | succ j ih =>
    intro t
    show upd (zrF f a j) (a + j) (nI 0) t = _
    by_cases e : t = a + j
    · subst e; rw [upd_s, if_pos (by omega)]
    · rw [upd_n _ _ e, ih t]
      by_cases h : a ≤ t ∧ t < a + j
      · rw [if_pos h, if_pos (by omega)]
      · rw [if_neg h, if_neg (by omega)]
def lbV (n k : Nat) : Int32 := if 4 ≤ k then (nI (8 * n) >>> (nI (56 - 8 * k) &&& 31)) &&& nI 255 else nI 0
def lbF (f : Nat → Int32) (n : Nat) : Nat → Nat → Int32
  | 0 => f
  | k + 1 => upd (lbF f n k) (120 + k) (lbV n k)
theorem lb_t {f : Nat → Int32} {n k : Nat} (h : 4 ≤ k) : lbF f n (k + 1) = upd (lbF f n k) (120 + k) ((nI (8 * n) >>> (nI (56 - 8 * k) &&& 31)) &&& nI 255) := by simp only [lbF, lbV, h, if_true]
theorem lb_f {f : Nat → Int32} {n k : Nat} (h : k < 4) : lbF f n (k + 1) = upd (lbF f n k) (120 + k) (nI 0) := by simp only [lbF, lbV, Nat.not_le.mpr h, if_false]
theorem lbF_get (f : Nat → Int32) (n : Nat) : ∀ k t, lbF f n k t = if 120 ≤ t ∧ t < 120 + k then lbV n (t - 120) else f t := by
  intro k
  induction k with
  | zero => intro t; rw [if_neg (by omega)]; rfl
  | succ k ih =>
    intro t
    show upd (lbF f n k) (120 + k) (lbV n k) t = _
    by_cases e : t = 120 + k
    · subst e; rw [upd_s, if_pos (show 120 ≤ 120 + k ∧ 120 + k < 120 + (k + 1) by omega), show 120 + k - 120 = k by omega]
    · rw [upd_n _ _ e, ih t]
      by_cases h : 120 ≤ t ∧ t < 120 + k
      · rw [if_pos h, if_pos (show 120 ≤ t ∧ t < 120 + (k + 1) by omega)]
      · rw [if_neg h, if_neg (show ¬ (120 ≤ t ∧ t < 120 + (k + 1)) by omega)]
def cpF (f0 : Nat → Int32) : Nat → Nat → Int32
  | 0 => f0
  | k + 1 => upd (cpF f0 k) k (kS k)
theorem cpF_get (f0 : Nat → Int32) : ∀ k t, t < k → cpF f0 k t = kS t := by
  intro k
  induction k with
  | zero => intro t h; omega
  | succ k ih =>
    intro t h
    show upd (cpF f0 k) k (kS k) t = _
    by_cases e : t = k
    · subst e; rw [upd_s]
    · rw [upd_n _ _ e]; exact ih t (by omega)
/-- the message, filled up to two blocks -/
def padM (f : Nat → Int32) (n : Nat) (t : Nat) : Int32 := if 120 ≤ t then lbV n (t - 120) else if n < t then nI 0 else if t = n then nI 128 else f t
theorem pad_of {f : Nat → Int32} {n : Nat} (h : 64 ≤ n) (h2 : n ≤ 104) : ∀ t, t < 128 → lbF (zrF (upd f n (nI 128)) (n + 1) (119 - n)) n 8 t = padM f n t := by
  intro t ht
  rw [lbF_get, zrF_get]
  unfold padM
  by_cases a1 : 120 ≤ t
  · rw [if_pos (by omega), if_pos a1]
  · rw [if_neg (by omega), if_neg a1]
    by_cases a2 : n < t
    · rw [if_pos (by omega), if_pos a2]
    · rw [if_neg (by omega), if_neg a2]
      by_cases a3 : t = n
      · subst a3; rw [if_pos rfl, upd_s]
      · rw [if_neg a3, upd_n _ _ a3]
theorem cmp1_congrB {st st' B B' : Nat → Int32} {fr : Nat} (hf : fr ≤ 64) (h : ∀ i, i < 8 → st i = st' i) (hB : ∀ j, j < 128 → B j = B' j) : ∀ i, i < 8 → cmp1 st B fr i = cmp1 st' B' fr i := by
  intro i hi
  show st i + mx st (w64 B fr) 64 i = st' i + mx st' (w64 B' fr) 64 i
  rw [h i hi, mx_congr h (w64_congr hf hB) 64 (Nat.le_refl _) i hi]
theorem hashM {st0 u1 u2 B B' f0 : Nat → Int32} (h0 : ∀ i, i < 8 → st0 i = kS i) (h1 : ∀ i, i < 8 → u1 i = cmp1 st0 B 0 i) (h2 : ∀ i, i < 8 → u2 i = cmp1 u1 B 64 i) (hB : ∀ j, j < 128 → B j = B' j) : ∀ j, j < 32 → hb1 u2 f0 32 j = hsh B' j := by
  intro j hj
  rw [hb1_get _ _ 32 j hj]
  show byO _ _ = byO (cmp1 (cmp1 kS B' 0) B' 64 (j / 4)) (j % 4)
  rw [h2 _ (by omega), cmp1_congrB (by omega) (fun i hi => (h1 i hi).trans (cmp1_congrB (by omega) h0 hB i hi)) hB _ (by omega)]
set_option maxHeartbeats 4000000 in
set_option maxRecDepth 100000 in
theorem c_X8_hashNow (g : GG) (l : Launch) (md : Nat → Nat) (mfa : Int32) (mmz : Nat) (msz : Nat) (mnow : Int64) (mgr : Int64) (mmo : Int64) (mre : Int64) (msd : Int64) (mbg : Int64) (mky : Nat) (mli : Int32) (mrf : Int32) (mrn : Int32) (mka : Int32) (mta : Nat → Int32) (mwd : Nat → Int32) (mms : Nat → Int32) (mhs : Nat → Int32) (mke : Nat → Int32) (msa : Nat → Int32) (mkn : Nat → Int32) (mkb : Nat → Int32) (mku : Nat → Int64) (mhp : Nat → Int32) (mpa : Nat → Int32) (mpb : Nat → Int32) (mit : Nat → Int32) (mus : Nat → Int32) (mid : Nat → Int64) (mbe : Nat → Int64) (mla : Nat → Int64) (msi : Nat → Int32) (mtx : Nat → Int32) (mra : Nat → Int32) (h64 : 64 ≤ mmz) (h104 : mmz ≤ 104) : Ct g l yX8_hashNow cX8_hashNow 4 none 2 53 [.ref (md 0)] (mX g md mfa mmz msz mnow mgr mmo mre msd mbg mky mli mrf mrn mka mta mwd mms mhs mke msa mkn mkb mku mhp mpa mpb mit mus mid mbe mla msi mtx mra) (Rv g (fun (u : (Nat → Int32) × (Nat → Int32) × (Nat → Int32) × (Nat → Int32)) => ∀ j, j < 32 → u.2.2.2 j = hsh (padM mms mmz) j) (fun (u : (Nat → Int32) × (Nat → Int32) × (Nat → Int32) × (Nat → Int32)) => (mX g md mfa mmz msz mnow mgr mmo mre msd mbg mky mli mrf mrn mka u.1 u.2.1 u.2.2.1 u.2.2.2 mke msa mkn mkb mku mhp mpa mpb mit mus mid mbe mla msi mtx mra))) := by
  refine mkC (by decide) (Nat.le_of_ble_eq_true rfl) ?_
  intro p e s m args below meth c A ls QQ F hr hlk hnm hQ hw hl
  have hx := F.1
  have hb := F.2.1
  replace hl : lv_has ls 4 [(0, .ref (md 0))] := hl
  refine lv_bipush (v := nI 8) hx hb dX8_hashNow_0 (by decide) ?_
  refine lv_aload_n hx hb dX8_hashNow_2 rfl (lv_at hl 0 rfl) ?_
  refine gf_X8_173 F hw 0 rfl rfl dX8_hashNow_3 ?_
  refine n_mul hx hb dX8_hashNow_6 ?_
  refine lv_istore_n (lv' := [(1, .int (nI (8 * mmz))), (0, .ref (md 0))]) hx hb dX8_hashNow_7 rfl hl (by decide) rfl (fun ls hl => ?_)
  refine lv_aload_n hx hb dX8_hashNow_8 rfl (lv_at hl 1 rfl) ?_
  refine gf_X8_94 F hw 0 rfl rfl dX8_hashNow_9 ?_
  refine lv_aload_n hx hb dX8_hashNow_12 rfl (lv_at hl 1 rfl) ?_
  refine gf_X8_173 F hw 0 rfl rfl dX8_hashNow_13 ?_
  refine lv_sipush (v := nI 128) hx hb dX8_hashNow_16 (by decide) ?_
  refine ia_st F hw 5 rfl (by omega) (by omega) dX8_hashNow_19 (fun H locs hw => ?_)
  replace hw : Wd g s A H locs (mX g md mfa mmz msz mnow mgr mmo mre msd mbg mky mli mrf mrn mka mta mwd (upd mms mmz (nI 128)) mhs mke msa mkn mkb mku mhp mpa mpb mit mus mid mbe mla msi mtx mra) := hw
  refine lv_aload_n hx hb dX8_hashNow_20 rfl (lv_at hl 1 rfl) ?_
  refine gf_X8_173 F hw 0 rfl rfl dX8_hashNow_21 ?_
  refine lv_iconst (v := nI 1) hx hb dX8_hashNow_24 (by decide) ?_
  refine n_add hx hb dX8_hashNow_25 ?_
  refine lv_istore_n (lv' := [(2, .int (nI (mmz + 1))), (1, .int (nI (8 * mmz))), (0, .ref (md 0))]) hx hb dX8_hashNow_26 rfl hl (by decide) rfl (fun ls hl => ?_)
  have L_27 : ∀ (nn j : Nat), j ≤ (119 - mmz) → (119 - mmz) < j + nn → ∀ (H : Heap) (locs : List Loc) (ls : Array Slot), Wd g s A H locs (mX g md mfa mmz msz mnow mgr mmo mre msd mbg mky mli mrf mrn mka mta mwd (zrF (upd mms mmz (nI 128)) (mmz + 1) j) mhs mke msa mkn mkb mku mhp mpa mpb mit mus mid mbe mla msi mtx mra) → lv_has ls 4 [(0, .ref (md 0)), (1, .int (nI (8 * mmz))), (2, .int (nI (mmz + 1 + j)))] → W p l e (rmm 2 53) s m args below meth c H locs 0 0 QQ (F0 m 27 ls []) := by
    intro nn
    induction nn with
    | zero => intro j h1 h2; exact absurd h2 (by omega)
    | succ nn ih =>
      intro j hk_j hn_j H locs ls hw hl
      refine lv_iload_n hx hb dX8_hashNow_27 rfl (lv_at hl 2 rfl) ?_
      refine lv_bipush (v := nI 64) hx hb dX8_hashNow_28 (by decide) ?_
      refine n_rem hx hb (by omega) (by omega) (by omega) dX8_hashNow_30 ?_
      refine lv_bipush (v := nI 56) hx hb dX8_hashNow_31 (by decide) ?_
      refine n_eq (tgt := 49) hx hb (by omega) (by omega) dX8_hashNow_33 (by decide) (fun c_33 => ?_) (fun c_33 => ?_)
      · obtain rfl : j = 119 - mmz := by omega
        rw [show mmz + 1 + (119 - mmz) = 120 by omega] at hl
        refine lv_iconst (v := nI 0) hx hb dX8_hashNow_49 (by decide) ?_
        refine lv_istore_n (lv' := [(3, .int (nI 0)), (0, .ref (md 0)), (1, .int (nI (8 * mmz))), (2, .int (nI 120))]) hx hb dX8_hashNow_50 rfl hl (by decide) rfl (fun ls hl => ?_)
        have L_51 : ∀ (nn k : Nat), k ≤ 8 → 8 < k + nn → ∀ (H : Heap) (locs : List Loc) (ls : Array Slot), Wd g s A H locs (mX g md mfa mmz msz mnow mgr mmo mre msd mbg mky mli mrf mrn mka mta mwd (lbF (zrF (upd mms mmz (nI 128)) (mmz + 1) (119 - mmz)) mmz k) mhs mke msa mkn mkb mku mhp mpa mpb mit mus mid mbe mla msi mtx mra) → lv_has ls 4 [(0, .ref (md 0)), (1, .int (nI (8 * mmz))), (2, .int (nI 120)), (3, .int (nI k))] → W p l e (rmm 2 53) s m args below meth c H locs 0 0 QQ (F0 m 51 ls []) := by
          intro nn
          induction nn with
          | zero => intro k h1 h2; exact absurd h2 (by omega)
          | succ nn ih =>
            intro k hk_k hn_k H locs ls hw hl
            refine lv_iload_n hx hb dX8_hashNow_51 rfl (lv_at hl 3 rfl) ?_
            refine lv_bipush (v := nI 8) hx hb dX8_hashNow_52 (by decide) ?_
            refine n_ge (tgt := 93) hx hb (by omega) (by omega) dX8_hashNow_54 (by decide) (fun c_54 => ?_) (fun c_54 => ?_)
            · obtain rfl : k = 8 := by omega
              refine lv_iconst (v := nI 0) hx hb dX8_hashNow_93 (by decide) ?_
              refine lv_istore_n (lv' := [(3, .int (nI 0)), (0, .ref (md 0)), (1, .int (nI (8 * mmz))), (2, .int (nI 120))]) hx hb dX8_hashNow_94 rfl hl (by decide) rfl (fun ls hl => ?_)
              have L_95 : ∀ (nn k2 : Nat), k2 ≤ 8 → 8 < k2 + nn → ∀ (H : Heap) (locs : List Loc) (ls : Array Slot), Wd g s A H locs (mX g md mfa mmz msz mnow mgr mmo mre msd mbg mky mli mrf mrn mka (cpF mta k2) mwd (lbF (zrF (upd mms mmz (nI 128)) (mmz + 1) (119 - mmz)) mmz 8) mhs mke msa mkn mkb mku mhp mpa mpb mit mus mid mbe mla msi mtx mra) → lv_has ls 4 [(0, .ref (md 0)), (2, .int (nI 120)), (3, .int (nI k2))] → W p l e (rmm 2 53) s m args below meth c H locs 0 0 QQ (F0 m 95 ls []) := by
                intro nn
                induction nn with
                | zero => intro k2 h1 h2; exact absurd h2 (by omega)
                | succ nn ih =>
                  intro k2 hk_k2 hn_k2 H locs ls hw hl
                  refine lv_iload_n hx hb dX8_hashNow_95 rfl (lv_at hl 2 rfl) ?_
                  refine lv_bipush (v := nI 8) hx hb dX8_hashNow_96 (by decide) ?_
                  refine n_ge (tgt := 119) hx hb (by omega) (by omega) dX8_hashNow_98 (by decide) (fun c_98 => ?_) (fun c_98 => ?_)
                  · obtain rfl : k2 = 8 := by omega
                    refine lv_iconst (v := nI 0) hx hb dX8_hashNow_119 (by decide) ?_
                    refine lv_istore_n (lv' := [(3, .int (nI 0)), (0, .ref (md 0)), (2, .int (nI 120))]) hx hb dX8_hashNow_120 rfl hl (by decide) rfl (fun ls hl => ?_)
                    refine lv_iload_n hx hb dX8_hashNow_121 rfl (lv_at hl 0 rfl) ?_
                    refine lv_iload_n hx hb dX8_hashNow_122 rfl (lv_at hl 2 rfl) ?_
                    refine lv_bipush (v := nI 8) hx hb dX8_hashNow_123 (by decide) ?_
                    refine n_add hx hb dX8_hashNow_125 ?_
                    refine n_ge (tgt := 140) hx hb (by omega) (by omega) dX8_hashNow_126 (by decide) (fun c_126 => ?_) (fun c_126 => ?_)
                    · exact absurd c_126 (by omega)
                    · refine lv_aload_n hx hb dX8_hashNow_129 rfl (lv_at hl 1 rfl) ?_
                      refine lv_iload_n hx hb dX8_hashNow_130 rfl (lv_at hl 0 rfl) ?_
                      refine cl_vF hw (rn_VF F hw (c_X8_block g l md mfa mmz msz mnow mgr mmo mre msd mbg mky mli mrf mrn mka (cpF mta 8) mwd (lbF (zrF (upd mms mmz (nI 128)) (mmz + 1) (119 - mmz)) mmz 8) mhs mke msa mkn mkb mku mhp mpa mpb mit mus mid mbe mla msi mtx mra 0 (by omega)) (cw_X8_176 F.2.2.2.2 ⟨by decide, by decide⟩)    0 rfl rfl rfl hl.1 rfl (Nat.le_of_ble_eq_true rfl) dX8_hashNow_131 ⟨Nat.zero_le _, Nat.zero_le _⟩) (fun u_1 H locs hp_3 hw => ?_)
                      replace hw : Wd g s A H locs (mX g md mfa mmz msz mnow mgr mmo mre msd mbg mky mli mrf mrn mka u_1.1 u_1.2 (lbF (zrF (upd mms mmz (nI 128)) (mmz + 1) (119 - mmz)) mmz 8) mhs mke msa mkn mkb mku mhp mpa mpb mit mus mid mbe mla msi mtx mra) := hw
                      have q1 := hp_3
                      refine lv_iinc (v := nI (0 + 64)) (lv' := [(3, .int (nI (0 + 64))), (0, .ref (md 0)), (2, .int (nI 120))]) hx hb dX8_hashNow_134 hl (k := 0) rfl (inc_n _ 64) (by decide) rfl (fun ls hl => ?_)
                      refine lv_goto (tgt := 121) hx hb dX8_hashNow_137 (by decide) ?_
                      refine lv_iload_n hx hb dX8_hashNow_121 rfl (lv_at hl 0 rfl) ?_
                      refine lv_iload_n hx hb dX8_hashNow_122 rfl (lv_at hl 2 rfl) ?_
                      refine lv_bipush (v := nI 8) hx hb dX8_hashNow_123 (by decide) ?_
                      refine n_add hx hb dX8_hashNow_125 ?_
                      refine n_ge (tgt := 140) hx hb (by omega) (by omega) dX8_hashNow_126 (by decide) (fun c_126 => ?_) (fun c_126 => ?_)
                      · exact absurd c_126 (by omega)
                      · refine lv_aload_n hx hb dX8_hashNow_129 rfl (lv_at hl 1 rfl) ?_
                        refine lv_iload_n hx hb dX8_hashNow_130 rfl (lv_at hl 0 rfl) ?_
                        refine cl_vF hw (rn_VF F hw (c_X8_block g l md mfa mmz msz mnow mgr mmo mre msd mbg mky mli mrf mrn mka u_1.1 u_1.2 (lbF (zrF (upd mms mmz (nI 128)) (mmz + 1) (119 - mmz)) mmz 8) mhs mke msa mkn mkb mku mhp mpa mpb mit mus mid mbe mla msi mtx mra (0 + 64) (by omega)) (cw_X8_176 F.2.2.2.2 ⟨by decide, by decide⟩)    0 rfl rfl rfl hl.1 rfl (Nat.le_of_ble_eq_true rfl) dX8_hashNow_131 ⟨Nat.zero_le _, Nat.zero_le _⟩) (fun u_4 H locs hp_6 hw => ?_)
                        replace hw : Wd g s A H locs (mX g md mfa mmz msz mnow mgr mmo mre msd mbg mky mli mrf mrn mka u_4.1 u_4.2 (lbF (zrF (upd mms mmz (nI 128)) (mmz + 1) (119 - mmz)) mmz 8) mhs mke msa mkn mkb mku mhp mpa mpb mit mus mid mbe mla msi mtx mra) := hw
                        have q2 := hp_6
                        refine lv_iinc (v := nI (0 + 64 + 64)) (lv' := [(3, .int (nI (0 + 64 + 64))), (0, .ref (md 0)), (2, .int (nI 120))]) hx hb dX8_hashNow_134 hl (k := 0) rfl (inc_n _ 64) (by decide) rfl (fun ls hl => ?_)
                        refine lv_goto (tgt := 121) hx hb dX8_hashNow_137 (by decide) ?_
                        refine lv_iload_n hx hb dX8_hashNow_121 rfl (lv_at hl 0 rfl) ?_
                        refine lv_iload_n hx hb dX8_hashNow_122 rfl (lv_at hl 2 rfl) ?_
                        refine lv_bipush (v := nI 8) hx hb dX8_hashNow_123 (by decide) ?_
                        refine n_add hx hb dX8_hashNow_125 ?_
                        refine n_ge (tgt := 140) hx hb (by omega) (by omega) dX8_hashNow_126 (by decide) (fun c_126 => ?_) (fun c_126 => ?_)
                        · refine lv_iconst (v := nI 0) hx hb dX8_hashNow_140 (by decide) ?_
                          refine lv_istore_n (lv' := [(3, .int (nI 0)), (0, .ref (md 0)), (2, .int (nI 120))]) hx hb dX8_hashNow_141 rfl hl (by decide) rfl (fun ls hl => ?_)
                          have L_142 : ∀ (nn k4 : Nat), k4 ≤ 32 → 32 < k4 + nn → ∀ (H : Heap) (locs : List Loc) (ls : Array Slot), Wd g s A H locs (mX g md mfa mmz msz mnow mgr mmo mre msd mbg mky mli mrf mrn mka u_4.1 u_4.2 (lbF (zrF (upd mms mmz (nI 128)) (mmz + 1) (119 - mmz)) mmz 8) (hb1 u_4.1 mhs k4) mke msa mkn mkb mku mhp mpa mpb mit mus mid mbe mla msi mtx mra) → lv_has ls 4 [(0, .ref (md 0)), (3, .int (nI k4))] → W p l e (rmm 2 53) s m args below meth c H locs 0 0 QQ (F0 m 142 ls []) := by
                            intro nn
                            induction nn with
                            | zero => intro k4 h1 h2; exact absurd h2 (by omega)
                            | succ nn ih =>
                              intro k4 hk_k4 hn_k4 H locs ls hw hl
                              refine lv_iload_n hx hb dX8_hashNow_142 rfl (lv_at hl 1 rfl) ?_
                              refine lv_bipush (v := nI 32) hx hb dX8_hashNow_143 (by decide) ?_
                              refine n_ge (tgt := 182) hx hb (by omega) (by omega) dX8_hashNow_145 (by decide) (fun c_145 => ?_) (fun c_145 => ?_)
                              · obtain rfl : k4 = 32 := by omega
                                exact rt_v F hr hlk hQ hw (u_4.1, u_4.2, (lbF (zrF (upd mms mmz (nI 128)) (mmz + 1) (119 - mmz)) mmz 8), (hb1 u_4.1 mhs 32)) (hashM (fun i hi => cpF_get mta 8 i hi) q1 q2 (pad_of h64 h104)) rfl dX8_hashNow_182
                              · refine lv_aload_n hx hb dX8_hashNow_148 rfl (lv_at hl 0 rfl) ?_
                                refine gf_X8_97 F hw 0 rfl rfl dX8_hashNow_149 ?_
                                refine lv_iload_n hx hb dX8_hashNow_152 rfl (lv_at hl 1 rfl) ?_
                                refine lv_aload_n hx hb dX8_hashNow_153 rfl (lv_at hl 0 rfl) ?_
                                refine gf_X8_88 F hw 0 rfl rfl dX8_hashNow_154 ?_
                                refine lv_iload_n hx hb dX8_hashNow_157 rfl (lv_at hl 1 rfl) ?_
                                refine lv_iconst (v := nI 4) hx hb dX8_hashNow_158 (by decide) ?_
                                refine n_div hx hb (by omega) (by omega) (by omega) dX8_hashNow_159 ?_
                                refine ia_ld F hw 3 rfl (by omega) (by omega) dX8_hashNow_160 ?_
                                refine lv_bipush (v := nI 24) hx hb dX8_hashNow_161 (by decide) ?_
                                refine lv_bipush (v := nI 8) hx hb dX8_hashNow_163 (by decide) ?_
                                refine lv_iload_n hx hb dX8_hashNow_165 rfl (lv_at hl 1 rfl) ?_
                                refine lv_iconst (v := nI 4) hx hb dX8_hashNow_166 (by decide) ?_
                                refine n_rem hx hb (by omega) (by omega) (by omega) dX8_hashNow_167 ?_
                                refine n_mul hx hb dX8_hashNow_168 ?_
                                refine n_sub hx hb (by omega) dX8_hashNow_169 ?_
                                refine lv_ishr hx hb dX8_hashNow_170 ?_
                                refine lv_sipush (v := nI 255) hx hb dX8_hashNow_171 (by decide) ?_
                                refine lv_iand hx hb dX8_hashNow_174 ?_
                                refine tp_i (y := byO (u_4.1 (k4 / 4)) (k4 % 4)) (sar_byO _ (by omega)) ?_
                                refine ia_st F hw 6 rfl (by omega) (by omega) dX8_hashNow_175 (fun H locs hw => ?_)
                                replace hw : Wd g s A H locs (mX g md mfa mmz msz mnow mgr mmo mre msd mbg mky mli mrf mrn mka u_4.1 u_4.2 (lbF (zrF (upd mms mmz (nI 128)) (mmz + 1) (119 - mmz)) mmz 8) (upd (hb1 u_4.1 mhs k4) k4 (byO (u_4.1 (k4 / 4)) (k4 % 4))) mke msa mkn mkb mku mhp mpa mpb mit mus mid mbe mla msi mtx mra) := hw
                                refine lv_iinc (v := nI (k4 + 1)) (lv' := [(3, .int (nI (k4 + 1))), (0, .ref (md 0))]) hx hb dX8_hashNow_176 hl (k := 1) rfl (inc_n _ 1) (by decide) rfl (fun ls hl => ?_)
                                refine lv_goto (tgt := 142) hx hb dX8_hashNow_179 (by decide) ?_
                                exact ih (k4 + 1) (by omega) (by omega) _ _ _ hw (lv_sub hl [1, 0] rfl)
                          exact L_142 (32 + 1) 0 (by omega) (by omega) _ _ _ hw (lv_sub hl [1, 0] rfl)
                        · exact absurd c_126 (by omega)
                  · refine lv_aload_n hx hb dX8_hashNow_101 rfl (lv_at hl 0 rfl) ?_
                    refine gf_X8_88 F hw 0 rfl rfl dX8_hashNow_102 ?_
                    refine lv_iload_n hx hb dX8_hashNow_105 rfl (lv_at hl 2 rfl) ?_
                    refine lv_aload_n hx hb dX8_hashNow_106 rfl (lv_at hl 0 rfl) ?_
                    refine gf_X8_85 F hw 0 rfl rfl dX8_hashNow_107 ?_
                    refine lv_iload_n hx hb dX8_hashNow_110 rfl (lv_at hl 2 rfl) ?_
                    refine ia_ld F hw 2 rfl (by omega) (by omega) dX8_hashNow_111 ?_
                    refine ia_st F hw 3 rfl (by omega) (by omega) dX8_hashNow_112 (fun H locs hw => ?_)
                    replace hw : Wd g s A H locs (mX g md mfa mmz msz mnow mgr mmo mre msd mbg mky mli mrf mrn mka (upd (cpF mta k2) k2 (kS k2)) mwd (lbF (zrF (upd mms mmz (nI 128)) (mmz + 1) (119 - mmz)) mmz 8) mhs mke msa mkn mkb mku mhp mpa mpb mit mus mid mbe mla msi mtx mra) := hw
                    refine lv_iinc (v := nI (k2 + 1)) (lv' := [(3, .int (nI (k2 + 1))), (0, .ref (md 0)), (2, .int (nI 120))]) hx hb dX8_hashNow_113 hl (k := 2) rfl (inc_n _ 1) (by decide) rfl (fun ls hl => ?_)
                    refine lv_goto (tgt := 95) hx hb dX8_hashNow_116 (by decide) ?_
                    exact ih (k2 + 1) (by omega) (by omega) _ _ _ hw (lv_sub hl [1, 2, 0] rfl)
              exact L_95 (8 + 1) 0 (by omega) (by omega) _ _ _ hw (lv_sub hl [1, 3, 0] rfl)
            · refine lv_aload_n hx hb dX8_hashNow_57 rfl (lv_at hl 0 rfl) ?_
              refine gf_X8_94 F hw 0 rfl rfl dX8_hashNow_58 ?_
              refine lv_iload_n hx hb dX8_hashNow_61 rfl (lv_at hl 2 rfl) ?_
              refine lv_iload_n hx hb dX8_hashNow_62 rfl (lv_at hl 3 rfl) ?_
              refine n_add hx hb dX8_hashNow_63 ?_
              refine lv_iload_n hx hb dX8_hashNow_64 rfl (lv_at hl 3 rfl) ?_
              refine lv_iconst (v := nI 4) hx hb dX8_hashNow_65 (by decide) ?_
              refine n_ge (tgt := 73) hx hb (by omega) (by omega) dX8_hashNow_66 (by decide) (fun c_66 => ?_) (fun c_66 => ?_)
              · refine lv_iload_n hx hb dX8_hashNow_73 rfl (lv_at hl 1 rfl) ?_
                refine lv_bipush (v := nI 56) hx hb dX8_hashNow_74 (by decide) ?_
                refine lv_bipush (v := nI 8) hx hb dX8_hashNow_76 (by decide) ?_
                refine lv_iload_n hx hb dX8_hashNow_78 rfl (lv_at hl 3 rfl) ?_
                refine n_mul hx hb dX8_hashNow_79 ?_
                refine n_sub hx hb (by omega) dX8_hashNow_80 ?_
                refine lv_ishr hx hb dX8_hashNow_81 ?_
                refine lv_sipush (v := nI 255) hx hb dX8_hashNow_82 (by decide) ?_
                refine lv_iand hx hb dX8_hashNow_85 ?_
                refine ia_st F hw 5 rfl (by omega) (by omega) dX8_hashNow_86 (fun H locs hw => ?_)
                replace hw : Wd g s A H locs (mX g md mfa mmz msz mnow mgr mmo mre msd mbg mky mli mrf mrn mka mta mwd (upd (lbF (zrF (upd mms mmz (nI 128)) (mmz + 1) (119 - mmz)) mmz k) (120 + k) (((nI (8 * mmz)) >>> ((nI (56 - (8 * k))) &&& 31)) &&& (nI 255))) mhs mke msa mkn mkb mku mhp mpa mpb mit mus mid mbe mla msi mtx mra) := hw
                refine lv_iinc (v := nI (k + 1)) (lv' := [(3, .int (nI (k + 1))), (0, .ref (md 0)), (1, .int (nI (8 * mmz))), (2, .int (nI 120))]) hx hb dX8_hashNow_87 hl (k := 3) rfl (inc_n _ 1) (by decide) rfl (fun ls hl => ?_)
                refine lv_goto (tgt := 51) hx hb dX8_hashNow_90 (by decide) ?_
                exact ih (k + 1) (by omega) (by omega) _ _ _ (by first | (rw [lb_t c_66]; exact hw) | (rw [lb_f c_66]; exact hw)) (lv_sub hl [1, 2, 3, 0] rfl)
              · refine lv_iconst (v := nI 0) hx hb dX8_hashNow_69 (by decide) ?_
                refine lv_goto (tgt := 86) hx hb dX8_hashNow_70 (by decide) ?_
                refine ia_st F hw 5 rfl (by omega) (by omega) dX8_hashNow_86 (fun H locs hw => ?_)
                replace hw : Wd g s A H locs (mX g md mfa mmz msz mnow mgr mmo mre msd mbg mky mli mrf mrn mka mta mwd (upd (lbF (zrF (upd mms mmz (nI 128)) (mmz + 1) (119 - mmz)) mmz k) (120 + k) (nI 0)) mhs mke msa mkn mkb mku mhp mpa mpb mit mus mid mbe mla msi mtx mra) := hw
                refine lv_iinc (v := nI (k + 1)) (lv' := [(3, .int (nI (k + 1))), (0, .ref (md 0)), (1, .int (nI (8 * mmz))), (2, .int (nI 120))]) hx hb dX8_hashNow_87 hl (k := 3) rfl (inc_n _ 1) (by decide) rfl (fun ls hl => ?_)
                refine lv_goto (tgt := 51) hx hb dX8_hashNow_90 (by decide) ?_
                exact ih (k + 1) (by omega) (by omega) _ _ _ (by first | (rw [lb_t c_66]; exact hw) | (rw [lb_f c_66]; exact hw)) (lv_sub hl [1, 2, 3, 0] rfl)
        exact L_51 (8 + 1) 0 (by omega) (by omega) _ _ _ hw (lv_sub hl [1, 2, 3, 0] rfl)
      · refine lv_aload_n hx hb dX8_hashNow_36 rfl (lv_at hl 0 rfl) ?_
        refine gf_X8_94 F hw 0 rfl rfl dX8_hashNow_37 ?_
        refine lv_iload_n hx hb dX8_hashNow_40 rfl (lv_at hl 2 rfl) ?_
        refine lv_iconst (v := nI 0) hx hb dX8_hashNow_41 (by decide) ?_
        refine ia_st F hw 5 rfl (by omega) (by omega) dX8_hashNow_42 (fun H locs hw => ?_)
        replace hw : Wd g s A H locs (mX g md mfa mmz msz mnow mgr mmo mre msd mbg mky mli mrf mrn mka mta mwd (upd (zrF (upd mms mmz (nI 128)) (mmz + 1) j) (mmz + 1 + j) (nI 0)) mhs mke msa mkn mkb mku mhp mpa mpb mit mus mid mbe mla msi mtx mra) := hw
        refine lv_iinc (v := nI (mmz + 1 + j + 1)) (lv' := [(2, .int (nI (mmz + 1 + j + 1))), (0, .ref (md 0)), (1, .int (nI (8 * mmz)))]) hx hb dX8_hashNow_43 hl (k := 2) rfl (inc_n _ 1) (by decide) rfl (fun ls hl => ?_)
        refine lv_goto (tgt := 27) hx hb dX8_hashNow_46 (by decide) ?_
        exact ih (j + 1) (by omega) (by omega) _ _ _ hw (lv_sub hl [1, 2, 0] rfl)
  exact L_27 ((119 - mmz) + 1) 0 (by omega) (by omega) _ _ _ hw (lv_sub hl [2, 1, 0] rfl)
