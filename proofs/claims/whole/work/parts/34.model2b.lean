def sbF (ra : Nat → Int32) (off : Nat) (f0 : Nat → Int32) : Nat → Nat → Int32
  | 0 => f0
  | i + 1 => upd (sbF ra off f0 i) (off + i) (ra i &&& nI 255)
theorem sbF_get (ra : Nat → Int32) (off : Nat) (f0 : Nat → Int32) : ∀ i t, sbF ra off f0 i t = if off ≤ t ∧ t < off + i then ra (t - off) &&& nI 255 else f0 t := by
  intro i
  induction i with
  | zero => intro t; rw [if_neg (by omega)]; rfl
  | succ i ih =>
    intro t
    show upd (sbF ra off f0 i) (off + i) (ra i &&& nI 255) t = _
    by_cases e : t = off + i
    · subst e; rw [upd_s, if_pos (show off ≤ off + i ∧ off + i < off + (i + 1) by omega), show off + i - off = i by omega]
    · rw [upd_n _ _ e, ih t]
      by_cases h : off ≤ t ∧ t < off + i
      · rw [if_pos h, if_pos (show off ≤ t ∧ t < off + (i + 1) by omega)]
      · rw [if_neg h, if_neg (show ¬ (off ≤ t ∧ t < off + (i + 1)) by omega)]
/-- the sixteen bytes of key k -/
def k16 (kb : Nat → Int32) (k j : Nat) : Int32 := kb (16 * k + j)
/-- what is said of raw: its bytes -/
def rw8 (ra : Nat → Int32) (j : Nat) : Int32 := ra j &&& nI 255
theorem sb_n {kb ra ke sa u : Nat → Int32} {k : Nat} (q : ∀ j, j < 32 → u j = hmac (tkF kb k ke 64) 64 (sbF ra 0 sa 10) 10 j) : ∀ j, j < 32 → u j = hmac (k16 kb k) 16 (rw8 ra) 10 j := by
  intro j hj
  rw [q j hj, hmac_pad (fk := k16 kb k) (n := 16) (by omega) (fun j hj => tkF_get kb k ke 64 j hj)]
  exact hmac_congr (fun i hi => by rw [sbF_get, if_pos (by omega)]; rfl) j hj
theorem sb_t {kb ra ke sa u : Nat → Int32} {k : Nat} (q : ∀ j, j < 32 → u j = hmac (tkF kb k ke 64) 64 (sbF ra 1 (upd sa 0 (nI 84 &&& nI 255)) 10) 11 j) : ∀ j, j < 32 → u j = hmac (k16 kb k) 16 (tkm (rw8 ra)) 11 j := by
  intro j hj
  rw [q j hj, hmac_pad (fk := k16 kb k) (n := 16) (by omega) (fun j hj => tkF_get kb k ke 64 j hj)]
  refine hmac_congr (fun i hi => ?_) j hj
  rw [sbF_get]
  unfold tkm
  by_cases e : i = 0
  · subst e; rw [if_neg (by omega), if_pos rfl, upd_s]; decide
  · rw [if_neg e, if_pos (by omega)]; rfl
set_option maxHeartbeats 4000000 in
set_option maxRecDepth 100000 in
theorem c_X8_sealBody_n (g : GG) (l : Launch) (md : Nat → Nat) (mfa : Int32) (mmz : Nat) (msz : Nat) (mnow : Int64) (mgr : Int64) (mmo : Int64) (mre : Int64) (msd : Int64) (mbg : Int64) (mky : Nat) (mli : Int32) (mrf : Int32) (mrn : Int32) (mka : Int32) (mta : Nat → Int32) (mwd : Nat → Int32) (mms : Nat → Int32) (mhs : Nat → Int32) (mke : Nat → Int32) (msa : Nat → Int32) (mkn : Nat → Int32) (mkb : Nat → Int32) (mku : Nat → Int64) (mhp : Nat → Int32) (mpa : Nat → Int32) (mpb : Nat → Int32) (mit : Nat → Int32) (mus : Nat → Int32) (mid : Nat → Int64) (mbe : Nat → Int64) (mla : Nat → Int64) (msi : Nat → Int32) (mtx : Nat → Int32) (mra : Nat → Int32) (k : Nat) (hk : k < 5) : Ct g l yX8_sealBody cX8_sealBody 4 none 4 97 [.ref (md 0), .int (nI k), .int (-1)] (mX g md mfa mmz msz mnow mgr mmo mre msd mbg mky mli mrf mrn mka mta mwd mms mhs mke msa mkn mkb mku mhp mpa mpb mit mus mid mbe mla msi mtx mra) (Rv g (fun (u : (Nat → Int32) × (Nat → Int32) × (Nat → Int32) × (Nat → Int32) × (Nat → Int32) × (Nat → Int32)) => ∀ j, j < 32 → u.2.2.2.1 j = hmac (k16 mkb k) 16 (rw8 mra) 10 j) (fun (u : (Nat → Int32) × (Nat → Int32) × (Nat → Int32) × (Nat → Int32) × (Nat → Int32) × (Nat → Int32)) => (mX g md mfa 96 10 mnow mgr mmo mre msd mbg mky mli mrf mrn mka u.1 u.2.1 u.2.2.1 u.2.2.2.1 u.2.2.2.2.1 u.2.2.2.2.2 mkn mkb mku mhp mpa mpb mit mus mid mbe mla msi mtx mra))) := by
  refine mkC (by decide) (Nat.le_of_ble_eq_true rfl) ?_
  intro p e s m args below meth c A ls QQ F hr hlk hnm hQ hw hl
  have hx := F.1
  have hb := F.2.1
  replace hl : lv_has ls 4 [(0, .ref (md 0)), (1, .int (nI k)), (2, .int (-1))] := hl
  refine lv_aload_n hx hb dX8_sealBody_0 rfl (lv_at hl 0 rfl) ?_
  refine lv_iload_n hx hb dX8_sealBody_1 rfl (lv_at hl 1 rfl) ?_
  refine cl_vF hw (rn_VF F hw (c_X8_takeKey g l md mfa mmz msz mnow mgr mmo mre msd mbg mky mli mrf mrn mka mta mwd mms mhs mke msa mkn mkb mku mhp mpa mpb mit mus mid mbe mla msi mtx mra k (by omega)) (cw_X8_204 F.2.2.2.2 ⟨by decide, by decide⟩)    0 rfl rfl rfl hl.1 rfl (Nat.le_of_ble_eq_true rfl) dX8_sealBody_2 ⟨Nat.zero_le _, Nat.zero_le _⟩) (fun u_1 H locs hp_3 hw => ?_)
  replace hw : Wd g s A H locs (mX g md mfa mmz msz mnow mgr mmo mre msd mbg mky mli mrf mrn mka mta mwd mms mhs (tkF mkb k mke 64) msa mkn mkb mku mhp mpa mpb mit mus mid mbe mla msi mtx mra) := hw
  refine lv_aload_n hx hb dX8_sealBody_5 rfl (lv_at hl 0 rfl) ?_
  refine lv_iconst (v := nI 0) hx hb dX8_sealBody_6 (by decide) ?_
  refine pf_X8_180 F hw 0 rfl (Nat.le_of_ble_eq_true rfl) rfl rfl dX8_sealBody_7 (fun H locs hw => ?_)
  replace hw : Wd g s A H locs (mX g md mfa mmz 0 mnow mgr mmo mre msd mbg mky mli mrf mrn mka mta mwd mms mhs (tkF mkb k mke 64) msa mkn mkb mku mhp mpa mpb mit mus mid mbe mla msi mtx mra) := hw
  refine lv_iload_n hx hb dX8_sealBody_10 rfl (lv_at hl 2 rfl) ?_
  refine lv_if_lt (tgt := 19) hx hb dX8_sealBody_11 (by decide) (fun c_11 => ?_) (fun c_11 => ?_)
  · refine lv_iconst (v := nI 0) hx hb dX8_sealBody_19 (by decide) ?_
    refine lv_istore_n (lv' := [(3, .int (nI 0)), (0, .ref (md 0)), (1, .int (nI k)), (2, .int (-1))]) hx hb dX8_sealBody_20 rfl hl (by decide) rfl (fun ls hl => ?_)
    have L_21 : ∀ (nn i : Nat), i ≤ 10 → 10 < i + nn → ∀ (H : Heap) (locs : List Loc) (ls : Array Slot), Wd g s A H locs (mX g md mfa mmz (0 + i) mnow mgr mmo mre msd mbg mky mli mrf mrn mka mta mwd mms mhs (tkF mkb k mke 64) (sbF mra 0 msa i) mkn mkb mku mhp mpa mpb mit mus mid mbe mla msi mtx mra) → lv_has ls 4 [(0, .ref (md 0)), (3, .int (nI i))] → W p l e (rmm 4 97) s m args below meth c H locs 0 0 QQ (F0 m 21 ls []) := by
      intro nn
      induction nn with
      | zero => intro i h1 h2; exact absurd h2 (by omega)
      | succ nn ih =>
        intro i hk_i hn_i H locs ls hw hl
        refine lv_iload_n hx hb dX8_sealBody_21 rfl (lv_at hl 1 rfl) ?_
        refine lv_bipush (v := nI 10) hx hb dX8_sealBody_22 (by decide) ?_
        refine n_ge (tgt := 43) hx hb (by omega) (by omega) dX8_sealBody_24 (by decide) (fun c_24 => ?_) (fun c_24 => ?_)
        · obtain rfl : i = 10 := by omega
          refine lv_aload_n hx hb dX8_sealBody_43 rfl (lv_at hl 0 rfl) ?_
          refine cl_vF hw (rn_VF F hw (c_X8_seal g l md mfa mmz (0 + 10) mnow mgr mmo mre msd mbg mky mli mrf mrn mka mta mwd mms mhs (tkF mkb k mke 64) (sbF mra 0 msa 10) mkn mkb mku mhp mpa mpb mit mus mid mbe mla msi mtx mra (by omega)) (cw_X8_197 F.2.2.2.2 ⟨by decide, by decide⟩)    0 rfl rfl rfl hl.1 rfl (Nat.le_of_ble_eq_true rfl) dX8_sealBody_44 ⟨Nat.zero_le _, Nat.zero_le _⟩) (fun u_4 H locs hp_6 hw => ?_)
          replace hw : Wd g s A H locs (mX g md mfa 96 (0 + 10) mnow mgr mmo mre msd mbg mky mli mrf mrn mka u_4.1 u_4.2.1 u_4.2.2.1 u_4.2.2.2 (tkF mkb k mke 64) (sbF mra 0 msa 10) mkn mkb mku mhp mpa mpb mit mus mid mbe mla msi mtx mra) := hw
          have q1 := hp_6
          exact rt_v F hr hlk hQ hw (u_4.1, u_4.2.1, u_4.2.2.1, u_4.2.2.2, (tkF mkb k mke 64), (sbF mra 0 msa 10)) (sb_n q1) rfl dX8_sealBody_47
        · refine lv_aload_n hx hb dX8_sealBody_27 rfl (lv_at hl 0 rfl) ?_
          refine lv_aload_n hx hb dX8_sealBody_28 rfl (lv_at hl 0 rfl) ?_
          refine gf_X8_163 F hw 0 rfl rfl dX8_sealBody_29 ?_
          refine lv_iload_n hx hb dX8_sealBody_32 rfl (lv_at hl 1 rfl) ?_
          refine ia_ld F hw 22 rfl (by omega) (by omega) dX8_sealBody_33 ?_
          refine cl_vF hw (rn_VF F hw (c_X8_say g l md mfa mmz (0 + i) mnow mgr mmo mre msd mbg mky mli mrf mrn mka mta mwd mms mhs (tkF mkb k mke 64) (sbF mra 0 msa i) mkn mkb mku mhp mpa mpb mit mus mid mbe mla msi mtx mra (mra i) (by omega)) (cw_X8_194 F.2.2.2.2 ⟨by decide, by decide⟩)    0 rfl rfl rfl hl.1 rfl (Nat.le_of_ble_eq_true rfl) dX8_sealBody_34 ⟨Nat.zero_le _, Nat.zero_le _⟩) (fun u_7 H locs hp_9 hw => ?_)
          replace hw : Wd g s A H locs (mX g md mfa mmz ((0 + i) + 1) mnow mgr mmo mre msd mbg mky mli mrf mrn mka mta mwd mms mhs (tkF mkb k mke 64) (upd (sbF mra 0 msa i) (0 + i) ((mra i) &&& nI 255)) mkn mkb mku mhp mpa mpb mit mus mid mbe mla msi mtx mra) := hw
          refine lv_iinc (v := nI (i + 1)) (lv' := [(3, .int (nI (i + 1))), (0, .ref (md 0))]) hx hb dX8_sealBody_37 hl (k := 1) rfl (inc_n _ 1) (by decide) rfl (fun ls hl => ?_)
          refine lv_goto (tgt := 21) hx hb dX8_sealBody_40 (by decide) ?_
          exact ih (i + 1) (by omega) (by omega) _ _ _ hw (lv_sub hl [1, 0] rfl)
    exact L_21 (10 + 1) 0 (by omega) (by omega) _ _ _ hw (lv_sub hl [1, 0] rfl)
  · exact absurd (by decide) c_11
set_option maxHeartbeats 4000000 in
set_option maxRecDepth 100000 in
theorem c_X8_sealBody_t (g : GG) (l : Launch) (md : Nat → Nat) (mfa : Int32) (mmz : Nat) (msz : Nat) (mnow : Int64) (mgr : Int64) (mmo : Int64) (mre : Int64) (msd : Int64) (mbg : Int64) (mky : Nat) (mli : Int32) (mrf : Int32) (mrn : Int32) (mka : Int32) (mta : Nat → Int32) (mwd : Nat → Int32) (mms : Nat → Int32) (mhs : Nat → Int32) (mke : Nat → Int32) (msa : Nat → Int32) (mkn : Nat → Int32) (mkb : Nat → Int32) (mku : Nat → Int64) (mhp : Nat → Int32) (mpa : Nat → Int32) (mpb : Nat → Int32) (mit : Nat → Int32) (mus : Nat → Int32) (mid : Nat → Int64) (mbe : Nat → Int64) (mla : Nat → Int64) (msi : Nat → Int32) (mtx : Nat → Int32) (mra : Nat → Int32) (k : Nat) (hk : k < 5) : Ct g l yX8_sealBody cX8_sealBody 4 none 4 97 [.ref (md 0), .int (nI k), .int (nI 84)] (mX g md mfa mmz msz mnow mgr mmo mre msd mbg mky mli mrf mrn mka mta mwd mms mhs mke msa mkn mkb mku mhp mpa mpb mit mus mid mbe mla msi mtx mra) (Rv g (fun (u : (Nat → Int32) × (Nat → Int32) × (Nat → Int32) × (Nat → Int32) × (Nat → Int32) × (Nat → Int32)) => ∀ j, j < 32 → u.2.2.2.1 j = hmac (k16 mkb k) 16 (tkm (rw8 mra)) 11 j) (fun (u : (Nat → Int32) × (Nat → Int32) × (Nat → Int32) × (Nat → Int32) × (Nat → Int32) × (Nat → Int32)) => (mX g md mfa 96 11 mnow mgr mmo mre msd mbg mky mli mrf mrn mka u.1 u.2.1 u.2.2.1 u.2.2.2.1 u.2.2.2.2.1 u.2.2.2.2.2 mkn mkb mku mhp mpa mpb mit mus mid mbe mla msi mtx mra))) := by
  refine mkC (by decide) (Nat.le_of_ble_eq_true rfl) ?_
  intro p e s m args below meth c A ls QQ F hr hlk hnm hQ hw hl
  have hx := F.1
  have hb := F.2.1
  replace hl : lv_has ls 4 [(0, .ref (md 0)), (1, .int (nI k)), (2, .int (nI 84))] := hl
  refine lv_aload_n hx hb dX8_sealBody_0 rfl (lv_at hl 0 rfl) ?_
  refine lv_iload_n hx hb dX8_sealBody_1 rfl (lv_at hl 1 rfl) ?_
  refine cl_vF hw (rn_VF F hw (c_X8_takeKey g l md mfa mmz msz mnow mgr mmo mre msd mbg mky mli mrf mrn mka mta mwd mms mhs mke msa mkn mkb mku mhp mpa mpb mit mus mid mbe mla msi mtx mra k (by omega)) (cw_X8_204 F.2.2.2.2 ⟨by decide, by decide⟩)    0 rfl rfl rfl hl.1 rfl (Nat.le_of_ble_eq_true rfl) dX8_sealBody_2 ⟨Nat.zero_le _, Nat.zero_le _⟩) (fun u_1 H locs hp_3 hw => ?_)
  replace hw : Wd g s A H locs (mX g md mfa mmz msz mnow mgr mmo mre msd mbg mky mli mrf mrn mka mta mwd mms mhs (tkF mkb k mke 64) msa mkn mkb mku mhp mpa mpb mit mus mid mbe mla msi mtx mra) := hw
  refine lv_aload_n hx hb dX8_sealBody_5 rfl (lv_at hl 0 rfl) ?_
  refine lv_iconst (v := nI 0) hx hb dX8_sealBody_6 (by decide) ?_
  refine pf_X8_180 F hw 0 rfl (Nat.le_of_ble_eq_true rfl) rfl rfl dX8_sealBody_7 (fun H locs hw => ?_)
  replace hw : Wd g s A H locs (mX g md mfa mmz 0 mnow mgr mmo mre msd mbg mky mli mrf mrn mka mta mwd mms mhs (tkF mkb k mke 64) msa mkn mkb mku mhp mpa mpb mit mus mid mbe mla msi mtx mra) := hw
  refine lv_iload_n hx hb dX8_sealBody_10 rfl (lv_at hl 2 rfl) ?_
  refine lv_if_lt (tgt := 19) hx hb dX8_sealBody_11 (by decide) (fun c_11 => ?_) (fun c_11 => ?_)
  · exact absurd c_11 (by decide)
  · refine lv_aload_n hx hb dX8_sealBody_14 rfl (lv_at hl 0 rfl) ?_
    refine lv_iload_n hx hb dX8_sealBody_15 rfl (lv_at hl 2 rfl) ?_
    refine cl_vF hw (rn_VF F hw (c_X8_say g l md mfa mmz 0 mnow mgr mmo mre msd mbg mky mli mrf mrn mka mta mwd mms mhs (tkF mkb k mke 64) msa mkn mkb mku mhp mpa mpb mit mus mid mbe mla msi mtx mra (nI 84) (by omega)) (cw_X8_194 F.2.2.2.2 ⟨by decide, by decide⟩)    0 rfl rfl rfl hl.1 rfl (Nat.le_of_ble_eq_true rfl) dX8_sealBody_16 ⟨Nat.zero_le _, Nat.zero_le _⟩) (fun u_4 H locs hp_6 hw => ?_)
    replace hw : Wd g s A H locs (mX g md mfa mmz (0 + 1) mnow mgr mmo mre msd mbg mky mli mrf mrn mka mta mwd mms mhs (tkF mkb k mke 64) (upd msa 0 ((nI 84) &&& nI 255)) mkn mkb mku mhp mpa mpb mit mus mid mbe mla msi mtx mra) := hw
    refine lv_iconst (v := nI 0) hx hb dX8_sealBody_19 (by decide) ?_
    refine lv_istore_n (lv' := [(3, .int (nI 0)), (0, .ref (md 0)), (1, .int (nI k)), (2, .int (nI 84))]) hx hb dX8_sealBody_20 rfl hl (by decide) rfl (fun ls hl => ?_)
    have L_21 : ∀ (nn i : Nat), i ≤ 10 → 10 < i + nn → ∀ (H : Heap) (locs : List Loc) (ls : Array Slot), Wd g s A H locs (mX g md mfa mmz (1 + i) mnow mgr mmo mre msd mbg mky mli mrf mrn mka mta mwd mms mhs (tkF mkb k mke 64) (sbF mra 1 (upd msa 0 (nI 84 &&& nI 255)) i) mkn mkb mku mhp mpa mpb mit mus mid mbe mla msi mtx mra) → lv_has ls 4 [(0, .ref (md 0)), (3, .int (nI i))] → W p l e (rmm 4 97) s m args below meth c H locs 0 0 QQ (F0 m 21 ls []) := by
      intro nn
      induction nn with
      | zero => intro i h1 h2; exact absurd h2 (by omega)
      | succ nn ih =>
        intro i hk_i hn_i H locs ls hw hl
        refine lv_iload_n hx hb dX8_sealBody_21 rfl (lv_at hl 1 rfl) ?_
        refine lv_bipush (v := nI 10) hx hb dX8_sealBody_22 (by decide) ?_
        refine n_ge (tgt := 43) hx hb (by omega) (by omega) dX8_sealBody_24 (by decide) (fun c_24 => ?_) (fun c_24 => ?_)
        · obtain rfl : i = 10 := by omega
          refine lv_aload_n hx hb dX8_sealBody_43 rfl (lv_at hl 0 rfl) ?_
          refine cl_vF hw (rn_VF F hw (c_X8_seal g l md mfa mmz (1 + 10) mnow mgr mmo mre msd mbg mky mli mrf mrn mka mta mwd mms mhs (tkF mkb k mke 64) (sbF mra 1 (upd msa 0 (nI 84 &&& nI 255)) 10) mkn mkb mku mhp mpa mpb mit mus mid mbe mla msi mtx mra (by omega)) (cw_X8_197 F.2.2.2.2 ⟨by decide, by decide⟩)    0 rfl rfl rfl hl.1 rfl (Nat.le_of_ble_eq_true rfl) dX8_sealBody_44 ⟨Nat.zero_le _, Nat.zero_le _⟩) (fun u_7 H locs hp_9 hw => ?_)
          replace hw : Wd g s A H locs (mX g md mfa 96 (1 + 10) mnow mgr mmo mre msd mbg mky mli mrf mrn mka u_7.1 u_7.2.1 u_7.2.2.1 u_7.2.2.2 (tkF mkb k mke 64) (sbF mra 1 (upd msa 0 (nI 84 &&& nI 255)) 10) mkn mkb mku mhp mpa mpb mit mus mid mbe mla msi mtx mra) := hw
          have q1 := hp_9
          exact rt_v F hr hlk hQ hw (u_7.1, u_7.2.1, u_7.2.2.1, u_7.2.2.2, (tkF mkb k mke 64), (sbF mra 1 (upd msa 0 (nI 84 &&& nI 255)) 10)) (sb_t q1) rfl dX8_sealBody_47
        · refine lv_aload_n hx hb dX8_sealBody_27 rfl (lv_at hl 0 rfl) ?_
          refine lv_aload_n hx hb dX8_sealBody_28 rfl (lv_at hl 0 rfl) ?_
          refine gf_X8_163 F hw 0 rfl rfl dX8_sealBody_29 ?_
          refine lv_iload_n hx hb dX8_sealBody_32 rfl (lv_at hl 1 rfl) ?_
          refine ia_ld F hw 22 rfl (by omega) (by omega) dX8_sealBody_33 ?_
          refine cl_vF hw (rn_VF F hw (c_X8_say g l md mfa mmz (1 + i) mnow mgr mmo mre msd mbg mky mli mrf mrn mka mta mwd mms mhs (tkF mkb k mke 64) (sbF mra 1 (upd msa 0 (nI 84 &&& nI 255)) i) mkn mkb mku mhp mpa mpb mit mus mid mbe mla msi mtx mra (mra i) (by omega)) (cw_X8_194 F.2.2.2.2 ⟨by decide, by decide⟩)    0 rfl rfl rfl hl.1 rfl (Nat.le_of_ble_eq_true rfl) dX8_sealBody_34 ⟨Nat.zero_le _, Nat.zero_le _⟩) (fun u_10 H locs hp_12 hw => ?_)
          replace hw : Wd g s A H locs (mX g md mfa mmz ((1 + i) + 1) mnow mgr mmo mre msd mbg mky mli mrf mrn mka mta mwd mms mhs (tkF mkb k mke 64) (upd (sbF mra 1 (upd msa 0 (nI 84 &&& nI 255)) i) (1 + i) ((mra i) &&& nI 255)) mkn mkb mku mhp mpa mpb mit mus mid mbe mla msi mtx mra) := hw
          refine lv_iinc (v := nI (i + 1)) (lv' := [(3, .int (nI (i + 1))), (0, .ref (md 0))]) hx hb dX8_sealBody_37 hl (k := 1) rfl (inc_n _ 1) (by decide) rfl (fun ls hl => ?_)
          refine lv_goto (tgt := 21) hx hb dX8_sealBody_40 (by decide) ?_
          exact ih (i + 1) (by omega) (by omega) _ _ _ hw (lv_sub hl [1, 0] rfl)
    exact L_21 (10 + 1) 0 (by omega) (by omega) _ _ _ hw (lv_sub hl [1, 0] rfl)
def trF (h : Nat → Int32) (f0 : Nat → Int32) : Nat → Nat → Int32
  | 0 => f0
  | i + 1 => upd (trF h f0 i) i (h i)
theorem trF_get (h f0 : Nat → Int32) : ∀ i t, t < i → trF h f0 i t = h t := by
  intro i
  induction i with
  | zero => intro t h; omega
  | succ i ih =>
    intro t h2
    show upd (trF h f0 i) i _ t = _
    by_cases e : t = i
    · subst e; rw [upd_s]
    · rw [upd_n _ _ e]; exact ih t (by omega)
set_option maxHeartbeats 4000000 in
set_option maxRecDepth 100000 in
theorem c_X8_token (g : GG) (l : Launch) (md : Nat → Nat) (mfa : Int32) (mmz : Nat) (msz : Nat) (mnow : Int64) (mgr : Int64) (mmo : Int64) (mre : Int64) (msd : Int64) (mbg : Int64) (mky : Nat) (mli : Int32) (mrf : Int32) (mrn : Int32) (mka : Int32) (mta : Nat → Int32) (mwd : Nat → Int32) (mms : Nat → Int32) (mhs : Nat → Int32) (mke : Nat → Int32) (msa : Nat → Int32) (mkn : Nat → Int32) (mkb : Nat → Int32) (mku : Nat → Int64) (mhp : Nat → Int32) (mpa : Nat → Int32) (mpb : Nat → Int32) (mit : Nat → Int32) (mus : Nat → Int32) (mid : Nat → Int64) (mbe : Nat → Int64) (mla : Nat → Int64) (msi : Nat → Int32) (mtx : Nat → Int32) (mra : Nat → Int32) (k : Nat) (hk : k < 5) : Ct g l yX8_token cX8_token 3 none 5 120 [.ref (md 0), .int (nI k)] (mX g md mfa mmz msz mnow mgr mmo mre msd mbg mky mli mrf mrn mka mta mwd mms mhs mke msa mkn mkb mku mhp mpa mpb mit mus mid mbe mla msi mtx mra) (Rv g (fun (u : (Nat → Int32) × (Nat → Int32) × (Nat → Int32) × (Nat → Int32) × (Nat → Int32) × (Nat → Int32) × (Nat → Int32)) => ∀ j, j < 9 → u.2.2.2.2.2.2 j = hmac (k16 mkb k) 16 (tkm (rw8 mra)) 11 j) (fun (u : (Nat → Int32) × (Nat → Int32) × (Nat → Int32) × (Nat → Int32) × (Nat → Int32) × (Nat → Int32) × (Nat → Int32)) => (mX g md mfa 96 11 mnow mgr mmo mre msd mbg mky mli mrf mrn mka u.1 u.2.1 u.2.2.1 u.2.2.2.1 u.2.2.2.2.1 u.2.2.2.2.2.1 mkn mkb mku mhp mpa mpb mit mus mid mbe mla msi mtx u.2.2.2.2.2.2))) := by
  refine mkC (by decide) (Nat.le_of_ble_eq_true rfl) ?_
  intro p e s m args below meth c A ls QQ F hr hlk hnm hQ hw hl
  have hx := F.1
  have hb := F.2.1
  replace hl : lv_has ls 3 [(0, .ref (md 0)), (1, .int (nI k))] := hl
  refine lv_aload_n hx hb dX8_token_0 rfl (lv_at hl 0 rfl) ?_
  refine lv_iload_n hx hb dX8_token_1 rfl (lv_at hl 1 rfl) ?_
  refine lv_bipush (v := nI 84) hx hb dX8_token_2 (by decide) ?_
  refine cl_vF hw (rn_VF F hw (c_X8_sealBody_t g l md mfa mmz msz mnow mgr mmo mre msd mbg mky mli mrf mrn mka mta mwd mms mhs mke msa mkn mkb mku mhp mpa mpb mit mus mid mbe mla msi mtx mra k (by omega)) (cw_X8_207 F.2.2.2.2 ⟨by decide, by decide⟩)    0 rfl rfl rfl hl.1 rfl (Nat.le_of_ble_eq_true rfl) dX8_token_4 ⟨Nat.zero_le _, Nat.zero_le _⟩) (fun u_1 H locs hp_3 hw => ?_)
  replace hw : Wd g s A H locs (mX g md mfa 96 11 mnow mgr mmo mre msd mbg mky mli mrf mrn mka u_1.1 u_1.2.1 u_1.2.2.1 u_1.2.2.2.1 u_1.2.2.2.2.1 u_1.2.2.2.2.2 mkn mkb mku mhp mpa mpb mit mus mid mbe mla msi mtx mra) := hw
  have q1 := hp_3
  refine lv_iconst (v := nI 0) hx hb dX8_token_7 (by decide) ?_
  refine lv_istore_n (lv' := [(2, .int (nI 0)), (0, .ref (md 0)), (1, .int (nI k))]) hx hb dX8_token_8 rfl hl (by decide) rfl (fun ls hl => ?_)
  have L_9 : ∀ (nn i : Nat), i ≤ 9 → 9 < i + nn → ∀ (H : Heap) (locs : List Loc) (ls : Array Slot), Wd g s A H locs (mX g md mfa 96 11 mnow mgr mmo mre msd mbg mky mli mrf mrn mka u_1.1 u_1.2.1 u_1.2.2.1 u_1.2.2.2.1 u_1.2.2.2.2.1 u_1.2.2.2.2.2 mkn mkb mku mhp mpa mpb mit mus mid mbe mla msi mtx (trF u_1.2.2.2.1 mra i)) → lv_has ls 3 [(0, .ref (md 0)), (2, .int (nI i))] → W p l e (rmm 5 120) s m args below meth c H locs 0 0 QQ (F0 m 9 ls []) := by
    intro nn
    induction nn with
    | zero => intro i h1 h2; exact absurd h2 (by omega)
    | succ nn ih =>
      intro i hk_i hn_i H locs ls hw hl
      refine lv_iload_n hx hb dX8_token_9 rfl (lv_at hl 1 rfl) ?_
      refine lv_bipush (v := nI 9) hx hb dX8_token_10 (by decide) ?_
      refine n_ge (tgt := 33) hx hb (by omega) (by omega) dX8_token_12 (by decide) (fun c_12 => ?_) (fun c_12 => ?_)
      · obtain rfl : i = 9 := by omega
        exact rt_v F hr hlk hQ hw (u_1.1, u_1.2.1, u_1.2.2.1, u_1.2.2.2.1, u_1.2.2.2.2.1, u_1.2.2.2.2.2, (trF u_1.2.2.2.1 mra 9)) (fun j hj => (trF_get _ _ 9 j hj).trans (q1 j (by omega))) rfl dX8_token_33
      · refine lv_aload_n hx hb dX8_token_15 rfl (lv_at hl 0 rfl) ?_
        refine gf_X8_163 F hw 0 rfl rfl dX8_token_16 ?_
        refine lv_iload_n hx hb dX8_token_19 rfl (lv_at hl 1 rfl) ?_
        refine lv_aload_n hx hb dX8_token_20 rfl (lv_at hl 0 rfl) ?_
        refine gf_X8_97 F hw 0 rfl rfl dX8_token_21 ?_
        refine lv_iload_n hx hb dX8_token_24 rfl (lv_at hl 1 rfl) ?_
        refine ia_ld F hw 6 rfl (by omega) (by omega) dX8_token_25 ?_
        refine ia_st F hw 22 rfl (by omega) (by omega) dX8_token_26 (fun H locs hw => ?_)
        replace hw : Wd g s A H locs (mX g md mfa 96 11 mnow mgr mmo mre msd mbg mky mli mrf mrn mka u_1.1 u_1.2.1 u_1.2.2.1 u_1.2.2.2.1 u_1.2.2.2.2.1 u_1.2.2.2.2.2 mkn mkb mku mhp mpa mpb mit mus mid mbe mla msi mtx (upd (trF u_1.2.2.2.1 mra i) i (u_1.2.2.2.1 i))) := hw
        refine lv_iinc (v := nI (i + 1)) (lv' := [(2, .int (nI (i + 1))), (0, .ref (md 0))]) hx hb dX8_token_27 hl (k := 1) rfl (inc_n _ 1) (by decide) rfl (fun ls hl => ?_)
        refine lv_goto (tgt := 9) hx hb dX8_token_30 (by decide) ?_
        exact ih (i + 1) (by omega) (by omega) _ _ _ hw (lv_sub hl [1, 0] rfl)
  exact L_9 (9 + 1) 0 (by omega) (by omega) _ _ _ hw (lv_sub hl [1, 0] rfl)
