theorem blk_pad {K fk m : Nat → Int32} {n len : Nat} {pad : Int32} (hn : n ≤ 64) (h : ∀ j, j < 64 → K j = if j < n then fk j else nI 0) : blk K 64 pad m len = blk fk n pad m len := by
  funext j
  unfold blk
  by_cases h0 : j < 64
  · rw [if_pos h0, if_pos h0, if_pos h0, h j h0]
  · rw [if_neg h0, if_neg h0]
theorem hmac_pad {K fk m : Nat → Int32} {n len : Nat} (hn : n ≤ 64) (h : ∀ j, j < 64 → K j = if j < n then fk j else nI 0) (j : Nat) : hmac K 64 m len j = hmac fk n m len j := by
  unfold hmac
  rw [blk_pad hn h, blk_pad hn h]
def nkF (sd : Int64) (f0 : Nat → Int32) : Nat → Nat → Int32
  | 0 => f0
  | i + 1 => upd (nkF sd f0 i) i (if i < 8 then byL sd i else nI 0)
theorem nk_t {sd : Int64} {f0 : Nat → Int32} {i : Nat} (h : i < 8) : nkF sd f0 (i + 1) = upd (nkF sd f0 i) i (byL sd i) := by simp only [nkF, h, if_true]
theorem nk_f {sd : Int64} {f0 : Nat → Int32} {i : Nat} (h : 8 ≤ i) : nkF sd f0 (i + 1) = upd (nkF sd f0 i) i (nI 0) := by simp only [nkF, Nat.not_lt.mpr h, if_false]
theorem nkF_get (sd : Int64) (f0 : Nat → Int32) : ∀ i t, t < i → nkF sd f0 i t = if t < 8 then byL sd t else nI 0 := by
  intro i
  induction i with
  | zero => intro t h; omega
  | succ i ih =>
    intro t h
    show upd (nkF sd f0 i) i _ t = _
    by_cases e : t = i
    · subst e; rw [upd_s]
    · rw [upd_n _ _ e]; exact ih t (by omega)
def nsF (bg : Int64) (f0 : Nat → Int32) : Nat → Nat → Int32
  | 0 => f0
  | i + 1 => upd (nsF bg f0 i) i (byL bg i)
theorem ns_s {bg : Int64} {f0 : Nat → Int32} {i : Nat} (h : i < 8) : nsF bg f0 (i + 1) = upd (nsF bg f0 i) i ((lshr bg (nI (56 - 8 * i))).toInt32 &&& nI 255) := by rw [lsar_byL bg h]; rfl
theorem nsF_get (bg : Int64) (f0 : Nat → Int32) : ∀ i t, t < i → nsF bg f0 i t = byL bg t := by
  intro i
  induction i with
  | zero => intro t h; omega
  | succ i ih =>
    intro t h
    show upd (nsF bg f0 i) i _ t = _
    by_cases e : t = i
    · subst e; rw [upd_s]
    · rw [upd_n _ _ e]; exact ih t (by omega)
def rdH (f : Nat → Int32) : Nat → Int64
  | 0 => 0
  | k + 1 => lshl (rdH f k) (nI 8) ||| (f k).toInt64
theorem rdH_L {f f' : Nat → Int32} {fr : Nat} : ∀ k, (∀ j, j < k → f j = f' (fr + j)) → rdH f k = rdL f' fr k := by
  intro k
  induction k with
  | zero => intro _; rfl
  | succ k ih => intro h; simp only [rdH, rdL, ih (fun j hj => h j (by omega)), h k (by omega)]
/-- the ID of a session: the seed's eight bytes the key, the count's the message -/
def idM (sd bg : Int64) : Int64 := rdL (hmac (byL sd) 8 (byL bg) 8) 0 8
theorem idM_of {sd bg : Int64} {u ke sa : Nat → Int32} (q : ∀ j, j < 32 → u j = hmac (nkF sd ke 64) 64 (nsF bg sa 8) 8 j) : rdH u 8 = idM sd bg := rdH_L 8 (fun j hj => by
  rw [show 0 + j = j by omega, q j (by omega), hmac_pad (fk := byL sd) (n := 8) (by omega) (fun j hj => nkF_get sd ke 64 j hj)]
  exact hmac_congr (fun i hi => nsF_get bg sa 8 i hi) j (by omega))
set_option maxHeartbeats 4000000 in
set_option maxRecDepth 100000 in
theorem c_X8_newId (g : GG) (l : Launch) (md : Nat → Nat) (mfa : Int32) (mmz : Nat) (msz : Nat) (mnow : Int64) (mgr : Int64) (mmo : Int64) (mre : Int64) (msd : Int64) (mbg : Int64) (mky : Nat) (mli : Int32) (mrf : Int32) (mrn : Int32) (mka : Int32) (mta : Nat → Int32) (mwd : Nat → Int32) (mms : Nat → Int32) (mhs : Nat → Int32) (mke : Nat → Int32) (msa : Nat → Int32) (mkn : Nat → Int32) (mkb : Nat → Int32) (mku : Nat → Int64) (mhp : Nat → Int32) (mpa : Nat → Int32) (mpb : Nat → Int32) (mit : Nat → Int32) (mus : Nat → Int32) (mid : Nat → Int64) (mbe : Nat → Int64) (mla : Nat → Int64) (msi : Nat → Int32) (mtx : Nat → Int32) (mra : Nat → Int32) : Ct g l yX8_newId cX8_newId 4 (some .long) 4 97 [.ref (md 0)] (mX g md mfa mmz msz mnow mgr mmo mre msd mbg mky mli mrf mrn mka mta mwd mms mhs mke msa mkn mkb mku mhp mpa mpb mit mus mid mbe mla msi mtx mra) (Rl g (fun (v : Int64) (u : (Nat → Int32) × (Nat → Int32) × (Nat → Int32) × (Nat → Int32) × (Nat → Int32) × (Nat → Int32)) => v = idM msd mbg) (fun (u : (Nat → Int32) × (Nat → Int32) × (Nat → Int32) × (Nat → Int32) × (Nat → Int32) × (Nat → Int32)) => (mX g md mfa 96 8 mnow mgr mmo mre msd mbg mky mli mrf mrn mka u.1 u.2.1 u.2.2.1 u.2.2.2.1 u.2.2.2.2.1 u.2.2.2.2.2 mkn mkb mku mhp mpa mpb mit mus mid mbe mla msi mtx mra))) := by
  refine mkC (by decide) (Nat.le_of_ble_eq_true rfl) ?_
  intro p e s m args below meth c A ls QQ F hr hlk hnm hQ hw hl
  have hx := F.1
  have hb := F.2.1
  replace hl : lv_has ls 4 [(0, .ref (md 0))] := hl
  refine lv_iconst (v := nI 0) hx hb dX8_newId_0 (by decide) ?_
  refine lv_istore_n (lv' := [(1, .int (nI 0)), (0, .ref (md 0))]) hx hb dX8_newId_1 rfl hl (by decide) rfl (fun ls hl => ?_)
  have L_2 : ∀ (nn i : Nat), i ≤ 64 → 64 < i + nn → ∀ (H : Heap) (locs : List Loc) (ls : Array Slot), Wd g s A H locs (mX g md mfa mmz msz mnow mgr mmo mre msd mbg mky mli mrf mrn mka mta mwd mms mhs (nkF msd mke i) msa mkn mkb mku mhp mpa mpb mit mus mid mbe mla msi mtx mra) → lv_has ls 4 [(0, .ref (md 0)), (1, .int (nI i))] → W p l e (rmm 4 97) s m args below meth c H locs 0 0 QQ (F0 m 2 ls []) := by
    intro nn
    induction nn with
    | zero => intro i h1 h2; exact absurd h2 (by omega)
    | succ nn ih =>
      intro i hk_i hn_i H locs ls hw hl
      refine lv_iload_n hx hb dX8_newId_2 rfl (lv_at hl 1 rfl) ?_
      refine lv_bipush (v := nI 64) hx hb dX8_newId_3 (by decide) ?_
      refine n_ge (tgt := 47) hx hb (by omega) (by omega) dX8_newId_5 (by decide) (fun c_5 => ?_) (fun c_5 => ?_)
      · obtain rfl : i = 64 := by omega
        refine lv_aload_n hx hb dX8_newId_47 rfl (lv_at hl 0 rfl) ?_
        refine lv_iconst (v := nI 0) hx hb dX8_newId_48 (by decide) ?_
        refine pf_X8_180 F hw 0 rfl (Nat.le_of_ble_eq_true rfl) rfl rfl dX8_newId_49 (fun H locs hw => ?_)
        replace hw : Wd g s A H locs (mX g md mfa mmz 0 mnow mgr mmo mre msd mbg mky mli mrf mrn mka mta mwd mms mhs (nkF msd mke 64) msa mkn mkb mku mhp mpa mpb mit mus mid mbe mla msi mtx mra) := hw
        refine lv_iconst (v := nI 0) hx hb dX8_newId_52 (by decide) ?_
        refine lv_istore_n (lv' := [(1, .int (nI 0)), (0, .ref (md 0))]) hx hb dX8_newId_53 rfl hl (by decide) rfl (fun ls hl => ?_)
        have L_54 : ∀ (nn j : Nat), j ≤ 8 → 8 < j + nn → ∀ (H : Heap) (locs : List Loc) (ls : Array Slot), Wd g s A H locs (mX g md mfa mmz j mnow mgr mmo mre msd mbg mky mli mrf mrn mka mta mwd mms mhs (nkF msd mke 64) (nsF mbg msa j) mkn mkb mku mhp mpa mpb mit mus mid mbe mla msi mtx mra) → lv_has ls 4 [(0, .ref (md 0)), (1, .int (nI j))] → W p l e (rmm 4 97) s m args below meth c H locs 0 0 QQ (F0 m 54 ls []) := by
          intro nn
          induction nn with
          | zero => intro j h1 h2; exact absurd h2 (by omega)
          | succ nn ih =>
            intro j hk_j hn_j H locs ls hw hl
            refine lv_iload_n hx hb dX8_newId_54 rfl (lv_at hl 1 rfl) ?_
            refine lv_bipush (v := nI 8) hx hb dX8_newId_55 (by decide) ?_
            refine n_ge (tgt := 83) hx hb (by omega) (by omega) dX8_newId_57 (by decide) (fun c_57 => ?_) (fun c_57 => ?_)
            · obtain rfl : j = 8 := by omega
              refine lv_aload_n hx hb dX8_newId_83 rfl (lv_at hl 0 rfl) ?_
              refine cl_vF hw (rn_VF F hw (c_X8_seal g l md mfa mmz 8 mnow mgr mmo mre msd mbg mky mli mrf mrn mka mta mwd mms mhs (nkF msd mke 64) (nsF mbg msa 8) mkn mkb mku mhp mpa mpb mit mus mid mbe mla msi mtx mra (by omega)) (cw_X8_197 F.2.2.2.2 ⟨by decide, by decide⟩)    0 rfl rfl rfl hl.1 rfl (Nat.le_of_ble_eq_true rfl) dX8_newId_84 ⟨Nat.zero_le _, Nat.zero_le _⟩) (fun u_1 H locs hp_3 hw => ?_)
              replace hw : Wd g s A H locs (mX g md mfa 96 8 mnow mgr mmo mre msd mbg mky mli mrf mrn mka u_1.1 u_1.2.1 u_1.2.2.1 u_1.2.2.2 (nkF msd mke 64) (nsF mbg msa 8) mkn mkb mku mhp mpa mpb mit mus mid mbe mla msi mtx mra) := hw
              have q1 := hp_3
              refine lv_lconst (v := 0) hx hb dX8_newId_87 (by decide) ?_
              refine lv_lstore_n (lv' := [(1, .long 0), (0, .ref (md 0))]) hx hb dX8_newId_88 rfl hl (by decide) rfl (fun ls hl => ?_)
              refine lv_iconst (v := nI 0) hx hb dX8_newId_89 (by decide) ?_
              refine lv_istore_n (lv' := [(3, .int (nI 0)), (1, .long 0), (0, .ref (md 0))]) hx hb dX8_newId_90 rfl hl (by decide) rfl (fun ls hl => ?_)
              have L_91 : ∀ (nn k : Nat), k ≤ 8 → 8 < k + nn → ∀ (H : Heap) (locs : List Loc) (ls : Array Slot), Wd g s A H locs (mX g md mfa 96 8 mnow mgr mmo mre msd mbg mky mli mrf mrn mka u_1.1 u_1.2.1 u_1.2.2.1 u_1.2.2.2 (nkF msd mke 64) (nsF mbg msa 8) mkn mkb mku mhp mpa mpb mit mus mid mbe mla msi mtx mra) → lv_has ls 4 [(0, .ref (md 0)), (1, .long ((rdH u_1.2.2.2 k))), (3, .int (nI k))] → W p l e (rmm 4 97) s m args below meth c H locs 0 0 QQ (F0 m 91 ls []) := by
                intro nn
                induction nn with
                | zero => intro k h1 h2; exact absurd h2 (by omega)
                | succ nn ih =>
                  intro k hk_k hn_k H locs ls hw hl
                  refine lv_iload_n hx hb dX8_newId_91 rfl (lv_at hl 2 rfl) ?_
                  refine lv_bipush (v := nI 8) hx hb dX8_newId_92 (by decide) ?_
                  refine n_ge (tgt := 116) hx hb (by omega) (by omega) dX8_newId_94 (by decide) (fun c_94 => ?_) (fun c_94 => ?_)
                  · obtain rfl : k = 8 := by omega
                    refine lv_lload_n hx hb dX8_newId_116 rfl (lv_at hl 1 rfl) ?_
                    exact rt_l F hr hlk hQ hw (u_1.1, u_1.2.1, u_1.2.2.1, u_1.2.2.2, (nkF msd mke 64), (nsF mbg msa 8)) (idM_of q1) rfl dX8_newId_117
                  · refine lv_lload_n hx hb dX8_newId_97 rfl (lv_at hl 1 rfl) ?_
                    refine lv_bipush (v := nI 8) hx hb dX8_newId_98 (by decide) ?_
                    refine lv_lshl (v := lshl (rdH u_1.2.2.2 k) (nI 8)) hx hb dX8_newId_100 rfl ?_
                    refine lv_aload_n hx hb dX8_newId_101 rfl (lv_at hl 0 rfl) ?_
                    refine gf_X8_97 F hw 0 rfl rfl dX8_newId_102 ?_
                    refine lv_iload_n hx hb dX8_newId_105 rfl (lv_at hl 2 rfl) ?_
                    refine ia_ld F hw 6 rfl (by omega) (by omega) dX8_newId_106 ?_
                    refine lv_i2l (v := ((u_1.2.2.2 k)).toInt64) hx hb dX8_newId_107 rfl ?_
                    refine lv_lor hx hb dX8_newId_108 ?_
                    refine lv_lstore_n (lv' := [(1, .long (((lshl (rdH u_1.2.2.2 k) (nI 8)) ||| (((u_1.2.2.2 k)).toInt64)))), (0, .ref (md 0)), (3, .int (nI k))]) hx hb dX8_newId_109 rfl hl (by decide) rfl (fun ls hl => ?_)
                    refine lv_iinc (v := nI (k + 1)) (lv' := [(3, .int (nI (k + 1))), (1, .long (((lshl (rdH u_1.2.2.2 k) (nI 8)) ||| (((u_1.2.2.2 k)).toInt64)))), (0, .ref (md 0))]) hx hb dX8_newId_110 hl (k := 2) rfl (inc_n _ 1) (by decide) rfl (fun ls hl => ?_)
                    refine lv_goto (tgt := 91) hx hb dX8_newId_113 (by decide) ?_
                    exact ih (k + 1) (by omega) (by omega) _ _ _ hw (lv_sub hl [2, 1, 0] rfl)
              exact L_91 (8 + 1) 0 (by omega) (by omega) _ _ _ hw (lv_sub hl [2, 1, 0] rfl)
            · refine lv_aload_n hx hb dX8_newId_60 rfl (lv_at hl 0 rfl) ?_
              refine lv_aload_n hx hb dX8_newId_61 rfl (lv_at hl 0 rfl) ?_
              refine gf_X8_191 F hw 0 rfl rfl dX8_newId_62 ?_
              refine lv_bipush (v := nI 56) hx hb dX8_newId_65 (by decide) ?_
              refine lv_bipush (v := nI 8) hx hb dX8_newId_67 (by decide) ?_
              refine lv_iload_n hx hb dX8_newId_69 rfl (lv_at hl 1 rfl) ?_
              refine n_mul hx hb dX8_newId_70 ?_
              refine n_sub hx hb (by omega) dX8_newId_71 ?_
              refine lv_lshr (v := lshr mbg (nI (56 - (8 * j)))) hx hb dX8_newId_72 rfl ?_
              refine lv_l2i (v := ((lshr mbg (nI (56 - (8 * j))))).toInt32) hx hb dX8_newId_73 rfl ?_
              refine cl_vF hw (rn_VF F hw (c_X8_say g l md mfa mmz j mnow mgr mmo mre msd mbg mky mli mrf mrn mka mta mwd mms mhs (nkF msd mke 64) (nsF mbg msa j) mkn mkb mku mhp mpa mpb mit mus mid mbe mla msi mtx mra (((lshr mbg (nI (56 - (8 * j))))).toInt32) (by omega)) (cw_X8_194 F.2.2.2.2 ⟨by decide, by decide⟩)    0 rfl rfl rfl hl.1 rfl (Nat.le_of_ble_eq_true rfl) dX8_newId_74 ⟨Nat.zero_le _, Nat.zero_le _⟩) (fun u_4 H locs hp_6 hw => ?_)
              replace hw : Wd g s A H locs (mX g md mfa mmz (j + 1) mnow mgr mmo mre msd mbg mky mli mrf mrn mka mta mwd mms mhs (nkF msd mke 64) (upd (nsF mbg msa j) j ((((lshr mbg (nI (56 - (8 * j))))).toInt32) &&& nI 255)) mkn mkb mku mhp mpa mpb mit mus mid mbe mla msi mtx mra) := hw
              refine lv_iinc (v := nI (j + 1)) (lv' := [(1, .int (nI (j + 1))), (0, .ref (md 0))]) hx hb dX8_newId_77 hl (k := 1) rfl (inc_n _ 1) (by decide) rfl (fun ls hl => ?_)
              refine lv_goto (tgt := 54) hx hb dX8_newId_80 (by decide) ?_
              exact ih (j + 1) (by omega) (by omega) _ _ _ (by rw [ns_s (by omega)]; exact hw) (lv_sub hl [1, 0] rfl)
        exact L_54 (8 + 1) 0 (by omega) (by omega) _ _ _ hw (lv_sub hl [1, 0] rfl)
      · refine lv_aload_n hx hb dX8_newId_8 rfl (lv_at hl 0 rfl) ?_
        refine gf_X8_100 F hw 0 rfl rfl dX8_newId_9 ?_
        refine lv_iload_n hx hb dX8_newId_12 rfl (lv_at hl 1 rfl) ?_
        refine lv_iload_n hx hb dX8_newId_13 rfl (lv_at hl 1 rfl) ?_
        refine lv_bipush (v := nI 8) hx hb dX8_newId_14 (by decide) ?_
        refine n_ge (tgt := 39) hx hb (by omega) (by omega) dX8_newId_16 (by decide) (fun c_16 => ?_) (fun c_16 => ?_)
        · refine lv_iconst (v := nI 0) hx hb dX8_newId_39 (by decide) ?_
          refine ia_st F hw 7 rfl (by omega) (by omega) dX8_newId_40 (fun H locs hw => ?_)
          replace hw : Wd g s A H locs (mX g md mfa mmz msz mnow mgr mmo mre msd mbg mky mli mrf mrn mka mta mwd mms mhs (upd (nkF msd mke i) i (nI 0)) msa mkn mkb mku mhp mpa mpb mit mus mid mbe mla msi mtx mra) := hw
          refine lv_iinc (v := nI (i + 1)) (lv' := [(1, .int (nI (i + 1))), (0, .ref (md 0))]) hx hb dX8_newId_41 hl (k := 1) rfl (inc_n _ 1) (by decide) rfl (fun ls hl => ?_)
          refine lv_goto (tgt := 2) hx hb dX8_newId_44 (by decide) ?_
          exact ih (i + 1) (by omega) (by omega) _ _ _ (by first | (rw [nk_t c_16]; exact hw) | (rw [nk_f c_16]; exact hw)) (lv_sub hl [1, 0] rfl)
        · refine lv_aload_n hx hb dX8_newId_19 rfl (lv_at hl 0 rfl) ?_
          refine gf_X8_186 F hw 0 rfl rfl dX8_newId_20 ?_
          refine lv_bipush (v := nI 56) hx hb dX8_newId_23 (by decide) ?_
          refine lv_bipush (v := nI 8) hx hb dX8_newId_25 (by decide) ?_
          refine lv_iload_n hx hb dX8_newId_27 rfl (lv_at hl 1 rfl) ?_
          refine n_mul hx hb dX8_newId_28 ?_
          refine n_sub hx hb (by omega) dX8_newId_29 ?_
          refine lv_lshr (v := lshr msd (nI (56 - (8 * i)))) hx hb dX8_newId_30 rfl ?_
          refine lv_ldc2 hx hb F.2.2.2.1 (F.2.2.2.2 _ bg_19_5) dX8_newId_31 ?_
          refine lv_land hx hb dX8_newId_34 ?_
          refine lv_l2i (v := (((lshr msd (nI (56 - (8 * i)))) &&& (255))).toInt32) hx hb dX8_newId_35 rfl ?_
          refine tp_i (y := byL msd i) (lsar_byL2 _ (by omega)) ?_
          refine lv_goto (tgt := 40) hx hb dX8_newId_36 (by decide) ?_
          refine ia_st F hw 7 rfl (by omega) (by omega) dX8_newId_40 (fun H locs hw => ?_)
          replace hw : Wd g s A H locs (mX g md mfa mmz msz mnow mgr mmo mre msd mbg mky mli mrf mrn mka mta mwd mms mhs (upd (nkF msd mke i) i (byL msd i)) msa mkn mkb mku mhp mpa mpb mit mus mid mbe mla msi mtx mra) := hw
          refine lv_iinc (v := nI (i + 1)) (lv' := [(1, .int (nI (i + 1))), (0, .ref (md 0))]) hx hb dX8_newId_41 hl (k := 1) rfl (inc_n _ 1) (by decide) rfl (fun ls hl => ?_)
          refine lv_goto (tgt := 2) hx hb dX8_newId_44 (by decide) ?_
          exact ih (i + 1) (by omega) (by omega) _ _ _ (by first | (rw [nk_t c_16]; exact hw) | (rw [nk_f c_16]; exact hw)) (lv_sub hl [1, 0] rfl)
  exact L_2 (64 + 1) 0 (by omega) (by omega) _ _ _ hw (lv_sub hl [1, 0] rfl)
set_option maxHeartbeats 4000000 in
set_option maxRecDepth 100000 in
theorem c_X8_body (g : GG) (l : Launch) (md : Nat → Nat) (mfa : Int32) (mmz : Nat) (msz : Nat) (mnow : Int64) (mgr : Int64) (mmo : Int64) (mre : Int64) (msd : Int64) (mbg : Int64) (mky : Nat) (mli : Int32) (mrf : Int32) (mrn : Int32) (mka : Int32) (mta : Nat → Int32) (mwd : Nat → Int32) (mms : Nat → Int32) (mhs : Nat → Int32) (mke : Nat → Int32) (msa : Nat → Int32) (mkn : Nat → Int32) (mkb : Nat → Int32) (mku : Nat → Int64) (mhp : Nat → Int32) (mpa : Nat → Int32) (mpb : Nat → Int32) (mit : Nat → Int32) (mus : Nat → Int32) (mid : Nat → Int64) (mbe : Nat → Int64) (mla : Nat → Int64) (msi : Nat → Int32) (mtx : Nat → Int32) (mra : Nat → Int32) (n : Int32) (w : Int32) (id : Int64) : Ct g l yX8_body cX8_body 6 none 0 0 [.ref (md 0), .int n, .int w, .long id] (mX g md mfa mmz msz mnow mgr mmo mre msd mbg mky mli mrf mrn mka mta mwd mms mhs mke msa mkn mkb mku mhp mpa mpb mit mus mid mbe mla msi mtx mra) (Rv g (fun (u : Unit) => True) (fun (u : Unit) => (mX g md mfa mmz msz mnow mgr mmo mre msd mbg mky mli mrf mrn mka mta mwd mms mhs mke msa mkn mkb mku mhp mpa mpb mit mus mid mbe mla msi mtx (wlF id 2 (upd (upd mra 0 n) 1 w) 8)))) := by
  refine mkC (by decide) (Nat.le_of_ble_eq_true rfl) ?_
  intro p e s m args below meth c A ls QQ F hr hlk hnm hQ hw hl
  have hx := F.1
  have hb := F.2.1
  replace hl : lv_has ls 6 [(0, .ref (md 0)), (1, .int n), (2, .int w), (3, .long id)] := hl
  refine lv_aload_n hx hb dX8_body_0 rfl (lv_at hl 0 rfl) ?_
  refine gf_X8_163 F hw 0 rfl rfl dX8_body_1 ?_
  refine lv_iconst (v := nI 0) hx hb dX8_body_4 (by decide) ?_
  refine lv_iload_n hx hb dX8_body_5 rfl (lv_at hl 1 rfl) ?_
  refine ia_st F hw 22 rfl (by omega) (by omega) dX8_body_6 (fun H locs hw => ?_)
  replace hw : Wd g s A H locs (mX g md mfa mmz msz mnow mgr mmo mre msd mbg mky mli mrf mrn mka mta mwd mms mhs mke msa mkn mkb mku mhp mpa mpb mit mus mid mbe mla msi mtx (upd mra 0 n)) := hw
  refine lv_aload_n hx hb dX8_body_7 rfl (lv_at hl 0 rfl) ?_
  refine gf_X8_163 F hw 0 rfl rfl dX8_body_8 ?_
  refine lv_iconst (v := nI 1) hx hb dX8_body_11 (by decide) ?_
  refine lv_iload_n hx hb dX8_body_12 rfl (lv_at hl 2 rfl) ?_
  refine ia_st F hw 22 rfl (by omega) (by omega) dX8_body_13 (fun H locs hw => ?_)
  replace hw : Wd g s A H locs (mX g md mfa mmz msz mnow mgr mmo mre msd mbg mky mli mrf mrn mka mta mwd mms mhs mke msa mkn mkb mku mhp mpa mpb mit mus mid mbe mla msi mtx (upd (upd mra 0 n) 1 w)) := hw
  refine lv_iconst (v := nI 0) hx hb dX8_body_14 (by decide) ?_
  refine lv_istore (lv' := [(5, .int (nI 0)), (0, .ref (md 0)), (1, .int n), (2, .int w), (3, .long id)]) hx hb dX8_body_15 hl (by decide) rfl (fun ls hl => ?_)
  have L_17 : ∀ (nn k : Nat), k ≤ 8 → 8 < k + nn → ∀ (H : Heap) (locs : List Loc) (ls : Array Slot), Wd g s A H locs (mX g md mfa mmz msz mnow mgr mmo mre msd mbg mky mli mrf mrn mka mta mwd mms mhs mke msa mkn mkb mku mhp mpa mpb mit mus mid mbe mla msi mtx (wlF id 2 (upd (upd mra 0 n) 1 w) k)) → lv_has ls 6 [(0, .ref (md 0)), (1, .int n), (2, .int w), (3, .long id), (5, .int (nI k))] → W p l e (rmm 0 0) s m args below meth c H locs 0 0 QQ (F0 m 17 ls []) := by
    intro nn
    induction nn with
    | zero => intro k h1 h2; exact absurd h2 (by omega)
    | succ nn ih =>
      intro k hk_k hn_k H locs ls hw hl
      refine lv_iload hx hb dX8_body_17 (lv_at hl 4 rfl) ?_
      refine lv_bipush (v := nI 8) hx hb dX8_body_19 (by decide) ?_
      refine n_ge (tgt := 54) hx hb (by omega) (by omega) dX8_body_21 (by decide) (fun c_21 => ?_) (fun c_21 => ?_)
      · obtain rfl : k = 8 := by omega
        exact rt_v F hr hlk hQ hw () trivial rfl dX8_body_54
      · refine lv_aload_n hx hb dX8_body_24 rfl (lv_at hl 0 rfl) ?_
        refine gf_X8_163 F hw 0 rfl rfl dX8_body_25 ?_
        refine lv_iconst (v := nI 2) hx hb dX8_body_28 (by decide) ?_
        refine lv_iload hx hb dX8_body_29 (lv_at hl 4 rfl) ?_
        refine n_add hx hb dX8_body_31 ?_
        refine lv_lload_n hx hb dX8_body_32 rfl (lv_at hl 3 rfl) ?_
        refine lv_bipush (v := nI 56) hx hb dX8_body_33 (by decide) ?_
        refine lv_bipush (v := nI 8) hx hb dX8_body_35 (by decide) ?_
        refine lv_iload hx hb dX8_body_37 (lv_at hl 4 rfl) ?_
        refine n_mul hx hb dX8_body_39 ?_
        refine n_sub hx hb (by omega) dX8_body_40 ?_
        refine lv_lshr (v := lshr id (nI (56 - (8 * k)))) hx hb dX8_body_41 rfl ?_
        refine lv_ldc2 hx hb F.2.2.2.1 (F.2.2.2.2 _ bg_19_5) dX8_body_42 ?_
        refine lv_land hx hb dX8_body_45 ?_
        refine lv_l2i (v := (((lshr id (nI (56 - (8 * k)))) &&& (255))).toInt32) hx hb dX8_body_46 rfl ?_
        refine tp_i (y := byL id k) (lsar_byL2 _ (by omega)) ?_
        refine ia_st F hw 22 rfl (by omega) (by omega) dX8_body_47 (fun H locs hw => ?_)
        replace hw : Wd g s A H locs (mX g md mfa mmz msz mnow mgr mmo mre msd mbg mky mli mrf mrn mka mta mwd mms mhs mke msa mkn mkb mku mhp mpa mpb mit mus mid mbe mla msi mtx (upd (wlF id 2 (upd (upd mra 0 n) 1 w) k) (2 + k) (byL id k))) := hw
        refine lv_iinc (v := nI (k + 1)) (lv' := [(5, .int (nI (k + 1))), (0, .ref (md 0)), (1, .int n), (2, .int w), (3, .long id)]) hx hb dX8_body_48 hl (k := 4) rfl (inc_n _ 1) (by decide) rfl (fun ls hl => ?_)
        refine lv_goto (tgt := 17) hx hb dX8_body_51 (by decide) ?_
        exact ih (k + 1) (by omega) (by omega) _ _ _ hw (lv_sub hl [1, 2, 3, 4, 0] rfl)
  exact L_17 (8 + 1) 0 (by omega) (by omega) _ _ _ hw (lv_sub hl [1, 2, 3, 4, 0] rfl)
