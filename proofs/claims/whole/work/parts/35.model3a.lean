def riF (h f0 : Nat → Int32) : Nat → Nat → Int32
  | 0 => f0
  | i + 1 => upd (riF h f0 i) (10 + i) (h i)
theorem riF_get (h f0 : Nat → Int32) : ∀ i t, riF h f0 i t = if 10 ≤ t ∧ t < 10 + i then h (t - 10) else f0 t := by
  intro i
  induction i with
  | zero => intro t; rw [if_neg (by omega)]; rfl
  | succ i ih =>
    intro t
    show upd (riF h f0 i) (10 + i) (h i) t = _
    by_cases e : t = 10 + i
    · subst e; rw [upd_s, if_pos (show 10 ≤ 10 + i ∧ 10 + i < 10 + (i + 1) by omega), show 10 + i - 10 = i by omega]
    · rw [upd_n _ _ e, ih t]
      by_cases h1 : 10 ≤ t ∧ t < 10 + i
      · rw [if_pos h1, if_pos (show 10 ≤ t ∧ t < 10 + (i + 1) by omega)]
      · rw [if_neg h1, if_neg (show ¬ (10 ≤ t ∧ t < 10 + (i + 1)) by omega)]
def ctF (ra : Nat → Int32) (bytes off : Nat) (f0 : Nat → Int32) : Nat → Nat → Int32
  | 0 => f0
  | i + 1 => upd (ctF ra bytes off f0 i) (off + i) (kA (cdV ra bytes i 6))
theorem ctF_get (ra : Nat → Int32) (bytes off : Nat) (f0 : Nat → Int32) : ∀ i t, ctF ra bytes off f0 i t = if off ≤ t ∧ t < off + i then kA (cdV ra bytes (t - off) 6) else f0 t := by
  intro i
  induction i with
  | zero => intro t; rw [if_neg (by omega)]; rfl
  | succ i ih =>
    intro t
    show upd (ctF ra bytes off f0 i) (off + i) (kA (cdV ra bytes i 6)) t = _
    by_cases e : t = off + i
    · subst e; rw [upd_s, if_pos (show off ≤ off + i ∧ off + i < off + (i + 1) by omega), show off + i - off = i by omega]
    · rw [upd_n _ _ e, ih t]
      by_cases h1 : off ≤ t ∧ t < off + i
      · rw [if_pos h1, if_pos (show off ≤ t ∧ t < off + (i + 1) by omega)]
      · rw [if_neg h1, if_neg (show ¬ (off ≤ t ∧ t < off + (i + 1)) by omega)]
def ct0 (ra : Nat → Int32) (f0 : Nat → Int32) : Nat → Nat → Int32
  | 0 => f0
  | i + 1 => upd (ct0 ra f0 i) i (kA (cdV ra 22 i 6))
theorem ct0_F (ra f0 : Nat → Int32) : ∀ i t, ct0 ra f0 i t = if t < i then kA (cdV ra 22 t 6) else f0 t := by
  intro i
  induction i with
  | zero => intro t; rw [if_neg (by omega)]; rfl
  | succ i ih =>
    intro t
    show upd (ct0 ra f0 i) i (kA (cdV ra 22 i 6)) t = _
    by_cases e : t = i
    · subst e; rw [upd_s, if_pos (by omega)]
    · rw [upd_n _ _ e, ih t]
      by_cases h1 : t < i
      · rw [if_pos h1, if_pos (by omega)]
      · rw [if_neg h1, if_neg (by omega)]
theorem cd_congr {a b : Nat → Int32} {bytes k : Nat} (h : ∀ j, j < bytes → a j = b j) : ∀ j, cdV a bytes k j = cdV b bytes k j := by
  intro j
  induction j with
  | zero => rfl
  | succ j ih =>
    by_cases h1 : 6 * k + j < 8 * bytes
    · rw [cd_t h1, cd_t h1, ih, h _ (by omega)]
    · rw [cd_f (by omega), cd_f (by omega), ih]
/-- the cookie's bytes as the reference makes them -/
def ckR (kf : Nat → Int32) (n w : Int32) (id : Int64) (j : Nat) : Int32 := if j < 10 then bod n w id j else hmac kf 16 (rw8 (bod n w id)) 10 (j - 10)
theorem rw8_congr {a b : Nat → Int32} (h : ∀ j, j < 10 → a j = b j) : ∀ j, j < 10 → rw8 a j = rw8 b j := fun j hj => by unfold rw8; rw [h j hj]
theorem ckR_of {kf ra h : Nat → Int32} {n w : Int32} {id : Int64} (q : ∀ j, j < 32 → h j = hmac kf 16 (rw8 (wlF id 2 (upd (upd ra 0 n) 1 w) 8)) 10 j) : ∀ j, j < 22 → riF h (wlF id 2 (upd (upd ra 0 n) 1 w) 8) 12 j = ckR kf n w id j := by
  intro j hj
  rw [riF_get]
  unfold ckR
  by_cases a0 : j < 10
  · rw [if_neg (by omega), if_pos a0]; exact bod_of j a0
  · rw [if_pos (by omega), if_neg a0, q _ (by omega)]
    exact hmac_congr (rw8_congr bod_of) _ (by omega)
theorem tkR_of {kf ra h u : Nat → Int32} {n w : Int32} {id : Int64} (q : ∀ j, j < 9 → u j = hmac kf 16 (tkm (rw8 (riF h (wlF id 2 (upd (upd ra 0 n) 1 w) 8) 12))) 11 j) : ∀ j, j < 9 → u j = hmac kf 16 (tkm (rw8 (bod n w id))) 11 j := by
  intro j hj
  rw [q j hj]
  refine hmac_congr (fun i hi => ?_) j (by omega)
  unfold tkm
  by_cases e : i = 0
  · rw [if_pos e, if_pos e]
  · rw [if_neg e, if_neg e]
    refine rw8_congr (fun t ht => ?_) (i - 1) (by omega)
    rw [riF_get, if_neg (by omega)]
    exact bod_of t ht
set_option maxHeartbeats 4000000 in
set_option maxRecDepth 100000 in
theorem c_X8_issue (g : GG) (l : Launch) (md : Nat → Nat) (mfa : Int32) (mmz : Nat) (msz : Nat) (mnow : Int64) (mgr : Int64) (mmo : Int64) (mre : Int64) (msd : Int64) (mbg : Int64) (mky : Nat) (mli : Int32) (mrf : Int32) (mrn : Int32) (mka : Int32) (mta : Nat → Int32) (mwd : Nat → Int32) (mms : Nat → Int32) (mhs : Nat → Int32) (mke : Nat → Int32) (msa : Nat → Int32) (mkn : Nat → Int32) (mkb : Nat → Int32) (mku : Nat → Int64) (mhp : Nat → Int32) (mpa : Nat → Int32) (mpb : Nat → Int32) (mit : Nat → Int32) (mus : Nat → Int32) (mid : Nat → Int64) (mbe : Nat → Int64) (mla : Nat → Int64) (msi : Nat → Int32) (mtx : Nat → Int32) (mra : Nat → Int32) (i : Nat) (hi : i < 8) (hky : 1 ≤ mky) (hky4 : mky ≤ 4) : Ct g l yX8_issue cX8_issue 4 none 6 142 [.ref (md 0), .int (nI i)] (mX g md mfa mmz msz mnow mgr mmo mre msd mbg mky mli mrf mrn mka mta mwd mms mhs mke msa mkn mkb mku mhp mpa mpb mit mus mid mbe mla msi mtx mra) (Rv g (fun (u : (Nat → Int32) × (Nat → Int32) × (Nat → Int32) × (Nat → Int32) × (Nat → Int32) × (Nat → Int32) × (Nat → Int32) × (Nat → Int32)) => (∀ j, j < 30 → u.2.2.2.2.2.2.2 j = kA (cdV (ckR (k16 mkb (mky - 1)) (mkn (mky - 1)) (mus i) (mid i)) 22 j 6)) ∧ (∀ j, j < 12 → u.2.2.2.2.2.2.2 (40 + j) = kA (cdV (hmac (k16 mkb (mky - 1)) 16 (tkm (rw8 (bod (mkn (mky - 1)) (mus i) (mid i)))) 11) 9 j 6))) (fun (u : (Nat → Int32) × (Nat → Int32) × (Nat → Int32) × (Nat → Int32) × (Nat → Int32) × (Nat → Int32) × (Nat → Int32) × (Nat → Int32)) => (mX g md mfa 96 11 mnow mgr mmo mre msd mbg mky mli mrf mrn mka u.1 u.2.1 u.2.2.1 u.2.2.2.1 u.2.2.2.2.1 u.2.2.2.2.2.1 mkn mkb mku mhp mpa mpb mit mus mid mbe mla (upd (upd msi 0 (nI 30)) 1 (nI 12)) u.2.2.2.2.2.2.2 u.2.2.2.2.2.2.1))) := by
  refine mkC (by decide) (Nat.le_of_ble_eq_true rfl) ?_
  intro p e s m args below meth c A ls QQ F hr hlk hnm hQ hw hl
  have hx := F.1
  have hb := F.2.1
  replace hl : lv_has ls 4 [(0, .ref (md 0)), (1, .int (nI i))] := hl
  refine lv_aload_n hx hb dX8_issue_0 rfl (lv_at hl 0 rfl) ?_
  refine gf_X8_118 F hw 0 rfl rfl dX8_issue_1 ?_
  refine lv_iconst (v := nI 1) hx hb dX8_issue_4 (by decide) ?_
  refine n_sub hx hb (by omega) dX8_issue_5 ?_
  refine lv_istore_n (lv' := [(2, .int (nI (mky - 1))), (0, .ref (md 0)), (1, .int (nI i))]) hx hb dX8_issue_6 rfl hl (by decide) rfl (fun ls hl => ?_)
  refine lv_aload_n hx hb dX8_issue_7 rfl (lv_at hl 1 rfl) ?_
  refine lv_aload_n hx hb dX8_issue_8 rfl (lv_at hl 1 rfl) ?_
  refine gf_X8_122 F hw 0 rfl rfl dX8_issue_9 ?_
  refine lv_iload_n hx hb dX8_issue_12 rfl (lv_at hl 0 rfl) ?_
  refine ia_ld F hw 9 rfl (by omega) (by omega) dX8_issue_13 ?_
  refine lv_aload_n hx hb dX8_issue_14 rfl (lv_at hl 1 rfl) ?_
  refine gf_X8_145 F hw 0 rfl rfl dX8_issue_15 ?_
  refine lv_iload_n hx hb dX8_issue_18 rfl (lv_at hl 2 rfl) ?_
  refine ia_ld F hw 16 rfl (by omega) (by omega) dX8_issue_19 ?_
  refine lv_aload_n hx hb dX8_issue_20 rfl (lv_at hl 1 rfl) ?_
  refine gf_X8_148 F hw 0 rfl rfl dX8_issue_21 ?_
  refine lv_iload_n hx hb dX8_issue_24 rfl (lv_at hl 2 rfl) ?_
  refine ja_ld F hw 17 rfl (by omega) (by omega) dX8_issue_25 ?_
  refine cl_vF hw (rn_VF F hw (c_X8_body g l md mfa mmz msz mnow mgr mmo mre msd mbg mky mli mrf mrn mka mta mwd mms mhs mke msa mkn mkb mku mhp mpa mpb mit mus mid mbe mla msi mtx mra (mkn (mky - 1)) (mus i) (mid i)) (cw_X8_211 F.2.2.2.2 ⟨by decide, by decide⟩)    0 rfl rfl rfl hl.1 rfl (Nat.le_of_ble_eq_true rfl) dX8_issue_26 ⟨Nat.zero_le _, Nat.zero_le _⟩) (fun u_1 H locs hp_3 hw => ?_)
  replace hw : Wd g s A H locs (mX g md mfa mmz msz mnow mgr mmo mre msd mbg mky mli mrf mrn mka mta mwd mms mhs mke msa mkn mkb mku mhp mpa mpb mit mus mid mbe mla msi mtx (wlF (mid i) 2 (upd (upd mra 0 (mkn (mky - 1))) 1 (mus i)) 8)) := hw
  refine lv_aload_n hx hb dX8_issue_29 rfl (lv_at hl 1 rfl) ?_
  refine lv_iload_n hx hb dX8_issue_30 rfl (lv_at hl 0 rfl) ?_
  refine lv_iconst (v := (-1)) hx hb dX8_issue_31 (by decide) ?_
  refine cl_vF hw (rn_VF F hw (c_X8_sealBody_n g l md mfa mmz msz mnow mgr mmo mre msd mbg mky mli mrf mrn mka mta mwd mms mhs mke msa mkn mkb mku mhp mpa mpb mit mus mid mbe mla msi mtx (wlF (mid i) 2 (upd (upd mra 0 (mkn (mky - 1))) 1 (mus i)) 8) (mky - 1) (by omega)) (cw_X8_207 F.2.2.2.2 ⟨by decide, by decide⟩)    0 rfl rfl rfl hl.1 rfl (Nat.le_of_ble_eq_true rfl) dX8_issue_32 ⟨Nat.zero_le _, Nat.zero_le _⟩) (fun u_4 H locs hp_6 hw => ?_)
  replace hw : Wd g s A H locs (mX g md mfa 96 10 mnow mgr mmo mre msd mbg mky mli mrf mrn mka u_4.1 u_4.2.1 u_4.2.2.1 u_4.2.2.2.1 u_4.2.2.2.2.1 u_4.2.2.2.2.2 mkn mkb mku mhp mpa mpb mit mus mid mbe mla msi mtx (wlF (mid i) 2 (upd (upd mra 0 (mkn (mky - 1))) 1 (mus i)) 8)) := hw
  have q1 := hp_6
  refine lv_iconst (v := nI 0) hx hb dX8_issue_35 (by decide) ?_
  refine lv_istore_n (lv' := [(3, .int (nI 0)), (2, .int (nI (mky - 1))), (0, .ref (md 0)), (1, .int (nI i))]) hx hb dX8_issue_36 rfl hl (by decide) rfl (fun ls hl => ?_)
  have L_37 : ∀ (nn a : Nat), a ≤ 12 → 12 < a + nn → ∀ (H : Heap) (locs : List Loc) (ls : Array Slot), Wd g s A H locs (mX g md mfa 96 10 mnow mgr mmo mre msd mbg mky mli mrf mrn mka u_4.1 u_4.2.1 u_4.2.2.1 u_4.2.2.2.1 u_4.2.2.2.2.1 u_4.2.2.2.2.2 mkn mkb mku mhp mpa mpb mit mus mid mbe mla msi mtx (riF u_4.2.2.2.1 (wlF (mid i) 2 (upd (upd mra 0 (mkn (mky - 1))) 1 (mus i)) 8) a)) → lv_has ls 4 [(0, .ref (md 0)), (1, .int (nI i)), (2, .int (nI (mky - 1))), (3, .int (nI a))] → W p l e (rmm 6 142) s m args below meth c H locs 0 0 QQ (F0 m 37 ls []) := by
    intro nn
    induction nn with
    | zero => intro a h1 h2; exact absurd h2 (by omega)
    | succ nn ih =>
      intro a hk_a hn_a H locs ls hw hl
      refine lv_iload_n hx hb dX8_issue_37 rfl (lv_at hl 3 rfl) ?_
      refine lv_bipush (v := nI 12) hx hb dX8_issue_38 (by decide) ?_
      refine n_ge (tgt := 64) hx hb (by omega) (by omega) dX8_issue_40 (by decide) (fun c_40 => ?_) (fun c_40 => ?_)
      · obtain rfl : a = 12 := by omega
        refine lv_iconst (v := nI 0) hx hb dX8_issue_64 (by decide) ?_
        refine lv_istore_n (lv' := [(3, .int (nI 0)), (0, .ref (md 0)), (1, .int (nI i)), (2, .int (nI (mky - 1)))]) hx hb dX8_issue_65 rfl hl (by decide) rfl (fun ls hl => ?_)
        have L_66 : ∀ (nn b : Nat), b ≤ 30 → 30 < b + nn → ∀ (H : Heap) (locs : List Loc) (ls : Array Slot), Wd g s A H locs (mX g md mfa 96 10 mnow mgr mmo mre msd mbg mky mli mrf mrn mka u_4.1 u_4.2.1 u_4.2.2.1 u_4.2.2.2.1 u_4.2.2.2.2.1 u_4.2.2.2.2.2 mkn mkb mku mhp mpa mpb mit mus mid mbe mla msi (ct0 (riF u_4.2.2.2.1 (wlF (mid i) 2 (upd (upd mra 0 (mkn (mky - 1))) 1 (mus i)) 8) 12) mtx b) (riF u_4.2.2.2.1 (wlF (mid i) 2 (upd (upd mra 0 (mkn (mky - 1))) 1 (mus i)) 8) 12)) → lv_has ls 4 [(0, .ref (md 0)), (1, .int (nI i)), (2, .int (nI (mky - 1))), (3, .int (nI b))] → W p l e (rmm 6 142) s m args below meth c H locs 0 0 QQ (F0 m 66 ls []) := by
          intro nn
          induction nn with
          | zero => intro b h1 h2; exact absurd h2 (by omega)
          | succ nn ih =>
            intro b hk_b hn_b H locs ls hw hl
            refine lv_iload_n hx hb dX8_issue_66 rfl (lv_at hl 3 rfl) ?_
            refine lv_bipush (v := nI 30) hx hb dX8_issue_67 (by decide) ?_
            refine n_ge (tgt := 91) hx hb (by omega) (by omega) dX8_issue_69 (by decide) (fun c_69 => ?_) (fun c_69 => ?_)
            · obtain rfl : b = 30 := by omega
              refine lv_aload_n hx hb dX8_issue_91 rfl (lv_at hl 0 rfl) ?_
              refine gf_X8_157 F hw 0 rfl rfl dX8_issue_92 ?_
              refine lv_iconst (v := nI 0) hx hb dX8_issue_95 (by decide) ?_
              refine lv_bipush (v := nI 30) hx hb dX8_issue_96 (by decide) ?_
              refine ia_st F hw 20 rfl (by omega) (by omega) dX8_issue_98 (fun H locs hw => ?_)
              replace hw : Wd g s A H locs (mX g md mfa 96 10 mnow mgr mmo mre msd mbg mky mli mrf mrn mka u_4.1 u_4.2.1 u_4.2.2.1 u_4.2.2.2.1 u_4.2.2.2.2.1 u_4.2.2.2.2.2 mkn mkb mku mhp mpa mpb mit mus mid mbe mla (upd msi 0 (nI 30)) (ct0 (riF u_4.2.2.2.1 (wlF (mid i) 2 (upd (upd mra 0 (mkn (mky - 1))) 1 (mus i)) 8) 12) mtx 30) (riF u_4.2.2.2.1 (wlF (mid i) 2 (upd (upd mra 0 (mkn (mky - 1))) 1 (mus i)) 8) 12)) := hw
              refine lv_aload_n hx hb dX8_issue_99 rfl (lv_at hl 0 rfl) ?_
              refine lv_iload_n hx hb dX8_issue_100 rfl (lv_at hl 2 rfl) ?_
              refine cl_vF hw (rn_VF F hw (c_X8_token g l md mfa 96 10 mnow mgr mmo mre msd mbg mky mli mrf mrn mka u_4.1 u_4.2.1 u_4.2.2.1 u_4.2.2.2.1 u_4.2.2.2.2.1 u_4.2.2.2.2.2 mkn mkb mku mhp mpa mpb mit mus mid mbe mla (upd msi 0 (nI 30)) (ct0 (riF u_4.2.2.2.1 (wlF (mid i) 2 (upd (upd mra 0 (mkn (mky - 1))) 1 (mus i)) 8) 12) mtx 30) (riF u_4.2.2.2.1 (wlF (mid i) 2 (upd (upd mra 0 (mkn (mky - 1))) 1 (mus i)) 8) 12) (mky - 1) (by omega)) (cw_X8_218 F.2.2.2.2 ⟨by decide, by decide⟩)    0 rfl rfl rfl hl.1 rfl (Nat.le_of_ble_eq_true rfl) dX8_issue_101 ⟨Nat.zero_le _, Nat.zero_le _⟩) (fun u_7 H locs hp_9 hw => ?_)
              replace hw : Wd g s A H locs (mX g md mfa 96 11 mnow mgr mmo mre msd mbg mky mli mrf mrn mka u_7.1 u_7.2.1 u_7.2.2.1 u_7.2.2.2.1 u_7.2.2.2.2.1 u_7.2.2.2.2.2.1 mkn mkb mku mhp mpa mpb mit mus mid mbe mla (upd msi 0 (nI 30)) (ct0 (riF u_4.2.2.2.1 (wlF (mid i) 2 (upd (upd mra 0 (mkn (mky - 1))) 1 (mus i)) 8) 12) mtx 30) u_7.2.2.2.2.2.2) := hw
              have q2 := hp_9
              refine lv_iconst (v := nI 0) hx hb dX8_issue_104 (by decide) ?_
              refine lv_istore_n (lv' := [(3, .int (nI 0)), (0, .ref (md 0)), (1, .int (nI i)), (2, .int (nI (mky - 1)))]) hx hb dX8_issue_105 rfl hl (by decide) rfl (fun ls hl => ?_)
              have L_106 : ∀ (nn d : Nat), d ≤ 12 → 12 < d + nn → ∀ (H : Heap) (locs : List Loc) (ls : Array Slot), Wd g s A H locs (mX g md mfa 96 11 mnow mgr mmo mre msd mbg mky mli mrf mrn mka u_7.1 u_7.2.1 u_7.2.2.1 u_7.2.2.2.1 u_7.2.2.2.2.1 u_7.2.2.2.2.2.1 mkn mkb mku mhp mpa mpb mit mus mid mbe mla (upd msi 0 (nI 30)) (ctF u_7.2.2.2.2.2.2 9 40 (ct0 (riF u_4.2.2.2.1 (wlF (mid i) 2 (upd (upd mra 0 (mkn (mky - 1))) 1 (mus i)) 8) 12) mtx 30) d) u_7.2.2.2.2.2.2) → lv_has ls 4 [(0, .ref (md 0)), (1, .int (nI i)), (2, .int (nI (mky - 1))), (3, .int (nI d))] → W p l e (rmm 6 142) s m args below meth c H locs 0 0 QQ (F0 m 106 ls []) := by
                intro nn
                induction nn with
                | zero => intro d h1 h2; exact absurd h2 (by omega)
                | succ nn ih =>
                  intro d hk_d hn_d H locs ls hw hl
                  refine lv_iload_n hx hb dX8_issue_106 rfl (lv_at hl 3 rfl) ?_
                  refine lv_bipush (v := nI 12) hx hb dX8_issue_107 (by decide) ?_
                  refine n_ge (tgt := 134) hx hb (by omega) (by omega) dX8_issue_109 (by decide) (fun c_109 => ?_) (fun c_109 => ?_)
                  · obtain rfl : d = 12 := by omega
                    refine lv_aload_n hx hb dX8_issue_134 rfl (lv_at hl 0 rfl) ?_
                    refine gf_X8_157 F hw 0 rfl rfl dX8_issue_135 ?_
                    refine lv_iconst (v := nI 1) hx hb dX8_issue_138 (by decide) ?_
                    refine lv_bipush (v := nI 12) hx hb dX8_issue_139 (by decide) ?_
                    refine ia_st F hw 20 rfl (by omega) (by omega) dX8_issue_141 (fun H locs hw => ?_)
                    replace hw : Wd g s A H locs (mX g md mfa 96 11 mnow mgr mmo mre msd mbg mky mli mrf mrn mka u_7.1 u_7.2.1 u_7.2.2.1 u_7.2.2.2.1 u_7.2.2.2.2.1 u_7.2.2.2.2.2.1 mkn mkb mku mhp mpa mpb mit mus mid mbe mla (upd (upd msi 0 (nI 30)) 1 (nI 12)) (ctF u_7.2.2.2.2.2.2 9 40 (ct0 (riF u_4.2.2.2.1 (wlF (mid i) 2 (upd (upd mra 0 (mkn (mky - 1))) 1 (mus i)) 8) 12) mtx 30) 12) u_7.2.2.2.2.2.2) := hw
                    exact rt_v F hr hlk hQ hw (u_7.1, u_7.2.1, u_7.2.2.1, u_7.2.2.2.1, u_7.2.2.2.2.1, u_7.2.2.2.2.2.1, u_7.2.2.2.2.2.2, (ctF u_7.2.2.2.2.2.2 9 40 (ct0 (riF u_4.2.2.2.1 (wlF (mid i) 2 (upd (upd mra 0 (mkn (mky - 1))) 1 (mus i)) 8) 12) mtx 30) 12)) (⟨fun j hj => by show ctF _ _ _ _ _ j = _; rw [ctF_get, if_neg (by omega), ct0_F, if_pos hj, cd_congr (ckR_of q1)], fun j hj => by show ctF _ _ _ _ _ (40 + j) = _; rw [ctF_get, if_pos (by omega), show 40 + j - 40 = j by omega, cd_congr (tkR_of q2)]⟩) rfl dX8_issue_142
                  · refine lv_aload_n hx hb dX8_issue_112 rfl (lv_at hl 0 rfl) ?_
                    refine gf_X8_160 F hw 0 rfl rfl dX8_issue_113 ?_
                    refine lv_bipush (v := nI 40) hx hb dX8_issue_116 (by decide) ?_
                    refine lv_iload_n hx hb dX8_issue_118 rfl (lv_at hl 3 rfl) ?_
                    refine n_add hx hb dX8_issue_119 ?_
                    refine lv_aload_n hx hb dX8_issue_120 rfl (lv_at hl 0 rfl) ?_
                    refine lv_iload_n hx hb dX8_issue_121 rfl (lv_at hl 3 rfl) ?_
                    refine lv_bipush (v := nI 9) hx hb dX8_issue_122 (by decide) ?_
                    refine cl_iF hw (rn_VF F hw (c_X8_codedAt g l md mfa 96 11 mnow mgr mmo mre msd mbg mky mli mrf mrn mka u_7.1 u_7.2.1 u_7.2.2.1 u_7.2.2.2.1 u_7.2.2.2.2.1 u_7.2.2.2.2.2.1 mkn mkb mku mhp mpa mpb mit mus mid mbe mla (upd msi 0 (nI 30)) (ctF u_7.2.2.2.2.2.2 9 40 (ct0 (riF u_4.2.2.2.1 (wlF (mid i) 2 (upd (upd mra 0 (mkn (mky - 1))) 1 (mus i)) 8) 12) mtx 30) d) u_7.2.2.2.2.2.2 d 9 (by omega) (by omega)) (cw_X8_215 F.2.2.2.2 ⟨by decide, by decide⟩)    0 rfl rfl rfl hl.1 rfl (Nat.le_of_ble_eq_true rfl) dX8_issue_124 ⟨Nat.zero_le _, Nat.zero_le _⟩) (fun v_11 u_10 H locs hp_12 hw => ?_)
                    subst hp_12
                    replace hw : Wd g s A H locs (mX g md mfa 96 11 mnow mgr mmo mre msd mbg mky mli mrf mrn mka u_7.1 u_7.2.1 u_7.2.2.1 u_7.2.2.2.1 u_7.2.2.2.2.1 u_7.2.2.2.2.2.1 mkn mkb mku mhp mpa mpb mit mus mid mbe mla (upd msi 0 (nI 30)) (ctF u_7.2.2.2.2.2.2 9 40 (ct0 (riF u_4.2.2.2.1 (wlF (mid i) 2 (upd (upd mra 0 (mkn (mky - 1))) 1 (mus i)) 8) 12) mtx 30) d) u_7.2.2.2.2.2.2) := hw
                    refine ia_st F hw 21 rfl (by omega) (by omega) dX8_issue_127 (fun H locs hw => ?_)
                    replace hw : Wd g s A H locs (mX g md mfa 96 11 mnow mgr mmo mre msd mbg mky mli mrf mrn mka u_7.1 u_7.2.1 u_7.2.2.1 u_7.2.2.2.1 u_7.2.2.2.2.1 u_7.2.2.2.2.2.1 mkn mkb mku mhp mpa mpb mit mus mid mbe mla (upd msi 0 (nI 30)) (upd (ctF u_7.2.2.2.2.2.2 9 40 (ct0 (riF u_4.2.2.2.1 (wlF (mid i) 2 (upd (upd mra 0 (mkn (mky - 1))) 1 (mus i)) 8) 12) mtx 30) d) (40 + d) (kA (cdV u_7.2.2.2.2.2.2 9 d 6))) u_7.2.2.2.2.2.2) := hw
                    refine lv_iinc (v := nI (d + 1)) (lv' := [(3, .int (nI (d + 1))), (0, .ref (md 0)), (1, .int (nI i)), (2, .int (nI (mky - 1)))]) hx hb dX8_issue_128 hl (k := 3) rfl (inc_n _ 1) (by decide) rfl (fun ls hl => ?_)
                    refine lv_goto (tgt := 106) hx hb dX8_issue_131 (by decide) ?_
                    exact ih (d + 1) (by omega) (by omega) _ _ _ hw (lv_sub hl [1, 2, 3, 0] rfl)
              exact L_106 (12 + 1) 0 (by omega) (by omega) _ _ _ hw (lv_sub hl [1, 2, 3, 0] rfl)
            · refine lv_aload_n hx hb dX8_issue_72 rfl (lv_at hl 0 rfl) ?_
              refine gf_X8_160 F hw 0 rfl rfl dX8_issue_73 ?_
              refine lv_iload_n hx hb dX8_issue_76 rfl (lv_at hl 3 rfl) ?_
              refine lv_aload_n hx hb dX8_issue_77 rfl (lv_at hl 0 rfl) ?_
              refine lv_iload_n hx hb dX8_issue_78 rfl (lv_at hl 3 rfl) ?_
              refine lv_bipush (v := nI 22) hx hb dX8_issue_79 (by decide) ?_
              refine cl_iF hw (rn_VF F hw (c_X8_codedAt g l md mfa 96 10 mnow mgr mmo mre msd mbg mky mli mrf mrn mka u_4.1 u_4.2.1 u_4.2.2.1 u_4.2.2.2.1 u_4.2.2.2.2.1 u_4.2.2.2.2.2 mkn mkb mku mhp mpa mpb mit mus mid mbe mla msi (ct0 (riF u_4.2.2.2.1 (wlF (mid i) 2 (upd (upd mra 0 (mkn (mky - 1))) 1 (mus i)) 8) 12) mtx b) (riF u_4.2.2.2.1 (wlF (mid i) 2 (upd (upd mra 0 (mkn (mky - 1))) 1 (mus i)) 8) 12) b 22 (by omega) (by omega)) (cw_X8_215 F.2.2.2.2 ⟨by decide, by decide⟩)    0 rfl rfl rfl hl.1 rfl (Nat.le_of_ble_eq_true rfl) dX8_issue_81 ⟨Nat.zero_le _, Nat.zero_le _⟩) (fun v_14 u_13 H locs hp_15 hw => ?_)
              subst hp_15
              replace hw : Wd g s A H locs (mX g md mfa 96 10 mnow mgr mmo mre msd mbg mky mli mrf mrn mka u_4.1 u_4.2.1 u_4.2.2.1 u_4.2.2.2.1 u_4.2.2.2.2.1 u_4.2.2.2.2.2 mkn mkb mku mhp mpa mpb mit mus mid mbe mla msi (ct0 (riF u_4.2.2.2.1 (wlF (mid i) 2 (upd (upd mra 0 (mkn (mky - 1))) 1 (mus i)) 8) 12) mtx b) (riF u_4.2.2.2.1 (wlF (mid i) 2 (upd (upd mra 0 (mkn (mky - 1))) 1 (mus i)) 8) 12)) := hw
              refine ia_st F hw 21 rfl (by omega) (by omega) dX8_issue_84 (fun H locs hw => ?_)
              replace hw : Wd g s A H locs (mX g md mfa 96 10 mnow mgr mmo mre msd mbg mky mli mrf mrn mka u_4.1 u_4.2.1 u_4.2.2.1 u_4.2.2.2.1 u_4.2.2.2.2.1 u_4.2.2.2.2.2 mkn mkb mku mhp mpa mpb mit mus mid mbe mla msi (upd (ct0 (riF u_4.2.2.2.1 (wlF (mid i) 2 (upd (upd mra 0 (mkn (mky - 1))) 1 (mus i)) 8) 12) mtx b) b (kA (cdV (riF u_4.2.2.2.1 (wlF (mid i) 2 (upd (upd mra 0 (mkn (mky - 1))) 1 (mus i)) 8) 12) 22 b 6))) (riF u_4.2.2.2.1 (wlF (mid i) 2 (upd (upd mra 0 (mkn (mky - 1))) 1 (mus i)) 8) 12)) := hw
              refine lv_iinc (v := nI (b + 1)) (lv' := [(3, .int (nI (b + 1))), (0, .ref (md 0)), (1, .int (nI i)), (2, .int (nI (mky - 1)))]) hx hb dX8_issue_85 hl (k := 3) rfl (inc_n _ 1) (by decide) rfl (fun ls hl => ?_)
              refine lv_goto (tgt := 66) hx hb dX8_issue_88 (by decide) ?_
              exact ih (b + 1) (by omega) (by omega) _ _ _ hw (lv_sub hl [1, 2, 3, 0] rfl)
        exact L_66 (30 + 1) 0 (by omega) (by omega) _ _ _ hw (lv_sub hl [1, 2, 3, 0] rfl)
      · refine lv_aload_n hx hb dX8_issue_43 rfl (lv_at hl 0 rfl) ?_
        refine gf_X8_163 F hw 0 rfl rfl dX8_issue_44 ?_
        refine lv_bipush (v := nI 10) hx hb dX8_issue_47 (by decide) ?_
        refine lv_iload_n hx hb dX8_issue_49 rfl (lv_at hl 3 rfl) ?_
        refine n_add hx hb dX8_issue_50 ?_
        refine lv_aload_n hx hb dX8_issue_51 rfl (lv_at hl 0 rfl) ?_
        refine gf_X8_97 F hw 0 rfl rfl dX8_issue_52 ?_
        refine lv_iload_n hx hb dX8_issue_55 rfl (lv_at hl 3 rfl) ?_
        refine ia_ld F hw 6 rfl (by omega) (by omega) dX8_issue_56 ?_
        refine ia_st F hw 22 rfl (by omega) (by omega) dX8_issue_57 (fun H locs hw => ?_)
        replace hw : Wd g s A H locs (mX g md mfa 96 10 mnow mgr mmo mre msd mbg mky mli mrf mrn mka u_4.1 u_4.2.1 u_4.2.2.1 u_4.2.2.2.1 u_4.2.2.2.2.1 u_4.2.2.2.2.2 mkn mkb mku mhp mpa mpb mit mus mid mbe mla msi mtx (upd (riF u_4.2.2.2.1 (wlF (mid i) 2 (upd (upd mra 0 (mkn (mky - 1))) 1 (mus i)) 8) a) (10 + a) (u_4.2.2.2.1 a))) := hw
        refine lv_iinc (v := nI (a + 1)) (lv' := [(3, .int (nI (a + 1))), (0, .ref (md 0)), (1, .int (nI i)), (2, .int (nI (mky - 1)))]) hx hb dX8_issue_58 hl (k := 3) rfl (inc_n _ 1) (by decide) rfl (fun ls hl => ?_)
        refine lv_goto (tgt := 37) hx hb dX8_issue_61 (by decide) ?_
        exact ih (a + 1) (by omega) (by omega) _ _ _ hw (lv_sub hl [1, 2, 3, 0] rfl)
  exact L_37 (12 + 1) 0 (by omega) (by omega) _ _ _ hw (lv_sub hl [2, 3, 1, 0] rfl)
