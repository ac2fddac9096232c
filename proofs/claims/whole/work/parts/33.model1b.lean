set_option maxHeartbeats 4000000 in
set_option maxRecDepth 100000 in
theorem c_X8_say (g : GG) (l : Launch) (md : Nat → Nat) (mfa : Int32) (mmz : Nat) (msz : Nat) (mnow : Int64) (mgr : Int64) (mmo : Int64) (mre : Int64) (msd : Int64) (mbg : Int64) (mky : Nat) (mli : Int32) (mrf : Int32) (mrn : Int32) (mka : Int32) (mta : Nat → Int32) (mwd : Nat → Int32) (mms : Nat → Int32) (mhs : Nat → Int32) (mke : Nat → Int32) (msa : Nat → Int32) (mkn : Nat → Int32) (mkb : Nat → Int32) (mku : Nat → Int64) (mhp : Nat → Int32) (mpa : Nat → Int32) (mpb : Nat → Int32) (mit : Nat → Int32) (mus : Nat → Int32) (mid : Nat → Int64) (mbe : Nat → Int64) (mla : Nat → Int64) (msi : Nat → Int32) (mtx : Nat → Int32) (mra : Nat → Int32) (x : Int32) (hsz : msz < 64) : Ct g l yX8_say cX8_say 2 none 0 0 [.ref (md 0), .int x] (mX g md mfa mmz msz mnow mgr mmo mre msd mbg mky mli mrf mrn mka mta mwd mms mhs mke msa mkn mkb mku mhp mpa mpb mit mus mid mbe mla msi mtx mra) (Rv g (fun (u : Unit) => True) (fun (u : Unit) => (mX g md mfa mmz (msz + 1) mnow mgr mmo mre msd mbg mky mli mrf mrn mka mta mwd mms mhs mke (upd msa msz (x &&& nI 255)) mkn mkb mku mhp mpa mpb mit mus mid mbe mla msi mtx mra))) := by
  refine mkC (by decide) (Nat.le_of_ble_eq_true rfl) ?_
  intro p e s m args below meth c A ls QQ F hr hlk hnm hQ hw hl
  have hx := F.1
  have hb := F.2.1
  replace hl : lv_has ls 2 [(0, .ref (md 0)), (1, .int x)] := hl
  refine lv_aload_n hx hb dX8_say_0 rfl (lv_at hl 0 rfl) ?_
  refine gf_X8_103 F hw 0 rfl rfl dX8_say_1 ?_
  refine lv_aload_n hx hb dX8_say_4 rfl (lv_at hl 0 rfl) ?_
  refine gf_X8_180 F hw 0 rfl rfl dX8_say_5 ?_
  refine lv_iload_n hx hb dX8_say_8 rfl (lv_at hl 1 rfl) ?_
  refine lv_sipush (v := nI 255) hx hb dX8_say_9 (by decide) ?_
  refine lv_iand hx hb dX8_say_12 ?_
  refine ia_st F hw 8 rfl (by omega) (by omega) dX8_say_13 (fun H locs hw => ?_)
  replace hw : Wd g s A H locs (mX g md mfa mmz msz mnow mgr mmo mre msd mbg mky mli mrf mrn mka mta mwd mms mhs mke (upd msa msz (x &&& (nI 255))) mkn mkb mku mhp mpa mpb mit mus mid mbe mla msi mtx mra) := hw
  refine lv_aload_n hx hb dX8_say_14 rfl (lv_at hl 0 rfl) ?_
  refine lv_dup hx hb dX8_say_15 rfl ?_
  refine gf_X8_180 F hw 0 rfl rfl dX8_say_16 ?_
  refine lv_iconst (v := nI 1) hx hb dX8_say_19 (by decide) ?_
  refine n_add hx hb dX8_say_20 ?_
  refine pf_X8_180 F hw 0 rfl (Nat.le_of_ble_eq_true rfl) rfl rfl dX8_say_21 (fun H locs hw => ?_)
  replace hw : Wd g s A H locs (mX g md mfa mmz (msz + 1) mnow mgr mmo mre msd mbg mky mli mrf mrn mka mta mwd mms mhs mke (upd msa msz (x &&& (nI 255))) mkn mkb mku mhp mpa mpb mit mus mid mbe mla msi mtx mra) := hw
  exact rt_v F hr hlk hQ hw () trivial rfl dX8_say_24
def tkF (kb : Nat → Int32) (k : Nat) (f0 : Nat → Int32) : Nat → Nat → Int32
  | 0 => f0
  | i + 1 => upd (tkF kb k f0 i) i (if i < 16 then kb (16 * k + i) else nI 0)
theorem tk_t {kb : Nat → Int32} {k : Nat} {f0 : Nat → Int32} {i : Nat} (h : i < 16) : tkF kb k f0 (i + 1) = upd (tkF kb k f0 i) i (kb (16 * k + i)) := by simp only [tkF, h, if_true]
theorem tk_f {kb : Nat → Int32} {k : Nat} {f0 : Nat → Int32} {i : Nat} (h : 16 ≤ i) : tkF kb k f0 (i + 1) = upd (tkF kb k f0 i) i (nI 0) := by simp only [tkF, Nat.not_lt.mpr h, if_false]
theorem tkF_get (kb : Nat → Int32) (k : Nat) (f0 : Nat → Int32) : ∀ i t, t < i → tkF kb k f0 i t = if t < 16 then kb (16 * k + t) else nI 0 := by
  intro i
  induction i with
  | zero => intro t h; omega
  | succ i ih =>
    intro t h
    show upd (tkF kb k f0 i) i _ t = _
    by_cases e : t = i
    · subst e; rw [upd_s]
    · rw [upd_n _ _ e]; exact ih t (by omega)
set_option maxHeartbeats 4000000 in
set_option maxRecDepth 100000 in
theorem c_X8_takeKey (g : GG) (l : Launch) (md : Nat → Nat) (mfa : Int32) (mmz : Nat) (msz : Nat) (mnow : Int64) (mgr : Int64) (mmo : Int64) (mre : Int64) (msd : Int64) (mbg : Int64) (mky : Nat) (mli : Int32) (mrf : Int32) (mrn : Int32) (mka : Int32) (mta : Nat → Int32) (mwd : Nat → Int32) (mms : Nat → Int32) (mhs : Nat → Int32) (mke : Nat → Int32) (msa : Nat → Int32) (mkn : Nat → Int32) (mkb : Nat → Int32) (mku : Nat → Int64) (mhp : Nat → Int32) (mpa : Nat → Int32) (mpb : Nat → Int32) (mit : Nat → Int32) (mus : Nat → Int32) (mid : Nat → Int64) (mbe : Nat → Int64) (mla : Nat → Int64) (msi : Nat → Int32) (mtx : Nat → Int32) (mra : Nat → Int32) (k : Nat) (hk : k < 5) : Ct g l yX8_takeKey cX8_takeKey 3 none 0 0 [.ref (md 0), .int (nI k)] (mX g md mfa mmz msz mnow mgr mmo mre msd mbg mky mli mrf mrn mka mta mwd mms mhs mke msa mkn mkb mku mhp mpa mpb mit mus mid mbe mla msi mtx mra) (Rv g (fun (u : Unit) => True) (fun (u : Unit) => (mX g md mfa mmz msz mnow mgr mmo mre msd mbg mky mli mrf mrn mka mta mwd mms mhs (tkF mkb k mke 64) msa mkn mkb mku mhp mpa mpb mit mus mid mbe mla msi mtx mra))) := by
  refine mkC (by decide) (Nat.le_of_ble_eq_true rfl) ?_
  intro p e s m args below meth c A ls QQ F hr hlk hnm hQ hw hl
  have hx := F.1
  have hb := F.2.1
  replace hl : lv_has ls 3 [(0, .ref (md 0)), (1, .int (nI k))] := hl
  refine lv_iconst (v := nI 0) hx hb dX8_takeKey_0 (by decide) ?_
  refine lv_istore_n (lv' := [(2, .int (nI 0)), (0, .ref (md 0)), (1, .int (nI k))]) hx hb dX8_takeKey_1 rfl hl (by decide) rfl (fun ls hl => ?_)
  have L_2 : ∀ (nn i : Nat), i ≤ 64 → 64 < i + nn → ∀ (H : Heap) (locs : List Loc) (ls : Array Slot), Wd g s A H locs (mX g md mfa mmz msz mnow mgr mmo mre msd mbg mky mli mrf mrn mka mta mwd mms mhs (tkF mkb k mke i) msa mkn mkb mku mhp mpa mpb mit mus mid mbe mla msi mtx mra) → lv_has ls 3 [(0, .ref (md 0)), (1, .int (nI k)), (2, .int (nI i))] → W p l e (rmm 0 0) s m args below meth c H locs 0 0 QQ (F0 m 2 ls []) := by
    intro nn
    induction nn with
    | zero => intro i h1 h2; exact absurd h2 (by omega)
    | succ nn ih =>
      intro i hk_i hn_i H locs ls hw hl
      refine lv_iload_n hx hb dX8_takeKey_2 rfl (lv_at hl 2 rfl) ?_
      refine lv_bipush (v := nI 64) hx hb dX8_takeKey_3 (by decide) ?_
      refine n_ge (tgt := 41) hx hb (by omega) (by omega) dX8_takeKey_5 (by decide) (fun c_5 => ?_) (fun c_5 => ?_)
      · obtain rfl : i = 64 := by omega
        exact rt_v F hr hlk hQ hw () trivial rfl dX8_takeKey_41
      · refine lv_aload_n hx hb dX8_takeKey_8 rfl (lv_at hl 0 rfl) ?_
        refine gf_X8_100 F hw 0 rfl rfl dX8_takeKey_9 ?_
        refine lv_iload_n hx hb dX8_takeKey_12 rfl (lv_at hl 2 rfl) ?_
        refine lv_iload_n hx hb dX8_takeKey_13 rfl (lv_at hl 2 rfl) ?_
        refine lv_bipush (v := nI 16) hx hb dX8_takeKey_14 (by decide) ?_
        refine n_ge (tgt := 33) hx hb (by omega) (by omega) dX8_takeKey_16 (by decide) (fun c_16 => ?_) (fun c_16 => ?_)
        · refine lv_iconst (v := nI 0) hx hb dX8_takeKey_33 (by decide) ?_
          refine ia_st F hw 7 rfl (by omega) (by omega) dX8_takeKey_34 (fun H locs hw => ?_)
          replace hw : Wd g s A H locs (mX g md mfa mmz msz mnow mgr mmo mre msd mbg mky mli mrf mrn mka mta mwd mms mhs (upd (tkF mkb k mke i) i (nI 0)) msa mkn mkb mku mhp mpa mpb mit mus mid mbe mla msi mtx mra) := hw
          refine lv_iinc (v := nI (i + 1)) (lv' := [(2, .int (nI (i + 1))), (0, .ref (md 0)), (1, .int (nI k))]) hx hb dX8_takeKey_35 hl (k := 2) rfl (inc_n _ 1) (by decide) rfl (fun ls hl => ?_)
          refine lv_goto (tgt := 2) hx hb dX8_takeKey_38 (by decide) ?_
          exact ih (i + 1) (by omega) (by omega) _ _ _ (by first | (rw [tk_t c_16]; exact hw) | (rw [tk_f c_16]; exact hw)) (lv_sub hl [1, 2, 0] rfl)
        · refine lv_aload_n hx hb dX8_takeKey_19 rfl (lv_at hl 0 rfl) ?_
          refine gf_X8_125 F hw 0 rfl rfl dX8_takeKey_20 ?_
          refine lv_bipush (v := nI 16) hx hb dX8_takeKey_23 (by decide) ?_
          refine lv_iload_n hx hb dX8_takeKey_25 rfl (lv_at hl 1 rfl) ?_
          refine n_mul hx hb dX8_takeKey_26 ?_
          refine lv_iload_n hx hb dX8_takeKey_27 rfl (lv_at hl 2 rfl) ?_
          refine n_add hx hb dX8_takeKey_28 ?_
          refine ia_ld F hw 10 rfl (by omega) (by omega) dX8_takeKey_29 ?_
          refine lv_goto (tgt := 34) hx hb dX8_takeKey_30 (by decide) ?_
          refine ia_st F hw 7 rfl (by omega) (by omega) dX8_takeKey_34 (fun H locs hw => ?_)
          replace hw : Wd g s A H locs (mX g md mfa mmz msz mnow mgr mmo mre msd mbg mky mli mrf mrn mka mta mwd mms mhs (upd (tkF mkb k mke i) i (mkb ((16 * k) + i))) msa mkn mkb mku mhp mpa mpb mit mus mid mbe mla msi mtx mra) := hw
          refine lv_iinc (v := nI (i + 1)) (lv' := [(2, .int (nI (i + 1))), (0, .ref (md 0)), (1, .int (nI k))]) hx hb dX8_takeKey_35 hl (k := 2) rfl (inc_n _ 1) (by decide) rfl (fun ls hl => ?_)
          refine lv_goto (tgt := 2) hx hb dX8_takeKey_38 (by decide) ?_
          exact ih (i + 1) (by omega) (by omega) _ _ _ (by first | (rw [tk_t c_16]; exact hw) | (rw [tk_f c_16]; exact hw)) (lv_sub hl [1, 2, 0] rfl)
  exact L_2 (64 + 1) 0 (by omega) (by omega) _ _ _ hw (lv_sub hl [1, 2, 0] rfl)
def xrF (ke : Nat → Int32) (pad : Int32) (f0 : Nat → Int32) : Nat → Nat → Int32
  | 0 => f0
  | k + 1 => upd (xrF ke pad f0 k) k (ke k ^^^ pad)
def cyF (sa : Nat → Int32) (f0 : Nat → Int32) : Nat → Nat → Int32
  | 0 => f0
  | k + 1 => upd (cyF sa f0 k) (64 + k) (sa k)
theorem xrF_get (ke : Nat → Int32) (pad : Int32) (f0 : Nat → Int32) : ∀ k t, t < k → xrF ke pad f0 k t = ke t ^^^ pad := by
  intro k
  induction k with
  | zero => intro t h; omega
  | succ k ih =>
    intro t h
    show upd (xrF ke pad f0 k) k _ t = _
    by_cases e : t = k
    · subst e; rw [upd_s]
    · rw [upd_n _ _ e]; exact ih t (by omega)
theorem cyF_get (sa f0 : Nat → Int32) : ∀ k t, cyF sa f0 k t = if 64 ≤ t ∧ t < 64 + k then sa (t - 64) else f0 t := by
  intro k
  induction k with
  | zero => intro t; rw [if_neg (by omega)]; rfl
  | succ k ih =>
    intro t
    show upd (cyF sa f0 k) (64 + k) (sa k) t = _
    by_cases e : t = 64 + k
    · subst e; rw [upd_s, if_pos (by omega), show 64 + k - 64 = k by omega]
    · rw [upd_n _ _ e, ih t]
      by_cases h : 64 ≤ t ∧ t < 64 + k
      · rw [if_pos h, if_pos (by omega)]
      · rw [if_neg h, if_neg (by omega)]
theorem lbV_lo : ∀ n, n ≤ 104 → ∀ k, k < 6 → lbV n k = nI 0 := by decide +kernel
theorem lbV_6 : ∀ n, n ≤ 104 → lbV n 6 = ushr (nI (8 * n)) (nI 8) := by decide +kernel
theorem lbV_7 : ∀ n, n ≤ 104 → lbV n 7 = nI (8 * n) &&& nI 255 := by decide +kernel
theorem seal_blk {ke sa f0 : Nat → Int32} {pad : Int32} {n : Nat} (hn : n ≤ 40) : ∀ t, t < 128 → padM (cyF sa (xrF ke pad f0 64) n) (64 + n) t = blk ke 64 pad sa n t := by
  intro t ht
  unfold padM blk
  by_cases a0 : t < 64
  · rw [if_pos a0, if_pos a0, if_neg (by omega), if_neg (by omega), if_neg (by omega), cyF_get, if_neg (by omega), xrF_get _ _ _ 64 t a0]
  · rw [if_neg a0]
    by_cases a1 : t = 127
    · subst a1; rw [if_pos (by omega), if_pos rfl]; exact lbV_7 (64 + n) (by omega)
    · rw [if_neg a1]
      by_cases a2 : t = 126
      · subst a2; rw [if_pos (by omega), if_pos rfl]; exact lbV_6 (64 + n) (by omega)
      · rw [if_neg a2]
        by_cases a3 : 120 ≤ t
        · rw [if_pos a3, if_neg (by omega), if_neg (by omega)]; exact lbV_lo (64 + n) (by omega) _ (by omega)
        · rw [if_neg a3]
          by_cases a4 : t = 64 + n
          · rw [if_pos a4, if_neg (by omega), if_pos a4]
          · rw [if_neg a4]
            by_cases a5 : t - 64 < n
            · rw [if_pos a5, if_neg (by omega), if_neg a4, cyF_get, if_pos (by omega)]
            · rw [if_pos (show 64 + n < t by omega), if_neg a4, if_neg a5]
theorem seal_of {ke sa f0 h1 u1 u2 : Nat → Int32} {n : Nat} (hn : n ≤ 40) (e1 : ∀ j, j < 32 → h1 j = hsh (padM (cyF sa (xrF ke (nI 54) f0 64) n) (64 + n)) j) (e2 : ∀ j, j < 32 → u2 j = hsh (padM (cyF h1 (xrF ke (nI 92) u1 64) 32) 96) j) : ∀ j, j < 32 → u2 j = hmac ke 64 sa n j := by
  intro j hj
  rw [e2 j hj]
  unfold hmac
  refine hsh_congr (fun i hi => ?_) j hj
  rw [seal_blk (n := 32) (by omega) i hi]
  refine blk_congr (fun q hq => ?_) i
  rw [e1 q hq]
  exact hsh_congr (seal_blk hn) q hq
