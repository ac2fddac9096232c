def lmP (ky : Nat) (ku : Nat → Int64) (now gr : Int64) (kn : Nat → Int32) (x : Int32) (k : Nat) : Prop := ¬ lvM ky ku now gr k = 0 ∧ kn k = x
def kaM (ky : Nat) (ku : Nat → Int64) (now gr : Int64) (kn : Nat → Int32) (x : Int32) : Nat → Int32
  | 0 => (-1)
  | k + 1 => if lvM ky ku now gr k = 0 then kaM ky ku now gr kn x k else if kn k = x then nI k else kaM ky ku now gr kn x k
section
variable {ky : Nat} {ku : Nat → Int64} {now gr : Int64} {kn : Nat → Int32} {x : Int32} {k : Nat}
theorem ka_0 (h : lvM ky ku now gr k = 0) : kaM ky ku now gr kn x (k + 1) = kaM ky ku now gr kn x k := if_pos h
theorem ka_1 (h : ¬ lvM ky ku now gr k = 0) (h1 : ¬ kn k = x) : kaM ky ku now gr kn x (k + 1) = kaM ky ku now gr kn x k := (if_neg h).trans (if_neg h1)
theorem ka_2 (h : ¬ lvM ky ku now gr k = 0) (h1 : kn k = x) : kaM ky ku now gr kn x (k + 1) = nI k := (if_neg h).trans (if_pos h1)
end
theorem ka_all (ky : Nat) (ku : Nat → Int64) (now gr : Int64) (kn : Nat → Int32) (x : Int32) : ∀ k, (kaM ky ku now gr kn x k = (-1) ∧ ∀ t, t < k → ¬ lmP ky ku now gr kn x t) ∨ (∃ n, n < k ∧ kaM ky ku now gr kn x k = nI n ∧ lmP ky ku now gr kn x n) := by
  intro k
  induction k with
  | zero => exact Or.inl ⟨rfl, fun t h => absurd h (Nat.not_lt_zero t)⟩
  | succ k ih =>
    by_cases h : lvM ky ku now gr k = 0
    · rw [ka_0 h]
      rcases ih with ⟨q1, q2⟩ | ⟨n, h1, q1, q2⟩
      · exact Or.inl ⟨q1, lt_s q2 (fun z => z.1 h)⟩
      · exact Or.inr ⟨n, by omega, q1, q2⟩
    · by_cases h1 : kn k = x
      · exact Or.inr ⟨k, by omega, ka_2 h h1, h, h1⟩
      · rw [ka_1 h h1]
        rcases ih with ⟨q1, q2⟩ | ⟨n, h1, q1, q2⟩
        · exact Or.inl ⟨q1, lt_s q2 (fun z => h1 z.2)⟩
        · exact Or.inr ⟨n, by omega, q1, q2⟩
theorem ka_nat {ky : Nat} {ku : Nat → Int64} {now gr : Int64} {kn : Nat → Int32} {x : Int32} {k : Nat} (h : 0 ≤ kaM ky ku now gr kn x k) : ∃ n, n < k ∧ kaM ky ku now gr kn x k = nI n ∧ lmP ky ku now gr kn x n := by
  rcases ka_all ky ku now gr kn x k with ⟨q1, q2⟩ | q
  · rw [q1] at h; exact absurd h (by decide)
  · exact q
theorem ka_no {ky : Nat} {ku : Nat → Int64} {now gr : Int64} {kn : Nat → Int32} {x : Int32} {k : Nat} (hk : k ≤ 5) (h : ¬ 0 ≤ kaM ky ku now gr kn x k) : ∀ t, t < k → ¬ lmP ky ku now gr kn x t := by
  rcases ka_all ky ku now gr kn x k with ⟨q1, q2⟩ | ⟨n, h1, q1, q2⟩
  · exact q2
  · rw [q1] at h; exact absurd (nI_pos' (by omega)) h
def fdM (it us : Nat → Int32) (id : Nat → Int64) (x : Int32) (y : Int64) : Nat → Int32
  | 0 => (-1)
  | j + 1 => if it (7 - j) = 0 then fdM it us id x y j else if id (7 - j) = y then (if us (7 - j) = x then nI (7 - j) else fdM it us id x y j) else fdM it us id x y j
section
variable {it us : Nat → Int32} {id : Nat → Int64} {x : Int32} {y : Int64} {j : Nat}
theorem fd_0 (h : it (7 - j) = 0) : fdM it us id x y (j + 1) = fdM it us id x y j := if_pos h
theorem fd_1 (h : ¬ it (7 - j) = 0) (h1 : ¬ id (7 - j) = y) : fdM it us id x y (j + 1) = fdM it us id x y j := (if_neg h).trans (if_neg h1)
theorem fd_2 (h : ¬ it (7 - j) = 0) (h1 : id (7 - j) = y) (h2 : ¬ us (7 - j) = x) : fdM it us id x y (j + 1) = fdM it us id x y j := (if_neg h).trans ((if_pos h1).trans (if_neg h2))
theorem fd_3 (h : ¬ it (7 - j) = 0) (h1 : id (7 - j) = y) (h2 : us (7 - j) = x) : fdM it us id x y (j + 1) = nI (7 - j) := (if_neg h).trans ((if_pos h1).trans (if_pos h2))
end
theorem fd_all (it us : Nat → Int32) (id : Nat → Int64) (x : Int32) (y : Int64) : ∀ j, j ≤ 8 → (fdM it us id x y j = (-1) ∧ ∀ t, 8 - j ≤ t → t < 8 → ¬ nfP it us id x y t) ∨ (∃ n, 8 - j ≤ n ∧ n < 8 ∧ fdM it us id x y j = nI n ∧ nfP it us id x y n ∧ ∀ t, 8 - j ≤ t → t < n → ¬ nfP it us id x y t) := by
  intro j
  induction j with
  | zero => intro _; exact Or.inl ⟨rfl, fun t h1 h2 => absurd h1 (by omega)⟩
  | succ j ih =>
    intro hj
    have key : ¬ nfP it us id x y (7 - j) → fdM it us id x y (j + 1) = fdM it us id x y j → (fdM it us id x y (j + 1) = (-1) ∧ ∀ t, 8 - (j + 1) ≤ t → t < 8 → ¬ nfP it us id x y t) ∨ (∃ n, 8 - (j + 1) ≤ n ∧ n < 8 ∧ fdM it us id x y (j + 1) = nI n ∧ nfP it us id x y n ∧ ∀ t, 8 - (j + 1) ≤ t → t < n → ¬ nfP it us id x y t) := by
      intro h e
      rcases ih (by omega) with ⟨q1, q2⟩ | ⟨n, h1, h2, q1, q2, q3⟩
      · refine Or.inl ⟨e.trans q1, fun t t1 t2 => ?_⟩
        by_cases z : t = 7 - j
        · subst z; exact h
        · exact q2 t (by omega) t2
      · refine Or.inr ⟨n, by omega, h2, e.trans q1, q2, fun t t1 t2 => ?_⟩
        by_cases z : t = 7 - j
        · subst z; exact h
        · exact q3 t (by omega) t2
    by_cases h : it (7 - j) = 0
    · exact key (fun z => z.1 h) (fd_0 h)
    · by_cases h1 : id (7 - j) = y
      · by_cases h2 : us (7 - j) = x
        · exact Or.inr ⟨7 - j, by omega, by omega, fd_3 h h1 h2, ⟨h, h2, h1⟩, fun t t1 t2 => absurd t1 (by omega)⟩
        · exact key (fun z => h2 z.2.1) (fd_2 h h1 h2)
      · exact key (fun z => h1 z.2.2) (fd_1 h h1)
theorem fd_nat {it us : Nat → Int32} {id : Nat → Int64} {x : Int32} {y : Int64} (h : 0 ≤ fdM it us id x y 8) : ∃ n, n < 8 ∧ fdM it us id x y 8 = nI n ∧ nfP it us id x y n ∧ ∀ t, t < n → ¬ nfP it us id x y t := by
  rcases fd_all it us id x y 8 (by omega) with ⟨q1, q2⟩ | ⟨n, h1, h2, q1, q2, q3⟩
  · rw [q1] at h; exact absurd h (by decide)
  · exact ⟨n, h2, q1, q2, fun t ht => q3 t (by omega) ht⟩
theorem fd_no {it us : Nat → Int32} {id : Nat → Int64} {x : Int32} {y : Int64} (h : ¬ 0 ≤ fdM it us id x y 8) : ∀ t, t < 8 → ¬ nfP it us id x y t := by
  rcases fd_all it us id x y 8 (by omega) with ⟨q1, q2⟩ | ⟨n, h1, h2, q1, q2, q3⟩
  · exact fun t ht => q2 t (by omega) ht
  · rw [q1] at h; exact absurd (nI_pos' (by omega)) h
/-- the bytes of a cookie as the reference reads them -/
def rbM (tx ra : Nat → Int32) : Nat → Int32 := roB tx (zzF ra 24) 30
def slM (kf R : Nat → Int32) : Prop := ∀ i, i < 12 → hmac kf 16 (rw8 R) 10 i = R (10 + i)
def smM (s1 : Nat) (tx kf R : Nat → Int32) : Prop := s1 = 12 ∧ ∀ t, t < 12 → tx (40 + t) = kA (cdV (hmac kf 16 (tkm (rw8 R)) 11) 9 t 6)
/-- what look finds -/
def mjP (s0 s1 ky : Nat) (tx ra kn kb : Nat → Int32) (ku : Nat → Int64) (it us : Nat → Int32) (id be la : Nat → Int64) (now gr mo re : Int64) (ch v ka2 : Int32) (i2 : Nat → Int32) : Prop :=
  (¬ isFM s0 tx ra ∧ v = (-2) ∧ i2 = it) ∨
  (isFM s0 tx ra ∧ (∀ j, j < ky → ¬ lmP ky ku now gr kn (rbM tx ra 0) j) ∧ v = (-3) ∧ i2 = it) ∨
  (isFM s0 tx ra ∧ ∃ k, k < ky ∧ lmP ky ku now gr kn (rbM tx ra 0) k ∧ ka2 = nI k ∧
    ((¬ slM (k16 kb k) (rbM tx ra) ∧ v = (-4) ∧ i2 = it) ∨
     (slM (k16 kb k) (rbM tx ra) ∧ (∀ j, j < 8 → ¬ nfP it us id (rbM tx ra 1) (rdL (rbM tx ra) 2 8) j) ∧ v = (-5) ∧ i2 = it) ∨
     (slM (k16 kb k) (rbM tx ra) ∧ ∃ n, n < 8 ∧ nfP it us id (rbM tx ra 1) (rdL (rbM tx ra) 2 8) n ∧ (∀ j, j < n → ¬ nfP it us id (rbM tx ra 1) (rdL (rbM tx ra) 2 8) j) ∧
       ((¬ ageI now (be n) mo = 0 ∧ v = (-6) ∧ i2 = upd it n (nI 0)) ∨
        (ageI now (be n) mo = 0 ∧ ¬ ageI now (la n) re = 0 ∧ v = (-7) ∧ i2 = upd it n (nI 0)) ∨
        (ageI now (be n) mo = 0 ∧ ageI now (la n) re = 0 ∧ i2 = it ∧
          ((ch = 0 ∧ v = nI n) ∨ (¬ ch = 0 ∧ smM s1 tx (k16 kb k) (rbM tx ra) ∧ v = nI n) ∨ (¬ ch = 0 ∧ ¬ smM s1 tx (k16 kb k) (rbM tx ra) ∧ v = (-8))))))))
theorem sm_of {s1 : Nat} {tx kf R R2 : Nat → Int32} (q : ∀ j, j < 9 → R2 j = hmac kf 16 (tkm (rw8 R)) 11 j) : (s1 = 12 ∧ ∀ t, t < 12 → tx (40 + t) = kA (cdV R2 9 t 6)) ↔ smM s1 tx kf R := by
  unfold smM
  constructor
  · rintro ⟨h, h2⟩
    refine ⟨h, fun t ht => ?_⟩
    rw [h2 t ht, cd_congr q]
  · rintro ⟨h, h2⟩
    refine ⟨h, fun t ht => ?_⟩
    rw [h2 t ht, cd_congr q]
set_option maxHeartbeats 4000000 in
set_option maxRecDepth 100000 in
theorem c_X8_look (g : GG) (l : Launch) (md : Nat → Nat) (mfa : Int32) (mmz : Nat) (msz : Nat) (mnow : Int64) (mgr : Int64) (mmo : Int64) (mre : Int64) (msd : Int64) (mbg : Int64) (mky : Nat) (mli : Int32) (mrf : Int32) (mrn : Int32) (mka : Int32) (mta : Nat → Int32) (mwd : Nat → Int32) (mms : Nat → Int32) (mhs : Nat → Int32) (mke : Nat → Int32) (msa : Nat → Int32) (mkn : Nat → Int32) (mkb : Nat → Int32) (mku : Nat → Int64) (mhp : Nat → Int32) (mpa : Nat → Int32) (mpb : Nat → Int32) (mit : Nat → Int32) (mus : Nat → Int32) (mid : Nat → Int64) (mbe : Nat → Int64) (mla : Nat → Int64) (msi : Nat → Int32) (mtx : Nat → Int32) (mra : Nat → Int32) (ch : Int32) (s0 : Nat) (s1 : Nat) (hs0 : msi 0 = nI s0) (hs1 : msi 1 = nI s1) (hl0 : s0 ≤ 40) (hl1 : s1 ≤ 40) (hB : ∀ i, i < s0 → (mtx i).toBitVec.toNat < 256) (hky : 1 ≤ mky) (hky4 : mky ≤ 4) : Ct g l yX8_look cX8_look 7 (some .int) 6 142 [.ref (md 0), .int ch] (mX g md mfa mmz msz mnow mgr mmo mre msd mbg mky mli mrf mrn mka mta mwd mms mhs mke msa mkn mkb mku mhp mpa mpb mit mus mid mbe mla msi mtx mra) (Ri g (fun (v : Int32) (u : (Nat → Int32) × (Nat → Int32) × (Nat → Int32) × (Nat → Int32) × (Nat → Int32) × (Nat → Int32) × (Nat → Int32) × (Nat → Int32) × Int32 × Nat × Nat) => mjP s0 s1 mky mtx mra mkn mkb mku mit mus mid mbe mla mnow mgr mmo mre ch v u.2.2.2.2.2.2.2.2.1 u.2.2.2.2.2.2.2.1) (fun (u : (Nat → Int32) × (Nat → Int32) × (Nat → Int32) × (Nat → Int32) × (Nat → Int32) × (Nat → Int32) × (Nat → Int32) × (Nat → Int32) × Int32 × Nat × Nat) => (mX g md mfa u.2.2.2.2.2.2.2.2.2.1 u.2.2.2.2.2.2.2.2.2.2 mnow mgr mmo mre msd mbg mky mli mrf mrn u.2.2.2.2.2.2.2.2.1 u.1 u.2.1 u.2.2.1 u.2.2.2.1 u.2.2.2.2.1 u.2.2.2.2.2.1 mkn mkb mku mhp mpa mpb u.2.2.2.2.2.2.2.1 mus mid mbe mla msi mtx u.2.2.2.2.2.2.1))) := by
  refine mkC (by decide) (Nat.le_of_ble_eq_true rfl) ?_
  intro p e s m args below meth c A ls QQ F hr hlk hnm hQ hw hl
  have hx := F.1
  have hb := F.2.1
  replace hl : lv_has ls 7 [(0, .ref (md 0)), (1, .int ch)] := hl
  refine lv_aload_n hx hb dX8_look_0 rfl (lv_at hl 0 rfl) ?_
  refine cl_iF hw (rn_VF F hw (c_X8_isForm g l md mfa mmz msz mnow mgr mmo mre msd mbg mky mli mrf mrn mka mta mwd mms mhs mke msa mkn mkb mku mhp mpa mpb mit mus mid mbe mla msi mtx mra s0 hs0 hl0 hB) (cw_X8_254 F.2.2.2.2 ⟨by decide, by decide⟩)    0 rfl rfl rfl hl.1 rfl (Nat.le_of_ble_eq_true rfl) dX8_look_1 ⟨Nat.zero_le _, Nat.zero_le _⟩) (fun v_2 u_1 H locs hp_3 hw => ?_)
  replace hw : Wd g s A H locs (mX g md mfa mmz msz mnow mgr mmo mre msd mbg mky mli mrf mrn mka mta mwd mms mhs mke msa mkn mkb mku mhp mpa mpb mit mus mid mbe mla msi mtx u_1) := hw
  have q1 := hp_3
  refine lv_if_ne (tgt := 10) hx hb dX8_look_4 (by decide) (fun c_4 => ?_) (fun c_4 => ?_)
  · obtain ⟨-, qf, e1⟩ := q1.resolve_right (fun h => c_4 h.1)
    replace e1 : u_1 = rbM mtx mra := e1
    subst e1
    refine lv_aload_n hx hb dX8_look_10 rfl (lv_at hl 0 rfl) ?_
    refine lv_iconst (v := (-1)) hx hb dX8_look_11 (by decide) ?_
    refine pf_X8_258 F hw 0 rfl (Nat.le_of_ble_eq_true rfl) rfl rfl dX8_look_12 (fun H locs hw => ?_)
    replace hw : Wd g s A H locs (mX g md mfa mmz msz mnow mgr mmo mre msd mbg mky mli mrf mrn (-1) mta mwd mms mhs mke msa mkn mkb mku mhp mpa mpb mit mus mid mbe mla msi mtx (rbM mtx mra)) := hw
    refine lv_iconst (v := nI 0) hx hb dX8_look_15 (by decide) ?_
    refine lv_istore_n (lv' := [(2, .int (nI 0)), (0, .ref (md 0)), (1, .int ch)]) hx hb dX8_look_16 rfl hl (by decide) rfl (fun ls hl => ?_)
    have L_17 : ∀ (nn k : Nat), k ≤ mky → mky < k + nn → ∀ (H : Heap) (locs : List Loc) (ls : Array Slot), Wd g s A H locs (mX g md mfa mmz msz mnow mgr mmo mre msd mbg mky mli mrf mrn (kaM mky mku mnow mgr mkn (rbM mtx mra 0) k) mta mwd mms mhs mke msa mkn mkb mku mhp mpa mpb mit mus mid mbe mla msi mtx (rbM mtx mra)) → lv_has ls 7 [(0, .ref (md 0)), (1, .int ch), (2, .int (nI k))] → W p l e (rmm 6 142) s m args below meth c H locs 0 0 QQ (F0 m 17 ls []) := by
      intro nn
      induction nn with
      | zero => intro k h1 h2; exact absurd h2 (by omega)
      | succ nn ih =>
        intro k hk_k hn_k H locs ls hw hl
        refine lv_iload_n hx hb dX8_look_17 rfl (lv_at hl 2 rfl) ?_
        refine lv_aload_n hx hb dX8_look_18 rfl (lv_at hl 0 rfl) ?_
        refine gf_X8_118 F hw 0 rfl rfl dX8_look_19 ?_
        refine n_ge (tgt := 66) hx hb (by omega) (by omega) dX8_look_22 (by decide) (fun c_22 => ?_) (fun c_22 => ?_)
        · obtain rfl : mky = k := by omega
          refine lv_aload_n hx hb dX8_look_66 rfl (lv_at hl 0 rfl) ?_
          refine gf_X8_258 F hw 0 rfl rfl dX8_look_67 ?_
          refine lv_if_ge (tgt := 76) hx hb dX8_look_70 (by decide) (fun c_70 => ?_) (fun c_70 => ?_)
          · obtain ⟨k, hk, hka, q2⟩ := ka_nat c_70
            rw [hka] at hw
            refine lv_aload_n hx hb dX8_look_76 rfl (lv_at hl 0 rfl) ?_
            refine lv_aload_n hx hb dX8_look_77 rfl (lv_at hl 0 rfl) ?_
            refine gf_X8_258 F hw 0 rfl rfl dX8_look_78 ?_
            refine lv_iconst (v := (-1)) hx hb dX8_look_81 (by decide) ?_
            refine cl_vF hw (rn_VF F hw (c_X8_sealBody_n g l md mfa mmz msz mnow mgr mmo mre msd mbg mky mli mrf mrn (nI k) mta mwd mms mhs mke msa mkn mkb mku mhp mpa mpb mit mus mid mbe mla msi mtx (rbM mtx mra) k (by omega)) (cw_X8_207 F.2.2.2.2 ⟨by decide, by decide⟩)    0 rfl rfl rfl hl.1 rfl (Nat.le_of_ble_eq_true rfl) dX8_look_82 ⟨Nat.zero_le _, Nat.zero_le _⟩) (fun u_4 H locs hp_6 hw => ?_)
            replace hw : Wd g s A H locs (mX g md mfa 96 10 mnow mgr mmo mre msd mbg mky mli mrf mrn (nI k) u_4.1 u_4.2.1 u_4.2.2.1 u_4.2.2.2.1 u_4.2.2.2.2.1 u_4.2.2.2.2.2 mkn mkb mku mhp mpa mpb mit mus mid mbe mla msi mtx (rbM mtx mra)) := hw
            have q4 := hp_6
            refine lv_iconst (v := nI 0) hx hb dX8_look_85 (by decide) ?_
            refine lv_istore_n (lv' := [(2, .int (nI 0)), (0, .ref (md 0)), (1, .int ch)]) hx hb dX8_look_86 rfl hl (by decide) rfl (fun ls hl => ?_)
            have L_87 : ∀ (nn i : Nat), i ≤ 12 → 12 < i + nn → ∀ (H : Heap) (locs : List Loc) (ls : Array Slot), (∀ t, t < i → u_4.2.2.2.1 t = rbM mtx mra (10 + t)) → Wd g s A H locs (mX g md mfa 96 10 mnow mgr mmo mre msd mbg mky mli mrf mrn (nI k) u_4.1 u_4.2.1 u_4.2.2.1 u_4.2.2.2.1 u_4.2.2.2.2.1 u_4.2.2.2.2.2 mkn mkb mku mhp mpa mpb mit mus mid mbe mla msi mtx (rbM mtx mra)) → lv_has ls 7 [(0, .ref (md 0)), (1, .int ch), (2, .int (nI i))] → W p l e (rmm 6 142) s m args below meth c H locs 0 0 QQ (F0 m 87 ls []) := by
              intro nn
              induction nn with
              | zero => intro i h1 h2; exact absurd h2 (by omega)
              | succ nn ih =>
                intro i hk_i hn_i H locs ls hi_i_0 hw hl
                refine lv_iload_n hx hb dX8_look_87 rfl (lv_at hl 2 rfl) ?_
                refine lv_bipush (v := nI 12) hx hb dX8_look_88 (by decide) ?_
                refine n_ge (tgt := 120) hx hb (by omega) (by omega) dX8_look_90 (by decide) (fun c_90 => ?_) (fun c_90 => ?_)
                · obtain rfl : i = 12 := by omega
                  have sl9 := hi_i_0
                  refine lv_lconst (v := 0) hx hb dX8_look_120 (by decide) ?_
                  refine lv_lstore_n (lv' := [(2, .long 0), (0, .ref (md 0)), (1, .int ch)]) hx hb dX8_look_121 rfl hl (by decide) rfl (fun ls hl => ?_)
                  refine lv_iconst (v := nI 0) hx hb dX8_look_122 (by decide) ?_
                  refine lv_istore (lv' := [(4, .int (nI 0)), (2, .long 0), (0, .ref (md 0)), (1, .int ch)]) hx hb dX8_look_123 hl (by decide) rfl (fun ls hl => ?_)
                  have L_125 : ∀ (nn a : Nat), a ≤ 8 → 8 < a + nn → ∀ (H : Heap) (locs : List Loc) (ls : Array Slot), Wd g s A H locs (mX g md mfa 96 10 mnow mgr mmo mre msd mbg mky mli mrf mrn (nI k) u_4.1 u_4.2.1 u_4.2.2.1 u_4.2.2.2.1 u_4.2.2.2.2.1 u_4.2.2.2.2.2 mkn mkb mku mhp mpa mpb mit mus mid mbe mla msi mtx (rbM mtx mra)) → lv_has ls 7 [(0, .ref (md 0)), (1, .int ch), (2, .long ((rdL (rbM mtx mra) 2 a))), (4, .int (nI a))] → W p l e (rmm 6 142) s m args below meth c H locs 0 0 QQ (F0 m 125 ls []) := by
                    intro nn
                    induction nn with
                    | zero => intro a h1 h2; exact absurd h2 (by omega)
                    | succ nn ih =>
                      intro a hk_a hn_a H locs ls hw hl
                      refine lv_iload hx hb dX8_look_125 (lv_at hl 3 rfl) ?_
                      refine lv_bipush (v := nI 8) hx hb dX8_look_127 (by decide) ?_
                      refine n_ge (tgt := 154) hx hb (by omega) (by omega) dX8_look_129 (by decide) (fun c_129 => ?_) (fun c_129 => ?_)
                      · obtain rfl : a = 8 := by omega
                        refine lv_iconst (v := (-1)) hx hb dX8_look_154 (by decide) ?_
                        refine lv_istore (lv' := [(4, .int (-1)), (0, .ref (md 0)), (1, .int ch), (2, .long ((rdL (rbM mtx mra) 2 8)))]) hx hb dX8_look_155 hl (by decide) rfl (fun ls hl => ?_)
                        refine lv_bipush (v := nI 7) hx hb dX8_look_157 (by decide) ?_
                        refine lv_istore (lv' := [(5, .int (nI 7)), (4, .int (-1)), (0, .ref (md 0)), (1, .int ch), (2, .long ((rdL (rbM mtx mra) 2 8)))]) hx hb dX8_look_159 hl (by decide) rfl (fun ls hl => ?_)
                        have L_161 : ∀ (nn j : Nat), j ≤ 8 → 8 < j + nn → ∀ (H : Heap) (locs : List Loc) (ls : Array Slot), Wd g s A H locs (mX g md mfa 96 10 mnow mgr mmo mre msd mbg mky mli mrf mrn (nI k) u_4.1 u_4.2.1 u_4.2.2.1 u_4.2.2.2.1 u_4.2.2.2.2.1 u_4.2.2.2.2.2 mkn mkb mku mhp mpa mpb mit mus mid mbe mla msi mtx (rbM mtx mra)) → lv_has ls 7 [(0, .ref (md 0)), (1, .int ch), (4, .int ((fdM mit mus mid (rbM mtx mra 1) (rdL (rbM mtx mra) 2 8) j))), (5, .int ((nI 7 - nI j))), (2, .long ((rdL (rbM mtx mra) 2 8)))] → W p l e (rmm 6 142) s m args below meth c H locs 0 0 QQ (F0 m 161 ls []) := by
                          intro nn
                          induction nn with
                          | zero => intro j h1 h2; exact absurd h2 (by omega)
                          | succ nn ih =>
                            intro j hk_j hn_j H locs ls hw hl
                            refine lv_iload hx hb dX8_look_161 (lv_at hl 3 rfl) ?_
                            refine lv_if_lt (tgt := 219) hx hb dX8_look_163 (by decide) (fun c_163 => ?_) (fun c_163 => ?_)
                            · obtain rfl : j = 8 := (dn_lt _ hk_j).mp c_163
                              refine lv_iload hx hb dX8_look_219 (lv_at hl 2 rfl) ?_
                              refine lv_if_ge (tgt := 227) hx hb dX8_look_221 (by decide) (fun c_221 => ?_) (fun c_221 => ?_)
                              · obtain ⟨n, hn, hfd, q5, q6⟩ := fd_nat c_221
                                rw [hfd] at hl
                                refine lv_aload_n hx hb dX8_look_227 rfl (lv_at hl 0 rfl) ?_
                                refine lv_iload hx hb dX8_look_228 (lv_at hl 2 rfl) ?_
                                refine cl_iF hw (rn_VF F hw (c_X8_isOld g l md mfa 96 10 mnow mgr mmo mre msd mbg mky mli mrf mrn (nI k) u_4.1 u_4.2.1 u_4.2.2.1 u_4.2.2.2.1 u_4.2.2.2.2.1 u_4.2.2.2.2.2 mkn mkb mku mhp mpa mpb mit mus mid mbe mla msi mtx (rbM mtx mra) n (by omega)) (cw_X8_238 F.2.2.2.2 ⟨by decide, by decide⟩)    0 rfl rfl rfl hl.1 rfl (Nat.le_of_ble_eq_true rfl) dX8_look_230 ⟨Nat.zero_le _, Nat.zero_le _⟩) (fun v_8 u_7 H locs hp_9 hw => ?_)
                                subst hp_9
                                replace hw : Wd g s A H locs (mX g md mfa 96 10 mnow mgr mmo mre msd mbg mky mli mrf mrn (nI k) u_4.1 u_4.2.1 u_4.2.2.1 u_4.2.2.2.1 u_4.2.2.2.2.1 u_4.2.2.2.2.2 mkn mkb mku mhp mpa mpb mit mus mid mbe mla msi mtx (rbM mtx mra)) := hw
                                refine lv_if_ne (tgt := 245) hx hb dX8_look_233 (by decide) (fun c_233 => ?_) (fun c_233 => ?_)
                                · refine lv_aload_n hx hb dX8_look_245 rfl (lv_at hl 0 rfl) ?_
                                  refine gf_X8_142 F hw 0 rfl rfl dX8_look_246 ?_
                                  refine lv_iload hx hb dX8_look_249 (lv_at hl 2 rfl) ?_
                                  refine lv_iconst (v := nI 0) hx hb dX8_look_251 (by decide) ?_
                                  refine za_st F hw 15 rfl (by omega) (by omega) nar0 dX8_look_252 (fun H locs hw => ?_)
                                  replace hw : Wd g s A H locs (mX g md mfa 96 10 mnow mgr mmo mre msd mbg mky mli mrf mrn (nI k) u_4.1 u_4.2.1 u_4.2.2.1 u_4.2.2.2.1 u_4.2.2.2.2.1 u_4.2.2.2.2.2 mkn mkb mku mhp mpa mpb (upd mit n (nI 0)) mus mid mbe mla msi mtx (rbM mtx mra)) := hw
                                  refine lv_aload_n hx hb dX8_look_253 rfl (lv_at hl 0 rfl) ?_
                                  refine lv_iload hx hb dX8_look_254 (lv_at hl 2 rfl) ?_
                                  refine cl_iF hw (rn_VF F hw (c_X8_isOld g l md mfa 96 10 mnow mgr mmo mre msd mbg mky mli mrf mrn (nI k) u_4.1 u_4.2.1 u_4.2.2.1 u_4.2.2.2.1 u_4.2.2.2.2.1 u_4.2.2.2.2.2 mkn mkb mku mhp mpa mpb (upd mit n (nI 0)) mus mid mbe mla msi mtx (rbM mtx mra) n (by omega)) (cw_X8_238 F.2.2.2.2 ⟨by decide, by decide⟩)    0 rfl rfl rfl hl.1 rfl (Nat.le_of_ble_eq_true rfl) dX8_look_256 ⟨Nat.zero_le _, Nat.zero_le _⟩) (fun v_11 u_10 H locs hp_12 hw => ?_)
                                  subst hp_12
                                  replace hw : Wd g s A H locs (mX g md mfa 96 10 mnow mgr mmo mre msd mbg mky mli mrf mrn (nI k) u_4.1 u_4.2.1 u_4.2.2.1 u_4.2.2.2.1 u_4.2.2.2.2.1 u_4.2.2.2.2.2 mkn mkb mku mhp mpa mpb (upd mit n (nI 0)) mus mid mbe mla msi mtx (rbM mtx mra)) := hw
                                  refine lv_if_eq (tgt := 267) hx hb dX8_look_259 (by decide) (fun c_259 => ?_) (fun c_259 => ?_)
                                  · exact absurd c_259 c_233
                                  · refine lv_bipush (v := (-6)) hx hb dX8_look_262 (by decide) ?_
                                    refine lv_goto (tgt := 269) hx hb dX8_look_264 (by decide) ?_
                                    exact rt_i F hr hlk hQ hw (u_4.1, u_4.2.1, u_4.2.2.1, u_4.2.2.2.1, u_4.2.2.2.2.1, u_4.2.2.2.2.2, (rbM mtx mra), (upd mit n (nI 0)), (nI k), 96, 10) (by first | exact Or.inr (Or.inr ⟨qf, k, hk, q2, rfl, Or.inr (Or.inr ⟨(fun i hi => (q4 i (by omega)).symm.trans (sl9 i hi)), n, hn, q5, q6, Or.inl ⟨c_233, rfl, rfl⟩⟩)⟩) | exact Or.inr (Or.inr ⟨qf, k, hk, q2, rfl, Or.inr (Or.inr ⟨(fun i hi => (q4 i (by omega)).symm.trans (sl9 i hi)), n, hn, q5, q6, Or.inr (Or.inl ⟨c_233, c_242, rfl, rfl⟩)⟩)⟩)) rfl dX8_look_269
                                · refine lv_aload_n hx hb dX8_look_236 rfl (lv_at hl 0 rfl) ?_
                                  refine lv_iload hx hb dX8_look_237 (lv_at hl 2 rfl) ?_
                                  refine cl_iF hw (rn_VF F hw (c_X8_isIdle g l md mfa 96 10 mnow mgr mmo mre msd mbg mky mli mrf mrn (nI k) u_4.1 u_4.2.1 u_4.2.2.1 u_4.2.2.2.1 u_4.2.2.2.2.1 u_4.2.2.2.2.2 mkn mkb mku mhp mpa mpb mit mus mid mbe mla msi mtx (rbM mtx mra) n (by omega)) (cw_X8_241 F.2.2.2.2 ⟨by decide, by decide⟩)    0 rfl rfl rfl hl.1 rfl (Nat.le_of_ble_eq_true rfl) dX8_look_239 ⟨Nat.zero_le _, Nat.zero_le _⟩) (fun v_14 u_13 H locs hp_15 hw => ?_)
                                  subst hp_15
                                  replace hw : Wd g s A H locs (mX g md mfa 96 10 mnow mgr mmo mre msd mbg mky mli mrf mrn (nI k) u_4.1 u_4.2.1 u_4.2.2.1 u_4.2.2.2.1 u_4.2.2.2.2.1 u_4.2.2.2.2.2 mkn mkb mku mhp mpa mpb mit mus mid mbe mla msi mtx (rbM mtx mra)) := hw
                                  refine lv_if_eq (tgt := 270) hx hb dX8_look_242 (by decide) (fun c_242 => ?_) (fun c_242 => ?_)
                                  · refine lv_iload_n hx hb dX8_look_270 rfl (lv_at hl 1 rfl) ?_
                                    refine lv_if_eq (tgt := 357) hx hb dX8_look_271 (by decide) (fun c_271 => ?_) (fun c_271 => ?_)
                                    · refine lv_iload hx hb dX8_look_357 (lv_at hl 2 rfl) ?_
                                      exact rt_i F hr hlk hQ hw (u_4.1, u_4.2.1, u_4.2.2.1, u_4.2.2.2.1, u_4.2.2.2.2.1, u_4.2.2.2.2.2, (rbM mtx mra), mit, (nI k), 96, 10) (by first | exact Or.inr (Or.inr ⟨qf, k, hk, q2, rfl, Or.inr (Or.inr ⟨(fun i hi => (q4 i (by omega)).symm.trans (sl9 i hi)), n, hn, q5, q6, Or.inr (Or.inr ⟨c_233, c_242, rfl, Or.inl ⟨c_271, rfl⟩⟩)⟩)⟩) | exact Or.inr (Or.inr ⟨qf, k, hk, q2, rfl, Or.inr (Or.inr ⟨(fun i hi => (q4 i (by omega)).symm.trans (sl9 i hi)), n, hn, q5, q6, Or.inr (Or.inr ⟨c_233, c_242, rfl, Or.inr (Or.inl ⟨c_271, (sm_of q8).mp ⟨(hi_i_0.resolve_right (fun h => c_305 h.1)).2.1, fun t ht => (hi_i_0.resolve_right (fun h => c_305 h.1)).2.2 t (by omega)⟩, rfl⟩)⟩)⟩)⟩)) rfl dX8_look_359
                                    · refine lv_aload_n hx hb dX8_look_274 rfl (lv_at hl 0 rfl) ?_
                                      refine lv_aload_n hx hb dX8_look_275 rfl (lv_at hl 0 rfl) ?_
                                      refine gf_X8_258 F hw 0 rfl rfl dX8_look_276 ?_
                                      refine cl_vF hw (rn_VF F hw (c_X8_token g l md mfa 96 10 mnow mgr mmo mre msd mbg mky mli mrf mrn (nI k) u_4.1 u_4.2.1 u_4.2.2.1 u_4.2.2.2.1 u_4.2.2.2.2.1 u_4.2.2.2.2.2 mkn mkb mku mhp mpa mpb mit mus mid mbe mla msi mtx (rbM mtx mra) k (by omega)) (cw_X8_218 F.2.2.2.2 ⟨by decide, by decide⟩)    0 rfl rfl rfl hl.1 rfl (Nat.le_of_ble_eq_true rfl) dX8_look_279 ⟨Nat.zero_le _, Nat.zero_le _⟩) (fun u_16 H locs hp_18 hw => ?_)
                                      replace hw : Wd g s A H locs (mX g md mfa 96 11 mnow mgr mmo mre msd mbg mky mli mrf mrn (nI k) u_16.1 u_16.2.1 u_16.2.2.1 u_16.2.2.2.1 u_16.2.2.2.2.1 u_16.2.2.2.2.2.1 mkn mkb mku mhp mpa mpb mit mus mid mbe mla msi mtx u_16.2.2.2.2.2.2) := hw
                                      have q8 := hp_18
                                      refine lv_aload_n hx hb dX8_look_282 rfl (lv_at hl 0 rfl) ?_
                                      refine gf_X8_157 F hw 0 rfl rfl dX8_look_283 ?_
                                      refine lv_iconst (v := nI 1) hx hb dX8_look_286 (by decide) ?_
                                      refine ia_ld F hw 20 rfl (by omega) (by omega) dX8_look_287 ?_
                                      refine tp_i (y := nI s1) hs1 ?_
                                      refine lv_bipush (v := nI 12) hx hb dX8_look_288 (by decide) ?_
                                      refine n_ne (tgt := 297) hx hb (by omega) (by omega) dX8_look_290 (by decide) (fun c_290 => ?_) (fun c_290 => ?_)
                                      · refine lv_iconst (v := nI 0) hx hb dX8_look_297 (by decide) ?_
                                        refine lv_istore (lv' := [(5, .int (nI 0)), (0, .ref (md 0)), (1, .int ch), (4, .int (nI n)), (2, .long ((rdL (rbM mtx mra) 2 8)))]) hx hb dX8_look_298 hl (by decide) rfl (fun ls hl => ?_)
                                        refine lv_iconst (v := nI 0) hx hb dX8_look_300 (by decide) ?_
                                        refine lv_istore (lv' := [(6, .int (nI 0)), (5, .int (nI 0)), (0, .ref (md 0)), (1, .int ch), (4, .int (nI n)), (2, .long ((rdL (rbM mtx mra) 2 8)))]) hx hb dX8_look_301 hl (by decide) rfl (fun ls hl => ?_)
                                        have L_303 : ∀ (nn i : Nat), i ≤ 12 → 12 < i + nn → ∀ (sm : Int32), ∀ (H : Heap) (locs : List Loc) (ls : Array Slot), ((sm = nI 1 ∧ s1 = 12 ∧ ∀ t, t < i → mtx (40 + t) = kA (cdV u_16.2.2.2.2.2.2 9 t 6)) ∨ (sm = nI 0 ∧ ¬ (s1 = 12 ∧ ∀ t, t < 12 → mtx (40 + t) = kA (cdV u_16.2.2.2.2.2.2 9 t 6)))) → Wd g s A H locs (mX g md mfa 96 11 mnow mgr mmo mre msd mbg mky mli mrf mrn (nI k) u_16.1 u_16.2.1 u_16.2.2.1 u_16.2.2.2.1 u_16.2.2.2.2.1 u_16.2.2.2.2.2.1 mkn mkb mku mhp mpa mpb mit mus mid mbe mla msi mtx u_16.2.2.2.2.2.2) → lv_has ls 7 [(0, .ref (md 0)), (1, .int ch), (4, .int (nI n)), (5, .int sm), (6, .int (nI i))] → W p l e (rmm 6 142) s m args below meth c H locs 0 0 QQ (F0 m 303 ls []) := by
                                          intro nn
                                          induction nn with
                                          | zero => intro i h1 h2; exact absurd h2 (by omega)
                                          | succ nn ih2 =>
                                            intro i hk_i hn_i sm H locs ls hi_i_0 hw hl
                                            refine lv_iload hx hb dX8_look_303 (lv_at hl 3 rfl) ?_
                                            refine lv_if_eq (tgt := 349) hx hb dX8_look_305 (by decide) (fun c_305 => ?_) (fun c_305 => ?_)
                                            · refine lv_iload hx hb dX8_look_349 (lv_at hl 3 rfl) ?_
                                              refine lv_if_ne (tgt := 357) hx hb dX8_look_351 (by decide) (fun c_351 => ?_) (fun c_351 => ?_)
                                              · exact absurd c_305 c_351
                                              · refine lv_bipush (v := (-8)) hx hb dX8_look_354 (by decide) ?_
                                                exact rt_i F hr hlk hQ hw (u_16.1, u_16.2.1, u_16.2.2.1, u_16.2.2.2.1, u_16.2.2.2.2.1, u_16.2.2.2.2.2.1, u_16.2.2.2.2.2.2, mit, (nI k), 96, 11) (Or.inr (Or.inr ⟨qf, k, hk, q2, rfl, Or.inr (Or.inr ⟨(fun i hi => (q4 i (by omega)).symm.trans (sl9 i hi)), n, hn, q5, q6, Or.inr (Or.inr ⟨c_233, c_242, rfl, Or.inr (Or.inr ⟨c_271, fun h => (hi_i_0.resolve_left (fun z => absurd (z.1.symm.trans c_351) (by decide))).2 ((sm_of q8).mpr h), rfl⟩)⟩)⟩)⟩)) rfl dX8_look_356
                                            · refine lv_iload hx hb dX8_look_308 (lv_at hl 4 rfl) ?_
                                              refine lv_bipush (v := nI 12) hx hb dX8_look_310 (by decide) ?_
                                              refine n_ge (tgt := 349) hx hb (by omega) (by omega) dX8_look_312 (by decide) (fun c_312 => ?_) (fun c_312 => ?_)
                                              · refine lv_iload hx hb dX8_look_349 (lv_at hl 3 rfl) ?_
                                                refine lv_if_ne (tgt := 357) hx hb dX8_look_351 (by decide) (fun c_351 => ?_) (fun c_351 => ?_)
                                                · refine lv_iload hx hb dX8_look_357 (lv_at hl 2 rfl) ?_
                                                  exact rt_i F hr hlk hQ hw (u_16.1, u_16.2.1, u_16.2.2.1, u_16.2.2.2.1, u_16.2.2.2.2.1, u_16.2.2.2.2.2.1, u_16.2.2.2.2.2.2, mit, (nI k), 96, 11) (by first | exact Or.inr (Or.inr ⟨qf, k, hk, q2, rfl, Or.inr (Or.inr ⟨(fun i hi => (q4 i (by omega)).symm.trans (sl9 i hi)), n, hn, q5, q6, Or.inr (Or.inr ⟨c_233, c_242, rfl, Or.inl ⟨c_271, rfl⟩⟩)⟩)⟩) | exact Or.inr (Or.inr ⟨qf, k, hk, q2, rfl, Or.inr (Or.inr ⟨(fun i hi => (q4 i (by omega)).symm.trans (sl9 i hi)), n, hn, q5, q6, Or.inr (Or.inr ⟨c_233, c_242, rfl, Or.inr (Or.inl ⟨c_271, (sm_of q8).mp ⟨(hi_i_0.resolve_right (fun h => c_305 h.1)).2.1, fun t ht => (hi_i_0.resolve_right (fun h => c_305 h.1)).2.2 t (by omega)⟩, rfl⟩)⟩)⟩)⟩)) rfl dX8_look_359
                                                · exact absurd c_351 c_305
                                              · refine lv_aload_n hx hb dX8_look_315 rfl (lv_at hl 0 rfl) ?_
                                                refine gf_X8_160 F hw 0 rfl rfl dX8_look_316 ?_
                                                refine lv_bipush (v := nI 40) hx hb dX8_look_319 (by decide) ?_
                                                refine lv_iload hx hb dX8_look_321 (lv_at hl 4 rfl) ?_
                                                refine n_add hx hb dX8_look_323 ?_
                                                refine ia_ld F hw 21 rfl (by omega) (by omega) dX8_look_324 ?_
                                                refine lv_aload_n hx hb dX8_look_325 rfl (lv_at hl 0 rfl) ?_
                                                refine lv_iload hx hb dX8_look_326 (lv_at hl 4 rfl) ?_
                                                refine lv_bipush (v := nI 9) hx hb dX8_look_328 (by decide) ?_
                                                refine cl_iF hw (rn_VF F hw (c_X8_codedAt g l md mfa 96 11 mnow mgr mmo mre msd mbg mky mli mrf mrn (nI k) u_16.1 u_16.2.1 u_16.2.2.1 u_16.2.2.2.1 u_16.2.2.2.2.1 u_16.2.2.2.2.2.1 mkn mkb mku mhp mpa mpb mit mus mid mbe mla msi mtx u_16.2.2.2.2.2.2 i 9 (by omega) (by omega)) (cw_X8_215 F.2.2.2.2 ⟨by decide, by decide⟩)    0 rfl rfl rfl hl.1 rfl (Nat.le_of_ble_eq_true rfl) dX8_look_330 ⟨Nat.zero_le _, Nat.zero_le _⟩) (fun v_20 u_19 H locs hp_21 hw => ?_)
                                                subst hp_21
                                                replace hw : Wd g s A H locs (mX g md mfa 96 11 mnow mgr mmo mre msd mbg mky mli mrf mrn (nI k) u_16.1 u_16.2.1 u_16.2.2.1 u_16.2.2.2.1 u_16.2.2.2.2.1 u_16.2.2.2.2.2.1 mkn mkb mku mhp mpa mpb mit mus mid mbe mla msi mtx u_16.2.2.2.2.2.2) := hw
                                                refine lv_icmp_ne (tgt := 340) hx hb dX8_look_333 (by decide) (fun c_333 => ?_) (fun c_333 => ?_)
                                                · refine lv_iconst (v := nI 0) hx hb dX8_look_340 (by decide) ?_
                                                  refine lv_istore (lv' := [(5, .int (nI 0)), (0, .ref (md 0)), (1, .int ch), (4, .int (nI n)), (6, .int (nI i))]) hx hb dX8_look_341 hl (by decide) rfl (fun ls hl => ?_)
                                                  refine lv_iinc (v := nI (i + 1)) (lv' := [(6, .int (nI (i + 1))), (5, .int (nI 0)), (0, .ref (md 0)), (1, .int ch), (4, .int (nI n))]) hx hb dX8_look_343 hl (k := 4) rfl (inc_n _ 1) (by decide) rfl (fun ls hl => ?_)
                                                  refine lv_goto (tgt := 303) hx hb dX8_look_346 (by decide) ?_
                                                  exact ih2 (i + 1) (by omega) (by omega) (nI 0) _ _ _ (by first | exact Or.inl ⟨rfl, (hi_i_0.resolve_right (fun h => c_305 h.1)).2.1, lt_s (hi_i_0.resolve_right (fun h => c_305 h.1)).2.2 c_333⟩ | exact Or.inr ⟨rfl, fun h => c_333 (h.2 i (by omega))⟩) hw (lv_sub hl [2, 3, 4, 1, 0] rfl)
                                                · refine lv_iconst (v := nI 1) hx hb dX8_look_336 (by decide) ?_
                                                  refine lv_goto (tgt := 341) hx hb dX8_look_337 (by decide) ?_
                                                  refine lv_istore (lv' := [(5, .int (nI 1)), (0, .ref (md 0)), (1, .int ch), (4, .int (nI n)), (6, .int (nI i))]) hx hb dX8_look_341 hl (by decide) rfl (fun ls hl => ?_)
                                                  refine lv_iinc (v := nI (i + 1)) (lv' := [(6, .int (nI (i + 1))), (5, .int (nI 1)), (0, .ref (md 0)), (1, .int ch), (4, .int (nI n))]) hx hb dX8_look_343 hl (k := 4) rfl (inc_n _ 1) (by decide) rfl (fun ls hl => ?_)
                                                  refine lv_goto (tgt := 303) hx hb dX8_look_346 (by decide) ?_
                                                  exact ih2 (i + 1) (by omega) (by omega) (nI 1) _ _ _ (by first | exact Or.inl ⟨rfl, (hi_i_0.resolve_right (fun h => c_305 h.1)).2.1, lt_s (hi_i_0.resolve_right (fun h => c_305 h.1)).2.2 c_333⟩ | exact Or.inr ⟨rfl, fun h => c_333 (h.2 i (by omega))⟩) hw (lv_sub hl [2, 3, 4, 1, 0] rfl)
                                        exact L_303 (12 + 1) 0 (by omega) (by omega) (nI 0) _ _ _ (Or.inr ⟨rfl, fun h => c_290 h.1⟩) hw (lv_sub hl [2, 3, 4, 1, 0] rfl)
                                      · refine lv_iconst (v := nI 1) hx hb dX8_look_293 (by decide) ?_
                                        refine lv_goto (tgt := 298) hx hb dX8_look_294 (by decide) ?_
                                        refine lv_istore (lv' := [(5, .int (nI 1)), (0, .ref (md 0)), (1, .int ch), (4, .int (nI n)), (2, .long ((rdL (rbM mtx mra) 2 8)))]) hx hb dX8_look_298 hl (by decide) rfl (fun ls hl => ?_)
                                        refine lv_iconst (v := nI 0) hx hb dX8_look_300 (by decide) ?_
                                        refine lv_istore (lv' := [(6, .int (nI 0)), (5, .int (nI 1)), (0, .ref (md 0)), (1, .int ch), (4, .int (nI n)), (2, .long ((rdL (rbM mtx mra) 2 8)))]) hx hb dX8_look_301 hl (by decide) rfl (fun ls hl => ?_)
                                        have L_303 : ∀ (nn i : Nat), i ≤ 12 → 12 < i + nn → ∀ (sm : Int32), ∀ (H : Heap) (locs : List Loc) (ls : Array Slot), ((sm = nI 1 ∧ s1 = 12 ∧ ∀ t, t < i → mtx (40 + t) = kA (cdV u_16.2.2.2.2.2.2 9 t 6)) ∨ (sm = nI 0 ∧ ¬ (s1 = 12 ∧ ∀ t, t < 12 → mtx (40 + t) = kA (cdV u_16.2.2.2.2.2.2 9 t 6)))) → Wd g s A H locs (mX g md mfa 96 11 mnow mgr mmo mre msd mbg mky mli mrf mrn (nI k) u_16.1 u_16.2.1 u_16.2.2.1 u_16.2.2.2.1 u_16.2.2.2.2.1 u_16.2.2.2.2.2.1 mkn mkb mku mhp mpa mpb mit mus mid mbe mla msi mtx u_16.2.2.2.2.2.2) → lv_has ls 7 [(0, .ref (md 0)), (1, .int ch), (4, .int (nI n)), (5, .int sm), (6, .int (nI i))] → W p l e (rmm 6 142) s m args below meth c H locs 0 0 QQ (F0 m 303 ls []) := by
                                          intro nn
                                          induction nn with
                                          | zero => intro i h1 h2; exact absurd h2 (by omega)
                                          | succ nn ih2 =>
                                            intro i hk_i hn_i sm H locs ls hi_i_0 hw hl
                                            refine lv_iload hx hb dX8_look_303 (lv_at hl 3 rfl) ?_
                                            refine lv_if_eq (tgt := 349) hx hb dX8_look_305 (by decide) (fun c_305 => ?_) (fun c_305 => ?_)
                                            · refine lv_iload hx hb dX8_look_349 (lv_at hl 3 rfl) ?_
                                              refine lv_if_ne (tgt := 357) hx hb dX8_look_351 (by decide) (fun c_351 => ?_) (fun c_351 => ?_)
                                              · exact absurd c_305 c_351
                                              · refine lv_bipush (v := (-8)) hx hb dX8_look_354 (by decide) ?_
                                                exact rt_i F hr hlk hQ hw (u_16.1, u_16.2.1, u_16.2.2.1, u_16.2.2.2.1, u_16.2.2.2.2.1, u_16.2.2.2.2.2.1, u_16.2.2.2.2.2.2, mit, (nI k), 96, 11) (Or.inr (Or.inr ⟨qf, k, hk, q2, rfl, Or.inr (Or.inr ⟨(fun i hi => (q4 i (by omega)).symm.trans (sl9 i hi)), n, hn, q5, q6, Or.inr (Or.inr ⟨c_233, c_242, rfl, Or.inr (Or.inr ⟨c_271, fun h => (hi_i_0.resolve_left (fun z => absurd (z.1.symm.trans c_351) (by decide))).2 ((sm_of q8).mpr h), rfl⟩)⟩)⟩)⟩)) rfl dX8_look_356
                                            · refine lv_iload hx hb dX8_look_308 (lv_at hl 4 rfl) ?_
                                              refine lv_bipush (v := nI 12) hx hb dX8_look_310 (by decide) ?_
                                              refine n_ge (tgt := 349) hx hb (by omega) (by omega) dX8_look_312 (by decide) (fun c_312 => ?_) (fun c_312 => ?_)
                                              · refine lv_iload hx hb dX8_look_349 (lv_at hl 3 rfl) ?_
                                                refine lv_if_ne (tgt := 357) hx hb dX8_look_351 (by decide) (fun c_351 => ?_) (fun c_351 => ?_)
                                                · refine lv_iload hx hb dX8_look_357 (lv_at hl 2 rfl) ?_
                                                  exact rt_i F hr hlk hQ hw (u_16.1, u_16.2.1, u_16.2.2.1, u_16.2.2.2.1, u_16.2.2.2.2.1, u_16.2.2.2.2.2.1, u_16.2.2.2.2.2.2, mit, (nI k), 96, 11) (by first | exact Or.inr (Or.inr ⟨qf, k, hk, q2, rfl, Or.inr (Or.inr ⟨(fun i hi => (q4 i (by omega)).symm.trans (sl9 i hi)), n, hn, q5, q6, Or.inr (Or.inr ⟨c_233, c_242, rfl, Or.inl ⟨c_271, rfl⟩⟩)⟩)⟩) | exact Or.inr (Or.inr ⟨qf, k, hk, q2, rfl, Or.inr (Or.inr ⟨(fun i hi => (q4 i (by omega)).symm.trans (sl9 i hi)), n, hn, q5, q6, Or.inr (Or.inr ⟨c_233, c_242, rfl, Or.inr (Or.inl ⟨c_271, (sm_of q8).mp ⟨(hi_i_0.resolve_right (fun h => c_305 h.1)).2.1, fun t ht => (hi_i_0.resolve_right (fun h => c_305 h.1)).2.2 t (by omega)⟩, rfl⟩)⟩)⟩)⟩)) rfl dX8_look_359
                                                · exact absurd c_351 c_305
                                              · refine lv_aload_n hx hb dX8_look_315 rfl (lv_at hl 0 rfl) ?_
                                                refine gf_X8_160 F hw 0 rfl rfl dX8_look_316 ?_
                                                refine lv_bipush (v := nI 40) hx hb dX8_look_319 (by decide) ?_
                                                refine lv_iload hx hb dX8_look_321 (lv_at hl 4 rfl) ?_
                                                refine n_add hx hb dX8_look_323 ?_
                                                refine ia_ld F hw 21 rfl (by omega) (by omega) dX8_look_324 ?_
                                                refine lv_aload_n hx hb dX8_look_325 rfl (lv_at hl 0 rfl) ?_
                                                refine lv_iload hx hb dX8_look_326 (lv_at hl 4 rfl) ?_
                                                refine lv_bipush (v := nI 9) hx hb dX8_look_328 (by decide) ?_
                                                refine cl_iF hw (rn_VF F hw (c_X8_codedAt g l md mfa 96 11 mnow mgr mmo mre msd mbg mky mli mrf mrn (nI k) u_16.1 u_16.2.1 u_16.2.2.1 u_16.2.2.2.1 u_16.2.2.2.2.1 u_16.2.2.2.2.2.1 mkn mkb mku mhp mpa mpb mit mus mid mbe mla msi mtx u_16.2.2.2.2.2.2 i 9 (by omega) (by omega)) (cw_X8_215 F.2.2.2.2 ⟨by decide, by decide⟩)    0 rfl rfl rfl hl.1 rfl (Nat.le_of_ble_eq_true rfl) dX8_look_330 ⟨Nat.zero_le _, Nat.zero_le _⟩) (fun v_23 u_22 H locs hp_24 hw => ?_)
                                                subst hp_24
                                                replace hw : Wd g s A H locs (mX g md mfa 96 11 mnow mgr mmo mre msd mbg mky mli mrf mrn (nI k) u_16.1 u_16.2.1 u_16.2.2.1 u_16.2.2.2.1 u_16.2.2.2.2.1 u_16.2.2.2.2.2.1 mkn mkb mku mhp mpa mpb mit mus mid mbe mla msi mtx u_16.2.2.2.2.2.2) := hw
                                                refine lv_icmp_ne (tgt := 340) hx hb dX8_look_333 (by decide) (fun c_333 => ?_) (fun c_333 => ?_)
                                                · refine lv_iconst (v := nI 0) hx hb dX8_look_340 (by decide) ?_
                                                  refine lv_istore (lv' := [(5, .int (nI 0)), (0, .ref (md 0)), (1, .int ch), (4, .int (nI n)), (6, .int (nI i))]) hx hb dX8_look_341 hl (by decide) rfl (fun ls hl => ?_)
                                                  refine lv_iinc (v := nI (i + 1)) (lv' := [(6, .int (nI (i + 1))), (5, .int (nI 0)), (0, .ref (md 0)), (1, .int ch), (4, .int (nI n))]) hx hb dX8_look_343 hl (k := 4) rfl (inc_n _ 1) (by decide) rfl (fun ls hl => ?_)
                                                  refine lv_goto (tgt := 303) hx hb dX8_look_346 (by decide) ?_
                                                  exact ih2 (i + 1) (by omega) (by omega) (nI 0) _ _ _ (by first | exact Or.inl ⟨rfl, (hi_i_0.resolve_right (fun h => c_305 h.1)).2.1, lt_s (hi_i_0.resolve_right (fun h => c_305 h.1)).2.2 c_333⟩ | exact Or.inr ⟨rfl, fun h => c_333 (h.2 i (by omega))⟩) hw (lv_sub hl [2, 3, 4, 1, 0] rfl)
                                                · refine lv_iconst (v := nI 1) hx hb dX8_look_336 (by decide) ?_
                                                  refine lv_goto (tgt := 341) hx hb dX8_look_337 (by decide) ?_
                                                  refine lv_istore (lv' := [(5, .int (nI 1)), (0, .ref (md 0)), (1, .int ch), (4, .int (nI n)), (6, .int (nI i))]) hx hb dX8_look_341 hl (by decide) rfl (fun ls hl => ?_)
                                                  refine lv_iinc (v := nI (i + 1)) (lv' := [(6, .int (nI (i + 1))), (5, .int (nI 1)), (0, .ref (md 0)), (1, .int ch), (4, .int (nI n))]) hx hb dX8_look_343 hl (k := 4) rfl (inc_n _ 1) (by decide) rfl (fun ls hl => ?_)
                                                  refine lv_goto (tgt := 303) hx hb dX8_look_346 (by decide) ?_
                                                  exact ih2 (i + 1) (by omega) (by omega) (nI 1) _ _ _ (by first | exact Or.inl ⟨rfl, (hi_i_0.resolve_right (fun h => c_305 h.1)).2.1, lt_s (hi_i_0.resolve_right (fun h => c_305 h.1)).2.2 c_333⟩ | exact Or.inr ⟨rfl, fun h => c_333 (h.2 i (by omega))⟩) hw (lv_sub hl [2, 3, 4, 1, 0] rfl)
                                        exact L_303 (12 + 1) 0 (by omega) (by omega) (nI 1) _ _ _ (Or.inl ⟨rfl, c_290, fun t h => absurd h (Nat.not_lt_zero t)⟩) hw (lv_sub hl [2, 3, 4, 1, 0] rfl)
                                  · refine lv_aload_n hx hb dX8_look_245 rfl (lv_at hl 0 rfl) ?_
                                    refine gf_X8_142 F hw 0 rfl rfl dX8_look_246 ?_
                                    refine lv_iload hx hb dX8_look_249 (lv_at hl 2 rfl) ?_
                                    refine lv_iconst (v := nI 0) hx hb dX8_look_251 (by decide) ?_
                                    refine za_st F hw 15 rfl (by omega) (by omega) nar0 dX8_look_252 (fun H locs hw => ?_)
                                    replace hw : Wd g s A H locs (mX g md mfa 96 10 mnow mgr mmo mre msd mbg mky mli mrf mrn (nI k) u_4.1 u_4.2.1 u_4.2.2.1 u_4.2.2.2.1 u_4.2.2.2.2.1 u_4.2.2.2.2.2 mkn mkb mku mhp mpa mpb (upd mit n (nI 0)) mus mid mbe mla msi mtx (rbM mtx mra)) := hw
                                    refine lv_aload_n hx hb dX8_look_253 rfl (lv_at hl 0 rfl) ?_
                                    refine lv_iload hx hb dX8_look_254 (lv_at hl 2 rfl) ?_
                                    refine cl_iF hw (rn_VF F hw (c_X8_isOld g l md mfa 96 10 mnow mgr mmo mre msd mbg mky mli mrf mrn (nI k) u_4.1 u_4.2.1 u_4.2.2.1 u_4.2.2.2.1 u_4.2.2.2.2.1 u_4.2.2.2.2.2 mkn mkb mku mhp mpa mpb (upd mit n (nI 0)) mus mid mbe mla msi mtx (rbM mtx mra) n (by omega)) (cw_X8_238 F.2.2.2.2 ⟨by decide, by decide⟩)    0 rfl rfl rfl hl.1 rfl (Nat.le_of_ble_eq_true rfl) dX8_look_256 ⟨Nat.zero_le _, Nat.zero_le _⟩) (fun v_26 u_25 H locs hp_27 hw => ?_)
                                    subst hp_27
                                    replace hw : Wd g s A H locs (mX g md mfa 96 10 mnow mgr mmo mre msd mbg mky mli mrf mrn (nI k) u_4.1 u_4.2.1 u_4.2.2.1 u_4.2.2.2.1 u_4.2.2.2.2.1 u_4.2.2.2.2.2 mkn mkb mku mhp mpa mpb (upd mit n (nI 0)) mus mid mbe mla msi mtx (rbM mtx mra)) := hw
                                    refine lv_if_eq (tgt := 267) hx hb dX8_look_259 (by decide) (fun c_259 => ?_) (fun c_259 => ?_)
                                    · refine lv_bipush (v := (-7)) hx hb dX8_look_267 (by decide) ?_
                                      exact rt_i F hr hlk hQ hw (u_4.1, u_4.2.1, u_4.2.2.1, u_4.2.2.2.1, u_4.2.2.2.2.1, u_4.2.2.2.2.2, (rbM mtx mra), (upd mit n (nI 0)), (nI k), 96, 10) (by first | exact Or.inr (Or.inr ⟨qf, k, hk, q2, rfl, Or.inr (Or.inr ⟨(fun i hi => (q4 i (by omega)).symm.trans (sl9 i hi)), n, hn, q5, q6, Or.inl ⟨c_233, rfl, rfl⟩⟩)⟩) | exact Or.inr (Or.inr ⟨qf, k, hk, q2, rfl, Or.inr (Or.inr ⟨(fun i hi => (q4 i (by omega)).symm.trans (sl9 i hi)), n, hn, q5, q6, Or.inr (Or.inl ⟨c_233, c_242, rfl, rfl⟩)⟩)⟩)) rfl dX8_look_269
                                    · exact absurd c_233 c_259
                              · refine lv_bipush (v := (-5)) hx hb dX8_look_224 (by decide) ?_
                                exact rt_i F hr hlk hQ hw (u_4.1, u_4.2.1, u_4.2.2.1, u_4.2.2.2.1, u_4.2.2.2.2.1, u_4.2.2.2.2.2, (rbM mtx mra), mit, (nI k), 96, 10) (Or.inr (Or.inr ⟨qf, k, hk, q2, rfl, Or.inr (Or.inl ⟨(fun i hi => (q4 i (by omega)).symm.trans (sl9 i hi)), fd_no c_221, rfl, rfl⟩)⟩)) rfl dX8_look_226
                            · have hj8 : j < 8 := Nat.lt_of_le_of_ne hk_j (fun h => c_163 ((dn_lt j hk_j).mpr h))
                              rw [show nI 7 - nI j = nI (7 - j) from pk_sub (by omega)] at hl
                              refine lv_aload_n hx hb dX8_look_166 rfl (lv_at hl 0 rfl) ?_
                              refine gf_X8_142 F hw 0 rfl rfl dX8_look_167 ?_
                              refine lv_iload hx hb dX8_look_170 (lv_at hl 3 rfl) ?_
                              refine za_ld F hw 15 rfl (by omega) (by omega) dX8_look_172 ?_
                              refine lv_if_eq (tgt := 209) hx hb dX8_look_173 (by decide) (fun c_173 => ?_) (fun c_173 => ?_)
                              · refine lv_iload hx hb dX8_look_209 (lv_at hl 2 rfl) ?_
                                refine lv_istore (lv' := [(4, .int ((fdM mit mus mid (rbM mtx mra 1) (rdL (rbM mtx mra) 2 8) j))), (0, .ref (md 0)), (1, .int ch), (5, .int (nI (7 - j))), (2, .long ((rdL (rbM mtx mra) 2 8)))]) hx hb dX8_look_211 hl (by decide) rfl (fun ls hl => ?_)
                                refine lv_iinc (v := (nI (7 - j) + -1)) (lv' := [(5, .int ((nI (7 - j) + -1))), (4, .int ((fdM mit mus mid (rbM mtx mra 1) (rdL (rbM mtx mra) 2 8) j))), (0, .ref (md 0)), (1, .int ch), (2, .long ((rdL (rbM mtx mra) 2 8)))]) hx hb dX8_look_213 hl (k := 3) rfl (rfl) (by decide) rfl (fun ls hl => ?_)
                                refine lv_goto (tgt := 161) hx hb dX8_look_216 (by decide) ?_
                                rw [dn_s j (by omega)] at hl
                                first | rw [← fd_0 c_173] at hl | rw [← fd_1 c_173 c_184] at hl | rw [← fd_2 c_173 c_184 c_201] at hl | rw [← fd_3 c_173 c_184 c_201] at hl
                                exact ih (j + 1) (by omega) (by omega) _ _ _ hw (lv_sub hl [2, 3, 1, 0, 4] rfl)
                              · refine lv_aload_n hx hb dX8_look_176 rfl (lv_at hl 0 rfl) ?_
                                refine gf_X8_148 F hw 0 rfl rfl dX8_look_177 ?_
                                refine lv_iload hx hb dX8_look_180 (lv_at hl 3 rfl) ?_
                                refine ja_ld F hw 17 rfl (by omega) (by omega) dX8_look_182 ?_
                                refine lv_lload_n hx hb dX8_look_183 rfl (lv_at hl 4 rfl) ?_
                                refine lc_ne (tgt := 209) hx hb dX8_look_184 dX8_look_185 (by decide) (fun c_184 => ?_) (fun c_184 => ?_)
                                · refine lv_iload hx hb dX8_look_209 (lv_at hl 2 rfl) ?_
                                  refine lv_istore (lv' := [(4, .int ((fdM mit mus mid (rbM mtx mra 1) (rdL (rbM mtx mra) 2 8) j))), (0, .ref (md 0)), (1, .int ch), (5, .int (nI (7 - j))), (2, .long ((rdL (rbM mtx mra) 2 8)))]) hx hb dX8_look_211 hl (by decide) rfl (fun ls hl => ?_)
                                  refine lv_iinc (v := (nI (7 - j) + -1)) (lv' := [(5, .int ((nI (7 - j) + -1))), (4, .int ((fdM mit mus mid (rbM mtx mra 1) (rdL (rbM mtx mra) 2 8) j))), (0, .ref (md 0)), (1, .int ch), (2, .long ((rdL (rbM mtx mra) 2 8)))]) hx hb dX8_look_213 hl (k := 3) rfl (rfl) (by decide) rfl (fun ls hl => ?_)
                                  refine lv_goto (tgt := 161) hx hb dX8_look_216 (by decide) ?_
                                  rw [dn_s j (by omega)] at hl
                                  first | rw [← fd_0 c_173] at hl | rw [← fd_1 c_173 c_184] at hl | rw [← fd_2 c_173 c_184 c_201] at hl | rw [← fd_3 c_173 c_184 c_201] at hl
                                  exact ih (j + 1) (by omega) (by omega) _ _ _ hw (lv_sub hl [2, 3, 1, 0, 4] rfl)
                                · refine lv_aload_n hx hb dX8_look_188 rfl (lv_at hl 0 rfl) ?_
                                  refine gf_X8_145 F hw 0 rfl rfl dX8_look_189 ?_
                                  refine lv_iload hx hb dX8_look_192 (lv_at hl 3 rfl) ?_
                                  refine ia_ld F hw 16 rfl (by omega) (by omega) dX8_look_194 ?_
                                  refine lv_aload_n hx hb dX8_look_195 rfl (lv_at hl 0 rfl) ?_
                                  refine gf_X8_163 F hw 0 rfl rfl dX8_look_196 ?_
                                  refine lv_iconst (v := nI 1) hx hb dX8_look_199 (by decide) ?_
                                  refine ia_ld F hw 22 rfl (by omega) (by omega) dX8_look_200 ?_
                                  refine lv_icmp_ne (tgt := 209) hx hb dX8_look_201 (by decide) (fun c_201 => ?_) (fun c_201 => ?_)
                                  · refine lv_iload hx hb dX8_look_209 (lv_at hl 2 rfl) ?_
                                    refine lv_istore (lv' := [(4, .int ((fdM mit mus mid (rbM mtx mra 1) (rdL (rbM mtx mra) 2 8) j))), (0, .ref (md 0)), (1, .int ch), (5, .int (nI (7 - j))), (2, .long ((rdL (rbM mtx mra) 2 8)))]) hx hb dX8_look_211 hl (by decide) rfl (fun ls hl => ?_)
                                    refine lv_iinc (v := (nI (7 - j) + -1)) (lv' := [(5, .int ((nI (7 - j) + -1))), (4, .int ((fdM mit mus mid (rbM mtx mra 1) (rdL (rbM mtx mra) 2 8) j))), (0, .ref (md 0)), (1, .int ch), (2, .long ((rdL (rbM mtx mra) 2 8)))]) hx hb dX8_look_213 hl (k := 3) rfl (rfl) (by decide) rfl (fun ls hl => ?_)
                                    refine lv_goto (tgt := 161) hx hb dX8_look_216 (by decide) ?_
                                    rw [dn_s j (by omega)] at hl
                                    first | rw [← fd_0 c_173] at hl | rw [← fd_1 c_173 c_184] at hl | rw [← fd_2 c_173 c_184 c_201] at hl | rw [← fd_3 c_173 c_184 c_201] at hl
                                    exact ih (j + 1) (by omega) (by omega) _ _ _ hw (lv_sub hl [2, 3, 1, 0, 4] rfl)
                                  · refine lv_iload hx hb dX8_look_204 (lv_at hl 3 rfl) ?_
                                    refine lv_goto (tgt := 211) hx hb dX8_look_206 (by decide) ?_
                                    refine lv_istore (lv' := [(4, .int (nI (7 - j))), (0, .ref (md 0)), (1, .int ch), (5, .int (nI (7 - j))), (2, .long ((rdL (rbM mtx mra) 2 8)))]) hx hb dX8_look_211 hl (by decide) rfl (fun ls hl => ?_)
                                    refine lv_iinc (v := (nI (7 - j) + -1)) (lv' := [(5, .int ((nI (7 - j) + -1))), (4, .int (nI (7 - j))), (0, .ref (md 0)), (1, .int ch), (2, .long ((rdL (rbM mtx mra) 2 8)))]) hx hb dX8_look_213 hl (k := 3) rfl (rfl) (by decide) rfl (fun ls hl => ?_)
                                    refine lv_goto (tgt := 161) hx hb dX8_look_216 (by decide) ?_
                                    rw [dn_s j (by omega)] at hl
                                    first | rw [← fd_0 c_173] at hl | rw [← fd_1 c_173 c_184] at hl | rw [← fd_2 c_173 c_184 c_201] at hl | rw [← fd_3 c_173 c_184 c_201] at hl
                                    exact ih (j + 1) (by omega) (by omega) _ _ _ hw (lv_sub hl [2, 3, 1, 0, 4] rfl)
                        exact L_161 (8 + 1) 0 (by omega) (by omega) _ _ _ hw (lv_sub hl [2, 3, 1, 0, 4] rfl)
                      · refine lv_lload_n hx hb dX8_look_132 rfl (lv_at hl 2 rfl) ?_
                        refine lv_bipush (v := nI 8) hx hb dX8_look_133 (by decide) ?_
                        refine lv_lshl (v := lshl (rdL (rbM mtx mra) 2 a) (nI 8)) hx hb dX8_look_135 rfl ?_
                        refine lv_aload_n hx hb dX8_look_136 rfl (lv_at hl 0 rfl) ?_
                        refine gf_X8_163 F hw 0 rfl rfl dX8_look_137 ?_
                        refine lv_iconst (v := nI 2) hx hb dX8_look_140 (by decide) ?_
                        refine lv_iload hx hb dX8_look_141 (lv_at hl 3 rfl) ?_
                        refine n_add hx hb dX8_look_143 ?_
                        refine ia_ld F hw 22 rfl (by omega) (by omega) dX8_look_144 ?_
                        refine lv_i2l (v := (((rbM mtx mra) (2 + a))).toInt64) hx hb dX8_look_145 rfl ?_
                        refine lv_lor hx hb dX8_look_146 ?_
                        refine lv_lstore_n (lv' := [(2, .long (((lshl (rdL (rbM mtx mra) 2 a) (nI 8)) ||| ((((rbM mtx mra) (2 + a))).toInt64)))), (0, .ref (md 0)), (1, .int ch), (4, .int (nI a))]) hx hb dX8_look_147 rfl hl (by decide) rfl (fun ls hl => ?_)
                        refine lv_iinc (v := nI (a + 1)) (lv' := [(4, .int (nI (a + 1))), (2, .long (((lshl (rdL (rbM mtx mra) 2 a) (nI 8)) ||| ((((rbM mtx mra) (2 + a))).toInt64)))), (0, .ref (md 0)), (1, .int ch)]) hx hb dX8_look_148 hl (k := 3) rfl (inc_n _ 1) (by decide) rfl (fun ls hl => ?_)
                        refine lv_goto (tgt := 125) hx hb dX8_look_151 (by decide) ?_
                        exact ih (a + 1) (by omega) (by omega) _ _ _ hw (lv_sub hl [2, 3, 1, 0] rfl)
                  exact L_125 (8 + 1) 0 (by omega) (by omega) _ _ _ hw (lv_sub hl [2, 3, 1, 0] rfl)
                · refine lv_aload_n hx hb dX8_look_93 rfl (lv_at hl 0 rfl) ?_
                  refine gf_X8_97 F hw 0 rfl rfl dX8_look_94 ?_
                  refine lv_iload_n hx hb dX8_look_97 rfl (lv_at hl 2 rfl) ?_
                  refine ia_ld F hw 6 rfl (by omega) (by omega) dX8_look_98 ?_
                  refine lv_aload_n hx hb dX8_look_99 rfl (lv_at hl 0 rfl) ?_
                  refine gf_X8_163 F hw 0 rfl rfl dX8_look_100 ?_
                  refine lv_bipush (v := nI 10) hx hb dX8_look_103 (by decide) ?_
                  refine lv_iload_n hx hb dX8_look_105 rfl (lv_at hl 2 rfl) ?_
                  refine n_add hx hb dX8_look_106 ?_
                  refine ia_ld F hw 22 rfl (by omega) (by omega) dX8_look_107 ?_
                  refine lv_icmp_eq (tgt := 114) hx hb dX8_look_108 (by decide) (fun c_108 => ?_) (fun c_108 => ?_)
                  · refine lv_iinc (v := nI (i + 1)) (lv' := [(2, .int (nI (i + 1))), (0, .ref (md 0)), (1, .int ch)]) hx hb dX8_look_114 hl (k := 2) rfl (inc_n _ 1) (by decide) rfl (fun ls hl => ?_)
                    refine lv_goto (tgt := 87) hx hb dX8_look_117 (by decide) ?_
                    exact ih (i + 1) (by omega) (by omega) _ _ _ (lt_s hi_i_0 c_108) hw (lv_sub hl [1, 2, 0] rfl)
                  · refine lv_bipush (v := (-4)) hx hb dX8_look_111 (by decide) ?_
                    exact rt_i F hr hlk hQ hw (u_4.1, u_4.2.1, u_4.2.2.1, u_4.2.2.2.1, u_4.2.2.2.2.1, u_4.2.2.2.2.2, (rbM mtx mra), mit, (nI k), 96, 10) (Or.inr (Or.inr ⟨qf, k, hk, q2, rfl, Or.inl ⟨fun h => c_108 ((q4 i (by omega)).trans (h i (by omega))), rfl, rfl⟩⟩)) rfl dX8_look_113
            exact L_87 (12 + 1) 0 (by omega) (by omega) _ _ _ (fun i h => absurd h (Nat.not_lt_zero i)) hw (lv_sub hl [1, 2, 0] rfl)
          · refine lv_bipush (v := (-3)) hx hb dX8_look_73 (by decide) ?_
            exact rt_i F hr hlk hQ hw (mta, mwd, mms, mhs, mke, msa, (rbM mtx mra), mit, (kaM mky mku mnow mgr mkn (rbM mtx mra 0) mky), mmz, msz) (Or.inr (Or.inl ⟨qf, ka_no (by omega) c_70, rfl, rfl⟩)) rfl dX8_look_75
        · refine lv_aload_n hx hb dX8_look_25 rfl (lv_at hl 0 rfl) ?_
          refine lv_aload_n hx hb dX8_look_26 rfl (lv_at hl 0 rfl) ?_
          refine lv_iload_n hx hb dX8_look_27 rfl (lv_at hl 2 rfl) ?_
          refine cl_iF hw (rn_VF F hw (c_X8_isLive g l md mfa mmz msz mnow mgr mmo mre msd mbg mky mli mrf mrn (kaM mky mku mnow mgr mkn (rbM mtx mra 0) k) mta mwd mms mhs mke msa mkn mkb mku mhp mpa mpb mit mus mid mbe mla msi mtx (rbM mtx mra) k (by omega) (by omega) (by omega)) (cw_X8_261 F.2.2.2.2 ⟨by decide, by decide⟩)    0 rfl rfl rfl hl.1 rfl (Nat.le_of_ble_eq_true rfl) dX8_look_28 ⟨Nat.zero_le _, Nat.zero_le _⟩) (fun v_29 u_28 H locs hp_30 hw => ?_)
          subst hp_30
          replace hw : Wd g s A H locs (mX g md mfa mmz msz mnow mgr mmo mre msd mbg mky mli mrf mrn (kaM mky mku mnow mgr mkn (rbM mtx mra 0) k) mta mwd mms mhs mke msa mkn mkb mku mhp mpa mpb mit mus mid mbe mla msi mtx (rbM mtx mra)) := hw
          refine lv_if_eq (tgt := 53) hx hb dX8_look_31 (by decide) (fun c_31 => ?_) (fun c_31 => ?_)
          · refine lv_aload_n hx hb dX8_look_53 rfl (lv_at hl 0 rfl) ?_
            refine gf_X8_258 F hw 0 rfl rfl dX8_look_54 ?_
            refine pf_X8_258 F hw 0 rfl (Nat.le_of_ble_eq_true rfl) rfl rfl dX8_look_57 (fun H locs hw => ?_)
            replace hw : Wd g s A H locs (mX g md mfa mmz msz mnow mgr mmo mre msd mbg mky mli mrf mrn (kaM mky mku mnow mgr mkn (rbM mtx mra 0) k) mta mwd mms mhs mke msa mkn mkb mku mhp mpa mpb mit mus mid mbe mla msi mtx (rbM mtx mra)) := hw
            refine lv_iinc (v := nI (k + 1)) (lv' := [(2, .int (nI (k + 1))), (0, .ref (md 0)), (1, .int ch)]) hx hb dX8_look_60 hl (k := 2) rfl (inc_n _ 1) (by decide) rfl (fun ls hl => ?_)
            refine lv_goto (tgt := 17) hx hb dX8_look_63 (by decide) ?_
            exact ih (k + 1) (by omega) (by omega) _ _ _ (by first | (rw [ka_0 c_31]; exact hw) | (rw [ka_1 c_31 c_46]; exact hw) | (rw [ka_2 c_31 c_46]; exact hw)) (lv_sub hl [1, 2, 0] rfl)
          · refine lv_aload_n hx hb dX8_look_34 rfl (lv_at hl 0 rfl) ?_
            refine gf_X8_122 F hw 0 rfl rfl dX8_look_35 ?_
            refine lv_iload_n hx hb dX8_look_38 rfl (lv_at hl 2 rfl) ?_
            refine ia_ld F hw 9 rfl (by omega) (by omega) dX8_look_39 ?_
            refine lv_aload_n hx hb dX8_look_40 rfl (lv_at hl 0 rfl) ?_
            refine gf_X8_163 F hw 0 rfl rfl dX8_look_41 ?_
            refine lv_iconst (v := nI 0) hx hb dX8_look_44 (by decide) ?_
            refine ia_ld F hw 22 rfl (by omega) (by omega) dX8_look_45 ?_
            refine lv_icmp_ne (tgt := 53) hx hb dX8_look_46 (by decide) (fun c_46 => ?_) (fun c_46 => ?_)
            · refine lv_aload_n hx hb dX8_look_53 rfl (lv_at hl 0 rfl) ?_
              refine gf_X8_258 F hw 0 rfl rfl dX8_look_54 ?_
              refine pf_X8_258 F hw 0 rfl (Nat.le_of_ble_eq_true rfl) rfl rfl dX8_look_57 (fun H locs hw => ?_)
              replace hw : Wd g s A H locs (mX g md mfa mmz msz mnow mgr mmo mre msd mbg mky mli mrf mrn (kaM mky mku mnow mgr mkn (rbM mtx mra 0) k) mta mwd mms mhs mke msa mkn mkb mku mhp mpa mpb mit mus mid mbe mla msi mtx (rbM mtx mra)) := hw
              refine lv_iinc (v := nI (k + 1)) (lv' := [(2, .int (nI (k + 1))), (0, .ref (md 0)), (1, .int ch)]) hx hb dX8_look_60 hl (k := 2) rfl (inc_n _ 1) (by decide) rfl (fun ls hl => ?_)
              refine lv_goto (tgt := 17) hx hb dX8_look_63 (by decide) ?_
              exact ih (k + 1) (by omega) (by omega) _ _ _ (by first | (rw [ka_0 c_31]; exact hw) | (rw [ka_1 c_31 c_46]; exact hw) | (rw [ka_2 c_31 c_46]; exact hw)) (lv_sub hl [1, 2, 0] rfl)
            · refine lv_iload_n hx hb dX8_look_49 rfl (lv_at hl 2 rfl) ?_
              refine lv_goto (tgt := 57) hx hb dX8_look_50 (by decide) ?_
              refine pf_X8_258 F hw 0 rfl (Nat.le_of_ble_eq_true rfl) rfl rfl dX8_look_57 (fun H locs hw => ?_)
              replace hw : Wd g s A H locs (mX g md mfa mmz msz mnow mgr mmo mre msd mbg mky mli mrf mrn (nI k) mta mwd mms mhs mke msa mkn mkb mku mhp mpa mpb mit mus mid mbe mla msi mtx (rbM mtx mra)) := hw
              refine lv_iinc (v := nI (k + 1)) (lv' := [(2, .int (nI (k + 1))), (0, .ref (md 0)), (1, .int ch)]) hx hb dX8_look_60 hl (k := 2) rfl (inc_n _ 1) (by decide) rfl (fun ls hl => ?_)
              refine lv_goto (tgt := 17) hx hb dX8_look_63 (by decide) ?_
              exact ih (k + 1) (by omega) (by omega) _ _ _ (by first | (rw [ka_0 c_31]; exact hw) | (rw [ka_1 c_31 c_46]; exact hw) | (rw [ka_2 c_31 c_46]; exact hw)) (lv_sub hl [1, 2, 0] rfl)
    exact L_17 (mky + 1) 0 (by omega) (by omega) _ _ _ hw (lv_sub hl [1, 2, 0] rfl)
  · refine lv_bipush (v := (-2)) hx hb dX8_look_7 (by decide) ?_
    exact rt_i F hr hlk hQ hw (mta, mwd, mms, mhs, mke, msa, u_1, mit, mka, mmz, msz) (Or.inl ⟨by rcases q1 with q | q; exact absurd (q.1.symm.trans c_4) (by decide); exact q.2, rfl, rfl⟩) rfl dX8_look_9
