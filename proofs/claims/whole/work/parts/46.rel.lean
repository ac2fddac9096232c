/-! THE RELATION of the class's state and the reference's -/
def pl (kept np t : Nat) : Nat := (np + 4 - (kept - 1 - t)) % 4
def KR (kept np : Nat) (num : Nat → Int32) (rep : Nat → Int64) (kf : Nat → Nat → Int32) (mkn : Nat → Int32) (mku : Nat → Int64) (mkb : Nat → Int32) : Prop :=
  1 ≤ kept ∧ kept ≤ 4 ∧ np < 4 ∧ (kept < 4 → np + 1 = kept) ∧ ∃ a0, a0 < 256 ∧ ∀ t, t < kept → mkn t = nI ((a0 + 256 - (kept - 1 - t)) % 256) ∧ mkn t = num (pl kept np t) ∧ (t + 1 < kept → mku t = rep (pl kept np t)) ∧ ∀ i, i < 16 → k16 mkb t i = kf (pl kept np t) i
def SR (sop mit : Nat → Int32) : Prop := ∀ k, k < 8 → (mit k = 0 ↔ sop k = 0)
def TR (cl : Nat) (cf : Nat → Int32) (tn : Nat) (tf msi mtx : Nat → Int32) : Prop :=
  cl ≤ 40 ∧ tn ≤ 40 ∧ isB cf ∧ isB tf ∧ msi 0 = nI cl ∧ msi 1 = nI tn ∧ (∀ j, j < cl → mtx j = cf j) ∧ (∀ j, j < tn → mtx (40 + j) = tf j)
def BR (n : Nat) (sdf : Nat → Int32) (bgn : Int32) (msd mbg : Int64) : Prop := (∀ j, j < 8 → sdf j = byL msd j) ∧ ∃ b, b ≤ n ∧ bgn = nI b ∧ mbg = lN b
def OR (sow : Nat → Int32) : Prop := ∀ k, k < 8 → (sow k).toBitVec.toNat < 256
section KRs
variable {kept np : Nat} {num : Nat → Int32} {rep : Nat → Int64} {kf : Nat → Nat → Int32} {mkn : Nat → Int32} {mku : Nat → Int64} {mkb : Nat → Int32} {now gr : Int64} {x : Int32}
theorem pl_lt (kept np t : Nat) : pl kept np t < 4 := Nat.mod_lt _ (by omega)
theorem pl_kept (h : KR kept np num rep kf mkn mku mkb) {t : Nat} (ht : t < kept) : pl kept np t < kept := by
  obtain ⟨h1, h2, h3, h4, -⟩ := h
  unfold pl
  by_cases hk : kept = 4
  · omega
  · have := h4 (by omega)
    omega
theorem pl_top (h : KR kept np num rep kf mkn mku mkb) : pl kept np (kept - 1) = np := by
  obtain ⟨h1, h2, h3, h4, -⟩ := h
  unfold pl
  omega
theorem pl_np (h : KR kept np num rep kf mkn mku mkb) {t : Nat} (ht : t + 1 < kept) : ¬ pl kept np t = np := by
  obtain ⟨h1, h2, h3, h4, -⟩ := h
  unfold pl
  omega
theorem pl_back (h : KR kept np num rep kf mkn mku mkb) {k : Nat} (hk : k < kept) : ∃ t, t < kept ∧ pl kept np t = k := by
  obtain ⟨h1, h2, h3, h4, -⟩ := h
  unfold pl
  by_cases h5 : kept = 4
  · exact ⟨(k + 7 - np) % 4, by omega, by omega⟩
  · have := h4 (by omega)
    exact ⟨k, hk, by omega⟩
theorem kr_live (h : KR kept np num rep kf mkn mku mkb) {t : Nat} (ht : t < kept) : lvI kept np rep now gr (pl kept np t) = lvM kept mku now gr t := by
  unfold lvI lvM
  rw [if_pos (pl_kept h ht)]
  by_cases e : t = kept - 1
  · rw [if_pos e, if_pos (by rw [e]; exact pl_top h)]
  · have h1 := h.1
    rw [if_neg e, if_neg (pl_np h (by omega))]
    obtain ⟨a0, -, ha⟩ := h.2.2.2.2
    rw [(ha t ht).2.2.1 (by omega)]
theorem kr_lk (h : KR kept np num rep kf mkn mku mkb) {k : Nat} (hl : lkP kept np num rep now gr x k) : ∃ t, t < kept ∧ pl kept np t = k ∧ lmP kept mku now gr mkn x t := by
  have hk : k < kept := by
    rcases Nat.lt_or_ge k kept with hk | hk
    · exact hk
    · exact absurd (by unfold lvI; rw [if_neg (by omega)]; rfl) hl.1
  obtain ⟨t, ht, rfl⟩ := pl_back h hk
  obtain ⟨a0, -, ha⟩ := h.2.2.2.2
  exact ⟨t, ht, rfl, by rw [← kr_live h ht]; exact hl.1, (ha t ht).2.1.trans hl.2⟩
theorem kr_lm (h : KR kept np num rep kf mkn mku mkb) {t : Nat} (ht : t < kept) (hl : lmP kept mku now gr mkn x t) : lkP kept np num rep now gr x (pl kept np t) := by
  obtain ⟨a0, -, ha⟩ := h.2.2.2.2
  exact ⟨by rw [kr_live h ht]; exact hl.1, (ha t ht).2.1.symm.trans hl.2⟩
theorem nI_256 : ∀ a, a < 256 → (nI a).toBitVec.toNat = a := by decide +kernel
theorem nI_i256 {a b : Nat} (ha : a < 256) (hb : b < 256) (h : nI a = nI b) : a = b := by
  have := congrArg (fun z : Int32 => z.toBitVec.toNat) h
  simp only [nI_256 a ha, nI_256 b hb] at this
  exact this
theorem kr_inj (h : KR kept np num rep kf mkn mku mkb) {t t' : Nat} (ht : t < kept) (ht' : t' < kept) (e : mkn t = mkn t') : t = t' := by
  obtain ⟨h1, h2, h3, h4, a0, ha0, ha⟩ := h
  rw [(ha t ht).1, (ha t' ht').1] at e
  have := nI_i256 (by omega) (by omega) e
  omega
theorem kr_num (h : KR kept np num rep kf mkn mku mkb) {t : Nat} (ht : t < kept) : (mkn t).toBitVec.toNat < 256 := by
  obtain ⟨h1, h2, h3, h4, a0, ha0, ha⟩ := h
  rw [(ha t ht).1, nI_256 _ (by omega)]
  omega
theorem kr_top (h : KR kept np num rep kf mkn mku mkb) : mkn (kept - 1) = num np := by
  have e := pl_top h
  obtain ⟨h1, h2, h3, h4, a0, ha0, ha⟩ := h
  have := (ha (kept - 1) (by omega)).2.1
  rw [e] at this
  exact this
theorem kr_key (h : KR kept np num rep kf mkn mku mkb) : ∀ i, i < 16 → k16 mkb (kept - 1) i = kf np i := by
  have e := pl_top h
  obtain ⟨h1, h2, h3, h4, a0, ha0, ha⟩ := h
  have := (ha (kept - 1) (by omega)).2.2.2
  rw [e] at this
  exact this
end KRs
theorem cnt_iff {P P' : Nat → Int32} : ∀ k, (∀ j, j < k → (P j = 0 ↔ P' j = 0)) → cntL P k = cntL P' k := by
  intro k
  induction k with
  | zero => intro _; rfl
  | succ k ih =>
    intro h
    have h1 := ih (fun j hj => h j (by omega))
    by_cases e : P k = 0
    · rw [cnt_0 e, cnt_0 ((h k (by omega)).mp e), h1]
    · rw [cnt_1 e, cnt_1 (fun q => e ((h k (by omega)).mpr q)), h1]
def bz (x : Int32) : Nat := if x = 0 then 0 else 1
theorem cnt_s (P : Nat → Int32) (k : Nat) : cntL P (k + 1) = cntL P k + bz (P k) := by
  unfold bz
  by_cases e : P k = 0
  · rw [cnt_0 e, if_pos e]; rfl
  · rw [cnt_1 e, if_neg e]
theorem kr_cnt {kept np : Nat} {num : Nat → Int32} {rep : Nat → Int64} {kf : Nat → Nat → Int32} {mkn : Nat → Int32} {mku : Nat → Int64} {mkb : Nat → Int32} {now gr : Int64} (h : KR kept np num rep kf mkn mku mkb) : cntL (lvI kept np rep now gr) 4 = cntL (lvK kept mku now gr) 8 := by
  have hl : ∀ t, t < kept → lvI kept np rep now gr (pl kept np t) = lvM kept mku now gr t := fun t ht => kr_live h ht
  have hz : ∀ k, kept ≤ k → lvI kept np rep now gr k = nI 0 := fun k hk => by unfold lvI; rw [if_neg (by omega)]
  have hy : ∀ k, kept ≤ k → lvK kept mku now gr k = nI 0 := fun k hk => by unfold lvK; rw [if_neg (by omega)]
  have hx : ∀ k, k < kept → lvK kept mku now gr k = lvM kept mku now gr k := fun k hk => by unfold lvK; rw [if_pos hk]
  have bz0 : bz (nI 0) = 0 := rfl
  simp only [cnt_s, show (8 : Nat) = 7 + 1 from rfl]
  have e0 : ∀ P : Nat → Int32, cntL P 0 = 0 := fun _ => rfl
  simp only [e0, Nat.zero_add]
  obtain ⟨h1, h2, h3, h4, -⟩ := h
  rw [hy 4 (by omega), hy 5 (by omega), hy 6 (by omega), hy 7 (by omega)]
  have hc : kept = 1 ∨ kept = 2 ∨ kept = 3 ∨ kept = 4 := by omega
  rcases hc with rfl | rfl | rfl | rfl
  · obtain rfl : np = 0 := by have := h4 (by omega); omega
    rw [hx 0 (by omega), ← hl 0 (by omega), hy 1 (by omega), hy 2 (by omega), hy 3 (by omega), hz 1 (by omega), hz 2 (by omega), hz 3 (by omega)]
    rfl
  · obtain rfl : np = 1 := by have := h4 (by omega); omega
    rw [hx 0 (by omega), ← hl 0 (by omega), hx 1 (by omega), ← hl 1 (by omega), hy 2 (by omega), hy 3 (by omega), hz 2 (by omega), hz 3 (by omega)]
    rfl
  · obtain rfl : np = 2 := by have := h4 (by omega); omega
    rw [hx 0 (by omega), ← hl 0 (by omega), hx 1 (by omega), ← hl 1 (by omega), hx 2 (by omega), ← hl 2 (by omega), hy 3 (by omega), hz 3 (by omega)]
    rfl
  · rw [hx 0 (by omega), ← hl 0 (by omega), hx 1 (by omega), ← hl 1 (by omega), hx 2 (by omega), ← hl 2 (by omega), hx 3 (by omega), ← hl 3 (by omega), bz0]
    have hc : np = 0 ∨ np = 1 ∨ np = 2 ∨ np = 3 := by omega
    rcases hc with rfl | rfl | rfl | rfl
    · rw [show pl 4 0 0 = 1 from rfl, show pl 4 0 1 = 2 from rfl, show pl 4 0 2 = 3 from rfl, show pl 4 0 3 = 0 from rfl]; omega
    · rw [show pl 4 1 0 = 2 from rfl, show pl 4 1 1 = 3 from rfl, show pl 4 1 2 = 0 from rfl, show pl 4 1 3 = 1 from rfl]; omega
    · rw [show pl 4 2 0 = 3 from rfl, show pl 4 2 1 = 0 from rfl, show pl 4 2 2 = 1 from rfl, show pl 4 2 3 = 2 from rfl]; omega
    · rw [show pl 4 3 0 = 0 from rfl, show pl 4 3 1 = 1 from rfl, show pl 4 3 2 = 2 from rfl, show pl 4 3 3 = 3 from rfl]; omega
/-- a key is changed -/
theorem flK_get (a b c d : Int32) (f : Nat → Int32) : ∀ i, i < 16 → flK a b c d f 4 i = byO (wd4 a b c d i) (i % 4) := by
  intro i hi
  have hc : i = 0 ∨ i = 1 ∨ i = 2 ∨ i = 3 ∨ i = 4 ∨ i = 5 ∨ i = 6 ∨ i = 7 ∨ i = 8 ∨ i = 9 ∨ i = 10 ∨ i = 11 ∨ i = 12 ∨ i = 13 ∨ i = 14 ∨ i = 15 := by omega
  rcases hc with rfl | rfl | rfl | rfl | rfl | rfl | rfl | rfl | rfl | rfl | rfl | rfl | rfl | rfl | rfl | rfl <;> rfl
theorem inc255 : ∀ a, a < 256 → (nI a + nI 1) &&& nI 255 = nI ((a + 1) % 256) := by decide +kernel
theorem kr_change {kept np : Nat} {num : Nat → Int32} {rep : Nat → Int64} {kf : Nat → Nat → Int32} {mkn : Nat → Int32} {mku : Nat → Int64} {mkb : Nat → Int32} {now : Int64} {pa pb pc pd : Int32} {a0 : Nat} {u1 : Nat} {n2 : Nat → Int32} {u2 : Nat → Int64} {b2 : Nat → Int32} {z ky2 : Nat}
    (h : KR kept np num rep kf mkn mku mkb) (ha0 : a0 < 256) (hkn : mkn (kept - 1) = nI a0) (hu1 : u1 = if kept < 4 then kept + 1 else kept)
    (hz : (z = 0 ∧ kept < 4 ∧ ky2 = kept + 1) ∨ (z = 1 ∧ kept = 4 ∧ ky2 = 4))
    (ht : ∀ t, t < ky2 → (n2 t = (upd mkn kept (nI ((a0 + 1) % 256))) (t + z) ∧ u2 t = (vp_updL mku (kept - 1) now) (t + z) ∧ ∀ i, i < 16 → k16 b2 t i = k16 (chF pa pb pc pd kept mkb 16) (t + z) i)) :
    u1 = ky2 ∧ (num np + nI 1) &&& nI 255 = nI ((a0 + 1) % 256) ∧ KR ky2 ((np + 1) % 4) (upd num ((np + 1) % 4) ((num np + nI 1) &&& nI 255)) (vp_updL rep np now) (va_up kf ((np + 1) % 4) (flK pa pb pc pd (kf ((np + 1) % 4)) 4)) n2 u2 b2 := by
  have htop := pl_top h
  have hkt := kr_top h
  have hpn : ∀ t, t + 1 < kept → ¬ pl kept np t = np := fun t ht => pl_np h ht
  obtain ⟨h1, h2, h3, h4, a1, ha1, ha⟩ := h
  have e1 : a1 = a0 := by
    have := (ha (kept - 1) (by omega)).1
    rw [hkn] at this
    have := nI_i256 ha0 (by omega) this
    omega
  subst e1
  have hv : (num np + nI 1) &&& nI 255 = nI ((a1 + 1) % 256) := by rw [← hkt, hkn]; exact inc255 a1 ha0
  refine ⟨?_, hv, ?_⟩
  · rcases hz with ⟨-, h5, h6⟩ | ⟨-, h5, h6⟩
    · rw [hu1, if_pos h5, h6]
    · rw [hu1, if_neg (by omega), h6, h5]
  have hky : ky2 + z = kept + 1 := by omega
  refine ⟨by omega, by omega, Nat.mod_lt _ (by omega), fun h5 => ?_, (a1 + 1) % 256, Nat.mod_lt _ (by omega), fun t htk => ?_⟩
  · have := h4 (by omega)
    omega
  obtain ⟨q1, q2, q3⟩ := ht t htk
  by_cases et : t + z = kept
  · have ep : pl ky2 ((np + 1) % 4) t = (np + 1) % 4 := by unfold pl; omega
    rw [ep, q1, et, upd_s, upd_s, hv]
    refine ⟨?_, rfl, fun h5 => absurd h5 (by omega), fun i hi => ?_⟩
    · congr 1; omega
    · rw [q3 i hi, et]
      unfold k16
      rw [chF_get, if_pos (by omega), show 16 * kept + i - 16 * kept = i by omega]
      show _ = va_up kf ((np + 1) % 4) _ ((np + 1) % 4) i
      rw [show va_up kf ((np + 1) % 4) (flK pa pb pc pd (kf ((np + 1) % 4)) 4) ((np + 1) % 4) = flK pa pb pc pd (kf ((np + 1) % 4)) 4 by simp [va_up], flK_get _ _ _ _ _ i hi]
  · have htz : t + z < kept := by omega
    have ep : pl ky2 ((np + 1) % 4) t = pl kept np (t + z) := by unfold pl; omega
    have en : ¬ pl kept np (t + z) = (np + 1) % 4 := by unfold pl; omega
    obtain ⟨r1, r2, r3, r4⟩ := ha (t + z) htz
    rw [ep, q1, upd_n _ _ et, upd_n _ _ en]
    refine ⟨?_, r2, fun _ => ?_, fun i hi => ?_⟩
    · rw [r1]; congr 1; omega
    · rw [q2]
      by_cases e2 : t + z = kept - 1
      · rw [e2, updL_s, htop, updL_s]
      · rw [updL_n _ e2, updL_n _ (hpn _ (by omega))]
        exact r3 (by omega)
    · rw [q3 i hi]
      show _ = va_up kf ((np + 1) % 4) _ (pl kept np (t + z)) i
      rw [show va_up kf ((np + 1) % 4) (flK pa pb pc pd (kf ((np + 1) % 4)) 4) (pl kept np (t + z)) = kf (pl kept np (t + z)) by simp [va_up, en], ← r4 i hi]
      unfold k16
      rw [chF_get, if_neg (by omega)]
/-- the two judgements are one -/
theorem nf_iff {sop mit sow : Nat → Int32} {sid : Nat → Int64} (h : SR sop mit) {x : Int32} {y : Int64} {k : Nat} (hk : k < 8) : nfP mit sow sid x y k ↔ nfP sop sow sid x y k := by
  unfold nfP
  rw [h k hk]
theorem sld_iff {kf kf' R R' : Nat → Int32} (hk : ∀ i, i < 16 → kf' i = kf i) (hR : ∀ i, i < 22 → R' i = R i) (hB : ∀ i, (R i).toBitVec.toNat < 256) : slM kf' R' ↔ sld kf R := by
  unfold slM sld
  have e : ∀ i, i < 12 → hmac kf' 16 (rw8 R') 10 i = hmac kf 16 R 10 i := fun i hi => hm2 hk (fun t ht => by
    rw [rw8_id (by rw [hR t (by omega)]; exact hB t), hR t (by omega)]) (by omega)
  constructor
  · intro h i hi
    rw [← e i hi, h i hi, hR _ (by omega)]
  · intro h i hi
    rw [e i hi, hR _ (by omega), h i hi]
theorem sm_iff {tn : Nat} {tf mtx kf kf' R R' : Nat → Int32} (hk : ∀ i, i < 16 → kf' i = kf i) (hR : ∀ i, i < 22 → R' i = R i) (hB : ∀ i, (R i).toBitVec.toNat < 256) (hT : ∀ j, j < tn → mtx (40 + j) = tf j) : smM tn mtx kf' R' ↔ sameT tn 12 tf (tkS kf R) := by
  unfold smM sameT
  have e := tk_eq (R := R') (R' := R) hk (fun j hj => hR j (by omega)) (fun j _ => hB j)
  constructor
  · rintro ⟨rfl, h⟩
    exact ⟨rfl, fun i hi => by rw [← hT i hi, h i hi, e i hi]⟩
  · rintro ⟨rfl, h⟩
    exact ⟨rfl, fun i hi => by rw [hT i hi, h i hi, e i hi]⟩
theorem SR_upd {sop mit : Nat → Int32} (h : SR sop mit) (n : Nat) (x : Int32) : SR (upd sop n x) (upd mit n x) := by
  intro k hk
  by_cases e : k = n
  · rw [e, upd_s, upd_s]
  · rw [upd_n _ _ e, upd_n _ _ e]; exact h k hk
theorem least_eq {P Q : Nat → Prop} {n n' : Nat} (hPQ : ∀ k, k < 8 → (Q k ↔ P k)) (hn : n < 8) (hn' : n' < 8) (h1 : P n) (h2 : ∀ j, j < n → ¬ P j) (h1' : Q n') (h2' : ∀ j, j < n' → ¬ Q j) : n = n' := by
  rcases Nat.lt_trichotomy n n' with h | h | h
  · exact absurd ((hPQ n hn).mpr h1) (h2' n h)
  · exact h
  · exact absurd ((hPQ n' hn').mp h1') (h2 n' h)
theorem jm {kept np cl tn : Nat} {cf tf num : Nat → Int32} {rep : Nat → Int64} {kf : Nat → Nat → Int32} {sop sow mit : Nat → Int32} {sid sbe sla : Nat → Int64} {now gr mo re : Int64} {ch v v2 ka2 : Int32} {s2 i2 mkn mkb msi mtx mra : Nat → Int32} {mku : Nat → Int64}
    (hK : KR kept np num rep kf mkn mku mkb) (hS : SR sop mit) (hT : TR cl cf tn tf msi mtx)
    (hj : jdP kept np cl cf tn tf num rep kf sop sow sid sbe sla now gr mo re ch v s2) (hm : mjP cl tn kept mtx mra mkn mkb mku mit sow sid sbe sla now gr mo re ch v2 ka2 i2) : v = v2 ∧ SR s2 i2 := by
  obtain ⟨hcl, htn, hB, hB2, hs0, hs1, hC, hTk⟩ := hT
  have hF := isF_eq (ra := mra) hC
  rcases hj with ⟨f1, rfl, rfl⟩ | ⟨f1, nk, rfl, rfl⟩ | ⟨f1, k, hk, lk, -, hj⟩
  · rcases hm with ⟨-, rfl, rfl⟩ | ⟨f2, -⟩ | ⟨f2, -⟩
    · exact ⟨rfl, hS⟩
    · exact absurd (hF.mpr f2) f1
    · exact absurd (hF.mpr f2) f1
  · have hR := rb_eq (ra := mra) hC f1
    rcases hm with ⟨f2, -⟩ | ⟨-, -, rfl, rfl⟩ | ⟨-, t, ht, lm, -⟩
    · exact absurd (hF.mp f1) f2
    · exact ⟨rfl, hS⟩
    · rw [hR 0 (by omega)] at lm
      exact absurd (kr_lm hK ht lm) (nk _ (pl_lt _ _ _))
  · have hR := rb_eq (ra := mra) hC f1
    have hRd : rdL (rbM mtx mra) 2 8 = rdL (dcb cf) 2 8 := rdL_congr 8 (fun j hj => hR _ (by omega))
    obtain ⟨t0, ht0, e0, lm0⟩ := kr_lk hK lk
    rcases hm with ⟨f2, -⟩ | ⟨-, nk, -⟩ | ⟨-, t, ht, lm, -, hm⟩
    · exact absurd (hF.mp f1) f2
    · refine absurd lm0 ?_
      have := nk t0 ht0
      rw [hR 0 (by omega)] at this
      exact this
    · rw [hR 0 (by omega)] at lm
      obtain rfl : t = t0 := kr_inj hK ht ht0 (lm.2.trans lm0.2.symm)
      obtain ⟨a0, -, ha⟩ := hK.2.2.2.2
      have hkf : ∀ i, i < 16 → k16 mkb t i = kf k i := by rw [← e0]; exact (ha t ht).2.2.2
      have hsl := sld_iff hkf hR (dcb_lt cf)
      have hsm := sm_iff hkf hR (dcb_lt cf) hTk
      rw [hR 1 (by omega), hRd] at hm
      rcases hj with ⟨s1, rfl, rfl⟩ | ⟨s1, nn, rfl, rfl⟩ | ⟨s1, n, hn, p1, p2, hj⟩
      · rcases hm with ⟨-, rfl, rfl⟩ | ⟨m1, -⟩ | ⟨m1, -⟩
        · exact ⟨rfl, hS⟩
        · exact absurd (hsl.mp m1) s1
        · exact absurd (hsl.mp m1) s1
      · rcases hm with ⟨m1, -⟩ | ⟨-, -, rfl, rfl⟩ | ⟨-, n', hn', p1', -⟩
        · exact absurd (hsl.mpr s1) m1
        · exact ⟨rfl, hS⟩
        · exact absurd ((nf_iff hS hn').mp p1') (nn n' hn')
      · rcases hm with ⟨m1, -⟩ | ⟨-, nn, -⟩ | ⟨-, n', hn', p1', p2', hm⟩
        · exact absurd (hsl.mpr s1) m1
        · exact absurd ((nf_iff hS hn).mpr p1) (nn n hn)
        · obtain rfl := least_eq (fun k hk => nf_iff hS hk) hn hn' p1 p2 p1' p2'
          rcases hj with ⟨o1, rfl, rfl⟩ | ⟨o1, o2, rfl, rfl⟩ | ⟨o1, o2, rfl, hj⟩
          · rcases hm with ⟨-, rfl, rfl⟩ | ⟨q, -⟩ | ⟨q, -⟩
            · exact ⟨rfl, SR_upd hS _ _⟩
            · exact absurd q o1
            · exact absurd q o1
          · rcases hm with ⟨q, -⟩ | ⟨-, -, rfl, rfl⟩ | ⟨-, q, -⟩
            · exact absurd o1 q
            · exact ⟨rfl, SR_upd hS _ _⟩
            · exact absurd q o2
          · rcases hm with ⟨q, -⟩ | ⟨-, q, -⟩ | ⟨-, -, rfl, hm⟩
            · exact absurd o1 q
            · exact absurd o2 q
            · refine ⟨?_, hS⟩
              rcases hj with ⟨c0, rfl⟩ | ⟨c0, c1, rfl⟩ | ⟨c0, c1, rfl⟩
              · rcases hm with ⟨-, rfl⟩ | ⟨d0, -⟩ | ⟨d0, -⟩
                · rfl
                · exact absurd c0 d0
                · exact absurd c0 d0
              · rcases hm with ⟨d0, -⟩ | ⟨-, -, rfl⟩ | ⟨-, d1, -⟩
                · exact absurd d0 c0
                · rfl
                · exact absurd (hsm.mpr c1) d1
              · rcases hm with ⟨d0, -⟩ | ⟨-, d1, -⟩ | ⟨-, -, rfl⟩
                · exact absurd d0 c0
                · exact absurd (hsm.mp d1) c1
                · rfl
