/-- stale sessions end -/
def alv (now mo re : Int64) (be la : Nat → Int64) (k : Nat) : Prop := ageI now (be k) mo = 0 ∧ ageI now (la k) re = 0
theorem stF_iff (now mo re : Int64) (sop : Nat → Int32) (sbe sla : Nat → Int64) : ∀ k j, stF now mo re sop sbe sla k j = 0 ↔ (sop j = 0 ∨ (j < k ∧ ¬ alv now mo re sbe sla j)) := by
  intro k
  induction k with
  | zero => intro j; exact ⟨Or.inl, fun h => h.elim id (fun h => absurd h.1 (by omega))⟩
  | succ k ih =>
    intro j
    unfold alv at ih ⊢
    by_cases ha : ageI now (sbe k) mo = 0 ∧ ageI now (sla k) re = 0
    · rw [stF_0 ha.1 ha.2, ih j]
      by_cases e : j = k
      · subst e
        exact ⟨fun h => h.elim Or.inl (fun h => absurd h.1 (by omega)), fun h => h.elim Or.inl (fun h => absurd ha h.2)⟩
      · exact ⟨fun h => h.imp id (fun h => ⟨by omega, h.2⟩), fun h => h.imp id (fun h => ⟨by omega, h.2⟩)⟩
    · have e1 : stF now mo re sop sbe sla (k + 1) = upd (stF now mo re sop sbe sla k) k (nI 0) := by
        by_cases h1 : ageI now (sbe k) mo = 0
        · exact stF_2 (fun h2 => ha ⟨h1, h2⟩)
        · exact stF_1 h1
      rw [e1]
      by_cases e : j = k
      · subst e
        rw [upd_s]
        exact ⟨fun _ => Or.inr ⟨by omega, ha⟩, fun _ => rfl⟩
      · rw [upd_n _ _ e, ih j]
        exact ⟨fun h => h.imp id (fun h => ⟨by omega, h.2⟩), fun h => h.imp id (fun h => ⟨by omega, h.2⟩)⟩
theorem stM_iff (now mo re : Int64) (it : Nat → Int32) (be la : Nat → Int64) : ∀ k, k ≤ 8 → ∀ j, j < 8 → (stM now mo re it be la k j = 0 ↔ (it j = 0 ∨ (8 - k ≤ j ∧ ¬ alv now mo re be la j))) := by
  intro k
  induction k with
  | zero => intro _ j hj; exact ⟨Or.inl, fun h => h.elim id (fun h => absurd h.1 (by omega))⟩
  | succ k ih =>
    intro hk j hj
    have h0 := ih (by omega)
    unfold alv at h0 ⊢
    by_cases e : j = 7 - k
    · have hb := h0 j hj
      by_cases h1 : stM now mo re it be la k (7 - k) = 0
      · rw [sm_0 h1, e, upd_s]
        refine ⟨fun _ => ?_, fun _ => rfl⟩
        rw [← e] at h1 ⊢
        exact (hb.mp h1).elim Or.inl (fun h => absurd h.1 (by omega))
      · have h2 : ¬ it j = 0 := fun q => h1 (by rw [← e]; exact hb.mpr (Or.inl q))
        by_cases h3 : ageI now (be (7 - k)) mo = 0
        · by_cases h4 : ageI now (la (7 - k)) re = 0
          · rw [sm_3 h1 h3 h4, e, upd_s]
            refine ⟨fun q => absurd q (by decide), fun q => ?_⟩
            rcases q with q | q
            · exact absurd (by rw [e]; exact q) h2
            · exact absurd ⟨h3, h4⟩ q.2
          · rw [sm_2 h1 h3 h4, e, upd_s]
            exact ⟨fun _ => Or.inr ⟨by omega, fun q => h4 q.2⟩, fun _ => rfl⟩
        · rw [sm_1 h1 h3, e, upd_s]
          exact ⟨fun _ => Or.inr ⟨by omega, fun q => h3 q.1⟩, fun _ => rfl⟩
    · have e1 : stM now mo re it be la (k + 1) j = stM now mo re it be la k j := by
        show upd _ (7 - k) _ j = _
        exact upd_n _ _ e
      rw [e1, h0 j hj]
      exact ⟨fun h => h.imp id (fun h => ⟨by omega, h.2⟩), fun h => h.imp id (fun h => ⟨by omega, h.2⟩)⟩
theorem SR_st {now mo re : Int64} {sop mit : Nat → Int32} {sbe sla : Nat → Int64} (h : SR sop mit) : SR (stF now mo re sop sbe sla 8) (stM now mo re mit sbe sla 8) := by
  intro k hk
  rw [stF_iff, stM_iff _ _ _ _ _ _ 8 (by omega) k hk, h k hk]
  exact ⟨fun h => h.imp id (fun h => ⟨by omega, h.2⟩), fun h => h.imp id (fun h => ⟨by omega, h.2⟩)⟩
/-- sessions are taken away -/
theorem rv_eq {sop mit sow : Nat → Int32} {x : Int32} (h : SR sop mit) : ∀ k, k ≤ 8 → (rvF sop sow x k).2 = (rvF mit sow x k).2 ∧ SR (rvF sop sow x k).1 (rvF mit sow x k).1 := by
  intro k
  induction k with
  | zero => intro _; exact ⟨rfl, h⟩
  | succ k ih =>
    intro hk
    obtain ⟨h1, h2⟩ := ih (by omega)
    by_cases e : (rvF sop sow x k).1 k = 0
    · rw [rv_0 e, rv_0 ((h2 k (by omega)).mpr e)]
      exact ⟨h1, h2⟩
    · have e' : ¬ (rvF mit sow x k).1 k = 0 := fun q => e ((h2 k (by omega)).mp q)
      by_cases e2 : sow k = x
      · rw [rv_2 e e2, rv_2 e' e2]
        exact ⟨congrArg (· + 1) h1, SR_upd h2 _ _⟩
      · rw [rv_1 e e2, rv_1 e' e2]
        exact ⟨h1, h2⟩
/-- signs are typed: one word -/
theorem ad_eq (pk : Int32) (off : Nat) {f f' : Nat → Int32} {ln : Nat} (hf : ∀ j, j < ln → f' (off + j) = f j) : ∀ k, (adM pk off f' ln k).2 = (addS pk f ln k).2 ∧ ∀ j, j < (addS pk f ln k).2 → (adM pk off f' ln k).1 (off + j) = (addS pk f ln k).1 j := by
  intro k
  induction k with
  | zero => exact ⟨rfl, hf⟩
  | succ k ih =>
    obtain ⟨h1, h2⟩ := ih
    by_cases e : byO pk k = 0
    · rw [am_0 e, addS_0 e]
      exact ⟨h1, h2⟩
    · rw [am_1 e, addS_1 e]
      refine ⟨congrArg (· + 1) h1, fun j hj => ?_⟩
      rw [h1]
      show upd _ (off + (addS pk f ln k).2) _ (off + j) = upd _ (addS pk f ln k).2 _ j
      by_cases ej : j = (addS pk f ln k).2
      · rw [ej, upd_s, upd_s]
      · rw [upd_n _ _ (by omega), upd_n _ _ ej]
        exact h2 j (by have : j < (addS pk f ln k).2 + 1 := hj; omega)
theorem ad_lo (pk : Int32) (off : Nat) (f' : Nat → Int32) (ln : Nat) : ∀ k t, t < off → (adM pk off f' ln k).1 t = f' t := by
  intro k
  induction k with
  | zero => intro t _; rfl
  | succ k ih =>
    intro t ht
    by_cases e : byO pk k = 0
    · rw [am_0 e]; exact ih t ht
    · rw [am_1 e]
      show upd _ _ _ t = _
      rw [upd_n _ _ (by omega)]
      exact ih t ht
theorem ad_hi (pk : Int32) (off : Nat) (f' : Nat → Int32) {ln : Nat} : ∀ k, ∀ t, off + (adM pk off f' ln k).2 ≤ t → (adM pk off f' ln k).1 t = f' t := by
  intro k
  induction k with
  | zero => intro t _; rfl
  | succ k ih =>
    intro t ht
    by_cases e : byO pk k = 0
    · rw [am_0 e] at ht ⊢; exact ih t ht
    · rw [am_1 e] at ht ⊢
      have ht : off + ((adM pk off f' ln k).2 + 1) ≤ t := ht
      show upd _ _ _ t = _
      rw [upd_n _ _ (by omega)]
      exact ih t (by omega)
theorem add_B (pk : Int32) {f : Nat → Int32} {ln : Nat} (hf : isB f) : ∀ k, isB (addS pk f ln k).1 := by
  intro k
  induction k with
  | zero => exact hf
  | succ k ih =>
    by_cases e : byO pk k = 0
    · rw [addS_0 e]; exact ih
    · rw [addS_1 e]
      intro i hi
      show (upd _ _ _ i).toBitVec.toNat < 256
      by_cases ei : i = (addS pk f ln k).2
      · rw [ei, upd_s]; exact byO_lt _ _
      · rw [upd_n _ _ ei]; exact ih i hi
theorem ty_eq (pa pb pc pd : Int32) (off : Nat) {f f' : Nat → Int32} {ln : Nat} (hf : ∀ j, j < ln → f' (off + j) = f j) : (tyM off pa pb pc pd (f', ln)).2 = (tyS pa pb pc pd (f, ln)).2 ∧ (∀ j, j < (tyS pa pb pc pd (f, ln)).2 → (tyM off pa pb pc pd (f', ln)).1 (off + j) = (tyS pa pb pc pd (f, ln)).1 j) ∧ (∀ t, t < off → (tyM off pa pb pc pd (f', ln)).1 t = f' t) ∧ (∀ t, off + (tyS pa pb pc pd (f, ln)).2 ≤ t → (tyM off pa pb pc pd (f', ln)).1 t = f' t) ∧ (isB f → isB (tyS pa pb pc pd (f, ln)).1) ∧ (tyS pa pb pc pd (f, ln)).2 = ln + mor pa pb pc pd := by
  obtain ⟨a1, a2⟩ := ad_eq pa off hf 4
  have a3 := ad_lo pa off f' ln 4
  have a4 := ad_hi pa off f' (ln := ln) 4
  have a5 := fun h => add_B pa (ln := ln) (f := f) h 4
  have a6 := addS_cnt pa f ln 4
  rw [a1] at a4
  unfold tyM tyS
  dsimp only
  rw [a1]
  generalize (adM pa off f' ln 4).1 = F1 at *
  generalize (addS pa f ln 4).1 = G1 at *
  generalize (addS pa f ln 4).2 = n1 at *
  obtain ⟨b1, b2⟩ := ad_eq pb off a2 4
  have b3 := ad_lo pb off F1 n1 4
  have b4 := ad_hi pb off F1 (ln := n1) 4
  have b5 := fun h => add_B pb (ln := n1) (f := G1) h 4
  have b6 := addS_cnt pb G1 n1 4
  rw [b1] at b4
  rw [b1]
  generalize (adM pb off F1 n1 4).1 = F2 at *
  generalize (addS pb G1 n1 4).1 = G2 at *
  generalize (addS pb G1 n1 4).2 = n2 at *
  obtain ⟨c1, c2⟩ := ad_eq pc off b2 4
  have c3 := ad_lo pc off F2 n2 4
  have c4 := ad_hi pc off F2 (ln := n2) 4
  have c5 := fun h => add_B pc (ln := n2) (f := G2) h 4
  have c6 := addS_cnt pc G2 n2 4
  rw [c1] at c4
  rw [c1]
  generalize (adM pc off F2 n2 4).1 = F3 at *
  generalize (addS pc G2 n2 4).1 = G3 at *
  generalize (addS pc G2 n2 4).2 = n3 at *
  obtain ⟨d1, d2⟩ := ad_eq pd off c2 4
  have d3 := ad_lo pd off F3 n3 4
  have d4 := ad_hi pd off F3 (ln := n3) 4
  have d5 := fun h => add_B pd (ln := n3) (f := G3) h 4
  have d6 := addS_cnt pd G3 n3 4
  rw [d1] at d4
  rw [d1]
  refine ⟨rfl, d2, fun t ht => by rw [d3 t ht, c3 t ht, b3 t ht, a3 t ht], fun t ht => by rw [d4 t ht, c4 t (by omega), b4 t (by omega), a4 t (by omega)], fun h => d5 (c5 (b5 (a5 h))), ?_⟩
  unfold mor
  omega
/-- numbers -/
theorem us_iff {x : Int32} : usI x = 0 ↔ ∀ k, k < 8 → ¬ x = nI k := by
  constructor
  · rintro h k hk rfl
    exact absurd h ((by decide +kernel : ∀ k, k < 8 → ¬ usI (nI k) = 0) k hk)
  · intro h
    by_cases e : usI x = 0
    · exact e
    · obtain ⟨k, hk, e2⟩ := us_nat e
      exact absurd e2 (h k hk)
theorem tx_iff {x : Int32} : txI x = 0 ↔ (¬ x = nI 0 ∧ ¬ x = nI 1) := by
  constructor
  · intro h
    exact ⟨fun e => by rw [e] at h; exact absurd h (by decide), fun e => by rw [e] at h; exact absurd h (by decide)⟩
  · rintro ⟨h1, h2⟩
    by_cases e : txI x = 0
    · exact e
    · exact (tx_01 e).elim (fun q => absurd q h1) (fun q => absurd q h2)
theorem has_iff {y : Int32} {n : Nat} (hn : n ≤ 40) : hasT y (nI n) = 0 ↔ ∀ j, j < n → ¬ y = nI j := by
  constructor
  · rintro h j hj rfl
    exact absurd h ((by decide +kernel : ∀ n, n ≤ 40 → ∀ j, j < n → ¬ hasT (nI j) (nI n) = 0) n hn j hj)
  · intro h
    by_cases e : hasT y (nI n) = 0
    · exact e
    · obtain ⟨j, hj, e2⟩ := has_nat (by omega) e
      exact absurd e2 (h j hj)
theorem pass_iff {x : Int64} : inI x 1 10000000000 = 0 ↔ (x < 1 ∨ 10000000000 < x) := by
  unfold inI
  by_cases h1 : x < 1
  · rw [if_pos h1]; exact ⟨fun _ => Or.inl h1, fun _ => rfl⟩
  · rw [if_neg h1]
    by_cases h2 : (10000000000 : Int64) < x
    · rw [if_pos h2]; exact ⟨fun _ => Or.inr h2, fun _ => rfl⟩
    · rw [if_neg h2]
      exact ⟨fun q => absurd q (by decide), fun q => q.elim (fun q => absurd q h1) (fun q => absurd q h2)⟩
theorem ses_eq {o o' w : Int32} {i b l : Int64} {y : Nat} (h : o' = 0 ↔ o = 0) : sesV o w i b l y = sesV o' w i b l y := by
  unfold sesV
  by_cases e : o = 0
  · rw [if_pos e, if_pos (h.mpr e)]
  · rw [if_neg e, if_neg (fun q => e (h.mp q))]
theorem nI_i {a b : Nat} (ha : a < 256) (hb : b < 256) (h : nI a = nI b) : a = b := nI_i256 ha hb h
theorem lN_toI : ∀ b, b ≤ 600 → (lN b).toInt32 = nI b := by decide +kernel
theorem nI_toL : ∀ b, b ≤ 600 → (nI b).toInt64 = lN b := by decide +kernel
theorem nI_s : ∀ b, b ≤ 600 → nI b + nI 1 = nI (b + 1) := by decide +kernel
theorem lN_s : ∀ b, b ≤ 600 → lN b + 1 = lN (b + 1) := by decide +kernel
theorem id_eq {n : Nat} {sdf : Nat → Int32} {bgn : Int32} {msd mbg : Int64} (h : BR n sdf bgn msd mbg) (hn : n ≤ 600) : idS sdf bgn = idM msd mbg := by
  obtain ⟨h1, b, hb, rfl, rfl⟩ := h
  unfold idS idM
  rw [nI_toL b (by omega)]
  exact rdL_congr 8 (fun j hj => hk_congr (fun t ht => h1 t ht) _)
