/-! what the class says and what the reference says are the same words: bits -/
theorem b_1 : ∀ i, i < 32 → bt (nI 1) i = decide (i = 0) := by decide +kernel
theorem b_15 : ∀ i, i < 32 → bt (nI 15) i = decide (i < 4) := by decide +kernel
theorem b_z (i : Nat) : bt (nI 0) i = false := b_0 i
theorem b_n255 (i : Nat) : bt (nI 255) i = decide (i < 8) := b_255 i
theorem b_tb (x : Int32) (i : Nat) : x.toBitVec.toNat.testBit i = bt x i := BitVec.testBit_toNat x.toBitVec
theorem b_hi {x : Int32} {n i : Nat} (h : x.toBitVec.toNat < 2 ^ n) (hi : n ≤ i) : bt x i = false := by
  rw [← b_tb]
  exact Nat.testBit_lt_two_pow (Nat.lt_of_lt_of_le h (Nat.pow_le_pow_right (by omega) hi))
theorem btN_bt (x : Int32) {s : Nat} (hs : s < 32) : btN x s = if bt x s then 1 else 0 := by
  unfold btN
  have h0 : bt (x >>> (nI s &&& 31)) 0 = bt x s := by rw [b_sshr s hs x (by omega), if_pos (by omega)]; rfl
  rw [← b_tb, Nat.testBit_zero] at h0
  rcases hb : bt x s with _ | _
  · rw [hb] at h0
    have := of_decide_eq_false h0
    rw [if_neg (by decide)]; omega
  · rw [hb] at h0
    have := of_decide_eq_true h0
    rw [if_pos rfl]; omega
/-- the bits of a coded sign -/
theorem cd_bit (ra : Nat → Int32) (bytes k : Nat) : ∀ j i, i < j → (cdV ra bytes k j).testBit i = (if 6 * k + (j - 1 - i) < 8 * bytes then bt (ra ((6 * k + (j - 1 - i)) / 8)) (7 - (6 * k + (j - 1 - i)) % 8) else false) := by
  intro j
  induction j with
  | zero => intro i hi; omega
  | succ j ih =>
    intro i hi
    have hc : ∀ z : Nat, z < 2 → ∀ y, (2 * y + z) / 2 = y := by intro z hz y; omega
    cases i with
    | zero =>
      rw [Nat.testBit_zero]
      have e : j + 1 - 1 - 0 = j := by omega
      rw [e]
      by_cases h : 6 * k + j < 8 * bytes
      · rw [cd_t h, btN_bt _ (by omega), if_pos h]
        rcases bt (ra ((6 * k + j) / 8)) (7 - (6 * k + j) % 8) with _ | _
        · simp
        · simp
      · rw [cd_f (Nat.not_lt.mp h), if_neg h]
        simp
    | succ i =>
      rw [Nat.testBit_succ]
      have e : j + 1 - 1 - (i + 1) = j - 1 - i := by omega
      have e2 : cdV ra bytes k (j + 1) / 2 = cdV ra bytes k j := by
        by_cases h : 6 * k + j < 8 * bytes
        · rw [cd_t h]; exact hc _ (btN_lt _ _) _
        · rw [cd_f (Nat.not_lt.mp h)]; omega
      rw [e, e2]
      exact ih i (by omega)
/-- a sign: the class's word of two bytes is the reference's word of six bits -/
theorem ecx_cd {fb : Nat → Int32} {len k : Nat} (hB : ∀ j, j < len → (fb j).toBitVec.toNat < 256) (hk : 6 * k / 8 < len) : ecx fb len k = cdV fb len k 6 := by
  apply Nat.eq_of_testBit_eq
  intro i
  by_cases hi : i < 6
  · rw [cd_bit fb len k 6 i hi]
    unfold ecx
    rw [Nat.testBit_mod_two_pow, decide_eq_true hi, Bool.true_and, b_tb, b_ushr _ (by omega), b_or, b_shl 8 (by omega) _ (by omega)]
    have ha := hB _ hk
    by_cases h8 : 8 ≤ 10 - 6 * k % 8 + i
    · rw [decide_eq_true h8, Bool.true_and]
      have hz : bt (if 6 * k / 8 + 1 < len then fb (6 * k / 8 + 1) else nI 0) (10 - 6 * k % 8 + i) = false := by
        split
        · exact b_hi (n := 8) (hB _ ‹_›) h8
        · exact b_z _
      rw [hz, Bool.or_false, if_pos (by omega), show (6 * k + (6 - 1 - i)) / 8 = 6 * k / 8 by omega, show 7 - (6 * k + (6 - 1 - i)) % 8 = 10 - 6 * k % 8 + i - 8 by omega]
    · rw [decide_eq_false h8, Bool.false_and, Bool.false_or]
      by_cases hl : 6 * k / 8 + 1 < len
      · rw [if_pos hl, if_pos (by omega), show (6 * k + (6 - 1 - i)) / 8 = 6 * k / 8 + 1 by omega, show 7 - (6 * k + (6 - 1 - i)) % 8 = 10 - 6 * k % 8 + i by omega]
      · rw [if_neg hl, if_neg (by omega)]
        exact b_z _
  · have h1 : ecx fb len k < 2 ^ 6 := Nat.mod_lt _ (by decide)
    have h2 : cdV fb len k 6 < 2 ^ 6 := cd_lt fb len k 6
    have hp : 2 ^ 6 ≤ 2 ^ i := Nat.pow_le_pow_right (by omega) (by omega)
    rw [Nat.testBit_lt_two_pow (Nat.lt_of_lt_of_le h1 hp), Nat.testBit_lt_two_pow (Nat.lt_of_lt_of_le h2 hp)]
/-- bytes stay -/
theorem and_id {x : Int32} (h : x.toBitVec.toNat < 256) : x &&& nI 255 = x := by
  apply b_ext
  intro i hi
  rw [b_and, b_n255]
  by_cases h8 : i < 8
  · rw [decide_eq_true h8, Bool.and_true]
  · rw [decide_eq_false h8, Bool.and_false, b_hi (n := 8) h (by omega)]
theorem and_lt (x : Int32) : (x &&& nI 255).toBitVec.toNat < 256 := by
  rw [Int32.toBitVec_and, BitVec.toNat_and]
  exact Nat.lt_of_le_of_lt Nat.and_le_right (by decide)
theorem byL_lt (x : Int64) (k : Nat) : (byL x k).toBitVec.toNat < 256 := and_lt _
theorem hmac_lt (fk : Nat → Int32) (nk : Nat) (fm : Nat → Int32) (len j : Nat) : (hmac fk nk fm len j).toBitVec.toNat < 256 := byO_lt _ _
theorem dcb_lt (f : Nat → Int32) (i : Nat) : (dcb f i).toBitVec.toNat < 256 := and_lt _
theorem bod_lt {n w : Int32} {id : Int64} (hn : n.toBitVec.toNat < 256) (hw : w.toBitVec.toNat < 256) (j : Nat) : (bod n w id j).toBitVec.toNat < 256 := by
  unfold bod
  split
  · exact hn
  · split
    · exact hw
    · exact byL_lt _ _
theorem rw8_id {f : Nat → Int32} {j : Nat} (h : (f j).toBitVec.toNat < 256) : rw8 f j = f j := and_id h
theorem ckR_B {kf : Nat → Int32} {n w : Int32} {id : Int64} (hn : n.toBitVec.toNat < 256) (hw : w.toBitVec.toNat < 256) : ∀ j, ckR kf n w id j = if j < 22 then ckB kf n w id j else ckR kf n w id j := by
  intro j
  split
  · unfold ckR ckB
    split
    · rfl
    · exact hmac_congr (fun i hi => rw8_id (bod_lt hn hw i)) _ (by omega)
  · rfl
theorem hk_congr {fk fk' fm : Nat → Int32} {nk len : Nat} (h : ∀ j, j < nk → fk j = fk' j) (j : Nat) : hmac fk nk fm len j = hmac fk' nk fm len j := by
  have e : ∀ (pad : Int32) (m : Nat → Int32) (n : Nat), blk fk nk pad m n = blk fk' nk pad m n := by
    intro pad m n
    funext t
    unfold blk
    by_cases ht : t < nk
    · rw [if_pos ht, if_pos ht, h t ht]
    · rw [if_neg ht, if_neg ht]
  unfold hmac
  rw [e, e]
theorem hm2 {fk fk' fm fm' : Nat → Int32} {nk len : Nat} (h : ∀ j, j < nk → fk j = fk' j) (h2 : ∀ j, j < len → fm j = fm' j) {j : Nat} (hj : j < 32) : hmac fk nk fm len j = hmac fk' nk fm' len j := (hk_congr h j).trans (hmac_congr h2 j hj)
/-- the new cookie -/
theorem ck_eq {kf kf' : Nat → Int32} {n w : Int32} {id : Int64} (hk : ∀ j, j < 16 → kf j = kf' j) (hn : n.toBitVec.toNat < 256) (hw : w.toBitVec.toNat < 256) : ∀ j, j < 30 → kA (cdV (ckR kf n w id) 22 j 6) = ckS kf' n w id j := by
  intro j hj
  unfold ckS
  have e : ∀ i, i < 22 → ckR kf n w id i = ckB kf' n w id i := by
    intro i hi
    unfold ckR ckB
    split
    · rfl
    · exact hm2 hk (fun i hi => rw8_id (bod_lt hn hw i)) (by omega)
  rw [cd_congr e, ecx_cd (fun i hi => ?_) (by omega)]
  unfold ckB
  split
  · exact bod_lt hn hw _
  · exact hmac_lt _ _ _ _ _
/-- the token -/
theorem tk_eq {kf kf' R R' : Nat → Int32} (hk : ∀ j, j < 16 → kf j = kf' j) (hR : ∀ j, j < 10 → R j = R' j) (hB : ∀ j, j < 10 → (R' j).toBitVec.toNat < 256) : ∀ j, j < 12 → kA (cdV (hmac kf 16 (tkm (rw8 R)) 11) 9 j 6) = tkS kf' R' j := by
  intro j hj
  unfold tkS
  have e : ∀ i, i < 9 → hmac kf 16 (tkm (rw8 R)) 11 i = hmac kf' 16 (tkm R') 11 i := by
    intro i hi
    refine hm2 hk (fun t ht => ?_) (by omega)
    unfold tkm
    split
    · rfl
    · rw [← hR (t - 1) (by omega)]
      exact rw8_id (by rw [hR (t - 1) (by omega)]; exact hB _ (by omega))
  rw [cd_congr e, ecx_cd (fun i hi => hmac_lt _ _ _ _ _) (by omega)]
theorem ix_rng (x : Int32) : ∀ n k, ixF x n k = (-1) ∨ ∃ j, j < k + n ∧ ixF x n k = nI j := by
  intro n
  induction n with
  | zero => intro k; exact Or.inl rfl
  | succ n ih =>
    intro k
    by_cases h : kA k = x
    · exact Or.inr ⟨k, by omega, ix_hit h⟩
    · rw [ix_miss h]
      rcases ih (k + 1) with h1 | ⟨j, hj, h1⟩
      · exact Or.inl h1
      · exact Or.inr ⟨j, by omega, h1⟩
theorem n64 : ∀ j, j < 64 → (nI j).toBitVec.toNat < 64 := by decide +kernel
theorem sx_lt {x : Int32} (h : 0 ≤ sx x) : (sx x).toBitVec.toNat < 64 := by
  unfold sx at h ⊢
  rcases ix_rng x.toInt8.toInt32 64 0 with h1 | ⟨j, hj, h1⟩
  · rw [h1] at h; exact absurd h (by decide)
  · rw [h1]; exact n64 j (by omega)
/-- the bits that a sign lays -/
theorem riB_bit (x : Int32) (k : Nat) (f : Nat → Int32) : ∀ i, i ≤ 6 → ∀ t b, b < 32 → bt (riB x k f i t) b = (bt (f t) b || decide (b < 8 ∧ 6 * k ≤ 8 * t + 7 - b ∧ 8 * t + 7 - b < 6 * k + i) && bt x (5 - (8 * t + 7 - b - 6 * k))) := by
  intro i
  induction i with
  | zero => intro _ t b hb; rw [decide_eq_false (by omega), Bool.false_and, Bool.or_false]; rfl
  | succ i ih =>
    intro hi t b hb
    show bt (upd (riB x k f i) ((6 * k + i) / 8) _ t) b = _
    by_cases ht : t = (6 * k + i) / 8
    · subst ht
      rw [upd_s, b_or, ih (by omega) _ b hb, b_shl _ (by omega) _ hb, b_and]
      by_cases hs : b = 7 - (6 * k + i) % 8
      · subst hs
        rw [decide_eq_true (Nat.le_refl _), Bool.true_and, Nat.sub_self, b_sshr _ (by omega) _ (by omega), if_pos (by omega), b_1 0 (by omega)]
        rw [decide_eq_false (show ¬ (7 - (6 * k + i) % 8 < 8 ∧ 6 * k ≤ 8 * ((6 * k + i) / 8) + 7 - (7 - (6 * k + i) % 8) ∧ 8 * ((6 * k + i) / 8) + 7 - (7 - (6 * k + i) % 8) < 6 * k + i) by omega)]
        rw [decide_eq_true (show (7 - (6 * k + i) % 8 < 8 ∧ 6 * k ≤ 8 * ((6 * k + i) / 8) + 7 - (7 - (6 * k + i) % 8) ∧ 8 * ((6 * k + i) / 8) + 7 - (7 - (6 * k + i) % 8) < 6 * k + (i + 1)) by omega)]
        rw [show 5 - (8 * ((6 * k + i) / 8) + 7 - (7 - (6 * k + i) % 8) - 6 * k) = 5 - i + 0 by omega]
        simp
      · have hz : (decide (7 - (6 * k + i) % 8 ≤ b) && (bt (x >>> (nI (5 - i) &&& 31)) (b - (7 - (6 * k + i) % 8)) && bt (nI 1) (b - (7 - (6 * k + i) % 8)))) = false := by
          by_cases hle : 7 - (6 * k + i) % 8 ≤ b
          · rw [b_1 _ (by omega), decide_eq_false (show ¬ b - (7 - (6 * k + i) % 8) = 0 by omega), Bool.and_false, Bool.and_false]
          · rw [decide_eq_false hle, Bool.false_and]
        rw [hz, Bool.or_false]
        congr 2
        exact decide_eq_decide.mpr (by omega)
    · rw [upd_n _ _ ht, ih (by omega) t b hb]
      congr 2
      exact decide_eq_decide.mpr (by omega)
theorem roB_bit (tx f : Nat → Int32) : ∀ k t b, b < 32 → (∀ q, bt (f t) q = false) → bt (roB tx f k t) b = (decide (b < 8 ∧ 8 * t + 7 - b < 6 * k) && bt (sx (tx ((8 * t + 7 - b) / 6))) (5 - (8 * t + 7 - b) % 6)) := by
  intro k
  induction k with
  | zero => intro t b hb hf; rw [decide_eq_false (by omega), Bool.false_and]; exact hf b
  | succ k ih =>
    intro t b hb hf
    show bt (riB (sx (tx k)) k (roB tx f k) 6 t) b = _
    rw [riB_bit _ _ _ 6 (Nat.le_refl _) t b hb, ih t b hb hf]
    by_cases h1 : b < 8 ∧ 8 * t + 7 - b < 6 * k
    · rw [decide_eq_true h1, decide_eq_false (show ¬ (b < 8 ∧ 6 * k ≤ 8 * t + 7 - b ∧ 8 * t + 7 - b < 6 * k + 6) by omega), decide_eq_true (show b < 8 ∧ 8 * t + 7 - b < 6 * (k + 1) by omega)]
      simp
    · rw [decide_eq_false h1]
      by_cases h2 : b < 8 ∧ 6 * k ≤ 8 * t + 7 - b ∧ 8 * t + 7 - b < 6 * k + 6
      · rw [decide_eq_true h2, decide_eq_true (show b < 8 ∧ 8 * t + 7 - b < 6 * (k + 1) by omega), show (8 * t + 7 - b) / 6 = k by omega, show 5 - (8 * t + 7 - b) % 6 = 5 - (8 * t + 7 - b - 6 * k) by omega]
        simp
      · rw [decide_eq_false h2, decide_eq_false (show ¬ (b < 8 ∧ 8 * t + 7 - b < 6 * (k + 1)) by omega)]
        simp
theorem rb_bit (tx ra : Nat → Int32) {t b : Nat} (ht : t < 24) (hb : b < 32) : bt (rbM tx ra t) b = (decide (b < 8 ∧ 8 * t + 7 - b < 180) && bt (sx (tx ((8 * t + 7 - b) / 6))) (5 - (8 * t + 7 - b) % 6)) := by
  unfold rbM
  rw [roB_bit tx _ 30 t b hb (fun q => by rw [zzF_get _ 24 t ht]; exact b_z q)]
/-- the bytes of a cookie: the reference's and the class's -/
theorem rb_dcb {tx ra : Nat → Int32} (h : ∀ i, i < 30 → 0 ≤ sx (tx i)) {i : Nat} (hi : i < 22) : rbM tx ra i = dcb tx i := by
  apply b_ext
  intro b hb
  rw [rb_bit tx ra (by omega) hb]
  unfold dcb
  rw [b_and, b_n255, b_ushr _ (by omega), b_or]
  by_cases h8 : b < 8
  · rw [decide_eq_true h8, Bool.and_true, decide_eq_true (show b < 8 ∧ 8 * i + 7 - b < 180 by omega), Bool.true_and, b_shl 6 (by omega) _ (by omega)]
    by_cases h6 : 6 ≤ 4 - 8 * i % 6 + b
    · rw [decide_eq_true h6, Bool.true_and, b_hi (n := 6) (sx_lt (h (8 * i / 6 + 1) (by omega))) h6, Bool.or_false, show (8 * i + 7 - b) / 6 = 8 * i / 6 by omega, show 5 - (8 * i + 7 - b) % 6 = 4 - 8 * i % 6 + b - 6 by omega]
    · rw [decide_eq_false h6, Bool.false_and, Bool.false_or, show (8 * i + 7 - b) / 6 = 8 * i / 6 + 1 by omega, show 5 - (8 * i + 7 - b) % 6 = 4 - 8 * i % 6 + b by omega]
  · rw [decide_eq_false h8, Bool.and_false, decide_eq_false (by omega), Bool.false_and]
theorem rb_22 {tx ra : Nat → Int32} : rbM tx ra 22 = 0 ↔ (sx (tx 29) &&& nI 15) = 0 := by
  constructor
  · intro h
    apply b_ext
    intro b hb
    rw [b_and, b_15 b hb, b_0]
    by_cases h4 : b < 4
    · have := rb_bit tx ra (t := 22) (b := b + 4) (by omega) (by omega)
      rw [h, b_0, decide_eq_true (show b + 4 < 8 ∧ 8 * 22 + 7 - (b + 4) < 180 by omega), show (8 * 22 + 7 - (b + 4)) / 6 = 29 by omega, show 5 - (8 * 22 + 7 - (b + 4)) % 6 = b by omega, Bool.true_and] at this
      rw [← this, Bool.false_and]
    · rw [decide_eq_false h4, Bool.and_false]
  · intro h
    apply b_ext
    intro b hb
    rw [rb_bit tx ra (by omega) hb, b_0]
    by_cases h4 : b < 8 ∧ 8 * 22 + 7 - b < 180
    · have e : bt (sx (tx 29) &&& nI 15) (b - 4) = false := by rw [h, b_0]
      rw [b_and, b_15 _ (by omega), decide_eq_true (show b - 4 < 4 by omega), Bool.and_true] at e
      rw [show (8 * 22 + 7 - b) / 6 = 29 by omega, show 5 - (8 * 22 + 7 - b) % 6 = b - 4 by omega, e, Bool.and_false]
    · rw [decide_eq_false h4, Bool.false_and]
theorem isF_eq {cl : Nat} {cf tx ra : Nat → Int32} (h : ∀ j, j < cl → tx j = cf j) : isF cl cf ↔ isFM cl tx ra := by
  unfold isF isFM
  constructor
  · rintro ⟨rfl, h1, h2⟩
    refine ⟨rfl, fun i hi => by rw [h i hi]; exact h1 i hi, ?_⟩
    exact rb_22.mpr (by rw [h 29 (by omega)]; exact h2)
  · rintro ⟨rfl, h1, h2⟩
    refine ⟨rfl, fun i hi => by rw [← h i hi]; exact h1 i hi, ?_⟩
    have := (rb_22 (tx := tx) (ra := ra)).mp h2
    rw [h 29 (by omega)] at this
    exact this
theorem rb_eq {cl : Nat} {cf tx ra : Nat → Int32} (h : ∀ j, j < cl → tx j = cf j) (hF : isF cl cf) : ∀ i, i < 22 → rbM tx ra i = dcb cf i := by
  obtain ⟨rfl, h1, -⟩ := hF
  intro i hi
  rw [rb_dcb (fun t ht => by rw [h t ht]; exact h1 t ht) hi]
  unfold dcb
  rw [h _ (by omega), h _ (by omega)]
