theorem and_byO (x : Int32) : x &&& nI 255 = byO x 3 := by
  rw [← sar_byO x (by omega)]
  congr 1
  apply b_ext
  intro i hi
  rw [b_sshr _ (by omega) _ hi, if_pos (by omega)]
  congr 1
  omega
theorem byO_nat (x : Int32) (k : Nat) : byO x k = nI ((byO x k).toBitVec.toNat) := (n_of _).symm
theorem byO_lt (x : Int32) (k : Nat) : (byO x k).toBitVec.toNat < 256 := by
  unfold byO
  rw [pk_and _ 8 (by decide), pk_tn (Nat.lt_trans (Nat.mod_lt _ (by decide)) (by decide))]
  exact Nat.mod_lt _ (by decide)
theorem byO_z {x : Int32} {k : Nat} (h : byO x k ≤ 0) : byO x k = 0 := by
  rw [byO_nat] at h ⊢
  have h2 := byO_lt x k
  have := (nI_leI (a := (byO x k).toBitVec.toNat) (b := 0) (by omega) (by decide)).mp h
  rw [show (byO x k).toBitVec.toNat = 0 by omega]; rfl
theorem byO_nz {x : Int32} {k : Nat} (h : ¬ byO x k ≤ 0) : ¬ byO x k = 0 := fun e => h (by rw [e]; decide)
set_option maxHeartbeats 4000000 in
set_option maxRecDepth 100000 in
theorem c_X8_many (g : GG) (l : Launch) (pk : Int32) : Ct g l yX8_many cX8_many 1 (some .int) 0 0 [.int pk] [] (Ri g (fun (v : Int32) (u : Unit) => v = nI (cntL (byO pk) 4)) (fun (u : Unit) => [])) := by
  refine mkC (by decide) (Nat.le_of_ble_eq_true rfl) ?_
  intro p e s m args below meth c A ls QQ F hr hlk hnm hQ hw hl
  have hx := F.1
  have hb := F.2.1
  replace hl : lv_has ls 1 [(0, .int pk)] := hl
  refine lv_iload_n hx hb dX8_many_0 rfl (lv_at hl 0 rfl) ?_
  refine lv_bipush (v := nI 24) hx hb dX8_many_1 (by decide) ?_
  refine lv_ishr hx hb dX8_many_3 ?_
  refine lv_sipush (v := nI 255) hx hb dX8_many_4 (by decide) ?_
  refine lv_iand hx hb dX8_many_7 ?_
  refine tp_i (y := byO pk 0) (sar_byO pk (k := 0) (by omega)) ?_
  refine lv_if_le (tgt := 15) hx hb dX8_many_8 (by decide) (fun c_8 => ?_) (fun c_8 => ?_)
  · have z_0 := byO_z c_8
    refine lv_iconst (v := nI 0) hx hb dX8_many_15 (by decide) ?_
    refine lv_iload_n hx hb dX8_many_16 rfl (lv_at hl 0 rfl) ?_
    refine lv_bipush (v := nI 16) hx hb dX8_many_17 (by decide) ?_
    refine lv_ishr hx hb dX8_many_19 ?_
    refine lv_sipush (v := nI 255) hx hb dX8_many_20 (by decide) ?_
    refine lv_iand hx hb dX8_many_23 ?_
    refine tp_i (y := byO pk 1) (sar_byO pk (k := 1) (by omega)) ?_
    refine lv_if_le (tgt := 31) hx hb dX8_many_24 (by decide) (fun c_24 => ?_) (fun c_24 => ?_)
    · have z_1 := byO_z c_24
      refine lv_iconst (v := nI 0) hx hb dX8_many_31 (by decide) ?_
      refine n_add hx hb dX8_many_32 ?_
      refine lv_iload_n hx hb dX8_many_33 rfl (lv_at hl 0 rfl) ?_
      refine lv_bipush (v := nI 8) hx hb dX8_many_34 (by decide) ?_
      refine lv_ishr hx hb dX8_many_36 ?_
      refine lv_sipush (v := nI 255) hx hb dX8_many_37 (by decide) ?_
      refine lv_iand hx hb dX8_many_40 ?_
      refine tp_i (y := byO pk 2) (sar_byO pk (k := 2) (by omega)) ?_
      refine lv_if_le (tgt := 48) hx hb dX8_many_41 (by decide) (fun c_41 => ?_) (fun c_41 => ?_)
      · have z_2 := byO_z c_41
        refine lv_iconst (v := nI 0) hx hb dX8_many_48 (by decide) ?_
        refine n_add hx hb dX8_many_49 ?_
        refine lv_iload_n hx hb dX8_many_50 rfl (lv_at hl 0 rfl) ?_
        refine lv_sipush (v := nI 255) hx hb dX8_many_51 (by decide) ?_
        refine lv_iand hx hb dX8_many_54 ?_
        refine tp_i (y := byO pk 3) (and_byO pk) ?_
        refine lv_if_le (tgt := 62) hx hb dX8_many_55 (by decide) (fun c_55 => ?_) (fun c_55 => ?_)
        · have z_3 := byO_z c_55
          refine lv_iconst (v := nI 0) hx hb dX8_many_62 (by decide) ?_
          refine n_add hx hb dX8_many_63 ?_
          exact rt_i F hr hlk hQ hw () (by simp only [cntL, z_0, z_1, z_2, z_3, if_true, if_false]) rfl dX8_many_64
        · have z_3 := byO_nz c_55
          refine lv_iconst (v := nI 1) hx hb dX8_many_58 (by decide) ?_
          refine lv_goto (tgt := 63) hx hb dX8_many_59 (by decide) ?_
          refine n_add hx hb dX8_many_63 ?_
          exact rt_i F hr hlk hQ hw () (by simp only [cntL, z_0, z_1, z_2, z_3, if_true, if_false]) rfl dX8_many_64
      · have z_2 := byO_nz c_41
        refine lv_iconst (v := nI 1) hx hb dX8_many_44 (by decide) ?_
        refine lv_goto (tgt := 49) hx hb dX8_many_45 (by decide) ?_
        refine n_add hx hb dX8_many_49 ?_
        refine lv_iload_n hx hb dX8_many_50 rfl (lv_at hl 0 rfl) ?_
        refine lv_sipush (v := nI 255) hx hb dX8_many_51 (by decide) ?_
        refine lv_iand hx hb dX8_many_54 ?_
        refine tp_i (y := byO pk 3) (and_byO pk) ?_
        refine lv_if_le (tgt := 62) hx hb dX8_many_55 (by decide) (fun c_55 => ?_) (fun c_55 => ?_)
        · have z_3 := byO_z c_55
          refine lv_iconst (v := nI 0) hx hb dX8_many_62 (by decide) ?_
          refine n_add hx hb dX8_many_63 ?_
          exact rt_i F hr hlk hQ hw () (by simp only [cntL, z_0, z_1, z_2, z_3, if_true, if_false]) rfl dX8_many_64
        · have z_3 := byO_nz c_55
          refine lv_iconst (v := nI 1) hx hb dX8_many_58 (by decide) ?_
          refine lv_goto (tgt := 63) hx hb dX8_many_59 (by decide) ?_
          refine n_add hx hb dX8_many_63 ?_
          exact rt_i F hr hlk hQ hw () (by simp only [cntL, z_0, z_1, z_2, z_3, if_true, if_false]) rfl dX8_many_64
    · have z_1 := byO_nz c_24
      refine lv_iconst (v := nI 1) hx hb dX8_many_27 (by decide) ?_
      refine lv_goto (tgt := 32) hx hb dX8_many_28 (by decide) ?_
      refine n_add hx hb dX8_many_32 ?_
      refine lv_iload_n hx hb dX8_many_33 rfl (lv_at hl 0 rfl) ?_
      refine lv_bipush (v := nI 8) hx hb dX8_many_34 (by decide) ?_
      refine lv_ishr hx hb dX8_many_36 ?_
      refine lv_sipush (v := nI 255) hx hb dX8_many_37 (by decide) ?_
      refine lv_iand hx hb dX8_many_40 ?_
      refine tp_i (y := byO pk 2) (sar_byO pk (k := 2) (by omega)) ?_
      refine lv_if_le (tgt := 48) hx hb dX8_many_41 (by decide) (fun c_41 => ?_) (fun c_41 => ?_)
      · have z_2 := byO_z c_41
        refine lv_iconst (v := nI 0) hx hb dX8_many_48 (by decide) ?_
        refine n_add hx hb dX8_many_49 ?_
        refine lv_iload_n hx hb dX8_many_50 rfl (lv_at hl 0 rfl) ?_
        refine lv_sipush (v := nI 255) hx hb dX8_many_51 (by decide) ?_
        refine lv_iand hx hb dX8_many_54 ?_
        refine tp_i (y := byO pk 3) (and_byO pk) ?_
        refine lv_if_le (tgt := 62) hx hb dX8_many_55 (by decide) (fun c_55 => ?_) (fun c_55 => ?_)
        · have z_3 := byO_z c_55
          refine lv_iconst (v := nI 0) hx hb dX8_many_62 (by decide) ?_
          refine n_add hx hb dX8_many_63 ?_
          exact rt_i F hr hlk hQ hw () (by simp only [cntL, z_0, z_1, z_2, z_3, if_true, if_false]) rfl dX8_many_64
        · have z_3 := byO_nz c_55
          refine lv_iconst (v := nI 1) hx hb dX8_many_58 (by decide) ?_
          refine lv_goto (tgt := 63) hx hb dX8_many_59 (by decide) ?_
          refine n_add hx hb dX8_many_63 ?_
          exact rt_i F hr hlk hQ hw () (by simp only [cntL, z_0, z_1, z_2, z_3, if_true, if_false]) rfl dX8_many_64
      · have z_2 := byO_nz c_41
        refine lv_iconst (v := nI 1) hx hb dX8_many_44 (by decide) ?_
        refine lv_goto (tgt := 49) hx hb dX8_many_45 (by decide) ?_
        refine n_add hx hb dX8_many_49 ?_
        refine lv_iload_n hx hb dX8_many_50 rfl (lv_at hl 0 rfl) ?_
        refine lv_sipush (v := nI 255) hx hb dX8_many_51 (by decide) ?_
        refine lv_iand hx hb dX8_many_54 ?_
        refine tp_i (y := byO pk 3) (and_byO pk) ?_
        refine lv_if_le (tgt := 62) hx hb dX8_many_55 (by decide) (fun c_55 => ?_) (fun c_55 => ?_)
        · have z_3 := byO_z c_55
          refine lv_iconst (v := nI 0) hx hb dX8_many_62 (by decide) ?_
          refine n_add hx hb dX8_many_63 ?_
          exact rt_i F hr hlk hQ hw () (by simp only [cntL, z_0, z_1, z_2, z_3, if_true, if_false]) rfl dX8_many_64
        · have z_3 := byO_nz c_55
          refine lv_iconst (v := nI 1) hx hb dX8_many_58 (by decide) ?_
          refine lv_goto (tgt := 63) hx hb dX8_many_59 (by decide) ?_
          refine n_add hx hb dX8_many_63 ?_
          exact rt_i F hr hlk hQ hw () (by simp only [cntL, z_0, z_1, z_2, z_3, if_true, if_false]) rfl dX8_many_64
  · have z_0 := byO_nz c_8
    refine lv_iconst (v := nI 1) hx hb dX8_many_11 (by decide) ?_
    refine lv_goto (tgt := 16) hx hb dX8_many_12 (by decide) ?_
    refine lv_iload_n hx hb dX8_many_16 rfl (lv_at hl 0 rfl) ?_
    refine lv_bipush (v := nI 16) hx hb dX8_many_17 (by decide) ?_
    refine lv_ishr hx hb dX8_many_19 ?_
    refine lv_sipush (v := nI 255) hx hb dX8_many_20 (by decide) ?_
    refine lv_iand hx hb dX8_many_23 ?_
    refine tp_i (y := byO pk 1) (sar_byO pk (k := 1) (by omega)) ?_
    refine lv_if_le (tgt := 31) hx hb dX8_many_24 (by decide) (fun c_24 => ?_) (fun c_24 => ?_)
    · have z_1 := byO_z c_24
      refine lv_iconst (v := nI 0) hx hb dX8_many_31 (by decide) ?_
      refine n_add hx hb dX8_many_32 ?_
      refine lv_iload_n hx hb dX8_many_33 rfl (lv_at hl 0 rfl) ?_
      refine lv_bipush (v := nI 8) hx hb dX8_many_34 (by decide) ?_
      refine lv_ishr hx hb dX8_many_36 ?_
      refine lv_sipush (v := nI 255) hx hb dX8_many_37 (by decide) ?_
      refine lv_iand hx hb dX8_many_40 ?_
      refine tp_i (y := byO pk 2) (sar_byO pk (k := 2) (by omega)) ?_
      refine lv_if_le (tgt := 48) hx hb dX8_many_41 (by decide) (fun c_41 => ?_) (fun c_41 => ?_)
      · have z_2 := byO_z c_41
        refine lv_iconst (v := nI 0) hx hb dX8_many_48 (by decide) ?_
        refine n_add hx hb dX8_many_49 ?_
        refine lv_iload_n hx hb dX8_many_50 rfl (lv_at hl 0 rfl) ?_
        refine lv_sipush (v := nI 255) hx hb dX8_many_51 (by decide) ?_
        refine lv_iand hx hb dX8_many_54 ?_
        refine tp_i (y := byO pk 3) (and_byO pk) ?_
        refine lv_if_le (tgt := 62) hx hb dX8_many_55 (by decide) (fun c_55 => ?_) (fun c_55 => ?_)
        · have z_3 := byO_z c_55
          refine lv_iconst (v := nI 0) hx hb dX8_many_62 (by decide) ?_
          refine n_add hx hb dX8_many_63 ?_
          exact rt_i F hr hlk hQ hw () (by simp only [cntL, z_0, z_1, z_2, z_3, if_true, if_false]) rfl dX8_many_64
        · have z_3 := byO_nz c_55
          refine lv_iconst (v := nI 1) hx hb dX8_many_58 (by decide) ?_
          refine lv_goto (tgt := 63) hx hb dX8_many_59 (by decide) ?_
          refine n_add hx hb dX8_many_63 ?_
          exact rt_i F hr hlk hQ hw () (by simp only [cntL, z_0, z_1, z_2, z_3, if_true, if_false]) rfl dX8_many_64
      · have z_2 := byO_nz c_41
        refine lv_iconst (v := nI 1) hx hb dX8_many_44 (by decide) ?_
        refine lv_goto (tgt := 49) hx hb dX8_many_45 (by decide) ?_
        refine n_add hx hb dX8_many_49 ?_
        refine lv_iload_n hx hb dX8_many_50 rfl (lv_at hl 0 rfl) ?_
        refine lv_sipush (v := nI 255) hx hb dX8_many_51 (by decide) ?_
        refine lv_iand hx hb dX8_many_54 ?_
        refine tp_i (y := byO pk 3) (and_byO pk) ?_
        refine lv_if_le (tgt := 62) hx hb dX8_many_55 (by decide) (fun c_55 => ?_) (fun c_55 => ?_)
        · have z_3 := byO_z c_55
          refine lv_iconst (v := nI 0) hx hb dX8_many_62 (by decide) ?_
          refine n_add hx hb dX8_many_63 ?_
          exact rt_i F hr hlk hQ hw () (by simp only [cntL, z_0, z_1, z_2, z_3, if_true, if_false]) rfl dX8_many_64
        · have z_3 := byO_nz c_55
          refine lv_iconst (v := nI 1) hx hb dX8_many_58 (by decide) ?_
          refine lv_goto (tgt := 63) hx hb dX8_many_59 (by decide) ?_
          refine n_add hx hb dX8_many_63 ?_
          exact rt_i F hr hlk hQ hw () (by simp only [cntL, z_0, z_1, z_2, z_3, if_true, if_false]) rfl dX8_many_64
    · have z_1 := byO_nz c_24
      refine lv_iconst (v := nI 1) hx hb dX8_many_27 (by decide) ?_
      refine lv_goto (tgt := 32) hx hb dX8_many_28 (by decide) ?_
      refine n_add hx hb dX8_many_32 ?_
      refine lv_iload_n hx hb dX8_many_33 rfl (lv_at hl 0 rfl) ?_
      refine lv_bipush (v := nI 8) hx hb dX8_many_34 (by decide) ?_
      refine lv_ishr hx hb dX8_many_36 ?_
      refine lv_sipush (v := nI 255) hx hb dX8_many_37 (by decide) ?_
      refine lv_iand hx hb dX8_many_40 ?_
      refine tp_i (y := byO pk 2) (sar_byO pk (k := 2) (by omega)) ?_
      refine lv_if_le (tgt := 48) hx hb dX8_many_41 (by decide) (fun c_41 => ?_) (fun c_41 => ?_)
      · have z_2 := byO_z c_41
        refine lv_iconst (v := nI 0) hx hb dX8_many_48 (by decide) ?_
        refine n_add hx hb dX8_many_49 ?_
        refine lv_iload_n hx hb dX8_many_50 rfl (lv_at hl 0 rfl) ?_
        refine lv_sipush (v := nI 255) hx hb dX8_many_51 (by decide) ?_
        refine lv_iand hx hb dX8_many_54 ?_
        refine tp_i (y := byO pk 3) (and_byO pk) ?_
        refine lv_if_le (tgt := 62) hx hb dX8_many_55 (by decide) (fun c_55 => ?_) (fun c_55 => ?_)
        · have z_3 := byO_z c_55
          refine lv_iconst (v := nI 0) hx hb dX8_many_62 (by decide) ?_
          refine n_add hx hb dX8_many_63 ?_
          exact rt_i F hr hlk hQ hw () (by simp only [cntL, z_0, z_1, z_2, z_3, if_true, if_false]) rfl dX8_many_64
        · have z_3 := byO_nz c_55
          refine lv_iconst (v := nI 1) hx hb dX8_many_58 (by decide) ?_
          refine lv_goto (tgt := 63) hx hb dX8_many_59 (by decide) ?_
          refine n_add hx hb dX8_many_63 ?_
          exact rt_i F hr hlk hQ hw () (by simp only [cntL, z_0, z_1, z_2, z_3, if_true, if_false]) rfl dX8_many_64
      · have z_2 := byO_nz c_41
        refine lv_iconst (v := nI 1) hx hb dX8_many_44 (by decide) ?_
        refine lv_goto (tgt := 49) hx hb dX8_many_45 (by decide) ?_
        refine n_add hx hb dX8_many_49 ?_
        refine lv_iload_n hx hb dX8_many_50 rfl (lv_at hl 0 rfl) ?_
        refine lv_sipush (v := nI 255) hx hb dX8_many_51 (by decide) ?_
        refine lv_iand hx hb dX8_many_54 ?_
        refine tp_i (y := byO pk 3) (and_byO pk) ?_
        refine lv_if_le (tgt := 62) hx hb dX8_many_55 (by decide) (fun c_55 => ?_) (fun c_55 => ?_)
        · have z_3 := byO_z c_55
          refine lv_iconst (v := nI 0) hx hb dX8_many_62 (by decide) ?_
          refine n_add hx hb dX8_many_63 ?_
          exact rt_i F hr hlk hQ hw () (by simp only [cntL, z_0, z_1, z_2, z_3, if_true, if_false]) rfl dX8_many_64
        · have z_3 := byO_nz c_55
          refine lv_iconst (v := nI 1) hx hb dX8_many_58 (by decide) ?_
          refine lv_goto (tgt := 63) hx hb dX8_many_59 (by decide) ?_
          refine n_add hx hb dX8_many_63 ?_
          exact rt_i F hr hlk hQ hw () (by simp only [cntL, z_0, z_1, z_2, z_3, if_true, if_false]) rfl dX8_many_64
def adM (cell : Int32) (off : Nat) (f : Nat → Int32) (ln : Nat) : Nat → (Nat → Int32) × Nat
  | 0 => (f, ln)
  | k + 1 => if byO cell k = 0 then adM cell off f ln k else (upd (adM cell off f ln k).1 (off + (adM cell off f ln k).2) (byO cell k), (adM cell off f ln k).2 + 1)
theorem am_0 {cell : Int32} {off : Nat} {f : Nat → Int32} {ln k : Nat} (h : byO cell k = 0) : adM cell off f ln (k + 1) = adM cell off f ln k := if_pos h
theorem am_1 {cell : Int32} {off : Nat} {f : Nat → Int32} {ln k : Nat} (h : ¬ byO cell k = 0) : adM cell off f ln (k + 1) = (upd (adM cell off f ln k).1 (off + (adM cell off f ln k).2) (byO cell k), (adM cell off f ln k).2 + 1) := if_neg h
theorem am_cnt (cell : Int32) (off : Nat) (f : Nat → Int32) (ln : Nat) : ∀ k, (adM cell off f ln k).2 = ln + cntL (byO cell) k := by
  intro k
  induction k with
  | zero => rfl
  | succ k ih =>
    by_cases h : byO cell k = 0
    · rw [am_0 h, cnt_0 h]; exact ih
    · rw [am_1 h, cnt_1 h]; show (adM cell off f ln k).2 + 1 = _; omega
theorem cnt_mono (P : Nat → Int32) (k : Nat) : ∀ j, cntL P k ≤ cntL P (k + j) := by
  intro j
  induction j with
  | zero => exact Nat.le_refl _
  | succ j ih =>
    refine Nat.le_trans ih ?_
    show _ ≤ cntL P ((k + j) + 1)
    by_cases h : P (k + j) = 0
    · rw [cnt_0 h]; exact Nat.le_refl _
    · rw [cnt_1 h]; exact Nat.le_succ _
theorem am_lt {cell : Int32} {off : Nat} {f : Nat → Int32} {ln k : Nat} (hT : ln + cntL (byO cell) 4 ≤ 40) (h : ¬ byO cell k = 0) (hk : k < 4) : (adM cell off f ln k).2 < 40 := by
  have h1 := cnt_mono (byO cell) (k + 1) (4 - (k + 1))
  rw [show k + 1 + (4 - (k + 1)) = 4 by omega, cnt_1 h] at h1
  rw [am_cnt]
  omega
theorem tj_lt : ∀ j, j ≤ 4 → (nI 24 - nI (8 * j) < 0 ↔ j = 4) := by decide +kernel
theorem tj_s : ∀ j, j ≤ 4 → nI 24 - nI (8 * j) + -8 = nI 24 - nI (8 * (j + 1)) := by decide +kernel
set_option maxHeartbeats 4000000 in
set_option maxRecDepth 100000 in
theorem c_X8_typed (g : GG) (l : Launch) (md : Nat → Nat) (mfa : Int32) (mmz : Nat) (msz : Nat) (mnow : Int64) (mgr : Int64) (mmo : Int64) (mre : Int64) (msd : Int64) (mbg : Int64) (mky : Nat) (mli : Int32) (mrf : Int32) (mrn : Int32) (mka : Int32) (mta : Nat → Int32) (mwd : Nat → Int32) (mms : Nat → Int32) (mhs : Nat → Int32) (mke : Nat → Int32) (msa : Nat → Int32) (mkn : Nat → Int32) (mkb : Nat → Int32) (mku : Nat → Int64) (mhp : Nat → Int32) (mpa : Nat → Int32) (mpb : Nat → Int32) (mit : Nat → Int32) (mus : Nat → Int32) (mid : Nat → Int64) (mbe : Nat → Int64) (mla : Nat → Int64) (msi : Nat → Int32) (mtx : Nat → Int32) (mra : Nat → Int32) (w : Nat) (pk : Int32) (n : Nat) (hw2 : w < 2) (hT : n + cntL (byO pk) 4 ≤ 40) : Ct g l yX8_typed cX8_typed 7 (some .int) 0 0 [.ref (md 0), .int (nI w), .int pk, .int (nI n)] (mX g md mfa mmz msz mnow mgr mmo mre msd mbg mky mli mrf mrn mka mta mwd mms mhs mke msa mkn mkb mku mhp mpa mpb mit mus mid mbe mla msi mtx mra) (Ri g (fun (v : Int32) (u : Unit) => v = nI (adM pk (40 * w) mtx n 4).2) (fun (u : Unit) => (mX g md mfa mmz msz mnow mgr mmo mre msd mbg mky mli mrf mrn mka mta mwd mms mhs mke msa mkn mkb mku mhp mpa mpb mit mus mid mbe mla msi ((adM pk (40 * w) mtx n 4).1) mra))) := by
  refine mkC (by decide) (Nat.le_of_ble_eq_true rfl) ?_
  intro p e s m args below meth c A ls QQ F hr hlk hnm hQ hw hl
  have hx := F.1
  have hb := F.2.1
  replace hl : lv_has ls 7 [(0, .ref (md 0)), (1, .int (nI w)), (2, .int pk), (3, .int (nI n))] := hl
  refine lv_iload_n hx hb dX8_typed_0 rfl (lv_at hl 3 rfl) ?_
  refine lv_istore (lv' := [(4, .int (nI n)), (0, .ref (md 0)), (1, .int (nI w)), (2, .int pk), (3, .int (nI n))]) hx hb dX8_typed_1 hl (by decide) rfl (fun ls hl => ?_)
  refine lv_bipush (v := nI 24) hx hb dX8_typed_3 (by decide) ?_
  refine lv_istore (lv' := [(5, .int (nI 24)), (4, .int (nI n)), (0, .ref (md 0)), (1, .int (nI w)), (2, .int pk), (3, .int (nI n))]) hx hb dX8_typed_5 hl (by decide) rfl (fun ls hl => ?_)
  have L_7 : ∀ (nn j : Nat), j ≤ 4 → 4 < j + nn → ∀ (H : Heap) (locs : List Loc) (ls : Array Slot), Wd g s A H locs (mX g md mfa mmz msz mnow mgr mmo mre msd mbg mky mli mrf mrn mka mta mwd mms mhs mke msa mkn mkb mku mhp mpa mpb mit mus mid mbe mla msi ((adM pk (40 * w) mtx n j).1) mra) → lv_has ls 7 [(0, .ref (md 0)), (1, .int (nI w)), (2, .int pk), (4, .int (nI ((adM pk (40 * w) mtx n j).2))), (5, .int ((nI 24 - nI (8 * j))))] → W p l e (rmm 0 0) s m args below meth c H locs 0 0 QQ (F0 m 7 ls []) := by
    intro nn
    induction nn with
    | zero => intro j h1 h2; exact absurd h2 (by omega)
    | succ nn ih =>
      intro j hk_j hn_j H locs ls hw hl
      refine lv_iload hx hb dX8_typed_7 (lv_at hl 4 rfl) ?_
      refine lv_if_lt (tgt := 57) hx hb dX8_typed_9 (by decide) (fun c_9 => ?_) (fun c_9 => ?_)
      · obtain rfl : j = 4 := (tj_lt _ hk_j).mp c_9
        refine lv_iload hx hb dX8_typed_57 (lv_at hl 3 rfl) ?_
        exact rt_i F hr hlk hQ hw () rfl rfl dX8_typed_59
      · have hj4 : j < 4 := Nat.lt_of_le_of_ne hk_j (fun h => c_9 ((tj_lt j hk_j).mpr h))
        refine lv_iload_n hx hb dX8_typed_12 rfl (lv_at hl 2 rfl) ?_
        refine lv_iload hx hb dX8_typed_13 (lv_at hl 4 rfl) ?_
        refine tp_i (y := nI (24 - 8 * j)) (pk_sub (by omega)) ?_
        refine lv_ishr hx hb dX8_typed_15 ?_
        refine lv_sipush (v := nI 255) hx hb dX8_typed_16 (by decide) ?_
        refine lv_iand hx hb dX8_typed_19 ?_
        refine tp_i (y := byO pk j) (sar_byO pk (by omega)) ?_
        refine lv_istore (lv' := [(6, .int ((byO pk j))), (0, .ref (md 0)), (1, .int (nI w)), (2, .int pk), (4, .int (nI ((adM pk (40 * w) mtx n j).2))), (5, .int ((nI 24 - nI (8 * j))))]) hx hb dX8_typed_20 hl (by decide) rfl (fun ls hl => ?_)
        refine lv_iload hx hb dX8_typed_22 (lv_at hl 0 rfl) ?_
        refine lv_if_eq (tgt := 51) hx hb dX8_typed_24 (by decide) (fun c_24 => ?_) (fun c_24 => ?_)
        · refine lv_iinc (v := ((nI 24 - nI (8 * j)) + -8)) (lv' := [(5, .int (((nI 24 - nI (8 * j)) + -8))), (6, .int ((byO pk j))), (0, .ref (md 0)), (1, .int (nI w)), (2, .int pk), (4, .int (nI ((adM pk (40 * w) mtx n j).2)))]) hx hb dX8_typed_51 hl (k := 5) rfl (rfl) (by decide) rfl (fun ls hl => ?_)
          refine lv_goto (tgt := 7) hx hb dX8_typed_54 (by decide) ?_
          rw [tj_s j (by omega)] at hl
          first | (have e9 := am_0 (off := 40 * w) (f := mtx) (ln := n) c_24; rw [← e9] at hw hl) | (have e9 := am_1 (off := 40 * w) (f := mtx) (ln := n) c_24; have e8 := congrArg Prod.fst e9; have e7 := congrArg Prod.snd e9; dsimp only at e8 e7; rw [← e8] at hw; rw [← e7] at hl)
          exact ih (j + 1) (by omega) (by omega) _ _ _ hw (lv_sub hl [2, 3, 4, 5, 0] rfl)
        · have hm9 : (adM pk (40 * w) mtx n j).2 < 40 := am_lt hT c_24 (by omega)
          refine lv_iload hx hb dX8_typed_27 (lv_at hl 4 rfl) ?_
          refine lv_bipush (v := nI 40) hx hb dX8_typed_29 (by decide) ?_
          refine n_ge (tgt := 48) hx hb (by omega) (by omega) dX8_typed_31 (by decide) (fun c_31 => ?_) (fun c_31 => ?_)
          · exact absurd c_31 (Nat.not_le.mpr (am_lt hT c_24 (by omega)))
          · refine lv_aload_n hx hb dX8_typed_34 rfl (lv_at hl 1 rfl) ?_
            refine gf_X8_160 F hw 0 rfl rfl dX8_typed_35 ?_
            refine lv_bipush (v := nI 40) hx hb dX8_typed_38 (by decide) ?_
            refine lv_iload_n hx hb dX8_typed_40 rfl (lv_at hl 2 rfl) ?_
            refine n_mul hx hb dX8_typed_41 ?_
            refine lv_iload hx hb dX8_typed_42 (lv_at hl 4 rfl) ?_
            refine n_add hx hb dX8_typed_44 ?_
            refine lv_iload hx hb dX8_typed_45 (lv_at hl 0 rfl) ?_
            refine ia_st F hw 21 rfl (by omega) (by omega) dX8_typed_47 (fun H locs hw => ?_)
            replace hw : Wd g s A H locs (mX g md mfa mmz msz mnow mgr mmo mre msd mbg mky mli mrf mrn mka mta mwd mms mhs mke msa mkn mkb mku mhp mpa mpb mit mus mid mbe mla msi (upd ((adM pk (40 * w) mtx n j).1) ((40 * w) + ((adM pk (40 * w) mtx n j).2)) (byO pk j)) mra) := hw
            refine lv_iinc (v := nI ((adM pk (40 * w) mtx n j).2 + 1)) (lv' := [(4, .int (nI ((adM pk (40 * w) mtx n j).2 + 1))), (6, .int ((byO pk j))), (0, .ref (md 0)), (1, .int (nI w)), (2, .int pk), (5, .int ((nI 24 - nI (8 * j))))]) hx hb dX8_typed_48 hl (k := 4) rfl (inc_n _ 1) (by decide) rfl (fun ls hl => ?_)
            refine lv_iinc (v := ((nI 24 - nI (8 * j)) + -8)) (lv' := [(5, .int (((nI 24 - nI (8 * j)) + -8))), (4, .int (nI ((adM pk (40 * w) mtx n j).2 + 1))), (6, .int ((byO pk j))), (0, .ref (md 0)), (1, .int (nI w)), (2, .int pk)]) hx hb dX8_typed_51 hl (k := 5) rfl (rfl) (by decide) rfl (fun ls hl => ?_)
            refine lv_goto (tgt := 7) hx hb dX8_typed_54 (by decide) ?_
            rw [tj_s j (by omega)] at hl
            first | (have e9 := am_0 (off := 40 * w) (f := mtx) (ln := n) c_24; rw [← e9] at hw hl) | (have e9 := am_1 (off := 40 * w) (f := mtx) (ln := n) c_24; have e8 := congrArg Prod.fst e9; have e7 := congrArg Prod.snd e9; dsimp only at e8 e7; rw [← e8] at hw; rw [← e7] at hl)
            exact ih (j + 1) (by omega) (by omega) _ _ _ hw (lv_sub hl [3, 4, 5, 1, 0] rfl)
  exact L_7 (4 + 1) 0 (by omega) (by omega) _ _ _ hw (lv_sub hl [2, 3, 4, 1, 0] rfl)
