def byO (pk : Int32) (k : Nat) : Int32 := ushr pk (nI (24 - 8 * k)) &&& nI 255
def rot (w : Int32) (b : Nat) : Int32 := ushr w (nI b) ||| w <<< (nI (32 - b) &&& 31)
set_option maxHeartbeats 4000000 in
set_option maxRecDepth 100000 in
theorem c_X7_byteOf (g : GG) (l : Launch) (pk : Int32) (k : Nat) (hk : k < 4) : Ct g l yX7_byteOf cX7_byteOf 2 (some .int) 0 0 [.int pk, .int (nI k)] [] (Ri g (fun (v : Int32) (u : Unit) => v = byO pk k) (fun (u : Unit) => [])) := by
  refine mkC (by decide) (Nat.le_of_ble_eq_true rfl) ?_
  intro p e s m args below meth c A ls QQ F hr hlk hnm hQ hw hl
  have hx := F.1
  have hb := F.2.1
  replace hl : lv_has ls 2 [(0, .int pk), (1, .int (nI k))] := hl
  refine lv_iload_n hx hb dX7_byteOf_0 rfl (lv_at hl 0 rfl) ?_
  refine lv_bipush (v := nI 24) hx hb dX7_byteOf_1 (by decide) ?_
  refine lv_bipush (v := nI 8) hx hb dX7_byteOf_3 (by decide) ?_
  refine lv_iload_n hx hb dX7_byteOf_5 rfl (lv_at hl 1 rfl) ?_
  refine n_mul hx hb dX7_byteOf_6 ?_
  refine n_sub hx hb (by omega) dX7_byteOf_7 ?_
  refine lv_iushr (v := ushr pk (nI (24 - (8 * k)))) hx hb dX7_byteOf_8 rfl ?_
  refine lv_sipush (v := nI 255) hx hb dX7_byteOf_9 (by decide) ?_
  refine lv_iand hx hb dX7_byteOf_12 ?_
  exact rt_i F hr hlk hQ hw () rfl rfl dX7_byteOf_13
set_option maxHeartbeats 4000000 in
set_option maxRecDepth 100000 in
theorem c_X3_turn (g : GG) (l : Launch) (w : Int32) (b : Nat) (hb2 : b ≤ 32) : Ct g l yX3_turn cX3_turn 2 (some .int) 0 0 [.int w, .int (nI b)] [] (Ri g (fun (v : Int32) (u : Unit) => v = rot w b) (fun (u : Unit) => [])) := by
  refine mkC (by decide) (Nat.le_of_ble_eq_true rfl) ?_
  intro p e s m args below meth c A ls QQ F hr hlk hnm hQ hw hl
  have hx := F.1
  have hb := F.2.1
  replace hl : lv_has ls 2 [(0, .int w), (1, .int (nI b))] := hl
  refine lv_iload_n hx hb dX3_turn_0 rfl (lv_at hl 0 rfl) ?_
  refine lv_iload_n hx hb dX3_turn_1 rfl (lv_at hl 1 rfl) ?_
  refine lv_iushr (v := ushr w (nI b)) hx hb dX3_turn_2 rfl ?_
  refine lv_iload_n hx hb dX3_turn_3 rfl (lv_at hl 0 rfl) ?_
  refine lv_bipush (v := nI 32) hx hb dX3_turn_4 (by decide) ?_
  refine lv_iload_n hx hb dX3_turn_6 rfl (lv_at hl 1 rfl) ?_
  refine n_sub hx hb (by omega) dX3_turn_7 ?_
  refine lv_ishl hx hb dX3_turn_8 ?_
  refine lv_ior hx hb dX3_turn_9 ?_
  exact rt_i F hr hlk hQ hw () rfl rfl dX3_turn_10
def hasT (k ln : Int32) : Int32 := if k < 0 then nI 0 else if ln ≤ k then nI 0 else nI 1
set_option maxHeartbeats 4000000 in
set_option maxRecDepth 100000 in
theorem c_X5_has (g : GG) (l : Launch) (h0 : Nat) (h1 : Nat) (f : Nat → Int32) (ln : Nat) (k : Int32) : Ct g l yX5_has cX5_has 2 (some .boolean) 0 0 [.ref h0, .int k] [(h0, .inr (4, [.ref h1, .int (nI ln)])), (h1, iA g 40 f)] (Ri g (fun (v : Int32) (u : Unit) => v = hasT k (nI ln)) (fun (u : Unit) => [(h0, .inr (4, [.ref h1, .int (nI ln)])), (h1, iA g 40 f)])) := by
  refine mkC (by decide) (Nat.le_of_ble_eq_true rfl) ?_
  intro p e s m args below meth c A ls QQ F hr hlk hnm hQ hw hl
  have hx := F.1
  have hb := F.2.1
  replace hl : lv_has ls 2 [(0, .ref h0), (1, .int k)] := hl
  refine lv_iload_n hx hb dX5_has_0 rfl (lv_at hl 1 rfl) ?_
  refine lv_if_lt (tgt := 16) hx hb dX5_has_1 (by decide) (fun c_1 => ?_) (fun c_1 => ?_)
  · refine lv_iconst (v := nI 0) hx hb dX5_has_16 (by decide) ?_
    exact rt_z F hr rfl hlk hQ hw () (by simp only [hasT, c_1, if_true, if_false]) rfl dX5_has_17
  · refine lv_iload_n hx hb dX5_has_4 rfl (lv_at hl 1 rfl) ?_
    refine lv_aload_n hx hb dX5_has_5 rfl (lv_at hl 0 rfl) ?_
    refine gf_X5_15 F hw 0 rfl rfl dX5_has_6 ?_
    refine lv_icmp_ge (tgt := 16) hx hb dX5_has_9 (by decide) (fun c_9 => ?_) (fun c_9 => ?_)
    · refine lv_iconst (v := nI 0) hx hb dX5_has_16 (by decide) ?_
      exact rt_z F hr rfl hlk hQ hw () (by simp only [hasT, c_1, c_9, if_true, if_false]) rfl dX5_has_17
    · refine lv_iconst (v := nI 1) hx hb dX5_has_12 (by decide) ?_
      refine lv_goto (tgt := 17) hx hb dX5_has_13 (by decide) ?_
      exact rt_z F hr rfl hlk hQ hw () (by simp only [hasT, c_1, c_9, if_true, if_false]) rfl dX5_has_17
set_option maxHeartbeats 4000000 in
set_option maxRecDepth 100000 in
theorem c_X5_addSign (g : GG) (l : Launch) (h0 : Nat) (h1 : Nat) (f : Nat → Int32) (ln : Nat) (x : Int32) (hln : ln < 40) : Ct g l yX5_addSign cX5_addSign 2 none 0 0 [.ref h0, .int x] [(h0, .inr (4, [.ref h1, .int (nI ln)])), (h1, iA g 40 f)] (Rv g (fun (u : Unit) => True) (fun (u : Unit) => [(h0, .inr (4, [.ref h1, .int (nI (ln + 1))])), (h1, iA g 40 (upd f ln x))])) := by
  refine mkC (by decide) (Nat.le_of_ble_eq_true rfl) ?_
  intro p e s m args below meth c A ls QQ F hr hlk hnm hQ hw hl
  have hx := F.1
  have hb := F.2.1
  replace hl : lv_has ls 2 [(0, .ref h0), (1, .int x)] := hl
  refine lv_aload_n hx hb dX5_addSign_0 rfl (lv_at hl 0 rfl) ?_
  refine gf_X5_15 F hw 0 rfl rfl dX5_addSign_1 ?_
  refine lv_bipush (v := nI 40) hx hb dX5_addSign_4 (by decide) ?_
  refine n_ge (tgt := 29) hx hb (by omega) (by omega) dX5_addSign_6 (by decide) (fun c_6 => ?_) (fun c_6 => ?_)
  · exact absurd c_6 (by omega)
  · refine lv_aload_n hx hb dX5_addSign_9 rfl (lv_at hl 0 rfl) ?_
    refine gf_X5_9 F hw 0 rfl rfl dX5_addSign_10 ?_
    refine lv_aload_n hx hb dX5_addSign_13 rfl (lv_at hl 0 rfl) ?_
    refine gf_X5_15 F hw 0 rfl rfl dX5_addSign_14 ?_
    refine lv_iload_n hx hb dX5_addSign_17 rfl (lv_at hl 1 rfl) ?_
    refine ia_st F hw 1 rfl (by omega) (by omega) dX5_addSign_18 (fun H locs hw => ?_)
    replace hw : Wd g s A H locs [(h0, .inr (4, [.ref h1, .int (nI ln)])), (h1, iA g 40 (upd f ln x))] := hw
    refine lv_aload_n hx hb dX5_addSign_19 rfl (lv_at hl 0 rfl) ?_
    refine lv_dup hx hb dX5_addSign_20 rfl ?_
    refine gf_X5_15 F hw 0 rfl rfl dX5_addSign_21 ?_
    refine lv_iconst (v := nI 1) hx hb dX5_addSign_24 (by decide) ?_
    refine n_add hx hb dX5_addSign_25 ?_
    refine pf_X5_15 F hw 0 rfl (Nat.le_of_ble_eq_true rfl) rfl rfl dX5_addSign_26 (fun H locs hw => ?_)
    replace hw : Wd g s A H locs [(h0, .inr (4, [.ref h1, .int (nI (ln + 1))])), (h1, iA g 40 (upd f ln x))] := hw
    exact rt_v F hr hlk hQ hw () trivial rfl dX5_addSign_29
def addS (pk : Int32) (f : Nat → Int32) (ln : Nat) : Nat → (Nat → Int32) × Nat
  | 0 => (f, ln)
  | k + 1 => if byO pk k = 0 then addS pk f ln k else (upd (addS pk f ln k).1 (addS pk f ln k).2 (byO pk k), (addS pk f ln k).2 + 1)
theorem addS_0 {pk : Int32} {f : Nat → Int32} {ln k : Nat} (h : byO pk k = 0) : addS pk f ln (k + 1) = addS pk f ln k := if_pos h
theorem addS_1 {pk : Int32} {f : Nat → Int32} {ln k : Nat} (h : ¬ byO pk k = 0) : addS pk f ln (k + 1) = (upd (addS pk f ln k).1 (addS pk f ln k).2 (byO pk k), (addS pk f ln k).2 + 1) := if_neg h
theorem addS_mono (pk : Int32) (f : Nat → Int32) (ln k j : Nat) : (addS pk f ln k).2 ≤ (addS pk f ln (k + j)).2 := by
  induction j with
  | zero => exact Nat.le_refl _
  | succ j ih =>
    refine Nat.le_trans ih ?_
    show _ ≤ (addS pk f ln ((k + j) + 1)).2
    by_cases h : byO pk (k + j) = 0
    · rw [addS_0 h]; exact Nat.le_refl _
    · rw [addS_1 h]; exact Nat.le_succ _
theorem addS_lt {pk : Int32} {f : Nat → Int32} {ln k : Nat} (hT : (addS pk f ln 4).2 ≤ 40) (h : ¬ byO pk k = 0) (hk : k < 4) : (addS pk f ln k).2 < 40 := by
  have h1 := addS_mono pk f ln (k + 1) (4 - (k + 1))
  rw [show k + 1 + (4 - (k + 1)) = 4 by omega, addS_1 h] at h1
  have h2 : (addS pk f ln k).2 + 1 ≤ (addS pk f ln 4).2 := h1
  omega
set_option maxHeartbeats 4000000 in
set_option maxRecDepth 100000 in
theorem c_X5_addSigns (g : GG) (l : Launch) (h0 : Nat) (h1 : Nat) (f : Nat → Int32) (ln : Nat) (pk : Int32) (hT : (addS pk f ln 4).2 ≤ 40) : Ct g l yX5_addSigns cX5_addSigns 4 none 1 21 [.ref h0, .int pk] [(h0, .inr (4, [.ref h1, .int (nI ln)])), (h1, iA g 40 f)] (Rv g (fun (u : Unit) => True) (fun (u : Unit) => [(h0, .inr (4, [.ref h1, .int (nI ((addS pk f ln 4).2))])), (h1, iA g 40 ((addS pk f ln 4).1))])) := by
  refine mkC (by decide) (Nat.le_of_ble_eq_true rfl) ?_
  intro p e s m args below meth c A ls QQ F hr hlk hnm hQ hw hl
  have hx := F.1
  have hb := F.2.1
  replace hl : lv_has ls 4 [(0, .ref h0), (1, .int pk)] := hl
  refine lv_iconst (v := nI 0) hx hb dX5_addSigns_0 (by decide) ?_
  refine lv_istore_n (lv' := [(2, .int (nI 0)), (0, .ref h0), (1, .int pk)]) hx hb dX5_addSigns_1 rfl hl (by decide) rfl (fun ls hl => ?_)
  have L_2 : ∀ (nn k : Nat), k ≤ 4 → 4 < k + nn → ∀ (H : Heap) (locs : List Loc) (ls : Array Slot), Wd g s A H locs [(h0, .inr (4, [.ref h1, .int (nI ((addS pk f ln k).2))])), (h1, iA g 40 ((addS pk f ln k).1))] → lv_has ls 4 [(0, .ref h0), (1, .int pk), (2, .int (nI k))] → W p l e (rmm 1 21) s m args below meth c H locs 0 0 QQ (F0 m 2 ls []) := by
    intro nn
    induction nn with
    | zero => intro k h1 h2; exact absurd h2 (by omega)
    | succ nn ih =>
      intro k hk_k hn_k H locs ls hw hl
      refine lv_iload_n hx hb dX5_addSigns_2 rfl (lv_at hl 2 rfl) ?_
      refine lv_iconst (v := nI 4) hx hb dX5_addSigns_3 (by decide) ?_
      refine n_ge (tgt := 28) hx hb (by omega) (by omega) dX5_addSigns_4 (by decide) (fun c_4 => ?_) (fun c_4 => ?_)
      · obtain rfl : k = 4 := by omega
        exact rt_v F hr hlk hQ hw () trivial rfl dX5_addSigns_28
      · refine lv_iload_n hx hb dX5_addSigns_7 rfl (lv_at hl 1 rfl) ?_
        refine lv_iload_n hx hb dX5_addSigns_8 rfl (lv_at hl 2 rfl) ?_
        refine cl_i hw [] rfl (rn_N F hw (c_X7_byteOf g l pk k (by omega)) (cw_X5_19 hw F.2.2.2.2 ⟨by decide, by decide⟩) [] (by decide) rfl hl.1 rfl (Nat.le_of_ble_eq_true rfl) dX5_addSigns_9 ⟨Nat.zero_le _, Nat.zero_le _⟩) (fun _ => rfl) (fun v_2 u_1 H locs hp_3 hw => ?_)
        subst hp_3
        replace hw : Wd g s A H locs [(h0, .inr (4, [.ref h1, .int (nI ((addS pk f ln k).2))])), (h1, iA g 40 ((addS pk f ln k).1))] := hw
        refine lv_istore_n (lv' := [(3, .int ((byO pk k))), (0, .ref h0), (1, .int pk), (2, .int (nI k))]) hx hb dX5_addSigns_12 rfl hl (by decide) rfl (fun ls hl => ?_)
        refine lv_iload_n hx hb dX5_addSigns_13 rfl (lv_at hl 0 rfl) ?_
        refine lv_if_eq (tgt := 22) hx hb dX5_addSigns_14 (by decide) (fun c_14 => ?_) (fun c_14 => ?_)
        · refine lv_iinc (v := nI (k + 1)) (lv' := [(2, .int (nI (k + 1))), (3, .int ((byO pk k))), (0, .ref h0), (1, .int pk)]) hx hb dX5_addSigns_22 hl (k := 3) rfl (inc_n _ 1) (by decide) rfl (fun ls hl => ?_)
          refine lv_goto (tgt := 2) hx hb dX5_addSigns_25 (by decide) ?_
          exact ih (k + 1) (by omega) (by omega) _ _ _ (by first | (rw [addS_0 c_14]; exact hw) | (rw [addS_1 c_14]; exact hw)) (lv_sub hl [2, 3, 0] rfl)
        · refine lv_aload_n hx hb dX5_addSigns_17 rfl (lv_at hl 1 rfl) ?_
          refine lv_iload_n hx hb dX5_addSigns_18 rfl (lv_at hl 0 rfl) ?_
          refine cl_v hw [0, 1] rfl (rn_V F hw (c_X5_addSign g l h0 h1 ((addS pk f ln k).1) ((addS pk f ln k).2) (byO pk k) (addS_lt hT c_14 (by omega))) (cw_X5_23 F.2.2.2.2 ⟨by decide, by decide⟩) [0, 1] (by decide) rfl 0 rfl rfl rfl hl.1 rfl (Nat.le_of_ble_eq_true rfl) dX5_addSigns_19 ⟨Nat.zero_le _, Nat.zero_le _⟩) (fun _ => rfl) (fun u_4 H locs hp_6 hw => ?_)
          replace hw : Wd g s A H locs [(h0, .inr (4, [.ref h1, .int (nI (((addS pk f ln k).2) + 1))])), (h1, iA g 40 (upd ((addS pk f ln k).1) ((addS pk f ln k).2) (byO pk k)))] := hw
          refine lv_iinc (v := nI (k + 1)) (lv' := [(2, .int (nI (k + 1))), (3, .int ((byO pk k))), (0, .ref h0), (1, .int pk)]) hx hb dX5_addSigns_22 hl (k := 3) rfl (inc_n _ 1) (by decide) rfl (fun ls hl => ?_)
          refine lv_goto (tgt := 2) hx hb dX5_addSigns_25 (by decide) ?_
          exact ih (k + 1) (by omega) (by omega) _ _ _ (by first | (rw [addS_0 c_14]; exact hw) | (rw [addS_1 c_14]; exact hw)) (lv_sub hl [2, 3, 0] rfl)
  exact L_2 (4 + 1) 0 (by omega) (by omega) _ _ _ hw (lv_sub hl [1, 2, 0] rfl)
