set_option maxHeartbeats 4000000 in
set_option maxRecDepth 100000 in
theorem c_J0_isLatin1_aae02 (g : GG) (l : Launch) : Ct g l yJ0_isLatin1_aae02 cJ0_isLatin1_aae02 1 (some .boolean) 0 0 [.ref (gA g 2)] [] (Ri g (fun (v : Int32) (u : Unit) => v = nI 1) (fun (u : Unit) => [])) := by
  refine mkC (by decide) (Nat.le_of_ble_eq_true rfl) ?_
  intro p e s m args below meth c A ls QQ F hr hlk hnm hQ hw hl
  have hx := F.1
  have hb := F.2.1
  replace hl : lv_has ls 1 [(0, .ref (gA g 2))] := hl
  refine gs_J0_38 F hw dJ0_isLatin1_aae02_0 ?_
  refine lv_if_eq (tgt := 17) hx hb dJ0_isLatin1_aae02_3 (by decide) (fun c_3 => ?_) (fun c_3 => ?_)
  · exact absurd c_3 (by decide)
  · refine lv_aload_n hx hb dJ0_isLatin1_aae02_6 rfl (lv_at hl 0 rfl) ?_
    refine gf_J0_15 F hw dJ0_isLatin1_aae02_7 ?_
    refine lv_if_ne (tgt := 17) hx hb dJ0_isLatin1_aae02_10 (by decide) (fun c_10 => ?_) (fun c_10 => ?_)
    · exact absurd rfl c_10
    · refine lv_iconst (v := nI 1) hx hb dJ0_isLatin1_aae02_13 (by decide) ?_
      refine lv_goto (tgt := 18) hx hb dJ0_isLatin1_aae02_14 (by decide) ?_
      exact rt_z F hr rfl hlk hQ hw () rfl rfl dJ0_isLatin1_aae02_18
set_option maxHeartbeats 4000000 in
set_option maxRecDepth 100000 in
theorem c_J3_checkIndex_n (g : GG) (l : Launch) (k : Nat) (n : Nat) (hk : k < n) (hn : n < 2 ^ 31) : Ct g l yJ3_checkIndex_8e157 cJ3_checkIndex_8e157 3 (some .int) 0 0 [.int (nI k), .int (nI n), .null] [] (Ri g (fun (v : Int32) (u : Unit) => v = nI k) (fun (u : Unit) => [])) := by
  refine mkC (by decide) (Nat.le_of_ble_eq_true rfl) ?_
  intro p e s m args below meth c A ls QQ F hr hlk hnm hQ hw hl
  have hx := F.1
  have hb := F.2.1
  replace hl : lv_has ls 3 [(0, .int (nI k)), (1, .int (nI n)), (2, .null)] := hl
  refine lv_iload_n hx hb dJ3_checkIndex_8e157_0 rfl (lv_at hl 0 rfl) ?_
  refine lv_if_lt (tgt := 9) hx hb dJ3_checkIndex_8e157_1 (by decide) (fun c_1 => ?_) (fun c_1 => ?_)
  · exact absurd c_1 (nI_pos (by omega))
  · refine lv_iload_n hx hb dJ3_checkIndex_8e157_4 rfl (lv_at hl 0 rfl) ?_
    refine lv_iload_n hx hb dJ3_checkIndex_8e157_5 rfl (lv_at hl 1 rfl) ?_
    refine n_lt (tgt := 16) hx hb (by omega) (by omega) dJ3_checkIndex_8e157_6 (by decide) (fun c_6 => ?_) (fun c_6 => ?_)
    · refine lv_iload_n hx hb dJ3_checkIndex_8e157_16 rfl (lv_at hl 0 rfl) ?_
      exact rt_i F hr hlk hQ hw () rfl rfl dJ3_checkIndex_8e157_17
    · exact absurd c_6 (by omega)
set_option maxHeartbeats 4000000 in
set_option maxRecDepth 100000 in
theorem c_J3_checkIndex_r (g : GG) (l : Launch) (k : Nat) (n : Nat) (tq : Nat) (hk : k < n) (hn : n < 2 ^ 31) : Ct g l yJ3_checkIndex_8e157 cJ3_checkIndex_8e157 3 (some .int) 0 0 [.int (nI k), .int (nI n), .ref tq] [] (Ri g (fun (v : Int32) (u : Unit) => v = nI k) (fun (u : Unit) => [])) := by
  refine mkC (by decide) (Nat.le_of_ble_eq_true rfl) ?_
  intro p e s m args below meth c A ls QQ F hr hlk hnm hQ hw hl
  have hx := F.1
  have hb := F.2.1
  replace hl : lv_has ls 3 [(0, .int (nI k)), (1, .int (nI n)), (2, .ref tq)] := hl
  refine lv_iload_n hx hb dJ3_checkIndex_8e157_0 rfl (lv_at hl 0 rfl) ?_
  refine lv_if_lt (tgt := 9) hx hb dJ3_checkIndex_8e157_1 (by decide) (fun c_1 => ?_) (fun c_1 => ?_)
  · exact absurd c_1 (nI_pos (by omega))
  · refine lv_iload_n hx hb dJ3_checkIndex_8e157_4 rfl (lv_at hl 0 rfl) ?_
    refine lv_iload_n hx hb dJ3_checkIndex_8e157_5 rfl (lv_at hl 1 rfl) ?_
    refine n_lt (tgt := 16) hx hb (by omega) (by omega) dJ3_checkIndex_8e157_6 (by decide) (fun c_6 => ?_) (fun c_6 => ?_)
    · refine lv_iload_n hx hb dJ3_checkIndex_8e157_16 rfl (lv_at hl 0 rfl) ?_
      exact rt_i F hr hlk hQ hw () rfl rfl dJ3_checkIndex_8e157_17
    · exact absurd c_6 (by omega)
set_option maxHeartbeats 4000000 in
set_option maxRecDepth 100000 in
theorem c_J0_checkIndex_df160 (g : GG) (l : Launch) (k : Nat) (n : Nat) (hk : k < n) (hn : n < 2 ^ 31) : Ct g l yJ0_checkIndex_df160 cJ0_checkIndex_df160 2 none 1 22 [.int (nI k), .int (nI n)] [] (Rv g (fun (u : Unit) => True) (fun (u : Unit) => [])) := by
  refine mkC (by decide) (Nat.le_of_ble_eq_true rfl) ?_
  intro p e s m args below meth c A ls QQ F hr hlk hnm hQ hw hl
  have hx := F.1
  have hb := F.2.1
  replace hl : lv_has ls 2 [(0, .int (nI k)), (1, .int (nI n))] := hl
  refine lv_iload_n hx hb dJ0_checkIndex_df160_0 rfl (lv_at hl 0 rfl) ?_
  refine lv_iload_n hx hb dJ0_checkIndex_df160_1 rfl (lv_at hl 1 rfl) ?_
  refine gs_J0_1053 F hw dJ0_checkIndex_df160_2 ?_ (fun tq => ?_)
  · refine cl_i hw [] rfl (rn_S F hw (c_J3_checkIndex_n g l k n (by omega) (by omega)) (cw_J0_1059 F.2.2.2.2 ⟨by decide, by decide⟩) [] (by decide) rfl hl.1 rfl (Nat.le_of_ble_eq_true rfl) dJ0_checkIndex_df160_5 ⟨Nat.zero_le _, Nat.zero_le _⟩) (fun _ => rfl) (fun v_2 u_1 H locs hp_3 hw => ?_)
    subst hp_3
    replace hw : Wd g s A H locs [] := hw
    refine lv_pop hx hb dJ0_checkIndex_df160_8 rfl ?_
    exact rt_v F hr hlk hQ hw () trivial rfl dJ0_checkIndex_df160_9
  · refine cl_i hw [] rfl (rn_S F hw (c_J3_checkIndex_r g l k n tq (by omega) (by omega)) (cw_J0_1059 F.2.2.2.2 ⟨by decide, by decide⟩) [] (by decide) rfl hl.1 rfl (Nat.le_of_ble_eq_true rfl) dJ0_checkIndex_df160_5 ⟨Nat.zero_le _, Nat.zero_le _⟩) (fun _ => rfl) (fun v_5 u_4 H locs hp_6 hw => ?_)
    subst hp_6
    replace hw : Wd g s A H locs [] := hw
    refine lv_pop hx hb dJ0_checkIndex_df160_8 rfl ?_
    exact rt_v F hr hlk hQ hw () trivial rfl dJ0_checkIndex_df160_9
set_option maxHeartbeats 4000000 in
set_option maxRecDepth 100000 in
theorem c_J1_charAt_3b067 (g : GG) (l : Launch) (k : Nat) (hk : k < 64) : Ct g l yJ1_charAt_3b067 cJ1_charAt_3b067 2 (some .char) 2 43 [.ref (gA g 3), .int (nI k)] [] (Ri g (fun (v : Int32) (u : Unit) => v = kA k) (fun (u : Unit) => [])) := by
  refine mkC (by decide) (Nat.le_of_ble_eq_true rfl) ?_
  intro p e s m args below meth c A ls QQ F hr hlk hnm hQ hw hl
  have hx := F.1
  have hb := F.2.1
  replace hl : lv_has ls 2 [(0, .ref (gA g 3)), (1, .int (nI k))] := hl
  refine lv_iload_n hx hb dJ1_charAt_3b067_0 rfl (lv_at hl 1 rfl) ?_
  refine lv_aload_n hx hb dJ1_charAt_3b067_1 rfl (lv_at hl 0 rfl) ?_
  refine al_len F hw dJ1_charAt_3b067_2 ?_
  refine cl_v hw [] rfl (rn_S F hw (c_J0_checkIndex_df160 g l k 64 (by omega) (by omega)) (cw_J1_9 F.2.2.2.2 ⟨by decide, by decide⟩) [] (by decide) rfl hl.1 rfl (Nat.le_of_ble_eq_true rfl) dJ1_charAt_3b067_3 ⟨Nat.zero_le _, Nat.zero_le _⟩) (fun _ => rfl) (fun u_1 H locs hp_3 hw => ?_)
  replace hw : Wd g s A H locs [] := hw
  refine lv_aload_n hx hb dJ1_charAt_3b067_6 rfl (lv_at hl 0 rfl) ?_
  refine lv_iload_n hx hb dJ1_charAt_3b067_7 rfl (lv_at hl 1 rfl) ?_
  refine al_ld F hw (by omega) dJ1_charAt_3b067_8 ?_
  refine lv_sipush (v := nI 255) hx hb dJ1_charAt_3b067_9 (by decide) ?_
  refine lv_iand hx hb dJ1_charAt_3b067_12 ?_
  refine lv_i2c (v := ((((kA k) &&& (nI 255))).toUInt32 % 65536).toInt32) hx hb dJ1_charAt_3b067_13 rfl ?_
  refine tp_i (y := kA k) (kA_char k hk) ?_
  exact rt_z F hr (kA_nar k hk) hlk hQ hw () rfl rfl dJ1_charAt_3b067_14
set_option maxHeartbeats 4000000 in
set_option maxRecDepth 100000 in
theorem c_J0_charAt_5068e (g : GG) (l : Launch) (k : Nat) (hk : k < 64) : Ct g l yJ0_charAt_5068e cJ0_charAt_5068e 2 (some .char) 3 64 [.ref (gA g 2), .int (nI k)] [] (Ri g (fun (v : Int32) (u : Unit) => v = kA k) (fun (u : Unit) => [])) := by
  refine mkC (by decide) (Nat.le_of_ble_eq_true rfl) ?_
  intro p e s m args below meth c A ls QQ F hr hlk hnm hQ hw hl
  have hx := F.1
  have hb := F.2.1
  replace hl : lv_has ls 2 [(0, .ref (gA g 2)), (1, .int (nI k))] := hl
  refine lv_aload_n hx hb dJ0_charAt_5068e_0 rfl (lv_at hl 0 rfl) ?_
  refine cl_i hw [] rfl (rn_VS F hw (c_J0_isLatin1_aae02 g l) (cw_J0_492 F.2.2.2.2 ⟨by decide, by decide⟩) [] (by decide) rfl hl.1 rfl (Nat.le_of_ble_eq_true rfl) dJ0_charAt_5068e_1 ⟨Nat.zero_le _, Nat.zero_le _⟩) (fun _ => rfl) (fun v_2 u_1 H locs hp_3 hw => ?_)
  subst hp_3
  replace hw : Wd g s A H locs [] := hw
  refine lv_if_eq (tgt := 16) hx hb dJ0_charAt_5068e_4 (by decide) (fun c_4 => ?_) (fun c_4 => ?_)
  · exact absurd c_4 (by decide)
  · refine lv_aload_n hx hb dJ0_charAt_5068e_7 rfl (lv_at hl 0 rfl) ?_
    refine gf_J0_9 F hw dJ0_charAt_5068e_8 ?_
    refine lv_iload_n hx hb dJ0_charAt_5068e_11 rfl (lv_at hl 1 rfl) ?_
    refine cl_i hw [] rfl (rn_S F hw (c_J1_charAt_3b067 g l k (by omega)) (cw_J0_495 F.2.2.2.2 ⟨by decide, by decide⟩) [] (by decide) rfl hl.1 rfl (Nat.le_of_ble_eq_true rfl) dJ0_charAt_5068e_12 ⟨Nat.zero_le _, Nat.zero_le _⟩) (fun _ => rfl) (fun v_5 u_4 H locs hp_6 hw => ?_)
    subst hp_6
    replace hw : Wd g s A H locs [] := hw
    exact rt_z F hr (kA_nar k hk) hlk hQ hw () rfl rfl dJ0_charAt_5068e_15
set_option maxHeartbeats 4000000 in
set_option maxRecDepth 100000 in
theorem c_J0_coder_7d493 (g : GG) (l : Launch) : Ct g l yJ0_coder_7d493 cJ0_coder_7d493 1 (some .byte) 0 0 [.ref (gA g 2)] [] (Ri g (fun (v : Int32) (u : Unit) => v = nI 0) (fun (u : Unit) => [])) := by
  refine mkC (by decide) (Nat.le_of_ble_eq_true rfl) ?_
  intro p e s m args below meth c A ls QQ F hr hlk hnm hQ hw hl
  have hx := F.1
  have hb := F.2.1
  replace hl : lv_has ls 1 [(0, .ref (gA g 2))] := hl
  refine gs_J0_38 F hw dJ0_coder_7d493_0 ?_
  refine lv_if_eq (tgt := 13) hx hb dJ0_coder_7d493_3 (by decide) (fun c_3 => ?_) (fun c_3 => ?_)
  · exact absurd c_3 (by decide)
  · refine lv_aload_n hx hb dJ0_coder_7d493_6 rfl (lv_at hl 0 rfl) ?_
    refine gf_J0_15 F hw dJ0_coder_7d493_7 ?_
    refine lv_goto (tgt := 14) hx hb dJ0_coder_7d493_10 (by decide) ?_
    exact rt_z F hr rfl hlk hQ hw () rfl rfl dJ0_coder_7d493_14
set_option maxHeartbeats 4000000 in
set_option maxRecDepth 100000 in
theorem c_J0_length_8abf5 (g : GG) (l : Launch) : Ct g l yJ0_length_8abf5 cJ0_length_8abf5 1 (some .int) 1 20 [.ref (gA g 2)] [] (Ri g (fun (v : Int32) (u : Unit) => v = nI 64) (fun (u : Unit) => [])) := by
  refine mkC (by decide) (Nat.le_of_ble_eq_true rfl) ?_
  intro p e s m args below meth c A ls QQ F hr hlk hnm hQ hw hl
  have hx := F.1
  have hb := F.2.1
  replace hl : lv_has ls 1 [(0, .ref (gA g 2))] := hl
  refine lv_aload_n hx hb dJ0_length_8abf5_0 rfl (lv_at hl 0 rfl) ?_
  refine gf_J0_9 F hw dJ0_length_8abf5_1 ?_
  refine al_len F hw dJ0_length_8abf5_4 ?_
  refine lv_aload_n hx hb dJ0_length_8abf5_5 rfl (lv_at hl 0 rfl) ?_
  refine cl_i hw [] rfl (rn_VS F hw (c_J0_coder_7d493 g l) (cw_J0_335 F.2.2.2.2 ⟨by decide, by decide⟩) [] (by decide) rfl hl.1 rfl (Nat.le_of_ble_eq_true rfl) dJ0_length_8abf5_6 ⟨Nat.zero_le _, Nat.zero_le _⟩) (fun _ => rfl) (fun v_2 u_1 H locs hp_3 hw => ?_)
  subst hp_3
  replace hw : Wd g s A H locs [] := hw
  refine lv_ishr hx hb dJ0_length_8abf5_9 ?_
  refine tp_i (y := nI 64) (by decide) ?_
  exact rt_i F hr hlk hQ hw () rfl rfl dJ0_length_8abf5_10
set_option maxHeartbeats 4000000 in
set_option maxRecDepth 100000 in
theorem c_J1_canEncode_9a6ad (g : GG) (l : Launch) (x : Nat) (hc : x < 256) : Ct g l yJ1_canEncode_9a6ad cJ1_canEncode_9a6ad 1 (some .boolean) 0 0 [.int (nI x)] [] (Ri g (fun (v : Int32) (u : Unit) => v = nI 1) (fun (u : Unit) => [])) := by
  refine mkC (by decide) (Nat.le_of_ble_eq_true rfl) ?_
  intro p e s m args below meth c A ls QQ F hr hlk hnm hQ hw hl
  have hx := F.1
  have hb := F.2.1
  replace hl : lv_has ls 1 [(0, .int (nI x))] := hl
  refine lv_iload_n hx hb dJ1_canEncode_9a6ad_0 rfl (lv_at hl 0 rfl) ?_
  refine lv_if_lt (tgt := 15) hx hb dJ1_canEncode_9a6ad_1 (by decide) (fun c_1 => ?_) (fun c_1 => ?_)
  · exact absurd c_1 (nI_pos (by omega))
  · refine lv_iload_n hx hb dJ1_canEncode_9a6ad_4 rfl (lv_at hl 0 rfl) ?_
    refine lv_sipush (v := nI 255) hx hb dJ1_canEncode_9a6ad_5 (by decide) ?_
    refine n_gt (tgt := 15) hx hb (by omega) (by omega) dJ1_canEncode_9a6ad_8 (by decide) (fun c_8 => ?_) (fun c_8 => ?_)
    · exact absurd c_8 (by omega)
    · refine lv_iconst (v := nI 1) hx hb dJ1_canEncode_9a6ad_11 (by decide) ?_
      refine lv_goto (tgt := 16) hx hb dJ1_canEncode_9a6ad_12 (by decide) ?_
      exact rt_z F hr rfl hlk hQ hw () rfl rfl dJ1_canEncode_9a6ad_16
theorem ix_hit {x : Int32} {n k : Nat} (h : kA k = x) : ixF x (n + 1) k = nI k := if_pos h
theorem ix_miss {x : Int32} {n k : Nat} (h : ¬ kA k = x) : ixF x (n + 1) k = ixF x n (k + 1) := if_neg h
theorem ix_end {x : Int32} {n k : Nat} (h : 64 - k = n + 1) (hk : k < 64) : 64 - (k + 1) = n := by omega
set_option maxHeartbeats 4000000 in
set_option maxRecDepth 100000 in
theorem c_J1_indexOfChar_4cfef (g : GG) (l : Launch) (x : Nat) : Ct g l yJ1_indexOfChar_4cfef cJ1_indexOfChar_4cfef 6 (some .int) 0 0 [.ref (gA g 3), .int (nI x), .int (nI 0), .int (nI 64)] [] (Ri g (fun (v : Int32) (u : Unit) => v = six x) (fun (u : Unit) => [])) := by
  refine mkC (by decide) (Nat.le_of_ble_eq_true rfl) ?_
  intro p e s m args below meth c A ls QQ F hr hlk hnm hQ hw hl
  have hx := F.1
  have hb := F.2.1
  replace hl : lv_has ls 6 [(0, .ref (gA g 3)), (1, .int (nI x)), (2, .int (nI 0)), (3, .int (nI 64))] := hl
  refine lv_iload_n hx hb dJ1_indexOfChar_4cfef_0 rfl (lv_at hl 1 rfl) ?_
  refine lv_i2b (v := (nI x).toInt8.toInt32) hx hb dJ1_indexOfChar_4cfef_1 rfl ?_
  refine lv_istore (lv' := [(4, .int ((nI x).toInt8.toInt32)), (0, .ref (gA g 3)), (1, .int (nI x)), (2, .int (nI 0)), (3, .int (nI 64))]) hx hb dJ1_indexOfChar_4cfef_2 hl (by decide) rfl (fun ls hl => ?_)
  refine lv_iload_n hx hb dJ1_indexOfChar_4cfef_4 rfl (lv_at hl 3 rfl) ?_
  refine lv_istore (lv' := [(5, .int (nI 0)), (4, .int ((nI x).toInt8.toInt32)), (0, .ref (gA g 3)), (1, .int (nI x)), (2, .int (nI 0)), (3, .int (nI 64))]) hx hb dJ1_indexOfChar_4cfef_5 hl (by decide) rfl (fun ls hl => ?_)
  have L_7 : ∀ (nn k : Nat), k ≤ 64 → 64 < k + nn → ∀ (H : Heap) (locs : List Loc) (ls : Array Slot), (ixF ((nI x).toInt8.toInt32) (64 - k) k = six x) → Wd g s A H locs [] → lv_has ls 6 [(0, .ref (gA g 3)), (1, .int (nI x)), (3, .int (nI 64)), (4, .int ((nI x).toInt8.toInt32)), (5, .int (nI k))] → W p l e (rmm 0 0) s m args below meth c H locs 0 0 QQ (F0 m 7 ls []) := by
    intro nn
    induction nn with
    | zero => intro k h1 h2; exact absurd h2 (by omega)
    | succ nn ih =>
      intro k hk_k hn_k H locs ls hi_k_0 hw hl
      refine lv_iload hx hb dJ1_indexOfChar_4cfef_7 (lv_at hl 4 rfl) ?_
      refine lv_iload_n hx hb dJ1_indexOfChar_4cfef_9 rfl (lv_at hl 2 rfl) ?_
      refine n_ge (tgt := 31) hx hb (by omega) (by omega) dJ1_indexOfChar_4cfef_10 (by decide) (fun c_10 => ?_) (fun c_10 => ?_)
      · refine lv_iconst (v := (-1)) hx hb dJ1_indexOfChar_4cfef_31 (by decide) ?_
        exact rt_i F hr hlk hQ hw () (by rw [← hi_k_0, show 64 - k = 0 by omega]; rfl) rfl dJ1_indexOfChar_4cfef_32
      · refine lv_aload_n hx hb dJ1_indexOfChar_4cfef_13 rfl (lv_at hl 0 rfl) ?_
        refine lv_iload hx hb dJ1_indexOfChar_4cfef_14 (lv_at hl 4 rfl) ?_
        refine al_ld F hw (by omega) dJ1_indexOfChar_4cfef_16 ?_
        refine lv_iload hx hb dJ1_indexOfChar_4cfef_17 (lv_at hl 3 rfl) ?_
        refine lv_icmp_ne (tgt := 25) hx hb dJ1_indexOfChar_4cfef_19 (by decide) (fun c_19 => ?_) (fun c_19 => ?_)
        · refine lv_iinc (v := nI (k + 1)) (lv' := [(5, .int (nI (k + 1))), (0, .ref (gA g 3)), (1, .int (nI x)), (3, .int (nI 64)), (4, .int ((nI x).toInt8.toInt32))]) hx hb dJ1_indexOfChar_4cfef_25 hl (k := 4) rfl (inc_n _ 1) (by decide) rfl (fun ls hl => ?_)
          refine lv_goto (tgt := 7) hx hb dJ1_indexOfChar_4cfef_28 (by decide) ?_
          exact ih (k + 1) (by omega) (by omega) _ _ _ (by rw [← hi_k_0, show 64 - k = (64 - (k + 1)) + 1 by omega, ix_miss c_19]) hw (lv_sub hl [1, 2, 3, 4, 0] rfl)
        · refine lv_iload hx hb dJ1_indexOfChar_4cfef_22 (lv_at hl 4 rfl) ?_
          exact rt_i F hr hlk hQ hw () (by rw [← hi_k_0, show 64 - k = (64 - (k + 1)) + 1 by omega, ix_hit c_19]) rfl dJ1_indexOfChar_4cfef_24
  exact L_7 (64 + 1) 0 (by omega) (by omega) _ _ _ rfl hw (lv_sub hl [2, 3, 5, 1, 0] rfl)
set_option maxHeartbeats 4000000 in
set_option maxRecDepth 100000 in
theorem c_J1_indexOf_4cfef (g : GG) (l : Launch) (x : Nat) (hc : x < 256) : Ct g l yJ1_indexOf_4cfef cJ1_indexOf_4cfef 4 (some .int) 1 40 [.ref (gA g 3), .int (nI x), .int (nI 0), .int (nI 64)] [] (Ri g (fun (v : Int32) (u : Unit) => v = six x) (fun (u : Unit) => [])) := by
  refine mkC (by decide) (Nat.le_of_ble_eq_true rfl) ?_
  intro p e s m args below meth c A ls QQ F hr hlk hnm hQ hw hl
  have hx := F.1
  have hb := F.2.1
  replace hl : lv_has ls 4 [(0, .ref (gA g 3)), (1, .int (nI x)), (2, .int (nI 0)), (3, .int (nI 64))] := hl
  refine lv_iload_n hx hb dJ1_indexOf_4cfef_0 rfl (lv_at hl 1 rfl) ?_
  refine cl_i hw [] rfl (rn_S F hw (c_J1_canEncode_9a6ad g l x (by omega)) (cw_J1_88 F.2.2.2.2 ⟨by decide, by decide⟩) [] (by decide) rfl hl.1 rfl (Nat.le_of_ble_eq_true rfl) dJ1_indexOf_4cfef_1 ⟨Nat.zero_le _, Nat.zero_le _⟩) (fun _ => rfl) (fun v_2 u_1 H locs hp_3 hw => ?_)
  subst hp_3
  replace hw : Wd g s A H locs [] := hw
  refine lv_if_ne (tgt := 9) hx hb dJ1_indexOf_4cfef_4 (by decide) (fun c_4 => ?_) (fun c_4 => ?_)
  · refine lv_iload_n hx hb dJ1_indexOf_4cfef_9 rfl (lv_at hl 2 rfl) ?_
    refine lv_iconst (v := nI 0) hx hb dJ1_indexOf_4cfef_10 (by decide) ?_
    refine va_mmax hx hb (F.2.2.1.trans hl.1.symm) F.2.2.2.1 (F.2.2.2.2 _ bg_22_18) (F.2.2.2.2 _ bg_22_19) (F.2.2.2.2 _ bg_22_20) (F.2.2.2.2 _ bg_22_21) (by decide) (Nat.le_of_ble_eq_true rfl) (Nat.zero_le _) (Nat.zero_le _) dJ1_indexOf_4cfef_11 ?_
    refine tp_i (y := nI 0) (by decide) ?_
    refine lv_istore_n (lv' := [(2, .int (nI 0)), (0, .ref (gA g 3)), (1, .int (nI x)), (3, .int (nI 64))]) hx hb dJ1_indexOf_4cfef_14 rfl hl (by decide) rfl (fun ls hl => ?_)
    refine lv_iload_n hx hb dJ1_indexOf_4cfef_15 rfl (lv_at hl 3 rfl) ?_
    refine lv_aload_n hx hb dJ1_indexOf_4cfef_16 rfl (lv_at hl 1 rfl) ?_
    refine al_len F hw dJ1_indexOf_4cfef_17 ?_
    refine va_mmin hx hb (F.2.2.1.trans hl.1.symm) F.2.2.2.1 (F.2.2.2.2 _ bg_22_22) (F.2.2.2.2 _ bg_22_23) (F.2.2.2.2 _ bg_22_20) (F.2.2.2.2 _ bg_23_0) (by decide) (Nat.le_of_ble_eq_true rfl) (Nat.zero_le _) (Nat.zero_le _) dJ1_indexOf_4cfef_18 ?_
    refine tp_i (y := nI 64) (by decide) ?_
    refine lv_istore_n (lv' := [(3, .int (nI 64)), (2, .int (nI 0)), (0, .ref (gA g 3)), (1, .int (nI x))]) hx hb dJ1_indexOf_4cfef_21 rfl hl (by decide) rfl (fun ls hl => ?_)
    refine lv_iload_n hx hb dJ1_indexOf_4cfef_22 rfl (lv_at hl 1 rfl) ?_
    refine lv_iload_n hx hb dJ1_indexOf_4cfef_23 rfl (lv_at hl 0 rfl) ?_
    refine n_lt (tgt := 29) hx hb (by omega) (by omega) dJ1_indexOf_4cfef_24 (by decide) (fun c_24 => ?_) (fun c_24 => ?_)
    · refine lv_aload_n hx hb dJ1_indexOf_4cfef_29 rfl (lv_at hl 2 rfl) ?_
      refine lv_iload_n hx hb dJ1_indexOf_4cfef_30 rfl (lv_at hl 3 rfl) ?_
      refine lv_iload_n hx hb dJ1_indexOf_4cfef_31 rfl (lv_at hl 1 rfl) ?_
      refine lv_iload_n hx hb dJ1_indexOf_4cfef_32 rfl (lv_at hl 0 rfl) ?_
      refine cl_i hw [] rfl (rn_S F hw (c_J1_indexOfChar_4cfef g l x) (cw_J1_95 F.2.2.2.2 ⟨by decide, by decide⟩) [] (by decide) rfl hl.1 rfl (Nat.le_of_ble_eq_true rfl) dJ1_indexOf_4cfef_33 ⟨Nat.zero_le _, Nat.zero_le _⟩) (fun _ => rfl) (fun v_5 u_4 H locs hp_6 hw => ?_)
      subst hp_6
      replace hw : Wd g s A H locs [] := hw
      exact rt_i F hr hlk hQ hw () rfl rfl dJ1_indexOf_4cfef_36
    · exact absurd c_24 (by omega)
  · exact absurd c_4 (by decide)
set_option maxHeartbeats 4000000 in
set_option maxRecDepth 100000 in
theorem c_J0_indexOf_7cf53 (g : GG) (l : Launch) (x : Nat) (hc : x < 256) : Ct g l yJ0_indexOf_7cf53 cJ0_indexOf_7cf53 3 (some .int) 2 70 [.ref (gA g 2), .int (nI x), .int (nI 0)] [] (Ri g (fun (v : Int32) (u : Unit) => v = six x) (fun (u : Unit) => [])) := by
  refine mkC (by decide) (Nat.le_of_ble_eq_true rfl) ?_
  intro p e s m args below meth c A ls QQ F hr hlk hnm hQ hw hl
  have hx := F.1
  have hb := F.2.1
  replace hl : lv_has ls 3 [(0, .ref (gA g 2)), (1, .int (nI x)), (2, .int (nI 0))] := hl
  refine lv_aload_n hx hb dJ0_indexOf_7cf53_0 rfl (lv_at hl 0 rfl) ?_
  refine cl_i hw [] rfl (rn_VS F hw (c_J0_isLatin1_aae02 g l) (cw_J0_492 F.2.2.2.2 ⟨by decide, by decide⟩) [] (by decide) rfl hl.1 rfl (Nat.le_of_ble_eq_true rfl) dJ0_indexOf_7cf53_1 ⟨Nat.zero_le _, Nat.zero_le _⟩) (fun _ => rfl) (fun v_2 u_1 H locs hp_3 hw => ?_)
  subst hp_3
  replace hw : Wd g s A H locs [] := hw
  refine lv_if_eq (tgt := 23) hx hb dJ0_indexOf_7cf53_4 (by decide) (fun c_4 => ?_) (fun c_4 => ?_)
  · exact absurd c_4 (by decide)
  · refine lv_aload_n hx hb dJ0_indexOf_7cf53_7 rfl (lv_at hl 0 rfl) ?_
    refine gf_J0_9 F hw dJ0_indexOf_7cf53_8 ?_
    refine lv_iload_n hx hb dJ0_indexOf_7cf53_11 rfl (lv_at hl 1 rfl) ?_
    refine lv_iload_n hx hb dJ0_indexOf_7cf53_12 rfl (lv_at hl 2 rfl) ?_
    refine lv_aload_n hx hb dJ0_indexOf_7cf53_13 rfl (lv_at hl 0 rfl) ?_
    refine cl_i hw [] rfl (rn_VS F hw (c_J0_length_8abf5 g l) (cw_J0_505 F.2.2.2.2 ⟨by decide, by decide⟩) [] (by decide) rfl hl.1 rfl (Nat.le_of_ble_eq_true rfl) dJ0_indexOf_7cf53_14 ⟨Nat.zero_le _, Nat.zero_le _⟩) (fun _ => rfl) (fun v_5 u_4 H locs hp_6 hw => ?_)
    subst hp_6
    replace hw : Wd g s A H locs [] := hw
    refine cl_i hw [] rfl (rn_S F hw (c_J1_indexOf_4cfef g l x (by omega)) (cw_J0_637 F.2.2.2.2 ⟨by decide, by decide⟩) [] (by decide) rfl hl.1 rfl (Nat.le_of_ble_eq_true rfl) dJ0_indexOf_7cf53_17 ⟨Nat.zero_le _, Nat.zero_le _⟩) (fun _ => rfl) (fun v_8 u_7 H locs hp_9 hw => ?_)
    subst hp_9
    replace hw : Wd g s A H locs [] := hw
    refine lv_goto (tgt := 36) hx hb dJ0_indexOf_7cf53_20 (by decide) ?_
    exact rt_i F hr hlk hQ hw () rfl rfl dJ0_indexOf_7cf53_36
set_option maxHeartbeats 4000000 in
set_option maxRecDepth 100000 in
theorem c_J0_indexOf_0f7a4 (g : GG) (l : Launch) (x : Nat) (hc : x < 256) : Ct g l yJ0_indexOf_0f7a4 cJ0_indexOf_0f7a4 2 (some .int) 3 92 [.ref (gA g 2), .int (nI x)] [] (Ri g (fun (v : Int32) (u : Unit) => v = six x) (fun (u : Unit) => [])) := by
  refine mkC (by decide) (Nat.le_of_ble_eq_true rfl) ?_
  intro p e s m args below meth c A ls QQ F hr hlk hnm hQ hw hl
  have hx := F.1
  have hb := F.2.1
  replace hl : lv_has ls 2 [(0, .ref (gA g 2)), (1, .int (nI x))] := hl
  refine lv_aload_n hx hb dJ0_indexOf_0f7a4_0 rfl (lv_at hl 0 rfl) ?_
  refine lv_iload_n hx hb dJ0_indexOf_0f7a4_1 rfl (lv_at hl 1 rfl) ?_
  refine lv_iconst (v := nI 0) hx hb dJ0_indexOf_0f7a4_2 (by decide) ?_
  refine cl_i hw [] rfl (rn_VS F hw (c_J0_indexOf_7cf53 g l x (by omega)) (cw_J0_633 F.2.2.2.2 ⟨by decide, by decide⟩) [] (by decide) rfl hl.1 rfl (Nat.le_of_ble_eq_true rfl) dJ0_indexOf_0f7a4_3 ⟨Nat.zero_le _, Nat.zero_le _⟩) (fun _ => rfl) (fun v_2 u_1 H locs hp_3 hw => ?_)
  subst hp_3
  replace hw : Wd g s A H locs [] := hw
  exact rt_i F hr hlk hQ hw () rfl rfl dJ0_indexOf_0f7a4_6
