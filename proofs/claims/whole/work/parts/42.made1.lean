set_option maxHeartbeats 4000000 in
set_option maxRecDepth 100000 in
theorem c_X1_init (g : GG) (l : Launch) (h0 : Nat) : Cn g l yX1_init cX1_init 1 1 20 1 16 [.ref h0] [(h0, .inr (0, [.null, .int 0, .long 0]))] (Rv g (fun (u : Nat) => True) (fun (u : Nat) => [(h0, .inr (0, [.ref u, .int (nI 0), .long 0])), (u, iA g 16 (fun _ => 0))])) := by
  refine mkN (by decide) rfl (Nat.le_of_ble_eq_true rfl) ?_
  intro p e s m args below meth c A ls QQ F hr hlk hnm hao hQ hw hl
  have hx := F.1
  have hb := F.2.1
  replace hl : lv_has ls 1 [(0, .ref h0)] := hl
  refine lv_aload_n hx hb dX1_init_0 rfl (lv_at hl 0 rfl) ?_
  refine oi F bg_3_21 hl.1 (Nat.le_of_ble_eq_true rfl) (Nat.le_of_ble_eq_true rfl) (Nat.le_of_ble_eq_true rfl) dX1_init_1 ?_
  refine lv_aload_n hx hb dX1_init_4 rfl (lv_at hl 0 rfl) ?_
  refine lv_bipush (v := nI 16) hx hb dX1_init_5 (by decide) ?_
  refine nw_i F hw (by decide) (Nat.le_of_ble_eq_true rfl) (Nat.le_of_ble_eq_true rfl) dX1_init_7 (fun q_1 H hw => ?_)
  replace hw : Wd g s A H _ [(h0, .inr (0, [.null, .int 0, .long 0])), (q_1, iA g 16 (fun _ => 0))] := hw
  refine pF_X1_9 F hnm hw 0 rfl (Nat.le_of_ble_eq_true rfl) rfl rfl dX1_init_9 (fun H locs hw => ?_)
  replace hw : Wd g s A H _ [(h0, .inr (0, [.ref q_1, .int 0, .long 0])), (q_1, iA g 16 (fun _ => 0))] := hw
  refine lv_aload_n hx hb dX1_init_12 rfl (lv_at hl 0 rfl) ?_
  refine lv_iconst (v := nI 0) hx hb dX1_init_13 (by decide) ?_
  refine pf_X1_13 F hw 0 rfl (Nat.le_of_ble_eq_true rfl) rfl rfl dX1_init_14 (fun H locs hw => ?_)
  replace hw : Wd g s A H _ [(h0, .inr (0, [.ref q_1, .int (nI 0), .long 0])), (q_1, iA g 16 (fun _ => 0))] := hw
  refine lv_aload_n hx hb dX1_init_17 rfl (lv_at hl 0 rfl) ?_
  refine lv_lconst (v := 0) hx hb dX1_init_18 (by decide) ?_
  refine pf_X1_17 F hw 0 rfl (Nat.le_of_ble_eq_true rfl) rfl rfl dX1_init_19 (fun H locs hw => ?_)
  replace hw : Wd g s A H _ [(h0, .inr (0, [.ref q_1, .int (nI 0), .long 0])), (q_1, iA g 16 (fun _ => 0))] := hw
  exact rtn F hr hlk hQ hw q_1 trivial [0, 1] (by decide) rfl dX1_init_22
set_option maxHeartbeats 4000000 in
set_option maxRecDepth 100000 in
theorem c_X3_init (g : GG) (l : Launch) (h0 : Nat) : Cn g l yX3_init cX3_init 1 1 20 4 232 [.ref h0] [(h0, .inr (2, [.null, .null, .null, .null]))] (Rv g (fun (u : Nat × Nat × Nat × Nat) => True) (fun (u : Nat × Nat × Nat × Nat) => [(h0, .inr (2, [.ref u.1, .ref u.2.1, .ref u.2.2.1, .ref u.2.2.2])), (u.1, iA g 32 (fun _ => 0)), (u.2.1, iA g 128 (fun _ => 0)), (u.2.2.1, iA g 64 (fun _ => 0)), (u.2.2.2, iA g 8 (fun _ => 0))])) := by
  refine mkN (by decide) rfl (Nat.le_of_ble_eq_true rfl) ?_
  intro p e s m args below meth c A ls QQ F hr hlk hnm hao hQ hw hl
  have hx := F.1
  have hb := F.2.1
  replace hl : lv_has ls 1 [(0, .ref h0)] := hl
  refine lv_aload_n hx hb dX3_init_0 rfl (lv_at hl 0 rfl) ?_
  refine oi F bg_3_4 hl.1 (Nat.le_of_ble_eq_true rfl) (Nat.le_of_ble_eq_true rfl) (Nat.le_of_ble_eq_true rfl) dX3_init_1 ?_
  refine lv_aload_n hx hb dX3_init_4 rfl (lv_at hl 0 rfl) ?_
  refine lv_bipush (v := nI 32) hx hb dX3_init_5 (by decide) ?_
  refine nw_i F hw (by decide) (Nat.le_of_ble_eq_true rfl) (Nat.le_of_ble_eq_true rfl) dX3_init_7 (fun q_1 H hw => ?_)
  replace hw : Wd g s A H _ [(h0, .inr (2, [.null, .null, .null, .null])), (q_1, iA g 32 (fun _ => 0))] := hw
  refine pF_X3_9 F hnm hw 0 rfl (Nat.le_of_ble_eq_true rfl) rfl rfl dX3_init_9 (fun H locs hw => ?_)
  replace hw : Wd g s A H _ [(h0, .inr (2, [.ref q_1, .null, .null, .null])), (q_1, iA g 32 (fun _ => 0))] := hw
  refine lv_aload_n hx hb dX3_init_12 rfl (lv_at hl 0 rfl) ?_
  refine lv_sipush (v := nI 128) hx hb dX3_init_13 (by decide) ?_
  refine nw_i F hw (by decide) (Nat.le_of_ble_eq_true rfl) (Nat.le_of_ble_eq_true rfl) dX3_init_16 (fun q_2 H hw => ?_)
  replace hw : Wd g s A H _ [(h0, .inr (2, [.ref q_1, .null, .null, .null])), (q_1, iA g 32 (fun _ => 0)), (q_2, iA g 128 (fun _ => 0))] := hw
  refine pF_X3_13 F hnm hw 0 rfl (Nat.le_of_ble_eq_true rfl) rfl rfl dX3_init_18 (fun H locs hw => ?_)
  replace hw : Wd g s A H _ [(h0, .inr (2, [.ref q_1, .ref q_2, .null, .null])), (q_1, iA g 32 (fun _ => 0)), (q_2, iA g 128 (fun _ => 0))] := hw
  refine lv_aload_n hx hb dX3_init_21 rfl (lv_at hl 0 rfl) ?_
  refine lv_bipush (v := nI 64) hx hb dX3_init_22 (by decide) ?_
  refine nw_i F hw (by decide) (Nat.le_of_ble_eq_true rfl) (Nat.le_of_ble_eq_true rfl) dX3_init_24 (fun q_3 H hw => ?_)
  replace hw : Wd g s A H _ [(h0, .inr (2, [.ref q_1, .ref q_2, .null, .null])), (q_1, iA g 32 (fun _ => 0)), (q_2, iA g 128 (fun _ => 0)), (q_3, iA g 64 (fun _ => 0))] := hw
  refine pF_X3_16 F hnm hw 0 rfl (Nat.le_of_ble_eq_true rfl) rfl rfl dX3_init_26 (fun H locs hw => ?_)
  replace hw : Wd g s A H _ [(h0, .inr (2, [.ref q_1, .ref q_2, .ref q_3, .null])), (q_1, iA g 32 (fun _ => 0)), (q_2, iA g 128 (fun _ => 0)), (q_3, iA g 64 (fun _ => 0))] := hw
  refine lv_aload_n hx hb dX3_init_29 rfl (lv_at hl 0 rfl) ?_
  refine lv_bipush (v := nI 8) hx hb dX3_init_30 (by decide) ?_
  refine nw_i F hw (by decide) (Nat.le_of_ble_eq_true rfl) (Nat.le_of_ble_eq_true rfl) dX3_init_32 (fun q_4 H hw => ?_)
  replace hw : Wd g s A H _ [(h0, .inr (2, [.ref q_1, .ref q_2, .ref q_3, .null])), (q_1, iA g 32 (fun _ => 0)), (q_2, iA g 128 (fun _ => 0)), (q_3, iA g 64 (fun _ => 0)), (q_4, iA g 8 (fun _ => 0))] := hw
  refine pF_X3_19 F hnm hw 0 rfl (Nat.le_of_ble_eq_true rfl) rfl rfl dX3_init_34 (fun H locs hw => ?_)
  replace hw : Wd g s A H _ [(h0, .inr (2, [.ref q_1, .ref q_2, .ref q_3, .ref q_4])), (q_1, iA g 32 (fun _ => 0)), (q_2, iA g 128 (fun _ => 0)), (q_3, iA g 64 (fun _ => 0)), (q_4, iA g 8 (fun _ => 0))] := hw
  exact rtn F hr hlk hQ hw (q_1, q_2, q_3, q_4) trivial [0, 1, 2, 3, 4] (by decide) rfl dX3_init_37
set_option maxHeartbeats 4000000 in
set_option maxRecDepth 100000 in
theorem c_X4_init (g : GG) (l : Launch) (h0 : Nat) : Cn g l yX4_init cX4_init 1 1 20 0 0 [.ref h0] [(h0, .inr (3, [.int 0, .int 0, .long 0, .long 0, .long 0]))] (Rv g (fun (u : Unit) => True) (fun (u : Unit) => [(h0, .inr (3, [.int (nI 0), .int (nI 0), .long 0, .long 0, .long 0]))])) := by
  refine mkN (by decide) rfl (Nat.le_of_ble_eq_true rfl) ?_
  intro p e s m args below meth c A ls QQ F hr hlk hnm hao hQ hw hl
  have hx := F.1
  have hb := F.2.1
  replace hl : lv_has ls 1 [(0, .ref h0)] := hl
  refine lv_aload_n hx hb dX4_init_0 rfl (lv_at hl 0 rfl) ?_
  refine oi F bg_4_14 hl.1 (Nat.le_of_ble_eq_true rfl) (Nat.le_of_ble_eq_true rfl) (Nat.le_of_ble_eq_true rfl) dX4_init_1 ?_
  refine lv_aload_n hx hb dX4_init_4 rfl (lv_at hl 0 rfl) ?_
  refine lv_iconst (v := nI 0) hx hb dX4_init_5 (by decide) ?_
  refine pf_X4_7 F hw 0 rfl (Nat.le_of_ble_eq_true rfl) rfl rfl dX4_init_6 (fun H locs hw => ?_)
  replace hw : Wd g s A H _ [(h0, .inr (3, [.int (nI 0), .int 0, .long 0, .long 0, .long 0]))] := hw
  refine lv_aload_n hx hb dX4_init_9 rfl (lv_at hl 0 rfl) ?_
  refine lv_iconst (v := nI 0) hx hb dX4_init_10 (by decide) ?_
  refine pf_X4_13 F hw 0 rfl (Nat.le_of_ble_eq_true rfl) rfl rfl dX4_init_11 (fun H locs hw => ?_)
  replace hw : Wd g s A H _ [(h0, .inr (3, [.int (nI 0), .int (nI 0), .long 0, .long 0, .long 0]))] := hw
  refine lv_aload_n hx hb dX4_init_14 rfl (lv_at hl 0 rfl) ?_
  refine lv_lconst (v := 0) hx hb dX4_init_15 (by decide) ?_
  refine pf_X4_17 F hw 0 rfl (Nat.le_of_ble_eq_true rfl) rfl rfl dX4_init_16 (fun H locs hw => ?_)
  replace hw : Wd g s A H _ [(h0, .inr (3, [.int (nI 0), .int (nI 0), .long 0, .long 0, .long 0]))] := hw
  refine lv_aload_n hx hb dX4_init_19 rfl (lv_at hl 0 rfl) ?_
  refine lv_lconst (v := 0) hx hb dX4_init_20 (by decide) ?_
  refine pf_X4_21 F hw 0 rfl (Nat.le_of_ble_eq_true rfl) rfl rfl dX4_init_21 (fun H locs hw => ?_)
  replace hw : Wd g s A H _ [(h0, .inr (3, [.int (nI 0), .int (nI 0), .long 0, .long 0, .long 0]))] := hw
  refine lv_aload_n hx hb dX4_init_24 rfl (lv_at hl 0 rfl) ?_
  refine lv_lconst (v := 0) hx hb dX4_init_25 (by decide) ?_
  refine pf_X4_24 F hw 0 rfl (Nat.le_of_ble_eq_true rfl) rfl rfl dX4_init_26 (fun H locs hw => ?_)
  replace hw : Wd g s A H _ [(h0, .inr (3, [.int (nI 0), .int (nI 0), .long 0, .long 0, .long 0]))] := hw
  exact rtn F hr hlk hQ hw () trivial [0] (by decide) rfl dX4_init_29
set_option maxHeartbeats 4000000 in
set_option maxRecDepth 100000 in
theorem c_X5_init (g : GG) (l : Launch) (h0 : Nat) : Cn g l yX5_init cX5_init 1 1 20 1 40 [.ref h0] [(h0, .inr (4, [.null, .int 0]))] (Rv g (fun (u : Nat) => True) (fun (u : Nat) => [(h0, .inr (4, [.ref u, .int (nI 0)])), (u, iA g 40 (fun _ => 0))])) := by
  refine mkN (by decide) rfl (Nat.le_of_ble_eq_true rfl) ?_
  intro p e s m args below meth c A ls QQ F hr hlk hnm hao hQ hw hl
  have hx := F.1
  have hb := F.2.1
  replace hl : lv_has ls 1 [(0, .ref h0)] := hl
  refine lv_aload_n hx hb dX5_init_0 rfl (lv_at hl 0 rfl) ?_
  refine oi F bg_4_3 hl.1 (Nat.le_of_ble_eq_true rfl) (Nat.le_of_ble_eq_true rfl) (Nat.le_of_ble_eq_true rfl) dX5_init_1 ?_
  refine lv_aload_n hx hb dX5_init_4 rfl (lv_at hl 0 rfl) ?_
  refine lv_bipush (v := nI 40) hx hb dX5_init_5 (by decide) ?_
  refine nw_i F hw (by decide) (Nat.le_of_ble_eq_true rfl) (Nat.le_of_ble_eq_true rfl) dX5_init_7 (fun q_1 H hw => ?_)
  replace hw : Wd g s A H _ [(h0, .inr (4, [.null, .int 0])), (q_1, iA g 40 (fun _ => 0))] := hw
  refine pF_X5_9 F hnm hw 0 rfl (Nat.le_of_ble_eq_true rfl) rfl rfl dX5_init_9 (fun H locs hw => ?_)
  replace hw : Wd g s A H _ [(h0, .inr (4, [.ref q_1, .int 0])), (q_1, iA g 40 (fun _ => 0))] := hw
  refine lv_aload_n hx hb dX5_init_12 rfl (lv_at hl 0 rfl) ?_
  refine lv_iconst (v := nI 0) hx hb dX5_init_13 (by decide) ?_
  refine pf_X5_15 F hw 0 rfl (Nat.le_of_ble_eq_true rfl) rfl rfl dX5_init_14 (fun H locs hw => ?_)
  replace hw : Wd g s A H _ [(h0, .inr (4, [.ref q_1, .int (nI 0)])), (q_1, iA g 40 (fun _ => 0))] := hw
  exact rtn F hr hlk hQ hw q_1 trivial [0, 1] (by decide) rfl dX5_init_17
set_option maxHeartbeats 4000000 in
set_option maxRecDepth 100000 in
theorem c_X6_init (g : GG) (l : Launch) (h0 : Nat) : Cn g l yX6_init cX6_init 1 1 20 0 0 [.ref h0] [(h0, .inr (5, [.int 0, .int 0, .int 0]))] (Rv g (fun (u : Unit) => True) (fun (u : Unit) => [(h0, .inr (5, [.int (nI 0), .int (nI 0), .int (nI 0)]))])) := by
  refine mkN (by decide) rfl (Nat.le_of_ble_eq_true rfl) ?_
  intro p e s m args below meth c A ls QQ F hr hlk hnm hao hQ hw hl
  have hx := F.1
  have hb := F.2.1
  replace hl : lv_has ls 1 [(0, .ref h0)] := hl
  refine lv_aload_n hx hb dX6_init_0 rfl (lv_at hl 0 rfl) ?_
  refine oi F bg_4_8 hl.1 (Nat.le_of_ble_eq_true rfl) (Nat.le_of_ble_eq_true rfl) (Nat.le_of_ble_eq_true rfl) dX6_init_1 ?_
  refine lv_aload_n hx hb dX6_init_4 rfl (lv_at hl 0 rfl) ?_
  refine lv_iconst (v := nI 0) hx hb dX6_init_5 (by decide) ?_
  refine pf_X6_7 F hw 0 rfl (Nat.le_of_ble_eq_true rfl) rfl rfl dX6_init_6 (fun H locs hw => ?_)
  replace hw : Wd g s A H _ [(h0, .inr (5, [.int (nI 0), .int 0, .int 0]))] := hw
  refine lv_aload_n hx hb dX6_init_9 rfl (lv_at hl 0 rfl) ?_
  refine lv_iconst (v := nI 0) hx hb dX6_init_10 (by decide) ?_
  refine pf_X6_13 F hw 0 rfl (Nat.le_of_ble_eq_true rfl) rfl rfl dX6_init_11 (fun H locs hw => ?_)
  replace hw : Wd g s A H _ [(h0, .inr (5, [.int (nI 0), .int (nI 0), .int 0]))] := hw
  refine lv_aload_n hx hb dX6_init_14 rfl (lv_at hl 0 rfl) ?_
  refine lv_iconst (v := nI 0) hx hb dX6_init_15 (by decide) ?_
  refine pf_X6_17 F hw 0 rfl (Nat.le_of_ble_eq_true rfl) rfl rfl dX6_init_16 (fun H locs hw => ?_)
  replace hw : Wd g s A H _ [(h0, .inr (5, [.int (nI 0), .int (nI 0), .int (nI 0)]))] := hw
  exact rtn F hr hlk hQ hw () trivial [0] (by decide) rfl dX6_init_19
