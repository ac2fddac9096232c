set_option maxHeartbeats 4000000 in
set_option maxRecDepth 100000 in
theorem c_X2_init (g : GG) (l : Launch) (h0 : Nat) : Cn g l yX2_init cX2_init 2 2 40 9 80 [.ref h0] [(h0, .inr (1, [.null, .int 0, .int 0]))] (Rv g (fun (u : Nat × (Nat → Nat) × (Nat → Nat)) => True) (fun (u : Nat × (Nat → Nat) × (Nat → Nat)) => [(h0, .inr (1, [.ref u.1, .int (nI 1), .int (nI 0)])), (u.1, rA g 3 4 (rfA u.2.1)), (u.2.1 0, .inr (0, [.ref (u.2.2 0), .int (nI 0), .long 0])), (u.2.2 0, iA g 16 (fun _ => 0)), (u.2.1 1, .inr (0, [.ref (u.2.2 1), .int (nI 0), .long 0])), (u.2.2 1, iA g 16 (fun _ => 0)), (u.2.1 2, .inr (0, [.ref (u.2.2 2), .int (nI 0), .long 0])), (u.2.2 2, iA g 16 (fun _ => 0)), (u.2.1 3, .inr (0, [.ref (u.2.2 3), .int (nI 0), .long 0])), (u.2.2 3, iA g 16 (fun _ => 0))])) := by
  refine mkN (by decide) rfl (Nat.le_of_ble_eq_true rfl) ?_
  intro p e s m args below meth c A ls QQ F hr hlk hnm hao hQ hw hl
  have hx := F.1
  have hb := F.2.1
  replace hl : lv_has ls 2 [(0, .ref h0)] := hl
  refine lv_aload_n hx hb dX2_init_0 rfl (lv_at hl 0 rfl) ?_
  refine oi F bg_3_12 hl.1 (Nat.le_of_ble_eq_true rfl) (Nat.le_of_ble_eq_true rfl) (Nat.le_of_ble_eq_true rfl) dX2_init_1 ?_
  refine lv_aload_n hx hb dX2_init_4 rfl (lv_at hl 0 rfl) ?_
  refine lv_iconst (v := nI 4) hx hb dX2_init_5 (by decide) ?_
  refine nw_q 3 F bg_3_13 hao.1 rfl (nm := "[LSessionGate$Key;") (by decide +kernel) hw (by decide) (Nat.le_of_ble_eq_true rfl) (Nat.le_of_ble_eq_true rfl) dX2_init_6 (fun q_1 H hw => ?_)
  replace hw : Wd g s A H _ [(h0, .inr (1, [.null, .int 0, .int 0])), (q_1, rA g 3 4 (fun _ => none))] := hw
  refine pF_X2_11 F hnm hw 0 rfl (Nat.le_of_ble_eq_true rfl) rfl rfl dX2_init_9 (fun H locs hw => ?_)
  replace hw : Wd g s A H _ [(h0, .inr (1, [.ref q_1, .int 0, .int 0])), (q_1, rA g 3 4 (fun _ => none))] := hw
  refine lv_aload_n hx hb dX2_init_12 rfl (lv_at hl 0 rfl) ?_
  refine lv_iconst (v := nI 1) hx hb dX2_init_13 (by decide) ?_
  refine pf_X2_15 F hw 0 rfl (Nat.le_of_ble_eq_true rfl) rfl rfl dX2_init_14 (fun H locs hw => ?_)
  replace hw : Wd g s A H _ [(h0, .inr (1, [.ref q_1, .int (nI 1), .int 0])), (q_1, rA g 3 4 (fun _ => none))] := hw
  refine lv_aload_n hx hb dX2_init_17 rfl (lv_at hl 0 rfl) ?_
  refine lv_iconst (v := nI 0) hx hb dX2_init_18 (by decide) ?_
  refine pf_X2_19 F hw 0 rfl (Nat.le_of_ble_eq_true rfl) rfl rfl dX2_init_19 (fun H locs hw => ?_)
  replace hw : Wd g s A H _ [(h0, .inr (1, [.ref q_1, .int (nI 1), .int (nI 0)])), (q_1, rA g 3 4 (fun _ => none))] := hw
  refine lv_iconst (v := nI 0) hx hb dX2_init_22 (by decide) ?_
  refine lv_istore_n (lv' := [(1, .int (nI 0)), (0, .ref h0)]) hx hb dX2_init_23 rfl hl (by decide) rfl (fun ls hl => ?_)
  refine lv_iload_n hx hb dX2_init_24 rfl (lv_at hl 0 rfl) ?_
  refine lv_iconst (v := nI 4) hx hb dX2_init_25 (by decide) ?_
  refine n_ge (tgt := 48) hx hb (by decide) (by decide) dX2_init_26 (by decide) (fun h9 => absurd h9 (by decide)) (fun _ => ?_)
  refine lv_aload_n hx hb dX2_init_29 rfl (lv_at hl 1 rfl) ?_
  refine gf_X2_11 F hw 0 rfl rfl dX2_init_30 ?_
  refine lv_iload_n hx hb dX2_init_33 rfl (lv_at hl 0 rfl) ?_
  refine new_X2_9 F hw (Nat.le_of_ble_eq_true rfl) (Nat.le_of_ble_eq_true rfl) dX2_init_34 (fun q_2 H hw => ?_)
  replace hw : Wd g s A H _ [(h0, .inr (1, [.ref q_1, .int (nI 1), .int (nI 0)])), (q_1, rA g 3 4 (fun _ => none)), (q_2, .inr (0, [.null, .int 0, .long 0]))] := hw
  refine lv_dup hx hb dX2_init_37 rfl ?_
  refine cl_N (wr := [(h0, .inr (1, [.ref q_1, .int (nI 1), .int (nI 0)])), (q_1, rA g 3 4 (fun _ => none))]) hw [2] [0, 1] rfl rfl (by decide) (by decide) (rn_IN F hw hao (c_X1_init g l q_2) (ci_X2_22 hw F.2.2.2.2 ⟨by decide, by decide⟩) [2] (by decide) rfl hl.1 rfl (Nat.le_of_ble_eq_true rfl) dX2_init_38 ⟨Nat.le_of_ble_eq_true rfl, Nat.le_of_ble_eq_true rfl⟩) (fun u_3 H locs hp_4 hw => ?_)
  replace hw : Wd g s A H _ [(h0, .inr (1, [.ref q_1, .int (nI 1), .int (nI 0)])), (q_1, rA g 3 4 (fun _ => none)), (q_2, .inr (0, [.ref u_3, .int (nI 0), .long 0])), (u_3, iA g 16 (fun _ => 0))] := hw
  refine ra_st F hw 1 3 2 0 rfl rfl rfl rfl (by decide) (by decide) dX2_init_41 (fun H locs hw => ?_)
  replace hw : Wd g s A H _ [(h0, .inr (1, [.ref q_1, .int (nI 1), .int (nI 0)])), (q_1, rA g 3 4 (va_up (fun _ => none) 0 (some q_2))), (q_2, .inr (0, [.ref u_3, .int (nI 0), .long 0])), (u_3, iA g 16 (fun _ => 0))] := hw
  refine lv_iinc (v := nI 1) (lv' := [(1, .int (nI 1)), (0, .ref h0)]) hx hb dX2_init_42 hl (k := 0) rfl (inc_n _ 1) (by decide) rfl (fun ls hl => ?_)
  refine lv_goto (tgt := 24) hx hb dX2_init_45 (by decide) ?_
  refine lv_iload_n hx hb dX2_init_24 rfl (lv_at hl 0 rfl) ?_
  refine lv_iconst (v := nI 4) hx hb dX2_init_25 (by decide) ?_
  refine n_ge (tgt := 48) hx hb (by decide) (by decide) dX2_init_26 (by decide) (fun h9 => absurd h9 (by decide)) (fun _ => ?_)
  refine lv_aload_n hx hb dX2_init_29 rfl (lv_at hl 1 rfl) ?_
  refine gf_X2_11 F hw 0 rfl rfl dX2_init_30 ?_
  refine lv_iload_n hx hb dX2_init_33 rfl (lv_at hl 0 rfl) ?_
  refine new_X2_9 F hw (Nat.le_of_ble_eq_true rfl) (Nat.le_of_ble_eq_true rfl) dX2_init_34 (fun q_5 H hw => ?_)
  replace hw : Wd g s A H _ [(h0, .inr (1, [.ref q_1, .int (nI 1), .int (nI 0)])), (q_1, rA g 3 4 (va_up (fun _ => none) 0 (some q_2))), (q_2, .inr (0, [.ref u_3, .int (nI 0), .long 0])), (u_3, iA g 16 (fun _ => 0)), (q_5, .inr (0, [.null, .int 0, .long 0]))] := hw
  refine lv_dup hx hb dX2_init_37 rfl ?_
  refine cl_N (wr := [(h0, .inr (1, [.ref q_1, .int (nI 1), .int (nI 0)])), (q_1, rA g 3 4 (va_up (fun _ => none) 0 (some q_2))), (q_2, .inr (0, [.ref u_3, .int (nI 0), .long 0])), (u_3, iA g 16 (fun _ => 0))]) hw [4] [0, 1, 2, 3] rfl rfl (by decide) (by decide) (rn_IN F hw hao (c_X1_init g l q_5) (ci_X2_22 hw F.2.2.2.2 ⟨by decide, by decide⟩) [4] (by decide) rfl hl.1 rfl (Nat.le_of_ble_eq_true rfl) dX2_init_38 ⟨Nat.le_of_ble_eq_true rfl, Nat.le_of_ble_eq_true rfl⟩) (fun u_6 H locs hp_7 hw => ?_)
  replace hw : Wd g s A H _ [(h0, .inr (1, [.ref q_1, .int (nI 1), .int (nI 0)])), (q_1, rA g 3 4 (va_up (fun _ => none) 0 (some q_2))), (q_2, .inr (0, [.ref u_3, .int (nI 0), .long 0])), (u_3, iA g 16 (fun _ => 0)), (q_5, .inr (0, [.ref u_6, .int (nI 0), .long 0])), (u_6, iA g 16 (fun _ => 0))] := hw
  refine ra_st F hw 1 3 4 0 rfl rfl rfl rfl (by decide) (by decide) dX2_init_41 (fun H locs hw => ?_)
  replace hw : Wd g s A H _ [(h0, .inr (1, [.ref q_1, .int (nI 1), .int (nI 0)])), (q_1, rA g 3 4 (va_up (va_up (fun _ => none) 0 (some q_2)) 1 (some q_5))), (q_2, .inr (0, [.ref u_3, .int (nI 0), .long 0])), (u_3, iA g 16 (fun _ => 0)), (q_5, .inr (0, [.ref u_6, .int (nI 0), .long 0])), (u_6, iA g 16 (fun _ => 0))] := hw
  refine lv_iinc (v := nI 2) (lv' := [(1, .int (nI 2)), (0, .ref h0)]) hx hb dX2_init_42 hl (k := 0) rfl (inc_n _ 1) (by decide) rfl (fun ls hl => ?_)
  refine lv_goto (tgt := 24) hx hb dX2_init_45 (by decide) ?_
  refine lv_iload_n hx hb dX2_init_24 rfl (lv_at hl 0 rfl) ?_
  refine lv_iconst (v := nI 4) hx hb dX2_init_25 (by decide) ?_
  refine n_ge (tgt := 48) hx hb (by decide) (by decide) dX2_init_26 (by decide) (fun h9 => absurd h9 (by decide)) (fun _ => ?_)
  refine lv_aload_n hx hb dX2_init_29 rfl (lv_at hl 1 rfl) ?_
  refine gf_X2_11 F hw 0 rfl rfl dX2_init_30 ?_
  refine lv_iload_n hx hb dX2_init_33 rfl (lv_at hl 0 rfl) ?_
  refine new_X2_9 F hw (Nat.le_of_ble_eq_true rfl) (Nat.le_of_ble_eq_true rfl) dX2_init_34 (fun q_8 H hw => ?_)
  replace hw : Wd g s A H _ [(h0, .inr (1, [.ref q_1, .int (nI 1), .int (nI 0)])), (q_1, rA g 3 4 (va_up (va_up (fun _ => none) 0 (some q_2)) 1 (some q_5))), (q_2, .inr (0, [.ref u_3, .int (nI 0), .long 0])), (u_3, iA g 16 (fun _ => 0)), (q_5, .inr (0, [.ref u_6, .int (nI 0), .long 0])), (u_6, iA g 16 (fun _ => 0)), (q_8, .inr (0, [.null, .int 0, .long 0]))] := hw
  refine lv_dup hx hb dX2_init_37 rfl ?_
  refine cl_N (wr := [(h0, .inr (1, [.ref q_1, .int (nI 1), .int (nI 0)])), (q_1, rA g 3 4 (va_up (va_up (fun _ => none) 0 (some q_2)) 1 (some q_5))), (q_2, .inr (0, [.ref u_3, .int (nI 0), .long 0])), (u_3, iA g 16 (fun _ => 0)), (q_5, .inr (0, [.ref u_6, .int (nI 0), .long 0])), (u_6, iA g 16 (fun _ => 0))]) hw [6] [0, 1, 2, 3, 4, 5] rfl rfl (by decide) (by decide) (rn_IN F hw hao (c_X1_init g l q_8) (ci_X2_22 hw F.2.2.2.2 ⟨by decide, by decide⟩) [6] (by decide) rfl hl.1 rfl (Nat.le_of_ble_eq_true rfl) dX2_init_38 ⟨Nat.le_of_ble_eq_true rfl, Nat.le_of_ble_eq_true rfl⟩) (fun u_9 H locs hp_10 hw => ?_)
  replace hw : Wd g s A H _ [(h0, .inr (1, [.ref q_1, .int (nI 1), .int (nI 0)])), (q_1, rA g 3 4 (va_up (va_up (fun _ => none) 0 (some q_2)) 1 (some q_5))), (q_2, .inr (0, [.ref u_3, .int (nI 0), .long 0])), (u_3, iA g 16 (fun _ => 0)), (q_5, .inr (0, [.ref u_6, .int (nI 0), .long 0])), (u_6, iA g 16 (fun _ => 0)), (q_8, .inr (0, [.ref u_9, .int (nI 0), .long 0])), (u_9, iA g 16 (fun _ => 0))] := hw
  refine ra_st F hw 1 3 6 0 rfl rfl rfl rfl (by decide) (by decide) dX2_init_41 (fun H locs hw => ?_)
  replace hw : Wd g s A H _ [(h0, .inr (1, [.ref q_1, .int (nI 1), .int (nI 0)])), (q_1, rA g 3 4 (va_up (va_up (va_up (fun _ => none) 0 (some q_2)) 1 (some q_5)) 2 (some q_8))), (q_2, .inr (0, [.ref u_3, .int (nI 0), .long 0])), (u_3, iA g 16 (fun _ => 0)), (q_5, .inr (0, [.ref u_6, .int (nI 0), .long 0])), (u_6, iA g 16 (fun _ => 0)), (q_8, .inr (0, [.ref u_9, .int (nI 0), .long 0])), (u_9, iA g 16 (fun _ => 0))] := hw
  refine lv_iinc (v := nI 3) (lv' := [(1, .int (nI 3)), (0, .ref h0)]) hx hb dX2_init_42 hl (k := 0) rfl (inc_n _ 1) (by decide) rfl (fun ls hl => ?_)
  refine lv_goto (tgt := 24) hx hb dX2_init_45 (by decide) ?_
  refine lv_iload_n hx hb dX2_init_24 rfl (lv_at hl 0 rfl) ?_
  refine lv_iconst (v := nI 4) hx hb dX2_init_25 (by decide) ?_
  refine n_ge (tgt := 48) hx hb (by decide) (by decide) dX2_init_26 (by decide) (fun h9 => absurd h9 (by decide)) (fun _ => ?_)
  refine lv_aload_n hx hb dX2_init_29 rfl (lv_at hl 1 rfl) ?_
  refine gf_X2_11 F hw 0 rfl rfl dX2_init_30 ?_
  refine lv_iload_n hx hb dX2_init_33 rfl (lv_at hl 0 rfl) ?_
  refine new_X2_9 F hw (Nat.le_of_ble_eq_true rfl) (Nat.le_of_ble_eq_true rfl) dX2_init_34 (fun q_11 H hw => ?_)
  replace hw : Wd g s A H _ [(h0, .inr (1, [.ref q_1, .int (nI 1), .int (nI 0)])), (q_1, rA g 3 4 (va_up (va_up (va_up (fun _ => none) 0 (some q_2)) 1 (some q_5)) 2 (some q_8))), (q_2, .inr (0, [.ref u_3, .int (nI 0), .long 0])), (u_3, iA g 16 (fun _ => 0)), (q_5, .inr (0, [.ref u_6, .int (nI 0), .long 0])), (u_6, iA g 16 (fun _ => 0)), (q_8, .inr (0, [.ref u_9, .int (nI 0), .long 0])), (u_9, iA g 16 (fun _ => 0)), (q_11, .inr (0, [.null, .int 0, .long 0]))] := hw
  refine lv_dup hx hb dX2_init_37 rfl ?_
  refine cl_N (wr := [(h0, .inr (1, [.ref q_1, .int (nI 1), .int (nI 0)])), (q_1, rA g 3 4 (va_up (va_up (va_up (fun _ => none) 0 (some q_2)) 1 (some q_5)) 2 (some q_8))), (q_2, .inr (0, [.ref u_3, .int (nI 0), .long 0])), (u_3, iA g 16 (fun _ => 0)), (q_5, .inr (0, [.ref u_6, .int (nI 0), .long 0])), (u_6, iA g 16 (fun _ => 0)), (q_8, .inr (0, [.ref u_9, .int (nI 0), .long 0])), (u_9, iA g 16 (fun _ => 0))]) hw [8] [0, 1, 2, 3, 4, 5, 6, 7] rfl rfl (by decide) (by decide) (rn_IN F hw hao (c_X1_init g l q_11) (ci_X2_22 hw F.2.2.2.2 ⟨by decide, by decide⟩) [8] (by decide) rfl hl.1 rfl (Nat.le_of_ble_eq_true rfl) dX2_init_38 ⟨Nat.le_of_ble_eq_true rfl, Nat.le_of_ble_eq_true rfl⟩) (fun u_12 H locs hp_13 hw => ?_)
  replace hw : Wd g s A H _ [(h0, .inr (1, [.ref q_1, .int (nI 1), .int (nI 0)])), (q_1, rA g 3 4 (va_up (va_up (va_up (fun _ => none) 0 (some q_2)) 1 (some q_5)) 2 (some q_8))), (q_2, .inr (0, [.ref u_3, .int (nI 0), .long 0])), (u_3, iA g 16 (fun _ => 0)), (q_5, .inr (0, [.ref u_6, .int (nI 0), .long 0])), (u_6, iA g 16 (fun _ => 0)), (q_8, .inr (0, [.ref u_9, .int (nI 0), .long 0])), (u_9, iA g 16 (fun _ => 0)), (q_11, .inr (0, [.ref u_12, .int (nI 0), .long 0])), (u_12, iA g 16 (fun _ => 0))] := hw
  refine ra_st F hw 1 3 8 0 rfl rfl rfl rfl (by decide) (by decide) dX2_init_41 (fun H locs hw => ?_)
  replace hw : Wd g s A H _ [(h0, .inr (1, [.ref q_1, .int (nI 1), .int (nI 0)])), (q_1, rA g 3 4 (va_up (va_up (va_up (va_up (fun _ => none) 0 (some q_2)) 1 (some q_5)) 2 (some q_8)) 3 (some q_11))), (q_2, .inr (0, [.ref u_3, .int (nI 0), .long 0])), (u_3, iA g 16 (fun _ => 0)), (q_5, .inr (0, [.ref u_6, .int (nI 0), .long 0])), (u_6, iA g 16 (fun _ => 0)), (q_8, .inr (0, [.ref u_9, .int (nI 0), .long 0])), (u_9, iA g 16 (fun _ => 0)), (q_11, .inr (0, [.ref u_12, .int (nI 0), .long 0])), (u_12, iA g 16 (fun _ => 0))] := hw
  refine lv_iinc (v := nI 4) (lv' := [(1, .int (nI 4)), (0, .ref h0)]) hx hb dX2_init_42 hl (k := 0) rfl (inc_n _ 1) (by decide) rfl (fun ls hl => ?_)
  refine lv_goto (tgt := 24) hx hb dX2_init_45 (by decide) ?_
  refine lv_iload_n hx hb dX2_init_24 rfl (lv_at hl 0 rfl) ?_
  refine lv_iconst (v := nI 4) hx hb dX2_init_25 (by decide) ?_
  refine n_ge (tgt := 48) hx hb (by decide) (by decide) dX2_init_26 (by decide) (fun _ => ?_) (fun h9 => absurd h9 (by decide))
  have hw' := wd_ra (f' := rfA (fun i => [q_2, q_5, q_8, q_11].getD i 0)) 1 hw rfl (fun j hj => by rcases (show j = 0 ∨ j = 1 ∨ j = 2 ∨ j = 3 by omega) with rfl | rfl | rfl | rfl <;> rfl)
  exact rtn F hr hlk hQ hw' (q_1, (fun i => [q_2, q_5, q_8, q_11].getD i 0), (fun i => [u_3, u_6, u_9, u_12].getD i 0)) trivial [0, 1, 2, 3, 4, 5, 6, 7, 8, 9] (by decide) rfl dX2_init_48
