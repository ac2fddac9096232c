def sameT (n n2 : Nat) (f f2 : Nat → Int32) : Prop := n = n2 ∧ ∀ i, i < n → f i = f2 i
set_option maxHeartbeats 4000000 in
set_option maxRecDepth 100000 in
theorem c_X5_isSameAs (g : GG) (l : Launch) (h0 : Nat) (h1 : Nat) (o0 : Nat) (o1 : Nat) (f : Nat → Int32) (f2 : Nat → Int32) (n : Nat) (n2 : Nat) (hn : n ≤ 40) (hn2 : n2 ≤ 40) : Ct g l yX5_isSameAs cX5_isSameAs 3 (some .boolean) 0 0 [.ref h0, .ref o0] [(h0, .inr (4, [.ref h1, .int (nI n)])), (h1, iA g 40 f), (o0, .inr (4, [.ref o1, .int (nI n2)])), (o1, iA g 40 f2)] (Ri g (fun (v : Int32) (u : Unit) => (v = nI 1 ∧ sameT n n2 f f2) ∨ (v = nI 0 ∧ ¬ sameT n n2 f f2)) (fun (u : Unit) => [(h0, .inr (4, [.ref h1, .int (nI n)])), (h1, iA g 40 f), (o0, .inr (4, [.ref o1, .int (nI n2)])), (o1, iA g 40 f2)])) := by
  refine mkC (by decide) (Nat.le_of_ble_eq_true rfl) ?_
  intro p e s m args below meth c A ls QQ F hr hlk hnm hQ hw hl
  have hx := F.1
  have hb := F.2.1
  replace hl : lv_has ls 3 [(0, .ref h0), (1, .ref o0)] := hl
  refine lv_aload_n hx hb dX5_isSameAs_0 rfl (lv_at hl 0 rfl) ?_
  refine gf_X5_15 F hw 0 rfl rfl dX5_isSameAs_1 ?_
  refine lv_aload_n hx hb dX5_isSameAs_4 rfl (lv_at hl 1 rfl) ?_
  refine gf_X5_15 F hw 2 rfl rfl dX5_isSameAs_5 ?_
  refine n_eq (tgt := 13) hx hb (by omega) (by omega) dX5_isSameAs_8 (by decide) (fun c_8 => ?_) (fun c_8 => ?_)
  · refine lv_iconst (v := nI 0) hx hb dX5_isSameAs_13 (by decide) ?_
    refine lv_istore_n (lv' := [(2, .int (nI 0)), (0, .ref h0), (1, .ref o0)]) hx hb dX5_isSameAs_14 rfl hl (by decide) rfl (fun ls hl => ?_)
    have L_15 : ∀ (nn k : Nat), k ≤ n → n < k + nn → ∀ (H : Heap) (locs : List Loc) (ls : Array Slot), (∀ i, i < k → f i = f2 i) → Wd g s A H locs [(h0, .inr (4, [.ref h1, .int (nI n)])), (h1, iA g 40 f), (o0, .inr (4, [.ref o1, .int (nI n2)])), (o1, iA g 40 f2)] → lv_has ls 3 [(0, .ref h0), (1, .ref o0), (2, .int (nI k))] → W p l e (rmm 0 0) s m args below meth c H locs 0 0 QQ (F0 m 15 ls []) := by
      intro nn
      induction nn with
      | zero => intro k h1 h2; exact absurd h2 (by omega)
      | succ nn ih =>
        intro k hk_k hn_k H locs ls hi_k_0 hw hl
        refine lv_iload_n hx hb dX5_isSameAs_15 rfl (lv_at hl 2 rfl) ?_
        refine lv_aload_n hx hb dX5_isSameAs_16 rfl (lv_at hl 0 rfl) ?_
        refine gf_X5_15 F hw 0 rfl rfl dX5_isSameAs_17 ?_
        refine n_ge (tgt := 46) hx hb (by omega) (by omega) dX5_isSameAs_20 (by decide) (fun c_20 => ?_) (fun c_20 => ?_)
        · refine lv_iconst (v := nI 1) hx hb dX5_isSameAs_46 (by decide) ?_
          exact rt_z F hr rfl hlk hQ hw () (Or.inl ⟨rfl, c_8, fun i hi => hi_k_0 i (by omega)⟩) rfl dX5_isSameAs_47
        · refine lv_aload_n hx hb dX5_isSameAs_23 rfl (lv_at hl 0 rfl) ?_
          refine gf_X5_9 F hw 0 rfl rfl dX5_isSameAs_24 ?_
          refine lv_iload_n hx hb dX5_isSameAs_27 rfl (lv_at hl 2 rfl) ?_
          refine ia_ld F hw 1 rfl (by omega) (by omega) dX5_isSameAs_28 ?_
          refine lv_aload_n hx hb dX5_isSameAs_29 rfl (lv_at hl 1 rfl) ?_
          refine gf_X5_9 F hw 2 rfl rfl dX5_isSameAs_30 ?_
          refine lv_iload_n hx hb dX5_isSameAs_33 rfl (lv_at hl 2 rfl) ?_
          refine ia_ld F hw 3 rfl (by omega) (by omega) dX5_isSameAs_34 ?_
          refine lv_icmp_eq (tgt := 40) hx hb dX5_isSameAs_35 (by decide) (fun c_35 => ?_) (fun c_35 => ?_)
          · refine lv_iinc (v := nI (k + 1)) (lv' := [(2, .int (nI (k + 1))), (0, .ref h0), (1, .ref o0)]) hx hb dX5_isSameAs_40 hl (k := 2) rfl (inc_n _ 1) (by decide) rfl (fun ls hl => ?_)
            refine lv_goto (tgt := 15) hx hb dX5_isSameAs_43 (by decide) ?_
            exact ih (k + 1) (by omega) (by omega) _ _ _ (lt_s hi_k_0 c_35) hw (lv_sub hl [1, 2, 0] rfl)
          · refine lv_iconst (v := nI 0) hx hb dX5_isSameAs_38 (by decide) ?_
            exact rt_z F hr rfl hlk hQ hw () (Or.inr ⟨rfl, fun h => c_35 (h.2 k (by omega))⟩) rfl dX5_isSameAs_39
    exact L_15 (n + 1) 0 (by omega) (by omega) _ _ _ (fun i h => absurd h (Nat.not_lt_zero i)) hw (lv_sub hl [1, 2, 0] rfl)
  · refine lv_iconst (v := nI 0) hx hb dX5_isSameAs_11 (by decide) ?_
    exact rt_z F hr rfl hlk hQ hw () (Or.inr ⟨rfl, fun h => c_8 h.1⟩) rfl dX5_isSameAs_12
def flK (a b c d : Int32) (f : Nat → Int32) : Nat → Nat → Int32
  | 0 => f
  | k + 1 => upd (upd (upd (upd (flK a b c d f k) k (byO a k)) (4 + k) (byO b k)) (8 + k) (byO c k)) (12 + k) (byO d k)
set_option maxHeartbeats 4000000 in
set_option maxRecDepth 100000 in
theorem c_X1_fill (g : GG) (l : Launch) (h0 : Nat) (h1 : Nat) (num : Int32) (rep : Int64) (f : Nat → Int32) (pa : Int32) (pb : Int32) (pc : Int32) (pd : Int32) : Ct g l yX1_fill cX1_fill 6 none 1 21 [.ref h0, .int pa, .int pb, .int pc, .int pd] [(h0, .inr (0, [.ref h1, .int num, .long rep])), (h1, iA g 16 f)] (Rv g (fun (u : Unit) => True) (fun (u : Unit) => [(h0, .inr (0, [.ref h1, .int num, .long rep])), (h1, iA g 16 (flK pa pb pc pd f 4))])) := by
  refine mkC (by decide) (Nat.le_of_ble_eq_true rfl) ?_
  intro p e s m args below meth c A ls QQ F hr hlk hnm hQ hw hl
  have hx := F.1
  have hb := F.2.1
  replace hl : lv_has ls 6 [(0, .ref h0), (1, .int pa), (2, .int pb), (3, .int pc), (4, .int pd)] := hl
  refine lv_iconst (v := nI 0) hx hb dX1_fill_0 (by decide) ?_
  refine lv_istore (lv' := [(5, .int (nI 0)), (0, .ref h0), (1, .int pa), (2, .int pb), (3, .int pc), (4, .int pd)]) hx hb dX1_fill_1 hl (by decide) rfl (fun ls hl => ?_)
  have L_3 : ∀ (nn k : Nat), k ≤ 4 → 4 < k + nn → ∀ (H : Heap) (locs : List Loc) (ls : Array Slot), Wd g s A H locs [(h0, .inr (0, [.ref h1, .int num, .long rep])), (h1, iA g 16 (flK pa pb pc pd f k))] → lv_has ls 6 [(0, .ref h0), (1, .int pa), (2, .int pb), (3, .int pc), (4, .int pd), (5, .int (nI k))] → W p l e (rmm 1 21) s m args below meth c H locs 0 0 QQ (F0 m 3 ls []) := by
    intro nn
    induction nn with
    | zero => intro k h1 h2; exact absurd h2 (by omega)
    | succ nn ih =>
      intro k hk_k hn_k H locs ls hw hl
      refine lv_iload hx hb dX1_fill_3 (lv_at hl 5 rfl) ?_
      refine lv_iconst (v := nI 4) hx hb dX1_fill_5 (by decide) ?_
      refine n_ge (tgt := 76) hx hb (by omega) (by omega) dX1_fill_6 (by decide) (fun c_6 => ?_) (fun c_6 => ?_)
      · obtain rfl : k = 4 := by omega
        exact rt_v F hr hlk hQ hw () trivial rfl dX1_fill_76
      · refine lv_aload_n hx hb dX1_fill_9 rfl (lv_at hl 0 rfl) ?_
        refine gf_X1_9 F hw 0 rfl rfl dX1_fill_10 ?_
        refine lv_iload hx hb dX1_fill_13 (lv_at hl 5 rfl) ?_
        refine lv_iload_n hx hb dX1_fill_15 rfl (lv_at hl 1 rfl) ?_
        refine lv_iload hx hb dX1_fill_16 (lv_at hl 5 rfl) ?_
        refine cl_i hw [] rfl (rn_N F hw (c_X7_byteOf g l pa k (by omega)) (cw_X1_21 hw F.2.2.2.2 ⟨by decide, by decide⟩) [] (by decide) rfl hl.1 rfl (Nat.le_of_ble_eq_true rfl) dX1_fill_18 ⟨Nat.zero_le _, Nat.zero_le _⟩) (fun _ => rfl) (fun v_2 u_1 H locs hp_3 hw => ?_)
        subst hp_3
        replace hw : Wd g s A H locs [(h0, .inr (0, [.ref h1, .int num, .long rep])), (h1, iA g 16 (flK pa pb pc pd f k))] := hw
        refine ia_st F hw 1 rfl (by omega) (by omega) dX1_fill_21 (fun H locs hw => ?_)
        replace hw : Wd g s A H locs [(h0, .inr (0, [.ref h1, .int num, .long rep])), (h1, iA g 16 (upd (flK pa pb pc pd f k) k (byO pa k)))] := hw
        refine lv_aload_n hx hb dX1_fill_22 rfl (lv_at hl 0 rfl) ?_
        refine gf_X1_9 F hw 0 rfl rfl dX1_fill_23 ?_
        refine lv_iconst (v := nI 4) hx hb dX1_fill_26 (by decide) ?_
        refine lv_iload hx hb dX1_fill_27 (lv_at hl 5 rfl) ?_
        refine n_add hx hb dX1_fill_29 ?_
        refine lv_iload_n hx hb dX1_fill_30 rfl (lv_at hl 2 rfl) ?_
        refine lv_iload hx hb dX1_fill_31 (lv_at hl 5 rfl) ?_
        refine cl_i hw [] rfl (rn_N F hw (c_X7_byteOf g l pb k (by omega)) (cw_X1_21 hw F.2.2.2.2 ⟨by decide, by decide⟩) [] (by decide) rfl hl.1 rfl (Nat.le_of_ble_eq_true rfl) dX1_fill_33 ⟨Nat.zero_le _, Nat.zero_le _⟩) (fun _ => rfl) (fun v_5 u_4 H locs hp_6 hw => ?_)
        subst hp_6
        replace hw : Wd g s A H locs [(h0, .inr (0, [.ref h1, .int num, .long rep])), (h1, iA g 16 (upd (flK pa pb pc pd f k) k (byO pa k)))] := hw
        refine ia_st F hw 1 rfl (by omega) (by omega) dX1_fill_36 (fun H locs hw => ?_)
        replace hw : Wd g s A H locs [(h0, .inr (0, [.ref h1, .int num, .long rep])), (h1, iA g 16 (upd (upd (flK pa pb pc pd f k) k (byO pa k)) (4 + k) (byO pb k)))] := hw
        refine lv_aload_n hx hb dX1_fill_37 rfl (lv_at hl 0 rfl) ?_
        refine gf_X1_9 F hw 0 rfl rfl dX1_fill_38 ?_
        refine lv_bipush (v := nI 8) hx hb dX1_fill_41 (by decide) ?_
        refine lv_iload hx hb dX1_fill_43 (lv_at hl 5 rfl) ?_
        refine n_add hx hb dX1_fill_45 ?_
        refine lv_iload_n hx hb dX1_fill_46 rfl (lv_at hl 3 rfl) ?_
        refine lv_iload hx hb dX1_fill_47 (lv_at hl 5 rfl) ?_
        refine cl_i hw [] rfl (rn_N F hw (c_X7_byteOf g l pc k (by omega)) (cw_X1_21 hw F.2.2.2.2 ⟨by decide, by decide⟩) [] (by decide) rfl hl.1 rfl (Nat.le_of_ble_eq_true rfl) dX1_fill_49 ⟨Nat.zero_le _, Nat.zero_le _⟩) (fun _ => rfl) (fun v_8 u_7 H locs hp_9 hw => ?_)
        subst hp_9
        replace hw : Wd g s A H locs [(h0, .inr (0, [.ref h1, .int num, .long rep])), (h1, iA g 16 (upd (upd (flK pa pb pc pd f k) k (byO pa k)) (4 + k) (byO pb k)))] := hw
        refine ia_st F hw 1 rfl (by omega) (by omega) dX1_fill_52 (fun H locs hw => ?_)
        replace hw : Wd g s A H locs [(h0, .inr (0, [.ref h1, .int num, .long rep])), (h1, iA g 16 (upd (upd (upd (flK pa pb pc pd f k) k (byO pa k)) (4 + k) (byO pb k)) (8 + k) (byO pc k)))] := hw
        refine lv_aload_n hx hb dX1_fill_53 rfl (lv_at hl 0 rfl) ?_
        refine gf_X1_9 F hw 0 rfl rfl dX1_fill_54 ?_
        refine lv_bipush (v := nI 12) hx hb dX1_fill_57 (by decide) ?_
        refine lv_iload hx hb dX1_fill_59 (lv_at hl 5 rfl) ?_
        refine n_add hx hb dX1_fill_61 ?_
        refine lv_iload hx hb dX1_fill_62 (lv_at hl 4 rfl) ?_
        refine lv_iload hx hb dX1_fill_64 (lv_at hl 5 rfl) ?_
        refine cl_i hw [] rfl (rn_N F hw (c_X7_byteOf g l pd k (by omega)) (cw_X1_21 hw F.2.2.2.2 ⟨by decide, by decide⟩) [] (by decide) rfl hl.1 rfl (Nat.le_of_ble_eq_true rfl) dX1_fill_66 ⟨Nat.zero_le _, Nat.zero_le _⟩) (fun _ => rfl) (fun v_11 u_10 H locs hp_12 hw => ?_)
        subst hp_12
        replace hw : Wd g s A H locs [(h0, .inr (0, [.ref h1, .int num, .long rep])), (h1, iA g 16 (upd (upd (upd (flK pa pb pc pd f k) k (byO pa k)) (4 + k) (byO pb k)) (8 + k) (byO pc k)))] := hw
        refine ia_st F hw 1 rfl (by omega) (by omega) dX1_fill_69 (fun H locs hw => ?_)
        replace hw : Wd g s A H locs [(h0, .inr (0, [.ref h1, .int num, .long rep])), (h1, iA g 16 (upd (upd (upd (upd (flK pa pb pc pd f k) k (byO pa k)) (4 + k) (byO pb k)) (8 + k) (byO pc k)) (12 + k) (byO pd k)))] := hw
        refine lv_iinc (v := nI (k + 1)) (lv' := [(5, .int (nI (k + 1))), (0, .ref h0), (1, .int pa), (2, .int pb), (3, .int pc), (4, .int pd)]) hx hb dX1_fill_70 hl (k := 5) rfl (inc_n _ 1) (by decide) rfl (fun ls hl => ?_)
        refine lv_goto (tgt := 3) hx hb dX1_fill_73 (by decide) ?_
        exact ih (k + 1) (by omega) (by omega) _ _ _ hw (lv_sub hl [1, 2, 3, 4, 5, 0] rfl)
  exact L_3 (4 + 1) 0 (by omega) (by omega) _ _ _ hw (lv_sub hl [1, 2, 3, 4, 5, 0] rfl)
set_option maxHeartbeats 4000000 in
set_option maxRecDepth 100000 in
theorem c_X6_tell (g : GG) (l : Launch) (h0 : Nat) (to : Int32) (fi : Int32) (se : Int32) (a : Int32) (b : Int32) : Ct g l yX6_tell cX6_tell 3 none 0 0 [.ref h0, .int a, .int b] [(h0, .inr (5, [.int to, .int fi, .int se]))] (Rv g (fun (u : Unit) => True) (fun (u : Unit) => [(h0, .inr (5, [.int (nI 1), .int a, .int b]))])) := by
  refine mkC (by decide) (Nat.le_of_ble_eq_true rfl) ?_
  intro p e s m args below meth c A ls QQ F hr hlk hnm hQ hw hl
  have hx := F.1
  have hb := F.2.1
  replace hl : lv_has ls 3 [(0, .ref h0), (1, .int a), (2, .int b)] := hl
  refine lv_aload_n hx hb dX6_tell_0 rfl (lv_at hl 0 rfl) ?_
  refine lv_iconst (v := nI 1) hx hb dX6_tell_1 (by decide) ?_
  refine pf_X6_7 F hw 0 rfl (Nat.le_of_ble_eq_true rfl) rfl rfl dX6_tell_2 (fun H locs hw => ?_)
  replace hw : Wd g s A H locs [(h0, .inr (5, [.int (nI 1), .int fi, .int se]))] := hw
  refine lv_aload_n hx hb dX6_tell_5 rfl (lv_at hl 0 rfl) ?_
  refine lv_iload_n hx hb dX6_tell_6 rfl (lv_at hl 1 rfl) ?_
  refine pf_X6_13 F hw 0 rfl (Nat.le_of_ble_eq_true rfl) rfl rfl dX6_tell_7 (fun H locs hw => ?_)
  replace hw : Wd g s A H locs [(h0, .inr (5, [.int (nI 1), .int a, .int se]))] := hw
  refine lv_aload_n hx hb dX6_tell_10 rfl (lv_at hl 0 rfl) ?_
  refine lv_iload_n hx hb dX6_tell_11 rfl (lv_at hl 2 rfl) ?_
  refine pf_X6_17 F hw 0 rfl (Nat.le_of_ble_eq_true rfl) rfl rfl dX6_tell_12 (fun H locs hw => ?_)
  replace hw : Wd g s A H locs [(h0, .inr (5, [.int (nI 1), .int a, .int b]))] := hw
  exact rt_v F hr hlk hQ hw () trivial rfl dX6_tell_15
def knS (to fi se a b : Int32) : Int32 := if to = 0 then nI 0 else if fi = a then (if se = b then nI 1 else nI 0) else nI 0
set_option maxHeartbeats 4000000 in
set_option maxRecDepth 100000 in
theorem c_X6_knows (g : GG) (l : Launch) (h0 : Nat) (to : Int32) (fi : Int32) (se : Int32) (a : Int32) (b : Int32) : Ct g l yX6_knows cX6_knows 3 (some .boolean) 0 0 [.ref h0, .int a, .int b] [(h0, .inr (5, [.int to, .int fi, .int se]))] (Ri g (fun (v : Int32) (u : Unit) => v = knS to fi se a b) (fun (u : Unit) => [(h0, .inr (5, [.int to, .int fi, .int se]))])) := by
  refine mkC (by decide) (Nat.le_of_ble_eq_true rfl) ?_
  intro p e s m args below meth c A ls QQ F hr hlk hnm hQ hw hl
  have hx := F.1
  have hb := F.2.1
  replace hl : lv_has ls 3 [(0, .ref h0), (1, .int a), (2, .int b)] := hl
  refine lv_aload_n hx hb dX6_knows_0 rfl (lv_at hl 0 rfl) ?_
  refine gf_X6_7 F hw 0 rfl rfl dX6_knows_1 ?_
  refine lv_if_eq (tgt := 27) hx hb dX6_knows_4 (by decide) (fun c_4 => ?_) (fun c_4 => ?_)
  · refine lv_iconst (v := nI 0) hx hb dX6_knows_27 (by decide) ?_
    exact rt_z F hr rfl hlk hQ hw () (by simp only [knS, c_4, if_true, if_false]) rfl dX6_knows_28
  · refine lv_aload_n hx hb dX6_knows_7 rfl (lv_at hl 0 rfl) ?_
    refine gf_X6_13 F hw 0 rfl rfl dX6_knows_8 ?_
    refine lv_iload_n hx hb dX6_knows_11 rfl (lv_at hl 1 rfl) ?_
    refine lv_icmp_ne (tgt := 27) hx hb dX6_knows_12 (by decide) (fun c_12 => ?_) (fun c_12 => ?_)
    · refine lv_iconst (v := nI 0) hx hb dX6_knows_27 (by decide) ?_
      exact rt_z F hr rfl hlk hQ hw () (by simp only [knS, c_4, c_12, if_true, if_false]) rfl dX6_knows_28
    · refine lv_aload_n hx hb dX6_knows_15 rfl (lv_at hl 0 rfl) ?_
      refine gf_X6_17 F hw 0 rfl rfl dX6_knows_16 ?_
      refine lv_iload_n hx hb dX6_knows_19 rfl (lv_at hl 2 rfl) ?_
      refine lv_icmp_ne (tgt := 27) hx hb dX6_knows_20 (by decide) (fun c_20 => ?_) (fun c_20 => ?_)
      · refine lv_iconst (v := nI 0) hx hb dX6_knows_27 (by decide) ?_
        exact rt_z F hr rfl hlk hQ hw () (by simp only [knS, c_4, c_12, c_20, if_true, if_false]) rfl dX6_knows_28
      · refine lv_iconst (v := nI 1) hx hb dX6_knows_23 (by decide) ?_
        refine lv_goto (tgt := 28) hx hb dX6_knows_24 (by decide) ?_
        exact rt_z F hr rfl hlk hQ hw () (by simp only [knS, c_4, c_12, c_20, if_true, if_false]) rfl dX6_knows_28
set_option maxHeartbeats 4000000 in
set_option maxRecDepth 100000 in
theorem c_X4_begin (g : GG) (l : Launch) (h0 : Nat) (op : Int32) (ow : Int32) (id : Int64) (be : Int64) (la : Int64) (a : Int32) (b : Int64) (t : Int64) : Ct g l yX4_begin cX4_begin 6 none 0 0 [.ref h0, .int a, .long b, .long t] [(h0, .inr (3, [.int op, .int ow, .long id, .long be, .long la]))] (Rv g (fun (u : Unit) => True) (fun (u : Unit) => [(h0, .inr (3, [.int (nI 1), .int a, .long b, .long t, .long t]))])) := by
  refine mkC (by decide) (Nat.le_of_ble_eq_true rfl) ?_
  intro p e s m args below meth c A ls QQ F hr hlk hnm hQ hw hl
  have hx := F.1
  have hb := F.2.1
  replace hl : lv_has ls 6 [(0, .ref h0), (1, .int a), (2, .long b), (4, .long t)] := hl
  refine lv_aload_n hx hb dX4_begin_0 rfl (lv_at hl 0 rfl) ?_
  refine lv_iconst (v := nI 1) hx hb dX4_begin_1 (by decide) ?_
  refine pf_X4_7 F hw 0 rfl (Nat.le_of_ble_eq_true rfl) rfl rfl dX4_begin_2 (fun H locs hw => ?_)
  replace hw : Wd g s A H locs [(h0, .inr (3, [.int (nI 1), .int ow, .long id, .long be, .long la]))] := hw
  refine lv_aload_n hx hb dX4_begin_5 rfl (lv_at hl 0 rfl) ?_
  refine lv_iload_n hx hb dX4_begin_6 rfl (lv_at hl 1 rfl) ?_
  refine pf_X4_13 F hw 0 rfl (Nat.le_of_ble_eq_true rfl) rfl rfl dX4_begin_7 (fun H locs hw => ?_)
  replace hw : Wd g s A H locs [(h0, .inr (3, [.int (nI 1), .int a, .long id, .long be, .long la]))] := hw
  refine lv_aload_n hx hb dX4_begin_10 rfl (lv_at hl 0 rfl) ?_
  refine lv_lload_n hx hb dX4_begin_11 rfl (lv_at hl 2 rfl) ?_
  refine pf_X4_17 F hw 0 rfl (Nat.le_of_ble_eq_true rfl) rfl rfl dX4_begin_12 (fun H locs hw => ?_)
  replace hw : Wd g s A H locs [(h0, .inr (3, [.int (nI 1), .int a, .long b, .long be, .long la]))] := hw
  refine lv_aload_n hx hb dX4_begin_15 rfl (lv_at hl 0 rfl) ?_
  refine lv_lload hx hb dX4_begin_16 (lv_at hl 3 rfl) ?_
  refine pf_X4_21 F hw 0 rfl (Nat.le_of_ble_eq_true rfl) rfl rfl dX4_begin_18 (fun H locs hw => ?_)
  replace hw : Wd g s A H locs [(h0, .inr (3, [.int (nI 1), .int a, .long b, .long t, .long la]))] := hw
  refine lv_aload_n hx hb dX4_begin_21 rfl (lv_at hl 0 rfl) ?_
  refine lv_lload hx hb dX4_begin_22 (lv_at hl 3 rfl) ?_
  refine pf_X4_24 F hw 0 rfl (Nat.le_of_ble_eq_true rfl) rfl rfl dX4_begin_24 (fun H locs hw => ?_)
  replace hw : Wd g s A H locs [(h0, .inr (3, [.int (nI 1), .int a, .long b, .long t, .long t]))] := hw
  exact rt_v F hr hlk hQ hw () trivial rfl dX4_begin_27
set_option maxHeartbeats 4000000 in
set_option maxRecDepth 100000 in
theorem c_X2_newest (g : GG) (l : Launch) (h0 : Nat) (pa : Nat) (ka : Nat → Nat) (kept : Nat) (np : Nat) (hnp : np < 4) : Ct g l yX2_newest cX2_newest 1 (some (.object "SessionGate$Key")) 0 0 [.ref h0] [(h0, .inr (1, [.ref pa, .int (nI kept), .int (nI np)])), (pa, rA g 3 4 (rfA ka))] (Rq g (fun (v : Option Nat) (u : Unit) => v = some (ka np)) (fun (u : Unit) => [(h0, .inr (1, [.ref pa, .int (nI kept), .int (nI np)])), (pa, rA g 3 4 (rfA ka))])) := by
  refine mkC (by decide) (Nat.le_of_ble_eq_true rfl) ?_
  intro p e s m args below meth c A ls QQ F hr hlk hnm hQ hw hl
  have hx := F.1
  have hb := F.2.1
  replace hl : lv_has ls 1 [(0, .ref h0)] := hl
  refine lv_aload_n hx hb dX2_newest_0 rfl (lv_at hl 0 rfl) ?_
  refine gf_X2_11 F hw 0 rfl rfl dX2_newest_1 ?_
  refine lv_aload_n hx hb dX2_newest_4 rfl (lv_at hl 0 rfl) ?_
  refine gf_X2_19 F hw 0 rfl rfl dX2_newest_5 ?_
  refine ra_ld F hw 1 3 rfl rfl (by omega) (by omega) rfl dX2_newest_8 ?_
  exact rt_q F hr hlk hQ hw () (some (ka np)) rfl rfl rfl dX2_newest_9
set_option maxHeartbeats 4000000 in
set_option maxRecDepth 100000 in
theorem c_X2_advance (g : GG) (l : Launch) (h0 : Nat) (pa : Nat) (ka : Nat → Nat) (kept : Nat) (np : Nat) (kb : Nat → Nat) (num : Nat → Int32) (rep : Nat → Int64) (now : Int64) (hnp : np < 4) (hke : kept ≤ 4) : Ct g l yX2_advance cX2_advance 4 none 0 0 [.ref h0, .long now] ([(h0, .inr (1, [.ref pa, .int (nI kept), .int (nI np)])), (pa, rA g 3 4 (rfA ka))] ++ (tl 4 ka (kE kb num rep) ++ [])) (Rv g (fun (u : Nat) => u = if kept < 4 then kept + 1 else kept) (fun (u : Nat) => ([(h0, .inr (1, [.ref pa, .int (nI u), .int (nI ((np + 1) % 4))])), (pa, rA g 3 4 (rfA ka))] ++ (tl 4 ka (kE kb (upd num ((np + 1) % 4) ((num np + nI 1) &&& nI 255)) (vp_updL rep np now)) ++ [])))) := by
  refine mkC (by decide) (Nat.le_of_ble_eq_true rfl) ?_
  intro p e s m args below meth c A ls QQ F hr hlk hnm hQ hw hl
  have hx := F.1
  have hb := F.2.1
  replace hl : lv_has ls 4 [(0, .ref h0), (1, .long now)] := hl
  refine lv_aload_n hx hb dX2_advance_0 rfl (lv_at hl 0 rfl) ?_
  refine gf_X2_11 F hw 0 rfl rfl dX2_advance_1 ?_
  refine lv_aload_n hx hb dX2_advance_4 rfl (lv_at hl 0 rfl) ?_
  refine gf_X2_19 F hw 0 rfl rfl dX2_advance_5 ?_
  refine ra_ld F hw 1 3 rfl rfl (by omega) (by omega) rfl dX2_advance_8 ?_
  refine lv_astore_n (lv' := [(3, .ref (ka np)), (0, .ref h0), (1, .long now)]) hx hb dX2_advance_9 rfl hl (by decide) rfl (fun ls hl => ?_)
  refine lv_aload_n hx hb dX2_advance_10 rfl (lv_at hl 0 rfl) ?_
  refine lv_lload_n hx hb dX2_advance_11 rfl (lv_at hl 2 rfl) ?_
  refine pf_X2_23 F hw (2 + np) (tg1 rfl (by omega)) (Nat.le_of_ble_eq_true rfl) rfl rfl dX2_advance_12 (fun H locs hw => ?_)
  replace hw : Wd g s A H locs ([(h0, .inr (1, [.ref pa, .int (nI kept), .int (nI np)])), (pa, rA g 3 4 (rfA ka))] ++ (tl 4 ka (kE kb num (vp_updL rep np now)) ++ [])) := wd_eq (ts1 rfl (by omega) (by funext z; by_cases hz : z = np <;> simp [va_up, kE, upd, vp_updL, hz])) hw
  refine lv_aload_n hx hb dX2_advance_15 rfl (lv_at hl 1 rfl) ?_
  refine lv_aload_n hx hb dX2_advance_16 rfl (lv_at hl 1 rfl) ?_
  refine gf_X2_19 F hw 0 rfl rfl dX2_advance_17 ?_
  refine lv_iconst (v := nI 1) hx hb dX2_advance_20 (by decide) ?_
  refine n_add hx hb dX2_advance_21 ?_
  refine lv_iconst (v := nI 4) hx hb dX2_advance_22 (by decide) ?_
  refine n_rem hx hb (by omega) (by omega) (by omega) dX2_advance_23 ?_
  refine pf_X2_19 F hw 0 rfl (Nat.le_of_ble_eq_true rfl) rfl rfl dX2_advance_24 (fun H locs hw => ?_)
  replace hw : Wd g s A H locs ([(h0, .inr (1, [.ref pa, .int (nI kept), .int (nI ((np + 1) % 4))])), (pa, rA g 3 4 (rfA ka))] ++ (tl 4 ka (kE kb num (vp_updL rep np now)) ++ [])) := hw
  refine lv_aload_n hx hb dX2_advance_27 rfl (lv_at hl 1 rfl) ?_
  refine gf_X2_11 F hw 0 rfl rfl dX2_advance_28 ?_
  refine lv_aload_n hx hb dX2_advance_31 rfl (lv_at hl 1 rfl) ?_
  refine gf_X2_19 F hw 0 rfl rfl dX2_advance_32 ?_
  refine ra_ld F hw 1 3 rfl rfl (by omega) (by omega) rfl dX2_advance_35 ?_
  refine lv_aload_n hx hb dX2_advance_36 rfl (lv_at hl 0 rfl) ?_
  refine gf_X2_27 F hw (2 + np) (tg1 rfl (by omega)) rfl dX2_advance_37 ?_
  refine lv_iconst (v := nI 1) hx hb dX2_advance_40 (by decide) ?_
  refine lv_iadd hx hb dX2_advance_41 ?_
  refine lv_sipush (v := nI 255) hx hb dX2_advance_42 (by decide) ?_
  refine lv_iand hx hb dX2_advance_45 ?_
  refine pf_X2_27 F hw (2 + ((np + 1) % 4)) (tg1 rfl (by omega)) (Nat.le_of_ble_eq_true rfl) rfl rfl dX2_advance_46 (fun H locs hw => ?_)
  replace hw : Wd g s A H locs ([(h0, .inr (1, [.ref pa, .int (nI kept), .int (nI ((np + 1) % 4))])), (pa, rA g 3 4 (rfA ka))] ++ (tl 4 ka (kE kb (upd num ((np + 1) % 4) (((num np) + (nI 1)) &&& (nI 255))) (vp_updL rep np now)) ++ [])) := wd_eq (ts1 rfl (by omega) (by funext z; by_cases hz : z = (np + 1) % 4 <;> simp [va_up, kE, upd, vp_updL, hz])) hw
  refine lv_aload_n hx hb dX2_advance_49 rfl (lv_at hl 1 rfl) ?_
  refine gf_X2_15 F hw 0 rfl rfl dX2_advance_50 ?_
  refine lv_iconst (v := nI 4) hx hb dX2_advance_53 (by decide) ?_
  refine n_ge (tgt := 67) hx hb (by omega) (by omega) dX2_advance_54 (by decide) (fun c_54 => ?_) (fun c_54 => ?_)
  · exact rt_v F hr hlk hQ hw kept (by split <;> omega) rfl dX2_advance_67
  · refine lv_aload_n hx hb dX2_advance_57 rfl (lv_at hl 1 rfl) ?_
    refine lv_dup hx hb dX2_advance_58 rfl ?_
    refine gf_X2_15 F hw 0 rfl rfl dX2_advance_59 ?_
    refine lv_iconst (v := nI 1) hx hb dX2_advance_62 (by decide) ?_
    refine n_add hx hb dX2_advance_63 ?_
    refine pf_X2_15 F hw 0 rfl (Nat.le_of_ble_eq_true rfl) rfl rfl dX2_advance_64 (fun H locs hw => ?_)
    replace hw : Wd g s A H locs ([(h0, .inr (1, [.ref pa, .int (nI (kept + 1)), .int (nI ((np + 1) % 4))])), (pa, rA g 3 4 (rfA ka))] ++ (tl 4 ka (kE kb (upd num ((np + 1) % 4) (((num np) + (nI 1)) &&& (nI 255))) (vp_updL rep np now)) ++ [])) := hw
    exact rt_v F hr hlk hQ hw (kept + 1) (by split <;> omega) rfl dX2_advance_67
def lvI (kept np : Nat) (rep : Nat → Int64) (now gr : Int64) (k : Nat) : Int32 := if k < kept then (if k = np then nI 1 else if gr ≤ now - rep k then nI 0 else nI 1) else nI 0
set_option maxHeartbeats 4000000 in
set_option maxRecDepth 100000 in
theorem c_X2_isLive (g : GG) (l : Launch) (h0 : Nat) (pa : Nat) (ka : Nat → Nat) (kept : Nat) (np : Nat) (kb : Nat → Nat) (num : Nat → Int32) (rep : Nat → Int64) (k : Nat) (now : Int64) (gr : Int64) (hnp : np < 4) (hke : kept ≤ 4) (hk : k < 4) : Ct g l yX2_isLive cX2_isLive 6 (some .boolean) 0 0 [.ref h0, .int (nI k), .long now, .long gr] ([(h0, .inr (1, [.ref pa, .int (nI kept), .int (nI np)])), (pa, rA g 3 4 (rfA ka))] ++ (tl 4 ka (kE kb num rep) ++ [])) (Ri g (fun (v : Int32) (u : Unit) => v = lvI kept np rep now gr k) (fun (u : Unit) => ([(h0, .inr (1, [.ref pa, .int (nI kept), .int (nI np)])), (pa, rA g 3 4 (rfA ka))] ++ (tl 4 ka (kE kb num rep) ++ [])))) := by
  refine mkC (by decide) (Nat.le_of_ble_eq_true rfl) ?_
  intro p e s m args below meth c A ls QQ F hr hlk hnm hQ hw hl
  have hx := F.1
  have hb := F.2.1
  replace hl : lv_has ls 6 [(0, .ref h0), (1, .int (nI k)), (2, .long now), (4, .long gr)] := hl
  refine lv_iload_n hx hb dX2_isLive_0 rfl (lv_at hl 1 rfl) ?_
  refine lv_aload_n hx hb dX2_isLive_1 rfl (lv_at hl 0 rfl) ?_
  refine gf_X2_15 F hw 0 rfl rfl dX2_isLive_2 ?_
  refine n_lt (tgt := 10) hx hb (by omega) (by omega) dX2_isLive_5 (by decide) (fun c_5 => ?_) (fun c_5 => ?_)
  · refine lv_iload_n hx hb dX2_isLive_10 rfl (lv_at hl 1 rfl) ?_
    refine lv_aload_n hx hb dX2_isLive_11 rfl (lv_at hl 0 rfl) ?_
    refine gf_X2_19 F hw 0 rfl rfl dX2_isLive_12 ?_
    refine n_eq (tgt := 35) hx hb (by omega) (by omega) dX2_isLive_15 (by decide) (fun c_15 => ?_) (fun c_15 => ?_)
    · refine lv_iconst (v := nI 1) hx hb dX2_isLive_35 (by decide) ?_
      refine lv_goto (tgt := 40) hx hb dX2_isLive_36 (by decide) ?_
      exact rt_z F hr rfl hlk hQ hw () (by first | rw [lvI, if_neg (by omega)] | rw [lvI, if_pos (by omega), if_pos c_15] | rw [lvI, if_pos (by omega), if_neg c_15, if_pos c_31] | rw [lvI, if_pos (by omega), if_neg c_15, if_neg c_31]) rfl dX2_isLive_40
    · refine lv_lload_n hx hb dX2_isLive_18 rfl (lv_at hl 2 rfl) ?_
      refine lv_aload_n hx hb dX2_isLive_19 rfl (lv_at hl 0 rfl) ?_
      refine gf_X2_11 F hw 0 rfl rfl dX2_isLive_20 ?_
      refine lv_iload_n hx hb dX2_isLive_23 rfl (lv_at hl 1 rfl) ?_
      refine ra_ld F hw 1 3 rfl rfl (by omega) (by omega) rfl dX2_isLive_24 ?_
      refine gf_X2_23 F hw (2 + k) (tg1 rfl (by omega)) rfl dX2_isLive_25 ?_
      refine lv_lsub hx hb dX2_isLive_28 ?_
      refine lv_lload hx hb dX2_isLive_29 (lv_at hl 3 rfl) ?_
      refine lc_ge (tgt := 39) hx hb dX2_isLive_31 dX2_isLive_32 (by decide) (fun c_31 => ?_) (fun c_31 => ?_)
      · refine lv_iconst (v := nI 0) hx hb dX2_isLive_39 (by decide) ?_
        exact rt_z F hr rfl hlk hQ hw () (by first | rw [lvI, if_neg (by omega)] | rw [lvI, if_pos (by omega), if_pos c_15] | rw [lvI, if_pos (by omega), if_neg c_15, if_pos c_31] | rw [lvI, if_pos (by omega), if_neg c_15, if_neg c_31]) rfl dX2_isLive_40
      · refine lv_iconst (v := nI 1) hx hb dX2_isLive_35 (by decide) ?_
        refine lv_goto (tgt := 40) hx hb dX2_isLive_36 (by decide) ?_
        exact rt_z F hr rfl hlk hQ hw () (by first | rw [lvI, if_neg (by omega)] | rw [lvI, if_pos (by omega), if_pos c_15] | rw [lvI, if_pos (by omega), if_neg c_15, if_pos c_31] | rw [lvI, if_pos (by omega), if_neg c_15, if_neg c_31]) rfl dX2_isLive_40
  · refine lv_iconst (v := nI 0) hx hb dX2_isLive_8 (by decide) ?_
    exact rt_z F hr rfl hlk hQ hw () (by first | rw [lvI, if_neg (by omega)] | rw [lvI, if_pos (by omega), if_pos c_15] | rw [lvI, if_pos (by omega), if_neg c_15, if_pos c_31] | rw [lvI, if_pos (by omega), if_neg c_15, if_neg c_31]) rfl dX2_isLive_9
def lkP (kept np : Nat) (num : Nat → Int32) (rep : Nat → Int64) (now gr : Int64) (x : Int32) (k : Nat) : Prop := ¬ lvI kept np rep now gr k = 0 ∧ num k = x
set_option maxHeartbeats 4000000 in
set_option maxRecDepth 100000 in
theorem c_X2_liveKey (g : GG) (l : Launch) (h0 : Nat) (pa : Nat) (ka : Nat → Nat) (kept : Nat) (np : Nat) (kb : Nat → Nat) (num : Nat → Int32) (rep : Nat → Int64) (x : Int32) (now : Int64) (gr : Int64) (hnp : np < 4) (hke : kept ≤ 4) : Ct g l yX2_liveKey cX2_liveKey 7 (some (.object "SessionGate$Key")) 1 25 [.ref h0, .int x, .long now, .long gr] ([(h0, .inr (1, [.ref pa, .int (nI kept), .int (nI np)])), (pa, rA g 3 4 (rfA ka))] ++ (tl 4 ka (kE kb num rep) ++ [])) (Rq g (fun (v : Option Nat) (u : Unit) => (∃ k, k < 4 ∧ v = some (ka k) ∧ lkP kept np num rep now gr x k ∧ ∀ j, j < k → ¬ lkP kept np num rep now gr x j) ∨ (v = none ∧ ∀ j, j < 4 → ¬ lkP kept np num rep now gr x j)) (fun (u : Unit) => ([(h0, .inr (1, [.ref pa, .int (nI kept), .int (nI np)])), (pa, rA g 3 4 (rfA ka))] ++ (tl 4 ka (kE kb num rep) ++ [])))) := by
  refine mkC (by decide) (Nat.le_of_ble_eq_true rfl) ?_
  intro p e s m args below meth c A ls QQ F hr hlk hnm hQ hw hl
  have hx := F.1
  have hb := F.2.1
  replace hl : lv_has ls 7 [(0, .ref h0), (1, .int x), (2, .long now), (4, .long gr)] := hl
  refine lv_iconst (v := nI 0) hx hb dX2_liveKey_0 (by decide) ?_
  refine lv_istore (lv' := [(6, .int (nI 0)), (0, .ref h0), (1, .int x), (2, .long now), (4, .long gr)]) hx hb dX2_liveKey_1 hl (by decide) rfl (fun ls hl => ?_)
  have L_3 : ∀ (nn k : Nat), k ≤ 4 → 4 < k + nn → ∀ (H : Heap) (locs : List Loc) (ls : Array Slot), (∀ j, j < k → ¬ lkP kept np num rep now gr x j) → Wd g s A H locs ([(h0, .inr (1, [.ref pa, .int (nI kept), .int (nI np)])), (pa, rA g 3 4 (rfA ka))] ++ (tl 4 ka (kE kb num rep) ++ [])) → lv_has ls 7 [(0, .ref h0), (1, .int x), (2, .long now), (4, .long gr), (6, .int (nI k))] → W p l e (rmm 1 25) s m args below meth c H locs 0 0 QQ (F0 m 3 ls []) := by
    intro nn
    induction nn with
    | zero => intro k h1 h2; exact absurd h2 (by omega)
    | succ nn ih =>
      intro k hk_k hn_k H locs ls hi_k_0 hw hl
      refine lv_iload hx hb dX2_liveKey_3 (lv_at hl 4 rfl) ?_
      refine lv_iconst (v := nI 4) hx hb dX2_liveKey_5 (by decide) ?_
      refine n_ge (tgt := 49) hx hb (by omega) (by omega) dX2_liveKey_6 (by decide) (fun c_6 => ?_) (fun c_6 => ?_)
      · refine lv_null hx hb dX2_liveKey_49 ?_
        exact rt_q F hr hlk hQ hw () none rfl (Or.inr ⟨rfl, fun j hj => hi_k_0 j (by omega)⟩) rfl dX2_liveKey_50
      · refine lv_aload_n hx hb dX2_liveKey_9 rfl (lv_at hl 0 rfl) ?_
        refine lv_iload hx hb dX2_liveKey_10 (lv_at hl 4 rfl) ?_
        refine lv_lload_n hx hb dX2_liveKey_12 rfl (lv_at hl 2 rfl) ?_
        refine lv_lload hx hb dX2_liveKey_13 (lv_at hl 3 rfl) ?_
        refine cl_i hw [0, 1, 2, 3, 4, 5] rfl (rn_V F hw (c_X2_isLive g l h0 pa ka kept np kb num rep k now gr (by omega) (by omega) (by omega)) (cw_X2_30 F.2.2.2.2 ⟨by decide, by decide⟩) [0, 1, 2, 3, 4, 5] (by decide) rfl 0 rfl rfl rfl hl.1 rfl (Nat.le_of_ble_eq_true rfl) dX2_liveKey_15 ⟨Nat.zero_le _, Nat.zero_le _⟩) (fun _ => rfl) (fun v_2 u_1 H locs hp_3 hw => ?_)
        subst hp_3
        replace hw : Wd g s A H locs ([(h0, .inr (1, [.ref pa, .int (nI kept), .int (nI np)])), (pa, rA g 3 4 (rfA ka))] ++ (tl 4 ka (kE kb num rep) ++ [])) := hw
        refine lv_if_eq (tgt := 43) hx hb dX2_liveKey_18 (by decide) (fun c_18 => ?_) (fun c_18 => ?_)
        · refine lv_iinc (v := nI (k + 1)) (lv' := [(6, .int (nI (k + 1))), (0, .ref h0), (1, .int x), (2, .long now), (4, .long gr)]) hx hb dX2_liveKey_43 hl (k := 4) rfl (inc_n _ 1) (by decide) rfl (fun ls hl => ?_)
          refine lv_goto (tgt := 3) hx hb dX2_liveKey_46 (by decide) ?_
          exact ih (k + 1) (by omega) (by omega) _ _ _ (by first | exact lt_s hi_k_0 (fun h => h.1 c_18) | exact lt_s hi_k_0 (fun h => c_32 h.2)) hw (lv_sub hl [1, 2, 3, 4, 0] rfl)
        · refine lv_aload_n hx hb dX2_liveKey_21 rfl (lv_at hl 0 rfl) ?_
          refine gf_X2_11 F hw 0 rfl rfl dX2_liveKey_22 ?_
          refine lv_iload hx hb dX2_liveKey_25 (lv_at hl 4 rfl) ?_
          refine ra_ld F hw 1 3 rfl rfl (by omega) (by omega) rfl dX2_liveKey_27 ?_
          refine gf_X2_27 F hw (2 + k) (tg1 rfl (by omega)) rfl dX2_liveKey_28 ?_
          refine lv_iload_n hx hb dX2_liveKey_31 rfl (lv_at hl 1 rfl) ?_
          refine lv_icmp_ne (tgt := 43) hx hb dX2_liveKey_32 (by decide) (fun c_32 => ?_) (fun c_32 => ?_)
          · refine lv_iinc (v := nI (k + 1)) (lv' := [(6, .int (nI (k + 1))), (0, .ref h0), (1, .int x), (2, .long now), (4, .long gr)]) hx hb dX2_liveKey_43 hl (k := 4) rfl (inc_n _ 1) (by decide) rfl (fun ls hl => ?_)
            refine lv_goto (tgt := 3) hx hb dX2_liveKey_46 (by decide) ?_
            exact ih (k + 1) (by omega) (by omega) _ _ _ (by first | exact lt_s hi_k_0 (fun h => h.1 c_18) | exact lt_s hi_k_0 (fun h => c_32 h.2)) hw (lv_sub hl [1, 2, 3, 4, 0] rfl)
          · refine lv_aload_n hx hb dX2_liveKey_35 rfl (lv_at hl 0 rfl) ?_
            refine gf_X2_11 F hw 0 rfl rfl dX2_liveKey_36 ?_
            refine lv_iload hx hb dX2_liveKey_39 (lv_at hl 4 rfl) ?_
            refine ra_ld F hw 1 3 rfl rfl (by omega) (by omega) rfl dX2_liveKey_41 ?_
            exact rt_q F hr hlk hQ hw () (some (ka k)) rfl (Or.inl ⟨k, by omega, rfl, ⟨c_18, c_32⟩, hi_k_0⟩) rfl dX2_liveKey_42
  exact L_3 (4 + 1) 0 (by omega) (by omega) _ _ _ (fun i h => absurd h (Nat.not_lt_zero i)) hw (lv_sub hl [1, 2, 3, 4, 0] rfl)
def cntL (P : Nat → Int32) : Nat → Nat
  | 0 => 0
  | k + 1 => if P k = 0 then cntL P k else cntL P k + 1
theorem cnt_0 {P : Nat → Int32} {k : Nat} (h : P k = 0) : cntL P (k + 1) = cntL P k := if_pos h
theorem cnt_1 {P : Nat → Int32} {k : Nat} (h : ¬ P k = 0) : cntL P (k + 1) = cntL P k + 1 := if_neg h
set_option maxHeartbeats 4000000 in
set_option maxRecDepth 100000 in
theorem c_X2_liveOnes (g : GG) (l : Launch) (h0 : Nat) (pa : Nat) (ka : Nat → Nat) (kept : Nat) (np : Nat) (kb : Nat → Nat) (num : Nat → Int32) (rep : Nat → Int64) (now : Int64) (gr : Int64) (hnp : np < 4) (hke : kept ≤ 4) : Ct g l yX2_liveOnes cX2_liveOnes 7 (some .int) 1 25 [.ref h0, .long now, .long gr] ([(h0, .inr (1, [.ref pa, .int (nI kept), .int (nI np)])), (pa, rA g 3 4 (rfA ka))] ++ (tl 4 ka (kE kb num rep) ++ [])) (Ri g (fun (v : Int32) (u : Unit) => v = nI (cntL (lvI kept np rep now gr) 4)) (fun (u : Unit) => ([(h0, .inr (1, [.ref pa, .int (nI kept), .int (nI np)])), (pa, rA g 3 4 (rfA ka))] ++ (tl 4 ka (kE kb num rep) ++ [])))) := by
  refine mkC (by decide) (Nat.le_of_ble_eq_true rfl) ?_
  intro p e s m args below meth c A ls QQ F hr hlk hnm hQ hw hl
  have hx := F.1
  have hb := F.2.1
  replace hl : lv_has ls 7 [(0, .ref h0), (1, .long now), (3, .long gr)] := hl
  refine lv_iconst (v := nI 0) hx hb dX2_liveOnes_0 (by decide) ?_
  refine lv_istore (lv' := [(5, .int (nI 0)), (0, .ref h0), (1, .long now), (3, .long gr)]) hx hb dX2_liveOnes_1 hl (by decide) rfl (fun ls hl => ?_)
  refine lv_iconst (v := nI 0) hx hb dX2_liveOnes_3 (by decide) ?_
  refine lv_istore (lv' := [(6, .int (nI 0)), (5, .int (nI 0)), (0, .ref h0), (1, .long now), (3, .long gr)]) hx hb dX2_liveOnes_4 hl (by decide) rfl (fun ls hl => ?_)
  have L_6 : ∀ (nn k : Nat), k ≤ 4 → 4 < k + nn → ∀ (H : Heap) (locs : List Loc) (ls : Array Slot), Wd g s A H locs ([(h0, .inr (1, [.ref pa, .int (nI kept), .int (nI np)])), (pa, rA g 3 4 (rfA ka))] ++ (tl 4 ka (kE kb num rep) ++ [])) → lv_has ls 7 [(0, .ref h0), (1, .long now), (3, .long gr), (5, .int (nI (cntL (lvI kept np rep now gr) k))), (6, .int (nI k))] → W p l e (rmm 1 25) s m args below meth c H locs 0 0 QQ (F0 m 6 ls []) := by
    intro nn
    induction nn with
    | zero => intro k h1 h2; exact absurd h2 (by omega)
    | succ nn ih =>
      intro k hk_k hn_k H locs ls hw hl
      refine lv_iload hx hb dX2_liveOnes_6 (lv_at hl 4 rfl) ?_
      refine lv_iconst (v := nI 4) hx hb dX2_liveOnes_8 (by decide) ?_
      refine n_ge (tgt := 32) hx hb (by omega) (by omega) dX2_liveOnes_9 (by decide) (fun c_9 => ?_) (fun c_9 => ?_)
      · obtain rfl : k = 4 := by omega
        refine lv_iload hx hb dX2_liveOnes_32 (lv_at hl 3 rfl) ?_
        exact rt_i F hr hlk hQ hw () rfl rfl dX2_liveOnes_34
      · refine lv_aload_n hx hb dX2_liveOnes_12 rfl (lv_at hl 0 rfl) ?_
        refine lv_iload hx hb dX2_liveOnes_13 (lv_at hl 4 rfl) ?_
        refine lv_lload_n hx hb dX2_liveOnes_15 rfl (lv_at hl 1 rfl) ?_
        refine lv_lload_n hx hb dX2_liveOnes_16 rfl (lv_at hl 2 rfl) ?_
        refine cl_i hw [0, 1, 2, 3, 4, 5] rfl (rn_V F hw (c_X2_isLive g l h0 pa ka kept np kb num rep k now gr (by omega) (by omega) (by omega)) (cw_X2_30 F.2.2.2.2 ⟨by decide, by decide⟩) [0, 1, 2, 3, 4, 5] (by decide) rfl 0 rfl rfl rfl hl.1 rfl (Nat.le_of_ble_eq_true rfl) dX2_liveOnes_17 ⟨Nat.zero_le _, Nat.zero_le _⟩) (fun _ => rfl) (fun v_2 u_1 H locs hp_3 hw => ?_)
        subst hp_3
        replace hw : Wd g s A H locs ([(h0, .inr (1, [.ref pa, .int (nI kept), .int (nI np)])), (pa, rA g 3 4 (rfA ka))] ++ (tl 4 ka (kE kb num rep) ++ [])) := hw
        refine lv_if_eq (tgt := 26) hx hb dX2_liveOnes_20 (by decide) (fun c_20 => ?_) (fun c_20 => ?_)
        · refine lv_iinc (v := nI (k + 1)) (lv' := [(6, .int (nI (k + 1))), (0, .ref h0), (1, .long now), (3, .long gr), (5, .int (nI (cntL (lvI kept np rep now gr) k)))]) hx hb dX2_liveOnes_26 hl (k := 4) rfl (inc_n _ 1) (by decide) rfl (fun ls hl => ?_)
          refine lv_goto (tgt := 6) hx hb dX2_liveOnes_29 (by decide) ?_
          first | rw [← cnt_0 c_20] at hl | rw [← cnt_1 c_20] at hl
          exact ih (k + 1) (by omega) (by omega) _ _ _ hw (lv_sub hl [1, 2, 3, 4, 0] rfl)
        · refine lv_iinc (v := nI (cntL (lvI kept np rep now gr) k + 1)) (lv' := [(5, .int (nI (cntL (lvI kept np rep now gr) k + 1))), (0, .ref h0), (1, .long now), (3, .long gr), (6, .int (nI k))]) hx hb dX2_liveOnes_23 hl (k := 3) rfl (inc_n _ 1) (by decide) rfl (fun ls hl => ?_)
          refine lv_iinc (v := nI (k + 1)) (lv' := [(6, .int (nI (k + 1))), (5, .int (nI (cntL (lvI kept np rep now gr) k + 1))), (0, .ref h0), (1, .long now), (3, .long gr)]) hx hb dX2_liveOnes_26 hl (k := 4) rfl (inc_n _ 1) (by decide) rfl (fun ls hl => ?_)
          refine lv_goto (tgt := 6) hx hb dX2_liveOnes_29 (by decide) ?_
          first | rw [← cnt_0 c_20] at hl | rw [← cnt_1 c_20] at hl
          exact ih (k + 1) (by omega) (by omega) _ _ _ hw (lv_sub hl [2, 3, 4, 1, 0] rfl)
  exact L_6 (4 + 1) 0 (by omega) (by omega) _ _ _ hw (lv_sub hl [2, 3, 4, 1, 0] rfl)
