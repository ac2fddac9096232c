theorem n_of (x : Int32) : nI x.toBitVec.toNat = x := by
  apply Int32.toBitVec_inj.mp
  show BitVec.ofNat 32 x.toBitVec.toNat = x.toBitVec
  simp
theorem ch_n {c : Nat} (h : c < 256) : ((nI c).toUInt32 % 65536).toInt32 = nI c := by rw [pk_char, pk_tn (by omega), Nat.mod_eq_of_lt (by omega)]
/-- six bits of a sign, or -1 -/
def sx (x : Int32) : Int32 := ixF x.toInt8.toInt32 64 0
theorem six_sx (x : Int32) : six x.toBitVec.toNat = sx x := by unfold six sx; rw [n_of]
/-- a byte of a sign -/
def isB (f : Nat → Int32) : Prop := ∀ i, i < 40 → (f i).toBitVec.toNat < 256
set_option maxHeartbeats 4000000 in
set_option maxRecDepth 100000 in
theorem c_X0_sixBits (g : GG) (l : Launch) (x : Int32) (hx8 : x.toBitVec.toNat < 256) : Ct g l yX0_sixBits cX0_sixBits 1 (some .int) 4 113 [.int x] [] (Ri g (fun (v : Int32) (u : Unit) => v = sx x) (fun (u : Unit) => [])) := by
  refine mkC (by decide) (Nat.le_of_ble_eq_true rfl) ?_
  intro p e s m args below meth c A ls QQ F hr hlk hnm hQ hw hl
  have hx := F.1
  have hb := F.2.1
  replace hl : lv_has ls 1 [(0, .int x)] := hl
  refine ls_X0_17 F hw dX0_sixBits_0 ?_
  refine lv_iload_n hx hb dX0_sixBits_2 rfl (lv_at hl 0 rfl) ?_
  refine tp_i (y := nI x.toBitVec.toNat) ((n_of x).symm) ?_
  refine lv_i2c (v := ((nI (x.toBitVec.toNat)).toUInt32 % 65536).toInt32) hx hb dX0_sixBits_3 rfl ?_
  refine tp_i (y := nI x.toBitVec.toNat) (ch_n hx8) ?_
  refine cl_i hw [] rfl (rn_VS F hw (c_J0_indexOf_0f7a4 g l x.toBitVec.toNat (by omega)) (cw_X0_41 F.2.2.2.2 ⟨by decide, by decide⟩) [] (by decide) rfl hl.1 rfl (Nat.le_of_ble_eq_true rfl) dX0_sixBits_4 ⟨Nat.zero_le _, Nat.zero_le _⟩) (fun _ => rfl) (fun v_2 u_1 H locs hp_3 hw => ?_)
  subst hp_3
  replace hw : Wd g s A H locs [] := hw
  refine tp_i (y := sx x) (six_sx x) ?_
  exact rt_i F hr hlk hQ hw () rfl rfl dX0_sixBits_7
def isF (ln : Nat) (f : Nat → Int32) : Prop := ln = 30 ∧ (∀ i, i < 30 → 0 ≤ sx (f i)) ∧ (sx (f 29) &&& nI 15) = 0
set_option maxHeartbeats 4000000 in
set_option maxRecDepth 100000 in
theorem c_X0_isCookieForm (g : GG) (l : Launch) (h0 : Nat) (h1 : Nat) (f : Nat → Int32) (ln : Nat) (hln : ln ≤ 40) (hf : isB f) : Ct g l yX0_isCookieForm cX0_isCookieForm 2 (some .boolean) 5 133 [.ref h0] [(h0, .inr (4, [.ref h1, .int (nI ln)])), (h1, iA g 40 f)] (Ri g (fun (v : Int32) (u : Unit) => (v = nI 1 ∧ isF ln f) ∨ (v = nI 0 ∧ ¬ isF ln f)) (fun (u : Unit) => [(h0, .inr (4, [.ref h1, .int (nI ln)])), (h1, iA g 40 f)])) := by
  refine mkC (by decide) (Nat.le_of_ble_eq_true rfl) ?_
  intro p e s m args below meth c A ls QQ F hr hlk hnm hQ hw hl
  have hx := F.1
  have hb := F.2.1
  replace hl : lv_has ls 2 [(0, .ref h0)] := hl
  refine lv_aload_n hx hb dX0_isCookieForm_0 rfl (lv_at hl 0 rfl) ?_
  refine gf_X0_9 F hw 0 rfl rfl dX0_isCookieForm_1 ?_
  refine lv_bipush (v := nI 30) hx hb dX0_isCookieForm_4 (by decide) ?_
  refine n_eq (tgt := 11) hx hb (by omega) (by omega) dX0_isCookieForm_6 (by decide) (fun c_6 => ?_) (fun c_6 => ?_)
  · refine lv_iconst (v := nI 0) hx hb dX0_isCookieForm_11 (by decide) ?_
    refine lv_istore_n (lv' := [(1, .int (nI 0)), (0, .ref h0)]) hx hb dX0_isCookieForm_12 rfl hl (by decide) rfl (fun ls hl => ?_)
    have L_13 : ∀ (nn k : Nat), k ≤ 30 → 30 < k + nn → ∀ (H : Heap) (locs : List Loc) (ls : Array Slot), (∀ i, i < k → 0 ≤ sx (f i)) → Wd g s A H locs [(h0, .inr (4, [.ref h1, .int (nI ln)])), (h1, iA g 40 f)] → lv_has ls 2 [(0, .ref h0), (1, .int (nI k))] → W p l e (rmm 5 133) s m args below meth c H locs 0 0 QQ (F0 m 13 ls []) := by
      intro nn
      induction nn with
      | zero => intro k h1 h2; exact absurd h2 (by omega)
      | succ nn ih =>
        intro k hk_k hn_k H locs ls hi_k_0 hw hl
        refine lv_iload_n hx hb dX0_isCookieForm_13 rfl (lv_at hl 1 rfl) ?_
        refine lv_bipush (v := nI 30) hx hb dX0_isCookieForm_14 (by decide) ?_
        refine n_ge (tgt := 39) hx hb (by omega) (by omega) dX0_isCookieForm_16 (by decide) (fun c_16 => ?_) (fun c_16 => ?_)
        · obtain rfl : k = 30 := by omega
          refine lv_aload_n hx hb dX0_isCookieForm_39 rfl (lv_at hl 0 rfl) ?_
          refine gf_X0_33 F hw 0 rfl rfl dX0_isCookieForm_40 ?_
          refine lv_bipush (v := nI 29) hx hb dX0_isCookieForm_43 (by decide) ?_
          refine ia_ld F hw 1 rfl (by omega) (by omega) dX0_isCookieForm_45 ?_
          refine cl_i hw [] rfl (rn_S F hw (c_X0_sixBits g l (f 29) (hf 29 (by omega))) (cw_X0_37 F.2.2.2.2 ⟨by decide, by decide⟩) [] (by decide) rfl hl.1 rfl (Nat.le_of_ble_eq_true rfl) dX0_isCookieForm_46 ⟨Nat.zero_le _, Nat.zero_le _⟩) (fun _ => rfl) (fun v_2 u_1 H locs hp_3 hw => ?_)
          subst hp_3
          replace hw : Wd g s A H locs [(h0, .inr (4, [.ref h1, .int (nI ln)])), (h1, iA g 40 f)] := hw
          refine lv_bipush (v := nI 15) hx hb dX0_isCookieForm_49 (by decide) ?_
          refine lv_iand hx hb dX0_isCookieForm_51 ?_
          refine lv_if_ne (tgt := 59) hx hb dX0_isCookieForm_52 (by decide) (fun c_52 => ?_) (fun c_52 => ?_)
          · refine lv_iconst (v := nI 0) hx hb dX0_isCookieForm_59 (by decide) ?_
            exact rt_z F hr rfl hlk hQ hw () (by first | exact Or.inl ⟨rfl, by omega, hi_k_0, c_52⟩ | exact Or.inr ⟨rfl, fun h => c_52 h.2.2⟩) rfl dX0_isCookieForm_60
          · refine lv_iconst (v := nI 1) hx hb dX0_isCookieForm_55 (by decide) ?_
            refine lv_goto (tgt := 60) hx hb dX0_isCookieForm_56 (by decide) ?_
            exact rt_z F hr rfl hlk hQ hw () (by first | exact Or.inl ⟨rfl, by omega, hi_k_0, c_52⟩ | exact Or.inr ⟨rfl, fun h => c_52 h.2.2⟩) rfl dX0_isCookieForm_60
        · refine lv_aload_n hx hb dX0_isCookieForm_19 rfl (lv_at hl 0 rfl) ?_
          refine gf_X0_33 F hw 0 rfl rfl dX0_isCookieForm_20 ?_
          refine lv_iload_n hx hb dX0_isCookieForm_23 rfl (lv_at hl 1 rfl) ?_
          refine ia_ld F hw 1 rfl (by omega) (by omega) dX0_isCookieForm_24 ?_
          refine cl_i hw [] rfl (rn_S F hw (c_X0_sixBits g l (f k) (hf k (by omega))) (cw_X0_37 F.2.2.2.2 ⟨by decide, by decide⟩) [] (by decide) rfl hl.1 rfl (Nat.le_of_ble_eq_true rfl) dX0_isCookieForm_25 ⟨Nat.zero_le _, Nat.zero_le _⟩) (fun _ => rfl) (fun v_5 u_4 H locs hp_6 hw => ?_)
          subst hp_6
          replace hw : Wd g s A H locs [(h0, .inr (4, [.ref h1, .int (nI ln)])), (h1, iA g 40 f)] := hw
          refine lv_if_ge (tgt := 33) hx hb dX0_isCookieForm_28 (by decide) (fun c_28 => ?_) (fun c_28 => ?_)
          · refine lv_iinc (v := nI (k + 1)) (lv' := [(1, .int (nI (k + 1))), (0, .ref h0)]) hx hb dX0_isCookieForm_33 hl (k := 1) rfl (inc_n _ 1) (by decide) rfl (fun ls hl => ?_)
            refine lv_goto (tgt := 13) hx hb dX0_isCookieForm_36 (by decide) ?_
            exact ih (k + 1) (by omega) (by omega) _ _ _ (lt_s hi_k_0 c_28) hw (lv_sub hl [1, 0] rfl)
          · refine lv_iconst (v := nI 0) hx hb dX0_isCookieForm_31 (by decide) ?_
            exact rt_z F hr rfl hlk hQ hw () (Or.inr ⟨rfl, fun h => c_28 (h.2.1 k (by omega))⟩) rfl dX0_isCookieForm_32
    exact L_13 (30 + 1) 0 (by omega) (by omega) _ _ _ (fun i h => absurd h (Nat.not_lt_zero i)) hw (lv_sub hl [1, 0] rfl)
  · refine lv_iconst (v := nI 0) hx hb dX0_isCookieForm_9 (by decide) ?_
    exact rt_z F hr rfl hlk hQ hw () (Or.inr ⟨rfl, fun h => c_6 h.1⟩) rfl dX0_isCookieForm_10
def dcb (f : Nat → Int32) (i : Nat) : Int32 := ushr ((sx (f (8 * i / 6)) <<< (nI 6 &&& 31)) ||| sx (f (8 * i / 6 + 1))) (nI (4 - 8 * i % 6)) &&& nI 255
def dcF (f fb : Nat → Int32) : Nat → Nat → Int32
  | 0 => fb
  | k + 1 => upd (dcF f fb k) k (dcb f k)
theorem dcF_get (f fb : Nat → Int32) : ∀ k t, t < k → dcF f fb k t = dcb f t := by
  intro k
  induction k with
  | zero => intro t h; omega
  | succ k ih =>
    intro t h
    show upd (dcF f fb k) k (dcb f k) t = _
    by_cases e : t = k
    · subst e; rw [upd_s]
    · rw [upd_n _ _ e]; exact ih t (by omega)
set_option maxHeartbeats 4000000 in
set_option maxRecDepth 100000 in
theorem c_X0_decodeCookie (g : GG) (l : Launch) (h0 : Nat) (h1 : Nat) (ba : Nat) (f : Nat → Int32) (ln : Nat) (fb : Nat → Int32) (hln : ln ≤ 40) (hf : isB f) : Ct g l yX0_decodeCookie cX0_decodeCookie 6 (some .boolean) 6 154 [.ref h0, .ref ba] [(h0, .inr (4, [.ref h1, .int (nI ln)])), (h1, iA g 40 f), (ba, iA g 22 fb)] (Ri g (fun (v : Int32) (u : Nat → Int32) => (v = nI 1 ∧ isF ln f ∧ ∀ i, i < 22 → u i = dcb f i) ∨ (v = nI 0 ∧ ¬ isF ln f)) (fun (u : Nat → Int32) => [(h0, .inr (4, [.ref h1, .int (nI ln)])), (h1, iA g 40 f), (ba, iA g 22 u)])) := by
  refine mkC (by decide) (Nat.le_of_ble_eq_true rfl) ?_
  intro p e s m args below meth c A ls QQ F hr hlk hnm hQ hw hl
  have hx := F.1
  have hb := F.2.1
  replace hl : lv_has ls 6 [(0, .ref h0), (1, .ref ba)] := hl
  refine lv_aload_n hx hb dX0_decodeCookie_0 rfl (lv_at hl 0 rfl) ?_
  refine cl_i hw [0, 1] rfl (rn_S F hw (c_X0_isCookieForm g l h0 h1 f ln (by omega) (by omega)) (cw_X0_29 F.2.2.2.2 ⟨by decide, by decide⟩) [0, 1] (by decide) rfl hl.1 rfl (Nat.le_of_ble_eq_true rfl) dX0_decodeCookie_1 ⟨Nat.zero_le _, Nat.zero_le _⟩) (fun _ => rfl) (fun v_2 u_1 H locs hp_3 hw => ?_)
  replace hw : Wd g s A H locs [(h0, .inr (4, [.ref h1, .int (nI ln)])), (h1, iA g 40 f), (ba, iA g 22 fb)] := hw
  have q1 := hp_3
  refine lv_if_ne (tgt := 9) hx hb dX0_decodeCookie_4 (by decide) (fun c_4 => ?_) (fun c_4 => ?_)
  · replace q1 := q1.resolve_right (fun h => c_4 h.1)
    refine lv_iconst (v := nI 0) hx hb dX0_decodeCookie_9 (by decide) ?_
    refine lv_istore_n (lv' := [(2, .int (nI 0)), (0, .ref h0), (1, .ref ba)]) hx hb dX0_decodeCookie_10 rfl hl (by decide) rfl (fun ls hl => ?_)
    have L_11 : ∀ (nn k : Nat), k ≤ 22 → 22 < k + nn → ∀ (H : Heap) (locs : List Loc) (ls : Array Slot), Wd g s A H locs [(h0, .inr (4, [.ref h1, .int (nI ln)])), (h1, iA g 40 f), (ba, iA g 22 (dcF f fb k))] → lv_has ls 6 [(0, .ref h0), (1, .ref ba), (2, .int (nI k))] → W p l e (rmm 6 154) s m args below meth c H locs 0 0 QQ (F0 m 11 ls []) := by
      intro nn
      induction nn with
      | zero => intro k h1 h2; exact absurd h2 (by omega)
      | succ nn ih =>
        intro k hk_k hn_k H locs ls hw hl
        refine lv_iload_n hx hb dX0_decodeCookie_11 rfl (lv_at hl 2 rfl) ?_
        refine lv_bipush (v := nI 22) hx hb dX0_decodeCookie_12 (by decide) ?_
        refine n_ge (tgt := 78) hx hb (by omega) (by omega) dX0_decodeCookie_14 (by decide) (fun c_14 => ?_) (fun c_14 => ?_)
        · obtain rfl : k = 22 := by omega
          refine lv_iconst (v := nI 1) hx hb dX0_decodeCookie_78 (by decide) ?_
          exact rt_z F hr rfl hlk hQ hw (dcF f fb 22) (Or.inl ⟨rfl, q1.2, fun i hi => dcF_get f fb 22 i hi⟩) rfl dX0_decodeCookie_79
        · refine lv_bipush (v := nI 8) hx hb dX0_decodeCookie_17 (by decide) ?_
          refine lv_iload_n hx hb dX0_decodeCookie_19 rfl (lv_at hl 2 rfl) ?_
          refine n_mul hx hb dX0_decodeCookie_20 ?_
          refine lv_istore_n (lv' := [(3, .int (nI (8 * k))), (0, .ref h0), (1, .ref ba), (2, .int (nI k))]) hx hb dX0_decodeCookie_21 rfl hl (by decide) rfl (fun ls hl => ?_)
          refine lv_iload_n hx hb dX0_decodeCookie_22 rfl (lv_at hl 0 rfl) ?_
          refine lv_bipush (v := nI 6) hx hb dX0_decodeCookie_23 (by decide) ?_
          refine n_div hx hb (by omega) (by omega) (by omega) dX0_decodeCookie_25 ?_
          refine lv_istore (lv' := [(4, .int (nI ((8 * k) / 6))), (3, .int (nI (8 * k))), (0, .ref h0), (1, .ref ba), (2, .int (nI k))]) hx hb dX0_decodeCookie_26 hl (by decide) rfl (fun ls hl => ?_)
          refine lv_aload_n hx hb dX0_decodeCookie_28 rfl (lv_at hl 2 rfl) ?_
          refine gf_X0_33 F hw 0 rfl rfl dX0_decodeCookie_29 ?_
          refine lv_iload hx hb dX0_decodeCookie_32 (lv_at hl 0 rfl) ?_
          refine ia_ld F hw 1 rfl (by omega) (by omega) dX0_decodeCookie_34 ?_
          refine cl_i hw [] rfl (rn_S F hw (c_X0_sixBits g l (f ((8 * k) / 6)) (hf _ (by omega))) (cw_X0_37 F.2.2.2.2 ⟨by decide, by decide⟩) [] (by decide) rfl hl.1 rfl (Nat.le_of_ble_eq_true rfl) dX0_decodeCookie_35 ⟨Nat.zero_le _, Nat.zero_le _⟩) (fun _ => rfl) (fun v_5 u_4 H locs hp_6 hw => ?_)
          subst hp_6
          replace hw : Wd g s A H locs [(h0, .inr (4, [.ref h1, .int (nI ln)])), (h1, iA g 40 f), (ba, iA g 22 (dcF f fb k))] := hw
          refine lv_bipush (v := nI 6) hx hb dX0_decodeCookie_38 (by decide) ?_
          refine lv_ishl hx hb dX0_decodeCookie_40 ?_
          refine lv_aload_n hx hb dX0_decodeCookie_41 rfl (lv_at hl 2 rfl) ?_
          refine gf_X0_33 F hw 0 rfl rfl dX0_decodeCookie_42 ?_
          refine lv_iload hx hb dX0_decodeCookie_45 (lv_at hl 0 rfl) ?_
          refine lv_iconst (v := nI 1) hx hb dX0_decodeCookie_47 (by decide) ?_
          refine n_add hx hb dX0_decodeCookie_48 ?_
          refine ia_ld F hw 1 rfl (by omega) (by omega) dX0_decodeCookie_49 ?_
          refine cl_i hw [] rfl (rn_S F hw (c_X0_sixBits g l (f (((8 * k) / 6) + 1)) (hf _ (by omega))) (cw_X0_37 F.2.2.2.2 ⟨by decide, by decide⟩) [] (by decide) rfl hl.1 rfl (Nat.le_of_ble_eq_true rfl) dX0_decodeCookie_50 ⟨Nat.zero_le _, Nat.zero_le _⟩) (fun _ => rfl) (fun v_8 u_7 H locs hp_9 hw => ?_)
          subst hp_9
          replace hw : Wd g s A H locs [(h0, .inr (4, [.ref h1, .int (nI ln)])), (h1, iA g 40 f), (ba, iA g 22 (dcF f fb k))] := hw
          refine lv_ior hx hb dX0_decodeCookie_53 ?_
          refine lv_istore (lv' := [(5, .int ((((sx (f ((8 * k) / 6))) <<< ((nI 6) &&& 31)) ||| (sx (f (((8 * k) / 6) + 1)))))), (4, .int (nI ((8 * k) / 6))), (3, .int (nI (8 * k))), (0, .ref h0), (1, .ref ba), (2, .int (nI k))]) hx hb dX0_decodeCookie_54 hl (by decide) rfl (fun ls hl => ?_)
          refine lv_aload_n hx hb dX0_decodeCookie_56 rfl (lv_at hl 4 rfl) ?_
          refine lv_iload_n hx hb dX0_decodeCookie_57 rfl (lv_at hl 5 rfl) ?_
          refine lv_iload hx hb dX0_decodeCookie_58 (lv_at hl 0 rfl) ?_
          refine lv_iconst (v := nI 4) hx hb dX0_decodeCookie_60 (by decide) ?_
          refine lv_iload_n hx hb dX0_decodeCookie_61 rfl (lv_at hl 2 rfl) ?_
          refine lv_bipush (v := nI 6) hx hb dX0_decodeCookie_62 (by decide) ?_
          refine n_rem hx hb (by omega) (by omega) (by omega) dX0_decodeCookie_64 ?_
          refine n_sub hx hb (by omega) dX0_decodeCookie_65 ?_
          refine lv_iushr (v := ushr (((sx (f ((8 * k) / 6))) <<< ((nI 6) &&& 31)) ||| (sx (f (((8 * k) / 6) + 1)))) (nI (4 - ((8 * k) % 6)))) hx hb dX0_decodeCookie_66 rfl ?_
          refine lv_sipush (v := nI 255) hx hb dX0_decodeCookie_67 (by decide) ?_
          refine lv_iand hx hb dX0_decodeCookie_70 ?_
          refine ia_st F hw 2 rfl (by omega) (by omega) dX0_decodeCookie_71 (fun H locs hw => ?_)
          replace hw : Wd g s A H locs [(h0, .inr (4, [.ref h1, .int (nI ln)])), (h1, iA g 40 f), (ba, iA g 22 (upd (dcF f fb k) k ((ushr (((sx (f ((8 * k) / 6))) <<< ((nI 6) &&& 31)) ||| (sx (f (((8 * k) / 6) + 1)))) (nI (4 - ((8 * k) % 6)))) &&& (nI 255))))] := hw
          refine lv_iinc (v := nI (k + 1)) (lv' := [(2, .int (nI (k + 1))), (5, .int ((((sx (f ((8 * k) / 6))) <<< ((nI 6) &&& 31)) ||| (sx (f (((8 * k) / 6) + 1)))))), (4, .int (nI ((8 * k) / 6))), (3, .int (nI (8 * k))), (0, .ref h0), (1, .ref ba)]) hx hb dX0_decodeCookie_72 hl (k := 5) rfl (inc_n _ 1) (by decide) rfl (fun ls hl => ?_)
          refine lv_goto (tgt := 11) hx hb dX0_decodeCookie_75 (by decide) ?_
          exact ih (k + 1) (by omega) (by omega) _ _ _ hw (lv_sub hl [4, 5, 0] rfl)
    exact L_11 (22 + 1) 0 (by omega) (by omega) _ _ _ hw (lv_sub hl [1, 2, 0] rfl)
  · replace q1 := q1.resolve_left (fun h => absurd (h.1.symm.trans c_4) (by decide))
    refine lv_iconst (v := nI 0) hx hb dX0_decodeCookie_7 (by decide) ?_
    exact rt_z F hr rfl hlk hQ hw fb (Or.inr ⟨rfl, q1.2⟩) rfl dX0_decodeCookie_8
def ecx (fb : Nat → Int32) (len k : Nat) : Nat := (ushr ((fb (6 * k / 8) <<< (nI 8 &&& 31)) ||| (if 6 * k / 8 + 1 < len then fb (6 * k / 8 + 1) else nI 0)) (nI (10 - 6 * k % 8))).toBitVec.toNat % 2 ^ 6
def encF (fb : Nat → Int32) (len : Nat) (f0 : Nat → Int32) : Nat → Nat → Int32
  | 0 => f0
  | k + 1 => upd (encF fb len f0 k) k (kA (ecx fb len k))
theorem ecx_t {fb : Nat → Int32} {len k : Nat} (h : 6 * k / 8 + 1 < len) : (ushr ((fb (6 * k / 8) <<< (nI 8 &&& 31)) ||| fb (6 * k / 8 + 1)) (nI (10 - 6 * k % 8))).toBitVec.toNat % 2 ^ 6 = ecx fb len k := by simp only [ecx, h, if_true]
theorem ecx_f {fb : Nat → Int32} {len k : Nat} (h : len ≤ 6 * k / 8 + 1) : (ushr ((fb (6 * k / 8) <<< (nI 8 &&& 31)) ||| nI 0) (nI (10 - 6 * k % 8))).toBitVec.toNat % 2 ^ 6 = ecx fb len k := by simp only [ecx, Nat.not_lt.mpr h, if_false]
theorem encF_get (fb : Nat → Int32) (len : Nat) (f0 : Nat → Int32) : ∀ k t, t < k → encF fb len f0 k t = kA (ecx fb len t) := by
  intro k
  induction k with
  | zero => intro t h; omega
  | succ k ih =>
    intro t h
    show upd (encF fb len f0 k) k (kA (ecx fb len k)) t = _
    by_cases e : t = k
    · subst e; rw [upd_s]
    · rw [upd_n _ _ e]; exact ih t (by omega)
theorem ecx_lt (fb : Nat → Int32) (len k : Nat) : ecx fb len k < 64 := Nat.mod_lt _ (by decide)
set_option maxHeartbeats 4000000 in
set_option maxRecDepth 100000 in
theorem c_X0_encode (g : GG) (l : Launch) (ba : Nat) (h0 : Nat) (h1 : Nat) (nb : Nat) (fb : Nat → Int32) (f : Nat → Int32) (ln : Nat) (len : Nat) (hnb : nb < 2 ^ 31) (hl1 : len ≤ nb) (hl2 : (8 * len + 5) / 6 ≤ 40) : Ct g l yX0_encode cX0_encode 9 none 4 85 [.ref ba, .int (nI len), .ref h0] [(ba, iA g nb fb), (h0, .inr (4, [.ref h1, .int (nI ln)])), (h1, iA g 40 f)] (Rv g (fun (u : Unit) => True) (fun (u : Unit) => [(ba, iA g nb fb), (h0, .inr (4, [.ref h1, .int (nI ((8 * len + 5) / 6))])), (h1, iA g 40 (encF fb len f ((8 * len + 5) / 6)))])) := by
  refine mkC (by decide) (Nat.le_of_ble_eq_true rfl) ?_
  intro p e s m args below meth c A ls QQ F hr hlk hnm hQ hw hl
  have hx := F.1
  have hb := F.2.1
  replace hl : lv_has ls 9 [(0, .ref ba), (1, .int (nI len)), (2, .ref h0)] := hl
  refine lv_bipush (v := nI 8) hx hb dX0_encode_0 (by decide) ?_
  refine lv_iload_n hx hb dX0_encode_2 rfl (lv_at hl 1 rfl) ?_
  refine n_mul hx hb dX0_encode_3 ?_
  refine lv_iconst (v := nI 5) hx hb dX0_encode_4 (by decide) ?_
  refine n_add hx hb dX0_encode_5 ?_
  refine lv_bipush (v := nI 6) hx hb dX0_encode_6 (by decide) ?_
  refine n_div hx hb (by omega) (by omega) (by omega) dX0_encode_8 ?_
  refine lv_istore_n (lv' := [(3, .int (nI (((8 * len) + 5) / 6))), (0, .ref ba), (1, .int (nI len)), (2, .ref h0)]) hx hb dX0_encode_9 rfl hl (by decide) rfl (fun ls hl => ?_)
  refine lv_aload_n hx hb dX0_encode_10 rfl (lv_at hl 3 rfl) ?_
  refine lv_iconst (v := nI 0) hx hb dX0_encode_11 (by decide) ?_
  refine pf_X0_9 F hw 1 rfl (Nat.le_of_ble_eq_true rfl) rfl rfl dX0_encode_12 (fun H locs hw => ?_)
  replace hw : Wd g s A H locs [(ba, iA g nb fb), (h0, .inr (4, [.ref h1, .int (nI 0)])), (h1, iA g 40 f)] := hw
  refine lv_iconst (v := nI 0) hx hb dX0_encode_15 (by decide) ?_
  refine lv_istore (lv' := [(4, .int (nI 0)), (3, .int (nI (((8 * len) + 5) / 6))), (0, .ref ba), (1, .int (nI len)), (2, .ref h0)]) hx hb dX0_encode_16 hl (by decide) rfl (fun ls hl => ?_)
  have L_18 : ∀ (nn k : Nat), k ≤ ((8 * len + 5) / 6) → ((8 * len + 5) / 6) < k + nn → ∀ (H : Heap) (locs : List Loc) (ls : Array Slot), Wd g s A H locs [(ba, iA g nb fb), (h0, .inr (4, [.ref h1, .int (nI k)])), (h1, iA g 40 (encF fb len f k))] → lv_has ls 9 [(0, .ref ba), (1, .int (nI len)), (2, .ref h0), (3, .int (nI (((8 * len) + 5) / 6))), (4, .int (nI k))] → W p l e (rmm 4 85) s m args below meth c H locs 0 0 QQ (F0 m 18 ls []) := by
    intro nn
    induction nn with
    | zero => intro k h1 h2; exact absurd h2 (by omega)
    | succ nn ih =>
      intro k hk_k hn_k H locs ls hw hl
      refine lv_iload hx hb dX0_encode_18 (lv_at hl 4 rfl) ?_
      refine lv_iload_n hx hb dX0_encode_20 rfl (lv_at hl 3 rfl) ?_
      refine n_ge (tgt := 99) hx hb (by omega) (by omega) dX0_encode_21 (by decide) (fun c_21 => ?_) (fun c_21 => ?_)
      · obtain rfl : k = (8 * len + 5) / 6 := by omega
        exact rt_v F hr hlk hQ hw () trivial rfl dX0_encode_99
      · refine lv_bipush (v := nI 6) hx hb dX0_encode_24 (by decide) ?_
        refine lv_iload hx hb dX0_encode_26 (lv_at hl 4 rfl) ?_
        refine n_mul hx hb dX0_encode_28 ?_
        refine lv_istore (lv' := [(5, .int (nI (6 * k))), (0, .ref ba), (1, .int (nI len)), (2, .ref h0), (3, .int (nI (((8 * len) + 5) / 6))), (4, .int (nI k))]) hx hb dX0_encode_29 hl (by decide) rfl (fun ls hl => ?_)
        refine lv_iload hx hb dX0_encode_31 (lv_at hl 0 rfl) ?_
        refine lv_bipush (v := nI 8) hx hb dX0_encode_33 (by decide) ?_
        refine n_div hx hb (by omega) (by omega) (by omega) dX0_encode_35 ?_
        refine lv_istore (lv' := [(6, .int (nI ((6 * k) / 8))), (5, .int (nI (6 * k))), (0, .ref ba), (1, .int (nI len)), (2, .ref h0), (3, .int (nI (((8 * len) + 5) / 6))), (4, .int (nI k))]) hx hb dX0_encode_36 hl (by decide) rfl (fun ls hl => ?_)
        refine lv_iload hx hb dX0_encode_38 (lv_at hl 0 rfl) ?_
        refine lv_iconst (v := nI 1) hx hb dX0_encode_40 (by decide) ?_
        refine n_add hx hb dX0_encode_41 ?_
        refine lv_iload_n hx hb dX0_encode_42 rfl (lv_at hl 3 rfl) ?_
        refine n_ge (tgt := 55) hx hb (by omega) (by omega) dX0_encode_43 (by decide) (fun c_43 => ?_) (fun c_43 => ?_)
        · refine lv_iconst (v := nI 0) hx hb dX0_encode_55 (by decide) ?_
          refine lv_istore (lv' := [(7, .int (nI 0)), (6, .int (nI ((6 * k) / 8))), (5, .int (nI (6 * k))), (0, .ref ba), (1, .int (nI len)), (2, .ref h0), (3, .int (nI (((8 * len) + 5) / 6))), (4, .int (nI k))]) hx hb dX0_encode_56 hl (by decide) rfl (fun ls hl => ?_)
          refine lv_aload_n hx hb dX0_encode_58 rfl (lv_at hl 3 rfl) ?_
          refine lv_iload hx hb dX0_encode_59 (lv_at hl 1 rfl) ?_
          refine ia_ld F hw 0 rfl (by omega) (by omega) dX0_encode_61 ?_
          refine lv_bipush (v := nI 8) hx hb dX0_encode_62 (by decide) ?_
          refine lv_ishl hx hb dX0_encode_64 ?_
          refine lv_iload hx hb dX0_encode_65 (lv_at hl 0 rfl) ?_
          refine lv_ior hx hb dX0_encode_67 ?_
          refine lv_istore (lv' := [(8, .int ((((fb ((6 * k) / 8)) <<< ((nI 8) &&& 31)) ||| (nI 0)))), (7, .int (nI 0)), (6, .int (nI ((6 * k) / 8))), (5, .int (nI (6 * k))), (0, .ref ba), (1, .int (nI len)), (2, .ref h0), (3, .int (nI (((8 * len) + 5) / 6))), (4, .int (nI k))]) hx hb dX0_encode_68 hl (by decide) rfl (fun ls hl => ?_)
          refine lv_aload_n hx hb dX0_encode_70 rfl (lv_at hl 6 rfl) ?_
          refine ls_X0_17 F hw dX0_encode_71 ?_
          refine lv_iload hx hb dX0_encode_73 (lv_at hl 0 rfl) ?_
          refine lv_bipush (v := nI 10) hx hb dX0_encode_75 (by decide) ?_
          refine lv_iload hx hb dX0_encode_77 (lv_at hl 3 rfl) ?_
          refine lv_bipush (v := nI 8) hx hb dX0_encode_79 (by decide) ?_
          refine n_rem hx hb (by omega) (by omega) (by omega) dX0_encode_81 ?_
          refine n_sub hx hb (by omega) dX0_encode_82 ?_
          refine lv_iushr (v := ushr (((fb ((6 * k) / 8)) <<< ((nI 8) &&& 31)) ||| (nI 0)) (nI (10 - ((6 * k) % 8)))) hx hb dX0_encode_83 rfl ?_
          refine lv_bipush (v := nI 63) hx hb dX0_encode_84 (by decide) ?_
          refine lv_iand hx hb dX0_encode_86 ?_
          refine tp_i (y := nI ((ushr (((fb ((6 * k) / 8)) <<< ((nI 8) &&& 31)) ||| (nI 0)) (nI (10 - ((6 * k) % 8)))).toBitVec.toNat % 2 ^ 6)) (pk_and _ 6 (by decide)) ?_
          refine tp_i (y := nI (ecx fb len k)) (congrArg nI (ecx_f c_43)) ?_
          refine cl_i hw [] rfl (rn_VS F hw (c_J0_charAt_5068e g l (ecx fb len k) (ecx_lt fb len k)) (cw_X0_19 F.2.2.2.2 ⟨by decide, by decide⟩) [] (by decide) rfl hl.1 rfl (Nat.le_of_ble_eq_true rfl) dX0_encode_87 ⟨Nat.zero_le _, Nat.zero_le _⟩) (fun _ => rfl) (fun v_2 u_1 H locs hp_3 hw => ?_)
          subst hp_3
          replace hw : Wd g s A H locs [(ba, iA g nb fb), (h0, .inr (4, [.ref h1, .int (nI k)])), (h1, iA g 40 (encF fb len f k))] := hw
          refine cl_v hw [1, 2] rfl (rn_V F hw (c_X5_addSign g l h0 h1 (encF fb len f k) k (kA (ecx fb len k)) (by omega)) (cw_X0_25 F.2.2.2.2 ⟨by decide, by decide⟩) [1, 2] (by decide) rfl 1 rfl rfl rfl hl.1 rfl (Nat.le_of_ble_eq_true rfl) dX0_encode_90 ⟨Nat.zero_le _, Nat.zero_le _⟩) (fun _ => rfl) (fun u_4 H locs hp_6 hw => ?_)
          replace hw : Wd g s A H locs [(ba, iA g nb fb), (h0, .inr (4, [.ref h1, .int (nI (k + 1))])), (h1, iA g 40 (upd (encF fb len f k) k (kA (ecx fb len k))))] := hw
          refine lv_iinc (v := nI (k + 1)) (lv' := [(4, .int (nI (k + 1))), (8, .int ((((fb ((6 * k) / 8)) <<< ((nI 8) &&& 31)) ||| (nI 0)))), (7, .int (nI 0)), (6, .int (nI ((6 * k) / 8))), (5, .int (nI (6 * k))), (0, .ref ba), (1, .int (nI len)), (2, .ref h0), (3, .int (nI (((8 * len) + 5) / 6)))]) hx hb dX0_encode_93 hl (k := 8) rfl (inc_n _ 1) (by decide) rfl (fun ls hl => ?_)
          refine lv_goto (tgt := 18) hx hb dX0_encode_96 (by decide) ?_
          exact ih (k + 1) (by omega) (by omega) _ _ _ hw (lv_sub hl [5, 6, 7, 8, 0] rfl)
        · refine lv_aload_n hx hb dX0_encode_46 rfl (lv_at hl 2 rfl) ?_
          refine lv_iload hx hb dX0_encode_47 (lv_at hl 0 rfl) ?_
          refine lv_iconst (v := nI 1) hx hb dX0_encode_49 (by decide) ?_
          refine n_add hx hb dX0_encode_50 ?_
          refine ia_ld F hw 0 rfl (by omega) (by omega) dX0_encode_51 ?_
          refine lv_goto (tgt := 56) hx hb dX0_encode_52 (by decide) ?_
          refine lv_istore (lv' := [(7, .int ((fb (((6 * k) / 8) + 1)))), (6, .int (nI ((6 * k) / 8))), (5, .int (nI (6 * k))), (0, .ref ba), (1, .int (nI len)), (2, .ref h0), (3, .int (nI (((8 * len) + 5) / 6))), (4, .int (nI k))]) hx hb dX0_encode_56 hl (by decide) rfl (fun ls hl => ?_)
          refine lv_aload_n hx hb dX0_encode_58 rfl (lv_at hl 3 rfl) ?_
          refine lv_iload hx hb dX0_encode_59 (lv_at hl 1 rfl) ?_
          refine ia_ld F hw 0 rfl (by omega) (by omega) dX0_encode_61 ?_
          refine lv_bipush (v := nI 8) hx hb dX0_encode_62 (by decide) ?_
          refine lv_ishl hx hb dX0_encode_64 ?_
          refine lv_iload hx hb dX0_encode_65 (lv_at hl 0 rfl) ?_
          refine lv_ior hx hb dX0_encode_67 ?_
          refine lv_istore (lv' := [(8, .int ((((fb ((6 * k) / 8)) <<< ((nI 8) &&& 31)) ||| (fb (((6 * k) / 8) + 1))))), (7, .int ((fb (((6 * k) / 8) + 1)))), (6, .int (nI ((6 * k) / 8))), (5, .int (nI (6 * k))), (0, .ref ba), (1, .int (nI len)), (2, .ref h0), (3, .int (nI (((8 * len) + 5) / 6))), (4, .int (nI k))]) hx hb dX0_encode_68 hl (by decide) rfl (fun ls hl => ?_)
          refine lv_aload_n hx hb dX0_encode_70 rfl (lv_at hl 6 rfl) ?_
          refine ls_X0_17 F hw dX0_encode_71 ?_
          refine lv_iload hx hb dX0_encode_73 (lv_at hl 0 rfl) ?_
          refine lv_bipush (v := nI 10) hx hb dX0_encode_75 (by decide) ?_
          refine lv_iload hx hb dX0_encode_77 (lv_at hl 3 rfl) ?_
          refine lv_bipush (v := nI 8) hx hb dX0_encode_79 (by decide) ?_
          refine n_rem hx hb (by omega) (by omega) (by omega) dX0_encode_81 ?_
          refine n_sub hx hb (by omega) dX0_encode_82 ?_
          refine lv_iushr (v := ushr (((fb ((6 * k) / 8)) <<< ((nI 8) &&& 31)) ||| (fb (((6 * k) / 8) + 1))) (nI (10 - ((6 * k) % 8)))) hx hb dX0_encode_83 rfl ?_
          refine lv_bipush (v := nI 63) hx hb dX0_encode_84 (by decide) ?_
          refine lv_iand hx hb dX0_encode_86 ?_
          refine tp_i (y := nI ((ushr (((fb ((6 * k) / 8)) <<< ((nI 8) &&& 31)) ||| (fb (((6 * k) / 8) + 1))) (nI (10 - ((6 * k) % 8)))).toBitVec.toNat % 2 ^ 6)) (pk_and _ 6 (by decide)) ?_
          refine tp_i (y := nI (ecx fb len k)) (congrArg nI (ecx_t c_43)) ?_
          refine cl_i hw [] rfl (rn_VS F hw (c_J0_charAt_5068e g l (ecx fb len k) (ecx_lt fb len k)) (cw_X0_19 F.2.2.2.2 ⟨by decide, by decide⟩) [] (by decide) rfl hl.1 rfl (Nat.le_of_ble_eq_true rfl) dX0_encode_87 ⟨Nat.zero_le _, Nat.zero_le _⟩) (fun _ => rfl) (fun v_8 u_7 H locs hp_9 hw => ?_)
          subst hp_9
          replace hw : Wd g s A H locs [(ba, iA g nb fb), (h0, .inr (4, [.ref h1, .int (nI k)])), (h1, iA g 40 (encF fb len f k))] := hw
          refine cl_v hw [1, 2] rfl (rn_V F hw (c_X5_addSign g l h0 h1 (encF fb len f k) k (kA (ecx fb len k)) (by omega)) (cw_X0_25 F.2.2.2.2 ⟨by decide, by decide⟩) [1, 2] (by decide) rfl 1 rfl rfl rfl hl.1 rfl (Nat.le_of_ble_eq_true rfl) dX0_encode_90 ⟨Nat.zero_le _, Nat.zero_le _⟩) (fun _ => rfl) (fun u_10 H locs hp_12 hw => ?_)
          replace hw : Wd g s A H locs [(ba, iA g nb fb), (h0, .inr (4, [.ref h1, .int (nI (k + 1))])), (h1, iA g 40 (upd (encF fb len f k) k (kA (ecx fb len k))))] := hw
          refine lv_iinc (v := nI (k + 1)) (lv' := [(4, .int (nI (k + 1))), (8, .int ((((fb ((6 * k) / 8)) <<< ((nI 8) &&& 31)) ||| (fb (((6 * k) / 8) + 1))))), (7, .int ((fb (((6 * k) / 8) + 1)))), (6, .int (nI ((6 * k) / 8))), (5, .int (nI (6 * k))), (0, .ref ba), (1, .int (nI len)), (2, .ref h0), (3, .int (nI (((8 * len) + 5) / 6)))]) hx hb dX0_encode_93 hl (k := 8) rfl (inc_n _ 1) (by decide) rfl (fun ls hl => ?_)
          refine lv_goto (tgt := 18) hx hb dX0_encode_96 (by decide) ?_
          exact ih (k + 1) (by omega) (by omega) _ _ _ hw (lv_sub hl [5, 6, 7, 8, 0] rfl)
  exact L_18 (((8 * len + 5) / 6) + 1) 0 (by omega) (by omega) _ _ _ hw (lv_sub hl [2, 3, 4, 1, 0] rfl)
