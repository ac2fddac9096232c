theorem vo_1 : ∀ c, c < 256 → 65 ≤ c → c ≤ 90 → nI (c - 65) = sx (nI c) := by decide +kernel
theorem vo_2 : ∀ c, c < 256 → 97 ≤ c → c ≤ 122 → nI (c - 97 + 26) = sx (nI c) := by decide +kernel
theorem vo_3 : ∀ c, c < 256 → 48 ≤ c → c ≤ 57 → nI (c - 48 + 52) = sx (nI c) := by decide +kernel
theorem vo_4a : ∀ c, c < 256 → ((65 ≤ c ∧ c ≤ 90) ∨ (97 ≤ c ∧ c ≤ 122) ∨ (48 ≤ c ∧ c ≤ 57) ∨ c = 45 ∨ c = 95 ∨ (-1 : Int32) = sx (nI c)) := by decide +kernel
theorem vo_4 (c : Nat) (h : c < 256) (h1 : c < 65 ∨ 90 < c) (h2 : c < 97 ∨ 122 < c) (h3 : c < 48 ∨ 57 < c) (h4 : ¬ c = 45) (h5 : ¬ c = 95) : (-1 : Int32) = sx (nI c) := by
  rcases vo_4a c h with h | h | h | h | h | h
  · omega
  · omega
  · omega
  · exact absurd h h4
  · exact absurd h h5
  · exact h
set_option maxHeartbeats 4000000 in
set_option maxRecDepth 100000 in
theorem c_X8_valueOf (g : GG) (l : Launch) (n : Nat) (hn : n < 256) : Ct g l yX8_valueOf cX8_valueOf 1 (some .int) 0 0 [.int (nI n)] [] (Ri g (fun (v : Int32) (u : Unit) => v = sx (nI n)) (fun (u : Unit) => [])) := by
  refine mkC (by decide) (Nat.le_of_ble_eq_true rfl) ?_
  intro p e s m args below meth c A ls QQ F hr hlk hnm hQ hw hl
  have hx := F.1
  have hb := F.2.1
  replace hl : lv_has ls 1 [(0, .int (nI n))] := hl
  refine lv_iload_n hx hb dX8_valueOf_0 rfl (lv_at hl 0 rfl) ?_
  refine lv_bipush (v := nI 65) hx hb dX8_valueOf_1 (by decide) ?_
  refine n_lt (tgt := 19) hx hb (by omega) (by omega) dX8_valueOf_3 (by decide) (fun c_3 => ?_) (fun c_3 => ?_)
  · refine lv_iload_n hx hb dX8_valueOf_19 rfl (lv_at hl 0 rfl) ?_
    refine lv_bipush (v := nI 97) hx hb dX8_valueOf_20 (by decide) ?_
    refine n_lt (tgt := 41) hx hb (by omega) (by omega) dX8_valueOf_22 (by decide) (fun c_22 => ?_) (fun c_22 => ?_)
    · refine lv_iload_n hx hb dX8_valueOf_41 rfl (lv_at hl 0 rfl) ?_
      refine lv_bipush (v := nI 48) hx hb dX8_valueOf_42 (by decide) ?_
      refine n_lt (tgt := 63) hx hb (by omega) (by omega) dX8_valueOf_44 (by decide) (fun c_44 => ?_) (fun c_44 => ?_)
      · refine lv_iload_n hx hb dX8_valueOf_63 rfl (lv_at hl 0 rfl) ?_
        refine lv_bipush (v := nI 45) hx hb dX8_valueOf_64 (by decide) ?_
        refine n_ne (tgt := 74) hx hb (by omega) (by omega) dX8_valueOf_66 (by decide) (fun c_66 => ?_) (fun c_66 => ?_)
        · refine lv_iload_n hx hb dX8_valueOf_74 rfl (lv_at hl 0 rfl) ?_
          refine lv_bipush (v := nI 95) hx hb dX8_valueOf_75 (by decide) ?_
          refine n_ne (tgt := 85) hx hb (by omega) (by omega) dX8_valueOf_77 (by decide) (fun c_77 => ?_) (fun c_77 => ?_)
          · refine lv_iconst (v := (-1)) hx hb dX8_valueOf_85 (by decide) ?_
            exact rt_i F hr hlk hQ hw () (by first | exact vo_1 n hn c_3 c_9 | exact vo_2 n hn c_22 c_28 | exact vo_3 n hn c_44 c_50 | (subst c_66; decide) | (subst c_77; decide) | exact vo_4 n hn (by omega) (by omega) (by omega) c_66 c_77) rfl dX8_valueOf_86
          · refine lv_bipush (v := nI 63) hx hb dX8_valueOf_80 (by decide) ?_
            refine lv_goto (tgt := 86) hx hb dX8_valueOf_82 (by decide) ?_
            exact rt_i F hr hlk hQ hw () (by first | exact vo_1 n hn c_3 c_9 | exact vo_2 n hn c_22 c_28 | exact vo_3 n hn c_44 c_50 | (subst c_66; decide) | (subst c_77; decide) | exact vo_4 n hn (by omega) (by omega) (by omega) c_66 c_77) rfl dX8_valueOf_86
        · refine lv_bipush (v := nI 62) hx hb dX8_valueOf_69 (by decide) ?_
          refine lv_goto (tgt := 86) hx hb dX8_valueOf_71 (by decide) ?_
          exact rt_i F hr hlk hQ hw () (by first | exact vo_1 n hn c_3 c_9 | exact vo_2 n hn c_22 c_28 | exact vo_3 n hn c_44 c_50 | (subst c_66; decide) | (subst c_77; decide) | exact vo_4 n hn (by omega) (by omega) (by omega) c_66 c_77) rfl dX8_valueOf_86
      · refine lv_iload_n hx hb dX8_valueOf_47 rfl (lv_at hl 0 rfl) ?_
        refine lv_bipush (v := nI 57) hx hb dX8_valueOf_48 (by decide) ?_
        refine n_gt (tgt := 63) hx hb (by omega) (by omega) dX8_valueOf_50 (by decide) (fun c_50 => ?_) (fun c_50 => ?_)
        · refine lv_iload_n hx hb dX8_valueOf_63 rfl (lv_at hl 0 rfl) ?_
          refine lv_bipush (v := nI 45) hx hb dX8_valueOf_64 (by decide) ?_
          refine n_ne (tgt := 74) hx hb (by omega) (by omega) dX8_valueOf_66 (by decide) (fun c_66 => ?_) (fun c_66 => ?_)
          · refine lv_iload_n hx hb dX8_valueOf_74 rfl (lv_at hl 0 rfl) ?_
            refine lv_bipush (v := nI 95) hx hb dX8_valueOf_75 (by decide) ?_
            refine n_ne (tgt := 85) hx hb (by omega) (by omega) dX8_valueOf_77 (by decide) (fun c_77 => ?_) (fun c_77 => ?_)
            · refine lv_iconst (v := (-1)) hx hb dX8_valueOf_85 (by decide) ?_
              exact rt_i F hr hlk hQ hw () (by first | exact vo_1 n hn c_3 c_9 | exact vo_2 n hn c_22 c_28 | exact vo_3 n hn c_44 c_50 | (subst c_66; decide) | (subst c_77; decide) | exact vo_4 n hn (by omega) (by omega) (by omega) c_66 c_77) rfl dX8_valueOf_86
            · refine lv_bipush (v := nI 63) hx hb dX8_valueOf_80 (by decide) ?_
              refine lv_goto (tgt := 86) hx hb dX8_valueOf_82 (by decide) ?_
              exact rt_i F hr hlk hQ hw () (by first | exact vo_1 n hn c_3 c_9 | exact vo_2 n hn c_22 c_28 | exact vo_3 n hn c_44 c_50 | (subst c_66; decide) | (subst c_77; decide) | exact vo_4 n hn (by omega) (by omega) (by omega) c_66 c_77) rfl dX8_valueOf_86
          · refine lv_bipush (v := nI 62) hx hb dX8_valueOf_69 (by decide) ?_
            refine lv_goto (tgt := 86) hx hb dX8_valueOf_71 (by decide) ?_
            exact rt_i F hr hlk hQ hw () (by first | exact vo_1 n hn c_3 c_9 | exact vo_2 n hn c_22 c_28 | exact vo_3 n hn c_44 c_50 | (subst c_66; decide) | (subst c_77; decide) | exact vo_4 n hn (by omega) (by omega) (by omega) c_66 c_77) rfl dX8_valueOf_86
        · refine lv_iload_n hx hb dX8_valueOf_53 rfl (lv_at hl 0 rfl) ?_
          refine lv_bipush (v := nI 48) hx hb dX8_valueOf_54 (by decide) ?_
          refine n_sub hx hb (by omega) dX8_valueOf_56 ?_
          refine lv_bipush (v := nI 52) hx hb dX8_valueOf_57 (by decide) ?_
          refine n_add hx hb dX8_valueOf_59 ?_
          refine lv_goto (tgt := 86) hx hb dX8_valueOf_60 (by decide) ?_
          exact rt_i F hr hlk hQ hw () (by first | exact vo_1 n hn c_3 c_9 | exact vo_2 n hn c_22 c_28 | exact vo_3 n hn c_44 c_50 | (subst c_66; decide) | (subst c_77; decide) | exact vo_4 n hn (by omega) (by omega) (by omega) c_66 c_77) rfl dX8_valueOf_86
    · refine lv_iload_n hx hb dX8_valueOf_25 rfl (lv_at hl 0 rfl) ?_
      refine lv_bipush (v := nI 122) hx hb dX8_valueOf_26 (by decide) ?_
      refine n_gt (tgt := 41) hx hb (by omega) (by omega) dX8_valueOf_28 (by decide) (fun c_28 => ?_) (fun c_28 => ?_)
      · refine lv_iload_n hx hb dX8_valueOf_41 rfl (lv_at hl 0 rfl) ?_
        refine lv_bipush (v := nI 48) hx hb dX8_valueOf_42 (by decide) ?_
        refine n_lt (tgt := 63) hx hb (by omega) (by omega) dX8_valueOf_44 (by decide) (fun c_44 => ?_) (fun c_44 => ?_)
        · refine lv_iload_n hx hb dX8_valueOf_63 rfl (lv_at hl 0 rfl) ?_
          refine lv_bipush (v := nI 45) hx hb dX8_valueOf_64 (by decide) ?_
          refine n_ne (tgt := 74) hx hb (by omega) (by omega) dX8_valueOf_66 (by decide) (fun c_66 => ?_) (fun c_66 => ?_)
          · refine lv_iload_n hx hb dX8_valueOf_74 rfl (lv_at hl 0 rfl) ?_
            refine lv_bipush (v := nI 95) hx hb dX8_valueOf_75 (by decide) ?_
            refine n_ne (tgt := 85) hx hb (by omega) (by omega) dX8_valueOf_77 (by decide) (fun c_77 => ?_) (fun c_77 => ?_)
            · refine lv_iconst (v := (-1)) hx hb dX8_valueOf_85 (by decide) ?_
              exact rt_i F hr hlk hQ hw () (by first | exact vo_1 n hn c_3 c_9 | exact vo_2 n hn c_22 c_28 | exact vo_3 n hn c_44 c_50 | (subst c_66; decide) | (subst c_77; decide) | exact vo_4 n hn (by omega) (by omega) (by omega) c_66 c_77) rfl dX8_valueOf_86
            · refine lv_bipush (v := nI 63) hx hb dX8_valueOf_80 (by decide) ?_
              refine lv_goto (tgt := 86) hx hb dX8_valueOf_82 (by decide) ?_
              exact rt_i F hr hlk hQ hw () (by first | exact vo_1 n hn c_3 c_9 | exact vo_2 n hn c_22 c_28 | exact vo_3 n hn c_44 c_50 | (subst c_66; decide) | (subst c_77; decide) | exact vo_4 n hn (by omega) (by omega) (by omega) c_66 c_77) rfl dX8_valueOf_86
          · refine lv_bipush (v := nI 62) hx hb dX8_valueOf_69 (by decide) ?_
            refine lv_goto (tgt := 86) hx hb dX8_valueOf_71 (by decide) ?_
            exact rt_i F hr hlk hQ hw () (by first | exact vo_1 n hn c_3 c_9 | exact vo_2 n hn c_22 c_28 | exact vo_3 n hn c_44 c_50 | (subst c_66; decide) | (subst c_77; decide) | exact vo_4 n hn (by omega) (by omega) (by omega) c_66 c_77) rfl dX8_valueOf_86
        · refine lv_iload_n hx hb dX8_valueOf_47 rfl (lv_at hl 0 rfl) ?_
          refine lv_bipush (v := nI 57) hx hb dX8_valueOf_48 (by decide) ?_
          refine n_gt (tgt := 63) hx hb (by omega) (by omega) dX8_valueOf_50 (by decide) (fun c_50 => ?_) (fun c_50 => ?_)
          · refine lv_iload_n hx hb dX8_valueOf_63 rfl (lv_at hl 0 rfl) ?_
            refine lv_bipush (v := nI 45) hx hb dX8_valueOf_64 (by decide) ?_
            refine n_ne (tgt := 74) hx hb (by omega) (by omega) dX8_valueOf_66 (by decide) (fun c_66 => ?_) (fun c_66 => ?_)
            · refine lv_iload_n hx hb dX8_valueOf_74 rfl (lv_at hl 0 rfl) ?_
              refine lv_bipush (v := nI 95) hx hb dX8_valueOf_75 (by decide) ?_
              refine n_ne (tgt := 85) hx hb (by omega) (by omega) dX8_valueOf_77 (by decide) (fun c_77 => ?_) (fun c_77 => ?_)
              · refine lv_iconst (v := (-1)) hx hb dX8_valueOf_85 (by decide) ?_
                exact rt_i F hr hlk hQ hw () (by first | exact vo_1 n hn c_3 c_9 | exact vo_2 n hn c_22 c_28 | exact vo_3 n hn c_44 c_50 | (subst c_66; decide) | (subst c_77; decide) | exact vo_4 n hn (by omega) (by omega) (by omega) c_66 c_77) rfl dX8_valueOf_86
              · refine lv_bipush (v := nI 63) hx hb dX8_valueOf_80 (by decide) ?_
                refine lv_goto (tgt := 86) hx hb dX8_valueOf_82 (by decide) ?_
                exact rt_i F hr hlk hQ hw () (by first | exact vo_1 n hn c_3 c_9 | exact vo_2 n hn c_22 c_28 | exact vo_3 n hn c_44 c_50 | (subst c_66; decide) | (subst c_77; decide) | exact vo_4 n hn (by omega) (by omega) (by omega) c_66 c_77) rfl dX8_valueOf_86
            · refine lv_bipush (v := nI 62) hx hb dX8_valueOf_69 (by decide) ?_
              refine lv_goto (tgt := 86) hx hb dX8_valueOf_71 (by decide) ?_
              exact rt_i F hr hlk hQ hw () (by first | exact vo_1 n hn c_3 c_9 | exact vo_2 n hn c_22 c_28 | exact vo_3 n hn c_44 c_50 | (subst c_66; decide) | (subst c_77; decide) | exact vo_4 n hn (by omega) (by omega) (by omega) c_66 c_77) rfl dX8_valueOf_86
          · refine lv_iload_n hx hb dX8_valueOf_53 rfl (lv_at hl 0 rfl) ?_
            refine lv_bipush (v := nI 48) hx hb dX8_valueOf_54 (by decide) ?_
            refine n_sub hx hb (by omega) dX8_valueOf_56 ?_
            refine lv_bipush (v := nI 52) hx hb dX8_valueOf_57 (by decide) ?_
            refine n_add hx hb dX8_valueOf_59 ?_
            refine lv_goto (tgt := 86) hx hb dX8_valueOf_60 (by decide) ?_
            exact rt_i F hr hlk hQ hw () (by first | exact vo_1 n hn c_3 c_9 | exact vo_2 n hn c_22 c_28 | exact vo_3 n hn c_44 c_50 | (subst c_66; decide) | (subst c_77; decide) | exact vo_4 n hn (by omega) (by omega) (by omega) c_66 c_77) rfl dX8_valueOf_86
      · refine lv_iload_n hx hb dX8_valueOf_31 rfl (lv_at hl 0 rfl) ?_
        refine lv_bipush (v := nI 97) hx hb dX8_valueOf_32 (by decide) ?_
        refine n_sub hx hb (by omega) dX8_valueOf_34 ?_
        refine lv_bipush (v := nI 26) hx hb dX8_valueOf_35 (by decide) ?_
        refine n_add hx hb dX8_valueOf_37 ?_
        refine lv_goto (tgt := 86) hx hb dX8_valueOf_38 (by decide) ?_
        exact rt_i F hr hlk hQ hw () (by first | exact vo_1 n hn c_3 c_9 | exact vo_2 n hn c_22 c_28 | exact vo_3 n hn c_44 c_50 | (subst c_66; decide) | (subst c_77; decide) | exact vo_4 n hn (by omega) (by omega) (by omega) c_66 c_77) rfl dX8_valueOf_86
  · refine lv_iload_n hx hb dX8_valueOf_6 rfl (lv_at hl 0 rfl) ?_
    refine lv_bipush (v := nI 90) hx hb dX8_valueOf_7 (by decide) ?_
    refine n_gt (tgt := 19) hx hb (by omega) (by omega) dX8_valueOf_9 (by decide) (fun c_9 => ?_) (fun c_9 => ?_)
    · refine lv_iload_n hx hb dX8_valueOf_19 rfl (lv_at hl 0 rfl) ?_
      refine lv_bipush (v := nI 97) hx hb dX8_valueOf_20 (by decide) ?_
      refine n_lt (tgt := 41) hx hb (by omega) (by omega) dX8_valueOf_22 (by decide) (fun c_22 => ?_) (fun c_22 => ?_)
      · refine lv_iload_n hx hb dX8_valueOf_41 rfl (lv_at hl 0 rfl) ?_
        refine lv_bipush (v := nI 48) hx hb dX8_valueOf_42 (by decide) ?_
        refine n_lt (tgt := 63) hx hb (by omega) (by omega) dX8_valueOf_44 (by decide) (fun c_44 => ?_) (fun c_44 => ?_)
        · refine lv_iload_n hx hb dX8_valueOf_63 rfl (lv_at hl 0 rfl) ?_
          refine lv_bipush (v := nI 45) hx hb dX8_valueOf_64 (by decide) ?_
          refine n_ne (tgt := 74) hx hb (by omega) (by omega) dX8_valueOf_66 (by decide) (fun c_66 => ?_) (fun c_66 => ?_)
          · refine lv_iload_n hx hb dX8_valueOf_74 rfl (lv_at hl 0 rfl) ?_
            refine lv_bipush (v := nI 95) hx hb dX8_valueOf_75 (by decide) ?_
            refine n_ne (tgt := 85) hx hb (by omega) (by omega) dX8_valueOf_77 (by decide) (fun c_77 => ?_) (fun c_77 => ?_)
            · refine lv_iconst (v := (-1)) hx hb dX8_valueOf_85 (by decide) ?_
              exact rt_i F hr hlk hQ hw () (by first | exact vo_1 n hn c_3 c_9 | exact vo_2 n hn c_22 c_28 | exact vo_3 n hn c_44 c_50 | (subst c_66; decide) | (subst c_77; decide) | exact vo_4 n hn (by omega) (by omega) (by omega) c_66 c_77) rfl dX8_valueOf_86
            · refine lv_bipush (v := nI 63) hx hb dX8_valueOf_80 (by decide) ?_
              refine lv_goto (tgt := 86) hx hb dX8_valueOf_82 (by decide) ?_
              exact rt_i F hr hlk hQ hw () (by first | exact vo_1 n hn c_3 c_9 | exact vo_2 n hn c_22 c_28 | exact vo_3 n hn c_44 c_50 | (subst c_66; decide) | (subst c_77; decide) | exact vo_4 n hn (by omega) (by omega) (by omega) c_66 c_77) rfl dX8_valueOf_86
          · refine lv_bipush (v := nI 62) hx hb dX8_valueOf_69 (by decide) ?_
            refine lv_goto (tgt := 86) hx hb dX8_valueOf_71 (by decide) ?_
            exact rt_i F hr hlk hQ hw () (by first | exact vo_1 n hn c_3 c_9 | exact vo_2 n hn c_22 c_28 | exact vo_3 n hn c_44 c_50 | (subst c_66; decide) | (subst c_77; decide) | exact vo_4 n hn (by omega) (by omega) (by omega) c_66 c_77) rfl dX8_valueOf_86
        · refine lv_iload_n hx hb dX8_valueOf_47 rfl (lv_at hl 0 rfl) ?_
          refine lv_bipush (v := nI 57) hx hb dX8_valueOf_48 (by decide) ?_
          refine n_gt (tgt := 63) hx hb (by omega) (by omega) dX8_valueOf_50 (by decide) (fun c_50 => ?_) (fun c_50 => ?_)
          · refine lv_iload_n hx hb dX8_valueOf_63 rfl (lv_at hl 0 rfl) ?_
            refine lv_bipush (v := nI 45) hx hb dX8_valueOf_64 (by decide) ?_
            refine n_ne (tgt := 74) hx hb (by omega) (by omega) dX8_valueOf_66 (by decide) (fun c_66 => ?_) (fun c_66 => ?_)
            · refine lv_iload_n hx hb dX8_valueOf_74 rfl (lv_at hl 0 rfl) ?_
              refine lv_bipush (v := nI 95) hx hb dX8_valueOf_75 (by decide) ?_
              refine n_ne (tgt := 85) hx hb (by omega) (by omega) dX8_valueOf_77 (by decide) (fun c_77 => ?_) (fun c_77 => ?_)
              · refine lv_iconst (v := (-1)) hx hb dX8_valueOf_85 (by decide) ?_
                exact rt_i F hr hlk hQ hw () (by first | exact vo_1 n hn c_3 c_9 | exact vo_2 n hn c_22 c_28 | exact vo_3 n hn c_44 c_50 | (subst c_66; decide) | (subst c_77; decide) | exact vo_4 n hn (by omega) (by omega) (by omega) c_66 c_77) rfl dX8_valueOf_86
              · refine lv_bipush (v := nI 63) hx hb dX8_valueOf_80 (by decide) ?_
                refine lv_goto (tgt := 86) hx hb dX8_valueOf_82 (by decide) ?_
                exact rt_i F hr hlk hQ hw () (by first | exact vo_1 n hn c_3 c_9 | exact vo_2 n hn c_22 c_28 | exact vo_3 n hn c_44 c_50 | (subst c_66; decide) | (subst c_77; decide) | exact vo_4 n hn (by omega) (by omega) (by omega) c_66 c_77) rfl dX8_valueOf_86
            · refine lv_bipush (v := nI 62) hx hb dX8_valueOf_69 (by decide) ?_
              refine lv_goto (tgt := 86) hx hb dX8_valueOf_71 (by decide) ?_
              exact rt_i F hr hlk hQ hw () (by first | exact vo_1 n hn c_3 c_9 | exact vo_2 n hn c_22 c_28 | exact vo_3 n hn c_44 c_50 | (subst c_66; decide) | (subst c_77; decide) | exact vo_4 n hn (by omega) (by omega) (by omega) c_66 c_77) rfl dX8_valueOf_86
          · refine lv_iload_n hx hb dX8_valueOf_53 rfl (lv_at hl 0 rfl) ?_
            refine lv_bipush (v := nI 48) hx hb dX8_valueOf_54 (by decide) ?_
            refine n_sub hx hb (by omega) dX8_valueOf_56 ?_
            refine lv_bipush (v := nI 52) hx hb dX8_valueOf_57 (by decide) ?_
            refine n_add hx hb dX8_valueOf_59 ?_
            refine lv_goto (tgt := 86) hx hb dX8_valueOf_60 (by decide) ?_
            exact rt_i F hr hlk hQ hw () (by first | exact vo_1 n hn c_3 c_9 | exact vo_2 n hn c_22 c_28 | exact vo_3 n hn c_44 c_50 | (subst c_66; decide) | (subst c_77; decide) | exact vo_4 n hn (by omega) (by omega) (by omega) c_66 c_77) rfl dX8_valueOf_86
      · refine lv_iload_n hx hb dX8_valueOf_25 rfl (lv_at hl 0 rfl) ?_
        refine lv_bipush (v := nI 122) hx hb dX8_valueOf_26 (by decide) ?_
        refine n_gt (tgt := 41) hx hb (by omega) (by omega) dX8_valueOf_28 (by decide) (fun c_28 => ?_) (fun c_28 => ?_)
        · refine lv_iload_n hx hb dX8_valueOf_41 rfl (lv_at hl 0 rfl) ?_
          refine lv_bipush (v := nI 48) hx hb dX8_valueOf_42 (by decide) ?_
          refine n_lt (tgt := 63) hx hb (by omega) (by omega) dX8_valueOf_44 (by decide) (fun c_44 => ?_) (fun c_44 => ?_)
          · refine lv_iload_n hx hb dX8_valueOf_63 rfl (lv_at hl 0 rfl) ?_
            refine lv_bipush (v := nI 45) hx hb dX8_valueOf_64 (by decide) ?_
            refine n_ne (tgt := 74) hx hb (by omega) (by omega) dX8_valueOf_66 (by decide) (fun c_66 => ?_) (fun c_66 => ?_)
            · refine lv_iload_n hx hb dX8_valueOf_74 rfl (lv_at hl 0 rfl) ?_
              refine lv_bipush (v := nI 95) hx hb dX8_valueOf_75 (by decide) ?_
              refine n_ne (tgt := 85) hx hb (by omega) (by omega) dX8_valueOf_77 (by decide) (fun c_77 => ?_) (fun c_77 => ?_)
              · refine lv_iconst (v := (-1)) hx hb dX8_valueOf_85 (by decide) ?_
                exact rt_i F hr hlk hQ hw () (by first | exact vo_1 n hn c_3 c_9 | exact vo_2 n hn c_22 c_28 | exact vo_3 n hn c_44 c_50 | (subst c_66; decide) | (subst c_77; decide) | exact vo_4 n hn (by omega) (by omega) (by omega) c_66 c_77) rfl dX8_valueOf_86
              · refine lv_bipush (v := nI 63) hx hb dX8_valueOf_80 (by decide) ?_
                refine lv_goto (tgt := 86) hx hb dX8_valueOf_82 (by decide) ?_
                exact rt_i F hr hlk hQ hw () (by first | exact vo_1 n hn c_3 c_9 | exact vo_2 n hn c_22 c_28 | exact vo_3 n hn c_44 c_50 | (subst c_66; decide) | (subst c_77; decide) | exact vo_4 n hn (by omega) (by omega) (by omega) c_66 c_77) rfl dX8_valueOf_86
            · refine lv_bipush (v := nI 62) hx hb dX8_valueOf_69 (by decide) ?_
              refine lv_goto (tgt := 86) hx hb dX8_valueOf_71 (by decide) ?_
              exact rt_i F hr hlk hQ hw () (by first | exact vo_1 n hn c_3 c_9 | exact vo_2 n hn c_22 c_28 | exact vo_3 n hn c_44 c_50 | (subst c_66; decide) | (subst c_77; decide) | exact vo_4 n hn (by omega) (by omega) (by omega) c_66 c_77) rfl dX8_valueOf_86
          · refine lv_iload_n hx hb dX8_valueOf_47 rfl (lv_at hl 0 rfl) ?_
            refine lv_bipush (v := nI 57) hx hb dX8_valueOf_48 (by decide) ?_
            refine n_gt (tgt := 63) hx hb (by omega) (by omega) dX8_valueOf_50 (by decide) (fun c_50 => ?_) (fun c_50 => ?_)
            · refine lv_iload_n hx hb dX8_valueOf_63 rfl (lv_at hl 0 rfl) ?_
              refine lv_bipush (v := nI 45) hx hb dX8_valueOf_64 (by decide) ?_
              refine n_ne (tgt := 74) hx hb (by omega) (by omega) dX8_valueOf_66 (by decide) (fun c_66 => ?_) (fun c_66 => ?_)
              · refine lv_iload_n hx hb dX8_valueOf_74 rfl (lv_at hl 0 rfl) ?_
                refine lv_bipush (v := nI 95) hx hb dX8_valueOf_75 (by decide) ?_
                refine n_ne (tgt := 85) hx hb (by omega) (by omega) dX8_valueOf_77 (by decide) (fun c_77 => ?_) (fun c_77 => ?_)
                · refine lv_iconst (v := (-1)) hx hb dX8_valueOf_85 (by decide) ?_
                  exact rt_i F hr hlk hQ hw () (by first | exact vo_1 n hn c_3 c_9 | exact vo_2 n hn c_22 c_28 | exact vo_3 n hn c_44 c_50 | (subst c_66; decide) | (subst c_77; decide) | exact vo_4 n hn (by omega) (by omega) (by omega) c_66 c_77) rfl dX8_valueOf_86
                · refine lv_bipush (v := nI 63) hx hb dX8_valueOf_80 (by decide) ?_
                  refine lv_goto (tgt := 86) hx hb dX8_valueOf_82 (by decide) ?_
                  exact rt_i F hr hlk hQ hw () (by first | exact vo_1 n hn c_3 c_9 | exact vo_2 n hn c_22 c_28 | exact vo_3 n hn c_44 c_50 | (subst c_66; decide) | (subst c_77; decide) | exact vo_4 n hn (by omega) (by omega) (by omega) c_66 c_77) rfl dX8_valueOf_86
              · refine lv_bipush (v := nI 62) hx hb dX8_valueOf_69 (by decide) ?_
                refine lv_goto (tgt := 86) hx hb dX8_valueOf_71 (by decide) ?_
                exact rt_i F hr hlk hQ hw () (by first | exact vo_1 n hn c_3 c_9 | exact vo_2 n hn c_22 c_28 | exact vo_3 n hn c_44 c_50 | (subst c_66; decide) | (subst c_77; decide) | exact vo_4 n hn (by omega) (by omega) (by omega) c_66 c_77) rfl dX8_valueOf_86
            · refine lv_iload_n hx hb dX8_valueOf_53 rfl (lv_at hl 0 rfl) ?_
              refine lv_bipush (v := nI 48) hx hb dX8_valueOf_54 (by decide) ?_
              refine n_sub hx hb (by omega) dX8_valueOf_56 ?_
              refine lv_bipush (v := nI 52) hx hb dX8_valueOf_57 (by decide) ?_
              refine n_add hx hb dX8_valueOf_59 ?_
              refine lv_goto (tgt := 86) hx hb dX8_valueOf_60 (by decide) ?_
              exact rt_i F hr hlk hQ hw () (by first | exact vo_1 n hn c_3 c_9 | exact vo_2 n hn c_22 c_28 | exact vo_3 n hn c_44 c_50 | (subst c_66; decide) | (subst c_77; decide) | exact vo_4 n hn (by omega) (by omega) (by omega) c_66 c_77) rfl dX8_valueOf_86
        · refine lv_iload_n hx hb dX8_valueOf_31 rfl (lv_at hl 0 rfl) ?_
          refine lv_bipush (v := nI 97) hx hb dX8_valueOf_32 (by decide) ?_
          refine n_sub hx hb (by omega) dX8_valueOf_34 ?_
          refine lv_bipush (v := nI 26) hx hb dX8_valueOf_35 (by decide) ?_
          refine n_add hx hb dX8_valueOf_37 ?_
          refine lv_goto (tgt := 86) hx hb dX8_valueOf_38 (by decide) ?_
          exact rt_i F hr hlk hQ hw () (by first | exact vo_1 n hn c_3 c_9 | exact vo_2 n hn c_22 c_28 | exact vo_3 n hn c_44 c_50 | (subst c_66; decide) | (subst c_77; decide) | exact vo_4 n hn (by omega) (by omega) (by omega) c_66 c_77) rfl dX8_valueOf_86
    · refine lv_iload_n hx hb dX8_valueOf_12 rfl (lv_at hl 0 rfl) ?_
      refine lv_bipush (v := nI 65) hx hb dX8_valueOf_13 (by decide) ?_
      refine n_sub hx hb (by omega) dX8_valueOf_15 ?_
      refine lv_goto (tgt := 86) hx hb dX8_valueOf_16 (by decide) ?_
      exact rt_i F hr hlk hQ hw () (by first | exact vo_1 n hn c_3 c_9 | exact vo_2 n hn c_22 c_28 | exact vo_3 n hn c_44 c_50 | (subst c_66; decide) | (subst c_77; decide) | exact vo_4 n hn (by omega) (by omega) (by omega) c_66 c_77) rfl dX8_valueOf_86
def zzF (f0 : Nat → Int32) : Nat → Nat → Int32
  | 0 => f0
  | k + 1 => upd (zzF f0 k) k (nI 0)
theorem zzF_get (f0 : Nat → Int32) : ∀ k t, t < k → zzF f0 k t = nI 0 := by
  intro k
  induction k with
  | zero => intro t h; omega
  | succ k ih =>
    intro t h
    show upd (zzF f0 k) k (nI 0) t = _
    by_cases e : t = k
    · subst e; rw [upd_s]
    · rw [upd_n _ _ e]; exact ih t (by omega)
/-- six bits of the sign at k go into raw -/
def riB (x : Int32) (k : Nat) (f : Nat → Int32) : Nat → Nat → Int32
  | 0 => f
  | i + 1 => upd (riB x k f i) ((6 * k + i) / 8) (riB x k f i ((6 * k + i) / 8) ||| (((x >>> (nI (5 - i) &&& 31)) &&& nI 1) <<< (nI (7 - (6 * k + i) % 8) &&& 31)))
def roB (tx f : Nat → Int32) : Nat → Nat → Int32
  | 0 => f
  | k + 1 => riB (sx (tx k)) k (roB tx f k) 6
def isFM (s0 : Nat) (tx : Nat → Int32) (r : Nat → Int32) : Prop := s0 = 30 ∧ (∀ i, i < 30 → 0 ≤ sx (tx i)) ∧ roB tx (zzF r 24) 30 22 = 0
set_option maxHeartbeats 4000000 in
set_option maxRecDepth 100000 in
theorem c_X8_isForm (g : GG) (l : Launch) (md : Nat → Nat) (mfa : Int32) (mmz : Nat) (msz : Nat) (mnow : Int64) (mgr : Int64) (mmo : Int64) (mre : Int64) (msd : Int64) (mbg : Int64) (mky : Nat) (mli : Int32) (mrf : Int32) (mrn : Int32) (mka : Int32) (mta : Nat → Int32) (mwd : Nat → Int32) (mms : Nat → Int32) (mhs : Nat → Int32) (mke : Nat → Int32) (msa : Nat → Int32) (mkn : Nat → Int32) (mkb : Nat → Int32) (mku : Nat → Int64) (mhp : Nat → Int32) (mpa : Nat → Int32) (mpb : Nat → Int32) (mit : Nat → Int32) (mus : Nat → Int32) (mid : Nat → Int64) (mbe : Nat → Int64) (mla : Nat → Int64) (msi : Nat → Int32) (mtx : Nat → Int32) (mra : Nat → Int32) (s0 : Nat) (hs0 : msi 0 = nI s0) (hl0 : s0 ≤ 40) (hB : ∀ i, i < s0 → (mtx i).toBitVec.toNat < 256) : Ct g l yX8_isForm cX8_isForm 5 (some .boolean) 1 20 [.ref (md 0)] (mX g md mfa mmz msz mnow mgr mmo mre msd mbg mky mli mrf mrn mka mta mwd mms mhs mke msa mkn mkb mku mhp mpa mpb mit mus mid mbe mla msi mtx mra) (Ri g (fun (v : Int32) (u : Nat → Int32) => (v = nI 1 ∧ isFM s0 mtx mra ∧ u = roB mtx (zzF mra 24) 30) ∨ (v = nI 0 ∧ ¬ isFM s0 mtx mra)) (fun (u : Nat → Int32) => (mX g md mfa mmz msz mnow mgr mmo mre msd mbg mky mli mrf mrn mka mta mwd mms mhs mke msa mkn mkb mku mhp mpa mpb mit mus mid mbe mla msi mtx u))) := by
  refine mkC (by decide) (Nat.le_of_ble_eq_true rfl) ?_
  intro p e s m args below meth c A ls QQ F hr hlk hnm hQ hw hl
  have hx := F.1
  have hb := F.2.1
  replace hl : lv_has ls 5 [(0, .ref (md 0))] := hl
  refine lv_aload_n hx hb dX8_isForm_0 rfl (lv_at hl 0 rfl) ?_
  refine gf_X8_157 F hw 0 rfl rfl dX8_isForm_1 ?_
  refine lv_iconst (v := nI 0) hx hb dX8_isForm_4 (by decide) ?_
  refine ia_ld F hw 20 rfl (by omega) (by omega) dX8_isForm_5 ?_
  refine tp_i (y := nI s0) hs0 ?_
  refine lv_bipush (v := nI 30) hx hb dX8_isForm_6 (by decide) ?_
  refine n_eq (tgt := 13) hx hb (by omega) (by omega) dX8_isForm_8 (by decide) (fun c_8 => ?_) (fun c_8 => ?_)
  · refine lv_iconst (v := nI 0) hx hb dX8_isForm_13 (by decide) ?_
    refine lv_istore_n (lv' := [(1, .int (nI 0)), (0, .ref (md 0))]) hx hb dX8_isForm_14 rfl hl (by decide) rfl (fun ls hl => ?_)
    have L_15 : ∀ (nn a : Nat), a ≤ 24 → 24 < a + nn → ∀ (H : Heap) (locs : List Loc) (ls : Array Slot), Wd g s A H locs (mX g md mfa mmz msz mnow mgr mmo mre msd mbg mky mli mrf mrn mka mta mwd mms mhs mke msa mkn mkb mku mhp mpa mpb mit mus mid mbe mla msi mtx (zzF mra a)) → lv_has ls 5 [(0, .ref (md 0)), (1, .int (nI a))] → W p l e (rmm 1 20) s m args below meth c H locs 0 0 QQ (F0 m 15 ls []) := by
      intro nn
      induction nn with
      | zero => intro a h1 h2; exact absurd h2 (by omega)
      | succ nn ih =>
        intro a hk_a hn_a H locs ls hw hl
        refine lv_iload_n hx hb dX8_isForm_15 rfl (lv_at hl 1 rfl) ?_
        refine lv_bipush (v := nI 24) hx hb dX8_isForm_16 (by decide) ?_
        refine n_ge (tgt := 34) hx hb (by omega) (by omega) dX8_isForm_18 (by decide) (fun c_18 => ?_) (fun c_18 => ?_)
        · obtain rfl : a = 24 := by omega
          refine lv_iconst (v := nI 0) hx hb dX8_isForm_34 (by decide) ?_
          refine lv_istore_n (lv' := [(1, .int (nI 0)), (0, .ref (md 0))]) hx hb dX8_isForm_35 rfl hl (by decide) rfl (fun ls hl => ?_)
          have L_36 : ∀ (nn k : Nat), k ≤ 30 → 30 < k + nn → ∀ (H : Heap) (locs : List Loc) (ls : Array Slot), (∀ i, i < k → 0 ≤ sx (mtx i)) → Wd g s A H locs (mX g md mfa mmz msz mnow mgr mmo mre msd mbg mky mli mrf mrn mka mta mwd mms mhs mke msa mkn mkb mku mhp mpa mpb mit mus mid mbe mla msi mtx (roB mtx (zzF mra 24) k)) → lv_has ls 5 [(0, .ref (md 0)), (1, .int (nI k))] → W p l e (rmm 1 20) s m args below meth c H locs 0 0 QQ (F0 m 36 ls []) := by
            intro nn
            induction nn with
            | zero => intro k h1 h2; exact absurd h2 (by omega)
            | succ nn ih =>
              intro k hk_k hn_k H locs ls hi_k_0 hw hl
              refine lv_iload_n hx hb dX8_isForm_36 rfl (lv_at hl 1 rfl) ?_
              refine lv_bipush (v := nI 30) hx hb dX8_isForm_37 (by decide) ?_
              refine n_ge (tgt := 123) hx hb (by omega) (by omega) dX8_isForm_39 (by decide) (fun c_39 => ?_) (fun c_39 => ?_)
              · obtain rfl : k = 30 := by omega
                refine lv_aload_n hx hb dX8_isForm_123 rfl (lv_at hl 0 rfl) ?_
                refine gf_X8_163 F hw 0 rfl rfl dX8_isForm_124 ?_
                refine lv_bipush (v := nI 22) hx hb dX8_isForm_127 (by decide) ?_
                refine ia_ld F hw 22 rfl (by omega) (by omega) dX8_isForm_129 ?_
                refine lv_if_ne (tgt := 137) hx hb dX8_isForm_130 (by decide) (fun c_130 => ?_) (fun c_130 => ?_)
                · refine lv_iconst (v := nI 0) hx hb dX8_isForm_137 (by decide) ?_
                  exact rt_z F hr rfl hlk hQ hw (roB mtx (zzF mra 24) 30) (by first | exact Or.inl ⟨rfl, ⟨c_8, hi_k_0, c_130⟩, rfl⟩ | exact Or.inr ⟨rfl, fun h => c_130 h.2.2⟩) rfl dX8_isForm_138
                · refine lv_iconst (v := nI 1) hx hb dX8_isForm_133 (by decide) ?_
                  refine lv_goto (tgt := 138) hx hb dX8_isForm_134 (by decide) ?_
                  exact rt_z F hr rfl hlk hQ hw (roB mtx (zzF mra 24) 30) (by first | exact Or.inl ⟨rfl, ⟨c_8, hi_k_0, c_130⟩, rfl⟩ | exact Or.inr ⟨rfl, fun h => c_130 h.2.2⟩) rfl dX8_isForm_138
              · refine lv_aload_n hx hb dX8_isForm_42 rfl (lv_at hl 0 rfl) ?_
                refine gf_X8_160 F hw 0 rfl rfl dX8_isForm_43 ?_
                refine lv_iload_n hx hb dX8_isForm_46 rfl (lv_at hl 1 rfl) ?_
                refine ia_ld F hw 21 rfl (by omega) (by omega) dX8_isForm_47 ?_
                refine tp_i (y := nI ((mtx k).toBitVec.toNat)) (n_of _).symm ?_
                refine cl_i hw [] rfl (rn_S F hw (c_X8_valueOf g l ((mtx k).toBitVec.toNat) (hB k (by omega))) (cw_X8_251 F.2.2.2.2 ⟨by decide, by decide⟩) [] (by decide) rfl hl.1 rfl (Nat.le_of_ble_eq_true rfl) dX8_isForm_48 ⟨Nat.zero_le _, Nat.zero_le _⟩) (fun _ => rfl) (fun v_2 u_1 H locs hp_3 hw => ?_)
                subst hp_3
                replace hw : Wd g s A H locs (mX g md mfa mmz msz mnow mgr mmo mre msd mbg mky mli mrf mrn mka mta mwd mms mhs mke msa mkn mkb mku mhp mpa mpb mit mus mid mbe mla msi mtx (roB mtx (zzF mra 24) k)) := hw
                refine tp_i (y := sx (mtx k)) (by rw [n_of]) ?_
                refine lv_istore_n (lv' := [(2, .int ((sx (mtx k)))), (0, .ref (md 0)), (1, .int (nI k))]) hx hb dX8_isForm_51 rfl hl (by decide) rfl (fun ls hl => ?_)
                refine lv_iload_n hx hb dX8_isForm_52 rfl (lv_at hl 0 rfl) ?_
                refine lv_if_ge (tgt := 58) hx hb dX8_isForm_53 (by decide) (fun c_53 => ?_) (fun c_53 => ?_)
                · refine lv_iconst (v := nI 0) hx hb dX8_isForm_58 (by decide) ?_
                  refine lv_istore_n (lv' := [(3, .int (nI 0)), (2, .int ((sx (mtx k)))), (0, .ref (md 0)), (1, .int (nI k))]) hx hb dX8_isForm_59 rfl hl (by decide) rfl (fun ls hl => ?_)
                  have L_60 : ∀ (nn i : Nat), i ≤ 6 → 6 < i + nn → ∀ (H : Heap) (locs : List Loc) (ls : Array Slot), Wd g s A H locs (mX g md mfa mmz msz mnow mgr mmo mre msd mbg mky mli mrf mrn mka mta mwd mms mhs mke msa mkn mkb mku mhp mpa mpb mit mus mid mbe mla msi mtx (riB (sx (mtx k)) k (roB mtx (zzF mra 24) k) i)) → lv_has ls 5 [(0, .ref (md 0)), (1, .int (nI k)), (2, .int ((sx (mtx k)))), (3, .int (nI i))] → W p l e (rmm 1 20) s m args below meth c H locs 0 0 QQ (F0 m 60 ls []) := by
                    intro nn
                    induction nn with
                    | zero => intro i h1 h2; exact absurd h2 (by omega)
                    | succ nn ih2 =>
                      intro i hk_i hn_i H locs ls hw hl
                      refine lv_iload_n hx hb dX8_isForm_60 rfl (lv_at hl 3 rfl) ?_
                      refine lv_bipush (v := nI 6) hx hb dX8_isForm_61 (by decide) ?_
                      refine n_ge (tgt := 117) hx hb (by omega) (by omega) dX8_isForm_63 (by decide) (fun c_63 => ?_) (fun c_63 => ?_)
                      · obtain rfl : i = 6 := by omega
                        refine lv_iinc (v := nI (k + 1)) (lv' := [(1, .int (nI (k + 1))), (0, .ref (md 0)), (2, .int ((sx (mtx k)))), (3, .int (nI 6))]) hx hb dX8_isForm_117 hl (k := 1) rfl (inc_n _ 1) (by decide) rfl (fun ls hl => ?_)
                        refine lv_goto (tgt := 36) hx hb dX8_isForm_120 (by decide) ?_
                        exact ih (k + 1) (by omega) (by omega) _ _ _ (lt_s hi_k_0 c_53) hw (lv_sub hl [1, 0] rfl)
                      · refine lv_bipush (v := nI 6) hx hb dX8_isForm_66 (by decide) ?_
                        refine lv_iload_n hx hb dX8_isForm_68 rfl (lv_at hl 1 rfl) ?_
                        refine n_mul hx hb dX8_isForm_69 ?_
                        refine lv_iload_n hx hb dX8_isForm_70 rfl (lv_at hl 3 rfl) ?_
                        refine n_add hx hb dX8_isForm_71 ?_
                        refine lv_istore (lv' := [(4, .int (nI ((6 * k) + i))), (0, .ref (md 0)), (1, .int (nI k)), (2, .int ((sx (mtx k)))), (3, .int (nI i))]) hx hb dX8_isForm_72 hl (by decide) rfl (fun ls hl => ?_)
                        refine lv_aload_n hx hb dX8_isForm_74 rfl (lv_at hl 1 rfl) ?_
                        refine gf_X8_163 F hw 0 rfl rfl dX8_isForm_75 ?_
                        refine lv_iload hx hb dX8_isForm_78 (lv_at hl 0 rfl) ?_
                        refine lv_bipush (v := nI 8) hx hb dX8_isForm_80 (by decide) ?_
                        refine n_div hx hb (by omega) (by omega) (by omega) dX8_isForm_82 ?_
                        refine lv_aload_n hx hb dX8_isForm_83 rfl (lv_at hl 1 rfl) ?_
                        refine gf_X8_163 F hw 0 rfl rfl dX8_isForm_84 ?_
                        refine lv_iload hx hb dX8_isForm_87 (lv_at hl 0 rfl) ?_
                        refine lv_bipush (v := nI 8) hx hb dX8_isForm_89 (by decide) ?_
                        refine n_div hx hb (by omega) (by omega) (by omega) dX8_isForm_91 ?_
                        refine ia_ld F hw 22 rfl (by omega) (by omega) dX8_isForm_92 ?_
                        refine lv_iload_n hx hb dX8_isForm_93 rfl (lv_at hl 3 rfl) ?_
                        refine lv_iconst (v := nI 5) hx hb dX8_isForm_94 (by decide) ?_
                        refine lv_iload_n hx hb dX8_isForm_95 rfl (lv_at hl 4 rfl) ?_
                        refine n_sub hx hb (by omega) dX8_isForm_96 ?_
                        refine lv_ishr hx hb dX8_isForm_97 ?_
                        refine lv_iconst (v := nI 1) hx hb dX8_isForm_98 (by decide) ?_
                        refine lv_iand hx hb dX8_isForm_99 ?_
                        refine lv_bipush (v := nI 7) hx hb dX8_isForm_100 (by decide) ?_
                        refine lv_iload hx hb dX8_isForm_102 (lv_at hl 0 rfl) ?_
                        refine lv_bipush (v := nI 8) hx hb dX8_isForm_104 (by decide) ?_
                        refine n_rem hx hb (by omega) (by omega) (by omega) dX8_isForm_106 ?_
                        refine n_sub hx hb (by omega) dX8_isForm_107 ?_
                        refine lv_ishl hx hb dX8_isForm_108 ?_
                        refine lv_ior hx hb dX8_isForm_109 ?_
                        refine ia_st F hw 22 rfl (by omega) (by omega) dX8_isForm_110 (fun H locs hw => ?_)
                        replace hw : Wd g s A H locs (mX g md mfa mmz msz mnow mgr mmo mre msd mbg mky mli mrf mrn mka mta mwd mms mhs mke msa mkn mkb mku mhp mpa mpb mit mus mid mbe mla msi mtx (upd (riB (sx (mtx k)) k (roB mtx (zzF mra 24) k) i) (((6 * k) + i) / 8) (((riB (sx (mtx k)) k (roB mtx (zzF mra 24) k) i) (((6 * k) + i) / 8)) ||| ((((sx (mtx k)) >>> ((nI (5 - i)) &&& 31)) &&& (nI 1)) <<< ((nI (7 - (((6 * k) + i) % 8))) &&& 31))))) := hw
                        refine lv_iinc (v := nI (i + 1)) (lv' := [(3, .int (nI (i + 1))), (4, .int (nI ((6 * k) + i))), (0, .ref (md 0)), (1, .int (nI k)), (2, .int ((sx (mtx k))))]) hx hb dX8_isForm_111 hl (k := 4) rfl (inc_n _ 1) (by decide) rfl (fun ls hl => ?_)
                        refine lv_goto (tgt := 60) hx hb dX8_isForm_114 (by decide) ?_
                        exact ih2 (i + 1) (by omega) (by omega) _ _ _ hw (lv_sub hl [2, 3, 4, 0] rfl)
                  exact L_60 (6 + 1) 0 (by omega) (by omega) _ _ _ hw (lv_sub hl [2, 3, 1, 0] rfl)
                · refine lv_iconst (v := nI 0) hx hb dX8_isForm_56 (by decide) ?_
                  exact rt_z F hr rfl hlk hQ hw (roB mtx (zzF mra 24) k) (Or.inr ⟨rfl, fun h => c_53 (h.2.1 k (by omega))⟩) rfl dX8_isForm_57
          exact L_36 (30 + 1) 0 (by omega) (by omega) _ _ _ (fun i h => absurd h (Nat.not_lt_zero i)) hw (lv_sub hl [1, 0] rfl)
        · refine lv_aload_n hx hb dX8_isForm_21 rfl (lv_at hl 0 rfl) ?_
          refine gf_X8_163 F hw 0 rfl rfl dX8_isForm_22 ?_
          refine lv_iload_n hx hb dX8_isForm_25 rfl (lv_at hl 1 rfl) ?_
          refine lv_iconst (v := nI 0) hx hb dX8_isForm_26 (by decide) ?_
          refine ia_st F hw 22 rfl (by omega) (by omega) dX8_isForm_27 (fun H locs hw => ?_)
          replace hw : Wd g s A H locs (mX g md mfa mmz msz mnow mgr mmo mre msd mbg mky mli mrf mrn mka mta mwd mms mhs mke msa mkn mkb mku mhp mpa mpb mit mus mid mbe mla msi mtx (upd (zzF mra a) a (nI 0))) := hw
          refine lv_iinc (v := nI (a + 1)) (lv' := [(1, .int (nI (a + 1))), (0, .ref (md 0))]) hx hb dX8_isForm_28 hl (k := 1) rfl (inc_n _ 1) (by decide) rfl (fun ls hl => ?_)
          refine lv_goto (tgt := 15) hx hb dX8_isForm_31 (by decide) ?_
          exact ih (a + 1) (by omega) (by omega) _ _ _ hw (lv_sub hl [1, 0] rfl)
    exact L_15 (24 + 1) 0 (by omega) (by omega) _ _ _ hw (lv_sub hl [1, 0] rfl)
  · refine lv_iconst (v := nI 0) hx hb dX8_isForm_11 (by decide) ?_
    exact rt_z F hr rfl hlk hQ hw mra (Or.inr ⟨rfl, fun h => c_8 h.1⟩) rfl dX8_isForm_12
