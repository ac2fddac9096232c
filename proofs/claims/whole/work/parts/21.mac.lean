def ch3 (e f g : Int32) : Int32 := (e &&& f) ^^^ ((e ^^^ (-1)) &&& g)
def mj3 (a b c : Int32) : Int32 := ((a &&& b) ^^^ (a &&& c)) ^^^ (b &&& c)
def loS (e f g h r w : Int32) : Int32 := (((h + ((rot e 6 ^^^ rot e 11) ^^^ rot e 25)) + ch3 e f g) + r) + w
def upS (a b c : Int32) : Int32 := ((rot a 2 ^^^ rot a 13) ^^^ rot a 22) + mj3 a b c
def mxs (x : Nat → Int32) (r w : Int32) : Nat → Int32 := fun i => match i with
  | 0 => loS (x 4) (x 5) (x 6) (x 7) r w + upS (x 0) (x 1) (x 2)
  | 1 => x 0
  | 2 => x 1
  | 3 => x 2
  | 4 => x 3 + loS (x 4) (x 5) (x 6) (x 7) r w
  | 5 => x 4
  | 6 => x 5
  | _ => x 6
def mx (st w : Nat → Int32) : Nat → Nat → Int32
  | 0 => st
  | k + 1 => mxs (mx st w k) (kR k) (w k)
theorem mxs_congr {x y : Nat → Int32} {r w w' : Int32} (h : ∀ i, i < 8 → x i = y i) (hw : w = w') : ∀ i, i < 8 → mxs x r w i = mxs y r w' i := by
  intro i hi
  subst hw
  match i, hi with
  | 0, _ => simp only [mxs, h 4 (by omega), h 5 (by omega), h 6 (by omega), h 7 (by omega), h 0 (by omega), h 1 (by omega), h 2 (by omega)]
  | 1, _ => exact h 0 (by omega)
  | 2, _ => exact h 1 (by omega)
  | 3, _ => exact h 2 (by omega)
  | 4, _ => simp only [mxs, h 4 (by omega), h 5 (by omega), h 6 (by omega), h 7 (by omega), h 3 (by omega)]
  | 5, _ => exact h 4 (by omega)
  | 6, _ => exact h 5 (by omega)
  | 7, _ => exact h 6 (by omega)
theorem mx_congr {st st' w w' : Nat → Int32} (h : ∀ i, i < 8 → st i = st' i) (hw : ∀ t, t < 64 → w t = w' t) : ∀ k, k ≤ 64 → ∀ i, i < 8 → mx st w k i = mx st' w' k i := by
  intro k
  induction k with
  | zero => intro _ i hi; exact h i hi
  | succ k ih => intro hk i hi; exact mxs_congr (ih (by omega)) (hw k (by omega)) i hi
def wrd (B : Nat → Int32) (q : Nat) : Int32 := (((B q <<< (nI 24 &&& 31)) ||| (B (q + 1) <<< (nI 16 &&& 31))) ||| (B (q + 2) <<< (nI 8 &&& 31))) ||| B (q + 3)
def sc1 (B : Nat → Int32) (fr : Nat) (f0 : Nat → Int32) : Nat → Nat → Int32
  | 0 => f0
  | k + 1 => upd (sc1 B fr f0 k) k (wrd B (fr + 4 * k))
def nxw (f : Nat → Int32) (t : Nat) : Int32 := (((((rot (f (t - 2)) 17 ^^^ rot (f (t - 2)) 19) ^^^ ushr (f (t - 2)) (nI 10)) + f (t - 7)) + ((rot (f (t - 15)) 7 ^^^ rot (f (t - 15)) 18) ^^^ ushr (f (t - 15)) (nI 3))) + f (t - 16))
def sc2 (f : Nat → Int32) : Nat → Nat → Int32
  | 0 => f
  | j + 1 => upd (sc2 f j) (16 + j) (nxw (sc2 f j) (16 + j))
def w64 (B : Nat → Int32) (fr : Nat) : Nat → Int32 := sc2 (fun t => wrd B (fr + 4 * t)) 48
theorem upd_s (f : Nat → Int32) (k : Nat) (x : Int32) : upd f k x k = x := by simp [upd]
theorem upd_n (f : Nat → Int32) {k j : Nat} (x : Int32) (h : j ≠ k) : upd f k x j = f j := by simp [upd, h]
theorem sc1_get (B : Nat → Int32) (fr : Nat) (f0 : Nat → Int32) : ∀ k t, t < k → sc1 B fr f0 k t = wrd B (fr + 4 * t) := by
  intro k
  induction k with
  | zero => intro t h; omega
  | succ k ih =>
    intro t h
    show upd (sc1 B fr f0 k) k (wrd B (fr + 4 * k)) t = _
    by_cases e : t = k
    · subst e; rw [upd_s]
    · rw [upd_n _ _ e]; exact ih t (by omega)
theorem sc2_congr {f f' : Nat → Int32} (h : ∀ t, t < 16 → f t = f' t) : ∀ j t, t < 16 + j → sc2 f j t = sc2 f' j t := by
  intro j
  induction j with
  | zero => intro t ht; exact h t ht
  | succ j ih =>
    intro t ht
    show upd (sc2 f j) (16 + j) (nxw (sc2 f j) (16 + j)) t = upd (sc2 f' j) (16 + j) (nxw (sc2 f' j) (16 + j)) t
    by_cases e : t = 16 + j
    · subst e
      rw [upd_s, upd_s]
      simp only [nxw, ih (16 + j - 2) (by omega), ih (16 + j - 7) (by omega), ih (16 + j - 15) (by omega), ih (16 + j - 16) (by omega)]
    · rw [upd_n _ _ e, upd_n _ _ e]; exact ih t (by omega)
def cmp1 (st B : Nat → Int32) (fr : Nat) : Nat → Int32 := fun i => st i + mx st (w64 B fr) 64 i
def h2 (B : Nat → Int32) : Nat → Int32 := cmp1 (cmp1 kS B 0) B 64
def hsh (B : Nat → Int32) (j : Nat) : Int32 := byO (h2 B (j / 4)) (j % 4)
def hb1 (st f0 : Nat → Int32) : Nat → Nat → Int32
  | 0 => f0
  | k + 1 => upd (hb1 st f0 k) k (byO (st (k / 4)) (k % 4))
theorem hb1_get (st f0 : Nat → Int32) : ∀ k t, t < k → hb1 st f0 k t = byO (st (t / 4)) (t % 4) := by
  intro k
  induction k with
  | zero => intro t h; omega
  | succ k ih =>
    intro t h
    show upd (hb1 st f0 k) k (byO (st (k / 4)) (k % 4)) t = _
    by_cases e : t = k
    · subst e; rw [upd_s]
    · rw [upd_n _ _ e]; exact ih t (by omega)
set_option maxHeartbeats 4000000 in
set_option maxRecDepth 100000 in
theorem c_X3_fillSchedule (g : GG) (l : Launch) (h0 : Nat) (b0 : Nat) (b1 : Nat) (b2 : Nat) (b3 : Nat) (fb : Nat → Int32) (fs : Nat → Int32) (fr : Nat) (hfr : fr ≤ 64) : Ct g l yX3_fillSchedule cX3_fillSchedule 7 none 1 21 [.ref h0, .int (nI fr)] [(h0, .inr (2, [.ref b0, .ref b1, .ref b2, .ref b3])), (b1, iA g 128 fb), (b2, iA g 64 fs)] (Rv g (fun (u : Nat → Int32) => ∀ t, t < 64 → u t = w64 fb fr t) (fun (u : Nat → Int32) => [(h0, .inr (2, [.ref b0, .ref b1, .ref b2, .ref b3])), (b1, iA g 128 fb), (b2, iA g 64 u)])) := by
  refine mkC (by decide) (Nat.le_of_ble_eq_true rfl) ?_
  intro p e s m args below meth c A ls QQ F hr hlk hnm hQ hw hl
  have hx := F.1
  have hb := F.2.1
  replace hl : lv_has ls 7 [(0, .ref h0), (1, .int (nI fr))] := hl
  refine lv_iconst (v := nI 0) hx hb dX3_fillSchedule_0 (by decide) ?_
  refine lv_istore_n (lv' := [(2, .int (nI 0)), (0, .ref h0), (1, .int (nI fr))]) hx hb dX3_fillSchedule_1 rfl hl (by decide) rfl (fun ls hl => ?_)
  have L_2 : ∀ (nn k : Nat), k ≤ 16 → 16 < k + nn → ∀ (H : Heap) (locs : List Loc) (ls : Array Slot), Wd g s A H locs [(h0, .inr (2, [.ref b0, .ref b1, .ref b2, .ref b3])), (b1, iA g 128 fb), (b2, iA g 64 (sc1 fb fr fs k))] → lv_has ls 7 [(0, .ref h0), (1, .int (nI fr)), (2, .int (nI k))] → W p l e (rmm 1 21) s m args below meth c H locs 0 0 QQ (F0 m 2 ls []) := by
    intro nn
    induction nn with
    | zero => intro k h1 h2; exact absurd h2 (by omega)
    | succ nn ih =>
      intro k hk_k hn_k H locs ls hw hl
      refine lv_iload_n hx hb dX3_fillSchedule_2 rfl (lv_at hl 2 rfl) ?_
      refine lv_bipush (v := nI 16) hx hb dX3_fillSchedule_3 (by decide) ?_
      refine n_ge (tgt := 68) hx hb (by omega) (by omega) dX3_fillSchedule_5 (by decide) (fun c_5 => ?_) (fun c_5 => ?_)
      · obtain rfl : k = 16 := by omega
        refine lv_bipush (v := nI 16) hx hb dX3_fillSchedule_68 (by decide) ?_
        refine lv_istore_n (lv' := [(2, .int (nI 16)), (0, .ref h0), (1, .int (nI fr))]) hx hb dX3_fillSchedule_70 rfl hl (by decide) rfl (fun ls hl => ?_)
        have L_71 : ∀ (nn j : Nat), j ≤ 48 → 48 < j + nn → ∀ (H : Heap) (locs : List Loc) (ls : Array Slot), Wd g s A H locs [(h0, .inr (2, [.ref b0, .ref b1, .ref b2, .ref b3])), (b1, iA g 128 fb), (b2, iA g 64 (sc2 (sc1 fb fr fs 16) j))] → lv_has ls 7 [(0, .ref h0), (1, .int (nI fr)), (2, .int (nI (16 + j)))] → W p l e (rmm 1 21) s m args below meth c H locs 0 0 QQ (F0 m 71 ls []) := by
          intro nn
          induction nn with
          | zero => intro j h1 h2; exact absurd h2 (by omega)
          | succ nn ih =>
            intro j hk_j hn_j H locs ls hw hl
            refine lv_iload_n hx hb dX3_fillSchedule_71 rfl (lv_at hl 2 rfl) ?_
            refine lv_bipush (v := nI 64) hx hb dX3_fillSchedule_72 (by decide) ?_
            refine n_ge (tgt := 176) hx hb (by omega) (by omega) dX3_fillSchedule_74 (by decide) (fun c_74 => ?_) (fun c_74 => ?_)
            · obtain rfl : j = 48 := by omega
              exact rt_v F hr hlk hQ hw (sc2 (sc1 fb fr fs 16) 48) (fun t ht => sc2_congr (fun t ht => sc1_get fb fr fs 16 t ht) 48 t ht) rfl dX3_fillSchedule_176
            · refine lv_aload_n hx hb dX3_fillSchedule_77 rfl (lv_at hl 0 rfl) ?_
              refine gf_X3_16 F hw 0 rfl rfl dX3_fillSchedule_78 ?_
              refine lv_iload_n hx hb dX3_fillSchedule_81 rfl (lv_at hl 2 rfl) ?_
              refine lv_iconst (v := nI 2) hx hb dX3_fillSchedule_82 (by decide) ?_
              refine n_sub hx hb (by omega) dX3_fillSchedule_83 ?_
              refine ia_ld F hw 2 rfl (by omega) (by omega) dX3_fillSchedule_84 ?_
              refine lv_istore_n (lv' := [(3, .int (((sc2 (sc1 fb fr fs 16) j) ((16 + j) - 2)))), (0, .ref h0), (1, .int (nI fr)), (2, .int (nI (16 + j)))]) hx hb dX3_fillSchedule_85 rfl hl (by decide) rfl (fun ls hl => ?_)
              refine lv_aload_n hx hb dX3_fillSchedule_86 rfl (lv_at hl 1 rfl) ?_
              refine gf_X3_16 F hw 0 rfl rfl dX3_fillSchedule_87 ?_
              refine lv_iload_n hx hb dX3_fillSchedule_90 rfl (lv_at hl 3 rfl) ?_
              refine lv_bipush (v := nI 15) hx hb dX3_fillSchedule_91 (by decide) ?_
              refine n_sub hx hb (by omega) dX3_fillSchedule_93 ?_
              refine ia_ld F hw 2 rfl (by omega) (by omega) dX3_fillSchedule_94 ?_
              refine lv_istore (lv' := [(4, .int (((sc2 (sc1 fb fr fs 16) j) ((16 + j) - 15)))), (3, .int (((sc2 (sc1 fb fr fs 16) j) ((16 + j) - 2)))), (0, .ref h0), (1, .int (nI fr)), (2, .int (nI (16 + j)))]) hx hb dX3_fillSchedule_95 hl (by decide) rfl (fun ls hl => ?_)
              refine lv_iload_n hx hb dX3_fillSchedule_97 rfl (lv_at hl 1 rfl) ?_
              refine lv_bipush (v := nI 17) hx hb dX3_fillSchedule_98 (by decide) ?_
              refine cl_i hw [] rfl (rn_S F hw (c_X3_turn g l ((sc2 (sc1 fb fr fs 16) j) ((16 + j) - 2)) 17 (by omega)) (cw_X3_51 F.2.2.2.2 ⟨by decide, by decide⟩) [] (by decide) rfl hl.1 rfl (Nat.le_of_ble_eq_true rfl) dX3_fillSchedule_100 ⟨Nat.zero_le _, Nat.zero_le _⟩) (fun _ => rfl) (fun v_2 u_1 H locs hp_3 hw => ?_)
              subst hp_3
              replace hw : Wd g s A H locs [(h0, .inr (2, [.ref b0, .ref b1, .ref b2, .ref b3])), (b1, iA g 128 fb), (b2, iA g 64 (sc2 (sc1 fb fr fs 16) j))] := hw
              refine lv_iload_n hx hb dX3_fillSchedule_103 rfl (lv_at hl 1 rfl) ?_
              refine lv_bipush (v := nI 19) hx hb dX3_fillSchedule_104 (by decide) ?_
              refine cl_i hw [] rfl (rn_S F hw (c_X3_turn g l ((sc2 (sc1 fb fr fs 16) j) ((16 + j) - 2)) 19 (by omega)) (cw_X3_51 F.2.2.2.2 ⟨by decide, by decide⟩) [] (by decide) rfl hl.1 rfl (Nat.le_of_ble_eq_true rfl) dX3_fillSchedule_106 ⟨Nat.zero_le _, Nat.zero_le _⟩) (fun _ => rfl) (fun v_5 u_4 H locs hp_6 hw => ?_)
              subst hp_6
              replace hw : Wd g s A H locs [(h0, .inr (2, [.ref b0, .ref b1, .ref b2, .ref b3])), (b1, iA g 128 fb), (b2, iA g 64 (sc2 (sc1 fb fr fs 16) j))] := hw
              refine lv_ixor hx hb dX3_fillSchedule_109 ?_
              refine lv_iload_n hx hb dX3_fillSchedule_110 rfl (lv_at hl 1 rfl) ?_
              refine lv_bipush (v := nI 10) hx hb dX3_fillSchedule_111 (by decide) ?_
              refine lv_iushr (v := ushr ((sc2 (sc1 fb fr fs 16) j) ((16 + j) - 2)) (nI 10)) hx hb dX3_fillSchedule_113 rfl ?_
              refine lv_ixor hx hb dX3_fillSchedule_114 ?_
              refine lv_istore (lv' := [(5, .int ((((rot ((sc2 (sc1 fb fr fs 16) j) ((16 + j) - 2)) 17) ^^^ (rot ((sc2 (sc1 fb fr fs 16) j) ((16 + j) - 2)) 19)) ^^^ (ushr ((sc2 (sc1 fb fr fs 16) j) ((16 + j) - 2)) (nI 10))))), (4, .int (((sc2 (sc1 fb fr fs 16) j) ((16 + j) - 15)))), (3, .int (((sc2 (sc1 fb fr fs 16) j) ((16 + j) - 2)))), (0, .ref h0), (1, .int (nI fr)), (2, .int (nI (16 + j)))]) hx hb dX3_fillSchedule_115 hl (by decide) rfl (fun ls hl => ?_)
              refine lv_iload hx hb dX3_fillSchedule_117 (lv_at hl 1 rfl) ?_
              refine lv_bipush (v := nI 7) hx hb dX3_fillSchedule_119 (by decide) ?_
              refine cl_i hw [] rfl (rn_S F hw (c_X3_turn g l ((sc2 (sc1 fb fr fs 16) j) ((16 + j) - 15)) 7 (by omega)) (cw_X3_51 F.2.2.2.2 ⟨by decide, by decide⟩) [] (by decide) rfl hl.1 rfl (Nat.le_of_ble_eq_true rfl) dX3_fillSchedule_121 ⟨Nat.zero_le _, Nat.zero_le _⟩) (fun _ => rfl) (fun v_8 u_7 H locs hp_9 hw => ?_)
              subst hp_9
              replace hw : Wd g s A H locs [(h0, .inr (2, [.ref b0, .ref b1, .ref b2, .ref b3])), (b1, iA g 128 fb), (b2, iA g 64 (sc2 (sc1 fb fr fs 16) j))] := hw
              refine lv_iload hx hb dX3_fillSchedule_124 (lv_at hl 1 rfl) ?_
              refine lv_bipush (v := nI 18) hx hb dX3_fillSchedule_126 (by decide) ?_
              refine cl_i hw [] rfl (rn_S F hw (c_X3_turn g l ((sc2 (sc1 fb fr fs 16) j) ((16 + j) - 15)) 18 (by omega)) (cw_X3_51 F.2.2.2.2 ⟨by decide, by decide⟩) [] (by decide) rfl hl.1 rfl (Nat.le_of_ble_eq_true rfl) dX3_fillSchedule_128 ⟨Nat.zero_le _, Nat.zero_le _⟩) (fun _ => rfl) (fun v_11 u_10 H locs hp_12 hw => ?_)
              subst hp_12
              replace hw : Wd g s A H locs [(h0, .inr (2, [.ref b0, .ref b1, .ref b2, .ref b3])), (b1, iA g 128 fb), (b2, iA g 64 (sc2 (sc1 fb fr fs 16) j))] := hw
              refine lv_ixor hx hb dX3_fillSchedule_131 ?_
              refine lv_iload hx hb dX3_fillSchedule_132 (lv_at hl 1 rfl) ?_
              refine lv_iconst (v := nI 3) hx hb dX3_fillSchedule_134 (by decide) ?_
              refine lv_iushr (v := ushr ((sc2 (sc1 fb fr fs 16) j) ((16 + j) - 15)) (nI 3)) hx hb dX3_fillSchedule_135 rfl ?_
              refine lv_ixor hx hb dX3_fillSchedule_136 ?_
              refine lv_istore (lv' := [(6, .int ((((rot ((sc2 (sc1 fb fr fs 16) j) ((16 + j) - 15)) 7) ^^^ (rot ((sc2 (sc1 fb fr fs 16) j) ((16 + j) - 15)) 18)) ^^^ (ushr ((sc2 (sc1 fb fr fs 16) j) ((16 + j) - 15)) (nI 3))))), (5, .int ((((rot ((sc2 (sc1 fb fr fs 16) j) ((16 + j) - 2)) 17) ^^^ (rot ((sc2 (sc1 fb fr fs 16) j) ((16 + j) - 2)) 19)) ^^^ (ushr ((sc2 (sc1 fb fr fs 16) j) ((16 + j) - 2)) (nI 10))))), (4, .int (((sc2 (sc1 fb fr fs 16) j) ((16 + j) - 15)))), (3, .int (((sc2 (sc1 fb fr fs 16) j) ((16 + j) - 2)))), (0, .ref h0), (1, .int (nI fr)), (2, .int (nI (16 + j)))]) hx hb dX3_fillSchedule_137 hl (by decide) rfl (fun ls hl => ?_)
              refine lv_aload_n hx hb dX3_fillSchedule_139 rfl (lv_at hl 4 rfl) ?_
              refine gf_X3_16 F hw 0 rfl rfl dX3_fillSchedule_140 ?_
              refine lv_iload_n hx hb dX3_fillSchedule_143 rfl (lv_at hl 6 rfl) ?_
              refine lv_iload hx hb dX3_fillSchedule_144 (lv_at hl 1 rfl) ?_
              refine lv_aload_n hx hb dX3_fillSchedule_146 rfl (lv_at hl 4 rfl) ?_
              refine gf_X3_16 F hw 0 rfl rfl dX3_fillSchedule_147 ?_
              refine lv_iload_n hx hb dX3_fillSchedule_150 rfl (lv_at hl 6 rfl) ?_
              refine lv_bipush (v := nI 7) hx hb dX3_fillSchedule_151 (by decide) ?_
              refine n_sub hx hb (by omega) dX3_fillSchedule_153 ?_
              refine ia_ld F hw 2 rfl (by omega) (by omega) dX3_fillSchedule_154 ?_
              refine lv_iadd hx hb dX3_fillSchedule_155 ?_
              refine lv_iload hx hb dX3_fillSchedule_156 (lv_at hl 0 rfl) ?_
              refine lv_iadd hx hb dX3_fillSchedule_158 ?_
              refine lv_aload_n hx hb dX3_fillSchedule_159 rfl (lv_at hl 4 rfl) ?_
              refine gf_X3_16 F hw 0 rfl rfl dX3_fillSchedule_160 ?_
              refine lv_iload_n hx hb dX3_fillSchedule_163 rfl (lv_at hl 6 rfl) ?_
              refine lv_bipush (v := nI 16) hx hb dX3_fillSchedule_164 (by decide) ?_
              refine n_sub hx hb (by omega) dX3_fillSchedule_166 ?_
              refine ia_ld F hw 2 rfl (by omega) (by omega) dX3_fillSchedule_167 ?_
              refine lv_iadd hx hb dX3_fillSchedule_168 ?_
              refine ia_st F hw 2 rfl (by omega) (by omega) dX3_fillSchedule_169 (fun H locs hw => ?_)
              replace hw : Wd g s A H locs [(h0, .inr (2, [.ref b0, .ref b1, .ref b2, .ref b3])), (b1, iA g 128 fb), (b2, iA g 64 (upd (sc2 (sc1 fb fr fs 16) j) (16 + j) ((((((rot ((sc2 (sc1 fb fr fs 16) j) ((16 + j) - 2)) 17) ^^^ (rot ((sc2 (sc1 fb fr fs 16) j) ((16 + j) - 2)) 19)) ^^^ (ushr ((sc2 (sc1 fb fr fs 16) j) ((16 + j) - 2)) (nI 10))) + ((sc2 (sc1 fb fr fs 16) j) ((16 + j) - 7))) + (((rot ((sc2 (sc1 fb fr fs 16) j) ((16 + j) - 15)) 7) ^^^ (rot ((sc2 (sc1 fb fr fs 16) j) ((16 + j) - 15)) 18)) ^^^ (ushr ((sc2 (sc1 fb fr fs 16) j) ((16 + j) - 15)) (nI 3)))) + ((sc2 (sc1 fb fr fs 16) j) ((16 + j) - 16)))))] := hw
              refine lv_iinc (v := nI (16 + j + 1)) (lv' := [(2, .int (nI (16 + j + 1))), (6, .int ((((rot ((sc2 (sc1 fb fr fs 16) j) ((16 + j) - 15)) 7) ^^^ (rot ((sc2 (sc1 fb fr fs 16) j) ((16 + j) - 15)) 18)) ^^^ (ushr ((sc2 (sc1 fb fr fs 16) j) ((16 + j) - 15)) (nI 3))))), (5, .int ((((rot ((sc2 (sc1 fb fr fs 16) j) ((16 + j) - 2)) 17) ^^^ (rot ((sc2 (sc1 fb fr fs 16) j) ((16 + j) - 2)) 19)) ^^^ (ushr ((sc2 (sc1 fb fr fs 16) j) ((16 + j) - 2)) (nI 10))))), (4, .int (((sc2 (sc1 fb fr fs 16) j) ((16 + j) - 15)))), (3, .int (((sc2 (sc1 fb fr fs 16) j) ((16 + j) - 2)))), (0, .ref h0), (1, .int (nI fr))]) hx hb dX3_fillSchedule_170 hl (k := 6) rfl (inc_n _ 1) (by decide) rfl (fun ls hl => ?_)
              refine lv_goto (tgt := 71) hx hb dX3_fillSchedule_173 (by decide) ?_
              exact ih (j + 1) (by omega) (by omega) _ _ _ hw (lv_sub hl [5, 6, 0] rfl)
        exact L_71 (48 + 1) 0 (by omega) (by omega) _ _ _ hw (lv_sub hl [1, 2, 0] rfl)
      · refine lv_iload_n hx hb dX3_fillSchedule_8 rfl (lv_at hl 1 rfl) ?_
        refine lv_iconst (v := nI 4) hx hb dX3_fillSchedule_9 (by decide) ?_
        refine lv_iload_n hx hb dX3_fillSchedule_10 rfl (lv_at hl 2 rfl) ?_
        refine n_mul hx hb dX3_fillSchedule_11 ?_
        refine n_add hx hb dX3_fillSchedule_12 ?_
        refine lv_istore_n (lv' := [(3, .int (nI (fr + (4 * k)))), (0, .ref h0), (1, .int (nI fr)), (2, .int (nI k))]) hx hb dX3_fillSchedule_13 rfl hl (by decide) rfl (fun ls hl => ?_)
        refine lv_aload_n hx hb dX3_fillSchedule_14 rfl (lv_at hl 1 rfl) ?_
        refine gf_X3_16 F hw 0 rfl rfl dX3_fillSchedule_15 ?_
        refine lv_iload_n hx hb dX3_fillSchedule_18 rfl (lv_at hl 3 rfl) ?_
        refine lv_aload_n hx hb dX3_fillSchedule_19 rfl (lv_at hl 1 rfl) ?_
        refine gf_X3_13 F hw 0 rfl rfl dX3_fillSchedule_20 ?_
        refine lv_iload_n hx hb dX3_fillSchedule_23 rfl (lv_at hl 0 rfl) ?_
        refine ia_ld F hw 1 rfl (by omega) (by omega) dX3_fillSchedule_24 ?_
        refine lv_bipush (v := nI 24) hx hb dX3_fillSchedule_25 (by decide) ?_
        refine lv_ishl hx hb dX3_fillSchedule_27 ?_
        refine lv_aload_n hx hb dX3_fillSchedule_28 rfl (lv_at hl 1 rfl) ?_
        refine gf_X3_13 F hw 0 rfl rfl dX3_fillSchedule_29 ?_
        refine lv_iload_n hx hb dX3_fillSchedule_32 rfl (lv_at hl 0 rfl) ?_
        refine lv_iconst (v := nI 1) hx hb dX3_fillSchedule_33 (by decide) ?_
        refine n_add hx hb dX3_fillSchedule_34 ?_
        refine ia_ld F hw 1 rfl (by omega) (by omega) dX3_fillSchedule_35 ?_
        refine lv_bipush (v := nI 16) hx hb dX3_fillSchedule_36 (by decide) ?_
        refine lv_ishl hx hb dX3_fillSchedule_38 ?_
        refine lv_ior hx hb dX3_fillSchedule_39 ?_
        refine lv_aload_n hx hb dX3_fillSchedule_40 rfl (lv_at hl 1 rfl) ?_
        refine gf_X3_13 F hw 0 rfl rfl dX3_fillSchedule_41 ?_
        refine lv_iload_n hx hb dX3_fillSchedule_44 rfl (lv_at hl 0 rfl) ?_
        refine lv_iconst (v := nI 2) hx hb dX3_fillSchedule_45 (by decide) ?_
        refine n_add hx hb dX3_fillSchedule_46 ?_
        refine ia_ld F hw 1 rfl (by omega) (by omega) dX3_fillSchedule_47 ?_
        refine lv_bipush (v := nI 8) hx hb dX3_fillSchedule_48 (by decide) ?_
        refine lv_ishl hx hb dX3_fillSchedule_50 ?_
        refine lv_ior hx hb dX3_fillSchedule_51 ?_
        refine lv_aload_n hx hb dX3_fillSchedule_52 rfl (lv_at hl 1 rfl) ?_
        refine gf_X3_13 F hw 0 rfl rfl dX3_fillSchedule_53 ?_
        refine lv_iload_n hx hb dX3_fillSchedule_56 rfl (lv_at hl 0 rfl) ?_
        refine lv_iconst (v := nI 3) hx hb dX3_fillSchedule_57 (by decide) ?_
        refine n_add hx hb dX3_fillSchedule_58 ?_
        refine ia_ld F hw 1 rfl (by omega) (by omega) dX3_fillSchedule_59 ?_
        refine lv_ior hx hb dX3_fillSchedule_60 ?_
        refine ia_st F hw 2 rfl (by omega) (by omega) dX3_fillSchedule_61 (fun H locs hw => ?_)
        replace hw : Wd g s A H locs [(h0, .inr (2, [.ref b0, .ref b1, .ref b2, .ref b3])), (b1, iA g 128 fb), (b2, iA g 64 (upd (sc1 fb fr fs k) k (((((fb (fr + (4 * k))) <<< ((nI 24) &&& 31)) ||| ((fb ((fr + (4 * k)) + 1)) <<< ((nI 16) &&& 31))) ||| ((fb ((fr + (4 * k)) + 2)) <<< ((nI 8) &&& 31))) ||| (fb ((fr + (4 * k)) + 3)))))] := hw
        refine lv_iinc (v := nI (k + 1)) (lv' := [(2, .int (nI (k + 1))), (3, .int (nI (fr + (4 * k)))), (0, .ref h0), (1, .int (nI fr))]) hx hb dX3_fillSchedule_62 hl (k := 3) rfl (inc_n _ 1) (by decide) rfl (fun ls hl => ?_)
        refine lv_goto (tgt := 2) hx hb dX3_fillSchedule_65 (by decide) ?_
        exact ih (k + 1) (by omega) (by omega) _ _ _ hw (lv_sub hl [2, 3, 0] rfl)
  exact L_2 (16 + 1) 0 (by omega) (by omega) _ _ _ hw (lv_sub hl [1, 2, 0] rfl)
set_option maxHeartbeats 4000000 in
set_option maxRecDepth 100000 in
theorem c_X3_mixSchedule (g : GG) (l : Launch) (h0 : Nat) (b0 : Nat) (b1 : Nat) (b2 : Nat) (b3 : Nat) (fsc : Nat → Int32) (fst : Nat → Int32) : Ct g l yX3_mixSchedule cX3_mixSchedule 14 none 1 21 [.ref h0] [(h0, .inr (2, [.ref b0, .ref b1, .ref b2, .ref b3])), (b2, iA g 64 fsc), (b3, iA g 8 fst)] (Rv g (fun (u : Nat → Int32) => ∀ i, i < 8 → u i = fst i + mx fst fsc 64 i) (fun (u : Nat → Int32) => [(h0, .inr (2, [.ref b0, .ref b1, .ref b2, .ref b3])), (b2, iA g 64 fsc), (b3, iA g 8 u)])) := by
  refine mkC (by decide) (Nat.le_of_ble_eq_true rfl) ?_
  intro p e s m args below meth c A ls QQ F hr hlk hnm hQ hw hl
  have hx := F.1
  have hb := F.2.1
  replace hl : lv_has ls 14 [(0, .ref h0)] := hl
  refine lv_aload_n hx hb dX3_mixSchedule_0 rfl (lv_at hl 0 rfl) ?_
  refine gf_X3_19 F hw 0 rfl rfl dX3_mixSchedule_1 ?_
  refine lv_iconst (v := nI 0) hx hb dX3_mixSchedule_4 (by decide) ?_
  refine ia_ld F hw 2 rfl (by omega) (by omega) dX3_mixSchedule_5 ?_
  refine lv_istore_n (lv' := [(1, .int ((fst 0))), (0, .ref h0)]) hx hb dX3_mixSchedule_6 rfl hl (by decide) rfl (fun ls hl => ?_)
  refine lv_aload_n hx hb dX3_mixSchedule_7 rfl (lv_at hl 1 rfl) ?_
  refine gf_X3_19 F hw 0 rfl rfl dX3_mixSchedule_8 ?_
  refine lv_iconst (v := nI 1) hx hb dX3_mixSchedule_11 (by decide) ?_
  refine ia_ld F hw 2 rfl (by omega) (by omega) dX3_mixSchedule_12 ?_
  refine lv_istore_n (lv' := [(2, .int ((fst 1))), (1, .int ((fst 0))), (0, .ref h0)]) hx hb dX3_mixSchedule_13 rfl hl (by decide) rfl (fun ls hl => ?_)
  refine lv_aload_n hx hb dX3_mixSchedule_14 rfl (lv_at hl 2 rfl) ?_
  refine gf_X3_19 F hw 0 rfl rfl dX3_mixSchedule_15 ?_
  refine lv_iconst (v := nI 2) hx hb dX3_mixSchedule_18 (by decide) ?_
  refine ia_ld F hw 2 rfl (by omega) (by omega) dX3_mixSchedule_19 ?_
  refine lv_istore_n (lv' := [(3, .int ((fst 2))), (2, .int ((fst 1))), (1, .int ((fst 0))), (0, .ref h0)]) hx hb dX3_mixSchedule_20 rfl hl (by decide) rfl (fun ls hl => ?_)
  refine lv_aload_n hx hb dX3_mixSchedule_21 rfl (lv_at hl 3 rfl) ?_
  refine gf_X3_19 F hw 0 rfl rfl dX3_mixSchedule_22 ?_
  refine lv_iconst (v := nI 3) hx hb dX3_mixSchedule_25 (by decide) ?_
  refine ia_ld F hw 2 rfl (by omega) (by omega) dX3_mixSchedule_26 ?_
  refine lv_istore (lv' := [(4, .int ((fst 3))), (3, .int ((fst 2))), (2, .int ((fst 1))), (1, .int ((fst 0))), (0, .ref h0)]) hx hb dX3_mixSchedule_27 hl (by decide) rfl (fun ls hl => ?_)
  refine lv_aload_n hx hb dX3_mixSchedule_29 rfl (lv_at hl 4 rfl) ?_
  refine gf_X3_19 F hw 0 rfl rfl dX3_mixSchedule_30 ?_
  refine lv_iconst (v := nI 4) hx hb dX3_mixSchedule_33 (by decide) ?_
  refine ia_ld F hw 2 rfl (by omega) (by omega) dX3_mixSchedule_34 ?_
  refine lv_istore (lv' := [(5, .int ((fst 4))), (4, .int ((fst 3))), (3, .int ((fst 2))), (2, .int ((fst 1))), (1, .int ((fst 0))), (0, .ref h0)]) hx hb dX3_mixSchedule_35 hl (by decide) rfl (fun ls hl => ?_)
  refine lv_aload_n hx hb dX3_mixSchedule_37 rfl (lv_at hl 5 rfl) ?_
  refine gf_X3_19 F hw 0 rfl rfl dX3_mixSchedule_38 ?_
  refine lv_iconst (v := nI 5) hx hb dX3_mixSchedule_41 (by decide) ?_
  refine ia_ld F hw 2 rfl (by omega) (by omega) dX3_mixSchedule_42 ?_
  refine lv_istore (lv' := [(6, .int ((fst 5))), (5, .int ((fst 4))), (4, .int ((fst 3))), (3, .int ((fst 2))), (2, .int ((fst 1))), (1, .int ((fst 0))), (0, .ref h0)]) hx hb dX3_mixSchedule_43 hl (by decide) rfl (fun ls hl => ?_)
  refine lv_aload_n hx hb dX3_mixSchedule_45 rfl (lv_at hl 6 rfl) ?_
  refine gf_X3_19 F hw 0 rfl rfl dX3_mixSchedule_46 ?_
  refine lv_bipush (v := nI 6) hx hb dX3_mixSchedule_49 (by decide) ?_
  refine ia_ld F hw 2 rfl (by omega) (by omega) dX3_mixSchedule_51 ?_
  refine lv_istore (lv' := [(7, .int ((fst 6))), (6, .int ((fst 5))), (5, .int ((fst 4))), (4, .int ((fst 3))), (3, .int ((fst 2))), (2, .int ((fst 1))), (1, .int ((fst 0))), (0, .ref h0)]) hx hb dX3_mixSchedule_52 hl (by decide) rfl (fun ls hl => ?_)
  refine lv_aload_n hx hb dX3_mixSchedule_54 rfl (lv_at hl 7 rfl) ?_
  refine gf_X3_19 F hw 0 rfl rfl dX3_mixSchedule_55 ?_
  refine lv_bipush (v := nI 7) hx hb dX3_mixSchedule_58 (by decide) ?_
  refine ia_ld F hw 2 rfl (by omega) (by omega) dX3_mixSchedule_60 ?_
  refine lv_istore (lv' := [(8, .int ((fst 7))), (7, .int ((fst 6))), (6, .int ((fst 5))), (5, .int ((fst 4))), (4, .int ((fst 3))), (3, .int ((fst 2))), (2, .int ((fst 1))), (1, .int ((fst 0))), (0, .ref h0)]) hx hb dX3_mixSchedule_61 hl (by decide) rfl (fun ls hl => ?_)
  refine lv_iconst (v := nI 0) hx hb dX3_mixSchedule_63 (by decide) ?_
  refine lv_istore (lv' := [(9, .int (nI 0)), (8, .int ((fst 7))), (7, .int ((fst 6))), (6, .int ((fst 5))), (5, .int ((fst 4))), (4, .int ((fst 3))), (3, .int ((fst 2))), (2, .int ((fst 1))), (1, .int ((fst 0))), (0, .ref h0)]) hx hb dX3_mixSchedule_64 hl (by decide) rfl (fun ls hl => ?_)
  have L_66 : ∀ (nn k : Nat), k ≤ 64 → 64 < k + nn → ∀ (H : Heap) (locs : List Loc) (ls : Array Slot), Wd g s A H locs [(h0, .inr (2, [.ref b0, .ref b1, .ref b2, .ref b3])), (b2, iA g 64 fsc), (b3, iA g 8 fst)] → lv_has ls 14 [(0, .ref h0), (1, .int ((mx fst fsc k 0))), (2, .int ((mx fst fsc k 1))), (3, .int ((mx fst fsc k 2))), (4, .int ((mx fst fsc k 3))), (5, .int ((mx fst fsc k 4))), (6, .int ((mx fst fsc k 5))), (7, .int ((mx fst fsc k 6))), (8, .int ((mx fst fsc k 7))), (9, .int (nI k))] → W p l e (rmm 1 21) s m args below meth c H locs 0 0 QQ (F0 m 66 ls []) := by
    intro nn
    induction nn with
    | zero => intro k h1 h2; exact absurd h2 (by omega)
    | succ nn ih =>
      intro k hk_k hn_k H locs ls hw hl
      refine lv_iload hx hb dX3_mixSchedule_66 (lv_at hl 9 rfl) ?_
      refine lv_bipush (v := nI 64) hx hb dX3_mixSchedule_68 (by decide) ?_
      refine n_ge (tgt := 209) hx hb (by omega) (by omega) dX3_mixSchedule_70 (by decide) (fun c_70 => ?_) (fun c_70 => ?_)
      · obtain rfl : k = 64 := by omega
        refine lv_aload_n hx hb dX3_mixSchedule_209 rfl (lv_at hl 0 rfl) ?_
        refine gf_X3_19 F hw 0 rfl rfl dX3_mixSchedule_210 ?_
        refine lv_iconst (v := nI 0) hx hb dX3_mixSchedule_213 (by decide) ?_
        refine lv_dup2_11 hx hb dX3_mixSchedule_214 rfl rfl ?_
        refine ia_ld F hw 2 rfl (by omega) (by omega) dX3_mixSchedule_215 ?_
        refine lv_iload_n hx hb dX3_mixSchedule_216 rfl (lv_at hl 1 rfl) ?_
        refine lv_iadd hx hb dX3_mixSchedule_217 ?_
        refine ia_st F hw 2 rfl (by omega) (by omega) dX3_mixSchedule_218 (fun H locs hw => ?_)
        replace hw : Wd g s A H locs [(h0, .inr (2, [.ref b0, .ref b1, .ref b2, .ref b3])), (b2, iA g 64 fsc), (b3, iA g 8 (upd fst 0 ((fst 0) + (mx fst fsc 64 0))))] := hw
        refine lv_aload_n hx hb dX3_mixSchedule_219 rfl (lv_at hl 0 rfl) ?_
        refine gf_X3_19 F hw 0 rfl rfl dX3_mixSchedule_220 ?_
        refine lv_iconst (v := nI 1) hx hb dX3_mixSchedule_223 (by decide) ?_
        refine lv_dup2_11 hx hb dX3_mixSchedule_224 rfl rfl ?_
        refine ia_ld F hw 2 rfl (by omega) (by omega) dX3_mixSchedule_225 ?_
        refine tp_i (y := (fst 1)) rfl ?_
        refine lv_iload_n hx hb dX3_mixSchedule_226 rfl (lv_at hl 2 rfl) ?_
        refine lv_iadd hx hb dX3_mixSchedule_227 ?_
        refine ia_st F hw 2 rfl (by omega) (by omega) dX3_mixSchedule_228 (fun H locs hw => ?_)
        replace hw : Wd g s A H locs [(h0, .inr (2, [.ref b0, .ref b1, .ref b2, .ref b3])), (b2, iA g 64 fsc), (b3, iA g 8 (upd (upd fst 0 ((fst 0) + (mx fst fsc 64 0))) 1 ((fst 1) + (mx fst fsc 64 1))))] := hw
        refine lv_aload_n hx hb dX3_mixSchedule_229 rfl (lv_at hl 0 rfl) ?_
        refine gf_X3_19 F hw 0 rfl rfl dX3_mixSchedule_230 ?_
        refine lv_iconst (v := nI 2) hx hb dX3_mixSchedule_233 (by decide) ?_
        refine lv_dup2_11 hx hb dX3_mixSchedule_234 rfl rfl ?_
        refine ia_ld F hw 2 rfl (by omega) (by omega) dX3_mixSchedule_235 ?_
        refine tp_i (y := (fst 2)) rfl ?_
        refine lv_iload_n hx hb dX3_mixSchedule_236 rfl (lv_at hl 3 rfl) ?_
        refine lv_iadd hx hb dX3_mixSchedule_237 ?_
        refine ia_st F hw 2 rfl (by omega) (by omega) dX3_mixSchedule_238 (fun H locs hw => ?_)
        replace hw : Wd g s A H locs [(h0, .inr (2, [.ref b0, .ref b1, .ref b2, .ref b3])), (b2, iA g 64 fsc), (b3, iA g 8 (upd (upd (upd fst 0 ((fst 0) + (mx fst fsc 64 0))) 1 ((fst 1) + (mx fst fsc 64 1))) 2 ((fst 2) + (mx fst fsc 64 2))))] := hw
        refine lv_aload_n hx hb dX3_mixSchedule_239 rfl (lv_at hl 0 rfl) ?_
        refine gf_X3_19 F hw 0 rfl rfl dX3_mixSchedule_240 ?_
        refine lv_iconst (v := nI 3) hx hb dX3_mixSchedule_243 (by decide) ?_
        refine lv_dup2_11 hx hb dX3_mixSchedule_244 rfl rfl ?_
        refine ia_ld F hw 2 rfl (by omega) (by omega) dX3_mixSchedule_245 ?_
        refine tp_i (y := (fst 3)) rfl ?_
        refine lv_iload hx hb dX3_mixSchedule_246 (lv_at hl 4 rfl) ?_
        refine lv_iadd hx hb dX3_mixSchedule_248 ?_
        refine ia_st F hw 2 rfl (by omega) (by omega) dX3_mixSchedule_249 (fun H locs hw => ?_)
        replace hw : Wd g s A H locs [(h0, .inr (2, [.ref b0, .ref b1, .ref b2, .ref b3])), (b2, iA g 64 fsc), (b3, iA g 8 (upd (upd (upd (upd fst 0 ((fst 0) + (mx fst fsc 64 0))) 1 ((fst 1) + (mx fst fsc 64 1))) 2 ((fst 2) + (mx fst fsc 64 2))) 3 ((fst 3) + (mx fst fsc 64 3))))] := hw
        refine lv_aload_n hx hb dX3_mixSchedule_250 rfl (lv_at hl 0 rfl) ?_
        refine gf_X3_19 F hw 0 rfl rfl dX3_mixSchedule_251 ?_
        refine lv_iconst (v := nI 4) hx hb dX3_mixSchedule_254 (by decide) ?_
        refine lv_dup2_11 hx hb dX3_mixSchedule_255 rfl rfl ?_
        refine ia_ld F hw 2 rfl (by omega) (by omega) dX3_mixSchedule_256 ?_
        refine tp_i (y := (fst 4)) rfl ?_
        refine lv_iload hx hb dX3_mixSchedule_257 (lv_at hl 5 rfl) ?_
        refine lv_iadd hx hb dX3_mixSchedule_259 ?_
        refine ia_st F hw 2 rfl (by omega) (by omega) dX3_mixSchedule_260 (fun H locs hw => ?_)
        replace hw : Wd g s A H locs [(h0, .inr (2, [.ref b0, .ref b1, .ref b2, .ref b3])), (b2, iA g 64 fsc), (b3, iA g 8 (upd (upd (upd (upd (upd fst 0 ((fst 0) + (mx fst fsc 64 0))) 1 ((fst 1) + (mx fst fsc 64 1))) 2 ((fst 2) + (mx fst fsc 64 2))) 3 ((fst 3) + (mx fst fsc 64 3))) 4 ((fst 4) + (mx fst fsc 64 4))))] := hw
        refine lv_aload_n hx hb dX3_mixSchedule_261 rfl (lv_at hl 0 rfl) ?_
        refine gf_X3_19 F hw 0 rfl rfl dX3_mixSchedule_262 ?_
        refine lv_iconst (v := nI 5) hx hb dX3_mixSchedule_265 (by decide) ?_
        refine lv_dup2_11 hx hb dX3_mixSchedule_266 rfl rfl ?_
        refine ia_ld F hw 2 rfl (by omega) (by omega) dX3_mixSchedule_267 ?_
        refine tp_i (y := (fst 5)) rfl ?_
        refine lv_iload hx hb dX3_mixSchedule_268 (lv_at hl 6 rfl) ?_
        refine lv_iadd hx hb dX3_mixSchedule_270 ?_
        refine ia_st F hw 2 rfl (by omega) (by omega) dX3_mixSchedule_271 (fun H locs hw => ?_)
        replace hw : Wd g s A H locs [(h0, .inr (2, [.ref b0, .ref b1, .ref b2, .ref b3])), (b2, iA g 64 fsc), (b3, iA g 8 (upd (upd (upd (upd (upd (upd fst 0 ((fst 0) + (mx fst fsc 64 0))) 1 ((fst 1) + (mx fst fsc 64 1))) 2 ((fst 2) + (mx fst fsc 64 2))) 3 ((fst 3) + (mx fst fsc 64 3))) 4 ((fst 4) + (mx fst fsc 64 4))) 5 ((fst 5) + (mx fst fsc 64 5))))] := hw
        refine lv_aload_n hx hb dX3_mixSchedule_272 rfl (lv_at hl 0 rfl) ?_
        refine gf_X3_19 F hw 0 rfl rfl dX3_mixSchedule_273 ?_
        refine lv_bipush (v := nI 6) hx hb dX3_mixSchedule_276 (by decide) ?_
        refine lv_dup2_11 hx hb dX3_mixSchedule_278 rfl rfl ?_
        refine ia_ld F hw 2 rfl (by omega) (by omega) dX3_mixSchedule_279 ?_
        refine tp_i (y := (fst 6)) rfl ?_
        refine lv_iload hx hb dX3_mixSchedule_280 (lv_at hl 7 rfl) ?_
        refine lv_iadd hx hb dX3_mixSchedule_282 ?_
        refine ia_st F hw 2 rfl (by omega) (by omega) dX3_mixSchedule_283 (fun H locs hw => ?_)
        replace hw : Wd g s A H locs [(h0, .inr (2, [.ref b0, .ref b1, .ref b2, .ref b3])), (b2, iA g 64 fsc), (b3, iA g 8 (upd (upd (upd (upd (upd (upd (upd fst 0 ((fst 0) + (mx fst fsc 64 0))) 1 ((fst 1) + (mx fst fsc 64 1))) 2 ((fst 2) + (mx fst fsc 64 2))) 3 ((fst 3) + (mx fst fsc 64 3))) 4 ((fst 4) + (mx fst fsc 64 4))) 5 ((fst 5) + (mx fst fsc 64 5))) 6 ((fst 6) + (mx fst fsc 64 6))))] := hw
        refine lv_aload_n hx hb dX3_mixSchedule_284 rfl (lv_at hl 0 rfl) ?_
        refine gf_X3_19 F hw 0 rfl rfl dX3_mixSchedule_285 ?_
        refine lv_bipush (v := nI 7) hx hb dX3_mixSchedule_288 (by decide) ?_
        refine lv_dup2_11 hx hb dX3_mixSchedule_290 rfl rfl ?_
        refine ia_ld F hw 2 rfl (by omega) (by omega) dX3_mixSchedule_291 ?_
        refine tp_i (y := (fst 7)) rfl ?_
        refine lv_iload hx hb dX3_mixSchedule_292 (lv_at hl 8 rfl) ?_
        refine lv_iadd hx hb dX3_mixSchedule_294 ?_
        refine ia_st F hw 2 rfl (by omega) (by omega) dX3_mixSchedule_295 (fun H locs hw => ?_)
        replace hw : Wd g s A H locs [(h0, .inr (2, [.ref b0, .ref b1, .ref b2, .ref b3])), (b2, iA g 64 fsc), (b3, iA g 8 (upd (upd (upd (upd (upd (upd (upd (upd fst 0 ((fst 0) + (mx fst fsc 64 0))) 1 ((fst 1) + (mx fst fsc 64 1))) 2 ((fst 2) + (mx fst fsc 64 2))) 3 ((fst 3) + (mx fst fsc 64 3))) 4 ((fst 4) + (mx fst fsc 64 4))) 5 ((fst 5) + (mx fst fsc 64 5))) 6 ((fst 6) + (mx fst fsc 64 6))) 7 ((fst 7) + (mx fst fsc 64 7))))] := hw
        exact rt_v F hr hlk hQ hw (upd (upd (upd (upd (upd (upd (upd (upd fst 0 ((fst 0) + (mx fst fsc 64 0))) 1 ((fst 1) + (mx fst fsc 64 1))) 2 ((fst 2) + (mx fst fsc 64 2))) 3 ((fst 3) + (mx fst fsc 64 3))) 4 ((fst 4) + (mx fst fsc 64 4))) 5 ((fst 5) + (mx fst fsc 64 5))) 6 ((fst 6) + (mx fst fsc 64 6))) 7 ((fst 7) + (mx fst fsc 64 7))) (fun i hi => match i, hi with | 0, _ => rfl | 1, _ => rfl | 2, _ => rfl | 3, _ => rfl | 4, _ => rfl | 5, _ => rfl | 6, _ => rfl | 7, _ => rfl | n + 8, h => absurd h (by omega)) rfl dX3_mixSchedule_296
      · refine lv_iload hx hb dX3_mixSchedule_73 (lv_at hl 5 rfl) ?_
        refine lv_iload hx hb dX3_mixSchedule_75 (lv_at hl 6 rfl) ?_
        refine lv_iand hx hb dX3_mixSchedule_77 ?_
        refine lv_iload hx hb dX3_mixSchedule_78 (lv_at hl 5 rfl) ?_
        refine lv_iconst (v := (-1)) hx hb dX3_mixSchedule_80 (by decide) ?_
        refine lv_ixor hx hb dX3_mixSchedule_81 ?_
        refine lv_iload hx hb dX3_mixSchedule_82 (lv_at hl 7 rfl) ?_
        refine lv_iand hx hb dX3_mixSchedule_84 ?_
        refine lv_ixor hx hb dX3_mixSchedule_85 ?_
        refine tp_i (y := ch3 (mx fst fsc k 4) (mx fst fsc k 5) (mx fst fsc k 6)) rfl ?_
        refine lv_istore (lv' := [(10, .int ((ch3 (mx fst fsc k 4) (mx fst fsc k 5) (mx fst fsc k 6)))), (0, .ref h0), (1, .int ((mx fst fsc k 0))), (2, .int ((mx fst fsc k 1))), (3, .int ((mx fst fsc k 2))), (4, .int ((mx fst fsc k 3))), (5, .int ((mx fst fsc k 4))), (6, .int ((mx fst fsc k 5))), (7, .int ((mx fst fsc k 6))), (8, .int ((mx fst fsc k 7))), (9, .int (nI k))]) hx hb dX3_mixSchedule_86 hl (by decide) rfl (fun ls hl => ?_)
        refine lv_iload_n hx hb dX3_mixSchedule_88 rfl (lv_at hl 2 rfl) ?_
        refine lv_iload_n hx hb dX3_mixSchedule_89 rfl (lv_at hl 3 rfl) ?_
        refine lv_iand hx hb dX3_mixSchedule_90 ?_
        refine lv_iload_n hx hb dX3_mixSchedule_91 rfl (lv_at hl 2 rfl) ?_
        refine lv_iload_n hx hb dX3_mixSchedule_92 rfl (lv_at hl 4 rfl) ?_
        refine lv_iand hx hb dX3_mixSchedule_93 ?_
        refine lv_ixor hx hb dX3_mixSchedule_94 ?_
        refine lv_iload_n hx hb dX3_mixSchedule_95 rfl (lv_at hl 3 rfl) ?_
        refine lv_iload_n hx hb dX3_mixSchedule_96 rfl (lv_at hl 4 rfl) ?_
        refine lv_iand hx hb dX3_mixSchedule_97 ?_
        refine lv_ixor hx hb dX3_mixSchedule_98 ?_
        refine tp_i (y := mj3 (mx fst fsc k 0) (mx fst fsc k 1) (mx fst fsc k 2)) rfl ?_
        refine lv_istore (lv' := [(11, .int ((mj3 (mx fst fsc k 0) (mx fst fsc k 1) (mx fst fsc k 2)))), (10, .int ((ch3 (mx fst fsc k 4) (mx fst fsc k 5) (mx fst fsc k 6)))), (0, .ref h0), (1, .int ((mx fst fsc k 0))), (2, .int ((mx fst fsc k 1))), (3, .int ((mx fst fsc k 2))), (4, .int ((mx fst fsc k 3))), (5, .int ((mx fst fsc k 4))), (6, .int ((mx fst fsc k 5))), (7, .int ((mx fst fsc k 6))), (8, .int ((mx fst fsc k 7))), (9, .int (nI k))]) hx hb dX3_mixSchedule_99 hl (by decide) rfl (fun ls hl => ?_)
        refine lv_iload hx hb dX3_mixSchedule_101 (lv_at hl 10 rfl) ?_
        refine lv_iload hx hb dX3_mixSchedule_103 (lv_at hl 7 rfl) ?_
        refine lv_bipush (v := nI 6) hx hb dX3_mixSchedule_105 (by decide) ?_
        refine cl_i hw [] rfl (rn_S F hw (c_X3_turn g l (mx fst fsc k 4) 6 (by omega)) (cw_X3_51 F.2.2.2.2 ⟨by decide, by decide⟩) [] (by decide) rfl hl.1 rfl (Nat.le_of_ble_eq_true rfl) dX3_mixSchedule_107 ⟨Nat.zero_le _, Nat.zero_le _⟩) (fun _ => rfl) (fun v_2 u_1 H locs hp_3 hw => ?_)
        subst hp_3
        replace hw : Wd g s A H locs [(h0, .inr (2, [.ref b0, .ref b1, .ref b2, .ref b3])), (b2, iA g 64 fsc), (b3, iA g 8 fst)] := hw
        refine lv_iload hx hb dX3_mixSchedule_110 (lv_at hl 7 rfl) ?_
        refine lv_bipush (v := nI 11) hx hb dX3_mixSchedule_112 (by decide) ?_
        refine cl_i hw [] rfl (rn_S F hw (c_X3_turn g l (mx fst fsc k 4) 11 (by omega)) (cw_X3_51 F.2.2.2.2 ⟨by decide, by decide⟩) [] (by decide) rfl hl.1 rfl (Nat.le_of_ble_eq_true rfl) dX3_mixSchedule_114 ⟨Nat.zero_le _, Nat.zero_le _⟩) (fun _ => rfl) (fun v_5 u_4 H locs hp_6 hw => ?_)
        subst hp_6
        replace hw : Wd g s A H locs [(h0, .inr (2, [.ref b0, .ref b1, .ref b2, .ref b3])), (b2, iA g 64 fsc), (b3, iA g 8 fst)] := hw
        refine lv_ixor hx hb dX3_mixSchedule_117 ?_
        refine lv_iload hx hb dX3_mixSchedule_118 (lv_at hl 7 rfl) ?_
        refine lv_bipush (v := nI 25) hx hb dX3_mixSchedule_120 (by decide) ?_
        refine cl_i hw [] rfl (rn_S F hw (c_X3_turn g l (mx fst fsc k 4) 25 (by omega)) (cw_X3_51 F.2.2.2.2 ⟨by decide, by decide⟩) [] (by decide) rfl hl.1 rfl (Nat.le_of_ble_eq_true rfl) dX3_mixSchedule_122 ⟨Nat.zero_le _, Nat.zero_le _⟩) (fun _ => rfl) (fun v_8 u_7 H locs hp_9 hw => ?_)
        subst hp_9
        replace hw : Wd g s A H locs [(h0, .inr (2, [.ref b0, .ref b1, .ref b2, .ref b3])), (b2, iA g 64 fsc), (b3, iA g 8 fst)] := hw
        refine lv_ixor hx hb dX3_mixSchedule_125 ?_
        refine lv_iadd hx hb dX3_mixSchedule_126 ?_
        refine lv_iload hx hb dX3_mixSchedule_127 (lv_at hl 1 rfl) ?_
        refine lv_iadd hx hb dX3_mixSchedule_129 ?_
        refine gs_X3_54 F hw dX3_mixSchedule_130 ?_
        refine lv_iload hx hb dX3_mixSchedule_133 (lv_at hl 11 rfl) ?_
        refine ld_R F hw (by omega) dX3_mixSchedule_135 ?_
        refine lv_iadd hx hb dX3_mixSchedule_136 ?_
        refine lv_aload_n hx hb dX3_mixSchedule_137 rfl (lv_at hl 2 rfl) ?_
        refine gf_X3_16 F hw 0 rfl rfl dX3_mixSchedule_138 ?_
        refine lv_iload hx hb dX3_mixSchedule_141 (lv_at hl 11 rfl) ?_
        refine ia_ld F hw 1 rfl (by omega) (by omega) dX3_mixSchedule_143 ?_
        refine lv_iadd hx hb dX3_mixSchedule_144 ?_
        refine tp_i (y := loS (mx fst fsc k 4) (mx fst fsc k 5) (mx fst fsc k 6) (mx fst fsc k 7) (kR k) (fsc k)) rfl ?_
        refine lv_istore (lv' := [(12, .int ((loS (mx fst fsc k 4) (mx fst fsc k 5) (mx fst fsc k 6) (mx fst fsc k 7) (kR k) (fsc k)))), (11, .int ((mj3 (mx fst fsc k 0) (mx fst fsc k 1) (mx fst fsc k 2)))), (10, .int ((ch3 (mx fst fsc k 4) (mx fst fsc k 5) (mx fst fsc k 6)))), (0, .ref h0), (1, .int ((mx fst fsc k 0))), (2, .int ((mx fst fsc k 1))), (3, .int ((mx fst fsc k 2))), (4, .int ((mx fst fsc k 3))), (5, .int ((mx fst fsc k 4))), (6, .int ((mx fst fsc k 5))), (7, .int ((mx fst fsc k 6))), (8, .int ((mx fst fsc k 7))), (9, .int (nI k))]) hx hb dX3_mixSchedule_145 hl (by decide) rfl (fun ls hl => ?_)
        refine lv_iload_n hx hb dX3_mixSchedule_147 rfl (lv_at hl 4 rfl) ?_
        refine lv_iconst (v := nI 2) hx hb dX3_mixSchedule_148 (by decide) ?_
        refine cl_i hw [] rfl (rn_S F hw (c_X3_turn g l (mx fst fsc k 0) 2 (by omega)) (cw_X3_51 F.2.2.2.2 ⟨by decide, by decide⟩) [] (by decide) rfl hl.1 rfl (Nat.le_of_ble_eq_true rfl) dX3_mixSchedule_149 ⟨Nat.zero_le _, Nat.zero_le _⟩) (fun _ => rfl) (fun v_11 u_10 H locs hp_12 hw => ?_)
        subst hp_12
        replace hw : Wd g s A H locs [(h0, .inr (2, [.ref b0, .ref b1, .ref b2, .ref b3])), (b2, iA g 64 fsc), (b3, iA g 8 fst)] := hw
        refine lv_iload_n hx hb dX3_mixSchedule_152 rfl (lv_at hl 4 rfl) ?_
        refine lv_bipush (v := nI 13) hx hb dX3_mixSchedule_153 (by decide) ?_
        refine cl_i hw [] rfl (rn_S F hw (c_X3_turn g l (mx fst fsc k 0) 13 (by omega)) (cw_X3_51 F.2.2.2.2 ⟨by decide, by decide⟩) [] (by decide) rfl hl.1 rfl (Nat.le_of_ble_eq_true rfl) dX3_mixSchedule_155 ⟨Nat.zero_le _, Nat.zero_le _⟩) (fun _ => rfl) (fun v_14 u_13 H locs hp_15 hw => ?_)
        subst hp_15
        replace hw : Wd g s A H locs [(h0, .inr (2, [.ref b0, .ref b1, .ref b2, .ref b3])), (b2, iA g 64 fsc), (b3, iA g 8 fst)] := hw
        refine lv_ixor hx hb dX3_mixSchedule_158 ?_
        refine lv_iload_n hx hb dX3_mixSchedule_159 rfl (lv_at hl 4 rfl) ?_
        refine lv_bipush (v := nI 22) hx hb dX3_mixSchedule_160 (by decide) ?_
        refine cl_i hw [] rfl (rn_S F hw (c_X3_turn g l (mx fst fsc k 0) 22 (by omega)) (cw_X3_51 F.2.2.2.2 ⟨by decide, by decide⟩) [] (by decide) rfl hl.1 rfl (Nat.le_of_ble_eq_true rfl) dX3_mixSchedule_162 ⟨Nat.zero_le _, Nat.zero_le _⟩) (fun _ => rfl) (fun v_17 u_16 H locs hp_18 hw => ?_)
        subst hp_18
        replace hw : Wd g s A H locs [(h0, .inr (2, [.ref b0, .ref b1, .ref b2, .ref b3])), (b2, iA g 64 fsc), (b3, iA g 8 fst)] := hw
        refine lv_ixor hx hb dX3_mixSchedule_165 ?_
        refine lv_iload hx hb dX3_mixSchedule_166 (lv_at hl 1 rfl) ?_
        refine lv_iadd hx hb dX3_mixSchedule_168 ?_
        refine tp_i (y := upS (mx fst fsc k 0) (mx fst fsc k 1) (mx fst fsc k 2)) rfl ?_
        refine lv_istore (lv' := [(13, .int ((upS (mx fst fsc k 0) (mx fst fsc k 1) (mx fst fsc k 2)))), (12, .int ((loS (mx fst fsc k 4) (mx fst fsc k 5) (mx fst fsc k 6) (mx fst fsc k 7) (kR k) (fsc k)))), (11, .int ((mj3 (mx fst fsc k 0) (mx fst fsc k 1) (mx fst fsc k 2)))), (10, .int ((ch3 (mx fst fsc k 4) (mx fst fsc k 5) (mx fst fsc k 6)))), (0, .ref h0), (1, .int ((mx fst fsc k 0))), (2, .int ((mx fst fsc k 1))), (3, .int ((mx fst fsc k 2))), (4, .int ((mx fst fsc k 3))), (5, .int ((mx fst fsc k 4))), (6, .int ((mx fst fsc k 5))), (7, .int ((mx fst fsc k 6))), (8, .int ((mx fst fsc k 7))), (9, .int (nI k))]) hx hb dX3_mixSchedule_169 hl (by decide) rfl (fun ls hl => ?_)
        refine lv_iload hx hb dX3_mixSchedule_171 (lv_at hl 11 rfl) ?_
        refine lv_istore (lv' := [(8, .int ((mx fst fsc k 6))), (13, .int ((upS (mx fst fsc k 0) (mx fst fsc k 1) (mx fst fsc k 2)))), (12, .int ((loS (mx fst fsc k 4) (mx fst fsc k 5) (mx fst fsc k 6) (mx fst fsc k 7) (kR k) (fsc k)))), (11, .int ((mj3 (mx fst fsc k 0) (mx fst fsc k 1) (mx fst fsc k 2)))), (10, .int ((ch3 (mx fst fsc k 4) (mx fst fsc k 5) (mx fst fsc k 6)))), (0, .ref h0), (1, .int ((mx fst fsc k 0))), (2, .int ((mx fst fsc k 1))), (3, .int ((mx fst fsc k 2))), (4, .int ((mx fst fsc k 3))), (5, .int ((mx fst fsc k 4))), (6, .int ((mx fst fsc k 5))), (7, .int ((mx fst fsc k 6))), (9, .int (nI k))]) hx hb dX3_mixSchedule_173 hl (by decide) rfl (fun ls hl => ?_)
        refine lv_iload hx hb dX3_mixSchedule_175 (lv_at hl 11 rfl) ?_
        refine lv_istore (lv' := [(7, .int ((mx fst fsc k 5))), (8, .int ((mx fst fsc k 6))), (13, .int ((upS (mx fst fsc k 0) (mx fst fsc k 1) (mx fst fsc k 2)))), (12, .int ((loS (mx fst fsc k 4) (mx fst fsc k 5) (mx fst fsc k 6) (mx fst fsc k 7) (kR k) (fsc k)))), (11, .int ((mj3 (mx fst fsc k 0) (mx fst fsc k 1) (mx fst fsc k 2)))), (10, .int ((ch3 (mx fst fsc k 4) (mx fst fsc k 5) (mx fst fsc k 6)))), (0, .ref h0), (1, .int ((mx fst fsc k 0))), (2, .int ((mx fst fsc k 1))), (3, .int ((mx fst fsc k 2))), (4, .int ((mx fst fsc k 3))), (5, .int ((mx fst fsc k 4))), (6, .int ((mx fst fsc k 5))), (9, .int (nI k))]) hx hb dX3_mixSchedule_177 hl (by decide) rfl (fun ls hl => ?_)
        refine lv_iload hx hb dX3_mixSchedule_179 (lv_at hl 11 rfl) ?_
        refine lv_istore (lv' := [(6, .int ((mx fst fsc k 4))), (7, .int ((mx fst fsc k 5))), (8, .int ((mx fst fsc k 6))), (13, .int ((upS (mx fst fsc k 0) (mx fst fsc k 1) (mx fst fsc k 2)))), (12, .int ((loS (mx fst fsc k 4) (mx fst fsc k 5) (mx fst fsc k 6) (mx fst fsc k 7) (kR k) (fsc k)))), (11, .int ((mj3 (mx fst fsc k 0) (mx fst fsc k 1) (mx fst fsc k 2)))), (10, .int ((ch3 (mx fst fsc k 4) (mx fst fsc k 5) (mx fst fsc k 6)))), (0, .ref h0), (1, .int ((mx fst fsc k 0))), (2, .int ((mx fst fsc k 1))), (3, .int ((mx fst fsc k 2))), (4, .int ((mx fst fsc k 3))), (5, .int ((mx fst fsc k 4))), (9, .int (nI k))]) hx hb dX3_mixSchedule_181 hl (by decide) rfl (fun ls hl => ?_)
        refine lv_iload hx hb dX3_mixSchedule_183 (lv_at hl 11 rfl) ?_
        refine lv_iload hx hb dX3_mixSchedule_185 (lv_at hl 4 rfl) ?_
        refine lv_iadd hx hb dX3_mixSchedule_187 ?_
        refine lv_istore (lv' := [(5, .int (((mx fst fsc k 3) + (loS (mx fst fsc k 4) (mx fst fsc k 5) (mx fst fsc k 6) (mx fst fsc k 7) (kR k) (fsc k))))), (6, .int ((mx fst fsc k 4))), (7, .int ((mx fst fsc k 5))), (8, .int ((mx fst fsc k 6))), (13, .int ((upS (mx fst fsc k 0) (mx fst fsc k 1) (mx fst fsc k 2)))), (12, .int ((loS (mx fst fsc k 4) (mx fst fsc k 5) (mx fst fsc k 6) (mx fst fsc k 7) (kR k) (fsc k)))), (11, .int ((mj3 (mx fst fsc k 0) (mx fst fsc k 1) (mx fst fsc k 2)))), (10, .int ((ch3 (mx fst fsc k 4) (mx fst fsc k 5) (mx fst fsc k 6)))), (0, .ref h0), (1, .int ((mx fst fsc k 0))), (2, .int ((mx fst fsc k 1))), (3, .int ((mx fst fsc k 2))), (4, .int ((mx fst fsc k 3))), (9, .int (nI k))]) hx hb dX3_mixSchedule_188 hl (by decide) rfl (fun ls hl => ?_)
        refine lv_iload_n hx hb dX3_mixSchedule_190 rfl (lv_at hl 11 rfl) ?_
        refine lv_istore (lv' := [(4, .int ((mx fst fsc k 2))), (5, .int (((mx fst fsc k 3) + (loS (mx fst fsc k 4) (mx fst fsc k 5) (mx fst fsc k 6) (mx fst fsc k 7) (kR k) (fsc k))))), (6, .int ((mx fst fsc k 4))), (7, .int ((mx fst fsc k 5))), (8, .int ((mx fst fsc k 6))), (13, .int ((upS (mx fst fsc k 0) (mx fst fsc k 1) (mx fst fsc k 2)))), (12, .int ((loS (mx fst fsc k 4) (mx fst fsc k 5) (mx fst fsc k 6) (mx fst fsc k 7) (kR k) (fsc k)))), (11, .int ((mj3 (mx fst fsc k 0) (mx fst fsc k 1) (mx fst fsc k 2)))), (10, .int ((ch3 (mx fst fsc k 4) (mx fst fsc k 5) (mx fst fsc k 6)))), (0, .ref h0), (1, .int ((mx fst fsc k 0))), (2, .int ((mx fst fsc k 1))), (3, .int ((mx fst fsc k 2))), (9, .int (nI k))]) hx hb dX3_mixSchedule_191 hl (by decide) rfl (fun ls hl => ?_)
        refine lv_iload_n hx hb dX3_mixSchedule_193 rfl (lv_at hl 11 rfl) ?_
        refine lv_istore_n (lv' := [(3, .int ((mx fst fsc k 1))), (4, .int ((mx fst fsc k 2))), (5, .int (((mx fst fsc k 3) + (loS (mx fst fsc k 4) (mx fst fsc k 5) (mx fst fsc k 6) (mx fst fsc k 7) (kR k) (fsc k))))), (6, .int ((mx fst fsc k 4))), (7, .int ((mx fst fsc k 5))), (8, .int ((mx fst fsc k 6))), (13, .int ((upS (mx fst fsc k 0) (mx fst fsc k 1) (mx fst fsc k 2)))), (12, .int ((loS (mx fst fsc k 4) (mx fst fsc k 5) (mx fst fsc k 6) (mx fst fsc k 7) (kR k) (fsc k)))), (11, .int ((mj3 (mx fst fsc k 0) (mx fst fsc k 1) (mx fst fsc k 2)))), (10, .int ((ch3 (mx fst fsc k 4) (mx fst fsc k 5) (mx fst fsc k 6)))), (0, .ref h0), (1, .int ((mx fst fsc k 0))), (2, .int ((mx fst fsc k 1))), (9, .int (nI k))]) hx hb dX3_mixSchedule_194 rfl hl (by decide) rfl (fun ls hl => ?_)
        refine lv_iload_n hx hb dX3_mixSchedule_195 rfl (lv_at hl 11 rfl) ?_
        refine lv_istore_n (lv' := [(2, .int ((mx fst fsc k 0))), (3, .int ((mx fst fsc k 1))), (4, .int ((mx fst fsc k 2))), (5, .int (((mx fst fsc k 3) + (loS (mx fst fsc k 4) (mx fst fsc k 5) (mx fst fsc k 6) (mx fst fsc k 7) (kR k) (fsc k))))), (6, .int ((mx fst fsc k 4))), (7, .int ((mx fst fsc k 5))), (8, .int ((mx fst fsc k 6))), (13, .int ((upS (mx fst fsc k 0) (mx fst fsc k 1) (mx fst fsc k 2)))), (12, .int ((loS (mx fst fsc k 4) (mx fst fsc k 5) (mx fst fsc k 6) (mx fst fsc k 7) (kR k) (fsc k)))), (11, .int ((mj3 (mx fst fsc k 0) (mx fst fsc k 1) (mx fst fsc k 2)))), (10, .int ((ch3 (mx fst fsc k 4) (mx fst fsc k 5) (mx fst fsc k 6)))), (0, .ref h0), (1, .int ((mx fst fsc k 0))), (9, .int (nI k))]) hx hb dX3_mixSchedule_196 rfl hl (by decide) rfl (fun ls hl => ?_)
        refine lv_iload hx hb dX3_mixSchedule_197 (lv_at hl 8 rfl) ?_
        refine lv_iload hx hb dX3_mixSchedule_199 (lv_at hl 7 rfl) ?_
        refine lv_iadd hx hb dX3_mixSchedule_201 ?_
        refine lv_istore_n (lv' := [(1, .int (((loS (mx fst fsc k 4) (mx fst fsc k 5) (mx fst fsc k 6) (mx fst fsc k 7) (kR k) (fsc k)) + (upS (mx fst fsc k 0) (mx fst fsc k 1) (mx fst fsc k 2))))), (2, .int ((mx fst fsc k 0))), (3, .int ((mx fst fsc k 1))), (4, .int ((mx fst fsc k 2))), (5, .int (((mx fst fsc k 3) + (loS (mx fst fsc k 4) (mx fst fsc k 5) (mx fst fsc k 6) (mx fst fsc k 7) (kR k) (fsc k))))), (6, .int ((mx fst fsc k 4))), (7, .int ((mx fst fsc k 5))), (8, .int ((mx fst fsc k 6))), (13, .int ((upS (mx fst fsc k 0) (mx fst fsc k 1) (mx fst fsc k 2)))), (12, .int ((loS (mx fst fsc k 4) (mx fst fsc k 5) (mx fst fsc k 6) (mx fst fsc k 7) (kR k) (fsc k)))), (11, .int ((mj3 (mx fst fsc k 0) (mx fst fsc k 1) (mx fst fsc k 2)))), (10, .int ((ch3 (mx fst fsc k 4) (mx fst fsc k 5) (mx fst fsc k 6)))), (0, .ref h0), (9, .int (nI k))]) hx hb dX3_mixSchedule_202 rfl hl (by decide) rfl (fun ls hl => ?_)
        refine lv_iinc (v := nI (k + 1)) (lv' := [(9, .int (nI (k + 1))), (1, .int (((loS (mx fst fsc k 4) (mx fst fsc k 5) (mx fst fsc k 6) (mx fst fsc k 7) (kR k) (fsc k)) + (upS (mx fst fsc k 0) (mx fst fsc k 1) (mx fst fsc k 2))))), (2, .int ((mx fst fsc k 0))), (3, .int ((mx fst fsc k 1))), (4, .int ((mx fst fsc k 2))), (5, .int (((mx fst fsc k 3) + (loS (mx fst fsc k 4) (mx fst fsc k 5) (mx fst fsc k 6) (mx fst fsc k 7) (kR k) (fsc k))))), (6, .int ((mx fst fsc k 4))), (7, .int ((mx fst fsc k 5))), (8, .int ((mx fst fsc k 6))), (13, .int ((upS (mx fst fsc k 0) (mx fst fsc k 1) (mx fst fsc k 2)))), (12, .int ((loS (mx fst fsc k 4) (mx fst fsc k 5) (mx fst fsc k 6) (mx fst fsc k 7) (kR k) (fsc k)))), (11, .int ((mj3 (mx fst fsc k 0) (mx fst fsc k 1) (mx fst fsc k 2)))), (10, .int ((ch3 (mx fst fsc k 4) (mx fst fsc k 5) (mx fst fsc k 6)))), (0, .ref h0)]) hx hb dX3_mixSchedule_203 hl (k := 13) rfl (inc_n _ 1) (by decide) rfl (fun ls hl => ?_)
        refine lv_goto (tgt := 66) hx hb dX3_mixSchedule_206 (by decide) ?_
        exact ih (k + 1) (by omega) (by omega) _ _ _ hw (lv_sub hl [13, 1, 2, 3, 4, 5, 6, 7, 8, 0] rfl)
  exact L_66 (64 + 1) 0 (by omega) (by omega) _ _ _ hw (lv_sub hl [9, 8, 7, 6, 5, 4, 3, 2, 1, 0] rfl)
theorem cmp1_congr {st st' u1 u2 B : Nat → Int32} {fr : Nat} (h : ∀ i, i < 8 → st i = st' i) (h1 : ∀ t, t < 64 → u1 t = w64 B fr t) (h2 : ∀ i, i < 8 → u2 i = st i + mx st u1 64 i) : ∀ i, i < 8 → u2 i = cmp1 st' B fr i := by
  intro i hi
  rw [h2 i hi, h i hi]
  show _ + _ = st' i + mx st' (w64 B fr) 64 i
  rw [mx_congr h h1 64 (Nat.le_refl _) i hi]
theorem cpyS (f : Nat → Int32) : ∀ i, i < 8 → va_cpy kS f 0 0 8 i = kS i := fun i hi => by rw [pk_cpy_in (by omega) (by omega)]; simp
set_option maxHeartbeats 4000000 in
set_option maxRecDepth 100000 in
theorem c_X3_hashBlocks (g : GG) (l : Launch) (h0 : Nat) (b0 : Nat) (b1 : Nat) (b2 : Nat) (b3 : Nat) (fB : Nat → Int32) (fb : Nat → Int32) (fs : Nat → Int32) (fst : Nat → Int32) : Ct g l yX3_hashBlocks cX3_hashBlocks 2 none 2 54 [.ref h0] [(h0, .inr (2, [.ref b0, .ref b1, .ref b2, .ref b3])), (b0, iA g 32 fB), (b1, iA g 128 fb), (b2, iA g 64 fs), (b3, iA g 8 fst)] (Rv g (fun (u : (Nat → Int32) × (Nat → Int32) × (Nat → Int32)) => ∀ j, j < 32 → u.1 j = hsh fb j) (fun (u : (Nat → Int32) × (Nat → Int32) × (Nat → Int32)) => [(h0, .inr (2, [.ref b0, .ref b1, .ref b2, .ref b3])), (b0, iA g 32 u.1), (b1, iA g 128 fb), (b2, iA g 64 u.2.1), (b3, iA g 8 u.2.2)])) := by
  refine mkC (by decide) (Nat.le_of_ble_eq_true rfl) ?_
  intro p e s m args below meth c A ls QQ F hr hlk hnm hQ hw hl
  have hx := F.1
  have hb := F.2.1
  replace hl : lv_has ls 2 [(0, .ref h0)] := hl
  refine gs_X3_29 F hw dX3_hashBlocks_0 ?_
  refine lv_iconst (v := nI 0) hx hb dX3_hashBlocks_3 (by decide) ?_
  refine lv_aload_n hx hb dX3_hashBlocks_4 rfl (lv_at hl 0 rfl) ?_
  refine gf_X3_19 F hw 0 rfl rfl dX3_hashBlocks_5 ?_
  refine lv_iconst (v := nI 0) hx hb dX3_hashBlocks_8 (by decide) ?_
  refine lv_aload_n hx hb dX3_hashBlocks_9 rfl (lv_at hl 0 rfl) ?_
  refine gf_X3_19 F hw 0 rfl rfl dX3_hashBlocks_10 ?_
  refine ia_len F hw 4 rfl dX3_hashBlocks_13 ?_
  refine cp_S F hw 4 rfl (by decide) hl.1 (by decide) (by decide) dX3_hashBlocks_14 (fun H locs hw => ?_)
  replace hw : Wd g s A H locs [(h0, .inr (2, [.ref b0, .ref b1, .ref b2, .ref b3])), (b0, iA g 32 fB), (b1, iA g 128 fb), (b2, iA g 64 fs), (b3, iA g 8 (va_cpy kS fst 0 0 8))] := hw
  refine lv_aload_n hx hb dX3_hashBlocks_17 rfl (lv_at hl 0 rfl) ?_
  refine lv_iconst (v := nI 0) hx hb dX3_hashBlocks_18 (by decide) ?_
  refine cl_v hw [0, 2, 3] rfl (rn_V F hw (c_X3_fillSchedule g l h0 b0 b1 b2 b3 fb fs 0 (by omega)) (cw_X3_38 F.2.2.2.2 ⟨by decide, by decide⟩) [0, 2, 3] (by decide) rfl 0 rfl rfl rfl hl.1 rfl (Nat.le_of_ble_eq_true rfl) dX3_hashBlocks_19 ⟨Nat.zero_le _, Nat.zero_le _⟩) (fun _ => rfl) (fun u_1 H locs hp_3 hw => ?_)
  replace hw : Wd g s A H locs [(h0, .inr (2, [.ref b0, .ref b1, .ref b2, .ref b3])), (b0, iA g 32 fB), (b1, iA g 128 fb), (b2, iA g 64 u_1), (b3, iA g 8 (va_cpy kS fst 0 0 8))] := hw
  have q1 := hp_3
  refine lv_aload_n hx hb dX3_hashBlocks_22 rfl (lv_at hl 0 rfl) ?_
  refine cl_v hw [0, 3, 4] rfl (rn_V F hw (c_X3_mixSchedule g l h0 b0 b1 b2 b3 u_1 (va_cpy kS fst 0 0 8)) (cw_X3_42 F.2.2.2.2 ⟨by decide, by decide⟩) [0, 3, 4] (by decide) rfl 0 rfl rfl rfl hl.1 rfl (Nat.le_of_ble_eq_true rfl) dX3_hashBlocks_23 ⟨Nat.zero_le _, Nat.zero_le _⟩) (fun _ => rfl) (fun u_4 H locs hp_6 hw => ?_)
  replace hw : Wd g s A H locs [(h0, .inr (2, [.ref b0, .ref b1, .ref b2, .ref b3])), (b0, iA g 32 fB), (b1, iA g 128 fb), (b2, iA g 64 u_1), (b3, iA g 8 u_4)] := hw
  have q2 := hp_6
  refine lv_aload_n hx hb dX3_hashBlocks_26 rfl (lv_at hl 0 rfl) ?_
  refine lv_bipush (v := nI 64) hx hb dX3_hashBlocks_27 (by decide) ?_
  refine cl_v hw [0, 2, 3] rfl (rn_V F hw (c_X3_fillSchedule g l h0 b0 b1 b2 b3 fb u_1 64 (by omega)) (cw_X3_38 F.2.2.2.2 ⟨by decide, by decide⟩) [0, 2, 3] (by decide) rfl 0 rfl rfl rfl hl.1 rfl (Nat.le_of_ble_eq_true rfl) dX3_hashBlocks_29 ⟨Nat.zero_le _, Nat.zero_le _⟩) (fun _ => rfl) (fun u_7 H locs hp_9 hw => ?_)
  replace hw : Wd g s A H locs [(h0, .inr (2, [.ref b0, .ref b1, .ref b2, .ref b3])), (b0, iA g 32 fB), (b1, iA g 128 fb), (b2, iA g 64 u_7), (b3, iA g 8 u_4)] := hw
  have q3 := hp_9
  refine lv_aload_n hx hb dX3_hashBlocks_32 rfl (lv_at hl 0 rfl) ?_
  refine cl_v hw [0, 3, 4] rfl (rn_V F hw (c_X3_mixSchedule g l h0 b0 b1 b2 b3 u_7 u_4) (cw_X3_42 F.2.2.2.2 ⟨by decide, by decide⟩) [0, 3, 4] (by decide) rfl 0 rfl rfl rfl hl.1 rfl (Nat.le_of_ble_eq_true rfl) dX3_hashBlocks_33 ⟨Nat.zero_le _, Nat.zero_le _⟩) (fun _ => rfl) (fun u_10 H locs hp_12 hw => ?_)
  replace hw : Wd g s A H locs [(h0, .inr (2, [.ref b0, .ref b1, .ref b2, .ref b3])), (b0, iA g 32 fB), (b1, iA g 128 fb), (b2, iA g 64 u_7), (b3, iA g 8 u_10)] := hw
  have q4 := hp_12
  refine lv_iconst (v := nI 0) hx hb dX3_hashBlocks_36 (by decide) ?_
  refine lv_istore_n (lv' := [(1, .int (nI 0)), (0, .ref h0)]) hx hb dX3_hashBlocks_37 rfl hl (by decide) rfl (fun ls hl => ?_)
  have L_38 : ∀ (nn k : Nat), k ≤ 32 → 32 < k + nn → ∀ (H : Heap) (locs : List Loc) (ls : Array Slot), Wd g s A H locs [(h0, .inr (2, [.ref b0, .ref b1, .ref b2, .ref b3])), (b0, iA g 32 (hb1 u_10 fB k)), (b1, iA g 128 fb), (b2, iA g 64 u_7), (b3, iA g 8 u_10)] → lv_has ls 2 [(0, .ref h0), (1, .int (nI k))] → W p l e (rmm 2 54) s m args below meth c H locs 0 0 QQ (F0 m 38 ls []) := by
    intro nn
    induction nn with
    | zero => intro k h1 h2; exact absurd h2 (by omega)
    | succ nn ih =>
      intro k hk_k hn_k H locs ls hw hl
      refine lv_iload_n hx hb dX3_hashBlocks_38 rfl (lv_at hl 1 rfl) ?_
      refine lv_bipush (v := nI 32) hx hb dX3_hashBlocks_39 (by decide) ?_
      refine n_ge (tgt := 70) hx hb (by omega) (by omega) dX3_hashBlocks_41 (by decide) (fun c_41 => ?_) (fun c_41 => ?_)
      · obtain rfl : k = 32 := by omega
        exact rt_v F hr hlk hQ hw (hb1 u_10 fB 32, u_7, u_10) (fun j hj => by show hb1 _ _ 32 j = _; rw [hb1_get _ _ 32 j hj]; show _ = byO (cmp1 (cmp1 kS fb 0) fb 64 (j / 4)) (j % 4); rw [cmp1_congr (cmp1_congr (cpyS fst) q1 q2) q3 q4 (j / 4) (by omega)]) rfl dX3_hashBlocks_70
      · refine lv_aload_n hx hb dX3_hashBlocks_44 rfl (lv_at hl 0 rfl) ?_
        refine gf_X3_9 F hw 0 rfl rfl dX3_hashBlocks_45 ?_
        refine lv_iload_n hx hb dX3_hashBlocks_48 rfl (lv_at hl 1 rfl) ?_
        refine lv_aload_n hx hb dX3_hashBlocks_49 rfl (lv_at hl 0 rfl) ?_
        refine gf_X3_19 F hw 0 rfl rfl dX3_hashBlocks_50 ?_
        refine lv_iload_n hx hb dX3_hashBlocks_53 rfl (lv_at hl 1 rfl) ?_
        refine lv_iconst (v := nI 4) hx hb dX3_hashBlocks_54 (by decide) ?_
        refine n_div hx hb (by omega) (by omega) (by omega) dX3_hashBlocks_55 ?_
        refine ia_ld F hw 4 rfl (by omega) (by omega) dX3_hashBlocks_56 ?_
        refine lv_iload_n hx hb dX3_hashBlocks_57 rfl (lv_at hl 1 rfl) ?_
        refine lv_iconst (v := nI 4) hx hb dX3_hashBlocks_58 (by decide) ?_
        refine n_rem hx hb (by omega) (by omega) (by omega) dX3_hashBlocks_59 ?_
        refine cl_i hw [] rfl (rn_N F hw (c_X7_byteOf g l (u_10 (k / 4)) (k % 4) (by omega)) (cw_X3_45 hw F.2.2.2.2 ⟨by decide, by decide⟩) [] (by decide) rfl hl.1 rfl (Nat.le_of_ble_eq_true rfl) dX3_hashBlocks_60 ⟨Nat.zero_le _, Nat.zero_le _⟩) (fun _ => rfl) (fun v_14 u_13 H locs hp_15 hw => ?_)
        subst hp_15
        replace hw : Wd g s A H locs [(h0, .inr (2, [.ref b0, .ref b1, .ref b2, .ref b3])), (b0, iA g 32 (hb1 u_10 fB k)), (b1, iA g 128 fb), (b2, iA g 64 u_7), (b3, iA g 8 u_10)] := hw
        refine ia_st F hw 1 rfl (by omega) (by omega) dX3_hashBlocks_63 (fun H locs hw => ?_)
        replace hw : Wd g s A H locs [(h0, .inr (2, [.ref b0, .ref b1, .ref b2, .ref b3])), (b0, iA g 32 (upd (hb1 u_10 fB k) k (byO (u_10 (k / 4)) (k % 4)))), (b1, iA g 128 fb), (b2, iA g 64 u_7), (b3, iA g 8 u_10)] := hw
        refine lv_iinc (v := nI (k + 1)) (lv' := [(1, .int (nI (k + 1))), (0, .ref h0)]) hx hb dX3_hashBlocks_64 hl (k := 1) rfl (inc_n _ 1) (by decide) rfl (fun ls hl => ?_)
        refine lv_goto (tgt := 38) hx hb dX3_hashBlocks_67 (by decide) ?_
        exact ih (k + 1) (by omega) (by omega) _ _ _ hw (lv_sub hl [1, 0] rfl)
  exact L_38 (32 + 1) 0 (by omega) (by omega) _ _ _ hw (lv_sub hl [1, 0] rfl)
def fb1 (fk : Nat → Int32) (nk : Nat) (pad : Int32) (f0 : Nat → Int32) : Nat → Nat → Int32
  | 0 => f0
  | k + 1 => upd (fb1 fk nk pad f0 k) k ((if k < nk then fk k else nI 0) ^^^ pad)
theorem fb1_t {fk : Nat → Int32} {nk : Nat} {pad : Int32} {f0 : Nat → Int32} {k : Nat} (h : k < nk) : fb1 fk nk pad f0 (k + 1) = upd (fb1 fk nk pad f0 k) k (fk k ^^^ pad) := by simp only [fb1, h, if_true]
theorem fb1_f {fk : Nat → Int32} {nk : Nat} {pad : Int32} {f0 : Nat → Int32} {k : Nat} (h : nk ≤ k) : fb1 fk nk pad f0 (k + 1) = upd (fb1 fk nk pad f0 k) k (nI 0 ^^^ pad) := by simp only [fb1, Nat.not_lt.mpr h, if_false]
def fb2 (fm : Nat → Int32) (len : Nat) (f0 : Nat → Int32) : Nat → Nat → Int32
  | 0 => f0
  | k + 1 => upd (fb2 fm len f0 k) (64 + k) (if k < len then fm k else nI 0)
theorem fb2_t {fm : Nat → Int32} {len : Nat} {f0 : Nat → Int32} {k : Nat} (h : k < len) : fb2 fm len f0 (k + 1) = upd (fb2 fm len f0 k) (64 + k) (fm k) := by simp only [fb2, h, if_true]
theorem fb2_f {fm : Nat → Int32} {len : Nat} {f0 : Nat → Int32} {k : Nat} (h : len ≤ k) : fb2 fm len f0 (k + 1) = upd (fb2 fm len f0 k) (64 + k) (nI 0) := by simp only [fb2, Nat.not_lt.mpr h, if_false]
/-- the two blocks that are hashed, byte by byte -/
def blk (fk : Nat → Int32) (nk : Nat) (pad : Int32) (fm : Nat → Int32) (len j : Nat) : Int32 :=
  if j < 64 then (if j < nk then fk j else nI 0) ^^^ pad else if j = 127 then nI (8 * (64 + len)) &&& nI 255 else if j = 126 then ushr (nI (8 * (64 + len))) (nI 8) else if j = 64 + len then nI 128 else if j - 64 < len then fm (j - 64) else nI 0
theorem fb1_get (fk : Nat → Int32) (nk : Nat) (pad : Int32) (f0 : Nat → Int32) : ∀ k t, t < k → fb1 fk nk pad f0 k t = (if t < nk then fk t else nI 0) ^^^ pad := by
  intro k
  induction k with
  | zero => intro t h; omega
  | succ k ih =>
    intro t h
    show upd (fb1 fk nk pad f0 k) k _ t = _
    by_cases e : t = k
    · subst e; rw [upd_s]
    · rw [upd_n _ _ e]; exact ih t (by omega)
theorem fb2_get (fm : Nat → Int32) (len : Nat) (f0 : Nat → Int32) : ∀ k t, fb2 fm len f0 k t = if 64 ≤ t ∧ t < 64 + k then (if t - 64 < len then fm (t - 64) else nI 0) else f0 t := by
  intro k
  induction k with
  | zero => intro t; rw [if_neg (by omega)]; rfl
  | succ k ih =>
    intro t
    show upd (fb2 fm len f0 k) (64 + k) _ t = _
    by_cases e : t = 64 + k
    · subst e; rw [upd_s, if_pos (show 64 ≤ 64 + k ∧ 64 + k < 64 + (k + 1) by omega), show 64 + k - 64 = k by omega]
    · rw [upd_n _ _ e, ih t]
      by_cases h : 64 ≤ t ∧ t < 64 + k
      · rw [if_pos h, if_pos (show 64 ≤ t ∧ t < 64 + (k + 1) by omega)]
      · rw [if_neg h, if_neg (show ¬ (64 ≤ t ∧ t < 64 + (k + 1)) by omega)]
theorem blk_of (fk : Nat → Int32) (nk : Nat) (pad : Int32) (fm f0 : Nat → Int32) (len : Nat) (hl : len ≤ 40) : ∀ j, j < 128 → upd (upd (upd (fb2 fm len (fb1 fk nk pad f0 64) 64) (64 + len) (nI 128)) 126 (ushr (nI (8 * (64 + len))) (nI 8))) 127 (nI (8 * (64 + len)) &&& nI 255) j = blk fk nk pad fm len j := by
  intro j hj
  unfold blk
  by_cases h0 : j < 64
  · rw [if_pos h0, upd_n _ _ (by omega), upd_n _ _ (by omega), upd_n _ _ (by omega), fb2_get, if_neg (by omega), fb1_get _ _ _ _ 64 j h0]
  · rw [if_neg h0]
    by_cases h1 : j = 127
    · subst h1; rw [if_pos rfl, upd_s]
    · rw [if_neg h1, upd_n _ _ h1]
      by_cases h2 : j = 126
      · subst h2; rw [if_pos rfl, upd_s]
      · rw [if_neg h2, upd_n _ _ h2]
        by_cases h3 : j = 64 + len
        · subst h3; rw [if_pos rfl, upd_s]
        · rw [if_neg h3, upd_n _ _ h3, fb2_get, if_pos (by omega)]
set_option maxHeartbeats 4000000 in
set_option maxRecDepth 100000 in
theorem c_X3_fillBlocks (g : GG) (l : Launch) (h0 : Nat) (b0 : Nat) (b1 : Nat) (b2 : Nat) (b3 : Nat) (ka : Nat) (ma : Nat) (nk : Nat) (nm : Nat) (fb : Nat → Int32) (fk : Nat → Int32) (fm : Nat → Int32) (pad : Int32) (len : Nat) (hnk : nk < 2 ^ 31) (hnm : nm < 2 ^ 31) (hl1 : len ≤ nm) (hl2 : len ≤ 40) : Ct g l yX3_fillBlocks cX3_fillBlocks 6 none 0 0 [.ref h0, .ref ka, .int pad, .ref ma, .int (nI len)] [(h0, .inr (2, [.ref b0, .ref b1, .ref b2, .ref b3])), (b1, iA g 128 fb), (ka, iA g nk fk), (ma, iA g nm fm)] (Rv g (fun (u : Nat → Int32) => ∀ j, j < 128 → u j = blk fk nk pad fm len j) (fun (u : Nat → Int32) => [(h0, .inr (2, [.ref b0, .ref b1, .ref b2, .ref b3])), (b1, iA g 128 u), (ka, iA g nk fk), (ma, iA g nm fm)])) := by
  refine mkC (by decide) (Nat.le_of_ble_eq_true rfl) ?_
  intro p e s m args below meth c A ls QQ F hr hlk hnm hQ hw hl
  have hx := F.1
  have hb := F.2.1
  replace hl : lv_has ls 6 [(0, .ref h0), (1, .ref ka), (2, .int pad), (3, .ref ma), (4, .int (nI len))] := hl
  refine lv_iconst (v := nI 0) hx hb dX3_fillBlocks_0 (by decide) ?_
  refine lv_istore (lv' := [(5, .int (nI 0)), (0, .ref h0), (1, .ref ka), (2, .int pad), (3, .ref ma), (4, .int (nI len))]) hx hb dX3_fillBlocks_1 hl (by decide) rfl (fun ls hl => ?_)
  have L_3 : ∀ (nn k : Nat), k ≤ 64 → 64 < k + nn → ∀ (H : Heap) (locs : List Loc) (ls : Array Slot), Wd g s A H locs [(h0, .inr (2, [.ref b0, .ref b1, .ref b2, .ref b3])), (b1, iA g 128 (fb1 fk nk pad fb k)), (ka, iA g nk fk), (ma, iA g nm fm)] → lv_has ls 6 [(0, .ref h0), (1, .ref ka), (2, .int pad), (3, .ref ma), (4, .int (nI len)), (5, .int (nI k))] → W p l e (rmm 0 0) s m args below meth c H locs 0 0 QQ (F0 m 3 ls []) := by
    intro nn
    induction nn with
    | zero => intro k h1 h2; exact absurd h2 (by omega)
    | succ nn ih =>
      intro k hk_k hn_k H locs ls hw hl
      refine lv_iload hx hb dX3_fillBlocks_3 (lv_at hl 5 rfl) ?_
      refine lv_bipush (v := nI 64) hx hb dX3_fillBlocks_5 (by decide) ?_
      refine n_ge (tgt := 40) hx hb (by omega) (by omega) dX3_fillBlocks_7 (by decide) (fun c_7 => ?_) (fun c_7 => ?_)
      · obtain rfl : k = 64 := by omega
        refine lv_iconst (v := nI 0) hx hb dX3_fillBlocks_40 (by decide) ?_
        refine lv_istore (lv' := [(5, .int (nI 0)), (0, .ref h0), (1, .ref ka), (2, .int pad), (3, .ref ma), (4, .int (nI len))]) hx hb dX3_fillBlocks_41 hl (by decide) rfl (fun ls hl => ?_)
        have L_43 : ∀ (nn j : Nat), j ≤ 64 → 64 < j + nn → ∀ (H : Heap) (locs : List Loc) (ls : Array Slot), Wd g s A H locs [(h0, .inr (2, [.ref b0, .ref b1, .ref b2, .ref b3])), (b1, iA g 128 (fb2 fm len (fb1 fk nk pad fb 64) j)), (ka, iA g nk fk), (ma, iA g nm fm)] → lv_has ls 6 [(0, .ref h0), (1, .ref ka), (2, .int pad), (3, .ref ma), (4, .int (nI len)), (5, .int (nI j))] → W p l e (rmm 0 0) s m args below meth c H locs 0 0 QQ (F0 m 43 ls []) := by
          intro nn
          induction nn with
          | zero => intro j h1 h2; exact absurd h2 (by omega)
          | succ nn ih =>
            intro j hk_j hn_j H locs ls hw hl
            refine lv_iload hx hb dX3_fillBlocks_43 (lv_at hl 5 rfl) ?_
            refine lv_bipush (v := nI 64) hx hb dX3_fillBlocks_45 (by decide) ?_
            refine n_ge (tgt := 81) hx hb (by omega) (by omega) dX3_fillBlocks_47 (by decide) (fun c_47 => ?_) (fun c_47 => ?_)
            · obtain rfl : j = 64 := by omega
              refine lv_aload_n hx hb dX3_fillBlocks_81 rfl (lv_at hl 0 rfl) ?_
              refine gf_X3_13 F hw 0 rfl rfl dX3_fillBlocks_82 ?_
              refine lv_bipush (v := nI 64) hx hb dX3_fillBlocks_85 (by decide) ?_
              refine lv_iload hx hb dX3_fillBlocks_87 (lv_at hl 4 rfl) ?_
              refine n_add hx hb dX3_fillBlocks_89 ?_
              refine lv_sipush (v := nI 128) hx hb dX3_fillBlocks_90 (by decide) ?_
              refine ia_st F hw 1 rfl (by omega) (by omega) dX3_fillBlocks_93 (fun H locs hw => ?_)
              replace hw : Wd g s A H locs [(h0, .inr (2, [.ref b0, .ref b1, .ref b2, .ref b3])), (b1, iA g 128 (upd (fb2 fm len (fb1 fk nk pad fb 64) 64) (64 + len) (nI 128))), (ka, iA g nk fk), (ma, iA g nm fm)] := hw
              refine lv_bipush (v := nI 8) hx hb dX3_fillBlocks_94 (by decide) ?_
              refine lv_bipush (v := nI 64) hx hb dX3_fillBlocks_96 (by decide) ?_
              refine lv_iload hx hb dX3_fillBlocks_98 (lv_at hl 4 rfl) ?_
              refine n_add hx hb dX3_fillBlocks_100 ?_
              refine n_mul hx hb dX3_fillBlocks_101 ?_
              refine lv_istore (lv' := [(5, .int (nI (8 * (64 + len)))), (0, .ref h0), (1, .ref ka), (2, .int pad), (3, .ref ma), (4, .int (nI len))]) hx hb dX3_fillBlocks_102 hl (by decide) rfl (fun ls hl => ?_)
              refine lv_aload_n hx hb dX3_fillBlocks_104 rfl (lv_at hl 1 rfl) ?_
              refine gf_X3_13 F hw 0 rfl rfl dX3_fillBlocks_105 ?_
              refine lv_bipush (v := nI 126) hx hb dX3_fillBlocks_108 (by decide) ?_
              refine lv_iload hx hb dX3_fillBlocks_110 (lv_at hl 0 rfl) ?_
              refine lv_bipush (v := nI 8) hx hb dX3_fillBlocks_112 (by decide) ?_
              refine lv_iushr (v := ushr (nI (8 * (64 + len))) (nI 8)) hx hb dX3_fillBlocks_114 rfl ?_
              refine ia_st F hw 1 rfl (by omega) (by omega) dX3_fillBlocks_115 (fun H locs hw => ?_)
              replace hw : Wd g s A H locs [(h0, .inr (2, [.ref b0, .ref b1, .ref b2, .ref b3])), (b1, iA g 128 (upd (upd (fb2 fm len (fb1 fk nk pad fb 64) 64) (64 + len) (nI 128)) 126 (ushr (nI (8 * (64 + len))) (nI 8)))), (ka, iA g nk fk), (ma, iA g nm fm)] := hw
              refine lv_aload_n hx hb dX3_fillBlocks_116 rfl (lv_at hl 1 rfl) ?_
              refine gf_X3_13 F hw 0 rfl rfl dX3_fillBlocks_117 ?_
              refine lv_bipush (v := nI 127) hx hb dX3_fillBlocks_120 (by decide) ?_
              refine lv_iload hx hb dX3_fillBlocks_122 (lv_at hl 0 rfl) ?_
              refine lv_sipush (v := nI 255) hx hb dX3_fillBlocks_124 (by decide) ?_
              refine lv_iand hx hb dX3_fillBlocks_127 ?_
              refine ia_st F hw 1 rfl (by omega) (by omega) dX3_fillBlocks_128 (fun H locs hw => ?_)
              replace hw : Wd g s A H locs [(h0, .inr (2, [.ref b0, .ref b1, .ref b2, .ref b3])), (b1, iA g 128 (upd (upd (upd (fb2 fm len (fb1 fk nk pad fb 64) 64) (64 + len) (nI 128)) 126 (ushr (nI (8 * (64 + len))) (nI 8))) 127 ((nI (8 * (64 + len))) &&& (nI 255)))), (ka, iA g nk fk), (ma, iA g nm fm)] := hw
              exact rt_v F hr hlk hQ hw (upd (upd (upd (fb2 fm len (fb1 fk nk pad fb 64) 64) (64 + len) (nI 128)) 126 (ushr (nI (8 * (64 + len))) (nI 8))) 127 ((nI (8 * (64 + len))) &&& (nI 255))) (blk_of fk nk pad fm fb len hl2) rfl dX3_fillBlocks_129
            · refine lv_aload_n hx hb dX3_fillBlocks_50 rfl (lv_at hl 0 rfl) ?_
              refine gf_X3_13 F hw 0 rfl rfl dX3_fillBlocks_51 ?_
              refine lv_bipush (v := nI 64) hx hb dX3_fillBlocks_54 (by decide) ?_
              refine lv_iload hx hb dX3_fillBlocks_56 (lv_at hl 5 rfl) ?_
              refine n_add hx hb dX3_fillBlocks_58 ?_
              refine lv_iload hx hb dX3_fillBlocks_59 (lv_at hl 5 rfl) ?_
              refine lv_iload hx hb dX3_fillBlocks_61 (lv_at hl 4 rfl) ?_
              refine n_ge (tgt := 73) hx hb (by omega) (by omega) dX3_fillBlocks_63 (by decide) (fun c_63 => ?_) (fun c_63 => ?_)
              · refine lv_iconst (v := nI 0) hx hb dX3_fillBlocks_73 (by decide) ?_
                refine ia_st F hw 1 rfl (by omega) (by omega) dX3_fillBlocks_74 (fun H locs hw => ?_)
                replace hw : Wd g s A H locs [(h0, .inr (2, [.ref b0, .ref b1, .ref b2, .ref b3])), (b1, iA g 128 (upd (fb2 fm len (fb1 fk nk pad fb 64) j) (64 + j) (nI 0))), (ka, iA g nk fk), (ma, iA g nm fm)] := hw
                refine lv_iinc (v := nI (j + 1)) (lv' := [(5, .int (nI (j + 1))), (0, .ref h0), (1, .ref ka), (2, .int pad), (3, .ref ma), (4, .int (nI len))]) hx hb dX3_fillBlocks_75 hl (k := 5) rfl (inc_n _ 1) (by decide) rfl (fun ls hl => ?_)
                refine lv_goto (tgt := 43) hx hb dX3_fillBlocks_78 (by decide) ?_
                exact ih (j + 1) (by omega) (by omega) _ _ _ (by first | (rw [fb2_t c_63]; exact hw) | (rw [fb2_f c_63]; exact hw)) (lv_sub hl [1, 2, 3, 4, 5, 0] rfl)
              · refine lv_aload_n hx hb dX3_fillBlocks_66 rfl (lv_at hl 3 rfl) ?_
                refine lv_iload hx hb dX3_fillBlocks_67 (lv_at hl 5 rfl) ?_
                refine ia_ld F hw 3 rfl (by omega) (by omega) dX3_fillBlocks_69 ?_
                refine lv_goto (tgt := 74) hx hb dX3_fillBlocks_70 (by decide) ?_
                refine ia_st F hw 1 rfl (by omega) (by omega) dX3_fillBlocks_74 (fun H locs hw => ?_)
                replace hw : Wd g s A H locs [(h0, .inr (2, [.ref b0, .ref b1, .ref b2, .ref b3])), (b1, iA g 128 (upd (fb2 fm len (fb1 fk nk pad fb 64) j) (64 + j) (fm j))), (ka, iA g nk fk), (ma, iA g nm fm)] := hw
                refine lv_iinc (v := nI (j + 1)) (lv' := [(5, .int (nI (j + 1))), (0, .ref h0), (1, .ref ka), (2, .int pad), (3, .ref ma), (4, .int (nI len))]) hx hb dX3_fillBlocks_75 hl (k := 5) rfl (inc_n _ 1) (by decide) rfl (fun ls hl => ?_)
                refine lv_goto (tgt := 43) hx hb dX3_fillBlocks_78 (by decide) ?_
                exact ih (j + 1) (by omega) (by omega) _ _ _ (by first | (rw [fb2_t c_63]; exact hw) | (rw [fb2_f c_63]; exact hw)) (lv_sub hl [1, 2, 3, 4, 5, 0] rfl)
        exact L_43 (64 + 1) 0 (by omega) (by omega) _ _ _ hw (lv_sub hl [1, 2, 3, 4, 5, 0] rfl)
      · refine lv_aload_n hx hb dX3_fillBlocks_10 rfl (lv_at hl 0 rfl) ?_
        refine gf_X3_13 F hw 0 rfl rfl dX3_fillBlocks_11 ?_
        refine lv_iload hx hb dX3_fillBlocks_14 (lv_at hl 5 rfl) ?_
        refine lv_iload hx hb dX3_fillBlocks_16 (lv_at hl 5 rfl) ?_
        refine lv_aload_n hx hb dX3_fillBlocks_18 rfl (lv_at hl 1 rfl) ?_
        refine ia_len F hw 2 rfl dX3_fillBlocks_19 ?_
        refine n_ge (tgt := 30) hx hb (by omega) (by omega) dX3_fillBlocks_20 (by decide) (fun c_20 => ?_) (fun c_20 => ?_)
        · refine lv_iconst (v := nI 0) hx hb dX3_fillBlocks_30 (by decide) ?_
          refine lv_iload_n hx hb dX3_fillBlocks_31 rfl (lv_at hl 2 rfl) ?_
          refine lv_ixor hx hb dX3_fillBlocks_32 ?_
          refine ia_st F hw 1 rfl (by omega) (by omega) dX3_fillBlocks_33 (fun H locs hw => ?_)
          replace hw : Wd g s A H locs [(h0, .inr (2, [.ref b0, .ref b1, .ref b2, .ref b3])), (b1, iA g 128 (upd (fb1 fk nk pad fb k) k ((nI 0) ^^^ pad))), (ka, iA g nk fk), (ma, iA g nm fm)] := hw
          refine lv_iinc (v := nI (k + 1)) (lv' := [(5, .int (nI (k + 1))), (0, .ref h0), (1, .ref ka), (2, .int pad), (3, .ref ma), (4, .int (nI len))]) hx hb dX3_fillBlocks_34 hl (k := 5) rfl (inc_n _ 1) (by decide) rfl (fun ls hl => ?_)
          refine lv_goto (tgt := 3) hx hb dX3_fillBlocks_37 (by decide) ?_
          exact ih (k + 1) (by omega) (by omega) _ _ _ (by first | (rw [fb1_t c_20]; exact hw) | (rw [fb1_f c_20]; exact hw)) (lv_sub hl [1, 2, 3, 4, 5, 0] rfl)
        · refine lv_aload_n hx hb dX3_fillBlocks_23 rfl (lv_at hl 1 rfl) ?_
          refine lv_iload hx hb dX3_fillBlocks_24 (lv_at hl 5 rfl) ?_
          refine ia_ld F hw 2 rfl (by omega) (by omega) dX3_fillBlocks_26 ?_
          refine lv_goto (tgt := 31) hx hb dX3_fillBlocks_27 (by decide) ?_
          refine lv_iload_n hx hb dX3_fillBlocks_31 rfl (lv_at hl 2 rfl) ?_
          refine lv_ixor hx hb dX3_fillBlocks_32 ?_
          refine ia_st F hw 1 rfl (by omega) (by omega) dX3_fillBlocks_33 (fun H locs hw => ?_)
          replace hw : Wd g s A H locs [(h0, .inr (2, [.ref b0, .ref b1, .ref b2, .ref b3])), (b1, iA g 128 (upd (fb1 fk nk pad fb k) k ((fk k) ^^^ pad))), (ka, iA g nk fk), (ma, iA g nm fm)] := hw
          refine lv_iinc (v := nI (k + 1)) (lv' := [(5, .int (nI (k + 1))), (0, .ref h0), (1, .ref ka), (2, .int pad), (3, .ref ma), (4, .int (nI len))]) hx hb dX3_fillBlocks_34 hl (k := 5) rfl (inc_n _ 1) (by decide) rfl (fun ls hl => ?_)
          refine lv_goto (tgt := 3) hx hb dX3_fillBlocks_37 (by decide) ?_
          exact ih (k + 1) (by omega) (by omega) _ _ _ (by first | (rw [fb1_t c_20]; exact hw) | (rw [fb1_f c_20]; exact hw)) (lv_sub hl [1, 2, 3, 4, 5, 0] rfl)
  exact L_3 (64 + 1) 0 (by omega) (by omega) _ _ _ hw (lv_sub hl [1, 2, 3, 4, 5, 0] rfl)
theorem blk_congr {fk fm fm' : Nat → Int32} {nk : Nat} {pad : Int32} {len : Nat} (h : ∀ j, j < len → fm j = fm' j) : ∀ j, blk fk nk pad fm len j = blk fk nk pad fm' len j := by
  intro j
  unfold blk
  by_cases h1 : j - 64 < len
  · simp only [h _ h1]
  · simp only [h1, if_false]
theorem w64_congr {B B' : Nat → Int32} {fr : Nat} (hf : fr ≤ 64) (h : ∀ j, j < 128 → B j = B' j) : ∀ t, t < 64 → w64 B fr t = w64 B' fr t := fun t ht => sc2_congr (fun t ht => by simp only [wrd, h (fr + 4 * t) (by omega), h (fr + 4 * t + 1) (by omega), h (fr + 4 * t + 2) (by omega), h (fr + 4 * t + 3) (by omega)]) 48 t ht
theorem hsh_congr {B B' : Nat → Int32} (h : ∀ j, j < 128 → B j = B' j) : ∀ j, j < 32 → hsh B j = hsh B' j := by
  intro j hj
  unfold hsh h2
  have e1 : ∀ i, i < 8 → cmp1 kS B 0 i = cmp1 kS B' 0 i := fun i hi => by
    show kS i + _ = kS i + _
    rw [mx_congr (fun _ _ => rfl) (w64_congr (by omega) h) 64 (Nat.le_refl _) i hi]
  have e2 : ∀ i, i < 8 → cmp1 (cmp1 kS B 0) B 64 i = cmp1 (cmp1 kS B' 0) B' 64 i := fun i hi => by
    show cmp1 kS B 0 i + _ = cmp1 kS B' 0 i + _
    rw [e1 i hi, mx_congr e1 (w64_congr (by omega) h) 64 (Nat.le_refl _) i hi]
  rw [e2 (j / 4) (by omega)]
/-- HMAC with SHA-256, byte j, of fm's first len bytes under the nk bytes fk -/
def hmac (fk : Nat → Int32) (nk : Nat) (fm : Nat → Int32) (len : Nat) : Nat → Int32 := hsh (blk fk nk (nI 92) (hsh (blk fk nk (nI 54) fm len)) 32)
theorem hmac_of {fk fm u1 u2 u3 u4 : Nat → Int32} {nk len : Nat} (h1 : ∀ j, j < 128 → u1 j = blk fk nk (nI 54) fm len j) (h2 : ∀ j, j < 32 → u2 j = hsh u1 j) (h3 : ∀ j, j < 128 → u3 j = blk fk nk (nI 92) u2 32 j) (h4 : ∀ j, j < 32 → u4 j = hsh u3 j) : ∀ j, j < 32 → u4 j = hmac fk nk fm len j := by
  intro j hj
  rw [h4 j hj]
  refine hsh_congr (fun i hi => ?_) j hj
  rw [h3 i hi]
  exact blk_congr (fun q hq => by rw [h2 q hq]; exact hsh_congr h1 q hq) i
set_option maxHeartbeats 4000000 in
set_option maxRecDepth 100000 in
theorem c_X3_compute (g : GG) (l : Launch) (h0 : Nat) (b0 : Nat) (b1 : Nat) (b2 : Nat) (b3 : Nat) (ka : Nat) (ma : Nat) (nk : Nat) (nm : Nat) (fB : Nat → Int32) (fb : Nat → Int32) (fs : Nat → Int32) (fst : Nat → Int32) (fk : Nat → Int32) (fm : Nat → Int32) (len : Nat) (hnk : nk < 2 ^ 31) (hnm : nm < 2 ^ 31) (hl1 : len ≤ nm) (hl2 : len ≤ 40) : Ct g l yX3_compute cX3_compute 4 none 3 75 [.ref h0, .ref ka, .ref ma, .int (nI len)] [(h0, .inr (2, [.ref b0, .ref b1, .ref b2, .ref b3])), (b0, iA g 32 fB), (b1, iA g 128 fb), (b2, iA g 64 fs), (b3, iA g 8 fst), (ma, iA g nm fm), (ka, iA g nk fk)] (Rv g (fun (u : (Nat → Int32) × (Nat → Int32) × (Nat → Int32) × (Nat → Int32)) => ∀ j, j < 32 → u.1 j = hmac fk nk fm len j) (fun (u : (Nat → Int32) × (Nat → Int32) × (Nat → Int32) × (Nat → Int32)) => [(h0, .inr (2, [.ref b0, .ref b1, .ref b2, .ref b3])), (b0, iA g 32 u.1), (b1, iA g 128 u.2.1), (b2, iA g 64 u.2.2.1), (b3, iA g 8 u.2.2.2), (ma, iA g nm fm), (ka, iA g nk fk)])) := by
  refine mkC (by decide) (Nat.le_of_ble_eq_true rfl) ?_
  intro p e s m args below meth c A ls QQ F hr hlk hnm hQ hw hl
  have hx := F.1
  have hb := F.2.1
  replace hl : lv_has ls 4 [(0, .ref h0), (1, .ref ka), (2, .ref ma), (3, .int (nI len))] := hl
  refine lv_aload_n hx hb dX3_compute_0 rfl (lv_at hl 0 rfl) ?_
  refine lv_aload_n hx hb dX3_compute_1 rfl (lv_at hl 1 rfl) ?_
  refine lv_bipush (v := nI 54) hx hb dX3_compute_2 (by decide) ?_
  refine lv_aload_n hx hb dX3_compute_4 rfl (lv_at hl 2 rfl) ?_
  refine lv_iload_n hx hb dX3_compute_5 rfl (lv_at hl 3 rfl) ?_
  refine cl_v hw [0, 2, 6, 5] rfl (rn_V F hw (c_X3_fillBlocks g l h0 b0 b1 b2 b3 ka ma nk nm fb fk fm (nI 54) len (by omega) (by omega) (by omega) (by omega)) (cw_X3_22 F.2.2.2.2 ⟨by decide, by decide⟩) [0, 2, 6, 5] (by decide) rfl 0 rfl rfl rfl hl.1 rfl (Nat.le_of_ble_eq_true rfl) dX3_compute_6 ⟨Nat.zero_le _, Nat.zero_le _⟩) (fun _ => rfl) (fun u_1 H locs hp_3 hw => ?_)
  replace hw : Wd g s A H locs [(h0, .inr (2, [.ref b0, .ref b1, .ref b2, .ref b3])), (b0, iA g 32 fB), (b1, iA g 128 u_1), (b2, iA g 64 fs), (b3, iA g 8 fst), (ma, iA g nm fm), (ka, iA g nk fk)] := hw
  have q1 := hp_3
  refine lv_aload_n hx hb dX3_compute_9 rfl (lv_at hl 0 rfl) ?_
  refine cl_v hw [0, 1, 2, 3, 4] rfl (rn_V F hw (c_X3_hashBlocks g l h0 b0 b1 b2 b3 fB u_1 fs fst) (cw_X3_26 F.2.2.2.2 ⟨by decide, by decide⟩) [0, 1, 2, 3, 4] (by decide) rfl 0 rfl rfl rfl hl.1 rfl (Nat.le_of_ble_eq_true rfl) dX3_compute_10 ⟨Nat.zero_le _, Nat.zero_le _⟩) (fun _ => rfl) (fun u_4 H locs hp_6 hw => ?_)
  replace hw : Wd g s A H locs [(h0, .inr (2, [.ref b0, .ref b1, .ref b2, .ref b3])), (b0, iA g 32 u_4.1), (b1, iA g 128 u_1), (b2, iA g 64 u_4.2.1), (b3, iA g 8 u_4.2.2), (ma, iA g nm fm), (ka, iA g nk fk)] := hw
  have q2 := hp_6
  refine lv_aload_n hx hb dX3_compute_13 rfl (lv_at hl 0 rfl) ?_
  refine lv_aload_n hx hb dX3_compute_14 rfl (lv_at hl 1 rfl) ?_
  refine lv_bipush (v := nI 92) hx hb dX3_compute_15 (by decide) ?_
  refine lv_aload_n hx hb dX3_compute_17 rfl (lv_at hl 0 rfl) ?_
  refine gf_X3_9 F hw 0 rfl rfl dX3_compute_18 ?_
  refine lv_bipush (v := nI 32) hx hb dX3_compute_21 (by decide) ?_
  refine cl_v hw [0, 2, 6, 1] rfl (rn_V F hw (c_X3_fillBlocks g l h0 b0 b1 b2 b3 ka b0 nk 32 u_1 fk u_4.1 (nI 92) 32 (by omega) (by omega) (by omega) (by omega)) (cw_X3_22 F.2.2.2.2 ⟨by decide, by decide⟩) [0, 2, 6, 1] (by decide) rfl 0 rfl rfl rfl hl.1 rfl (Nat.le_of_ble_eq_true rfl) dX3_compute_23 ⟨Nat.zero_le _, Nat.zero_le _⟩) (fun _ => rfl) (fun u_7 H locs hp_9 hw => ?_)
  replace hw : Wd g s A H locs [(h0, .inr (2, [.ref b0, .ref b1, .ref b2, .ref b3])), (b0, iA g 32 u_4.1), (b1, iA g 128 u_7), (b2, iA g 64 u_4.2.1), (b3, iA g 8 u_4.2.2), (ma, iA g nm fm), (ka, iA g nk fk)] := hw
  have q3 := hp_9
  refine lv_aload_n hx hb dX3_compute_26 rfl (lv_at hl 0 rfl) ?_
  refine cl_v hw [0, 1, 2, 3, 4] rfl (rn_V F hw (c_X3_hashBlocks g l h0 b0 b1 b2 b3 u_4.1 u_7 u_4.2.1 u_4.2.2) (cw_X3_26 F.2.2.2.2 ⟨by decide, by decide⟩) [0, 1, 2, 3, 4] (by decide) rfl 0 rfl rfl rfl hl.1 rfl (Nat.le_of_ble_eq_true rfl) dX3_compute_27 ⟨Nat.zero_le _, Nat.zero_le _⟩) (fun _ => rfl) (fun u_10 H locs hp_12 hw => ?_)
  replace hw : Wd g s A H locs [(h0, .inr (2, [.ref b0, .ref b1, .ref b2, .ref b3])), (b0, iA g 32 u_10.1), (b1, iA g 128 u_7), (b2, iA g 64 u_10.2.1), (b3, iA g 8 u_10.2.2), (ma, iA g nm fm), (ka, iA g nk fk)] := hw
  have q4 := hp_12
  exact rt_v F hr hlk hQ hw (u_10.1, u_7, u_10.2.1, u_10.2.2) (hmac_of q1 q2 q3 q4) rfl dX3_compute_30
theorem hmac_congr {fk fm fm' : Nat → Int32} {nk len : Nat} (h : ∀ j, j < len → fm j = fm' j) : ∀ j, j < 32 → hmac fk nk fm len j = hmac fk nk fm' len j := fun j hj => hsh_congr (fun i _ => blk_congr (fun q hq => hsh_congr (fun i _ => blk_congr h i) q hq) i) j hj
