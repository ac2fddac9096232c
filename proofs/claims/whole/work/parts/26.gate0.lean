def gX (g : GG) (ad ka ua sa : Nat → Nat) (now : Int64) (gr : Int64) (mo : Int64) (re : Int64) (bgn : Int32) (lin : Int32) (rfd : Int32) (rnd : Int32) (mB : Nat → Int32) (mb : Nat → Int32) (ms : Nat → Int32) (mt : Nat → Int32) (kept : Nat) (np : Nat) (cl : Nat) (cf : Nat → Int32) (tn : Nat) (tf : Nat → Int32) (dl : Nat) (df : Nat → Int32) (sdf : Nat → Int32) (cnf : Nat → Int32) (cbf : Nat → Int32) (mkf : Nat → Int32) : va_W :=
  [(ad 0, .inr (6, [.ref (ad 1), .ref (ad 6), .ref (ad 8), .ref (ad 10), .ref (ad 12), .ref (ad 14), .ref (ad 15), .ref (ad 16), .ref (ad 17), .ref (ad 18), .ref (ad 19), .long now, .long gr, .long mo, .long re, .int bgn, .int lin, .int rfd, .int rnd])), (ad 1, .inr (2, [.ref (ad 2), .ref (ad 3), .ref (ad 4), .ref (ad 5)])), (ad 2, iA g 32 mB), (ad 3, iA g 128 mb), (ad 4, iA g 64 ms), (ad 5, iA g 8 mt), (ad 6, .inr (1, [.ref (ad 7), .int (nI kept), .int (nI np)])), (ad 7, rA g 3 4 (rfA ka)), (ad 8, .inr (4, [.ref (ad 9), .int (nI cl)])), (ad 9, iA g 40 cf), (ad 10, .inr (4, [.ref (ad 11), .int (nI tn)])), (ad 11, iA g 40 tf), (ad 12, .inr (4, [.ref (ad 13), .int (nI dl)])), (ad 13, iA g 40 df), (ad 14, rA g 5 8 (rfA ua)), (ad 15, rA g 4 8 (rfA sa)), (ad 16, iA g 8 sdf), (ad 17, iA g 8 cnf), (ad 18, iA g 22 cbf), (ad 19, iA g 11 mkf)]
section FU
variable {p : Program} {l : Launch} {e : Env} {R : Room} {s : State} {m : MethodId} {args : Array Value} {below : List Frame} {meth : Method} {c : Code} {H : Heap} {locs : List Loc} {cells slots : Nat} {Q : State → Prop} {g : GG} {A : Nat → Prop} {ws : va_W} {cc : ByteArray} {nL : Nat} {own : String} {pc : Nat} {ls : Array Slot} {rest : List Value} {a : Nat}
variable {y : MethodName} {cy : ByteArray} {n : Nat} {r : Option FieldType} {fr lo : Nat} {b : Nat} {As : List Value} {Qf : (Nat → Prop) → Array Value → State → Outcome → State → Prop} {index : Nat} {st0 : List Value}
theorem freeF (hw : Wd g s A H locs ws) : ∀ q, va_A ws H.size q → A q := by
  intro q h
  rcases h with ⟨k, e, hk⟩ | h
  · exact hw.2.2.1.2 k _ hk
  · exact hw.2.2.2.2.2 q (Nat.le_trans hw.2.2.2.1.1 h)
theorem preF {av : List Value} (hw : Wd g s A H locs ws) (U : State) (hU : U.heap = H) (hW : s.WarmedH U.vm) : va_Pc av (CP g ws H.size) av.toArray U :=
  ⟨rfl, by rw [hU], by rw [hU]; exact hw.2.1, va_K.moved hW.alike hw.1, hw.2.2.1.weaken (fun _ _ _ _ => trivial), by rw [hU]; exact (((hw.2.2.2.2.1.kept hw.2.2.2.1.2.1).moved hW).narrow (freeF hw))⟩
theorem backF {w1 : va_W} {t : State} {H1 : Heap} {locs1 : List Loc} (hw : Wd g s A H locs ws) (ht : t.heap = H1) (hB : va_P (gD g) vwCl w1 t.heap ∧ va_K (gD g) vwCl (gT g) t ∧ va_D (va_A ws H.size) w1) (hS : va_S A s.heap H1 locs1) : Wd g s A H1 locs1 w1 :=
  ⟨hw.1, by rw [← ht]; exact hB.1, hB.2.2.weaken (fun _ _ _ h => freeF hw _ h), hS, hw.2.2.2.2⟩
theorem rn_VF {C : String} {ci : Nat} {fs : List Value} {q : vw_C} (F : CallFix p m c cc nL s args BIG own) (hw : Wd g s A H locs ws) (hM : Ct g l y cy n r fr lo (.ref b :: As) ws Qf) (cw : CallW R s args own C index y cy n r (Cond.code y cy n r :: BIG) (rmm fr lo) 0 0 As.length) (q0 : Nat) (he : ws[q0]? = some (b, .inr (ci, fs))) (hci : vwCl[ci]? = some q) (hcn : q.1 = C) (hsz : ls.size = nL) (hst : st0 = As.reverse ++ .ref b :: rest) (hrest : (rest.map fun v => v.category).sum ≤ 8) (hdg : decode cc pc = .ok (.invokevirtual index, 3)) (hf : cells ≤ R.cells ∧ slots ≤ R.slots) : va_Run p l e R s m args below meth c H locs cells slots 0 0 (F0 m pc ls st0) rest (Qf (va_A ws H.size) (Value.ref b :: As).toArray) (va_A ws H.size) :=
  va_runV F (hM H.size) cw ⟨CP_blind, by have := va_recv hw.1 hw.2.1 hci he; rwa [hcn] at this, fun U hU hW => preF hw U hU hW⟩ rfl rfl hsz hst (lv_room hrest) hdg hf
theorem cl_iF {S : Type} {post : Int32 → S → Prop} {WS' : S → va_W} {av : Array Value} (hw : Wd g s A H locs ws) (hr : va_Run p l e R s m args below meth c H locs cells slots 0 0 (F0 m pc ls st0) rest (Ri g post WS' (va_A ws H.size) av) (va_A ws H.size))
    (kk : ∀ (v : Int32) (u : S) (H1 : Heap) (locs1 : List Loc), post v u → Wd g s A H1 locs1 (WS' u) → W p l e R s m args below meth c H1 locs1 cells slots Q (F0 m (pc + 3) ls (.int v :: rest))) : W p l e R s m args below meth c H locs cells slots Q (F0 m pc ls st0) :=
  va_calli hr hw.2.2.2.1 (fun q _ h => freeF hw q h) (freeF hw) (fun v u t H1 l1 ht _ hp hB _ hk hS => kk v u H1 l1 hp (backF hw ht hB hS))
theorem cl_lF {S : Type} {post : Int64 → S → Prop} {WS' : S → va_W} {av : Array Value} (hw : Wd g s A H locs ws) (hr : va_Run p l e R s m args below meth c H locs cells slots 0 0 (F0 m pc ls st0) rest (Rl g post WS' (va_A ws H.size) av) (va_A ws H.size))
    (kk : ∀ (v : Int64) (u : S) (H1 : Heap) (locs1 : List Loc), post v u → Wd g s A H1 locs1 (WS' u) → W p l e R s m args below meth c H1 locs1 cells slots Q (F0 m (pc + 3) ls (.long v :: rest))) : W p l e R s m args below meth c H locs cells slots Q (F0 m pc ls st0) :=
  va_calll hr hw.2.2.2.1 (fun q _ h => freeF hw q h) (freeF hw) (fun v u t H1 l1 ht _ hp hB _ hk hS => kk v u H1 l1 hp (backF hw ht hB hS))
theorem cl_vF {S : Type} {post : S → Prop} {WS' : S → va_W} {av : Array Value} (hw : Wd g s A H locs ws) (hr : va_Run p l e R s m args below meth c H locs cells slots 0 0 (F0 m pc ls st0) rest (Rv g post WS' (va_A ws H.size) av) (va_A ws H.size))
    (kk : ∀ (u : S) (H1 : Heap) (locs1 : List Loc), post u → Wd g s A H1 locs1 (WS' u) → W p l e R s m args below meth c H1 locs1 cells slots Q (F0 m (pc + 3) ls rest)) : W p l e R s m args below meth c H locs cells slots Q (F0 m pc ls st0) :=
  va_callv hr hw.2.2.2.1 (fun q _ h => freeF hw q h) (freeF hw) (fun u t H1 l1 ht _ hp hB _ hk hS => kk u H1 l1 hp (backF hw ht hB hS))
theorem cl_qF {S : Type} {post : Option Nat → S → Prop} {WS' : S → va_W} {av : Array Value} (hw : Wd g s A H locs ws) (hr : va_Run p l e R s m args below meth c H locs cells slots 0 0 (F0 m pc ls st0) rest (Rq g post WS' (va_A ws H.size) av) (va_A ws H.size))
    (kk : ∀ (v : Option Nat) (u : S) (H1 : Heap) (locs1 : List Loc), post v u → Wd g s A H1 locs1 (WS' u) → W p l e R s m args below meth c H1 locs1 cells slots Q (F0 m (pc + 3) ls (va_rf v :: rest))) : W p l e R s m args below meth c H locs cells slots Q (F0 m pc ls st0) :=
  va_callq hr hw.2.2.2.1 (fun q _ h => freeF hw q h) (freeF hw) (fun v u t H1 l1 ht _ hp hB _ hk hS => kk v u H1 l1 hp (backF hw ht hB hS))
end FU
def limI (x : Int64) : Int32 := if x < 1 then nI 0 else if 1000000000000 < x then nI 0 else nI 1
def usI (x : Int32) : Int32 := if x < 0 then nI 0 else if nI 8 ≤ x then nI 0 else nI 1
def txI (x : Int32) : Int32 := if x = 0 then nI 1 else if x = nI 1 then nI 1 else nI 0
set_option maxHeartbeats 4000000 in
set_option maxRecDepth 100000 in
theorem c_X7_isLimit (g : GG) (l : Launch) (x : Int64) : Ct g l yX7_isLimit cX7_isLimit 2 (some .boolean) 0 0 [.long x] [] (Ri g (fun (v : Int32) (u : Unit) => v = limI x) (fun (u : Unit) => [])) := by
  refine mkC (by decide) (Nat.le_of_ble_eq_true rfl) ?_
  intro p e s m args below meth c A ls QQ F hr hlk hnm hQ hw hl
  have hx := F.1
  have hb := F.2.1
  replace hl : lv_has ls 2 [(0, .long x)] := hl
  refine lv_lload_n hx hb dX7_isLimit_0 rfl (lv_at hl 0 rfl) ?_
  refine lv_lconst (v := 1) hx hb dX7_isLimit_1 (by decide) ?_
  refine lc_lt (tgt := 18) hx hb dX7_isLimit_2 dX7_isLimit_3 (by decide) (fun c_2 => ?_) (fun c_2 => ?_)
  · refine lv_iconst (v := nI 0) hx hb dX7_isLimit_18 (by decide) ?_
    exact rt_z F hr rfl hlk hQ hw () (by simp only [limI, c_2, if_true, if_false]) rfl dX7_isLimit_19
  · refine lv_lload_n hx hb dX7_isLimit_6 rfl (lv_at hl 0 rfl) ?_
    refine lv_ldc2 hx hb F.2.2.2.1 (F.2.2.2.2 _ bg_11_9) dX7_isLimit_7 ?_
    refine lc_gt (tgt := 18) hx hb dX7_isLimit_10 dX7_isLimit_11 (by decide) (fun c_10 => ?_) (fun c_10 => ?_)
    · refine lv_iconst (v := nI 0) hx hb dX7_isLimit_18 (by decide) ?_
      exact rt_z F hr rfl hlk hQ hw () (by simp only [limI, c_2, c_10, if_true, if_false]) rfl dX7_isLimit_19
    · refine lv_iconst (v := nI 1) hx hb dX7_isLimit_14 (by decide) ?_
      refine lv_goto (tgt := 19) hx hb dX7_isLimit_15 (by decide) ?_
      exact rt_z F hr rfl hlk hQ hw () (by simp only [limI, c_2, c_10, if_true, if_false]) rfl dX7_isLimit_19
set_option maxHeartbeats 4000000 in
set_option maxRecDepth 100000 in
theorem c_X7_isUser (g : GG) (l : Launch) (x : Int32) : Ct g l yX7_isUser cX7_isUser 1 (some .boolean) 0 0 [.int x] [] (Ri g (fun (v : Int32) (u : Unit) => v = usI x) (fun (u : Unit) => [])) := by
  refine mkC (by decide) (Nat.le_of_ble_eq_true rfl) ?_
  intro p e s m args below meth c A ls QQ F hr hlk hnm hQ hw hl
  have hx := F.1
  have hb := F.2.1
  replace hl : lv_has ls 1 [(0, .int x)] := hl
  refine lv_iload_n hx hb dX7_isUser_0 rfl (lv_at hl 0 rfl) ?_
  refine lv_if_lt (tgt := 14) hx hb dX7_isUser_1 (by decide) (fun c_1 => ?_) (fun c_1 => ?_)
  · refine lv_iconst (v := nI 0) hx hb dX7_isUser_14 (by decide) ?_
    exact rt_z F hr rfl hlk hQ hw () (by simp only [usI, c_1, if_true, if_false]) rfl dX7_isUser_15
  · refine lv_iload_n hx hb dX7_isUser_4 rfl (lv_at hl 0 rfl) ?_
    refine lv_bipush (v := nI 8) hx hb dX7_isUser_5 (by decide) ?_
    refine lv_icmp_ge (tgt := 14) hx hb dX7_isUser_7 (by decide) (fun c_7 => ?_) (fun c_7 => ?_)
    · refine lv_iconst (v := nI 0) hx hb dX7_isUser_14 (by decide) ?_
      exact rt_z F hr rfl hlk hQ hw () (by simp only [usI, c_1, c_7, if_true, if_false]) rfl dX7_isUser_15
    · refine lv_iconst (v := nI 1) hx hb dX7_isUser_10 (by decide) ?_
      refine lv_goto (tgt := 15) hx hb dX7_isUser_11 (by decide) ?_
      exact rt_z F hr rfl hlk hQ hw () (by simp only [usI, c_1, c_7, if_true, if_false]) rfl dX7_isUser_15
set_option maxHeartbeats 4000000 in
set_option maxRecDepth 100000 in
theorem c_X7_isText (g : GG) (l : Launch) (x : Int32) : Ct g l yX7_isText cX7_isText 1 (some .boolean) 0 0 [.int x] [] (Ri g (fun (v : Int32) (u : Unit) => v = txI x) (fun (u : Unit) => [])) := by
  refine mkC (by decide) (Nat.le_of_ble_eq_true rfl) ?_
  intro p e s m args below meth c A ls QQ F hr hlk hnm hQ hw hl
  have hx := F.1
  have hb := F.2.1
  replace hl : lv_has ls 1 [(0, .int x)] := hl
  refine lv_iload_n hx hb dX7_isText_0 rfl (lv_at hl 0 rfl) ?_
  refine lv_if_eq (tgt := 9) hx hb dX7_isText_1 (by decide) (fun c_1 => ?_) (fun c_1 => ?_)
  · refine lv_iconst (v := nI 1) hx hb dX7_isText_9 (by decide) ?_
    refine lv_goto (tgt := 14) hx hb dX7_isText_10 (by decide) ?_
    exact rt_z F hr rfl hlk hQ hw () (by first | (simp only [txI, c_1, if_true, if_false]; done) | rw [txI, if_neg c_1, if_pos c_6]) rfl dX7_isText_14
  · refine lv_iload_n hx hb dX7_isText_4 rfl (lv_at hl 0 rfl) ?_
    refine lv_iconst (v := nI 1) hx hb dX7_isText_5 (by decide) ?_
    refine lv_icmp_ne (tgt := 13) hx hb dX7_isText_6 (by decide) (fun c_6 => ?_) (fun c_6 => ?_)
    · refine lv_iconst (v := nI 0) hx hb dX7_isText_13 (by decide) ?_
      exact rt_z F hr rfl hlk hQ hw () (by first | (simp only [txI, c_1, c_6, if_true, if_false]; done) | rw [txI, if_neg c_1, if_pos c_6]) rfl dX7_isText_14
    · refine lv_iconst (v := nI 1) hx hb dX7_isText_9 (by decide) ?_
      refine lv_goto (tgt := 14) hx hb dX7_isText_10 (by decide) ?_
      exact rt_z F hr rfl hlk hQ hw () (by first | (simp only [txI, c_1, c_6, if_true, if_false]; done) | rw [txI, if_neg c_1, if_pos c_6]) rfl dX7_isText_14
set_option maxHeartbeats 4000000 in
set_option maxRecDepth 100000 in
theorem c_X7_signsIn (g : GG) (l : Launch) (pk : Int32) : Ct g l yX7_signsIn cX7_signsIn 3 (some .int) 1 21 [.int pk] [] (Ri g (fun (v : Int32) (u : Unit) => v = nI (cntL (byO pk) 4)) (fun (u : Unit) => [])) := by
  refine mkC (by decide) (Nat.le_of_ble_eq_true rfl) ?_
  intro p e s m args below meth c A ls QQ F hr hlk hnm hQ hw hl
  have hx := F.1
  have hb := F.2.1
  replace hl : lv_has ls 3 [(0, .int pk)] := hl
  refine lv_iconst (v := nI 0) hx hb dX7_signsIn_0 (by decide) ?_
  refine lv_istore_n (lv' := [(1, .int (nI 0)), (0, .int pk)]) hx hb dX7_signsIn_1 rfl hl (by decide) rfl (fun ls hl => ?_)
  refine lv_iconst (v := nI 0) hx hb dX7_signsIn_2 (by decide) ?_
  refine lv_istore_n (lv' := [(2, .int (nI 0)), (1, .int (nI 0)), (0, .int pk)]) hx hb dX7_signsIn_3 rfl hl (by decide) rfl (fun ls hl => ?_)
  have L_4 : ∀ (nn k : Nat), k ≤ 4 → 4 < k + nn → ∀ (H : Heap) (locs : List Loc) (ls : Array Slot), Wd g s A H locs [] → lv_has ls 3 [(0, .int pk), (1, .int (nI (cntL (byO pk) k))), (2, .int (nI k))] → W p l e (rmm 1 21) s m args below meth c H locs 0 0 QQ (F0 m 4 ls []) := by
    intro nn
    induction nn with
    | zero => intro k h1 h2; exact absurd h2 (by omega)
    | succ nn ih =>
      intro k hk_k hn_k H locs ls hw hl
      refine lv_iload_n hx hb dX7_signsIn_4 rfl (lv_at hl 2 rfl) ?_
      refine lv_iconst (v := nI 4) hx hb dX7_signsIn_5 (by decide) ?_
      refine n_ge (tgt := 26) hx hb (by omega) (by omega) dX7_signsIn_6 (by decide) (fun c_6 => ?_) (fun c_6 => ?_)
      · obtain rfl : k = 4 := by omega
        refine lv_iload_n hx hb dX7_signsIn_26 rfl (lv_at hl 1 rfl) ?_
        exact rt_i F hr hlk hQ hw () rfl rfl dX7_signsIn_27
      · refine lv_iload_n hx hb dX7_signsIn_9 rfl (lv_at hl 0 rfl) ?_
        refine lv_iload_n hx hb dX7_signsIn_10 rfl (lv_at hl 2 rfl) ?_
        refine cl_i hw [] rfl (rn_S F hw (c_X7_byteOf g l pk k (by omega)) (cw_X7_271 F.2.2.2.2 ⟨by decide, by decide⟩) [] (by decide) rfl hl.1 rfl (Nat.le_of_ble_eq_true rfl) dX7_signsIn_11 ⟨Nat.zero_le _, Nat.zero_le _⟩) (fun _ => rfl) (fun v_2 u_1 H locs hp_3 hw => ?_)
        subst hp_3
        replace hw : Wd g s A H locs [] := hw
        refine lv_if_eq (tgt := 20) hx hb dX7_signsIn_14 (by decide) (fun c_14 => ?_) (fun c_14 => ?_)
        · refine lv_iinc (v := nI (k + 1)) (lv' := [(2, .int (nI (k + 1))), (0, .int pk), (1, .int (nI (cntL (byO pk) k)))]) hx hb dX7_signsIn_20 hl (k := 2) rfl (inc_n _ 1) (by decide) rfl (fun ls hl => ?_)
          refine lv_goto (tgt := 4) hx hb dX7_signsIn_23 (by decide) ?_
          first | rw [← cnt_0 c_14] at hl | rw [← cnt_1 c_14] at hl
          exact ih (k + 1) (by omega) (by omega) _ _ _ hw (lv_sub hl [1, 2, 0] rfl)
        · refine lv_iinc (v := nI (cntL (byO pk) k + 1)) (lv' := [(1, .int (nI (cntL (byO pk) k + 1))), (0, .int pk), (2, .int (nI k))]) hx hb dX7_signsIn_17 hl (k := 1) rfl (inc_n _ 1) (by decide) rfl (fun ls hl => ?_)
          refine lv_iinc (v := nI (k + 1)) (lv' := [(2, .int (nI (k + 1))), (1, .int (nI (cntL (byO pk) k + 1))), (0, .int pk)]) hx hb dX7_signsIn_20 hl (k := 2) rfl (inc_n _ 1) (by decide) rfl (fun ls hl => ?_)
          refine lv_goto (tgt := 4) hx hb dX7_signsIn_23 (by decide) ?_
          first | rw [← cnt_0 c_14] at hl | rw [← cnt_1 c_14] at hl
          exact ih (k + 1) (by omega) (by omega) _ _ _ hw (lv_sub hl [2, 1, 0] rfl)
  exact L_4 (4 + 1) 0 (by omega) (by omega) _ _ _ hw (lv_sub hl [2, 1, 0] rfl)
def byL (x : Int64) (k : Nat) : Int32 := (lushr x (nI (56 - 8 * k))).toInt32 &&& nI 255
def wlF (x : Int64) (fr : Nat) (fb : Nat → Int32) : Nat → Nat → Int32
  | 0 => fb
  | k + 1 => upd (wlF x fr fb k) (fr + k) (byL x k)
theorem wlF_get (x : Int64) (fr : Nat) (fb : Nat → Int32) : ∀ k t, wlF x fr fb k t = if fr ≤ t ∧ t < fr + k then byL x (t - fr) else fb t := by
  intro k
  induction k with
  | zero => intro t; rw [if_neg (by omega)]; rfl
  | succ k ih =>
    intro t
    show upd (wlF x fr fb k) (fr + k) (byL x k) t = _
    by_cases e : t = fr + k
    · subst e; rw [upd_s, if_pos (by omega), show fr + k - fr = k by omega]
    · rw [upd_n _ _ e, ih t]
      by_cases h : fr ≤ t ∧ t < fr + k
      · rw [if_pos h, if_pos (by omega)]
      · rw [if_neg h, if_neg (by omega)]
def rdL (fb : Nat → Int32) (fr : Nat) : Nat → Int64
  | 0 => 0
  | k + 1 => lshl (rdL fb fr k) (nI 8) ||| (fb (fr + k)).toInt64
theorem rdL_congr {f f' : Nat → Int32} {fr fr' : Nat} : ∀ k, (∀ j, j < k → f (fr + j) = f' (fr' + j)) → rdL f fr k = rdL f' fr' k := by
  intro k
  induction k with
  | zero => intro _; rfl
  | succ k ih => intro h; simp only [rdL, ih (fun j hj => h j (by omega)), h k (by omega)]
set_option maxHeartbeats 4000000 in
set_option maxRecDepth 100000 in
theorem c_X7_writeLong (g : GG) (l : Launch) (ba : Nat) (nb : Nat) (fb : Nat → Int32) (x : Int64) (fr : Nat) (hnb : nb < 2 ^ 31) (hfr : fr + 8 ≤ nb) : Ct g l yX7_writeLong cX7_writeLong 5 none 0 0 [.long x, .ref ba, .int (nI fr)] [(ba, iA g nb fb)] (Rv g (fun (u : Unit) => True) (fun (u : Unit) => [(ba, iA g nb (wlF x fr fb 8))])) := by
  refine mkC (by decide) (Nat.le_of_ble_eq_true rfl) ?_
  intro p e s m args below meth c A ls QQ F hr hlk hnm hQ hw hl
  have hx := F.1
  have hb := F.2.1
  replace hl : lv_has ls 5 [(0, .long x), (2, .ref ba), (3, .int (nI fr))] := hl
  refine lv_iconst (v := nI 0) hx hb dX7_writeLong_0 (by decide) ?_
  refine lv_istore (lv' := [(4, .int (nI 0)), (0, .long x), (2, .ref ba), (3, .int (nI fr))]) hx hb dX7_writeLong_1 hl (by decide) rfl (fun ls hl => ?_)
  have L_3 : ∀ (nn k : Nat), k ≤ 8 → 8 < k + nn → ∀ (H : Heap) (locs : List Loc) (ls : Array Slot), Wd g s A H locs [(ba, iA g nb (wlF x fr fb k))] → lv_has ls 5 [(0, .long x), (2, .ref ba), (3, .int (nI fr)), (4, .int (nI k))] → W p l e (rmm 0 0) s m args below meth c H locs 0 0 QQ (F0 m 3 ls []) := by
    intro nn
    induction nn with
    | zero => intro k h1 h2; exact absurd h2 (by omega)
    | succ nn ih =>
      intro k hk_k hn_k H locs ls hw hl
      refine lv_iload hx hb dX7_writeLong_3 (lv_at hl 3 rfl) ?_
      refine lv_bipush (v := nI 8) hx hb dX7_writeLong_5 (by decide) ?_
      refine n_ge (tgt := 37) hx hb (by omega) (by omega) dX7_writeLong_7 (by decide) (fun c_7 => ?_) (fun c_7 => ?_)
      · obtain rfl : k = 8 := by omega
        exact rt_v F hr hlk hQ hw () trivial rfl dX7_writeLong_37
      · refine lv_aload_n hx hb dX7_writeLong_10 rfl (lv_at hl 1 rfl) ?_
        refine lv_iload_n hx hb dX7_writeLong_11 rfl (lv_at hl 2 rfl) ?_
        refine lv_iload hx hb dX7_writeLong_12 (lv_at hl 3 rfl) ?_
        refine n_add hx hb dX7_writeLong_14 ?_
        refine lv_lload_n hx hb dX7_writeLong_15 rfl (lv_at hl 0 rfl) ?_
        refine lv_bipush (v := nI 56) hx hb dX7_writeLong_16 (by decide) ?_
        refine lv_bipush (v := nI 8) hx hb dX7_writeLong_18 (by decide) ?_
        refine lv_iload hx hb dX7_writeLong_20 (lv_at hl 3 rfl) ?_
        refine n_mul hx hb dX7_writeLong_22 ?_
        refine n_sub hx hb (by omega) dX7_writeLong_23 ?_
        refine lv_lushr (v := lushr x (nI (56 - (8 * k)))) hx hb dX7_writeLong_24 rfl ?_
        refine lv_l2i (v := ((lushr x (nI (56 - (8 * k))))).toInt32) hx hb dX7_writeLong_25 rfl ?_
        refine lv_sipush (v := nI 255) hx hb dX7_writeLong_26 (by decide) ?_
        refine lv_iand hx hb dX7_writeLong_29 ?_
        refine ia_st F hw 0 rfl (by omega) (by omega) dX7_writeLong_30 (fun H locs hw => ?_)
        replace hw : Wd g s A H locs [(ba, iA g nb (upd (wlF x fr fb k) (fr + k) ((((lushr x (nI (56 - (8 * k))))).toInt32) &&& (nI 255))))] := hw
        refine lv_iinc (v := nI (k + 1)) (lv' := [(4, .int (nI (k + 1))), (0, .long x), (2, .ref ba), (3, .int (nI fr))]) hx hb dX7_writeLong_31 hl (k := 3) rfl (inc_n _ 1) (by decide) rfl (fun ls hl => ?_)
        refine lv_goto (tgt := 3) hx hb dX7_writeLong_34 (by decide) ?_
        exact ih (k + 1) (by omega) (by omega) _ _ _ hw (lv_sub hl [1, 2, 3, 0] rfl)
  exact L_3 (8 + 1) 0 (by omega) (by omega) _ _ _ hw (lv_sub hl [1, 2, 3, 0] rfl)
set_option maxHeartbeats 4000000 in
set_option maxRecDepth 100000 in
theorem c_X7_readLong (g : GG) (l : Launch) (ba : Nat) (nb : Nat) (fb : Nat → Int32) (fr : Nat) (hnb : nb < 2 ^ 31) (hfr : fr + 8 ≤ nb) : Ct g l yX7_readLong cX7_readLong 5 (some .long) 0 0 [.ref ba, .int (nI fr)] [(ba, iA g nb fb)] (Rl g (fun (v : Int64) (u : Unit) => v = rdL fb fr 8) (fun (u : Unit) => [(ba, iA g nb fb)])) := by
  refine mkC (by decide) (Nat.le_of_ble_eq_true rfl) ?_
  intro p e s m args below meth c A ls QQ F hr hlk hnm hQ hw hl
  have hx := F.1
  have hb := F.2.1
  replace hl : lv_has ls 5 [(0, .ref ba), (1, .int (nI fr))] := hl
  refine lv_lconst (v := 0) hx hb dX7_readLong_0 (by decide) ?_
  refine lv_lstore_n (lv' := [(2, .long 0), (0, .ref ba), (1, .int (nI fr))]) hx hb dX7_readLong_1 rfl hl (by decide) rfl (fun ls hl => ?_)
  refine lv_iconst (v := nI 0) hx hb dX7_readLong_2 (by decide) ?_
  refine lv_istore (lv' := [(4, .int (nI 0)), (2, .long 0), (0, .ref ba), (1, .int (nI fr))]) hx hb dX7_readLong_3 hl (by decide) rfl (fun ls hl => ?_)
  have L_5 : ∀ (nn k : Nat), k ≤ 8 → 8 < k + nn → ∀ (H : Heap) (locs : List Loc) (ls : Array Slot), Wd g s A H locs [(ba, iA g nb fb)] → lv_has ls 5 [(0, .ref ba), (1, .int (nI fr)), (2, .long ((rdL fb fr k))), (4, .int (nI k))] → W p l e (rmm 0 0) s m args below meth c H locs 0 0 QQ (F0 m 5 ls []) := by
    intro nn
    induction nn with
    | zero => intro k h1 h2; exact absurd h2 (by omega)
    | succ nn ih =>
      intro k hk_k hn_k H locs ls hw hl
      refine lv_iload hx hb dX7_readLong_5 (lv_at hl 3 rfl) ?_
      refine lv_bipush (v := nI 8) hx hb dX7_readLong_7 (by decide) ?_
      refine n_ge (tgt := 31) hx hb (by omega) (by omega) dX7_readLong_9 (by decide) (fun c_9 => ?_) (fun c_9 => ?_)
      · obtain rfl : k = 8 := by omega
        refine lv_lload_n hx hb dX7_readLong_31 rfl (lv_at hl 2 rfl) ?_
        exact rt_l F hr hlk hQ hw () rfl rfl dX7_readLong_32
      · refine lv_lload_n hx hb dX7_readLong_12 rfl (lv_at hl 2 rfl) ?_
        refine lv_bipush (v := nI 8) hx hb dX7_readLong_13 (by decide) ?_
        refine lv_lshl (v := lshl (rdL fb fr k) (nI 8)) hx hb dX7_readLong_15 rfl ?_
        refine lv_aload_n hx hb dX7_readLong_16 rfl (lv_at hl 0 rfl) ?_
        refine lv_iload_n hx hb dX7_readLong_17 rfl (lv_at hl 1 rfl) ?_
        refine lv_iload hx hb dX7_readLong_18 (lv_at hl 3 rfl) ?_
        refine n_add hx hb dX7_readLong_20 ?_
        refine ia_ld F hw 0 rfl (by omega) (by omega) dX7_readLong_21 ?_
        refine lv_i2l (v := ((fb (fr + k))).toInt64) hx hb dX7_readLong_22 rfl ?_
        refine lv_lor hx hb dX7_readLong_23 ?_
        refine lv_lstore_n (lv' := [(2, .long (((lshl (rdL fb fr k) (nI 8)) ||| (((fb (fr + k))).toInt64)))), (0, .ref ba), (1, .int (nI fr)), (4, .int (nI k))]) hx hb dX7_readLong_24 rfl hl (by decide) rfl (fun ls hl => ?_)
        refine lv_iinc (v := nI (k + 1)) (lv' := [(4, .int (nI (k + 1))), (2, .long (((lshl (rdL fb fr k) (nI 8)) ||| (((fb (fr + k))).toInt64)))), (0, .ref ba), (1, .int (nI fr))]) hx hb dX7_readLong_25 hl (k := 3) rfl (inc_n _ 1) (by decide) rfl (fun ls hl => ?_)
        refine lv_goto (tgt := 5) hx hb dX7_readLong_28 (by decide) ?_
        exact ih (k + 1) (by omega) (by omega) _ _ _ hw (lv_sub hl [2, 3, 1, 0] rfl)
  exact L_5 (8 + 1) 0 (by omega) (by omega) _ _ _ hw (lv_sub hl [2, 3, 1, 0] rfl)
set_option maxHeartbeats 4000000 in
set_option maxRecDepth 100000 in
theorem c_X7_textOf_0 (g : GG) (l : Launch) (ad : Nat → Nat) (ka : Nat → Nat) (kb : Nat → Nat) (ua : Nat → Nat) (sa : Nat → Nat) (now : Int64) (gr : Int64) (mo : Int64) (re : Int64) (bgn : Int32) (lin : Int32) (rfd : Int32) (rnd : Int32) (mB : Nat → Int32) (mb : Nat → Int32) (ms : Nat → Int32) (mt : Nat → Int32) (kept : Nat) (np : Nat) (cl : Nat) (cf : Nat → Int32) (tn : Nat) (tf : Nat → Int32) (dl : Nat) (df : Nat → Int32) (sdf : Nat → Int32) (cnf : Nat → Int32) (cbf : Nat → Int32) (mkf : Nat → Int32) (num : Nat → Int32) (rep : Nat → Int64) (kf : Nat → Nat → Int32) (uto : Nat → Int32) (ufi : Nat → Int32) (use : Nat → Int32) (sop : Nat → Int32) (sow : Nat → Int32) (sid : Nat → Int64) (sbe : Nat → Int64) (sla : Nat → Int64) : Ct g l yX7_textOf cX7_textOf 2 (some (.object "SessionGate$Text")) 0 0 [.ref (ad 0), .int (nI 0)] (gX g ad ka ua sa now gr mo re bgn lin rfd rnd mB mb ms mt kept np cl cf tn tf dl df sdf cnf cbf mkf ++ (tl 4 ka (kE kb num rep) ++ (tl 4 kb (bE g kf) ++ (tl 8 ua (uE uto ufi use) ++ (tl 8 sa (sE sop sow sid sbe sla) ++ []))))) (Rq g (fun (v : Option Nat) (u : Unit) => v = some (ad 8)) (fun (u : Unit) => (gX g ad ka ua sa now gr mo re bgn lin rfd rnd mB mb ms mt kept np cl cf tn tf dl df sdf cnf cbf mkf ++ (tl 4 ka (kE kb num rep) ++ (tl 4 kb (bE g kf) ++ (tl 8 ua (uE uto ufi use) ++ (tl 8 sa (sE sop sow sid sbe sla) ++ []))))))) := by
  refine mkC (by decide) (Nat.le_of_ble_eq_true rfl) ?_
  intro p e s m args below meth c A ls QQ F hr hlk hnm hQ hw hl
  have hx := F.1
  have hb := F.2.1
  replace hl : lv_has ls 2 [(0, .ref (ad 0)), (1, .int (nI 0))] := hl
  refine lv_iload_n hx hb dX7_textOf_0 rfl (lv_at hl 1 rfl) ?_
  refine lv_if_ne (tgt := 11) hx hb dX7_textOf_1 (by decide) (fun c_1 => ?_) (fun c_1 => ?_)
  · exact absurd rfl c_1
  · refine lv_aload_n hx hb dX7_textOf_4 rfl (lv_at hl 0 rfl) ?_
    refine gf_X7_26 F hw 0 rfl rfl dX7_textOf_5 ?_
    refine lv_goto (tgt := 15) hx hb dX7_textOf_8 (by decide) ?_
    exact rt_q F hr hlk hQ hw () (some (ad 8)) rfl rfl rfl dX7_textOf_15
set_option maxHeartbeats 4000000 in
set_option maxRecDepth 100000 in
theorem c_X7_textOf_1 (g : GG) (l : Launch) (ad : Nat → Nat) (ka : Nat → Nat) (kb : Nat → Nat) (ua : Nat → Nat) (sa : Nat → Nat) (now : Int64) (gr : Int64) (mo : Int64) (re : Int64) (bgn : Int32) (lin : Int32) (rfd : Int32) (rnd : Int32) (mB : Nat → Int32) (mb : Nat → Int32) (ms : Nat → Int32) (mt : Nat → Int32) (kept : Nat) (np : Nat) (cl : Nat) (cf : Nat → Int32) (tn : Nat) (tf : Nat → Int32) (dl : Nat) (df : Nat → Int32) (sdf : Nat → Int32) (cnf : Nat → Int32) (cbf : Nat → Int32) (mkf : Nat → Int32) (num : Nat → Int32) (rep : Nat → Int64) (kf : Nat → Nat → Int32) (uto : Nat → Int32) (ufi : Nat → Int32) (use : Nat → Int32) (sop : Nat → Int32) (sow : Nat → Int32) (sid : Nat → Int64) (sbe : Nat → Int64) (sla : Nat → Int64) : Ct g l yX7_textOf cX7_textOf 2 (some (.object "SessionGate$Text")) 0 0 [.ref (ad 0), .int (nI 1)] (gX g ad ka ua sa now gr mo re bgn lin rfd rnd mB mb ms mt kept np cl cf tn tf dl df sdf cnf cbf mkf ++ (tl 4 ka (kE kb num rep) ++ (tl 4 kb (bE g kf) ++ (tl 8 ua (uE uto ufi use) ++ (tl 8 sa (sE sop sow sid sbe sla) ++ []))))) (Rq g (fun (v : Option Nat) (u : Unit) => v = some (ad 10)) (fun (u : Unit) => (gX g ad ka ua sa now gr mo re bgn lin rfd rnd mB mb ms mt kept np cl cf tn tf dl df sdf cnf cbf mkf ++ (tl 4 ka (kE kb num rep) ++ (tl 4 kb (bE g kf) ++ (tl 8 ua (uE uto ufi use) ++ (tl 8 sa (sE sop sow sid sbe sla) ++ []))))))) := by
  refine mkC (by decide) (Nat.le_of_ble_eq_true rfl) ?_
  intro p e s m args below meth c A ls QQ F hr hlk hnm hQ hw hl
  have hx := F.1
  have hb := F.2.1
  replace hl : lv_has ls 2 [(0, .ref (ad 0)), (1, .int (nI 1))] := hl
  refine lv_iload_n hx hb dX7_textOf_0 rfl (lv_at hl 1 rfl) ?_
  refine lv_if_ne (tgt := 11) hx hb dX7_textOf_1 (by decide) (fun c_1 => ?_) (fun c_1 => ?_)
  · refine lv_aload_n hx hb dX7_textOf_11 rfl (lv_at hl 0 rfl) ?_
    refine gf_X7_30 F hw 0 rfl rfl dX7_textOf_12 ?_
    exact rt_q F hr hlk hQ hw () (some (ad 10)) rfl rfl rfl dX7_textOf_15
  · exact absurd c_1 (by decide)
set_option maxHeartbeats 4000000 in
set_option maxRecDepth 100000 in
theorem c_X7_openSessions (g : GG) (l : Launch) (ad : Nat → Nat) (ka : Nat → Nat) (kb : Nat → Nat) (ua : Nat → Nat) (sa : Nat → Nat) (now : Int64) (gr : Int64) (mo : Int64) (re : Int64) (bgn : Int32) (lin : Int32) (rfd : Int32) (rnd : Int32) (mB : Nat → Int32) (mb : Nat → Int32) (ms : Nat → Int32) (mt : Nat → Int32) (kept : Nat) (np : Nat) (cl : Nat) (cf : Nat → Int32) (tn : Nat) (tf : Nat → Int32) (dl : Nat) (df : Nat → Int32) (sdf : Nat → Int32) (cnf : Nat → Int32) (cbf : Nat → Int32) (mkf : Nat → Int32) (num : Nat → Int32) (rep : Nat → Int64) (kf : Nat → Nat → Int32) (uto : Nat → Int32) (ufi : Nat → Int32) (use : Nat → Int32) (sop : Nat → Int32) (sow : Nat → Int32) (sid : Nat → Int64) (sbe : Nat → Int64) (sla : Nat → Int64) : Ct g l yX7_openSessions cX7_openSessions 3 (some .int) 0 0 [.ref (ad 0)] (gX g ad ka ua sa now gr mo re bgn lin rfd rnd mB mb ms mt kept np cl cf tn tf dl df sdf cnf cbf mkf ++ (tl 4 ka (kE kb num rep) ++ (tl 4 kb (bE g kf) ++ (tl 8 ua (uE uto ufi use) ++ (tl 8 sa (sE sop sow sid sbe sla) ++ []))))) (Ri g (fun (v : Int32) (u : Unit) => v = nI (cntL sop 8)) (fun (u : Unit) => (gX g ad ka ua sa now gr mo re bgn lin rfd rnd mB mb ms mt kept np cl cf tn tf dl df sdf cnf cbf mkf ++ (tl 4 ka (kE kb num rep) ++ (tl 4 kb (bE g kf) ++ (tl 8 ua (uE uto ufi use) ++ (tl 8 sa (sE sop sow sid sbe sla) ++ []))))))) := by
  refine mkC (by decide) (Nat.le_of_ble_eq_true rfl) ?_
  intro p e s m args below meth c A ls QQ F hr hlk hnm hQ hw hl
  have hx := F.1
  have hb := F.2.1
  replace hl : lv_has ls 3 [(0, .ref (ad 0))] := hl
  refine lv_iconst (v := nI 0) hx hb dX7_openSessions_0 (by decide) ?_
  refine lv_istore_n (lv' := [(1, .int (nI 0)), (0, .ref (ad 0))]) hx hb dX7_openSessions_1 rfl hl (by decide) rfl (fun ls hl => ?_)
  refine lv_iconst (v := nI 0) hx hb dX7_openSessions_2 (by decide) ?_
  refine lv_istore_n (lv' := [(2, .int (nI 0)), (1, .int (nI 0)), (0, .ref (ad 0))]) hx hb dX7_openSessions_3 rfl hl (by decide) rfl (fun ls hl => ?_)
  have L_4 : ∀ (nn k : Nat), k ≤ 8 → 8 < k + nn → ∀ (H : Heap) (locs : List Loc) (ls : Array Slot), Wd g s A H locs (gX g ad ka ua sa now gr mo re bgn lin rfd rnd mB mb ms mt kept np cl cf tn tf dl df sdf cnf cbf mkf ++ (tl 4 ka (kE kb num rep) ++ (tl 4 kb (bE g kf) ++ (tl 8 ua (uE uto ufi use) ++ (tl 8 sa (sE sop sow sid sbe sla) ++ []))))) → lv_has ls 3 [(0, .ref (ad 0)), (1, .int (nI (cntL sop k))), (2, .int (nI k))] → W p l e (rmm 0 0) s m args below meth c H locs 0 0 QQ (F0 m 4 ls []) := by
    intro nn
    induction nn with
    | zero => intro k h1 h2; exact absurd h2 (by omega)
    | succ nn ih =>
      intro k hk_k hn_k H locs ls hw hl
      refine lv_iload_n hx hb dX7_openSessions_4 rfl (lv_at hl 2 rfl) ?_
      refine lv_bipush (v := nI 8) hx hb dX7_openSessions_5 (by decide) ?_
      refine n_ge (tgt := 31) hx hb (by omega) (by omega) dX7_openSessions_7 (by decide) (fun c_7 => ?_) (fun c_7 => ?_)
      · obtain rfl : k = 8 := by omega
        refine lv_iload_n hx hb dX7_openSessions_31 rfl (lv_at hl 1 rfl) ?_
        exact rt_i F hr hlk hQ hw () rfl rfl dX7_openSessions_32
      · refine lv_aload_n hx hb dX7_openSessions_10 rfl (lv_at hl 0 rfl) ?_
        refine gf_X7_44 F hw 0 rfl rfl dX7_openSessions_11 ?_
        refine lv_iload_n hx hb dX7_openSessions_14 rfl (lv_at hl 2 rfl) ?_
        refine ra_ld F hw 15 4 rfl rfl (by omega) (by omega) rfl dX7_openSessions_15 ?_
        refine gf_X7_163 F hw (36 + k) (tg4 rfl (by omega)) rfl dX7_openSessions_16 ?_
        refine lv_if_eq (tgt := 25) hx hb dX7_openSessions_19 (by decide) (fun c_19 => ?_) (fun c_19 => ?_)
        · refine lv_iinc (v := nI (k + 1)) (lv' := [(2, .int (nI (k + 1))), (0, .ref (ad 0)), (1, .int (nI (cntL sop k)))]) hx hb dX7_openSessions_25 hl (k := 2) rfl (inc_n _ 1) (by decide) rfl (fun ls hl => ?_)
          refine lv_goto (tgt := 4) hx hb dX7_openSessions_28 (by decide) ?_
          first | rw [← cnt_0 c_19] at hl | rw [← cnt_1 c_19] at hl
          exact ih (k + 1) (by omega) (by omega) _ _ _ hw (lv_sub hl [1, 2, 0] rfl)
        · refine lv_iinc (v := nI (cntL sop k + 1)) (lv' := [(1, .int (nI (cntL sop k + 1))), (0, .ref (ad 0)), (2, .int (nI k))]) hx hb dX7_openSessions_22 hl (k := 1) rfl (inc_n _ 1) (by decide) rfl (fun ls hl => ?_)
          refine lv_iinc (v := nI (k + 1)) (lv' := [(2, .int (nI (k + 1))), (1, .int (nI (cntL sop k + 1))), (0, .ref (ad 0))]) hx hb dX7_openSessions_25 hl (k := 2) rfl (inc_n _ 1) (by decide) rfl (fun ls hl => ?_)
          refine lv_goto (tgt := 4) hx hb dX7_openSessions_28 (by decide) ?_
          first | rw [← cnt_0 c_19] at hl | rw [← cnt_1 c_19] at hl
          exact ih (k + 1) (by omega) (by omega) _ _ _ hw (lv_sub hl [2, 1, 0] rfl)
  exact L_4 (8 + 1) 0 (by omega) (by omega) _ _ _ hw (lv_sub hl [2, 1, 0] rfl)
set_option maxHeartbeats 4000000 in
set_option maxRecDepth 100000 in
theorem c_X7_freeNumber (g : GG) (l : Launch) (ad : Nat → Nat) (ka : Nat → Nat) (kb : Nat → Nat) (ua : Nat → Nat) (sa : Nat → Nat) (now : Int64) (gr : Int64) (mo : Int64) (re : Int64) (bgn : Int32) (lin : Int32) (rfd : Int32) (rnd : Int32) (mB : Nat → Int32) (mb : Nat → Int32) (ms : Nat → Int32) (mt : Nat → Int32) (kept : Nat) (np : Nat) (cl : Nat) (cf : Nat → Int32) (tn : Nat) (tf : Nat → Int32) (dl : Nat) (df : Nat → Int32) (sdf : Nat → Int32) (cnf : Nat → Int32) (cbf : Nat → Int32) (mkf : Nat → Int32) (num : Nat → Int32) (rep : Nat → Int64) (kf : Nat → Nat → Int32) (uto : Nat → Int32) (ufi : Nat → Int32) (use : Nat → Int32) (sop : Nat → Int32) (sow : Nat → Int32) (sid : Nat → Int64) (sbe : Nat → Int64) (sla : Nat → Int64) : Ct g l yX7_freeNumber cX7_freeNumber 2 (some .int) 0 0 [.ref (ad 0)] (gX g ad ka ua sa now gr mo re bgn lin rfd rnd mB mb ms mt kept np cl cf tn tf dl df sdf cnf cbf mkf ++ (tl 4 ka (kE kb num rep) ++ (tl 4 kb (bE g kf) ++ (tl 8 ua (uE uto ufi use) ++ (tl 8 sa (sE sop sow sid sbe sla) ++ []))))) (Ri g (fun (v : Int32) (u : Unit) => (∃ k, k < 8 ∧ v = nI k ∧ sop k = 0 ∧ ∀ j, j < k → ¬ sop j = 0) ∨ (v = (-1) ∧ ∀ j, j < 8 → ¬ sop j = 0)) (fun (u : Unit) => (gX g ad ka ua sa now gr mo re bgn lin rfd rnd mB mb ms mt kept np cl cf tn tf dl df sdf cnf cbf mkf ++ (tl 4 ka (kE kb num rep) ++ (tl 4 kb (bE g kf) ++ (tl 8 ua (uE uto ufi use) ++ (tl 8 sa (sE sop sow sid sbe sla) ++ []))))))) := by
  refine mkC (by decide) (Nat.le_of_ble_eq_true rfl) ?_
  intro p e s m args below meth c A ls QQ F hr hlk hnm hQ hw hl
  have hx := F.1
  have hb := F.2.1
  replace hl : lv_has ls 2 [(0, .ref (ad 0))] := hl
  refine lv_iconst (v := nI 0) hx hb dX7_freeNumber_0 (by decide) ?_
  refine lv_istore_n (lv' := [(1, .int (nI 0)), (0, .ref (ad 0))]) hx hb dX7_freeNumber_1 rfl hl (by decide) rfl (fun ls hl => ?_)
  have L_2 : ∀ (nn k : Nat), k ≤ 8 → 8 < k + nn → ∀ (H : Heap) (locs : List Loc) (ls : Array Slot), (∀ j, j < k → ¬ sop j = 0) → Wd g s A H locs (gX g ad ka ua sa now gr mo re bgn lin rfd rnd mB mb ms mt kept np cl cf tn tf dl df sdf cnf cbf mkf ++ (tl 4 ka (kE kb num rep) ++ (tl 4 kb (bE g kf) ++ (tl 8 ua (uE uto ufi use) ++ (tl 8 sa (sE sop sow sid sbe sla) ++ []))))) → lv_has ls 2 [(0, .ref (ad 0)), (1, .int (nI k))] → W p l e (rmm 0 0) s m args below meth c H locs 0 0 QQ (F0 m 2 ls []) := by
    intro nn
    induction nn with
    | zero => intro k h1 h2; exact absurd h2 (by omega)
    | succ nn ih =>
      intro k hk_k hn_k H locs ls hi_k_0 hw hl
      refine lv_iload_n hx hb dX7_freeNumber_2 rfl (lv_at hl 1 rfl) ?_
      refine lv_bipush (v := nI 8) hx hb dX7_freeNumber_3 (by decide) ?_
      refine n_ge (tgt := 28) hx hb (by omega) (by omega) dX7_freeNumber_5 (by decide) (fun c_5 => ?_) (fun c_5 => ?_)
      · refine lv_iconst (v := (-1)) hx hb dX7_freeNumber_28 (by decide) ?_
        exact rt_i F hr hlk hQ hw () (Or.inr ⟨rfl, fun j hj => hi_k_0 j (by omega)⟩) rfl dX7_freeNumber_29
      · refine lv_aload_n hx hb dX7_freeNumber_8 rfl (lv_at hl 0 rfl) ?_
        refine gf_X7_44 F hw 0 rfl rfl dX7_freeNumber_9 ?_
        refine lv_iload_n hx hb dX7_freeNumber_12 rfl (lv_at hl 1 rfl) ?_
        refine ra_ld F hw 15 4 rfl rfl (by omega) (by omega) rfl dX7_freeNumber_13 ?_
        refine gf_X7_163 F hw (36 + k) (tg4 rfl (by omega)) rfl dX7_freeNumber_14 ?_
        refine lv_if_ne (tgt := 22) hx hb dX7_freeNumber_17 (by decide) (fun c_17 => ?_) (fun c_17 => ?_)
        · refine lv_iinc (v := nI (k + 1)) (lv' := [(1, .int (nI (k + 1))), (0, .ref (ad 0))]) hx hb dX7_freeNumber_22 hl (k := 1) rfl (inc_n _ 1) (by decide) rfl (fun ls hl => ?_)
          refine lv_goto (tgt := 2) hx hb dX7_freeNumber_25 (by decide) ?_
          exact ih (k + 1) (by omega) (by omega) _ _ _ (lt_s hi_k_0 c_17) hw (lv_sub hl [1, 0] rfl)
        · refine lv_iload_n hx hb dX7_freeNumber_20 rfl (lv_at hl 1 rfl) ?_
          exact rt_i F hr hlk hQ hw () (Or.inl ⟨k, by omega, rfl, c_17, hi_k_0⟩) rfl dX7_freeNumber_21
  exact L_2 (8 + 1) 0 (by omega) (by omega) _ _ _ (fun i h => absurd h (Nat.not_lt_zero i)) hw (lv_sub hl [1, 0] rfl)
def ageI (now b lim : Int64) : Int32 := if now - b < lim then nI 0 else nI 1
set_option maxHeartbeats 4000000 in
set_option maxRecDepth 100000 in
theorem c_X7_isOld (g : GG) (l : Launch) (ad : Nat → Nat) (ka : Nat → Nat) (kb : Nat → Nat) (ua : Nat → Nat) (sa : Nat → Nat) (now : Int64) (gr : Int64) (mo : Int64) (re : Int64) (bgn : Int32) (lin : Int32) (rfd : Int32) (rnd : Int32) (mB : Nat → Int32) (mb : Nat → Int32) (ms : Nat → Int32) (mt : Nat → Int32) (kept : Nat) (np : Nat) (cl : Nat) (cf : Nat → Int32) (tn : Nat) (tf : Nat → Int32) (dl : Nat) (df : Nat → Int32) (sdf : Nat → Int32) (cnf : Nat → Int32) (cbf : Nat → Int32) (mkf : Nat → Int32) (num : Nat → Int32) (rep : Nat → Int64) (kf : Nat → Nat → Int32) (uto : Nat → Int32) (ufi : Nat → Int32) (use : Nat → Int32) (sop : Nat → Int32) (sow : Nat → Int32) (sid : Nat → Int64) (sbe : Nat → Int64) (sla : Nat → Int64) (i : Nat) (hi : i < 8) : Ct g l yX7_isOld cX7_isOld 2 (some .boolean) 0 0 [.ref (ad 0), .ref (sa i)] (gX g ad ka ua sa now gr mo re bgn lin rfd rnd mB mb ms mt kept np cl cf tn tf dl df sdf cnf cbf mkf ++ (tl 4 ka (kE kb num rep) ++ (tl 4 kb (bE g kf) ++ (tl 8 ua (uE uto ufi use) ++ (tl 8 sa (sE sop sow sid sbe sla) ++ []))))) (Ri g (fun (v : Int32) (u : Unit) => v = ageI now (sbe i) mo) (fun (u : Unit) => (gX g ad ka ua sa now gr mo re bgn lin rfd rnd mB mb ms mt kept np cl cf tn tf dl df sdf cnf cbf mkf ++ (tl 4 ka (kE kb num rep) ++ (tl 4 kb (bE g kf) ++ (tl 8 ua (uE uto ufi use) ++ (tl 8 sa (sE sop sow sid sbe sla) ++ []))))))) := by
  refine mkC (by decide) (Nat.le_of_ble_eq_true rfl) ?_
  intro p e s m args below meth c A ls QQ F hr hlk hnm hQ hw hl
  have hx := F.1
  have hb := F.2.1
  replace hl : lv_has ls 2 [(0, .ref (ad 0)), (1, .ref (sa i))] := hl
  refine lv_aload_n hx hb dX7_isOld_0 rfl (lv_at hl 0 rfl) ?_
  refine gf_X7_61 F hw 0 rfl rfl dX7_isOld_1 ?_
  refine lv_aload_n hx hb dX7_isOld_4 rfl (lv_at hl 1 rfl) ?_
  refine gf_X7_204 F hw (36 + i) (tg4 rfl (by omega)) rfl dX7_isOld_5 ?_
  refine lv_lsub hx hb dX7_isOld_8 ?_
  refine lv_aload_n hx hb dX7_isOld_9 rfl (lv_at hl 0 rfl) ?_
  refine gf_X7_70 F hw 0 rfl rfl dX7_isOld_10 ?_
  refine lc_lt (tgt := 21) hx hb dX7_isOld_13 dX7_isOld_14 (by decide) (fun c_13 => ?_) (fun c_13 => ?_)
  · refine lv_iconst (v := nI 0) hx hb dX7_isOld_21 (by decide) ?_
    exact rt_z F hr rfl hlk hQ hw () (by simp only [ageI, c_13, if_true, if_false]) rfl dX7_isOld_22
  · refine lv_iconst (v := nI 1) hx hb dX7_isOld_17 (by decide) ?_
    refine lv_goto (tgt := 22) hx hb dX7_isOld_18 (by decide) ?_
    exact rt_z F hr rfl hlk hQ hw () (by simp only [ageI, c_13, if_true, if_false]) rfl dX7_isOld_22
set_option maxHeartbeats 4000000 in
set_option maxRecDepth 100000 in
theorem c_X7_isIdle (g : GG) (l : Launch) (ad : Nat → Nat) (ka : Nat → Nat) (kb : Nat → Nat) (ua : Nat → Nat) (sa : Nat → Nat) (now : Int64) (gr : Int64) (mo : Int64) (re : Int64) (bgn : Int32) (lin : Int32) (rfd : Int32) (rnd : Int32) (mB : Nat → Int32) (mb : Nat → Int32) (ms : Nat → Int32) (mt : Nat → Int32) (kept : Nat) (np : Nat) (cl : Nat) (cf : Nat → Int32) (tn : Nat) (tf : Nat → Int32) (dl : Nat) (df : Nat → Int32) (sdf : Nat → Int32) (cnf : Nat → Int32) (cbf : Nat → Int32) (mkf : Nat → Int32) (num : Nat → Int32) (rep : Nat → Int64) (kf : Nat → Nat → Int32) (uto : Nat → Int32) (ufi : Nat → Int32) (use : Nat → Int32) (sop : Nat → Int32) (sow : Nat → Int32) (sid : Nat → Int64) (sbe : Nat → Int64) (sla : Nat → Int64) (i : Nat) (hi : i < 8) : Ct g l yX7_isIdle cX7_isIdle 2 (some .boolean) 0 0 [.ref (ad 0), .ref (sa i)] (gX g ad ka ua sa now gr mo re bgn lin rfd rnd mB mb ms mt kept np cl cf tn tf dl df sdf cnf cbf mkf ++ (tl 4 ka (kE kb num rep) ++ (tl 4 kb (bE g kf) ++ (tl 8 ua (uE uto ufi use) ++ (tl 8 sa (sE sop sow sid sbe sla) ++ []))))) (Ri g (fun (v : Int32) (u : Unit) => v = ageI now (sla i) re) (fun (u : Unit) => (gX g ad ka ua sa now gr mo re bgn lin rfd rnd mB mb ms mt kept np cl cf tn tf dl df sdf cnf cbf mkf ++ (tl 4 ka (kE kb num rep) ++ (tl 4 kb (bE g kf) ++ (tl 8 ua (uE uto ufi use) ++ (tl 8 sa (sE sop sow sid sbe sla) ++ []))))))) := by
  refine mkC (by decide) (Nat.le_of_ble_eq_true rfl) ?_
  intro p e s m args below meth c A ls QQ F hr hlk hnm hQ hw hl
  have hx := F.1
  have hb := F.2.1
  replace hl : lv_has ls 2 [(0, .ref (ad 0)), (1, .ref (sa i))] := hl
  refine lv_aload_n hx hb dX7_isIdle_0 rfl (lv_at hl 0 rfl) ?_
  refine gf_X7_61 F hw 0 rfl rfl dX7_isIdle_1 ?_
  refine lv_aload_n hx hb dX7_isIdle_4 rfl (lv_at hl 1 rfl) ?_
  refine gf_X7_160 F hw (36 + i) (tg4 rfl (by omega)) rfl dX7_isIdle_5 ?_
  refine lv_lsub hx hb dX7_isIdle_8 ?_
  refine lv_aload_n hx hb dX7_isIdle_9 rfl (lv_at hl 0 rfl) ?_
  refine gf_X7_73 F hw 0 rfl rfl dX7_isIdle_10 ?_
  refine lc_lt (tgt := 21) hx hb dX7_isIdle_13 dX7_isIdle_14 (by decide) (fun c_13 => ?_) (fun c_13 => ?_)
  · refine lv_iconst (v := nI 0) hx hb dX7_isIdle_21 (by decide) ?_
    exact rt_z F hr rfl hlk hQ hw () (by simp only [ageI, c_13, if_true, if_false]) rfl dX7_isIdle_22
  · refine lv_iconst (v := nI 1) hx hb dX7_isIdle_17 (by decide) ?_
    refine lv_goto (tgt := 22) hx hb dX7_isIdle_18 (by decide) ?_
    exact rt_z F hr rfl hlk hQ hw () (by simp only [ageI, c_13, if_true, if_false]) rfl dX7_isIdle_22
