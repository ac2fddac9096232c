/-! rows of the law's own: its script, calls of the wrappers and of the reference -/
section LR
variable {p : Program} {l : Launch} {e : Env} {R : Room} {s : State} {m : MethodId} {args : Array Value} {below : List Frame} {meth : Method} {c : Code} {H : Heap} {locs : List Loc} {cells slots mc ms : Nat} {Q : State → Prop} {g : GG} {A : Nat → Prop} {ws : va_W} {cc : ByteArray} {nL : Nat} {own : String} {pc : Nat} {ls : Array Slot} {rest : List Value} {a : Nat}
theorem wd_as {X Y Z : va_W} (hw : Wd g s A H locs (X ++ (Y ++ Z))) : Wd g s A H locs ((X ++ Y) ++ Z) := by rw [List.append_assoc]; exact hw
theorem wd_sa {X Y Z : va_W} (hw : Wd g s A H locs ((X ++ Y) ++ Z)) : Wd g s A H locs (X ++ (Y ++ Z)) := by rw [List.append_assoc] at hw; exact hw
theorem sc_ld {b L j : Nat} {xs : Nat → Int32} (F : CallFix p m c cc nL s args BIG own) (hX : va_X b L xs s s.heap) (hbl : b < s.heap.size) (hw : Wd g s (fun q : Nat => s.heap.size ≤ q) H locs ws) (hj : j < L) (hL : L ≤ 3584) (hdg : decode cc pc = .ok (.iaload, 1)) (kk : W p l e R s m args below meth c H locs cells slots Q (F0 m (pc + 1) ls (.int (xs j) :: rest))) : W p l e R s m args below meth c H locs cells slots Q (F0 m pc ls (.int (nI j) :: .ref b :: rest)) :=
  va_sld F.1 F.2.1 hX hbl (Nat.not_le.mpr hbl) hw.2.2.2.1 (vp_in_nI hj (by omega)) hdg (by rw [nI_clamp (by omega)]; exact kk)
section RN
variable {y : MethodName} {cy : ByteArray} {n : Nat} {r : Option FieldType} {fr lo : Nat} {b : Nat} {As : List Value} {WS wr : va_W} {Qf : (Nat → Prop) → Array Value → State → Outcome → State → Prop} {index : Nat} {st0 : List Value}
theorem rn_W {hh : List (Nat × Nat × Nat × Nat)} (F : CallFix p m c cc nL s args BIG own) (hw : Wd g s A H locs (wr ++ WS)) (hM : Cw g l y cy n hh fr lo As WS Qf) (cw : vx_CSW R s args own index y cy n (some .int) hh (Cond.codeWith y cy n (some .int) hh :: BIG) (rmx fr lo) 1 6 As.length) (hsz : ls.size = nL) (hst : st0 = As.reverse ++ rest) (hrest : (rest.map fun v => v.category).sum ≤ 8) (hdg : decode cc pc = .ok (.invokestatic index, 3)) (hf : cells + 1 ≤ R.cells ∧ slots + 6 ≤ R.slots) : va_Run p l e R s m args below meth c H locs cells slots 1 6 (F0 m pc ls st0) rest (Qf (va_A WS H.size) As.toArray) (va_A WS H.size) :=
  vx_runSW F (hM H.size) cw ⟨CP_blind, fun U hU hW => preU (psR wr WS) hw (ps_nd wr WS) (ps_C wr WS) U hU hW⟩ rfl rfl hsz hst (lv_room hrest) hdg hf
theorem rn_VL {C : String} {ci : Nat} {fs : List Value} {q : vw_C} (F : CallFix p m c cc nL s args BIG own) (hw : Wd g s A H locs (WS ++ wr)) (hM : Ct g l y cy n r fr lo (.ref b :: As) WS Qf) (cw : CallW R s args own C index y cy n r (Cond.code y cy n r :: BIG) (rmm fr lo) 0 0 As.length) (q0 : Nat) (he : WS[q0]? = some (b, .inr (ci, fs))) (hci : vwCl[ci]? = some q) (hcn : q.1 = C) (hsz : ls.size = nL) (hst : st0 = As.reverse ++ .ref b :: rest) (hrest : (rest.map fun v => v.category).sum ≤ 8) (hdg : decode cc pc = .ok (.invokevirtual index, 3)) (hf : cells ≤ R.cells ∧ slots ≤ R.slots) : va_Run p l e R s m args below meth c H locs cells slots 0 0 (F0 m pc ls st0) rest (Qf (va_A WS H.size) (Value.ref b :: As).toArray) (va_A WS H.size) :=
  rn_VR F (wd_swap hw) hM cw q0 he hci hcn hsz hst hrest hdg hf
theorem cl_iL {S : Type} {post : Int32 → S → Prop} {WS' : S → va_W} {av : Array Value} (hw : Wd g s A H locs (WS ++ wr)) (hr : va_Run p l e R s m args below meth c H locs cells slots 0 0 (F0 m pc ls st0) rest (Ri g post WS' (va_A WS H.size) av) (va_A WS H.size))
    (kk : ∀ (v : Int32) (u : S) (H1 : Heap) (locs1 : List Loc), post v u → Wd g s A H1 locs1 (WS' u ++ wr) → W p l e R s m args below meth c H1 locs1 cells slots Q (F0 m (pc + 3) ls (.int v :: rest))) : W p l e R s m args below meth c H locs cells slots Q (F0 m pc ls st0) :=
  cl_iR (wd_swap hw) hr (fun v u H1 l1 hp h => kk v u H1 l1 hp (wd_swap h))
theorem cl_lL {S : Type} {post : Int64 → S → Prop} {WS' : S → va_W} {av : Array Value} (hw : Wd g s A H locs (WS ++ wr)) (hr : va_Run p l e R s m args below meth c H locs cells slots 0 0 (F0 m pc ls st0) rest (Rl g post WS' (va_A WS H.size) av) (va_A WS H.size))
    (kk : ∀ (v : Int64) (u : S) (H1 : Heap) (locs1 : List Loc), post v u → Wd g s A H1 locs1 (WS' u ++ wr) → W p l e R s m args below meth c H1 locs1 cells slots Q (F0 m (pc + 3) ls (.long v :: rest))) : W p l e R s m args below meth c H locs cells slots Q (F0 m pc ls st0) :=
  cl_lR (wd_swap hw) hr (fun v u H1 l1 hp h => kk v u H1 l1 hp (wd_swap h))
theorem cl_vL {S : Type} {post : S → Prop} {WS' : S → va_W} {av : Array Value} (hw : Wd g s A H locs (WS ++ wr)) (hr : va_Run p l e R s m args below meth c H locs cells slots 0 0 (F0 m pc ls st0) rest (Rv g post WS' (va_A WS H.size) av) (va_A WS H.size))
    (kk : ∀ (u : S) (H1 : Heap) (locs1 : List Loc), post u → Wd g s A H1 locs1 (WS' u ++ wr) → W p l e R s m args below meth c H1 locs1 cells slots Q (F0 m (pc + 3) ls rest)) : W p l e R s m args below meth c H locs cells slots Q (F0 m pc ls st0) :=
  cl_vR (wd_swap hw) hr (fun u H1 l1 hp h => kk u H1 l1 hp (wd_swap h))
end RN
end LR
theorem kr_a0 {kept np : Nat} {num : Nat → Int32} {rep : Nat → Int64} {kf : Nat → Nat → Int32} {mkn : Nat → Int32} {mku : Nat → Int64} {mkb : Nat → Int32} (h : KR kept np num rep kf mkn mku mkb) : ∃ a0, a0 < 256 ∧ mkn (kept - 1) = nI a0 := by
  obtain ⟨h1, h2, h3, h4, a0, ha0, ha⟩ := h
  exact ⟨_, by omega, (ha (kept - 1) (by omega)).1⟩
theorem tr_B {cl tn : Nat} {cf tf msi mtx : Nat → Int32} (h : TR cl cf tn tf msi mtx) : ∀ i, i < cl → (mtx i).toBitVec.toNat < 256 := by
  intro i hi
  rw [h.2.2.2.2.2.2.1 i hi]
  exact h.2.2.1 i (by have := h.1; omega)
