section STR
variable {p : Program} {l : Launch} {e : Env} {R : Room} {s : State} {m : MethodId} {args : Array Value} {below : List Frame} {meth : Method} {c : Code} {H : Heap} {locs : List Loc} {cells slots : Nat} {Q : State → Prop} {g : GG} {A : Nat → Prop} {ws : va_W} {cc : ByteArray} {nL : Nat} {own : String} {pc : Nat} {ls : Array Slot} {rest : List Value} {a : Nat}
theorem gf_J0_9 (F : CallFix p m c cc nL s args BIG RJ0) (hw : Wd g s A H locs ws) (hdg : decode cc pc = .ok (.getfield 9, 3)) (kk : W p l e R s m args below meth c H locs cells slots Q (F0 m (pc + 3) ls (.ref (gA g 3) :: rest))) : W p l e R s m args below meth c H locs cells slots Q (F0 m pc ls (.ref (gA g 2) :: rest)) :=
  vk_getf F.1 F.2.1 hw.2.2.2.2.1.2.2.2.2.2.2.2.1 hw.2.2.2.1 F.2.2.2.1 (F.2.2.2.2 _ bg_16_17) (fun _ h9 => h9) hdg kk
theorem gf_J0_15 (F : CallFix p m c cc nL s args BIG RJ0) (hw : Wd g s A H locs ws) (hdg : decode cc pc = .ok (.getfield 15, 3)) (kk : W p l e R s m args below meth c H locs cells slots Q (F0 m (pc + 3) ls (.int (nI 0) :: rest))) : W p l e R s m args below meth c H locs cells slots Q (F0 m pc ls (.ref (gA g 2) :: rest)) :=
  vk_getf F.1 F.2.1 hw.2.2.2.2.1.2.2.2.2.2.2.2.2.1 hw.2.2.2.1 F.2.2.2.1 (F.2.2.2.2 _ bg_16_23) (fun _ h9 => h9) hdg kk
theorem gs_J0_38 (F : CallFix p m c cc nL s args BIG RJ0) (hw : Wd g s A H locs ws) (hdg : decode cc pc = .ok (.getstatic 38, 3)) (kk : W p l e R s m args below meth c H locs cells slots Q (F0 m (pc + 3) ls (.int (nI 1) :: rest))) : W p l e R s m args below meth c H locs cells slots Q (F0 m pc ls rest) :=
  va_gets F.1 F.2.1 hw.2.2.2.2.1.2.2.2.2.2.2.2.2.2.2.1 hw.2.2.2.1 F.2.2.2.1 (F.2.2.2.2 _ bg_16_22) (fun _ h9 => h9) hdg kk
theorem gs_J0_1053 (F : CallFix p m c cc nL s args BIG RJ0) (hw : Wd g s A H locs ws) (hdg : decode cc pc = .ok (.getstatic 1053, 3)) (k0 : W p l e R s m args below meth c H locs cells slots Q (F0 m (pc + 3) ls (.null :: rest))) (k1 : ∀ t : Nat, W p l e R s m args below meth c H locs cells slots Q (F0 m (pc + 3) ls (.ref t :: rest))) : W p l e R s m args below meth c H locs cells slots Q (F0 m pc ls rest) := by
  rcases hw.2.2.2.2.1.2.2.2.2.2.2.2.2.2.2.2.1 with h | ⟨t, h⟩
  · exact va_gets F.1 F.2.1 h hw.2.2.2.1 F.2.2.2.1 (F.2.2.2.2 _ bg_17_7) (fun _ h9 => h9) hdg k0
  · exact va_gets F.1 F.2.1 h hw.2.2.2.1 F.2.2.2.1 (F.2.2.2.2 _ bg_17_7) (fun _ h9 => h9) hdg (k1 t)
theorem al_len (F : CallFix p m c cc nL s args BIG own) (hw : Wd g s A H locs ws) (hdg : decode cc pc = .ok (.arraylength, 1)) (kk : W p l e R s m args below meth c H locs cells slots Q (F0 m (pc + 1) ls (.int (nI 64) :: rest))) : W p l e R s m args below meth c H locs cells slots Q (F0 m pc ls (.ref (gA g 3) :: rest)) :=
  va_tlen F.1 F.2.1 hw.2.2.2.2.1.2.2.2.2.2.2.2.2.2.1 hw.2.2.2.1 rfl hdg kk
theorem al_ld (F : CallFix p m c cc nL s args BIG own) (hw : Wd g s A H locs ws) {k : Nat} (hk : k < 64) (hdg : decode cc pc = .ok (.baload, 1)) (kk : W p l e R s m args below meth c H locs cells slots Q (F0 m (pc + 1) ls (.int (kA k) :: rest))) : W p l e R s m args below meth c H locs cells slots Q (F0 m pc ls (.int (nI k) :: .ref (gA g 3) :: rest)) :=
  va_tb F.1 F.2.1 hw.2.2.2.2.1.2.2.2.2.2.2.2.2.2.1 hw.2.2.2.1 (vp_in_nI hk (by decide)) (by rw [nI_clamp (by omega)]) hdg kk
theorem ls_X0_17 (F : CallFix p m c cc nL s args BIG RX0) (hw : Wd g s A H locs ws) (hdg : decode cc pc = .ok (.ldc 17, 2)) (kk : W p l e R s m args below meth c H locs cells slots Q (F0 m (pc + 2) ls (.ref (gA g 2) :: rest))) : W p l e R s m args below meth c H locs cells slots Q (F0 m pc ls rest) :=
  va_ldcS F.1 F.2.1 F.2.2.2.1 hw.2.2.2.2.1.2.2.2.2.2.1 hdg kk
theorem st_recv (hw : Wd g s A H locs ws) : ∃ cell : Cell, H[gA g 2]? = some cell ∧ cell.vm.isStatics = false ∧ s.vm.findClass "java/lang/String" = some cell.cls := by
  obtain ⟨cell, h1, h2, h3, -⟩ := (hw.2.2.2.2.1.2.2.2.2.2.2.1).kept hw.2.2.2.1.2.1
  exact ⟨cell, h1, h2, h3⟩
theorem rn_VS {y : MethodName} {cy : ByteArray} {n : Nat} {r : Option FieldType} {fr lo : Nat} {As : List Value} {WS : va_W} {Qf : (Nat → Prop) → Array Value → State → Outcome → State → Prop} {index : Nat} {st0 : List Value} (F : CallFix p m c cc nL s args BIG own) (hw : Wd g s A H locs ws) (hM : Ct g l y cy n r fr lo (.ref (gA g 2) :: As) WS Qf) (cw : CallW R s args own RJ0 index y cy n r (Cond.code y cy n r :: BIG) (rmm fr lo) 0 0 As.length) (ps : List Nat) (hnd : va_nd ps = true) (hC : ps.map (fun i => ws[i]?) = WS.map some) (hsz : ls.size = nL) (hst : st0 = As.reverse ++ .ref (gA g 2) :: rest) (hrest : (rest.map fun v => v.category).sum ≤ 8) (hdg : decode cc pc = .ok (.invokevirtual index, 3)) (hf : cells ≤ R.cells ∧ slots ≤ R.slots) : va_Run p l e R s m args below meth c H locs cells slots 0 0 (F0 m pc ls st0) rest (Qf (va_A WS H.size) (Value.ref (gA g 2) :: As).toArray) (va_A WS H.size) :=
  va_runV F (hM H.size) cw ⟨CP_blind, st_recv hw, fun U hU hW => preU ps hw hnd hC U hU hW⟩ rfl rfl hsz hst (lv_room hrest) hdg hf
theorem kA_char : ∀ k, k < 64 → ((kA k &&& nI 255).toUInt32 % 65536).toInt32 = kA k := by decide +kernel
theorem kA_nar : ∀ k, k < 64 → narrow .char (.int (kA k)) = .int (kA k) := by decide +kernel
/-- String.indexOf over the alphabet, from place k on -/
def ixF (x : Int32) : Nat → Nat → Int32
  | 0, _ => (-1)
  | n + 1, k => if kA k = x then nI k else ixF x n (k + 1)
/-- six bits of a sign, or -1 -/
def six (c : Nat) : Int32 := ixF (nI c).toInt8.toInt32 64 0
end STR
