theorem nd_of : ∀ (l : List Nat), l.Nodup → va_nd l = true
  | [], _ => rfl
  | a :: l, h => by
    have h1 := List.nodup_cons.mp h
    simp only [va_nd, Bool.and_eq_true, decide_eq_true_eq]
    exact ⟨h1.1, nd_of l h1.2⟩
/-- the places of the second of two lists -/
abbrev psR (wr WS : va_W) : List Nat := (List.range WS.length).map (wr.length + ·)
theorem ps_C (wr WS : va_W) : (psR wr WS).map (fun i => (wr ++ WS)[i]?) = WS.map some := by
  apply List.ext_getElem?
  intro i
  by_cases h : i < WS.length
  · simp [h]
  · simp [h]
theorem ps_R (wr WS : va_W) : (List.range wr.length).map (fun i => (wr ++ WS)[i]?) = wr.map some := by
  apply List.ext_getElem?
  intro i
  by_cases h : i < wr.length
  · simp [h, List.getElem?_append_left h]
  · simp [h]
theorem ps_nd (wr WS : va_W) : va_nd (psR wr WS) = true := by
  refine nd_of _ (List.Pairwise.map _ (fun a b h => ?_) List.nodup_range)
  omega
theorem ps_dis (wr WS : va_W) : ∀ i ∈ List.range wr.length, i ∉ psR wr WS := by
  intro i h1 h2
  obtain ⟨j, hj, e⟩ := List.mem_map.mp h2
  have := List.mem_range.mp h1
  omega
section FR
variable {p : Program} {l : Launch} {e : Env} {R : Room} {s : State} {m : MethodId} {args : Array Value} {below : List Frame} {meth : Method} {c : Code} {H : Heap} {locs : List Loc} {cells slots mc ms : Nat} {Q : State → Prop} {g : GG} {A : Nat → Prop} {ws : va_W} {cc : ByteArray} {nL : Nat} {own : String} {pc : Nat} {ls : Array Slot} {rest : List Value} {a : Nat}
theorem wd_swap {X Y : va_W} (hw : Wd g s A H locs (X ++ Y)) : Wd g s A H locs (Y ++ X) := by
  have hX : va_P (gD g) vwCl X H := by
    refine hw.2.1.sub (List.range X.length) ?_
    have e1 : (List.range X.length).filterMap (fun i => (X ++ Y)[i]?) = ((List.range X.length).map (fun i => (X ++ Y)[i]?)).filterMap id := by simp [List.filterMap_map]
    rw [e1, ps_R]; simp [List.filterMap_map]
  have hY : va_P (gD g) vwCl Y H := by
    refine hw.2.1.sub (psR X Y) ?_
    have e1 : (psR X Y).filterMap (fun i => (X ++ Y)[i]?) = ((psR X Y).map (fun i => (X ++ Y)[i]?)).filterMap id := by simp [List.filterMap_map]
    rw [e1, ps_C]; simp [List.filterMap_map]
  refine ⟨hw.1, hY.app hX, (hw.2.2.1.sub (psR X Y) (ps_nd X Y) (ps_C X Y)).app (hw.2.2.1.sub _ (nd_of _ List.nodup_range) (ps_R X Y)) ?_, hw.2.2.2⟩
  intro i j p q hp hq e
  have h1 : (X ++ Y)[X.length + i]? = some p := by rw [List.getElem?_append_right (by omega)]; simpa using hp
  have h2 : (X ++ Y)[j]? = some q := by rw [List.getElem?_append_left (List.getElem?_eq_some_iff.mp hq).1]; exact hq
  have h3 := hw.2.2.1.1 _ _ _ _ h1 h2 e
  have h4 := (List.getElem?_eq_some_iff.mp hq).1
  omega
section RN
variable {y : MethodName} {cy : ByteArray} {n : Nat} {r : Option FieldType} {fr lo : Nat} {b : Nat} {As : List Value} {WS wr : va_W} {Qf : (Nat → Prop) → Array Value → State → Outcome → State → Prop} {index : Nat} {st0 : List Value}
theorem rn_VR {C : String} {ci : Nat} {fs : List Value} {q : vw_C} (F : CallFix p m c cc nL s args BIG own) (hw : Wd g s A H locs (wr ++ WS)) (hM : Ct g l y cy n r fr lo (.ref b :: As) WS Qf) (cw : CallW R s args own C index y cy n r (Cond.code y cy n r :: BIG) (rmm fr lo) 0 0 As.length) (q0 : Nat) (he : WS[q0]? = some (b, .inr (ci, fs))) (hci : vwCl[ci]? = some q) (hcn : q.1 = C) (hsz : ls.size = nL) (hst : st0 = As.reverse ++ .ref b :: rest) (hrest : (rest.map fun v => v.category).sum ≤ 8) (hdg : decode cc pc = .ok (.invokevirtual index, 3)) (hf : cells ≤ R.cells ∧ slots ≤ R.slots) : va_Run p l e R s m args below meth c H locs cells slots 0 0 (F0 m pc ls st0) rest (Qf (va_A WS H.size) (Value.ref b :: As).toArray) (va_A WS H.size) :=
  rn_V F hw hM cw (psR wr WS) (ps_nd wr WS) (ps_C wr WS) (wr.length + q0) (by rw [List.getElem?_append_right (by omega)]; simpa using he) hci hcn hsz hst hrest hdg hf
theorem rx_VR {C : String} {ci : Nat} {fs : List Value} {q : vw_C} {xp : String → Prop} (F : CallFix p m c cc nL s args BIG own) (hw : Wd g s A H locs (wr ++ WS)) (hM : Xt g l y cy n r fr lo (.ref b :: As) WS Qf xp) (cw : CallW R s args own C index y cy n r (Cond.code y cy n r :: BIG) (rmx fr lo) 1 6 As.length) (q0 : Nat) (he : WS[q0]? = some (b, .inr (ci, fs))) (hci : vwCl[ci]? = some q) (hcn : q.1 = C) (hsz : ls.size = nL) (hst : st0 = As.reverse ++ .ref b :: rest) (hrest : (rest.map fun v => v.category).sum ≤ 8) (hdg : decode cc pc = .ok (.invokevirtual index, 3)) (hf : cells + 1 ≤ R.cells ∧ slots + 6 ≤ R.slots) : vx_Run p l e R s m args below meth c H locs cells slots 1 6 (F0 m pc ls st0) rest (Qf (va_A WS H.size) (Value.ref b :: As).toArray) (XX g WS xp (va_A WS H.size)) (va_A WS H.size) :=
  vx_runV F (hM H.size) cw ⟨CP_blind, by have := va_recv hw.1 hw.2.1 hci (show (wr ++ WS)[wr.length + q0]? = _ by rw [List.getElem?_append_right (by omega)]; simpa using he); rwa [hcn] at this, fun U hU hW => preU (psR wr WS) hw (ps_nd wr WS) (ps_C wr WS) U hU hW⟩ rfl rfl hsz hst (lv_room hrest) hdg hf
theorem backR {w1 : va_W} {t : State} {H1 : Heap} {locs1 : List Loc} (hw : Wd g s A H locs (wr ++ WS)) (hk : ∀ q : Nat, q < H.size → ¬ va_A WS H.size q → H1[q]? = H[q]?) (ht : t.heap = H1) (hB : va_P (gD g) vwCl w1 t.heap ∧ va_K (gD g) vwCl (gT g) t ∧ va_D (va_A WS H.size) w1) (hS : va_S A s.heap H1 locs1) : Wd g s A H1 locs1 (wr ++ w1) := by
  obtain ⟨hP1, -, hD1⟩ := hB
  rw [ht] at hP1
  obtain ⟨h1, h2⟩ := va_join hw.2.1 hw.2.2.1 (psR wr WS) (List.range wr.length) (ps_C wr WS) (ps_R wr WS) (nd_of _ List.nodup_range) (ps_dis wr WS) hk (va_free hw.2.2.1 hw.2.2.2.1 hw.2.2.2.2.2 (psR wr WS) (ps_C wr WS)) hP1 hD1
  exact ⟨hw.1, h1, h2, hS, hw.2.2.2.2⟩
theorem freeR (hw : Wd g s A H locs (wr ++ WS)) : ∀ q, va_A WS H.size q → A q := va_free hw.2.2.1 hw.2.2.2.1 hw.2.2.2.2.2 (psR wr WS) (ps_C wr WS)
theorem cl_iR {S : Type} {post : Int32 → S → Prop} {WS' : S → va_W} {av : Array Value} (hw : Wd g s A H locs (wr ++ WS)) (hr : va_Run p l e R s m args below meth c H locs cells slots mc ms (F0 m pc ls st0) rest (Ri g post WS' (va_A WS H.size) av) (va_A WS H.size))
    (kk : ∀ (v : Int32) (u : S) (H1 : Heap) (locs1 : List Loc), post v u → Wd g s A H1 locs1 (wr ++ WS' u) → W p l e R s m args below meth c H1 locs1 (cells + mc) (slots + ms) Q (F0 m (pc + 3) ls (.int v :: rest))) : W p l e R s m args below meth c H locs cells slots Q (F0 m pc ls st0) :=
  va_calli hr hw.2.2.2.1 (fun q _ h => freeR hw q h) (freeR hw) (fun v u t H1 l1 ht _ hp hB _ hk hS => kk v u H1 l1 hp (backR hw hk ht hB hS))
theorem cx_iR {S : Type} {post : Int32 → S → Prop} {WS' : S → va_W} {xp : String → Prop} {av : Array Value} (hw : Wd g s A H locs (wr ++ WS)) (hr : vx_Run p l e R s m args below meth c H locs cells slots mc ms (F0 m pc ls st0) rest (Ri g post WS' (va_A WS H.size) av) (XX g WS xp (va_A WS H.size)) (va_A WS H.size))
    (kx : ∀ (E : String) (ce : Cell) (q9 : Addr) (H1 : Heap) (locs1 : List Loc), xp E → Wd g s A H1 locs1 (wr ++ WS) → H1[q9]? = some ce → ce.vm = .none → s.vm.findClass E = some ce.cls → vx_W p l e R s m args below meth c H1 locs1 (cells + mc) (slots + ms) Q (F0 m pc ls rest) q9)
    (kk : ∀ (v : Int32) (u : S) (H1 : Heap) (locs1 : List Loc), post v u → Wd g s A H1 locs1 (wr ++ WS' u) → W p l e R s m args below meth c H1 locs1 (cells + mc) (slots + ms) Q (F0 m (pc + 3) ls (.int v :: rest))) : W p l e R s m args below meth c H locs cells slots Q (F0 m pc ls st0) :=
  vx_calli hr hw.2.2.2.1 (fun q _ h => freeR hw q h) (freeR hw) (fun q _ h => freeR hw q h) (fun E ce q9 u t H1 l1 ht _ _ hB _ hk hS h1 h2 h3 => kx E ce q9 H1 l1 hB.1 (backR hw hk ht hB.2 hS) h1 h2 h3) (fun v u t H1 l1 ht _ hp hB _ hk hS => kk v u H1 l1 hp (backR hw hk ht hB hS))
theorem cl_lR {S : Type} {post : Int64 → S → Prop} {WS' : S → va_W} {av : Array Value} (hw : Wd g s A H locs (wr ++ WS)) (hr : va_Run p l e R s m args below meth c H locs cells slots mc ms (F0 m pc ls st0) rest (Rl g post WS' (va_A WS H.size) av) (va_A WS H.size))
    (kk : ∀ (v : Int64) (u : S) (H1 : Heap) (locs1 : List Loc), post v u → Wd g s A H1 locs1 (wr ++ WS' u) → W p l e R s m args below meth c H1 locs1 (cells + mc) (slots + ms) Q (F0 m (pc + 3) ls (.long v :: rest))) : W p l e R s m args below meth c H locs cells slots Q (F0 m pc ls st0) :=
  va_calll hr hw.2.2.2.1 (fun q _ h => freeR hw q h) (freeR hw) (fun v u t H1 l1 ht _ hp hB _ hk hS => kk v u H1 l1 hp (backR hw hk ht hB hS))
theorem cx_lR {S : Type} {post : Int64 → S → Prop} {WS' : S → va_W} {xp : String → Prop} {av : Array Value} (hw : Wd g s A H locs (wr ++ WS)) (hr : vx_Run p l e R s m args below meth c H locs cells slots mc ms (F0 m pc ls st0) rest (Rl g post WS' (va_A WS H.size) av) (XX g WS xp (va_A WS H.size)) (va_A WS H.size))
    (kx : ∀ (E : String) (ce : Cell) (q9 : Addr) (H1 : Heap) (locs1 : List Loc), xp E → Wd g s A H1 locs1 (wr ++ WS) → H1[q9]? = some ce → ce.vm = .none → s.vm.findClass E = some ce.cls → vx_W p l e R s m args below meth c H1 locs1 (cells + mc) (slots + ms) Q (F0 m pc ls rest) q9)
    (kk : ∀ (v : Int64) (u : S) (H1 : Heap) (locs1 : List Loc), post v u → Wd g s A H1 locs1 (wr ++ WS' u) → W p l e R s m args below meth c H1 locs1 (cells + mc) (slots + ms) Q (F0 m (pc + 3) ls (.long v :: rest))) : W p l e R s m args below meth c H locs cells slots Q (F0 m pc ls st0) :=
  vx_calll hr hw.2.2.2.1 (fun q _ h => freeR hw q h) (freeR hw) (fun q _ h => freeR hw q h) (fun E ce q9 u t H1 l1 ht _ _ hB _ hk hS h1 h2 h3 => kx E ce q9 H1 l1 hB.1 (backR hw hk ht hB.2 hS) h1 h2 h3) (fun v u t H1 l1 ht _ hp hB _ hk hS => kk v u H1 l1 hp (backR hw hk ht hB hS))
theorem cl_vR {S : Type} {post : S → Prop} {WS' : S → va_W} {av : Array Value} (hw : Wd g s A H locs (wr ++ WS)) (hr : va_Run p l e R s m args below meth c H locs cells slots mc ms (F0 m pc ls st0) rest (Rv g post WS' (va_A WS H.size) av) (va_A WS H.size))
    (kk : ∀ (u : S) (H1 : Heap) (locs1 : List Loc), post u → Wd g s A H1 locs1 (wr ++ WS' u) → W p l e R s m args below meth c H1 locs1 (cells + mc) (slots + ms) Q (F0 m (pc + 3) ls (rest))) : W p l e R s m args below meth c H locs cells slots Q (F0 m pc ls st0) :=
  va_callv hr hw.2.2.2.1 (fun q _ h => freeR hw q h) (freeR hw) (fun u t H1 l1 ht _ hp hB _ hk hS => kk u H1 l1 hp (backR hw hk ht hB hS))
theorem cx_vR {S : Type} {post : S → Prop} {WS' : S → va_W} {xp : String → Prop} {av : Array Value} (hw : Wd g s A H locs (wr ++ WS)) (hr : vx_Run p l e R s m args below meth c H locs cells slots mc ms (F0 m pc ls st0) rest (Rv g post WS' (va_A WS H.size) av) (XX g WS xp (va_A WS H.size)) (va_A WS H.size))
    (kx : ∀ (E : String) (ce : Cell) (q9 : Addr) (H1 : Heap) (locs1 : List Loc), xp E → Wd g s A H1 locs1 (wr ++ WS) → H1[q9]? = some ce → ce.vm = .none → s.vm.findClass E = some ce.cls → vx_W p l e R s m args below meth c H1 locs1 (cells + mc) (slots + ms) Q (F0 m pc ls rest) q9)
    (kk : ∀ (u : S) (H1 : Heap) (locs1 : List Loc), post u → Wd g s A H1 locs1 (wr ++ WS' u) → W p l e R s m args below meth c H1 locs1 (cells + mc) (slots + ms) Q (F0 m (pc + 3) ls (rest))) : W p l e R s m args below meth c H locs cells slots Q (F0 m pc ls st0) :=
  vx_callv hr hw.2.2.2.1 (fun q _ h => freeR hw q h) (freeR hw) (fun q _ h => freeR hw q h) (fun E ce q9 u t H1 l1 ht _ _ hB _ hk hS h1 h2 h3 => kx E ce q9 H1 l1 hB.1 (backR hw hk ht hB.2 hS) h1 h2 h3) (fun u t H1 l1 ht _ hp hB _ hk hS => kk u H1 l1 hp (backR hw hk ht hB hS))
end RN
end FR
/-- a contract of a static method with handlers that always returns -/
def Cw (g : GG) (l : Launch) (y : MethodName) (cy : ByteArray) (n : Nat) (hh : List (Nat × Nat × Nat × Nat)) (fr lo : Nat) (args : List Value) (WS : va_W) (Q : (Nat → Prop) → Array Value → State → Outcome → State → Prop) : Prop :=
  ∀ sz : Nat, Met l y (Cond.codeWith y cy n (some .int) hh :: BIG) (rmx fr lo) (va_Pc args (CP g WS sz)) (Q (va_A WS sz)) 1 6 (va_A WS sz)
theorem mkW {g : GG} {l : Launch} {y : MethodName} {cy : ByteArray} {n fr lo : Nat} {hh : List (Nat × Nat × Nat × Nat)} {av : List Value} {WS : va_W} {Qf : (Nat → Prop) → Array Value → State → Outcome → State → Prop} (hy : plainName y.cls = true) (hlen : (lg_sl av).length ≤ n)
    (body : ∀ (p : Program) (e : Env) (s : State) (m : MethodId) (args : Array Value) (below : List Frame) (meth : Method) (c : Code) (A : Nat → Prop) (ls : Array Slot) (QQ : State → Prop), CallFix p m c cy n s args BIG y.cls → meth.sig.returnType = some .int → meth.locks = false → c.exceptionTable.toList = tableOf hh → QQ = MQ below (Qf A) args s 1 6 A → Wd g s A s.heap [] WS → lv_has ls n (lv_args 0 av) →
      W p l e (rmx fr lo) s m args below meth c s.heap [] 0 0 QQ (F0 m 0 ls [])) : Cw g l y cy n hh fr lo av WS Qf := by
  intro sz
  refine va_MetW (cc := cy) (maxL := n) (ret := some .int) (hh := hh) hy rfl ?_
  intro p e s m args below meth c s₁ B hml hv
  obtain ⟨rfl, hsz, hP, hK, hD0, hE⟩ := hv
  subst hsz
  have hts := atoms_spec (ws := Cond.codeWith y cy n (some .int) hh :: BIG) B.pre
  rw [lg_entry_eq]
  exact body p e s m _ below meth c _ _ _ ⟨B.exec, B.bytes, hml, findClass_of_methodNamed B.named, fun w h => hts w (List.mem_cons_of_mem _ h)⟩ B.returns B.notSynchronized (vx_table (x := y) B (hts _ List.mem_cons_self)) rfl ⟨hK, hP, hD0.self (sz := s.heap.size), va_S.rf, hE, fun q h => Or.inr h⟩ (lv_entry av hlen)
theorem goodW {y : MethodName} {cy : ByteArray} {n idx : Nat} {own : String} {hh : List (Nat × Nat × Nat × Nat)} (h1 : Cond.methodLink own idx y ∈ BIG) (h2 : Cond.static y ∈ BIG) (h4 : Cond.initialized y.cls ∈ BIG) (h5 : Cond.codeWith y cy n (some .int) hh ∈ BIG) : GoodIn BIG (va_wsS own idx y (Cond.codeWith y cy n (some .int) hh :: BIG)) := by
  refine goodOf (fun w hw => ?_)
  rcases List.mem_append.mp hw with h | h
  · simp only [List.mem_cons, List.not_mem_nil, or_false] at h
    rcases h with rfl | rfl | rfl <;> assumption
  · exact (List.mem_cons.mp h).elim (fun z => z ▸ h5) id
theorem rtw {p : Program} {l : Launch} {e : Env} {R : Room} {s : State} {m : MethodId} {args : Array Value} {below : List Frame} {meth : Method} {c : Code} {H : Heap} {locs : List Loc} {cells slots : Nat} {Q : State → Prop} {g : GG} {A : Nat → Prop} {ws : va_W} {cc : ByteArray} {nL : Nat} {own : String} {pc : Nat} {ls : Array Slot} {S : Type} {post : Int32 → S → Prop} {WS' : S → va_W} {v : Int32} (F : CallFix p m c cc nL s args BIG own) (hr : meth.sig.returnType = some .int) (hlk : meth.locks = false) (hQ : Q = MQ below (Ri g post WS' A) args s cells slots A) (hw : Wd g s A H locs ws) (u : S) (hp : post v u) (hws : ws = WS' u) (hdg : decode cc pc = .ok (.ireturn, 1)) : W p l e R s m args below meth c H locs cells slots Q (F0 m pc ls [.int v]) := by
  subst hQ
  exact W.iret F.1 F.2.1 hr (fun t ht hW => ⟨⟨v, u, rfl, hp, by rw [ht, ← hws]; exact hw.2.1, va_K.moved hW.alike hw.1, hws ▸ hw.2.2.1⟩, hw.2.2.2.1.F ht⟩) hw.2.2.2.1.2.2 hdg hlk
/-- what a wrapper answers: 0 and the class's answer in out, or the exception's number and all as it was -/
def wrP {S : Type} (post : Int64 → S → Prop) (xp : String → Prop) (fo : Nat → Int64) : Int32 → Option S × (Nat → Int64) → Prop := fun v u =>
  match u.1 with
  | some w => v = nI 0 ∧ ∃ r, post r w ∧ u.2 = vp_updL fo 0 r
  | none => u.2 = fo ∧ ((v = nI 1 ∧ xp "java/lang/IllegalArgumentException") ∨ (v = nI 2 ∧ (xp "java/lang/IllegalStateException" ∨ xp "java/lang/IndexOutOfBoundsException")))
def wrW {S : Type} (g : GG) (oa : Nat) (WS : va_W) (WS' : S → va_W) : Option S × (Nat → Int64) → va_W := fun u => [(oa, jA g 1 u.2)] ++ (match u.1 with | some w => WS' w | none => WS)
/-- .. without out -/
def wrP0 {S : Type} (post : S → Prop) (xp : String → Prop) : Int32 → Option S → Prop := fun v u =>
  match u with
  | some w => v = nI 0 ∧ post w
  | none => v = nI 1 ∧ xp "java/lang/IllegalArgumentException"
def wrW0 {S : Type} (WS : va_W) (WS' : S → va_W) : Option S → va_W := fun u => [] ++ (match u with | some w => WS' w | none => WS)
