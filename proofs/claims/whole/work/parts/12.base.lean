/-! THE WORLD OF A METHOD, bundled. g: the classes' numbers, the fields' slots, the array classes, the addresses of what is given -/
abbrev GG : Type := (Nat → ClassId) × (Nat → Nat → Nat) × (Nat → ClassId) × (Nat → Nat)
abbrev gD (g : GG) : va_G := (g.1, g.2.1)
abbrev gC (g : GG) (k : Nat) : ClassId := g.2.2.1 k
abbrev gA (g : GG) (k : Nat) : Nat := g.2.2.2 k
abbrev gT (g : GG) : List (ClassId × FieldType) := [(gC g 0, .int), (gC g 1, .long), (gC g 2, .boolean), (gC g 3, .object "SessionGate$Key"), (gC g 4, .object "SessionGate$Session"), (gC g 5, .object "SessionGate$User")]
abbrev iA (g : GG) (n : Nat) (f : Nat → Int32) : va_E := .inl (gC g 0, n, .inl f)
abbrev jA (g : GG) (n : Nat) (f : Nat → Int64) : va_E := .inl (gC g 1, n, .inr (.inl f))
abbrev zA (g : GG) (n : Nat) (f : Nat → Int32) : va_E := .inl (gC g 2, n, .inl f)
abbrev rA (g : GG) (t n : Nat) (f : Nat → Option Nat) : va_E := .inl (gC g t, n, .inr (.inr (.inr (.inr f))))
/-- the nest's words -/
def nws : List Cond := [.fieldLinkNest RX7 160 "SessionGate$Session" "last" "J" "SessionGate", .fieldLinkNest RX7 163 "SessionGate$Session" "open" "Z" "SessionGate", .fieldLinkNest RX7 167 "SessionGate$Session" "owner" "I" "SessionGate", .fieldLinkNest RX7 201 "SessionGate$Session" "id" "J" "SessionGate", .fieldLinkNest RX7 204 "SessionGate$Session" "began" "J" "SessionGate", .fieldLinkNest RX7 214 "SessionGate$Key" "bytes" "[I" "SessionGate", .fieldLinkNest RX7 221 "SessionGate$Mac" "bytes" "[I" "SessionGate", .fieldLinkNest RX0 33 "SessionGate$Text" "signs" "[I" "SessionGate", .fieldLinkNest RX0 9 "SessionGate$Text" "length" "I" "SessionGate", .fieldLinkNest RX2 23 "SessionGate$Key" "replacedAt" "J" "SessionGate", .fieldLinkNest RX2 27 "SessionGate$Key" "number" "I" "SessionGate", .fieldLinkNest RX7 196 "SessionGate$Text" "signs" "[I" "SessionGate", .fieldLinkNest RX7 181 "SessionGate$Text" "length" "I" "SessionGate", .fieldLinkNest RX7 118 "SessionGate$Key" "number" "I" "SessionGate",
  .methodLinkNest RX7 25 yX5_init "SessionGate", .methodLinkNest RX7 89 yX6_init "SessionGate", .methodLinkNest RX7 9 yX3_init "SessionGate", .methodLinkNest RX7 90 yX4_init "SessionGate", .methodLinkNest RX1 21 yX7_byteOf "SessionGate", .methodLinkNest RX2 22 yX1_init "SessionGate", .methodLinkNest RX3 45 yX7_byteOf "SessionGate", .methodLinkNest RX5 19 yX7_byteOf "SessionGate",
  .declares (Bundle.init0 "java/lang/RuntimeException"), .declares (Bundle.init0 "java/lang/Exception"), .declares (Bundle.init0 Bundle.tN), .castable "java/lang/IllegalArgumentException" "java/lang/IllegalArgumentException", .castable "java/lang/IllegalStateException" "java/lang/IllegalStateException", .castable "java/lang/IndexOutOfBoundsException" "java/lang/IndexOutOfBoundsException"]
def nwOk : Cond → Bool
  | .fieldLinkNest _ _ _ _ _ _ => true
  | .methodLinkNest _ _ _ _ => true
  | .declares _ => true
  | .castable _ _ => true
  | _ => false
theorem nw_warm {w : Cond} (h : nwOk w = true) {s U : State} (hW : s.WarmedH U.vm) (hZ : va_Nw w s) : va_Nw w U := by
  cases w <;> first | exact va_Nw.warmF hW hZ | exact va_Nw.warmM hW hZ | exact va_Nw.warmD hW hZ | exact va_Nw.warmC hW hZ | cases h
theorem nw_tab {w : Cond} (h : nwOk w = true) : w.onTables = true := by
  cases w <;> first | rfl | cases h
theorem nws_ok : ∀ w ∈ nws, nwOk w = true := by decide +kernel
def kSTART : List Int32 := [0x6a09e667, 0xbb67ae85, 0x3c6ef372, 0xa54ff53a, 0x510e527f, 0x9b05688c, 0x1f83d9ab, 0x5be0cd19]
def kROUND : List Int32 := [0x428a2f98, 0x71374491, 0xb5c0fbcf, 0xe9b5dba5, 0x3956c25b, 0x59f111f1, 0x923f82a4, 0xab1c5ed5, 0xd807aa98, 0x12835b01, 0x243185be, 0x550c7dc3, 0x72be5d74, 0x80deb1fe, 0x9bdc06a7, 0xc19bf174, 0xe49b69c1, 0xefbe4786, 0x0fc19dc6, 0x240ca1cc, 0x2de92c6f, 0x4a7484aa, 0x5cb0a9dc, 0x76f988da, 0x983e5152, 0xa831c66d, 0xb00327c8, 0xbf597fc7, 0xc6e00bf3, 0xd5a79147, 0x06ca6351, 0x14292967, 0x27b70a85, 0x2e1b2138, 0x4d2c6dfc, 0x53380d13, 0x650a7354, 0x766a0abb, 0x81c2c92e, 0x92722c85, 0xa2bfe8a1, 0xa81a664b, 0xc24b8b70, 0xc76c51a3, 0xd192e819, 0xd6990624, 0xf40e3585, 0x106aa070, 0x19a4c116, 0x1e376c08, 0x2748774c, 0x34b0bcb5, 0x391c0cb3, 0x4ed8aa4a, 0x5b9cca4f, 0x682e6ff3, 0x748f82ee, 0x78a5636f, 0x84c87814, 0x8cc70208, 0x90befffa, 0xa4506ceb, 0xbef9a3f7, 0xc67178f2]
def kALPH : List Int32 := [65, 66, 67, 68, 69, 70, 71, 72, 73, 74, 75, 76, 77, 78, 79, 80, 81, 82, 83, 84, 85, 86, 87, 88, 89, 90, 97, 98, 99, 100, 101, 102, 103, 104, 105, 106, 107, 108, 109, 110, 111, 112, 113, 114, 115, 116, 117, 118, 119, 120, 121, 122, 48, 49, 50, 51, 52, 53, 54, 55, 56, 57, 45, 95]
def kS (j : Nat) : Int32 := kSTART.getD j 0
def kR (j : Nat) : Int32 := kROUND.getD j 0
def kA (j : Nat) : Int32 := kALPH.getD j 0
abbrev fmtD : String := "Ljava/util/function/BiFunction;"
/-- what is given and never written: the nest's words, the tables, the alphabet, the JDK's statics -/
def EnvG (g : GG) (A : Nat → Prop) (U : State) (H : Heap) : Prop :=
  (∀ w ∈ nws, va_Nw w U) ∧
  va_Z "SessionGate$Mac" "START" "[I" (.ref (gA g 0)) A U H ∧ va_T .int (gA g 0) 8 (fun j => .int (kS j)) A U H ∧
  va_Z "SessionGate$Mac" "ROUNDS" "[I" (.ref (gA g 1)) A U H ∧ va_T .int (gA g 1) 64 (fun j => .int (kR j)) A U H ∧
  vk_R "SessionGate$Coder" 17 "ABCDEFGHIJKLMNOPQRSTUVWXYZabcdefghijklmnopqrstuvwxyz0123456789-_" (gA g 2) U ∧
  va_O "java/lang/String" (gA g 2) A U H ∧ va_OF "java/lang/String" "value" "[B" (.ref (gA g 3)) (gA g 2) A U H ∧ va_OF "java/lang/String" "coder" "B" (.int 0) (gA g 2) A U H ∧
  va_T .byte (gA g 3) 64 (fun j => .int (kA j)) A U H ∧ va_Z "java/lang/String" "COMPACT_STRINGS" "Z" (.int 1) A U H ∧
  va_Zq "jdk/internal/util/Preconditions" "SIOOBE_FORMATTER" fmtD A U H ∧
  vx_Zq Bundle.tN "UNASSIGNED_STACK" Bundle.steD A U H ∧ vx_Zq Bundle.tN "SUPPRESSED_SENTINEL" Bundle.listD A U H ∧
  va_Nc "java/lang/IllegalStateException" "java/lang/IllegalArgumentException" U ∧ va_Nc "java/lang/IndexOutOfBoundsException" "java/lang/IllegalArgumentException" U
theorem EnvG.kept {g : GG} {A : Nat → Prop} {U : State} {H H1 : Heap} (h : EnvG g A U H) (hq : ∀ a : Nat, a < H.size → ¬ A a → H1[a]? = H[a]?) : EnvG g A U H1 := by
  obtain ⟨h0, h1, h2, h3, h4, h5, h6, h7, h8, h9, h10, h11, h12, h13, h14, h15⟩ := h
  exact ⟨h0, h1.kept hq, h2.kept hq, h3.kept hq, h4.kept hq, h5, h6.kept hq, h7.kept hq, h8.kept hq, h9.kept hq, h10.kept hq, h11.kept hq, h12.kept hq, h13.kept hq, h14, h15⟩
theorem EnvG.narrow {g : GG} {A B : Nat → Prop} {U : State} {H : Heap} (h : EnvG g A U H) (hq : ∀ q, B q → A q) : EnvG g B U H := by
  obtain ⟨h0, h1, h2, h3, h4, h5, h6, h7, h8, h9, h10, h11, h12, h13, h14, h15⟩ := h
  exact ⟨h0, h1.narrow hq, h2.narrow hq, h3.narrow hq, h4.narrow hq, h5, h6.narrow hq, h7.narrow hq, h8.narrow hq, h9.narrow hq, h10.narrow hq, h11.narrow hq, h12.narrow hq, h13.narrow hq, h14, h15⟩
theorem EnvG.moved {g : GG} {A : Nat → Prop} {s U : State} {H : Heap} (h : EnvG g A s H) (hW : s.WarmedH U.vm) : EnvG g A U H := by
  obtain ⟨h0, h1, h2, h3, h4, h5, h6, h7, h8, h9, h10, h11, h12, h13, h14, h15⟩ := h
  have hv := hW.alike
  exact ⟨fun w hw => nw_warm (nws_ok w hw) hW (h0 w hw), h1.moved hv, h2.moved hv, h3.moved hv, h4.moved hv, h5.warm hW, h6.moved hv, h7.moved hv, h8.moved hv, h9.moved hv, h10.moved hv, h11.moved hv, h12.moved hv, h13.moved hv, h14.moved hv, h15.moved hv⟩
theorem EnvG.same {g : GG} {A : Nat → Prop} {s U : State} {H : Heap} (h : EnvG g A s H) (hW : U.vm = s.vm) : EnvG g A U H := by
  obtain ⟨h0, h1, h2, h3, h4, h5, h6, h7, h8, h9, h10, h11, h12, h13, h14, h15⟩ := h
  have hv : s.vm.Alike U.vm := by rw [hW]; exact Vm.Alike.refl s.vm
  exact ⟨fun w hw => va_Nw.same (nw_tab (nws_ok w hw)) hW.symm (h0 w hw), h1.moved hv, h2.moved hv, h3.moved hv, h4.moved hv, h5.same hW, h6.moved hv, h7.moved hv, h8.moved hv, h9.moved hv, h10.moved hv, h11.moved hv, h12.moved hv, h13.moved hv, h14.moved hv, h15.moved hv⟩
/-- a method's start over the cells WS -/
def CP (g : GG) (WS : va_W) (sz : Nat) : State → Prop := fun U => U.heap.size = sz ∧ va_P (gD g) vwCl WS U.heap ∧ va_K (gD g) vwCl (gT g) U ∧ va_D (fun _ => True) WS ∧ EnvG g (va_A WS sz) U U.heap
/-- .. and its end -/
def CQ {S : Type} (g : GG) (WS' : S → va_W) (A : Nat → Prop) : S → State → Prop := fun u t => va_P (gD g) vwCl (WS' u) t.heap ∧ va_K (gD g) vwCl (gT g) t ∧ va_D A (WS' u)
abbrev rmm (fr lo : Nat) : Room := { frames := fr, cells := 0, slots := 0, locals := lo }
/-- a contract: a method that makes no cells -/
def Ct (g : GG) (l : Launch) (y : MethodName) (cy : ByteArray) (n : Nat) (r : Option FieldType) (fr lo : Nat) (args : List Value) (WS : va_W) (Q : (Nat → Prop) → Array Value → State → Outcome → State → Prop) : Prop :=
  ∀ sz : Nat, Met l y (Cond.code y cy n r :: BIG) (rmm fr lo) (va_Pc args (CP g WS sz)) (Q (va_A WS sz)) 0 0 (va_A WS sz)
abbrev Ri {S : Type} (g : GG) (post : Int32 → S → Prop) (WS' : S → va_W) : (Nat → Prop) → Array Value → State → Outcome → State → Prop := fun A => va_Qi post (CQ g WS' A) A
abbrev Rl {S : Type} (g : GG) (post : Int64 → S → Prop) (WS' : S → va_W) : (Nat → Prop) → Array Value → State → Outcome → State → Prop := fun A => va_Ql post (CQ g WS' A) A
abbrev Rv {S : Type} (g : GG) (post : S → Prop) (WS' : S → va_W) : (Nat → Prop) → Array Value → State → Outcome → State → Prop := fun A => va_Qv post (CQ g WS' A) A
abbrev Rq {S : Type} (g : GG) (post : Option Nat → S → Prop) (WS' : S → va_W) : (Nat → Prop) → Array Value → State → Outcome → State → Prop := fun A => va_Qq post (CQ g WS' A) A
/-- all that a walk knows of the heap -/
def Wd (g : GG) (s : State) (A : Nat → Prop) (H : Heap) (locs : List Loc) (ws : va_W) : Prop :=
  va_K (gD g) vwCl (gT g) s ∧ va_P (gD g) vwCl ws H ∧ va_D A ws ∧ va_S A s.heap H locs ∧ EnvG g A s s.heap ∧ ∀ q, s.heap.size ≤ q → A q
/-- cells of a world replaced, by their places -/
def sA : va_W → List Nat → va_W → va_W
  | ws, p :: ps, c :: cs => sA (ws.set p c) ps cs
  | ws, _, _ => ws
theorem sA_get : ∀ (ps : List Nat) (cs ws : va_W) (k : Nat) (q : Nat × va_E), cs.length = ps.length → (sA ws ps cs)[k]? = some q → (∃ j : Nat, ps[j]? = some k ∧ cs[j]? = some q) ∨ (k ∉ ps ∧ ws[k]? = some q) := by
  intro ps
  induction ps with
  | nil =>
    intro cs ws k q hl h
    refine Or.inr ⟨List.not_mem_nil, ?_⟩
    cases cs with
    | nil => exact h
    | cons c cs => exact h
  | cons p ps ih =>
    intro cs ws k q hl h
    cases cs with
    | nil => cases hl
    | cons c cs =>
      rcases ih cs (ws.set p c) k q (Nat.succ.inj hl) h with ⟨j, h1, h2⟩ | ⟨h1, h2⟩
      · exact Or.inl ⟨j + 1, h1, h2⟩
      · by_cases e : p = k
        · subst e
          rw [List.getElem?_set_self' ] at h2
          cases hw : ws[p]? with
          | none => rw [hw] at h2; cases h2
          | some z => rw [hw] at h2; exact Or.inl ⟨0, rfl, h2⟩
        · rw [List.getElem?_set_ne e] at h2
          exact Or.inr ⟨fun hm => (List.mem_cons.mp hm).elim (fun z => e z.symm) h1, h2⟩
theorem va_joinS {A0 : Nat → Prop} {D : va_G} {cl : List vw_C} {ws wc w1 : va_W} {H H1 : Heap} (hP : va_P D cl ws H) (hD : va_D A0 ws) (ps : List Nat) (hC : ps.map (fun i => ws[i]?) = wc.map some)
    (hk : ∀ q : Nat, q < H.size → ¬ va_A wc H.size q → H1[q]? = H[q]?) (hP1 : va_P D cl w1 H1) (ha : w1.map Prod.fst = wc.map Prod.fst) : va_P D cl (sA ws ps w1) H1 ∧ va_D A0 (sA ws ps w1) := by
  have hlen : wc.length = ps.length := by have := congrArg List.length hC; simpa using this.symm
  have hlen1 : w1.length = ps.length := by have := congrArg List.length ha; simp at this; omega
  have hat : ∀ (j i : Nat), ps[j]? = some i → ∃ z, wc[j]? = some z ∧ ws[i]? = some z := by
    intro j i hj
    have h1 : (ps.map (fun i => ws[i]?))[j]? = some (ws[i]?) := by simp [hj]
    rw [hC] at h1
    simp only [List.getElem?_map] at h1
    cases hw : wc[j]? with
    | none => rw [hw] at h1; cases h1
    | some z => rw [hw] at h1; exact ⟨z, rfl, (Option.some.inj h1).symm⟩
  have hadr : ∀ (j : Nat) (q : Nat × va_E), w1[j]? = some q → ∃ e, wc[j]? = some (q.1, e) := by
    intro j q hj
    have h1 : (w1.map Prod.fst)[j]? = some q.1 := by simp [hj]
    rw [ha] at h1
    simp only [List.getElem?_map] at h1
    cases hw : wc[j]? with
    | none => rw [hw] at h1; cases h1
    | some z => rw [hw] at h1; exact ⟨z.2, by have := Option.some.inj h1; rw [← this]⟩
  have hold : ∀ (k : Nat) (q : Nat × va_E), (sA ws ps w1)[k]? = some q → ∃ e, ws[k]? = some (q.1, e) := by
    intro k q hk
    rcases sA_get ps w1 ws k q hlen1 hk with ⟨j, h1, h2⟩ | ⟨-, h2⟩
    · obtain ⟨e, he⟩ := hadr j q h2
      obtain ⟨z, hz1, hz2⟩ := hat j k h1
      rw [he] at hz1
      exact ⟨e, by rw [hz2, ← hz1]⟩
    · exact ⟨q.2, h2⟩
  refine ⟨?_, ?_, ?_⟩
  · intro k q hq
    rcases sA_get ps w1 ws k q hlen1 hq with ⟨j, h1, h2⟩ | ⟨h1, h2⟩
    · exact hP1 j q h2
    · have hv := hP k q h2
      refine va_at.kept hv (hk _ (va_at.lt hv) ?_)
      rintro (⟨j, e, hj⟩ | hge)
      · have hjl : j < ps.length := by rw [← hlen]; exact (List.getElem?_eq_some_iff.mp hj).1
        obtain ⟨z, hz1, hz2⟩ := hat j ps[j] (List.getElem?_eq_getElem hjl)
        rw [hj] at hz1
        have e1 := hD.1 k ps[j] q z h2 hz2 (by rw [← Option.some.inj hz1])
        exact h1 (by rw [e1]; exact List.getElem_mem hjl)
      · exact absurd (va_at.lt hv) (Nat.not_lt.mpr hge)
  · intro i j p q hi hj e
    obtain ⟨e1, h1⟩ := hold i p hi
    obtain ⟨e2, h2⟩ := hold j q hj
    exact hD.1 i j _ _ h1 h2 e
  · intro k q hq
    obtain ⟨e1, h1⟩ := hold k q hq
    exact hD.2 k (q.1, e1) h1
theorem goodOf {ws : List Cond} (h : ∀ w ∈ ws, w ∈ BIG) : GoodIn BIG ws := fun w hw => goodBIG w (h w hw)
theorem goodC {y : MethodName} {cy : ByteArray} {n : Nat} {r : Option FieldType} (h5 : Cond.code y cy n r ∈ BIG) : GoodIn BIG (Cond.code y cy n r :: BIG) := goodOf (fun w hw => (List.mem_cons.mp hw).elim (fun e => e ▸ h5) id)
theorem goodV {own C : String} {idx : Nat} {y : MethodName} {cy : ByteArray} {n : Nat} {r : Option FieldType} (h1 : Cond.methodLink own idx y ∈ BIG) (h2 : Cond.instanceMethod y ∈ BIG) (h3 : Cond.selects C y y ∈ BIG) (h4 : Cond.initialized C ∈ BIG) (h5 : Cond.code y cy n r ∈ BIG) : GoodIn BIG (wsV own idx C y (Cond.code y cy n r :: BIG)) := by
  refine goodOf (fun w hw => ?_)
  rcases List.mem_append.mp hw with h | h
  · simp only [List.mem_cons, List.not_mem_nil, or_false] at h
    rcases h with rfl | rfl | rfl | rfl <;> assumption
  · exact (goodC h5 w h).1
theorem goodS {own : String} {idx : Nat} {y : MethodName} {cy : ByteArray} {n : Nat} {r : Option FieldType} (h1 : Cond.methodLink own idx y ∈ BIG) (h2 : Cond.static y ∈ BIG) (h4 : Cond.initialized y.cls ∈ BIG) (h5 : Cond.code y cy n r ∈ BIG) : GoodIn BIG (va_wsS own idx y (Cond.code y cy n r :: BIG)) := by
  refine goodOf (fun w hw => ?_)
  rcases List.mem_append.mp hw with h | h
  · simp only [List.mem_cons, List.not_mem_nil, or_false] at h
    rcases h with rfl | rfl | rfl <;> assumption
  · exact (goodC h5 w h).1
