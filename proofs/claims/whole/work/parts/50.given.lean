/-! WHAT IS GIVEN at the law's entry: classes, arrays' classes, statics, the alphabet -/
theorem nws_in : ∀ w ∈ nws, w ∈ tables_1 := by decide +kernel
abbrev tmS : Term := .static "SessionGate$Mac" "START" "[I"
abbrev tmR : Term := .static "SessionGate$Mac" "ROUNDS" "[I"
abbrev tmA : Term := .string "SessionGate$Coder" 17
abbrev tmV : Term := .field tmA "java/lang/String" "value" "[B"
abbrev gvn : Cond := Jvm.Cond.and given_1 narrow_1
theorem gv_S : ∀ j, j < 8 → Cond.eq (.elem tmS (.int (Int32.ofNat j))) (.int (kS j)) ∈ flatC gvn := by decide +kernel
theorem gv_R : ∀ j, j < 64 → Cond.eq (.elem tmR (.int (Int32.ofNat j))) (.int (kR j)) ∈ flatC gvn := by decide +kernel
theorem gv_A : ∀ j, j < 64 → Cond.eq (.elem tmV (.int (Int32.ofNat j))) (.int (kA j)) ∈ flatC gvn := by decide +kernel
set_option maxHeartbeats 4000000 in
theorem given {s : State} {b : Nat} (hT : ∀ w ∈ tables_1, w.before #[Value.ref b] s = true) (hB : ∀ w ∈ BIG, w.before #[Value.ref b] s = true) (hgv : gvn.before #[Value.ref b] s = true) : ∃ g : GG, va_K (gD g) vwCl (gT g) s ∧ EnvG g (fun q : Nat => s.heap.size ≤ q) s s.heap ∧ AO3 s := by
  have hs := flat_of_before _ hgv
  have hA : ∀ a : Nat, a < s.heap.size → ¬ (fun q : Nat => s.heap.size ≤ q) a := fun a h h2 => Nat.not_le.mpr h h2
  obtain ⟨c0, i0, k0⟩ := u_known (C := RX1) (T := TX1) (N := 3) (n := 3) hB inlX1 (hT (.instantiable RX1 3) (by decide +kernel))
  obtain ⟨c1, i1, k1⟩ := u_known (C := RX2) (T := TX2) (N := 3) (n := 3) hB inlX2 (hT (.instantiable RX2 3) (by decide +kernel))
  obtain ⟨c2, i2, k2⟩ := u_known (C := RX3) (T := TX3) (N := 4) (n := 4) hB inlX3 (hT (.instantiable RX3 4) (by decide +kernel))
  obtain ⟨c3, i3, k3⟩ := u_known (C := RX4) (T := TX4) (N := 5) (n := 5) hB inlX4 (hT (.instantiable RX4 5) (by decide +kernel))
  obtain ⟨c4, i4, k4⟩ := u_known (C := RX5) (T := TX5) (N := 2) (n := 2) hB inlX5 (hT (.instantiable RX5 2) (by decide +kernel))
  obtain ⟨c5, i5, k5⟩ := u_known (C := RX6) (T := TX6) (N := 3) (n := 3) hB inlX6 (hT (.instantiable RX6 3) (by decide +kernel))
  obtain ⟨c6, i6, k6⟩ := u_known (C := RX7) (T := TX7) (N := 19) (n := 19) hB inlX7 (hT (.instantiable RX7 19) (by decide +kernel))
  obtain ⟨c7, i7, k7⟩ := u_known (C := RX8) (T := TX8) (N := 36) (n := 36) hB inlX8 (hT (.instantiable RX8 36) (by decide +kernel))
  obtain ⟨a0, b0, d0, f0, g0, h0⟩ := Cond.arrayClass_spec (type := .int) (hT (.arrayClass .int) (by decide +kernel))
  obtain ⟨a1, b1, d1, f1, g1, h1⟩ := Cond.arrayClass_spec (type := .long) (hT (.arrayClass .long) (by decide +kernel))
  obtain ⟨a2, b2, d2, f2, g2, h2⟩ := Cond.arrayClass_spec (type := .boolean) (hT (.arrayClass .boolean) (by decide +kernel))
  have w3 := hT (.arrayOver (.object "SessionGate$Key")) (by decide +kernel)
  obtain ⟨d3, a3, b3, e3, -, g3, h3, f3⟩ := Cond.arrayOver_spec w3
  have w4 := hT (.arrayOver (.object "SessionGate$Session")) (by decide +kernel)
  obtain ⟨d4, a4, b4, e4, -, g4, h4, f4⟩ := Cond.arrayOver_spec w4
  have w5 := hT (.arrayOver (.object "SessionGate$User")) (by decide +kernel)
  obtain ⟨d5, a5, b5, e5, -, g5, h5, f5⟩ := Cond.arrayOver_spec w5
  obtain ⟨t0, ht0, hT0⟩ := va_Tof (tm := tmS) (ty := .int) (N := 8) (f := fun j => .int (kS j)) (A := fun q : Nat => s.heap.size ≤ q) (by decide) (hs (.arrayOf tmS .int) (by decide +kernel)) (va_eqt (hs (.eq (.length tmS) (.int (Int32.ofNat 8))) (by decide +kernel))) (fun j hj => va_eqt (hs _ (gv_S j hj))) hA
  obtain ⟨t1, ht1, hT1⟩ := va_Tof (tm := tmR) (ty := .int) (N := 64) (f := fun j => .int (kR j)) (A := fun q : Nat => s.heap.size ≤ q) (by decide) (hs (.arrayOf tmR .int) (by decide +kernel)) (va_eqt (hs (.eq (.length tmR) (.int (Int32.ofNat 64))) (by decide +kernel))) (fun j hj => va_eqt (hs _ (gv_R j hj))) hA
  have hex := hs (.exactly tmA "java/lang/String") (by decide +kernel)
  obtain ⟨t2, x1, x2, x3, ht2, -⟩ := Cond.exactly_spec hex
  obtain ⟨t3, ht3, hT3⟩ := va_Tof (tm := tmV) (ty := .byte) (N := 64) (f := fun j => .int (kA j)) (A := fun q : Nat => s.heap.size ≤ q) (by decide) (hs (.arrayOf tmV .byte) (by decide +kernel)) (va_eqt (hs (.eq (.length tmV) (.int (Int32.ofNat 64))) (by decide +kernel))) (fun j hj => va_eqt (hs _ (gv_A j hj))) hA
  refine ⟨(fun k => if k = 0 then c0 else if k = 1 then c1 else if k = 2 then c2 else if k = 3 then c3 else if k = 4 then c4 else if k = 5 then c5 else if k = 6 then c6 else c7, fun k => if k = 0 then i0 else if k = 1 then i1 else if k = 2 then i2 else if k = 3 then i3 else if k = 4 then i4 else if k = 5 then i5 else if k = 6 then i6 else i7, fun k => if k = 0 then a0 else if k = 1 then a1 else if k = 2 then a2 else if k = 3 then a3 else if k = 4 then a4 else a5, fun k => if k = 0 then t0 else if k = 1 then t1 else if k = 2 then t2 else t3), ⟨?_, ?_⟩, ?_, ?_⟩
  · intro k q hq
    match k, hq with
    | 0, hq => cases hq; exact k0
    | 1, hq => cases hq; exact k1
    | 2, hq => cases hq; exact k2
    | 3, hq => cases hq; exact k3
    | 4, hq => cases hq; exact k4
    | 5, hq => cases hq; exact k5
    | 6, hq => cases hq; exact k6
    | 7, hq => cases hq; exact k7
    | k + 8, hq => simp at hq
  · intro k q hq
    match k, hq with
    | 0, hq => cases hq; exact ⟨fun n z => ⟨fun k h => (by cases h), b0, g0, d0, h0⟩, f0⟩
    | 1, hq => cases hq; exact ⟨fun n z => ⟨fun k h => (by cases h), b1, g1, d1, h1⟩, f1⟩
    | 2, hq => cases hq; exact ⟨fun n z => ⟨fun k h => (by cases h), b2, g2, d2, h2⟩, f2⟩
    | 3, hq => cases hq; exact ⟨fun n z => ⟨fun k h => (by cases h), b3, g3, d3, h3⟩, ⟨b3, d3, g3, h3, e3, f3⟩⟩
    | 4, hq => cases hq; exact ⟨fun n z => ⟨fun k h => (by cases h), b4, g4, d4, h4⟩, ⟨b4, d4, g4, h4, e4, f4⟩⟩
    | 5, hq => cases hq; exact ⟨fun n z => ⟨fun k h => (by cases h), b5, g5, d5, h5⟩, ⟨b5, d5, g5, h5, e5, f5⟩⟩
    | k + 6, hq => simp at hq
  · refine ⟨fun w hw => va_Nw.of (nw_tab (nws_ok w hw)) (hT w (nws_in w hw)), va_Zof (hT (.laysStatic "SessionGate$Mac" "START" "[I") (by decide +kernel)) (hT (.initialized "SessionGate$Mac") (by decide +kernel)) ht0 hA, hT0, va_Zof (hT (.laysStatic "SessionGate$Mac" "ROUNDS" "[I") (by decide +kernel)) (hT (.initialized "SessionGate$Mac") (by decide +kernel)) ht1 hA, hT1, vk_R.of (hT (.stringRef "SessionGate$Coder" 17 "ABCDEFGHIJKLMNOPQRSTUVWXYZabcdefghijklmnopqrstuvwxyz0123456789-_") (by decide +kernel)) ht2, va_Oof hex ht2 hA, vk_OFof ht2 ht3 hA, vk_OFof ht2 (va_eqt (hs (.eq (.field tmA "java/lang/String" "coder" "B") (.int 0)) (by decide +kernel))) hA, hT3, va_Zof (hT (.laysStatic "java/lang/String" "COMPACT_STRINGS" "Z") (by decide +kernel)) (hT (.initialized "java/lang/String") (by decide +kernel)) (va_eqt (hs (.eq (.static "java/lang/String" "COMPACT_STRINGS" "Z") (.int 1)) (by decide +kernel))) hA, va_Zqof (hT (.laysStatic "jdk/internal/util/Preconditions" "SIOOBE_FORMATTER" fmtD) (by decide +kernel)) (hT (.initialized "jdk/internal/util/Preconditions") (by decide +kernel)) (hs (.isRef (.static "jdk/internal/util/Preconditions" "SIOOBE_FORMATTER" fmtD)) (by decide +kernel)) hA, vx_Zqof (hT (.laysStatic Bundle.tN "UNASSIGNED_STACK" Bundle.steD) (by decide +kernel)) (hT (.initialized Bundle.tN) (by decide +kernel)) (hs (.isRef (.static Bundle.tN "UNASSIGNED_STACK" Bundle.steD)) (by decide +kernel)) hA, vx_Zqof (hT (.laysStatic Bundle.tN "SUPPRESSED_SENTINEL" Bundle.listD) (by decide +kernel)) (hT (.initialized Bundle.tN) (by decide +kernel)) (hs (.isRef (.static Bundle.tN "SUPPRESSED_SENTINEL" Bundle.listD)) (by decide +kernel)) hA, va_Nc.of (hs (.not (.castable "java/lang/IllegalStateException" "java/lang/IllegalArgumentException")) (by decide +kernel)), va_Nc.of (hs (.not (.castable "java/lang/IndexOutOfBoundsException" "java/lang/IllegalArgumentException")) (by decide +kernel))⟩
  · exact ⟨va_AO.of w3, va_AO.of w4, va_AO.of w5⟩
