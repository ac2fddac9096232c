section ST
variable {g : GG} {ad ka kb ua sa md : Nat → Nat} {oa n : Nat} {now : Int64} {gr : Int64} {mo : Int64} {re : Int64} {bgn : Int32} {lin : Int32} {rfd : Int32} {rnd : Int32} {mB : Nat → Int32} {mb : Nat → Int32} {ms : Nat → Int32} {mt : Nat → Int32} {kept : Nat} {np : Nat} {cl : Nat} {cf : Nat → Int32} {tn : Nat} {tf : Nat → Int32} {dl : Nat} {df : Nat → Int32} {sdf : Nat → Int32} {cnf : Nat → Int32} {cbf : Nat → Int32} {mkf : Nat → Int32} {num : Nat → Int32} {rep : Nat → Int64} {kf : Nat → Nat → Int32} {uto : Nat → Int32} {ufi : Nat → Int32} {use : Nat → Int32} {sop : Nat → Int32} {sow : Nat → Int32} {sid : Nat → Int64} {sbe : Nat → Int64} {sla : Nat → Int64} {mfa : Int32} {mmz : Nat} {msz : Nat} {msd : Int64} {mbg : Int64} {mka : Int32} {mta : Nat → Int32} {mwd : Nat → Int32} {mms : Nat → Int32} {mhs : Nat → Int32} {mke : Nat → Int32} {msa : Nat → Int32} {mkn : Nat → Int32} {mkb : Nat → Int32} {mku : Nat → Int64} {mit : Nat → Int32} {msi : Nat → Int32} {mtx : Nat → Int32} {mra : Nat → Int32} {fo : Nat → Int64}
theorem z255 {z : Int32} (h1 : ¬ z < nI 1) (h2 : z ≤ nI 255) : z.toBitVec.toNat < 256 := by
  have a : ¬ z.toInt < (nI 1).toInt := fun q => h1 (Int32.lt_iff_toInt_lt.mpr q)
  have b : z.toInt ≤ (nI 255).toInt := Int32.le_iff_toInt_le.mp h2
  have c : (nI 1).toInt = 1 := by decide
  have d : (nI 255).toInt = 255 := by decide
  rw [c] at a
  rw [d] at b
  have e : z.toInt = z.toBitVec.toInt := rfl
  rw [e, BitVec.toInt_eq_toNat_cond] at a b
  have := z.toBitVec.isLt
  split at a <;> split at b <;> omega
theorem upd_B {f : Nat → Int32} (h : isB f) (j : Nat) {z : Int32} (hz : z.toBitVec.toNat < 256) : isB (upd f j z) := by
  intro i hi
  by_cases e : i = j
  · rw [e, upd_s]; exact hz
  · rw [upd_n _ _ e]; exact h i hi
set_option maxHeartbeats 4000000 in
theorem st_put {x y z : Int32} {v : Int32} {u : Option ((Nat → Int32) × (Nat → Int32)) × (Nat → Int64)} {v2 : Int32} {u2 : Int32 × (Nat → Int32)} (hR : Rel n kept np num rep kf mkn mku mkb sop mit cl cf tn tf msi mtx sdf bgn msd mbg dl sow) (hn : n < 600)  (h1 : wrP (fun r w => ∃ r0, (fun (v : Int32) (u : (Nat → Int32) × (Nat → Int32)) => ¬ z < nI 1 ∧ z ≤ nI 255 ∧ ((x = nI 0 ∧ ∃ j, j < cl ∧ y = nI j ∧ v = cf j ∧ u = (upd cf j z, tf)) ∨ (x = nI 1 ∧ ∃ j, j < tn ∧ y = nI j ∧ v = tf j ∧ u = (cf, upd tf j z)))) r0 w ∧ r = r0.toInt64) (fun E => (E = "java/lang/IllegalArgumentException" ∧ (txI x = 0 ∨ z < nI 1 ∨ ¬ z ≤ nI 255)) ∨ (E = "java/lang/IndexOutOfBoundsException" ∧ ¬ z < nI 1 ∧ z ≤ nI 255 ∧ ((x = nI 0 ∧ hasT y (nI cl) = 0) ∨ (x = nI 1 ∧ hasT y (nI tn) = 0)))) fo v u) (h2 : (fun (v : Int32) (u : Int32 × (Nat → Int32)) => (x = nI 0 ∧ ¬ inI z.toInt64 1 255 = 0 ∧ ∃ j, j < cl ∧ y = nI j ∧ v = mtx j ∧ u = (nI 0, upd mtx j z)) ∨ (x = nI 1 ∧ ¬ inI z.toInt64 1 255 = 0 ∧ ∃ j, j < tn ∧ y = nI j ∧ v = mtx (40 + j) ∧ u = (nI 0, upd mtx (40 + j) z)) ∨ (((x = nI 0 ∧ ¬ inI z.toInt64 1 255 = 0 ∧ ∀ j, j < cl → ¬ y = nI j) ∨ (x = nI 1 ∧ ¬ inI z.toInt64 1 255 = 0 ∧ ∀ j, j < tn → ¬ y = nI j)) ∧ u = (nI 2, mtx)) ∨ (((¬ x = nI 0 ∧ ¬ x = nI 1) ∨ inI z.toInt64 1 255 = 0) ∧ u = (nI 1, mtx))) v2 u2) : Fin g ad ka kb ua sa md oa (n + 1) v (v2.toInt64) ((mX g md u2.1 mmz msz now gr mo re msd mbg kept lin rfd rnd mka mta mwd mms mhs mke msa mkn mkb mku uto ufi use mit sow sid sbe sla msi u2.2 mra) ++ wrW g oa (gX g ad ka ua sa now gr mo re bgn lin rfd rnd mB mb ms mt kept np cl cf tn tf dl df sdf cnf cbf mkf ++ (tl 4 ka (kE kb num rep) ++ (tl 4 kb (bE g kf) ++ (tl 8 ua (uE uto ufi use) ++ (tl 8 sa (sE sop sow sid sbe sla) ++ []))))) (fun (u : (Nat → Int32) × (Nat → Int32)) => (gX g ad ka ua sa now gr mo re bgn lin rfd rnd mB mb ms mt kept np cl u.1 tn u.2 dl df sdf cnf cbf mkf ++ (tl 4 ka (kE kb num rep) ++ (tl 4 kb (bE g kf) ++ (tl 8 ua (uE uto ufi use) ++ (tl 8 sa (sE sop sow sid sbe sla) ++ [])))))) u) := by
  obtain ⟨hK, hS, hT, hB, hd, hO⟩ := hR
  obtain ⟨w, f⟩ := u
  obtain ⟨t, m1⟩ := u2
  obtain ⟨hcl, htn, hB1, hB2, hs0, hs1, hC, hTk⟩ := hT
  have n01 : ¬ (nI 0 = nI 1) := by decide
  have n10 : ¬ (nI 1 = nI 0) := by decide
  cases w with
  | some w =>
    obtain ⟨w1, w2⟩ := w
    show Fin g ad ka kb ua sa md oa (n + 1) v (v2.toInt64) ((mX g md t mmz msz now gr mo re msd mbg kept lin rfd rnd mka mta mwd mms mhs mke msa mkn mkb mku uto ufi use mit sow sid sbe sla msi m1 mra) ++ ([(oa, jA g 1 f)] ++ ((gX g ad ka ua sa now gr mo re bgn lin rfd rnd mB mb ms mt kept np cl w1 tn w2 dl df sdf cnf cbf mkf ++ (tl 4 ka (kE kb num rep) ++ (tl 4 kb (bE g kf) ++ (tl 8 ua (uE uto ufi use) ++ (tl 8 sa (sE sop sow sid sbe sla) ++ []))))))))
    obtain ⟨rfl, r, ⟨r0, ⟨z1, z2, hp⟩, rfl⟩, hf⟩ := h1
    obtain rfl : f = _ := hf
    have hz := inB.mpr ⟨z1, z2⟩
    have hzb := z255 z1 z2
    rcases hp with ⟨rfl, j, hj, rfl, rfl, h⟩ | ⟨rfl, j, hj, rfl, rfl, h⟩
    · obtain ⟨rfl, rfl⟩ := Prod.mk.inj h
      rcases h2 with ⟨-, -, j', hj', ej, rfl, h⟩ | ⟨q, -⟩ | ⟨⟨-, -, q⟩ | ⟨q, -⟩, -⟩ | ⟨⟨q, -⟩ | q, -⟩
      · obtain ⟨rfl, rfl⟩ := Prod.mk.inj h
        obtain rfl : j = j' := nI_i (by omega) (by omega) ej
        refine fin_mk rfl (fun _ => by rw [updL_s, hC j hj]) ⟨hK, hS, ⟨hcl, htn, upd_B hB1 _ hzb, hB2, hs0, hs1, fun i hi => ?_, fun i hi => ?_⟩, BR_s hB, hd, hO⟩
        · by_cases e : i = j
          · rw [e, upd_s, upd_s]
          · rw [upd_n _ _ e, upd_n _ _ e]; exact hC i hi
        · rw [upd_n _ _ (by omega)]; exact hTk i hi
      · exact absurd q n01
      · exact absurd rfl (q j hj)
      · exact absurd q n01
      · exact absurd rfl q
      · exact absurd q hz
    · obtain ⟨rfl, rfl⟩ := Prod.mk.inj h
      rcases h2 with ⟨q, -⟩ | ⟨-, -, j', hj', ej, rfl, h⟩ | ⟨⟨q, -⟩ | ⟨-, -, q⟩, -⟩ | ⟨⟨-, q⟩ | q, -⟩
      · exact absurd q n10
      · obtain ⟨rfl, rfl⟩ := Prod.mk.inj h
        obtain rfl : j = j' := nI_i (by omega) (by omega) ej
        refine fin_mk rfl (fun _ => by rw [updL_s, hTk j hj]) ⟨hK, hS, ⟨hcl, htn, hB1, upd_B hB2 _ hzb, hs0, hs1, fun i hi => ?_, fun i hi => ?_⟩, BR_s hB, hd, hO⟩
        · rw [upd_n _ _ (by omega)]; exact hC i hi
        · by_cases e : i = j
          · rw [e, upd_s, upd_s]
          · rw [upd_n _ _ (by omega), upd_n _ _ e]; exact hTk i hi
      · exact absurd q n10
      · exact absurd rfl (q j hj)
      · exact absurd rfl q
      · exact absurd q hz
  | none =>
    show Fin g ad ka kb ua sa md oa (n + 1) v (v2.toInt64) ((mX g md t mmz msz now gr mo re msd mbg kept lin rfd rnd mka mta mwd mms mhs mke msa mkn mkb mku uto ufi use mit sow sid sbe sla msi m1 mra) ++ ([(oa, jA g 1 f)] ++ (gX g ad ka ua sa now gr mo re bgn lin rfd rnd mB mb ms mt kept np cl cf tn tf dl df sdf cnf cbf mkf ++ (tl 4 ka (kE kb num rep) ++ (tl 4 kb (bE g kf) ++ (tl 8 ua (uE uto ufi use) ++ (tl 8 sa (sE sop sow sid sbe sla) ++ [])))))))
    obtain ⟨hf, hx⟩ := h1
    obtain rfl : f = fo := hf
    rcases hx with ⟨rfl, ⟨-, hx⟩ | ⟨q, -⟩⟩ | ⟨rfl, hx⟩
    · have hno : ∀ q : x = nI 0 ∨ x = nI 1, ¬ ¬ inI z.toInt64 1 255 = 0 := by
        intro q hz
        obtain ⟨z1, z2⟩ := inB.mp hz
        rcases hx with hx | hx | hx
        · obtain ⟨x0, x1⟩ := tx_iff.mp hx
          exact q.elim x0 x1
        · exact z1 hx
        · exact hx z2
      rcases h2 with ⟨x0, hz, -⟩ | ⟨x0, hz, -⟩ | ⟨⟨x0, hz, -⟩ | ⟨x0, hz, -⟩, -⟩ | ⟨-, h⟩
      · exact absurd hz (hno (Or.inl x0))
      · exact absurd hz (hno (Or.inr x0))
      · exact absurd hz (hno (Or.inl x0))
      · exact absurd hz (hno (Or.inr x0))
      · obtain ⟨rfl, rfl⟩ := Prod.mk.inj h
        exact fin_mk rfl (fun q => absurd q (by decide)) ⟨hK, hS, ⟨hcl, htn, hB1, hB2, hs0, hs1, hC, hTk⟩, BR_s hB, hd, hO⟩
    · exact absurd q IAE_IOO
    · have hx : ¬ z < nI 1 ∧ z ≤ nI 255 ∧ ((x = nI 0 ∧ hasT y (nI cl) = 0) ∨ (x = nI 1 ∧ hasT y (nI tn) = 0)) := by
        rcases hx with (⟨q, -⟩ | ⟨q, -⟩) | (⟨q, -⟩ | ⟨-, q⟩)
        · exact absurd q ISE_IAE
        · exact absurd q ISE_IOO
        · exact absurd q IOO_IAE
        · exact q
      obtain ⟨z1, z2, hx⟩ := hx
      have hz := inB.mpr ⟨z1, z2⟩
      rw [has_iff hcl, has_iff htn] at hx
      rcases h2 with ⟨x0, -, j, hj, ej, -⟩ | ⟨x0, -, j, hj, ej, -⟩ | ⟨-, h⟩ | ⟨⟨x0, x1⟩ | q, -⟩
      · rcases hx with ⟨-, q⟩ | ⟨q, -⟩
        · exact absurd ej (q j hj)
        · exact absurd (x0.symm.trans q) n01
      · rcases hx with ⟨q, -⟩ | ⟨-, q⟩
        · exact absurd (x0.symm.trans q) n10
        · exact absurd ej (q j hj)
      · obtain ⟨rfl, rfl⟩ := Prod.mk.inj h
        exact fin_mk rfl (fun q => absurd q (by decide)) ⟨hK, hS, ⟨hcl, htn, hB1, hB2, hs0, hs1, hC, hTk⟩, BR_s hB, hd, hO⟩
      · rcases hx with ⟨q, -⟩ | ⟨q, -⟩
        · exact absurd q x0
        · exact absurd q x1
      · exact absurd q hz
set_option maxHeartbeats 4000000 in
theorem st_sign {x y : Int32} {v : Int32} {u : Option (Unit) × (Nat → Int64)} {v2 : Int32} {u2 : Int32} (hR : Rel n kept np num rep kf mkn mku mkb sop mit cl cf tn tf msi mtx sdf bgn msd mbg dl sow) (hn : n < 600)  (h1 : wrP (fun r w => ∃ r0, (fun (v : Int32) (u : Unit) => (x = nI 0 ∧ ((hasT y (nI cl) = 0 ∧ v = (-1)) ∨ ∃ j, j < cl ∧ y = nI j ∧ v = cf j)) ∨ (x = nI 1 ∧ ((hasT y (nI tn) = 0 ∧ v = (-1)) ∨ ∃ j, j < tn ∧ y = nI j ∧ v = tf j))) r0 w ∧ r = r0.toInt64) (fun E => E = "java/lang/IllegalArgumentException" ∧ txI x = 0) fo v u) (h2 : (fun (v : Int32) (u : Int32) => (x = nI 0 ∧ u = nI 0 ∧ ((∃ j, j < cl ∧ y = nI j ∧ v = mtx j) ∨ ((∀ j, j < cl → ¬ y = nI j) ∧ v = (-1)))) ∨ (x = nI 1 ∧ u = nI 0 ∧ ((∃ j, j < tn ∧ y = nI j ∧ v = mtx (40 + j)) ∨ ((∀ j, j < tn → ¬ y = nI j) ∧ v = (-1)))) ∨ ((¬ x = nI 0 ∧ ¬ x = nI 1) ∧ u = nI 1)) v2 u2) : Fin g ad ka kb ua sa md oa (n + 1) v (v2.toInt64) ((mX g md u2 mmz msz now gr mo re msd mbg kept lin rfd rnd mka mta mwd mms mhs mke msa mkn mkb mku uto ufi use mit sow sid sbe sla msi mtx mra) ++ wrW g oa (gX g ad ka ua sa now gr mo re bgn lin rfd rnd mB mb ms mt kept np cl cf tn tf dl df sdf cnf cbf mkf ++ (tl 4 ka (kE kb num rep) ++ (tl 4 kb (bE g kf) ++ (tl 8 ua (uE uto ufi use) ++ (tl 8 sa (sE sop sow sid sbe sla) ++ []))))) (fun (u : Unit) => (gX g ad ka ua sa now gr mo re bgn lin rfd rnd mB mb ms mt kept np cl cf tn tf dl df sdf cnf cbf mkf ++ (tl 4 ka (kE kb num rep) ++ (tl 4 kb (bE g kf) ++ (tl 8 ua (uE uto ufi use) ++ (tl 8 sa (sE sop sow sid sbe sla) ++ [])))))) u) := by
  obtain ⟨hK, hS, hT, hB, hd, hO⟩ := hR
  obtain ⟨w, f⟩ := u
  obtain ⟨hcl, htn, hB1, hB2, hs0, hs1, hC, hTk⟩ := hT
  have hT : TR cl cf tn tf msi mtx := ⟨hcl, htn, hB1, hB2, hs0, hs1, hC, hTk⟩
  have n01 : ¬ (nI 0 = nI 1) := by decide
  have n10 : ¬ (nI 1 = nI 0) := by decide
  cases w with
  | some w =>
    show Fin g ad ka kb ua sa md oa (n + 1) v (v2.toInt64) ((mX g md u2 mmz msz now gr mo re msd mbg kept lin rfd rnd mka mta mwd mms mhs mke msa mkn mkb mku uto ufi use mit sow sid sbe sla msi mtx mra) ++ ([(oa, jA g 1 f)] ++ ((gX g ad ka ua sa now gr mo re bgn lin rfd rnd mB mb ms mt kept np cl cf tn tf dl df sdf cnf cbf mkf ++ (tl 4 ka (kE kb num rep) ++ (tl 4 kb (bE g kf) ++ (tl 8 ua (uE uto ufi use) ++ (tl 8 sa (sE sop sow sid sbe sla) ++ []))))))))
    obtain ⟨rfl, r, ⟨r0, hp, rfl⟩, hf⟩ := h1
    obtain rfl : f = _ := hf
    rw [has_iff hcl, has_iff htn] at hp
    rcases hp with ⟨rfl, hp⟩ | ⟨rfl, hp⟩
    · rcases h2 with ⟨-, rfl, h2⟩ | ⟨q, -⟩ | ⟨⟨q, -⟩, -⟩
      · refine fin_mk rfl (fun _ => ?_) ⟨hK, hS, hT, BR_s hB, hd, hO⟩
        rw [updL_s]
        rcases hp with ⟨hno, rfl⟩ | ⟨j, hj, rfl, rfl⟩
        · rcases h2 with ⟨j, hj, ej, -⟩ | ⟨-, rfl⟩
          · exact absurd ej (hno j hj)
          · rfl
        · rcases h2 with ⟨j', hj', ej, rfl⟩ | ⟨hno, -⟩
          · obtain rfl : j = j' := nI_i (by omega) (by omega) ej
            rw [hC j hj]
          · exact absurd rfl (hno j hj)
      · exact absurd q n01
      · exact absurd rfl q
    · rcases h2 with ⟨q, -⟩ | ⟨-, rfl, h2⟩ | ⟨⟨-, q⟩, -⟩
      · exact absurd q n10
      · refine fin_mk rfl (fun _ => ?_) ⟨hK, hS, hT, BR_s hB, hd, hO⟩
        rw [updL_s]
        rcases hp with ⟨hno, rfl⟩ | ⟨j, hj, rfl, rfl⟩
        · rcases h2 with ⟨j, hj, ej, -⟩ | ⟨-, rfl⟩
          · exact absurd ej (hno j hj)
          · rfl
        · rcases h2 with ⟨j', hj', ej, rfl⟩ | ⟨hno, -⟩
          · obtain rfl : j = j' := nI_i (by omega) (by omega) ej
            rw [hTk j hj]
          · exact absurd rfl (hno j hj)
      · exact absurd rfl q
  | none =>
    show Fin g ad ka kb ua sa md oa (n + 1) v (v2.toInt64) ((mX g md u2 mmz msz now gr mo re msd mbg kept lin rfd rnd mka mta mwd mms mhs mke msa mkn mkb mku uto ufi use mit sow sid sbe sla msi mtx mra) ++ ([(oa, jA g 1 f)] ++ (gX g ad ka ua sa now gr mo re bgn lin rfd rnd mB mb ms mt kept np cl cf tn tf dl df sdf cnf cbf mkf ++ (tl 4 ka (kE kb num rep) ++ (tl 4 kb (bE g kf) ++ (tl 8 ua (uE uto ufi use) ++ (tl 8 sa (sE sop sow sid sbe sla) ++ [])))))))
    obtain ⟨hf, hx⟩ := h1
    obtain rfl : f = fo := hf
    rcases hx with ⟨rfl, -, hx⟩ | ⟨-, ⟨q, -⟩ | ⟨q, -⟩⟩
    · obtain ⟨x0, x1⟩ := tx_iff.mp hx
      rcases h2 with ⟨q, -⟩ | ⟨q, -⟩ | ⟨-, rfl⟩
      · exact absurd q x0
      · exact absurd q x1
      · exact fin_mk rfl (fun q => absurd q (by decide)) ⟨hK, hS, hT, BR_s hB, hd, hO⟩
    · exact absurd q ISE_IAE
    · exact absurd q IOO_IAE
end ST
