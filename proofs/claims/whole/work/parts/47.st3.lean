section ST
variable {g : GG} {ad ka kb ua sa md : Nat → Nat} {oa n : Nat} {now : Int64} {gr : Int64} {mo : Int64} {re : Int64} {bgn : Int32} {lin : Int32} {rfd : Int32} {rnd : Int32} {mB : Nat → Int32} {mb : Nat → Int32} {ms : Nat → Int32} {mt : Nat → Int32} {kept : Nat} {np : Nat} {cl : Nat} {cf : Nat → Int32} {tn : Nat} {tf : Nat → Int32} {dl : Nat} {df : Nat → Int32} {sdf : Nat → Int32} {cnf : Nat → Int32} {cbf : Nat → Int32} {mkf : Nat → Int32} {num : Nat → Int32} {rep : Nat → Int64} {kf : Nat → Nat → Int32} {uto : Nat → Int32} {ufi : Nat → Int32} {use : Nat → Int32} {sop : Nat → Int32} {sow : Nat → Int32} {sid : Nat → Int64} {sbe : Nat → Int64} {sla : Nat → Int64} {mfa : Int32} {mmz : Nat} {msz : Nat} {msd : Int64} {mbg : Int64} {mka : Int32} {mta : Nat → Int32} {mwd : Nat → Int32} {mms : Nat → Int32} {mhs : Nat → Int32} {mke : Nat → Int32} {msa : Nat → Int32} {mkn : Nat → Int32} {mkb : Nat → Int32} {mku : Nat → Int64} {mit : Nat → Int32} {msi : Nat → Int32} {mtx : Nat → Int32} {mra : Nat → Int32} {fo : Nat → Int64}
set_option maxHeartbeats 4000000 in
theorem st_revoke {x : Int32} {R1 R2 : (Nat → Int32) × Nat} {v : Int32} {u : Option (Unit) × (Nat → Int64)} {v2 : Int32} {u2 : Int32 × (Nat → Int32)} (hR : Rel n kept np num rep kf mkn mku mkb sop mit cl cf tn tf msi mtx sdf bgn msd mbg dl sow) (hn : n < 600) (e1 : R1.2 = R2.2) (e2 : SR R1.1 R2.1) (h1 : wrP (fun r w => ∃ r0, (fun (v : Int32) (u : Unit) => ¬ usI x = 0 ∧ v = nI R1.2) r0 w ∧ r = r0.toInt64) (fun E => E = "java/lang/IllegalArgumentException" ∧ usI x = 0) fo v u) (h2 : (fun (v : Int32) (u : Int32 × (Nat → Int32)) => ((∃ k, k < 8 ∧ x = nI k) ∧ v = nI R2.2 ∧ u = (nI 0, R2.1)) ∨ ((∀ k, k < 8 → ¬ x = nI k) ∧ u = (nI 1, mit))) v2 u2) : Fin g ad ka kb ua sa md oa (n + 1) v (v2.toInt64) ((mX g md u2.1 mmz msz now gr mo re msd mbg kept lin rfd rnd mka mta mwd mms mhs mke msa mkn mkb mku uto ufi use u2.2 sow sid sbe sla msi mtx mra) ++ wrW g oa (gX g ad ka ua sa now gr mo re bgn lin rfd rnd mB mb ms mt kept np cl cf tn tf dl df sdf cnf cbf mkf ++ (tl 4 ka (kE kb num rep) ++ (tl 4 kb (bE g kf) ++ (tl 8 ua (uE uto ufi use) ++ (tl 8 sa (sE sop sow sid sbe sla) ++ []))))) (fun (u : Unit) => (gX g ad ka ua sa now gr mo re bgn lin rfd rnd mB mb ms mt kept np cl cf tn tf dl df sdf cnf cbf mkf ++ (tl 4 ka (kE kb num rep) ++ (tl 4 kb (bE g kf) ++ (tl 8 ua (uE uto ufi use) ++ (tl 8 sa (sE (R1.1) sow sid sbe sla) ++ [])))))) u) := by
  obtain ⟨hK, hS, hT, hB, hd, hO⟩ := hR
  obtain ⟨w, f⟩ := u
  obtain ⟨t, m1⟩ := u2
  cases w with
  | some w =>
    show Fin g ad ka kb ua sa md oa (n + 1) v (v2.toInt64) ((mX g md t mmz msz now gr mo re msd mbg kept lin rfd rnd mka mta mwd mms mhs mke msa mkn mkb mku uto ufi use m1 sow sid sbe sla msi mtx mra) ++ ([(oa, jA g 1 f)] ++ ((gX g ad ka ua sa now gr mo re bgn lin rfd rnd mB mb ms mt kept np cl cf tn tf dl df sdf cnf cbf mkf ++ (tl 4 ka (kE kb num rep) ++ (tl 4 kb (bE g kf) ++ (tl 8 ua (uE uto ufi use) ++ (tl 8 sa (sE (R1.1) sow sid sbe sla) ++ []))))))))
    obtain ⟨rfl, r, ⟨r0, ⟨hu, rfl⟩, rfl⟩, hf⟩ := h1
    obtain rfl : f = _ := hf
    rcases h2 with ⟨-, rfl, h⟩ | ⟨h, -⟩
    · obtain ⟨rfl, rfl⟩ := Prod.mk.inj h
      exact fin_mk rfl (fun _ => by rw [updL_s, e1]) ⟨hK, e2, hT, BR_s hB, hd, hO⟩
    · exact absurd (us_iff.mpr h) hu
  | none =>
    show Fin g ad ka kb ua sa md oa (n + 1) v (v2.toInt64) ((mX g md t mmz msz now gr mo re msd mbg kept lin rfd rnd mka mta mwd mms mhs mke msa mkn mkb mku uto ufi use m1 sow sid sbe sla msi mtx mra) ++ ([(oa, jA g 1 f)] ++ (gX g ad ka ua sa now gr mo re bgn lin rfd rnd mB mb ms mt kept np cl cf tn tf dl df sdf cnf cbf mkf ++ (tl 4 ka (kE kb num rep) ++ (tl 4 kb (bE g kf) ++ (tl 8 ua (uE uto ufi use) ++ (tl 8 sa (sE sop sow sid sbe sla) ++ [])))))))
    obtain ⟨hf, hx⟩ := h1
    obtain rfl : f = fo := hf
    rcases hx with ⟨rfl, -, hx⟩ | ⟨-, ⟨q, -⟩ | ⟨q, -⟩⟩
    · rcases h2 with ⟨⟨k', hk', ek⟩, -⟩ | ⟨-, h⟩
      · exact absurd ek (us_iff.mp hx k' hk')
      · obtain ⟨rfl, rfl⟩ := Prod.mk.inj h
        exact fin_mk rfl (fun q => absurd q (by decide)) ⟨hK, hS, hT, BR_s hB, hd, hO⟩
    · exact absurd q ISE_IAE
    · exact absurd q IOO_IAE
set_option maxHeartbeats 4000000 in
theorem st_type {x pa pb pc pd : Int32} {v : Int32} {u : Option ((Nat → Int32) × Nat × (Nat → Int32) × Nat) × (Nat → Int64)} {v2 : Int32} {u2 : Int32 × (Nat → Int32) × (Nat → Int32)} (hR : Rel n kept np num rep kf mkn mku mkb sop mit cl cf tn tf msi mtx sdf bgn msd mbg dl sow) (hn : n < 600)  (h1 : wrP (fun r w => ∃ r0, (fun (v : Int32) (u : (Nat → Int32) × Nat × (Nat → Int32) × Nat) => (x = nI 0 ∧ cl + mor pa pb pc pd ≤ 40 ∧ (u.1, u.2.1) = tyS pa pb pc pd (cf, cl) ∧ u.2.2.1 = tf ∧ u.2.2.2 = tn ∧ v = nI u.2.1) ∨ (x = nI 1 ∧ tn + mor pa pb pc pd ≤ 40 ∧ (u.2.2.1, u.2.2.2) = tyS pa pb pc pd (tf, tn) ∧ u.1 = cf ∧ u.2.1 = cl ∧ v = nI u.2.2.2)) r0 w ∧ r = r0.toInt64) (fun E => (E = "java/lang/IllegalArgumentException" ∧ txI x = 0) ∨ (E = "java/lang/IllegalStateException" ∧ ((x = nI 0 ∧ 40 < cl + mor pa pb pc pd) ∨ (x = nI 1 ∧ 40 < tn + mor pa pb pc pd)))) fo v u) (h2 : (fun (v : Int32) (u : Int32 × (Nat → Int32) × (Nat → Int32)) => (x = nI 0 ∧ cl + mor pa pb pc pd ≤ 40 ∧ ∃ t : (Nat → Int32) × Nat, t = tyM (40 * 0) pa pb pc pd (mtx, cl) ∧ u = (nI 0, t.1, upd msi 0 (nI t.2)) ∧ v = nI t.2) ∨ (x = nI 1 ∧ tn + mor pa pb pc pd ≤ 40 ∧ ∃ t : (Nat → Int32) × Nat, t = tyM (40 * 1) pa pb pc pd (mtx, tn) ∧ u = (nI 0, t.1, upd msi 1 (nI t.2)) ∧ v = nI t.2) ∨ (((x = nI 0 ∧ 40 < cl + mor pa pb pc pd) ∨ (x = nI 1 ∧ 40 < tn + mor pa pb pc pd)) ∧ u = (nI 2, mtx, msi)) ∨ ((¬ x = nI 0 ∧ ¬ x = nI 1) ∧ u = (nI 1, mtx, msi))) v2 u2) : Fin g ad ka kb ua sa md oa (n + 1) v (v2.toInt64) ((mX g md u2.1 mmz msz now gr mo re msd mbg kept lin rfd rnd mka mta mwd mms mhs mke msa mkn mkb mku uto ufi use mit sow sid sbe sla u2.2.2 u2.2.1 mra) ++ wrW g oa (gX g ad ka ua sa now gr mo re bgn lin rfd rnd mB mb ms mt kept np cl cf tn tf dl df sdf cnf cbf mkf ++ (tl 4 ka (kE kb num rep) ++ (tl 4 kb (bE g kf) ++ (tl 8 ua (uE uto ufi use) ++ (tl 8 sa (sE sop sow sid sbe sla) ++ []))))) (fun (u : (Nat → Int32) × Nat × (Nat → Int32) × Nat) => (gX g ad ka ua sa now gr mo re bgn lin rfd rnd mB mb ms mt kept np u.2.1 u.1 u.2.2.2 u.2.2.1 dl df sdf cnf cbf mkf ++ (tl 4 ka (kE kb num rep) ++ (tl 4 kb (bE g kf) ++ (tl 8 ua (uE uto ufi use) ++ (tl 8 sa (sE sop sow sid sbe sla) ++ [])))))) u) := by
  obtain ⟨hK, hS, hT, hB, hd, hO⟩ := hR
  obtain ⟨w, f⟩ := u
  obtain ⟨t, m1, m2⟩ := u2
  obtain ⟨hcl, htn, hB1, hB2, hs0, hs1, hC, hTk⟩ := hT
  have n01 : ¬ (nI 0 = nI 1) := by decide
  have n10 : ¬ (nI 1 = nI 0) := by decide
  cases w with
  | some w =>
    obtain ⟨w1, w2, w3, w4⟩ := w
    show Fin g ad ka kb ua sa md oa (n + 1) v (v2.toInt64) ((mX g md t mmz msz now gr mo re msd mbg kept lin rfd rnd mka mta mwd mms mhs mke msa mkn mkb mku uto ufi use mit sow sid sbe sla m2 m1 mra) ++ ([(oa, jA g 1 f)] ++ ((gX g ad ka ua sa now gr mo re bgn lin rfd rnd mB mb ms mt kept np w2 w1 w4 w3 dl df sdf cnf cbf mkf ++ (tl 4 ka (kE kb num rep) ++ (tl 4 kb (bE g kf) ++ (tl 8 ua (uE uto ufi use) ++ (tl 8 sa (sE sop sow sid sbe sla) ++ []))))))))
    obtain ⟨rfl, r, ⟨r0, hp, rfl⟩, hf⟩ := h1
    obtain rfl : f = _ := hf
    dsimp only at hp
    rcases hp with ⟨rfl, hle, ht, rfl, rfl, rfl⟩ | ⟨rfl, hle, ht, rfl, rfl, rfl⟩
    · obtain ⟨a1, a2, a3, a4, a5, a6⟩ := ty_eq pa pb pc pd (40 * 0) (f := cf) (f' := mtx) (ln := cl) (fun j hj => by rw [z40]; exact hC j hj)
      rcases h2 with ⟨-, -, tt, rfl, h, rfl⟩ | ⟨q, -⟩ | ⟨⟨-, q⟩ | ⟨q, -⟩, -⟩ | ⟨⟨q, -⟩, -⟩
      · obtain ⟨rfl, h5⟩ := Prod.mk.inj h
        obtain ⟨rfl, rfl⟩ := Prod.mk.inj h5
        obtain rfl : w1 = (tyS pa pb pc pd (cf, cl)).1 := congrArg Prod.fst ht
        obtain rfl : w2 = (tyS pa pb pc pd (cf, cl)).2 := congrArg Prod.snd ht
        refine fin_mk rfl (fun _ => by rw [updL_s, a1]) ⟨hK, hS, ⟨by omega, htn, a5 hB1, hB2, ?_, hs1, fun j hj => ?_, fun j hj => ?_⟩, BR_s hB, hd, hO⟩
        · rw [upd_s, a1]
        · rw [← a2 j hj, z40]
        · rw [a4 (40 + j) (by omega)]; exact hTk j hj
      · exact absurd q n01
      · omega
      · exact absurd q n01
      · exact absurd rfl q
    · obtain ⟨a1, a2, a3, a4, a5, a6⟩ := ty_eq pa pb pc pd (40 * 1) (f := tf) (f' := mtx) (ln := tn) (fun j hj => hTk j hj)
      rcases h2 with ⟨q, -⟩ | ⟨-, -, tt, rfl, h, rfl⟩ | ⟨⟨q, -⟩ | ⟨-, q⟩, -⟩ | ⟨⟨-, q⟩, -⟩
      · exact absurd q n10
      · obtain ⟨rfl, h5⟩ := Prod.mk.inj h
        obtain ⟨rfl, rfl⟩ := Prod.mk.inj h5
        obtain rfl : w3 = (tyS pa pb pc pd (tf, tn)).1 := congrArg Prod.fst ht
        obtain rfl : w4 = (tyS pa pb pc pd (tf, tn)).2 := congrArg Prod.snd ht
        refine fin_mk rfl (fun _ => by rw [updL_s, a1]) ⟨hK, hS, ⟨hcl, by omega, hB1, a5 hB2, hs0, ?_, fun j hj => ?_, fun j hj => ?_⟩, BR_s hB, hd, hO⟩
        · rw [upd_s, a1]
        · rw [a3 j (by omega)]; exact hC j hj
        · exact a2 j hj
      · exact absurd q n10
      · omega
      · exact absurd rfl q
  | none =>
    show Fin g ad ka kb ua sa md oa (n + 1) v (v2.toInt64) ((mX g md t mmz msz now gr mo re msd mbg kept lin rfd rnd mka mta mwd mms mhs mke msa mkn mkb mku uto ufi use mit sow sid sbe sla m2 m1 mra) ++ ([(oa, jA g 1 f)] ++ (gX g ad ka ua sa now gr mo re bgn lin rfd rnd mB mb ms mt kept np cl cf tn tf dl df sdf cnf cbf mkf ++ (tl 4 ka (kE kb num rep) ++ (tl 4 kb (bE g kf) ++ (tl 8 ua (uE uto ufi use) ++ (tl 8 sa (sE sop sow sid sbe sla) ++ [])))))))
    obtain ⟨hf, hx⟩ := h1
    obtain rfl : f = fo := hf
    rcases hx with ⟨rfl, ⟨-, hx⟩ | ⟨q, -⟩⟩ | ⟨rfl, hx⟩
    · obtain ⟨x0, x1⟩ := tx_iff.mp hx
      rcases h2 with ⟨q, -⟩ | ⟨q, -⟩ | ⟨⟨q, -⟩ | ⟨q, -⟩, -⟩ | ⟨-, h⟩
      · exact absurd q x0
      · exact absurd q x1
      · exact absurd q x0
      · exact absurd q x1
      · obtain ⟨rfl, h5⟩ := Prod.mk.inj h
        obtain ⟨rfl, rfl⟩ := Prod.mk.inj h5
        exact fin_mk rfl (fun q => absurd q (by decide)) ⟨hK, hS, ⟨hcl, htn, hB1, hB2, hs0, hs1, hC, hTk⟩, BR_s hB, hd, hO⟩
    · exact absurd q IAE_ISE
    · have hx : (x = nI 0 ∧ 40 < cl + mor pa pb pc pd) ∨ (x = nI 1 ∧ 40 < tn + mor pa pb pc pd) := by
        rcases hx with (⟨q, -⟩ | ⟨-, q⟩) | (⟨q, -⟩ | ⟨q, -⟩)
        · exact absurd q ISE_IAE
        · exact q
        · exact absurd q IOO_IAE
        · exact absurd q IOO_ISE
      rcases h2 with ⟨x0, le, -⟩ | ⟨x0, le, -⟩ | ⟨-, h⟩ | ⟨⟨x0, x1⟩, -⟩
      · rcases hx with ⟨-, q⟩ | ⟨q, -⟩
        · omega
        · exact absurd (x0.symm.trans q) n01
      · rcases hx with ⟨q, -⟩ | ⟨-, q⟩
        · exact absurd (x0.symm.trans q) n10
        · omega
      · obtain ⟨rfl, h5⟩ := Prod.mk.inj h
        obtain ⟨rfl, rfl⟩ := Prod.mk.inj h5
        exact fin_mk rfl (fun q => absurd q (by decide)) ⟨hK, hS, ⟨hcl, htn, hB1, hB2, hs0, hs1, hC, hTk⟩, BR_s hB, hd, hO⟩
      · rcases hx with ⟨q, -⟩ | ⟨q, -⟩
        · exact absurd q x0
        · exact absurd q x1
set_option maxHeartbeats 4000000 in
theorem st_erase {x : Int32} {v : Int32} {u : Option (Nat × Nat) × (Nat → Int64)} {v2 : Int32} {u2 : Int32 × (Nat → Int32)} (hR : Rel n kept np num rep kf mkn mku mkb sop mit cl cf tn tf msi mtx sdf bgn msd mbg dl sow) (hn : n < 600)  (h1 : wrP (fun r w => ∃ r0, (fun (v : Int32) (u : Nat × Nat) => (x = nI 0 ∧ v = nI cl ∧ u = (0, tn)) ∨ (x = nI 1 ∧ v = nI tn ∧ u = (cl, 0))) r0 w ∧ r = r0.toInt64) (fun E => E = "java/lang/IllegalArgumentException" ∧ txI x = 0) fo v u) (h2 : (fun (v : Int32) (u : Int32 × (Nat → Int32)) => (x = nI 0 ∧ v = nI cl ∧ u = (nI 0, upd msi 0 (nI 0))) ∨ (x = nI 1 ∧ v = nI tn ∧ u = (nI 0, upd msi 1 (nI 0))) ∨ ((¬ x = nI 0 ∧ ¬ x = nI 1) ∧ u = (nI 1, msi))) v2 u2) : Fin g ad ka kb ua sa md oa (n + 1) v (v2.toInt64) ((mX g md u2.1 mmz msz now gr mo re msd mbg kept lin rfd rnd mka mta mwd mms mhs mke msa mkn mkb mku uto ufi use mit sow sid sbe sla u2.2 mtx mra) ++ wrW g oa (gX g ad ka ua sa now gr mo re bgn lin rfd rnd mB mb ms mt kept np cl cf tn tf dl df sdf cnf cbf mkf ++ (tl 4 ka (kE kb num rep) ++ (tl 4 kb (bE g kf) ++ (tl 8 ua (uE uto ufi use) ++ (tl 8 sa (sE sop sow sid sbe sla) ++ []))))) (fun (u : Nat × Nat) => (gX g ad ka ua sa now gr mo re bgn lin rfd rnd mB mb ms mt kept np u.1 cf u.2 tf dl df sdf cnf cbf mkf ++ (tl 4 ka (kE kb num rep) ++ (tl 4 kb (bE g kf) ++ (tl 8 ua (uE uto ufi use) ++ (tl 8 sa (sE sop sow sid sbe sla) ++ [])))))) u) := by
  obtain ⟨hK, hS, hT, hB, hd, hO⟩ := hR
  obtain ⟨w, f⟩ := u
  obtain ⟨t, m1⟩ := u2
  obtain ⟨hcl, htn, hB1, hB2, hs0, hs1, hC, hTk⟩ := hT
  have n01 : ¬ (nI 0 = nI 1) := by decide
  have n10 : ¬ (nI 1 = nI 0) := by decide
  cases w with
  | some w =>
    obtain ⟨w1, w2⟩ := w
    show Fin g ad ka kb ua sa md oa (n + 1) v (v2.toInt64) ((mX g md t mmz msz now gr mo re msd mbg kept lin rfd rnd mka mta mwd mms mhs mke msa mkn mkb mku uto ufi use mit sow sid sbe sla m1 mtx mra) ++ ([(oa, jA g 1 f)] ++ ((gX g ad ka ua sa now gr mo re bgn lin rfd rnd mB mb ms mt kept np w1 cf w2 tf dl df sdf cnf cbf mkf ++ (tl 4 ka (kE kb num rep) ++ (tl 4 kb (bE g kf) ++ (tl 8 ua (uE uto ufi use) ++ (tl 8 sa (sE sop sow sid sbe sla) ++ []))))))))
    obtain ⟨rfl, r, ⟨r0, hp, rfl⟩, hf⟩ := h1
    obtain rfl : f = _ := hf
    rcases hp with ⟨rfl, rfl, h⟩ | ⟨rfl, rfl, h⟩
    · obtain ⟨rfl, rfl⟩ := Prod.mk.inj h
      rcases h2 with ⟨-, rfl, h⟩ | ⟨q, -⟩ | ⟨⟨q, -⟩, -⟩
      · obtain ⟨rfl, rfl⟩ := Prod.mk.inj h
        exact fin_mk rfl (fun _ => updL_s _ _ _) ⟨hK, hS, ⟨by omega, htn, hB1, hB2, rfl, hs1, fun j hj => absurd hj (by omega), hTk⟩, BR_s hB, hd, hO⟩
      · exact absurd q n01
      · exact absurd rfl q
    · obtain ⟨rfl, rfl⟩ := Prod.mk.inj h
      rcases h2 with ⟨q, -⟩ | ⟨-, rfl, h⟩ | ⟨⟨-, q⟩, -⟩
      · exact absurd q n10
      · obtain ⟨rfl, rfl⟩ := Prod.mk.inj h
        exact fin_mk rfl (fun _ => updL_s _ _ _) ⟨hK, hS, ⟨hcl, by omega, hB1, hB2, hs0, rfl, hC, fun j hj => absurd hj (by omega)⟩, BR_s hB, hd, hO⟩
      · exact absurd rfl q
  | none =>
    show Fin g ad ka kb ua sa md oa (n + 1) v (v2.toInt64) ((mX g md t mmz msz now gr mo re msd mbg kept lin rfd rnd mka mta mwd mms mhs mke msa mkn mkb mku uto ufi use mit sow sid sbe sla m1 mtx mra) ++ ([(oa, jA g 1 f)] ++ (gX g ad ka ua sa now gr mo re bgn lin rfd rnd mB mb ms mt kept np cl cf tn tf dl df sdf cnf cbf mkf ++ (tl 4 ka (kE kb num rep) ++ (tl 4 kb (bE g kf) ++ (tl 8 ua (uE uto ufi use) ++ (tl 8 sa (sE sop sow sid sbe sla) ++ [])))))))
    obtain ⟨hf, hx⟩ := h1
    obtain rfl : f = fo := hf
    rcases hx with ⟨rfl, -, hx⟩ | ⟨-, ⟨q, -⟩ | ⟨q, -⟩⟩
    · obtain ⟨x0, x1⟩ := tx_iff.mp hx
      rcases h2 with ⟨q, -⟩ | ⟨q, -⟩ | ⟨-, h⟩
      · exact absurd q x0
      · exact absurd q x1
      · obtain ⟨rfl, rfl⟩ := Prod.mk.inj h
        exact fin_mk rfl (fun q => absurd q (by decide)) ⟨hK, hS, ⟨hcl, htn, hB1, hB2, hs0, hs1, hC, hTk⟩, BR_s hB, hd, hO⟩
    · exact absurd q ISE_IAE
    · exact absurd q IOO_IAE
end ST
