section ST
variable {g : GG} {ad ka kb ua sa md : Nat → Nat} {oa n : Nat} {now : Int64} {gr : Int64} {mo : Int64} {re : Int64} {bgn : Int32} {lin : Int32} {rfd : Int32} {rnd : Int32} {mB : Nat → Int32} {mb : Nat → Int32} {ms : Nat → Int32} {mt : Nat → Int32} {kept : Nat} {np : Nat} {cl : Nat} {cf : Nat → Int32} {tn : Nat} {tf : Nat → Int32} {dl : Nat} {df : Nat → Int32} {sdf : Nat → Int32} {cnf : Nat → Int32} {cbf : Nat → Int32} {mkf : Nat → Int32} {num : Nat → Int32} {rep : Nat → Int64} {kf : Nat → Nat → Int32} {uto : Nat → Int32} {ufi : Nat → Int32} {use : Nat → Int32} {sop : Nat → Int32} {sow : Nat → Int32} {sid : Nat → Int64} {sbe : Nat → Int64} {sla : Nat → Int64} {mfa : Int32} {mmz : Nat} {msz : Nat} {msd : Int64} {mbg : Int64} {mka : Int32} {mta : Nat → Int32} {mwd : Nat → Int32} {mms : Nat → Int32} {mhs : Nat → Int32} {mke : Nat → Int32} {msa : Nat → Int32} {mkn : Nat → Int32} {mkb : Nat → Int32} {mku : Nat → Int64} {mit : Nat → Int32} {msi : Nat → Int32} {mtx : Nat → Int32} {mra : Nat → Int32} {fo : Nat → Int64}
set_option maxHeartbeats 4000000 in
theorem st_session {x y : Int32} {v : Int32} {u : Option (Unit) × (Nat → Int64)} {v2 : Int64} {u2 : Int32} (hR : Rel n kept np num rep kf mkn mku mkb sop mit cl cf tn tf msi mtx sdf bgn msd mbg dl sow) (hn : n < 600)  (h1 : wrP (fun (v : Int64) (u : Unit) => ∃ k w, k < 8 ∧ w < 4 ∧ x = nI k ∧ y = nI w ∧ v = sesV (sop k) (sow k) (sid k) (sbe k) (sla k) w) (fun E => E = "java/lang/IllegalArgumentException" ∧ (x < 0 ∨ nI 8 ≤ x ∨ y < 0 ∨ ¬ y ≤ nI 3)) fo v u) (h2 : (fun (v : Int64) (u : Int32) => (∃ k w, k < 8 ∧ w < 4 ∧ x = nI k ∧ y = nI w ∧ v = sesV (mit k) (sow k) (sid k) (sbe k) (sla k) w ∧ u = nI 0) ∨ (((∀ k, k < 8 → ¬ x = nI k) ∨ (∀ w, w ≤ 3 → ¬ y = nI w)) ∧ u = nI 1)) v2 u2) : Fin g ad ka kb ua sa md oa (n + 1) v (v2) ((mX g md u2 mmz msz now gr mo re msd mbg kept lin rfd rnd mka mta mwd mms mhs mke msa mkn mkb mku uto ufi use mit sow sid sbe sla msi mtx mra) ++ wrW g oa (gX g ad ka ua sa now gr mo re bgn lin rfd rnd mB mb ms mt kept np cl cf tn tf dl df sdf cnf cbf mkf ++ (tl 4 ka (kE kb num rep) ++ (tl 4 kb (bE g kf) ++ (tl 8 ua (uE uto ufi use) ++ (tl 8 sa (sE sop sow sid sbe sla) ++ []))))) (fun (u : Unit) => (gX g ad ka ua sa now gr mo re bgn lin rfd rnd mB mb ms mt kept np cl cf tn tf dl df sdf cnf cbf mkf ++ (tl 4 ka (kE kb num rep) ++ (tl 4 kb (bE g kf) ++ (tl 8 ua (uE uto ufi use) ++ (tl 8 sa (sE sop sow sid sbe sla) ++ [])))))) u) := by
  obtain ⟨hK, hS, hT, hB, hd, hO⟩ := hR
  obtain ⟨w, f⟩ := u
  cases w with
  | some w =>
    show Fin g ad ka kb ua sa md oa (n + 1) v (v2) ((mX g md u2 mmz msz now gr mo re msd mbg kept lin rfd rnd mka mta mwd mms mhs mke msa mkn mkb mku uto ufi use mit sow sid sbe sla msi mtx mra) ++ ([(oa, jA g 1 f)] ++ ((gX g ad ka ua sa now gr mo re bgn lin rfd rnd mB mb ms mt kept np cl cf tn tf dl df sdf cnf cbf mkf ++ (tl 4 ka (kE kb num rep) ++ (tl 4 kb (bE g kf) ++ (tl 8 ua (uE uto ufi use) ++ (tl 8 sa (sE sop sow sid sbe sla) ++ []))))))))
    obtain ⟨rfl, r, ⟨k, w, hk, hw, rfl, rfl, rfl⟩, hf⟩ := h1
    obtain rfl : f = _ := hf
    rcases h2 with ⟨k', w', hk', hw', ek, ew, rfl, rfl⟩ | ⟨h | h, -⟩
    · obtain rfl : k = k' := nI_i (by omega) (by omega) ek
      obtain rfl : w = w' := nI_i (by omega) (by omega) ew
      refine fin_mk rfl (fun _ => ?_) ⟨hK, hS, hT, BR_s hB, hd, hO⟩
      rw [updL_s]
      exact ses_eq (hS k hk)
    · exact absurd rfl (h k hk)
    · exact absurd rfl (h w (by omega))
  | none =>
    show Fin g ad ka kb ua sa md oa (n + 1) v (v2) ((mX g md u2 mmz msz now gr mo re msd mbg kept lin rfd rnd mka mta mwd mms mhs mke msa mkn mkb mku uto ufi use mit sow sid sbe sla msi mtx mra) ++ ([(oa, jA g 1 f)] ++ (gX g ad ka ua sa now gr mo re bgn lin rfd rnd mB mb ms mt kept np cl cf tn tf dl df sdf cnf cbf mkf ++ (tl 4 ka (kE kb num rep) ++ (tl 4 kb (bE g kf) ++ (tl 8 ua (uE uto ufi use) ++ (tl 8 sa (sE sop sow sid sbe sla) ++ [])))))))
    obtain ⟨hf, hx⟩ := h1
    obtain rfl : f = fo := hf
    rcases hx with ⟨rfl, -, hx⟩ | ⟨-, ⟨q, -⟩ | ⟨q, -⟩⟩
    · rcases h2 with ⟨k', w', hk', hw', rfl, rfl, -, -⟩ | ⟨-, rfl⟩
      · rcases hx with hx | hx | hx | hx
        · exact absurd hx (nI_nn (by omega))
        · exact absurd hx ((by decide +kernel : ∀ k, k < 8 → ¬ nI 8 ≤ nI k) k' hk')
        · exact absurd hx (nI_nn (by omega))
        · exact absurd ((by decide +kernel : ∀ k, k < 4 → nI k ≤ nI 3) w' hw') hx
      · exact fin_mk rfl (fun q => absurd q (by decide)) ⟨hK, hS, hT, BR_s hB, hd, hO⟩
    · exact absurd q ISE_IAE
    · exact absurd q IOO_IAE
set_option maxHeartbeats 4000000 in
theorem st_count {x : Int32} {v : Int32} {u : Option (Unit) × (Nat → Int64)} {v2 : Int32} {u2 : Int32} (hR : Rel n kept np num rep kf mkn mku mkb sop mit cl cf tn tf msi mtx sdf bgn msd mbg dl sow) (hn : n < 600)  (h1 : wrP (fun r w => ∃ r0, (fun (v : Int32) (u : Unit) => ∃ w, w < 7 ∧ x = nI w ∧ v = couV (nI (cntL sop 8)) bgn lin rfd rnd (nI (cntL (lvI kept np rep now gr) 4)) (num np) w) r0 w ∧ r = r0.toInt64) (fun E => E = "java/lang/IllegalArgumentException" ∧ ∀ w, w < 7 → ¬ x = nI w) fo v u) (h2 : (fun (v : Int32) (u : Int32) => (∃ w, w < 7 ∧ x = nI w ∧ v = couV (nI (cntL mit 8)) mbg.toInt32 lin rfd rnd (nI (cntL (lvK kept mku now gr) 8)) (mkn (kept - 1)) w ∧ u = nI 0) ∨ ((∀ w, w ≤ 6 → ¬ x = nI w) ∧ u = nI 1)) v2 u2) : Fin g ad ka kb ua sa md oa (n + 1) v (v2.toInt64) ((mX g md u2 mmz msz now gr mo re msd mbg kept lin rfd rnd mka mta mwd mms mhs mke msa mkn mkb mku uto ufi use mit sow sid sbe sla msi mtx mra) ++ wrW g oa (gX g ad ka ua sa now gr mo re bgn lin rfd rnd mB mb ms mt kept np cl cf tn tf dl df sdf cnf cbf mkf ++ (tl 4 ka (kE kb num rep) ++ (tl 4 kb (bE g kf) ++ (tl 8 ua (uE uto ufi use) ++ (tl 8 sa (sE sop sow sid sbe sla) ++ []))))) (fun (u : Unit) => (gX g ad ka ua sa now gr mo re bgn lin rfd rnd mB mb ms mt kept np cl cf tn tf dl df sdf cnf cbf mkf ++ (tl 4 ka (kE kb num rep) ++ (tl 4 kb (bE g kf) ++ (tl 8 ua (uE uto ufi use) ++ (tl 8 sa (sE sop sow sid sbe sla) ++ [])))))) u) := by
  obtain ⟨hK, hS, hT, hB, hd, hO⟩ := hR
  obtain ⟨w, f⟩ := u
  cases w with
  | some w =>
    show Fin g ad ka kb ua sa md oa (n + 1) v (v2.toInt64) ((mX g md u2 mmz msz now gr mo re msd mbg kept lin rfd rnd mka mta mwd mms mhs mke msa mkn mkb mku uto ufi use mit sow sid sbe sla msi mtx mra) ++ ([(oa, jA g 1 f)] ++ ((gX g ad ka ua sa now gr mo re bgn lin rfd rnd mB mb ms mt kept np cl cf tn tf dl df sdf cnf cbf mkf ++ (tl 4 ka (kE kb num rep) ++ (tl 4 kb (bE g kf) ++ (tl 8 ua (uE uto ufi use) ++ (tl 8 sa (sE sop sow sid sbe sla) ++ []))))))))
    obtain ⟨rfl, r, ⟨r0, ⟨w, hw, rfl, rfl⟩, rfl⟩, hf⟩ := h1
    obtain rfl : f = _ := hf
    rcases h2 with ⟨w', hw', ew, rfl, rfl⟩ | ⟨h, -⟩
    · obtain rfl : w = w' := nI_i (by omega) (by omega) ew
      refine fin_mk rfl (fun _ => ?_) ⟨hK, hS, hT, BR_s hB, hd, hO⟩
      rw [updL_s, cnt_iff 8 (fun j hj => hS j hj), kr_cnt hK, kr_top hK]
      obtain ⟨-, b, hb, rfl, rfl⟩ := hB
      rw [lN_toI b (by omega)]
    · exact absurd rfl (h w (by omega))
  | none =>
    show Fin g ad ka kb ua sa md oa (n + 1) v (v2.toInt64) ((mX g md u2 mmz msz now gr mo re msd mbg kept lin rfd rnd mka mta mwd mms mhs mke msa mkn mkb mku uto ufi use mit sow sid sbe sla msi mtx mra) ++ ([(oa, jA g 1 f)] ++ (gX g ad ka ua sa now gr mo re bgn lin rfd rnd mB mb ms mt kept np cl cf tn tf dl df sdf cnf cbf mkf ++ (tl 4 ka (kE kb num rep) ++ (tl 4 kb (bE g kf) ++ (tl 8 ua (uE uto ufi use) ++ (tl 8 sa (sE sop sow sid sbe sla) ++ [])))))))
    obtain ⟨hf, hx⟩ := h1
    obtain rfl : f = fo := hf
    rcases hx with ⟨rfl, -, hx⟩ | ⟨-, ⟨q, -⟩ | ⟨q, -⟩⟩
    · rcases h2 with ⟨w', hw', rfl, -, -⟩ | ⟨-, rfl⟩
      · exact absurd rfl (hx w' hw')
      · exact fin_mk rfl (fun q => absurd q (by decide)) ⟨hK, hS, hT, BR_s hB, hd, hO⟩
    · exact absurd q ISE_IAE
    · exact absurd q IOO_IAE
set_option maxHeartbeats 4000000 in
theorem st_octet {x : Int32} {v : Int32} {u : Option ((Nat → Int32) × (Nat → Int32) × (Nat → Int32) × (Nat → Int32)) × (Nat → Int64)} {v2 : Int32} {u2 : (Nat → Int32) × (Nat → Int32) × (Nat → Int32) × (Nat → Int32) × (Nat → Int32) × (Nat → Int32) × Nat × Nat × Int32} (hR : Rel n kept np num rep kf mkn mku mkb sop mit cl cf tn tf msi mtx sdf bgn msd mbg dl sow) (hn : n < 600)  (h1 : wrP (fun r w => ∃ r0, (fun (v : Int32) (u : (Nat → Int32) × (Nat → Int32) × (Nat → Int32) × (Nat → Int32)) => ∃ k, k < 32 ∧ x = nI k ∧ v = hmac (kf np) 16 cf cl k) r0 w ∧ r = r0.toInt64) (fun E => E = "java/lang/IllegalArgumentException" ∧ (x < 0 ∨ ¬ x < nI 32)) fo v u) (h2 : (fun (v : Int32) (u : (Nat → Int32) × (Nat → Int32) × (Nat → Int32) × (Nat → Int32) × (Nat → Int32) × (Nat → Int32) × Nat × Nat × Int32) => (∃ k, k < 32 ∧ x = nI k ∧ v = hmac (k16 mkb (kept - 1)) 16 (rw8 mtx) cl k ∧ u.2.2.2.2.2.2.2.2 = nI 0) ∨ ((∀ k, k ≤ 31 → ¬ x = nI k) ∧ u.2.2.2.2.2.2.2.2 = nI 1)) v2 u2) : Fin g ad ka kb ua sa md oa (n + 1) v (v2.toInt64) ((mX g md u2.2.2.2.2.2.2.2.2 u2.2.2.2.2.2.2.1 u2.2.2.2.2.2.2.2.1 now gr mo re msd mbg kept lin rfd rnd mka u2.1 u2.2.1 u2.2.2.1 u2.2.2.2.1 u2.2.2.2.2.1 u2.2.2.2.2.2.1 mkn mkb mku uto ufi use mit sow sid sbe sla msi mtx mra) ++ wrW g oa (gX g ad ka ua sa now gr mo re bgn lin rfd rnd mB mb ms mt kept np cl cf tn tf dl df sdf cnf cbf mkf ++ (tl 4 ka (kE kb num rep) ++ (tl 4 kb (bE g kf) ++ (tl 8 ua (uE uto ufi use) ++ (tl 8 sa (sE sop sow sid sbe sla) ++ []))))) (fun (u : (Nat → Int32) × (Nat → Int32) × (Nat → Int32) × (Nat → Int32)) => (gX g ad ka ua sa now gr mo re bgn lin rfd rnd u.1 u.2.1 u.2.2.1 u.2.2.2 kept np cl cf tn tf dl df sdf cnf cbf mkf ++ (tl 4 ka (kE kb num rep) ++ (tl 4 kb (bE g kf) ++ (tl 8 ua (uE uto ufi use) ++ (tl 8 sa (sE sop sow sid sbe sla) ++ [])))))) u) := by
  obtain ⟨hK, hS, hT, hB, hd, hO⟩ := hR
  obtain ⟨w, f⟩ := u
  obtain ⟨m1, m2, m3, m4, m5, m6, m7, m8, m9⟩ := u2
  dsimp only at h2
  cases w with
  | some w =>
    obtain ⟨w1, w2, w3, w4⟩ := w
    show Fin g ad ka kb ua sa md oa (n + 1) v (v2.toInt64) ((mX g md m9 m7 m8 now gr mo re msd mbg kept lin rfd rnd mka m1 m2 m3 m4 m5 m6 mkn mkb mku uto ufi use mit sow sid sbe sla msi mtx mra) ++ ([(oa, jA g 1 f)] ++ ((gX g ad ka ua sa now gr mo re bgn lin rfd rnd w1 w2 w3 w4 kept np cl cf tn tf dl df sdf cnf cbf mkf ++ (tl 4 ka (kE kb num rep) ++ (tl 4 kb (bE g kf) ++ (tl 8 ua (uE uto ufi use) ++ (tl 8 sa (sE sop sow sid sbe sla) ++ []))))))))
    obtain ⟨rfl, r, ⟨r0, ⟨k, hk, rfl, rfl⟩, rfl⟩, hf⟩ := h1
    obtain rfl : f = _ := hf
    rcases h2 with ⟨k', hk', ek, rfl, rfl⟩ | ⟨h, -⟩
    · obtain rfl : k = k' := nI_i (by omega) (by omega) ek
      refine fin_mk rfl (fun _ => ?_) ⟨hK, hS, hT, BR_s hB, hd, hO⟩
      rw [updL_s]
      refine congrArg Int32.toInt64 (hm2 (kr_key hK) (fun j hj => ?_) hk).symm
      have e := hT.2.2.2.2.2.2.1 j hj
      rw [rw8_id (by rw [e]; exact hT.2.2.1 j (by have := hT.1; omega)), e]
    · exact absurd rfl (h k (by omega))
  | none =>
    show Fin g ad ka kb ua sa md oa (n + 1) v (v2.toInt64) ((mX g md m9 m7 m8 now gr mo re msd mbg kept lin rfd rnd mka m1 m2 m3 m4 m5 m6 mkn mkb mku uto ufi use mit sow sid sbe sla msi mtx mra) ++ ([(oa, jA g 1 f)] ++ (gX g ad ka ua sa now gr mo re bgn lin rfd rnd mB mb ms mt kept np cl cf tn tf dl df sdf cnf cbf mkf ++ (tl 4 ka (kE kb num rep) ++ (tl 4 kb (bE g kf) ++ (tl 8 ua (uE uto ufi use) ++ (tl 8 sa (sE sop sow sid sbe sla) ++ [])))))))
    obtain ⟨hf, hx⟩ := h1
    obtain rfl : f = fo := hf
    rcases hx with ⟨rfl, -, hx⟩ | ⟨-, ⟨q, -⟩ | ⟨q, -⟩⟩
    · rcases h2 with ⟨k', hk', rfl, -, -⟩ | ⟨-, rfl⟩
      · rcases hx with hx | hx
        · exact absurd hx (nI_nn (by omega))
        · exact absurd ((by decide +kernel : ∀ k, k < 32 → nI k < nI 32) k' hk') hx
      · exact fin_mk rfl (fun q => absurd q (by decide)) ⟨hK, hS, hT, BR_s hB, hd, hO⟩
    · exact absurd q ISE_IAE
    · exact absurd q IOO_IAE
end ST
