section ST
variable {g : GG} {ad ka kb ua sa md : Nat → Nat} {oa n : Nat} {now : Int64} {gr : Int64} {mo : Int64} {re : Int64} {bgn : Int32} {lin : Int32} {rfd : Int32} {rnd : Int32} {mB : Nat → Int32} {mb : Nat → Int32} {ms : Nat → Int32} {mt : Nat → Int32} {kept : Nat} {np : Nat} {cl : Nat} {cf : Nat → Int32} {tn : Nat} {tf : Nat → Int32} {dl : Nat} {df : Nat → Int32} {sdf : Nat → Int32} {cnf : Nat → Int32} {cbf : Nat → Int32} {mkf : Nat → Int32} {num : Nat → Int32} {rep : Nat → Int64} {kf : Nat → Nat → Int32} {uto : Nat → Int32} {ufi : Nat → Int32} {use : Nat → Int32} {sop : Nat → Int32} {sow : Nat → Int32} {sid : Nat → Int64} {sbe : Nat → Int64} {sla : Nat → Int64} {mfa : Int32} {mmz : Nat} {msz : Nat} {msd : Int64} {mbg : Int64} {mka : Int32} {mta : Nat → Int32} {mwd : Nat → Int32} {mms : Nat → Int32} {mhs : Nat → Int32} {mke : Nat → Int32} {msa : Nat → Int32} {mkn : Nat → Int32} {mkb : Nat → Int32} {mku : Nat → Int64} {mit : Nat → Int32} {msi : Nat → Int32} {mtx : Nat → Int32} {mra : Nat → Int32} {fo : Nat → Int64}
theorem jd_F {kept np cl tn : Nat} {cf tf num sop sow : Nat → Int32} {rep sid sbe sla : Nat → Int64} {kf : Nat → Nat → Int32} {now gr mo re : Int64} {ch v : Int32} {s2 : Nat → Int32} (h : jdP kept np cl cf tn tf num rep kf sop sow sid sbe sla now gr mo re ch v s2) (hv : ¬ v < 0) : isF cl cf := by
  rcases h with ⟨-, rfl, -⟩ | ⟨f1, -⟩ | ⟨f1, -⟩
  · exact absurd (by decide) hv
  · exact f1
  · exact f1
set_option maxHeartbeats 4000000 in
theorem st_request {ch : Int32} {v v2 : Int32} {u : (Nat → Int32) × (Nat → Int32) × (Nat → Int32) × (Nat → Int32) × (Nat → Int32) × (Nat → Int32) × (Nat → Int32) × (Nat → Int32) × Nat × (Nat → Int64) × Nat × (Nat → Int32) × Nat × (Nat → Int32) × Int32 × Int32 × Int32} {u2 : (Nat → Int32) × (Nat → Int32) × (Nat → Int32) × (Nat → Int32) × (Nat → Int32) × (Nat → Int32) × (Nat → Int32) × (Nat → Int32) × Int32 × Nat × Nat × (Nat → Int64) × (Nat → Int32) × (Nat → Int32) × Int32 × Int32 × Int32} (hR : Rel n kept np num rep kf mkn mku mkb sop mit cl cf tn tf msi mtx sdf bgn msd mbg dl sow) (hn : n < 600)  (h1 : (fun (v : Int32) (u : (Nat → Int32) × (Nat → Int32) × (Nat → Int32) × (Nat → Int32) × (Nat → Int32) × (Nat → Int32) × (Nat → Int32) × (Nat → Int32) × Nat × (Nat → Int64) × Nat × (Nat → Int32) × Nat × (Nat → Int32) × Int32 × Int32 × Int32) => jdP kept np cl cf tn tf num rep kf sop sow sid sbe sla now gr mo re ch v u.2.2.2.2.2.2.2.1 ∧ u.2.2.2.2.2.2.2.2.1 ≤ 40 ∧ (u.2.2.2.2.2.2.2.2.2.2.2.2.2.2.1, u.2.2.2.2.2.2.2.2.2.2.2.2.2.2.2.1) = (if v < 0 then (lin, rfd + nI 1) else (lin + nI 1, rfd)) ∧ ((v < 0 ∧ u.2.2.2.2.2.2.2.2.2.1 = sla ∧ u.2.2.2.2.2.2.2.2.2.2.1 = cl ∧ u.2.2.2.2.2.2.2.2.2.2.2.1 = cf ∧ u.2.2.2.2.2.2.2.2.2.2.2.2.1 = tn ∧ u.2.2.2.2.2.2.2.2.2.2.2.2.2.1 = tf ∧ u.2.2.2.2.2.2.2.2.2.2.2.2.2.2.2.2 = rnd) ∨ (∃ n, n < 8 ∧ v = nI n ∧ u.2.2.2.2.2.2.2.2.2.1 = vp_updL sla n now ∧ ((dcb cf 0 = num np ∧ u.2.2.2.2.2.2.2.2.2.2.1 = cl ∧ u.2.2.2.2.2.2.2.2.2.2.2.1 = cf ∧ u.2.2.2.2.2.2.2.2.2.2.2.2.1 = tn ∧ u.2.2.2.2.2.2.2.2.2.2.2.2.2.1 = tf ∧ u.2.2.2.2.2.2.2.2.2.2.2.2.2.2.2.2 = rnd) ∨ (¬ dcb cf 0 = num np ∧ u.2.2.2.2.2.2.2.2.2.2.1 = 30 ∧ u.2.2.2.2.2.2.2.2.2.2.2.2.1 = 12 ∧ (∀ j, j < 30 → u.2.2.2.2.2.2.2.2.2.2.2.1 j = ckS (kf np) (num np) (sow n) (sid n) j) ∧ (∀ j, j < 12 → u.2.2.2.2.2.2.2.2.2.2.2.2.2.1 j = tkS (kf np) (bod (num np) (sow n) (sid n)) j) ∧ isB u.2.2.2.2.2.2.2.2.2.2.2.1 ∧ isB u.2.2.2.2.2.2.2.2.2.2.2.2.2.1 ∧ u.2.2.2.2.2.2.2.2.2.2.2.2.2.2.2.2 = rnd + nI 1))))) v u) (h2 : (fun (v : Int32) (u : (Nat → Int32) × (Nat → Int32) × (Nat → Int32) × (Nat → Int32) × (Nat → Int32) × (Nat → Int32) × (Nat → Int32) × (Nat → Int32) × Int32 × Nat × Nat × (Nat → Int64) × (Nat → Int32) × (Nat → Int32) × Int32 × Int32 × Int32) => (∃ ka2, mjP cl tn kept mtx mra mkn mkb mku mit sow sid sbe sla now gr mo re ch v ka2 u.2.2.2.2.2.2.2.1) ∧ (u.2.2.2.2.2.2.2.2.2.2.2.2.2.2.1, u.2.2.2.2.2.2.2.2.2.2.2.2.2.2.2.1) = (if v < 0 then (lin, rfd + nI 1) else (lin + nI 1, rfd)) ∧ ((v < 0 ∧ u.2.2.2.2.2.2.2.2.2.2.2.1 = sla ∧ u.2.2.2.2.2.2.2.2.2.2.2.2.1 = msi ∧ u.2.2.2.2.2.2.2.2.2.2.2.2.2.1 = mtx ∧ u.2.2.2.2.2.2.2.2.2.2.2.2.2.2.2.2 = rnd) ∨ (∃ n k, n < 8 ∧ v = nI n ∧ u.2.2.2.2.2.2.2.2.2.2.2.1 = vp_updL sla n now ∧ k < kept ∧ mkn k = rbM mtx mra 0 ∧ ((kept - 1 ≤ k ∧ u.2.2.2.2.2.2.2.2.2.2.2.2.1 = msi ∧ u.2.2.2.2.2.2.2.2.2.2.2.2.2.1 = mtx ∧ u.2.2.2.2.2.2.2.2.2.2.2.2.2.2.2.2 = rnd) ∨ (k < kept - 1 ∧ u.2.2.2.2.2.2.2.2.2.2.2.2.1 = upd (upd msi 0 (nI 30)) 1 (nI 12) ∧ (∀ j, j < 30 → u.2.2.2.2.2.2.2.2.2.2.2.2.2.1 j = kA (cdV (ckR (k16 mkb (kept - 1)) (mkn (kept - 1)) (sow n) (sid n)) 22 j 6)) ∧ (∀ j, j < 12 → u.2.2.2.2.2.2.2.2.2.2.2.2.2.1 (40 + j) = kA (cdV (hmac (k16 mkb (kept - 1)) 16 (tkm (rw8 (bod (mkn (kept - 1)) (sow n) (sid n)))) 11) 9 j 6)) ∧ u.2.2.2.2.2.2.2.2.2.2.2.2.2.2.2.2 = rnd + nI 1))))) v2 u2) : v = v2 ∧ ∃ th o, Iv g ad ka kb ua sa md oa (n + 1) th o ((mX g md (nI 0) u2.2.2.2.2.2.2.2.2.2.1 u2.2.2.2.2.2.2.2.2.2.2.1 now gr mo re msd mbg kept u2.2.2.2.2.2.2.2.2.2.2.2.2.2.2.1 u2.2.2.2.2.2.2.2.2.2.2.2.2.2.2.2.1 u2.2.2.2.2.2.2.2.2.2.2.2.2.2.2.2.2 u2.2.2.2.2.2.2.2.2.1 u2.1 u2.2.1 u2.2.2.1 u2.2.2.2.1 u2.2.2.2.2.1 u2.2.2.2.2.2.1 mkn mkb mku uto ufi use u2.2.2.2.2.2.2.2.1 sow sid sbe u2.2.2.2.2.2.2.2.2.2.2.2.1 u2.2.2.2.2.2.2.2.2.2.2.2.2.1 u2.2.2.2.2.2.2.2.2.2.2.2.2.2.1 u2.2.2.2.2.2.2.1) ++ ([(oa, jA g 1 fo)] ++ (gX g ad ka ua sa now gr mo re bgn u.2.2.2.2.2.2.2.2.2.2.2.2.2.2.1 u.2.2.2.2.2.2.2.2.2.2.2.2.2.2.2.1 u.2.2.2.2.2.2.2.2.2.2.2.2.2.2.2.2 u.1 u.2.1 u.2.2.1 u.2.2.2.1 kept np u.2.2.2.2.2.2.2.2.2.2.1 u.2.2.2.2.2.2.2.2.2.2.2.1 u.2.2.2.2.2.2.2.2.2.2.2.2.1 u.2.2.2.2.2.2.2.2.2.2.2.2.2.1 u.2.2.2.2.2.2.2.2.1 u.2.2.2.2.2.2.1 sdf cnf u.2.2.2.2.1 u.2.2.2.2.2.1 ++ (tl 4 ka (kE kb num rep) ++ (tl 4 kb (bE g kf) ++ (tl 8 ua (uE uto ufi use) ++ (tl 8 sa (sE u.2.2.2.2.2.2.2.1 sow sid sbe u.2.2.2.2.2.2.2.2.2.1) ++ []))))))) := by
  obtain ⟨hK, hS, hT, hB, hd, hO⟩ := hR
  obtain ⟨w1, w2, w3, w4, w5, w6, w7, w8, w9, w10, w11, w12, w13, w14, w15, w16, w17⟩ := u
  obtain ⟨m1, m2, m3, m4, m5, m6, m7, m8, m9, m10, m11, m12, m13, m14, m15, m16, m17⟩ := u2
  dsimp only at h1 h2
  obtain ⟨hj, hd9, hp, h1⟩ := h1
  obtain ⟨⟨ka2, hm⟩, hp2, h2⟩ := h2
  obtain ⟨rfl, hS2⟩ := jm hK hS hT hj hm
  refine ⟨rfl, ?_⟩
  obtain ⟨rfl, rfl⟩ := Prod.mk.inj (hp.trans hp2.symm)
  rcases h1 with ⟨v0, rfl, rfl, rfl, rfl, rfl, rfl⟩ | ⟨q, hq, rfl, rfl, h1⟩
  · rcases h2 with ⟨-, rfl, rfl, rfl, rfl⟩ | ⟨q, k, hq, rfl, -⟩
    · exact ⟨nI 0, fo 0, iv_mk rfl ⟨hK, hS2, hT, BR_s hB, hd9, hO⟩⟩
    · exact absurd v0 (nI_nn (by omega))
  · rcases h2 with ⟨v0, -⟩ | ⟨q', k, hq', eq, rfl, hk, ek, h2⟩
    · exact absurd v0 (nI_nn (by omega))
    · obtain rfl : q = q' := nI_i (by omega) (by omega) eq
      have hF := jd_F hj (nI_nn (by omega))
      rw [rb_eq (ra := mra) hT.2.2.2.2.2.2.1 hF 0 (by omega)] at ek
      have hk1 := hK.1
      rcases h1 with ⟨c1, rfl, rfl, rfl, rfl, rfl⟩ | ⟨c1, rfl, rfl, t1, t2, t3, t4, rfl⟩
      · rcases h2 with ⟨-, rfl, rfl, rfl⟩ | ⟨c2, -⟩
        · exact ⟨nI 0, fo 0, iv_mk rfl ⟨hK, hS2, hT, BR_s hB, hd9, hO⟩⟩
        · have := kr_inj hK hk (by omega) ((ek.trans c1).trans (kr_top hK).symm)
          omega
      · rcases h2 with ⟨c2, -⟩ | ⟨-, rfl, s1, s2, rfl⟩
        · obtain rfl : k = kept - 1 := by omega
          exact absurd (ek.symm.trans (kr_top hK)) c1
        · exact ⟨nI 0, fo 0, iv_mk rfl ⟨hK, hS2, tr_new hK (hO q hq) t1 t2 t3 t4 s1 s2, BR_s hB, hd9, hO⟩⟩
set_option maxHeartbeats 4000000 in
theorem st_logout  {v v2 : Int32} {u : (Nat → Int32) × (Nat → Int32) × (Nat → Int32) × (Nat → Int32) × (Nat → Int32) × (Nat → Int32) × (Nat → Int32) × (Nat → Int32) × Nat × Int32 × Int32 × (Nat → Int32)} {u2 : (Nat → Int32) × (Nat → Int32) × (Nat → Int32) × (Nat → Int32) × (Nat → Int32) × (Nat → Int32) × (Nat → Int32) × Int32 × Nat × Nat × Int32 × Int32 × (Nat → Int32) × (Nat → Int32)} (hR : Rel n kept np num rep kf mkn mku mkb sop mit cl cf tn tf msi mtx sdf bgn msd mbg dl sow) (hn : n < 600)  (h1 : (fun (v : Int32) (u : (Nat → Int32) × (Nat → Int32) × (Nat → Int32) × (Nat → Int32) × (Nat → Int32) × (Nat → Int32) × (Nat → Int32) × (Nat → Int32) × Nat × Int32 × Int32 × (Nat → Int32)) => jdP kept np cl cf tn tf num rep kf sop sow sid sbe sla now gr mo re (nI 1) v u.2.2.2.2.2.2.2.1 ∧ u.2.2.2.2.2.2.2.2.1 ≤ 40 ∧ (u.2.2.2.2.2.2.2.2.2.1, u.2.2.2.2.2.2.2.2.2.2.1) = (if v < 0 then (lin, rfd + nI 1) else (lin + nI 1, rfd)) ∧ ((v < 0 ∧ u.2.2.2.2.2.2.2.2.2.2.2 = u.2.2.2.2.2.2.2.1) ∨ (∃ n, n < 8 ∧ v = nI n ∧ u.2.2.2.2.2.2.2.2.2.2.2 = upd u.2.2.2.2.2.2.2.1 n (nI 0)))) v u) (h2 : (fun (v : Int32) (u : (Nat → Int32) × (Nat → Int32) × (Nat → Int32) × (Nat → Int32) × (Nat → Int32) × (Nat → Int32) × (Nat → Int32) × Int32 × Nat × Nat × Int32 × Int32 × (Nat → Int32) × (Nat → Int32)) => (∃ ka2, mjP cl tn kept mtx mra mkn mkb mku mit sow sid sbe sla now gr mo re (nI 1) v ka2 u.2.2.2.2.2.2.2.2.2.2.2.2.1) ∧ (u.2.2.2.2.2.2.2.2.2.2.1, u.2.2.2.2.2.2.2.2.2.2.2.1) = (if v < 0 then (lin, rfd + nI 1) else (lin + nI 1, rfd)) ∧ ((v < 0 ∧ u.2.2.2.2.2.2.2.2.2.2.2.2.2 = u.2.2.2.2.2.2.2.2.2.2.2.2.1) ∨ (∃ n, n < 8 ∧ v = nI n ∧ u.2.2.2.2.2.2.2.2.2.2.2.2.2 = upd u.2.2.2.2.2.2.2.2.2.2.2.2.1 n (nI 0)))) v2 u2) : v = v2 ∧ ∃ th o, Iv g ad ka kb ua sa md oa (n + 1) th o ((mX g md (nI 0) u2.2.2.2.2.2.2.2.2.1 u2.2.2.2.2.2.2.2.2.2.1 now gr mo re msd mbg kept u2.2.2.2.2.2.2.2.2.2.2.1 u2.2.2.2.2.2.2.2.2.2.2.2.1 rnd u2.2.2.2.2.2.2.2.1 u2.1 u2.2.1 u2.2.2.1 u2.2.2.2.1 u2.2.2.2.2.1 u2.2.2.2.2.2.1 mkn mkb mku uto ufi use u2.2.2.2.2.2.2.2.2.2.2.2.2.2 sow sid sbe sla msi mtx u2.2.2.2.2.2.2.1) ++ ([(oa, jA g 1 fo)] ++ (gX g ad ka ua sa now gr mo re bgn u.2.2.2.2.2.2.2.2.2.1 u.2.2.2.2.2.2.2.2.2.2.1 rnd u.1 u.2.1 u.2.2.1 u.2.2.2.1 kept np cl cf tn tf u.2.2.2.2.2.2.2.2.1 u.2.2.2.2.2.2.1 sdf cnf u.2.2.2.2.1 u.2.2.2.2.2.1 ++ (tl 4 ka (kE kb num rep) ++ (tl 4 kb (bE g kf) ++ (tl 8 ua (uE uto ufi use) ++ (tl 8 sa (sE u.2.2.2.2.2.2.2.2.2.2.2 sow sid sbe sla) ++ []))))))) := by
  obtain ⟨hK, hS, hT, hB, hd, hO⟩ := hR
  obtain ⟨w1, w2, w3, w4, w5, w6, w7, w8, w9, w10, w11, w12⟩ := u
  obtain ⟨m1, m2, m3, m4, m5, m6, m7, m8, m9, m10, m11, m12, m13, m14⟩ := u2
  dsimp only at h1 h2
  obtain ⟨hj, hd9, hp, h1⟩ := h1
  obtain ⟨⟨ka2, hm⟩, hp2, h2⟩ := h2
  obtain ⟨rfl, hS2⟩ := jm hK hS hT hj hm
  refine ⟨rfl, ?_⟩
  obtain ⟨rfl, rfl⟩ := Prod.mk.inj (hp.trans hp2.symm)
  rcases h1 with ⟨v0, rfl⟩ | ⟨q, hq, rfl, rfl⟩
  · rcases h2 with ⟨-, rfl⟩ | ⟨q, hq, rfl, -⟩
    · exact ⟨nI 0, fo 0, iv_mk rfl ⟨hK, hS2, hT, BR_s hB, hd9, hO⟩⟩
    · exact absurd v0 (nI_nn (by omega))
  · rcases h2 with ⟨v0, -⟩ | ⟨q', hq', eq, rfl⟩
    · exact absurd v0 (nI_nn (by omega))
    · obtain rfl : q = q' := nI_i (by omega) (by omega) eq
      exact ⟨nI 0, fo 0, iv_mk rfl ⟨hK, SR_upd hS2 _ _, hT, BR_s hB, hd9, hO⟩⟩
end ST
