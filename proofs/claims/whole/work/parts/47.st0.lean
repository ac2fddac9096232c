/-! THE INVARIANT of the law's loop, and what each call does to it -/
def Rel (n kept np : Nat) (num : Nat → Int32) (rep : Nat → Int64) (kf : Nat → Nat → Int32) (mkn : Nat → Int32) (mku : Nat → Int64) (mkb : Nat → Int32) (sop mit : Nat → Int32) (cl : Nat) (cf : Nat → Int32) (tn : Nat) (tf msi mtx sdf : Nat → Int32) (bgn : Int32) (msd mbg : Int64) (dl : Nat) (sow : Nat → Int32) : Prop :=
  KR kept np num rep kf mkn mku mkb ∧ SR sop mit ∧ TR cl cf tn tf msi mtx ∧ BR n sdf bgn msd mbg ∧ dl ≤ 40 ∧ OR sow
def Iv (g : GG) (ad ka kb ua sa md : Nat → Nat) (oa n : Nat) (mfa : Int32) (o : Int64) (W : va_W) : Prop :=
  ∃ (now : Int64) (gr : Int64) (mo : Int64) (re : Int64) (bgn : Int32) (lin : Int32) (rfd : Int32) (rnd : Int32) (mB : Nat → Int32) (mb : Nat → Int32) (ms : Nat → Int32) (mt : Nat → Int32) (kept : Nat) (np : Nat) (cl : Nat) (cf : Nat → Int32) (tn : Nat) (tf : Nat → Int32) (dl : Nat) (df : Nat → Int32) (sdf : Nat → Int32) (cnf : Nat → Int32) (cbf : Nat → Int32) (mkf : Nat → Int32) (num : Nat → Int32) (rep : Nat → Int64) (kf : Nat → Nat → Int32) (uto : Nat → Int32) (ufi : Nat → Int32) (use : Nat → Int32) (sop : Nat → Int32) (sow : Nat → Int32) (sid : Nat → Int64) (sbe : Nat → Int64) (sla : Nat → Int64) (mmz : Nat) (msz : Nat) (msd : Int64) (mbg : Int64) (mka : Int32) (mta : Nat → Int32) (mwd : Nat → Int32) (mms : Nat → Int32) (mhs : Nat → Int32) (mke : Nat → Int32) (msa : Nat → Int32) (mkn : Nat → Int32) (mkb : Nat → Int32) (mku : Nat → Int64) (mit : Nat → Int32) (msi : Nat → Int32) (mtx : Nat → Int32) (mra : Nat → Int32) (fo : Nat → Int64), W = mX g md mfa mmz msz now gr mo re msd mbg kept lin rfd rnd mka mta mwd mms mhs mke msa mkn mkb mku uto ufi use mit sow sid sbe sla msi mtx mra ++ ([(oa, jA g 1 fo)] ++ (gX g ad ka ua sa now gr mo re bgn lin rfd rnd mB mb ms mt kept np cl cf tn tf dl df sdf cnf cbf mkf ++ (tl 4 ka (kE kb num rep) ++ (tl 4 kb (bE g kf) ++ (tl 8 ua (uE uto ufi use) ++ (tl 8 sa (sE sop sow sid sbe sla) ++ [])))))) ∧ fo 0 = o ∧ Rel n kept np num rep kf mkn mku mkb sop mit cl cf tn tf msi mtx sdf bgn msd mbg dl sow
theorem iv_wd {g : GG} {ad ka kb ua sa md : Nat → Nat} {oa n : Nat} {mfa : Int32} {o : Int64} {W : va_W} {s : State} {A : Nat → Prop} {H : Heap} {locs : List Loc} (hI : Iv g ad ka kb ua sa md oa n mfa o W) (hw : Wd g s A H locs W) :
  ∃ (now : Int64) (gr : Int64) (mo : Int64) (re : Int64) (bgn : Int32) (lin : Int32) (rfd : Int32) (rnd : Int32) (mB : Nat → Int32) (mb : Nat → Int32) (ms : Nat → Int32) (mt : Nat → Int32) (kept : Nat) (np : Nat) (cl : Nat) (cf : Nat → Int32) (tn : Nat) (tf : Nat → Int32) (dl : Nat) (df : Nat → Int32) (sdf : Nat → Int32) (cnf : Nat → Int32) (cbf : Nat → Int32) (mkf : Nat → Int32) (num : Nat → Int32) (rep : Nat → Int64) (kf : Nat → Nat → Int32) (uto : Nat → Int32) (ufi : Nat → Int32) (use : Nat → Int32) (sop : Nat → Int32) (sow : Nat → Int32) (sid : Nat → Int64) (sbe : Nat → Int64) (sla : Nat → Int64) (mmz : Nat) (msz : Nat) (msd : Int64) (mbg : Int64) (mka : Int32) (mta : Nat → Int32) (mwd : Nat → Int32) (mms : Nat → Int32) (mhs : Nat → Int32) (mke : Nat → Int32) (msa : Nat → Int32) (mkn : Nat → Int32) (mkb : Nat → Int32) (mku : Nat → Int64) (mit : Nat → Int32) (msi : Nat → Int32) (mtx : Nat → Int32) (mra : Nat → Int32) (fo : Nat → Int64), Wd g s A H locs (mX g md mfa mmz msz now gr mo re msd mbg kept lin rfd rnd mka mta mwd mms mhs mke msa mkn mkb mku uto ufi use mit sow sid sbe sla msi mtx mra ++ ([(oa, jA g 1 fo)] ++ (gX g ad ka ua sa now gr mo re bgn lin rfd rnd mB mb ms mt kept np cl cf tn tf dl df sdf cnf cbf mkf ++ (tl 4 ka (kE kb num rep) ++ (tl 4 kb (bE g kf) ++ (tl 8 ua (uE uto ufi use) ++ (tl 8 sa (sE sop sow sid sbe sla) ++ []))))))) ∧ fo 0 = o ∧ Rel n kept np num rep kf mkn mku mkb sop mit cl cf tn tf msi mtx sdf bgn msd mbg dl sow := by
  obtain ⟨now, gr, mo, re, bgn, lin, rfd, rnd, mB, mb, ms, mt, kept, np, cl, cf, tn, tf, dl, df, sdf, cnf, cbf, mkf, num, rep, kf, uto, ufi, use, sop, sow, sid, sbe, sla, mmz, msz, msd, mbg, mka, mta, mwd, mms, mhs, mke, msa, mkn, mkb, mku, mit, msi, mtx, mra, fo, eW, ho, hR⟩ := hI
  exact ⟨now, gr, mo, re, bgn, lin, rfd, rnd, mB, mb, ms, mt, kept, np, cl, cf, tn, tf, dl, df, sdf, cnf, cbf, mkf, num, rep, kf, uto, ufi, use, sop, sow, sid, sbe, sla, mmz, msz, msd, mbg, mka, mta, mwd, mms, mhs, mke, msa, mkn, mkb, mku, mit, msi, mtx, mra, fo, eW ▸ hw, ho, hR⟩
/-- the wrapper's word v, the reference's answer b: the same outcome -/
def Fin (g : GG) (ad ka kb ua sa md : Nat → Nat) (oa n : Nat) (v : Int32) (b : Int64) (W : va_W) : Prop := ∃ th o, Iv g ad ka kb ua sa md oa n th o W ∧ v = th ∧ (v = nI 0 → o = b)
theorem BR_s {n : Nat} {sdf : Nat → Int32} {bgn : Int32} {msd mbg : Int64} (h : BR n sdf bgn msd mbg) : BR (n + 1) sdf bgn msd mbg := ⟨h.1, h.2.imp (fun b q => ⟨by omega, q.2⟩)⟩
section ST
variable {g : GG} {ad ka kb ua sa md : Nat → Nat} {oa n : Nat} {now : Int64} {gr : Int64} {mo : Int64} {re : Int64} {bgn : Int32} {lin : Int32} {rfd : Int32} {rnd : Int32} {mB : Nat → Int32} {mb : Nat → Int32} {ms : Nat → Int32} {mt : Nat → Int32} {kept : Nat} {np : Nat} {cl : Nat} {cf : Nat → Int32} {tn : Nat} {tf : Nat → Int32} {dl : Nat} {df : Nat → Int32} {sdf : Nat → Int32} {cnf : Nat → Int32} {cbf : Nat → Int32} {mkf : Nat → Int32} {num : Nat → Int32} {rep : Nat → Int64} {kf : Nat → Nat → Int32} {uto : Nat → Int32} {ufi : Nat → Int32} {use : Nat → Int32} {sop : Nat → Int32} {sow : Nat → Int32} {sid : Nat → Int64} {sbe : Nat → Int64} {sla : Nat → Int64} {mfa : Int32} {mmz : Nat} {msz : Nat} {msd : Int64} {mbg : Int64} {mka : Int32} {mta : Nat → Int32} {mwd : Nat → Int32} {mms : Nat → Int32} {mhs : Nat → Int32} {mke : Nat → Int32} {msa : Nat → Int32} {mkn : Nat → Int32} {mkb : Nat → Int32} {mku : Nat → Int64} {mit : Nat → Int32} {msi : Nat → Int32} {mtx : Nat → Int32} {mra : Nat → Int32} {fo : Nat → Int64}
theorem iv_mk {o : Int64} (ho : fo 0 = o) (hR : Rel n kept np num rep kf mkn mku mkb sop mit cl cf tn tf msi mtx sdf bgn msd mbg dl sow) : Iv g ad ka kb ua sa md oa n mfa o (mX g md mfa mmz msz now gr mo re msd mbg kept lin rfd rnd mka mta mwd mms mhs mke msa mkn mkb mku uto ufi use mit sow sid sbe sla msi mtx mra ++ ([(oa, jA g 1 fo)] ++ (gX g ad ka ua sa now gr mo re bgn lin rfd rnd mB mb ms mt kept np cl cf tn tf dl df sdf cnf cbf mkf ++ (tl 4 ka (kE kb num rep) ++ (tl 4 kb (bE g kf) ++ (tl 8 ua (uE uto ufi use) ++ (tl 8 sa (sE sop sow sid sbe sla) ++ []))))))) := ⟨now, gr, mo, re, bgn, lin, rfd, rnd, mB, mb, ms, mt, kept, np, cl, cf, tn, tf, dl, df, sdf, cnf, cbf, mkf, num, rep, kf, uto, ufi, use, sop, sow, sid, sbe, sla, mmz, msz, msd, mbg, mka, mta, mwd, mms, mhs, mke, msa, mkn, mkb, mku, mit, msi, mtx, mra, fo, rfl, ho, hR⟩
theorem fin_mk {v : Int32} {b : Int64} (hv : v = mfa) (ho : v = nI 0 → fo 0 = b) (hR : Rel n kept np num rep kf mkn mku mkb sop mit cl cf tn tf msi mtx sdf bgn msd mbg dl sow) : Fin g ad ka kb ua sa md oa n v b (mX g md mfa mmz msz now gr mo re msd mbg kept lin rfd rnd mka mta mwd mms mhs mke msa mkn mkb mku uto ufi use mit sow sid sbe sla msi mtx mra ++ ([(oa, jA g 1 fo)] ++ (gX g ad ka ua sa now gr mo re bgn lin rfd rnd mB mb ms mt kept np cl cf tn tf dl df sdf cnf cbf mkf ++ (tl 4 ka (kE kb num rep) ++ (tl 4 kb (bE g kf) ++ (tl 8 ua (uE uto ufi use) ++ (tl 8 sa (sE sop sow sid sbe sla) ++ []))))))) := ⟨mfa, fo 0, iv_mk rfl hR, hv, ho⟩
theorem IAE_ISE : ¬ ("java/lang/IllegalArgumentException" = "java/lang/IllegalStateException") := by decide
theorem IAE_IOO : ¬ ("java/lang/IllegalArgumentException" = "java/lang/IndexOutOfBoundsException") := by decide
theorem ISE_IAE : ¬ ("java/lang/IllegalStateException" = "java/lang/IllegalArgumentException") := by decide
theorem IOO_IAE : ¬ ("java/lang/IndexOutOfBoundsException" = "java/lang/IllegalArgumentException") := by decide
theorem IOO_ISE : ¬ ("java/lang/IndexOutOfBoundsException" = "java/lang/IllegalStateException") := by decide
theorem ISE_IOO : ¬ ("java/lang/IllegalStateException" = "java/lang/IndexOutOfBoundsException") := by decide
set_option maxHeartbeats 4000000 in
theorem st_seed {x : Int64}  {u : Unit} {u2 : Unit} (hR : Rel n kept np num rep kf mkn mku mkb sop mit cl cf tn tf msi mtx sdf bgn msd mbg dl sow) (hn : n < 600)  (h1 : (fun (u : Unit) => True) u) (h2 : (fun (u : Unit) => True) u2) : ∃ th o, Iv g ad ka kb ua sa md oa (n + 1) th o ((mX g md (nI 0) mmz msz now gr mo re x 0 kept lin rfd rnd mka mta mwd mms mhs mke msa mkn mkb mku uto ufi use mit sow sid sbe sla msi mtx mra) ++ ([(oa, jA g 1 fo)] ++ (gX g ad ka ua sa now gr mo re (nI 0) lin rfd rnd mB mb ms mt kept np cl cf tn tf dl df (wlF x 0 sdf 8) cnf cbf mkf ++ (tl 4 ka (kE kb num rep) ++ (tl 4 kb (bE g kf) ++ (tl 8 ua (uE uto ufi use) ++ (tl 8 sa (sE sop sow sid sbe sla) ++ []))))))) := by
  obtain ⟨hK, hS, hT, hB, hd, hO⟩ := hR
  refine ⟨nI 0, fo 0, iv_mk rfl ⟨hK, hS, hT, ⟨fun j hj => ?_, 0, by omega, rfl, rfl⟩, hd, hO⟩⟩
  rw [wlF_get, if_pos (by omega)]
  rfl
set_option maxHeartbeats 4000000 in
theorem st_pass {x : Int64} {v : Int32} {u : Option (Unit) × (Nat → Int64)} {v2 : Int64} {u2 : Int32 × Int64} (hR : Rel n kept np num rep kf mkn mku mkb sop mit cl cf tn tf msi mtx sdf bgn msd mbg dl sow) (hn : n < 600)  (h1 : wrP (fun (v : Int64) (u : Unit) => ¬ (x < 1 ∨ 10000000000 < x) ∧ v = now + x) (fun E => E = "java/lang/IllegalArgumentException" ∧ (x < 1 ∨ 10000000000 < x)) fo v u) (h2 : (fun (v : Int64) (u : Int32 × Int64) => (¬ inI x 1 10000000000 = 0 ∧ v = now + x ∧ u = (nI 0, now + x)) ∨ (inI x 1 10000000000 = 0 ∧ u = (nI 1, now))) v2 u2) : Fin g ad ka kb ua sa md oa (n + 1) v (v2) ((mX g md u2.1 mmz msz u2.2 gr mo re msd mbg kept lin rfd rnd mka mta mwd mms mhs mke msa mkn mkb mku uto ufi use mit sow sid sbe sla msi mtx mra) ++ wrW g oa (gX g ad ka ua sa now gr mo re bgn lin rfd rnd mB mb ms mt kept np cl cf tn tf dl df sdf cnf cbf mkf ++ (tl 4 ka (kE kb num rep) ++ (tl 4 kb (bE g kf) ++ (tl 8 ua (uE uto ufi use) ++ (tl 8 sa (sE sop sow sid sbe sla) ++ []))))) (fun (u : Unit) => (gX g ad ka ua sa (now + x) gr mo re bgn lin rfd rnd mB mb ms mt kept np cl cf tn tf dl df sdf cnf cbf mkf ++ (tl 4 ka (kE kb num rep) ++ (tl 4 kb (bE g kf) ++ (tl 8 ua (uE uto ufi use) ++ (tl 8 sa (sE sop sow sid sbe sla) ++ [])))))) u) := by
  obtain ⟨hK, hS, hT, hB, hd, hO⟩ := hR
  obtain ⟨w, f⟩ := u
  obtain ⟨t, nw⟩ := u2
  cases w with
  | some w =>
    show Fin g ad ka kb ua sa md oa (n + 1) v (v2) ((mX g md t mmz msz nw gr mo re msd mbg kept lin rfd rnd mka mta mwd mms mhs mke msa mkn mkb mku uto ufi use mit sow sid sbe sla msi mtx mra) ++ ([(oa, jA g 1 f)] ++ ((gX g ad ka ua sa (now + x) gr mo re bgn lin rfd rnd mB mb ms mt kept np cl cf tn tf dl df sdf cnf cbf mkf ++ (tl 4 ka (kE kb num rep) ++ (tl 4 kb (bE g kf) ++ (tl 8 ua (uE uto ufi use) ++ (tl 8 sa (sE sop sow sid sbe sla) ++ []))))))))
    obtain ⟨rfl, r, ⟨c1, rfl⟩, hf⟩ := h1
    obtain rfl : f = _ := hf
    rcases h2 with ⟨-, rfl, h⟩ | ⟨h, -⟩
    · obtain ⟨rfl, rfl⟩ := Prod.mk.inj h
      exact fin_mk rfl (fun _ => updL_s _ _ _) ⟨hK, hS, hT, BR_s hB, hd, hO⟩
    · exact absurd (pass_iff.mp h) c1
  | none =>
    show Fin g ad ka kb ua sa md oa (n + 1) v (v2) ((mX g md t mmz msz nw gr mo re msd mbg kept lin rfd rnd mka mta mwd mms mhs mke msa mkn mkb mku uto ufi use mit sow sid sbe sla msi mtx mra) ++ ([(oa, jA g 1 f)] ++ (gX g ad ka ua sa now gr mo re bgn lin rfd rnd mB mb ms mt kept np cl cf tn tf dl df sdf cnf cbf mkf ++ (tl 4 ka (kE kb num rep) ++ (tl 4 kb (bE g kf) ++ (tl 8 ua (uE uto ufi use) ++ (tl 8 sa (sE sop sow sid sbe sla) ++ [])))))))
    obtain ⟨hf, hx⟩ := h1
    obtain rfl : f = fo := hf
    rcases hx with ⟨rfl, -, hx⟩ | ⟨-, ⟨q, -⟩ | ⟨q, -⟩⟩
    · rcases h2 with ⟨h, -⟩ | ⟨-, h⟩
      · exact absurd (pass_iff.mpr hx) h
      · obtain ⟨rfl, rfl⟩ := Prod.mk.inj h
        exact fin_mk rfl (fun q => absurd q (by decide)) ⟨hK, hS, hT, BR_s hB, hd, hO⟩
    · exact absurd q ISE_IAE
    · exact absurd q IOO_IAE
set_option maxHeartbeats 4000000 in
theorem st_limits {x y z : Int64} {v : Int32} {u : Option (Unit)}  {u2 : Int32 × Int64 × Int64 × Int64} (hR : Rel n kept np num rep kf mkn mku mkb sop mit cl cf tn tf msi mtx sdf bgn msd mbg dl sow) (hn : n < 600)  (h1 : wrP0 (fun (u : Unit) => ¬ (limI x = 0 ∨ limI y = 0 ∨ limI z = 0)) (fun E => E = "java/lang/IllegalArgumentException" ∧ (limI x = 0 ∨ limI y = 0 ∨ limI z = 0)) v u) (h2 : (fun (u : Int32 × Int64 × Int64 × Int64) => (¬ inI x 1 1000000000000 = 0 ∧ ¬ inI y 1 1000000000000 = 0 ∧ ¬ inI z 1 1000000000000 = 0 ∧ u = (nI 0, x, y, z)) ∨ ((inI x 1 1000000000000 = 0 ∨ inI y 1 1000000000000 = 0 ∨ inI z 1 1000000000000 = 0) ∧ u = (nI 1, gr, mo, re))) u2) : ∃ th o, Iv g ad ka kb ua sa md oa (n + 1) th o ((mX g md u2.1 mmz msz now u2.2.1 u2.2.2.1 u2.2.2.2 msd mbg kept lin rfd rnd mka mta mwd mms mhs mke msa mkn mkb mku uto ufi use mit sow sid sbe sla msi mtx mra) ++ ([(oa, jA g 1 fo)] ++ wrW0 (gX g ad ka ua sa now gr mo re bgn lin rfd rnd mB mb ms mt kept np cl cf tn tf dl df sdf cnf cbf mkf ++ (tl 4 ka (kE kb num rep) ++ (tl 4 kb (bE g kf) ++ (tl 8 ua (uE uto ufi use) ++ (tl 8 sa (sE sop sow sid sbe sla) ++ []))))) (fun (u : Unit) => (gX g ad ka ua sa now x y z bgn lin rfd rnd mB mb ms mt kept np cl cf tn tf dl df sdf cnf cbf mkf ++ (tl 4 ka (kE kb num rep) ++ (tl 4 kb (bE g kf) ++ (tl 8 ua (uE uto ufi use) ++ (tl 8 sa (sE sop sow sid sbe sla) ++ [])))))) u)) ∧ v = th := by
  obtain ⟨hK, hS, hT, hB, hd, hO⟩ := hR
  obtain ⟨t, a, b, c⟩ := u2
  have e : ∀ x : Int64, limI x = inI x 1 1000000000000 := fun _ => rfl
  cases u with
  | some w =>
    show ∃ th o, Iv g ad ka kb ua sa md oa (n + 1) th o ((mX g md t mmz msz now a b c msd mbg kept lin rfd rnd mka mta mwd mms mhs mke msa mkn mkb mku uto ufi use mit sow sid sbe sla msi mtx mra) ++ ([(oa, jA g 1 fo)] ++ ((gX g ad ka ua sa now x y z bgn lin rfd rnd mB mb ms mt kept np cl cf tn tf dl df sdf cnf cbf mkf ++ (tl 4 ka (kE kb num rep) ++ (tl 4 kb (bE g kf) ++ (tl 8 ua (uE uto ufi use) ++ (tl 8 sa (sE sop sow sid sbe sla) ++ [])))))))) ∧ v = th
    obtain ⟨rfl, c1⟩ := h1
    rcases h2 with ⟨-, -, -, h⟩ | ⟨h, -⟩
    · obtain ⟨rfl, h5⟩ := Prod.mk.inj h
      obtain ⟨rfl, h6⟩ := Prod.mk.inj h5
      obtain ⟨rfl, rfl⟩ := Prod.mk.inj h6
      exact ⟨nI 0, fo 0, iv_mk rfl ⟨hK, hS, hT, BR_s hB, hd, hO⟩, rfl⟩
    · exact absurd h (by rw [← e, ← e, ← e]; exact c1)
  | none =>
    show ∃ th o, Iv g ad ka kb ua sa md oa (n + 1) th o ((mX g md t mmz msz now a b c msd mbg kept lin rfd rnd mka mta mwd mms mhs mke msa mkn mkb mku uto ufi use mit sow sid sbe sla msi mtx mra) ++ ([(oa, jA g 1 fo)] ++ (gX g ad ka ua sa now gr mo re bgn lin rfd rnd mB mb ms mt kept np cl cf tn tf dl df sdf cnf cbf mkf ++ (tl 4 ka (kE kb num rep) ++ (tl 4 kb (bE g kf) ++ (tl 8 ua (uE uto ufi use) ++ (tl 8 sa (sE sop sow sid sbe sla) ++ []))))))) ∧ v = th
    obtain ⟨rfl, -, hx⟩ := h1
    rcases h2 with ⟨h1, h2, h3, -⟩ | ⟨-, h⟩
    · rw [e, e, e] at hx
      rcases hx with hx | hx | hx
      · exact absurd hx h1
      · exact absurd hx h2
      · exact absurd hx h3
    · obtain ⟨rfl, h5⟩ := Prod.mk.inj h
      obtain ⟨rfl, h6⟩ := Prod.mk.inj h5
      obtain ⟨rfl, rfl⟩ := Prod.mk.inj h6
      exact ⟨nI 1, fo 0, iv_mk rfl ⟨hK, hS, hT, BR_s hB, hd, hO⟩, rfl⟩
set_option maxHeartbeats 4000000 in
theorem st_change {pa pb pc pd : Int32} {a0 : Nat} {v v2 : Int32} {u : Nat} {u2 : Nat × (Nat → Int32) × (Nat → Int64) × (Nat → Int32)} (hR : Rel n kept np num rep kf mkn mku mkb sop mit cl cf tn tf msi mtx sdf bgn msd mbg dl sow) (hn : n < 600) (ha0 : a0 < 256) (hkn : mkn (kept - 1) = nI a0) (h1 : (fun (v : Int32) (u : Nat) => v = ((num np + nI 1) &&& nI 255) ∧ u = if kept < 4 then kept + 1 else kept) v u) (h2 : (fun (v : Int32) (u : Nat × (Nat → Int32) × (Nat → Int64) × (Nat → Int32)) => v = nI ((a0 + 1) % 256) ∧ ∃ z, ((z = 0 ∧ kept < 4 ∧ u.1 = kept + 1) ∨ (z = 1 ∧ kept = 4 ∧ u.1 = 4)) ∧ ∀ t, t < u.1 → (u.2.1 t = (upd mkn kept (nI ((a0 + 1) % 256))) (t + z) ∧ u.2.2.1 t = (vp_updL mku (kept - 1) now) (t + z) ∧ ∀ i, i < 16 → k16 u.2.2.2 t i = k16 (chF pa pb pc pd kept mkb 16) (t + z) i)) v2 u2) : v = v2 ∧ ∃ th o, Iv g ad ka kb ua sa md oa (n + 1) th o ((mX g md (nI 0) mmz msz now gr mo re msd mbg u2.1 lin rfd rnd mka mta mwd mms mhs mke msa u2.2.1 u2.2.2.2 u2.2.2.1 uto ufi use mit sow sid sbe sla msi mtx mra) ++ ([(oa, jA g 1 fo)] ++ (gX g ad ka ua sa now gr mo re bgn lin rfd rnd mB mb ms mt u ((np + 1) % 4) cl cf tn tf dl df sdf cnf cbf mkf ++ (tl 4 ka (kE kb (upd num ((np + 1) % 4) ((num np + nI 1) &&& nI 255)) (vp_updL rep np now)) ++ (tl 4 kb (bE g (va_up kf ((np + 1) % 4) (flK pa pb pc pd (kf ((np + 1) % 4)) 4))) ++ (tl 8 ua (uE uto ufi use) ++ (tl 8 sa (sE sop sow sid sbe sla) ++ []))))))) := by
  obtain ⟨hK, hS, hT, hB, hd, hO⟩ := hR
  obtain ⟨rfl, hu⟩ := h1
  obtain ⟨y1, y2, y3, y4⟩ := u2
  obtain ⟨rfl, z, hz, ht⟩ := h2
  obtain ⟨e1, e2, e3⟩ := kr_change hK ha0 hkn hu hz ht
  have e1 : u = y1 := e1
  subst e1
  exact ⟨e2, nI 0, fo 0, iv_mk rfl ⟨e3, hS, hT, BR_s hB, hd, hO⟩⟩
set_option maxHeartbeats 4000000 in
theorem st_user {x a b : Int32} {v : Int32} {u : Option ((Nat → Int32) × (Nat → Int32) × (Nat → Int32))}  {u2 : Int32 × (Nat → Int32) × (Nat → Int32) × (Nat → Int32)} (hR : Rel n kept np num rep kf mkn mku mkb sop mit cl cf tn tf msi mtx sdf bgn msd mbg dl sow) (hn : n < 600)  (h1 : wrP0 (fun (u : (Nat → Int32) × (Nat → Int32) × (Nat → Int32)) => ¬ usI x = 0 ∧ ∃ k, k < 8 ∧ x = nI k ∧ u.1 = upd uto k (nI 1) ∧ u.2.1 = upd ufi k a ∧ u.2.2 = upd use k b) (fun E => E = "java/lang/IllegalArgumentException" ∧ usI x = 0) v u) (h2 : (fun (u : Int32 × (Nat → Int32) × (Nat → Int32) × (Nat → Int32)) => (∃ k, k < 8 ∧ x = nI k ∧ u = (nI 0, upd uto k (nI 1), upd ufi k a, upd use k b)) ∨ ((∀ k, k < 8 → ¬ x = nI k) ∧ u = (nI 1, uto, ufi, use))) u2) : ∃ th o, Iv g ad ka kb ua sa md oa (n + 1) th o ((mX g md u2.1 mmz msz now gr mo re msd mbg kept lin rfd rnd mka mta mwd mms mhs mke msa mkn mkb mku u2.2.1 u2.2.2.1 u2.2.2.2 mit sow sid sbe sla msi mtx mra) ++ ([(oa, jA g 1 fo)] ++ wrW0 (gX g ad ka ua sa now gr mo re bgn lin rfd rnd mB mb ms mt kept np cl cf tn tf dl df sdf cnf cbf mkf ++ (tl 4 ka (kE kb num rep) ++ (tl 4 kb (bE g kf) ++ (tl 8 ua (uE uto ufi use) ++ (tl 8 sa (sE sop sow sid sbe sla) ++ []))))) (fun (u : (Nat → Int32) × (Nat → Int32) × (Nat → Int32)) => (gX g ad ka ua sa now gr mo re bgn lin rfd rnd mB mb ms mt kept np cl cf tn tf dl df sdf cnf cbf mkf ++ (tl 4 ka (kE kb num rep) ++ (tl 4 kb (bE g kf) ++ (tl 8 ua (uE u.1 u.2.1 u.2.2) ++ (tl 8 sa (sE sop sow sid sbe sla) ++ [])))))) u)) ∧ v = th := by
  obtain ⟨hK, hS, hT, hB, hd, hO⟩ := hR
  obtain ⟨t, m1, m2, m3⟩ := u2
  cases u with
  | some w =>
    obtain ⟨w1, w2, w3⟩ := w
    show ∃ th o, Iv g ad ka kb ua sa md oa (n + 1) th o ((mX g md t mmz msz now gr mo re msd mbg kept lin rfd rnd mka mta mwd mms mhs mke msa mkn mkb mku m1 m2 m3 mit sow sid sbe sla msi mtx mra) ++ ([(oa, jA g 1 fo)] ++ ((gX g ad ka ua sa now gr mo re bgn lin rfd rnd mB mb ms mt kept np cl cf tn tf dl df sdf cnf cbf mkf ++ (tl 4 ka (kE kb num rep) ++ (tl 4 kb (bE g kf) ++ (tl 8 ua (uE w1 w2 w3) ++ (tl 8 sa (sE sop sow sid sbe sla) ++ [])))))))) ∧ v = th
    obtain ⟨rfl, hu, k, hk, rfl, h3, h4, h5⟩ := h1
    dsimp only at h3 h4 h5
    subst h3 h4 h5
    rcases h2 with ⟨k', hk', ek, h⟩ | ⟨h, -⟩
    · obtain rfl : k = k' := nI_i (by omega) (by omega) ek
      obtain ⟨rfl, h5⟩ := Prod.mk.inj h
      obtain ⟨rfl, h6⟩ := Prod.mk.inj h5
      obtain ⟨rfl, rfl⟩ := Prod.mk.inj h6
      exact ⟨nI 0, fo 0, iv_mk rfl ⟨hK, hS, hT, BR_s hB, hd, hO⟩, rfl⟩
    · exact absurd rfl (h k hk)
  | none =>
    show ∃ th o, Iv g ad ka kb ua sa md oa (n + 1) th o ((mX g md t mmz msz now gr mo re msd mbg kept lin rfd rnd mka mta mwd mms mhs mke msa mkn mkb mku m1 m2 m3 mit sow sid sbe sla msi mtx mra) ++ ([(oa, jA g 1 fo)] ++ (gX g ad ka ua sa now gr mo re bgn lin rfd rnd mB mb ms mt kept np cl cf tn tf dl df sdf cnf cbf mkf ++ (tl 4 ka (kE kb num rep) ++ (tl 4 kb (bE g kf) ++ (tl 8 ua (uE uto ufi use) ++ (tl 8 sa (sE sop sow sid sbe sla) ++ []))))))) ∧ v = th
    obtain ⟨rfl, -, hx⟩ := h1
    rcases h2 with ⟨k', hk', ek, -⟩ | ⟨-, h⟩
    · exact absurd ek (us_iff.mp hx k' hk')
    · obtain ⟨rfl, h5⟩ := Prod.mk.inj h
      obtain ⟨rfl, h6⟩ := Prod.mk.inj h5
      obtain ⟨rfl, rfl⟩ := Prod.mk.inj h6
      exact ⟨nI 1, fo 0, iv_mk rfl ⟨hK, hS, hT, BR_s hB, hd, hO⟩, rfl⟩
end ST
