theorem x15 (x : Int32) : ∃ k, k < 16 ∧ x &&& nI 15 = nI k := by
  refine ⟨(x &&& nI 15).toBitVec.toNat, ?_, (n_of _).symm⟩
  rw [Int32.toBitVec_and, BitVec.toNat_and]
  exact Nat.lt_of_le_of_lt Nat.and_le_right (by decide)
theorem le7 {i L : Nat} (hL : L ≤ 3584) (hi : i ≤ 4000) : nI L - nI 7 < nI i ↔ L < i + 7 := by
  rw [Int32.lt_iff_toInt_lt, pk_sub_toInt (by omega) (by omega), nI_toInt (by omega)]
  omega
section LW
variable {p : Program} {l : Launch} {e : Env} {s : State} {m : MethodId} {below : List Frame} {meth : Method} {c : Code} {g : GG} {ad ka kb ua sa md : Nat → Nat} {oa b L : Nat} {xs : Nat → Int32}
set_option maxHeartbeats 4000000 in
set_option maxRecDepth 100000 in
/-- THE LAW'S LOOP -/
theorem law_loop (F : CallFix p m c cL_law 8 s #[Value.ref b] BIG RL) (hX : va_X b L xs s s.heap) (hbl : b < s.heap.size) (hL : L ≤ 3584) (hst : l.stackTraces = false) (hr : meth.sig.returnType = ret) (hlocks : meth.locks = false) :
    ∀ (nn n i cells slots : Nat), i = 7 * n → i ≤ 3584 → 600 ≤ n + nn → cells = 100 + n → slots = 1500 + 6 * n → ∀ (th : Int32) (o : Int64) (Wo : va_W) (H : Heap) (locs : List Loc) (ls : Array Slot), Iv g ad ka kb ua sa md oa n th o Wo → Wd g s (fun q : Nat => s.heap.size ≤ q) H locs Wo → lv_has ls 8 [(0, .ref b), (1, .ref (ad 0)), (2, .ref (md 0)), (3, .ref oa), (4, .int (nI i))] → W p l e room_1 s m #[Value.ref b] below meth c H locs cells slots (lw_Z below #[Value.ref b] s) (F0 m 23 ls []) := by
  have hx := F.1
  have hb := F.2.1
  intro nn
  induction nn with
  | zero => intro n i cells slots h1 h2 h3; exact absurd h3 (by omega)
  | succ nn ih =>
    intro n i cells slots ei hi hnn ec es th o Wo H locs ls hI hw hl
    obtain ⟨now, gr, mo, re, bgn, lin, rfd, rnd, mB, mb, ms, mt, kept, np, cl, cf, tn, tf, dl, df, sdf, cnf, cbf, mkf, num, rep, kf, uto, ufi, use, sop, sow, sid, sbe, sla, mmz, msz, msd, mbg, mka, mta, mwd, mms, mhs, mke, msa, mkn, mkb, mku, mit, msi, mtx, mra, fo, hw, ho, hR⟩ := iv_wd hI hw
    have hcs : cells + 1 ≤ room_1.cells ∧ slots + 6 ≤ room_1.slots := ⟨show cells + 1 ≤ 601024 by omega, show slots + 6 ≤ 7293034 by omega⟩
    refine lv_iload hx hb dL_law_23 (lv_at hl 4 rfl) ?_
    refine lv_aload_n hx hb dL_law_25 rfl (lv_at hl 0 rfl) ?_
    refine va_slen hx hb hX hbl (Nat.not_le.mpr hbl) hw.2.2.2.1 dL_law_26 ?_
    refine lv_bipush (v := nI 7) hx hb dL_law_27 (by decide) ?_
    refine lv_isub hx hb dL_law_29 ?_
    refine lv_icmp_gt (tgt := 1224) hx hb dL_law_30 (by decide) (fun c_30 => ?_) (fun c_30 => ?_)
    · refine lv_iconst (v := 1) hx hb dL_law_1224 (by decide) ?_
      refine va_forget (fun q hq => hw.2.2.2.1.2.2 q hq) ?_
      refine W.widen (k := 601024) (n := 7293034) (by omega) (by omega) ?_
      exact lw_ret hx hb hr hlocks dL_law_1225
    · have h7 : i + 7 ≤ L := Nat.le_of_not_lt (fun q => c_30 ((le7 hL (by omega)).mpr q))
      have K : ∀ (th : Int32) (o : Int64) (Wo : va_W) (H : Heap) (locs : List Loc) (ls : Array Slot), Iv g ad ka kb ua sa md oa (n + 1) th o Wo → Wd g s (fun q : Nat => s.heap.size ≤ q) H locs Wo → lv_has ls 8 [(0, .ref b), (1, .ref (ad 0)), (2, .ref (md 0)), (3, .ref oa), (4, .int (nI i))] → W p l e room_1 s m #[Value.ref b] below meth c H locs (cells + 1) (slots + 6) (lw_Z below #[Value.ref b] s) (F0 m 1218 ls []) := by
        intro th o Wo H locs ls hI hw hl
        refine lv_iinc (v := nI (i + 7)) (lv' := [(4, .int (nI (i + 7))), (0, .ref b), (1, .ref (ad 0)), (2, .ref (md 0)), (3, .ref oa)]) hx hb dL_law_1218 hl (k := 4) rfl (inc_n _ 7) (by decide) rfl (fun ls hl => ?_)
        refine lv_goto (tgt := 23) hx hb dL_law_1221 (by decide) ?_
        exact ih (n + 1) (i + 7) (cells + 1) (slots + 6) (by omega) (by omega) (by omega) (by omega) (by omega) th o Wo H locs ls hI hw (lv_sub hl [1, 2, 3, 4, 0] rfl)
      refine lv_aload_n hx hb dL_law_33 rfl (lv_at hl 0 rfl) ?_
      refine lv_iload hx hb dL_law_34 (lv_at hl 4 rfl) ?_
      refine sc_ld F hX hbl hw (show i < L by omega) hL dL_law_36 ?_
      refine lv_bipush (v := nI 15) hx hb dL_law_37 (by decide) ?_
      refine lv_iand hx hb dL_law_39 ?_
      obtain ⟨k, hk, ek⟩ := x15 (xs i)
      rw [ek]
      have hc : k = 0 ∨ k = 1 ∨ k = 2 ∨ k = 3 ∨ k = 4 ∨ k = 5 ∨ k = 6 ∨ k = 7 ∨ k = 8 ∨ k = 9 ∨ k = 10 ∨ k = 11 ∨ k = 12 ∨ k = 13 ∨ k = 14 ∨ k = 15 := by omega
      rcases hc with rfl | rfl | rfl | rfl | rfl | rfl | rfl | rfl | rfl | rfl | rfl | rfl | rfl | rfl | rfl | rfl
      · refine lv_tableIn (tgt := 120) (off := 80) hx hb dL_law_40 (by decide) (by decide) (by decide) (by decide) ?_
        exact law_seed F hX hbl hL h7 (by omega) hst hcs K hw hR hl
      · refine lv_tableIn (tgt := 175) (off := 135) hx hb dL_law_40 (by decide) (by decide) (by decide) (by decide) ?_
        exact law_pass F hX hbl hL h7 (by omega) hst hcs K hw hR hl
      · refine lv_tableIn (tgt := 262) (off := 222) hx hb dL_law_40 (by decide) (by decide) (by decide) (by decide) ?_
        exact law_limits F hX hbl hL h7 (by omega) hst hcs K hw hR hl
      · refine lv_tableIn (tgt := 420) (off := 380) hx hb dL_law_40 (by decide) (by decide) (by decide) (by decide) ?_
        exact law_change F hX hbl hL h7 (by omega) hst hcs K hw hR hl
      · refine lv_tableIn (tgt := 481) (off := 441) hx hb dL_law_40 (by decide) (by decide) (by decide) (by decide) ?_
        exact law_user F hX hbl hL h7 (by omega) hst hcs K hw hR hl
      · refine lv_tableIn (tgt := 541) (off := 501) hx hb dL_law_40 (by decide) (by decide) (by decide) (by decide) ?_
        exact law_login F hX hbl hL h7 (by omega) hst hcs K hw hR hl
      · refine lv_tableIn (tgt := 621) (off := 581) hx hb dL_law_40 (by decide) (by decide) (by decide) (by decide) ?_
        exact law_request F hX hbl hL h7 (by omega) hst hcs K hw hR hl
      · refine lv_tableIn (tgt := 662) (off := 622) hx hb dL_law_40 (by decide) (by decide) (by decide) (by decide) ?_
        exact law_logout F hX hbl hL h7 (by omega) hst hcs K hw hR hl
      · refine lv_tableIn (tgt := 675) (off := 635) hx hb dL_law_40 (by decide) (by decide) (by decide) (by decide) ?_
        exact law_revoke F hX hbl hL h7 (by omega) hst hcs K hw hR hl
      · refine lv_tableIn (tgt := 731) (off := 691) hx hb dL_law_40 (by decide) (by decide) (by decide) (by decide) ?_
        exact law_type F hX hbl hL h7 (by omega) hst hcs K hw hR hl
      · refine lv_tableIn (tgt := 835) (off := 795) hx hb dL_law_40 (by decide) (by decide) (by decide) (by decide) ?_
        exact law_erase F hX hbl hL h7 (by omega) hst hcs K hw hR hl
      · refine lv_tableIn (tgt := 891) (off := 851) hx hb dL_law_40 (by decide) (by decide) (by decide) (by decide) ?_
        exact law_put F hX hbl hL h7 (by omega) hst hcs K hw hR hl
      · refine lv_tableIn (tgt := 971) (off := 931) hx hb dL_law_40 (by decide) (by decide) (by decide) (by decide) ?_
        exact law_sign F hX hbl hL h7 (by omega) hst hcs K hw hR hl
      · refine lv_tableIn (tgt := 1039) (off := 999) hx hb dL_law_40 (by decide) (by decide) (by decide) (by decide) ?_
        exact law_session F hX hbl hL h7 (by omega) hst hcs K hw hR hl
      · refine lv_tableIn (tgt := 1106) (off := 1066) hx hb dL_law_40 (by decide) (by decide) (by decide) (by decide) ?_
        exact law_count F hX hbl hL h7 (by omega) hst hcs K hw hR hl
      · refine lv_tableIn (tgt := 1162) (off := 1122) hx hb dL_law_40 (by decide) (by decide) (by decide) (by decide) ?_
        exact law_octet F hX hbl hL h7 (by omega) hst hcs K hw hR hl
end LW
