theorem z0 : (0 : Int32).toBitVec.toNat < 256 := by decide
theorem byL0 : ∀ j, j < 8 → (0 : Int32) = byL 0 j := by decide +kernel
theorem rel0 : Rel 0 1 0 (fun _ => 0) (fun _ => 0) (fun _ _ => 0) (fun _ => 0) (fun _ => 0) (fun _ => 0) (fun _ => 0) (fun _ => 0) 0 (fun _ => 0) 0 (fun _ => 0) (fun _ => 0) (fun _ => 0) (fun _ => 0) (nI 0) 0 0 0 (fun _ => 0) := by
  refine ⟨⟨by omega, by omega, by omega, fun _ => rfl, 0, by omega, fun t ht => ?_⟩, fun k _ => Iff.rfl, ⟨by omega, by omega, fun i _ => z0, fun i _ => z0, rfl, rfl, fun j h => absurd h (by omega), fun j h => absurd h (by omega)⟩, ⟨fun j hj => byL0 j hj, 0, by omega, rfl, rfl⟩, by omega, fun k _ => z0⟩
  obtain rfl : t = 0 := by omega
  exact ⟨by decide, rfl, fun h => absurd h (by omega), fun i hi => rfl⟩
set_option maxHeartbeats 4000000 in
set_option maxRecDepth 100000 in
/-- THE LAW, from its entry -/
theorem whole_start {p : Program} {e : Env} {s : State} {m : MethodId} {below : List Frame} {meth : Method} {c : Code} (l : Launch) (hst : l.stackTraces = false) {b L : Nat} {xs : Nat → Int32} (hL : L ≤ 3584) (C0 : lw_At p s m meth c b L xs) : W p l e room_1 s m #[Value.ref b] below meth c s.heap [] 0 0 (lw_Z below #[Value.ref b] s) (entryFrame m ([Value.ref b] : List Value).toArray 8) := by
  obtain ⟨hx, hb, hr, hml, hown, hts, hX, hbl, hlocks, hgv⟩ := id C0
  have hB : ∀ w ∈ BIG, w.before #[Value.ref b] s = true := fun w h => hts w (wsL_law_in w h)
  have F : CallFix p m c cL_law 8 s #[Value.ref b] BIG RL := ⟨hx, hb, hml, hown, hB⟩
  obtain ⟨g, hK, hE, hAO⟩ := given (fun w h => hts w (List.mem_append_right _ h)) hB hgv
  have hw : Wd g s (fun q : Nat => s.heap.size ≤ q) s.heap [] [] := ⟨hK, fun k q h => by simp at h, ⟨fun i j p q h => by simp at h, fun k q h => by simp at h⟩, va_S.rf, hE, fun _ h => h⟩
  have hl := lv_entry ([.ref b]) (n := 8) (Nat.le_of_ble_eq_true rfl)
  rw [lg_entry_eq]
  generalize (lg_sl ([.ref b]) ++ List.replicate (8 - (lg_sl ([.ref b])).length) Slot.unset).toArray = ls at hl ⊢
  have hl : lv_has ls 8 [(0, .ref b)] := hl
  refine new_L_8 F hw (show 0 + 1 ≤ 601024 by omega) (show 0 + 19 ≤ 7293034 by omega) dL_law_0 (fun q0 H h0w => ?_)
  have h1w : Wd g s (fun q : Nat => s.heap.size ≤ q) H [] [(q0, .inr (6, [.null, .null, .null, .null, .null, .null, .null, .null, .null, .null, .null, .long 0, .long 0, .long 0, .long 0, .int 0, .int 0, .int 0, .int 0]))] := h0w
  refine lv_dup hx hb dL_law_3 rfl ?_
  refine cl_N (wr := []) h1w [0] [] rfl rfl rfl (fun i h => absurd h List.not_mem_nil) (rn_I F h1w hAO (c_X7_init g l q0) (ci_L_59 hB ⟨by decide, by decide⟩) [0] (by decide) rfl hl.1 rfl (Nat.le_of_ble_eq_true rfl) dL_law_4 ⟨show 0 + 1 + 43 ≤ 601024 by omega, show 0 + 19 + 574 ≤ 7293034 by omega⟩) (fun u H locs hp h2w => ?_)
  clear h0w h1w
  obtain ⟨ad, ka, kb, ua, sa⟩ := u
  obtain rfl : ad 0 = q0 := hp
  have h3w : Wd g s (fun q : Nat => s.heap.size ≤ q) H locs (gX g ad ka ua sa 0 1000000 1000000 1000000 (nI 0) (nI 0) (nI 0) (nI 0) (fun _ => 0) (fun _ => 0) (fun _ => 0) (fun _ => 0) 1 0 0 (fun _ => 0) 0 (fun _ => 0) 0 (fun _ => 0) (fun _ => 0) (fun _ => 0) (fun _ => 0) (fun _ => 0) ++ (tl 4 ka (kE kb (fun _ => 0) (fun _ => 0)) ++ (tl 4 kb (bE g (fun _ _ => 0)) ++ (tl 8 ua (uE (fun _ => 0) (fun _ => 0) (fun _ => 0)) ++ (tl 8 sa (sE (fun _ => 0) (fun _ => 0) (fun _ => 0) (fun _ => 0) (fun _ => 0)) ++ []))))) := h2w
  refine lv_astore_n (lv' := [(1, .ref (ad 0)), (0, .ref b)]) hx hb dL_law_7 rfl hl (by decide) rfl (fun ls hl => ?_)
  refine new_L_60 F h3w (show 0 + 1 + 43 + 1 ≤ 601024 by omega) (show 0 + 19 + 574 + 36 ≤ 7293034 by omega) dL_law_8 (fun q1 H h4w => ?_)
  refine lv_dup hx hb dL_law_11 rfl ?_
  refine cl_N (wr := (gX g ad ka ua sa 0 1000000 1000000 1000000 (nI 0) (nI 0) (nI 0) (nI 0) (fun _ => 0) (fun _ => 0) (fun _ => 0) (fun _ => 0) 1 0 0 (fun _ => 0) 0 (fun _ => 0) 0 (fun _ => 0) (fun _ => 0) (fun _ => 0) (fun _ => 0) (fun _ => 0) ++ (tl 4 ka (kE kb (fun _ => 0) (fun _ => 0)) ++ (tl 4 kb (bE g (fun _ _ => 0)) ++ (tl 8 ua (uE (fun _ => 0) (fun _ => 0) (fun _ => 0)) ++ (tl 8 sa (sE (fun _ => 0) (fun _ => 0) (fun _ => 0) (fun _ => 0) (fun _ => 0)) ++ [])))))) h4w (psR (gX g ad ka ua sa 0 1000000 1000000 1000000 (nI 0) (nI 0) (nI 0) (nI 0) (fun _ => 0) (fun _ => 0) (fun _ => 0) (fun _ => 0) 1 0 0 (fun _ => 0) 0 (fun _ => 0) 0 (fun _ => 0) (fun _ => 0) (fun _ => 0) (fun _ => 0) (fun _ => 0) ++ (tl 4 ka (kE kb (fun _ => 0) (fun _ => 0)) ++ (tl 4 kb (bE g (fun _ _ => 0)) ++ (tl 8 ua (uE (fun _ => 0) (fun _ => 0) (fun _ => 0)) ++ (tl 8 sa (sE (fun _ => 0) (fun _ => 0) (fun _ => 0) (fun _ => 0) (fun _ => 0)) ++ []))))) [(q1, .inr (7, [.int 0, .null, .null, .null, .null, .null, .int 0, .null, .null, .null, .int 0, .long 0, .long 0, .long 0, .long 0, .long 0, .long 0, .int 0, .null, .null, .null, .null, .null, .null, .null, .null, .null, .null, .null, .null, .null, .null, .int 0, .int 0, .int 0, .int 0]))]) (List.range (gX g ad ka ua sa 0 1000000 1000000 1000000 (nI 0) (nI 0) (nI 0) (nI 0) (fun _ => 0) (fun _ => 0) (fun _ => 0) (fun _ => 0) 1 0 0 (fun _ => 0) 0 (fun _ => 0) 0 (fun _ => 0) (fun _ => 0) (fun _ => 0) (fun _ => 0) (fun _ => 0) ++ (tl 4 ka (kE kb (fun _ => 0) (fun _ => 0)) ++ (tl 4 kb (bE g (fun _ _ => 0)) ++ (tl 8 ua (uE (fun _ => 0) (fun _ => 0) (fun _ => 0)) ++ (tl 8 sa (sE (fun _ => 0) (fun _ => 0) (fun _ => 0) (fun _ => 0) (fun _ => 0)) ++ []))))).length) (ps_C _ _) (ps_R _ _) (nd_of _ List.nodup_range) (ps_dis _ _) (rn_I F h4w hAO (c_X8_init g l q1) (ci_L_62 hB ⟨by decide, by decide⟩) (psR (gX g ad ka ua sa 0 1000000 1000000 1000000 (nI 0) (nI 0) (nI 0) (nI 0) (fun _ => 0) (fun _ => 0) (fun _ => 0) (fun _ => 0) 1 0 0 (fun _ => 0) 0 (fun _ => 0) 0 (fun _ => 0) (fun _ => 0) (fun _ => 0) (fun _ => 0) (fun _ => 0) ++ (tl 4 ka (kE kb (fun _ => 0) (fun _ => 0)) ++ (tl 4 kb (bE g (fun _ _ => 0)) ++ (tl 8 ua (uE (fun _ => 0) (fun _ => 0) (fun _ => 0)) ++ (tl 8 sa (sE (fun _ => 0) (fun _ => 0) (fun _ => 0) (fun _ => 0) (fun _ => 0)) ++ []))))) [(q1, .inr (7, [.int 0, .null, .null, .null, .null, .null, .int 0, .null, .null, .null, .int 0, .long 0, .long 0, .long 0, .long 0, .long 0, .long 0, .int 0, .null, .null, .null, .null, .null, .null, .null, .null, .null, .null, .null, .null, .null, .null, .int 0, .int 0, .int 0, .int 0]))]) (ps_nd _ _) (ps_C _ _) hl.1 rfl (Nat.le_of_ble_eq_true rfl) dL_law_12 ⟨show 0 + 1 + 43 + 1 + 22 ≤ 601024 by omega, show 0 + 19 + 574 + 36 + 820 ≤ 7293034 by omega⟩) (fun md H locs hp h5w => ?_)
  clear h4w
  obtain rfl : md 0 = q1 := hp
  refine lv_astore_n (lv' := [(2, .ref (md 0)), (1, .ref (ad 0)), (0, .ref b)]) hx hb dL_law_15 rfl hl (by decide) rfl (fun ls hl => ?_)
  refine lv_iconst (v := nI 1) hx hb dL_law_16 (by decide) ?_
  refine nw_j F h5w (n := 1) (by omega) (by show 0 + 1 + 43 + 1 + 22 + 1 ≤ 601024; omega) (by show 0 + 19 + 574 + 36 + 820 + 1 ≤ 7293034; omega) dL_law_17 (fun oa H h6w => ?_)
  refine lv_astore_n (lv' := [(3, .ref oa), (2, .ref (md 0)), (1, .ref (ad 0)), (0, .ref b)]) hx hb dL_law_19 rfl hl (by decide) rfl (fun ls hl => ?_)
  refine lv_iconst (v := nI 0) hx hb dL_law_20 (by decide) ?_
  refine lv_istore (lv' := [(4, .int (nI 0)), (3, .ref oa), (2, .ref (md 0)), (1, .ref (ad 0)), (0, .ref b)]) hx hb dL_law_21 hl (by decide) rfl (fun ls hl => ?_)
  have hw2 := wd_sa (wd_swap (wd_sa h6w))
  have hI : Iv g ad ka kb ua sa md oa 0 (nI 0) 0 (mX g md (nI 0) 0 0 0 1000000 1000000 1000000 0 0 1 (nI 0) (nI 0) (nI 0) 0 (fun _ => 0) (fun _ => 0) (fun _ => 0) (fun _ => 0) (fun _ => 0) (fun _ => 0) (fun _ => 0) (fun _ => 0) (fun _ => 0) (fun _ => 0) (fun _ => 0) (fun _ => 0) (fun _ => 0) (fun _ => 0) (fun _ => 0) (fun _ => 0) (fun _ => 0) (fun _ => 0) (fun _ => 0) (fun _ => 0) ++ ([(oa, jA g 1 (fun _ => 0))] ++ (gX g ad ka ua sa 0 1000000 1000000 1000000 (nI 0) (nI 0) (nI 0) (nI 0) (fun _ => 0) (fun _ => 0) (fun _ => 0) (fun _ => 0) 1 0 0 (fun _ => 0) 0 (fun _ => 0) 0 (fun _ => 0) (fun _ => 0) (fun _ => 0) (fun _ => 0) (fun _ => 0) ++ (tl 4 ka (kE kb (fun _ => 0) (fun _ => 0)) ++ (tl 4 kb (bE g (fun _ _ => 0)) ++ (tl 8 ua (uE (fun _ => 0) (fun _ => 0) (fun _ => 0)) ++ (tl 8 sa (sE (fun _ => 0) (fun _ => 0) (fun _ => 0) (fun _ => 0) (fun _ => 0)) ++ []))))))) := iv_mk rfl rel0
  refine W.widen (k := 100) (n := 1500) (by omega) (by omega) ?_
  exact law_loop F hX hbl hL hst hr hlocks 600 0 0 100 1500 rfl (by omega) (by omega) rfl rfl (nI 0) 0 _ _ _ ls hI hw2 (lv_sub hl [4, 3, 2, 1, 0] rfl)
