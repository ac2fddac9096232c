section
-- ===== PART A: goes FIRST, ahead of the names: the tables' words, and 'selects' of the private methods out of them =====
/-- a private method of a class that the tables say can be made, by its rows of tables_1 -/
def lw_okq (q : MethodName × Nat) : Prop := (q.1.cls ≠ "java/lang/invoke/MethodHandle" ∧ q.1.cls ≠ "java/lang/invoke/VarHandle") ∧ Cond.instantiable q.1.cls q.2 ∈ tables_1 ∧ Cond.privateMethod q.1 ∈ tables_1 ∧ Cond.instanceMethod q.1 ∈ tables_1
theorem lw_p0 : lw_okq (⟨"SessionGate", "judge", "(Z)I"⟩, 19) := ⟨⟨by decide +kernel, by decide +kernel⟩, List.mem_of_getElem? (i := 24) (by decide +kernel), List.mem_of_getElem? (i := 241) (by decide +kernel), List.mem_of_getElem? (i := 242) (by decide +kernel)⟩
theorem lw_p1 : lw_okq (⟨"SessionGate$KeyRing", "isLive", "(IJJ)Z"⟩, 3) := ⟨⟨by decide +kernel, by decide +kernel⟩, List.mem_of_getElem? (i := 53) (by decide +kernel), List.mem_of_getElem? (i := 345) (by decide +kernel), List.mem_of_getElem? (i := 346) (by decide +kernel)⟩
theorem lw_p2 : lw_okq (⟨"SessionGate", "isSealedBy", "(LSessionGate$Key;)Z"⟩, 19) := ⟨⟨by decide +kernel, by decide +kernel⟩, List.mem_of_getElem? (i := 24) (by decide +kernel), List.mem_of_getElem? (i := 349) (by decide +kernel), List.mem_of_getElem? (i := 350) (by decide +kernel)⟩
theorem lw_p3 : lw_okq (⟨"SessionGate$Mac", "fillBlocks", "([II[II)V"⟩, 4) := ⟨⟨by decide +kernel, by decide +kernel⟩, List.mem_of_getElem? (i := 32) (by decide +kernel), List.mem_of_getElem? (i := 357) (by decide +kernel), List.mem_of_getElem? (i := 358) (by decide +kernel)⟩
theorem lw_p4 : lw_okq (⟨"SessionGate$Mac", "hashBlocks", "()V"⟩, 4) := ⟨⟨by decide +kernel, by decide +kernel⟩, List.mem_of_getElem? (i := 32) (by decide +kernel), List.mem_of_getElem? (i := 361) (by decide +kernel), List.mem_of_getElem? (i := 362) (by decide +kernel)⟩
theorem lw_p5 : lw_okq (⟨"SessionGate$Mac", "fillSchedule", "(I)V"⟩, 4) := ⟨⟨by decide +kernel, by decide +kernel⟩, List.mem_of_getElem? (i := 32) (by decide +kernel), List.mem_of_getElem? (i := 370) (by decide +kernel), List.mem_of_getElem? (i := 371) (by decide +kernel)⟩
theorem lw_p6 : lw_okq (⟨"SessionGate$Mac", "mixSchedule", "()V"⟩, 4) := ⟨⟨by decide +kernel, by decide +kernel⟩, List.mem_of_getElem? (i := 32) (by decide +kernel), List.mem_of_getElem? (i := 377) (by decide +kernel), List.mem_of_getElem? (i := 378) (by decide +kernel)⟩
theorem lw_p7 : lw_okq (⟨"SessionGate", "numberOf", "(IJ)I"⟩, 19) := ⟨⟨by decide +kernel, by decide +kernel⟩, List.mem_of_getElem? (i := 24) (by decide +kernel), List.mem_of_getElem? (i := 387) (by decide +kernel), List.mem_of_getElem? (i := 388) (by decide +kernel)⟩
theorem lw_p8 : lw_okq (⟨"SessionGate", "isOld", "(LSessionGate$Session;)Z"⟩, 19) := ⟨⟨by decide +kernel, by decide +kernel⟩, List.mem_of_getElem? (i := 24) (by decide +kernel), List.mem_of_getElem? (i := 391) (by decide +kernel), List.mem_of_getElem? (i := 392) (by decide +kernel)⟩
theorem lw_p9 : lw_okq (⟨"SessionGate", "isIdle", "(LSessionGate$Session;)Z"⟩, 19) := ⟨⟨by decide +kernel, by decide +kernel⟩, List.mem_of_getElem? (i := 24) (by decide +kernel), List.mem_of_getElem? (i := 395) (by decide +kernel), List.mem_of_getElem? (i := 396) (by decide +kernel)⟩
theorem lw_p10 : lw_okq (⟨"SessionGate", "writeToken", "(LSessionGate$Key;LSessionGate$Text;)V"⟩, 19) := ⟨⟨by decide +kernel, by decide +kernel⟩, List.mem_of_getElem? (i := 24) (by decide +kernel), List.mem_of_getElem? (i := 399) (by decide +kernel), List.mem_of_getElem? (i := 400) (by decide +kernel)⟩
theorem lw_p11 : lw_okq (⟨"SessionGate", "tally", "(I)V"⟩, 19) := ⟨⟨by decide +kernel, by decide +kernel⟩, List.mem_of_getElem? (i := 24) (by decide +kernel), List.mem_of_getElem? (i := 435) (by decide +kernel), List.mem_of_getElem? (i := 436) (by decide +kernel)⟩
theorem lw_p12 : lw_okq (⟨"SessionGate", "writeTexts", "(LSessionGate$Session;)V"⟩, 19) := ⟨⟨by decide +kernel, by decide +kernel⟩, List.mem_of_getElem? (i := 24) (by decide +kernel), List.mem_of_getElem? (i := 439) (by decide +kernel), List.mem_of_getElem? (i := 440) (by decide +kernel)⟩
theorem lw_p13 : lw_okq (⟨"java/lang/Throwable", "fillInStackTrace", "(I)Ljava/lang/Throwable;"⟩, 6) := ⟨⟨by decide +kernel, by decide +kernel⟩, List.mem_of_getElem? (i := 495) (by decide +kernel), List.mem_of_getElem? (i := 493) (by decide +kernel), List.mem_of_getElem? (i := 494) (by decide +kernel)⟩
theorem lw_p14 : lw_okq (⟨"SessionGate", "endStaleSessions", "()V"⟩, 19) := ⟨⟨by decide +kernel, by decide +kernel⟩, List.mem_of_getElem? (i := 24) (by decide +kernel), List.mem_of_getElem? (i := 556) (by decide +kernel), List.mem_of_getElem? (i := 557) (by decide +kernel)⟩
theorem lw_p15 : lw_okq (⟨"SessionGate", "freeNumber", "()I"⟩, 19) := ⟨⟨by decide +kernel, by decide +kernel⟩, List.mem_of_getElem? (i := 24) (by decide +kernel), List.mem_of_getElem? (i := 560) (by decide +kernel), List.mem_of_getElem? (i := 561) (by decide +kernel)⟩
def lw_privs_1 : List (MethodName × Nat) := [(⟨"SessionGate", "judge", "(Z)I"⟩, 19), (⟨"SessionGate$KeyRing", "isLive", "(IJJ)Z"⟩, 3), (⟨"SessionGate", "isSealedBy", "(LSessionGate$Key;)Z"⟩, 19), (⟨"SessionGate$Mac", "fillBlocks", "([II[II)V"⟩, 4), (⟨"SessionGate$Mac", "hashBlocks", "()V"⟩, 4), (⟨"SessionGate$Mac", "fillSchedule", "(I)V"⟩, 4), (⟨"SessionGate$Mac", "mixSchedule", "()V"⟩, 4), (⟨"SessionGate", "numberOf", "(IJ)I"⟩, 19), (⟨"SessionGate", "isOld", "(LSessionGate$Session;)Z"⟩, 19), (⟨"SessionGate", "isIdle", "(LSessionGate$Session;)Z"⟩, 19), (⟨"SessionGate", "writeToken", "(LSessionGate$Key;LSessionGate$Text;)V"⟩, 19), (⟨"SessionGate", "tally", "(I)V"⟩, 19), (⟨"SessionGate", "writeTexts", "(LSessionGate$Session;)V"⟩, 19), (⟨"java/lang/Throwable", "fillInStackTrace", "(I)Ljava/lang/Throwable;"⟩, 6), (⟨"SessionGate", "endStaleSessions", "()V"⟩, 19), (⟨"SessionGate", "freeNumber", "()I"⟩, 19)]
theorem lw_r1 : ∀ q ∈ lw_privs_1, lw_okq q := List.forall_mem_cons.mpr ⟨lw_p0, List.forall_mem_cons.mpr ⟨lw_p1, List.forall_mem_cons.mpr ⟨lw_p2, List.forall_mem_cons.mpr ⟨lw_p3, List.forall_mem_cons.mpr ⟨lw_p4, List.forall_mem_cons.mpr ⟨lw_p5, List.forall_mem_cons.mpr ⟨lw_p6, List.forall_mem_cons.mpr ⟨lw_p7, List.forall_mem_cons.mpr ⟨lw_p8, List.forall_mem_cons.mpr ⟨lw_p9, List.forall_mem_cons.mpr ⟨lw_p10, List.forall_mem_cons.mpr ⟨lw_p11, List.forall_mem_cons.mpr ⟨lw_p12, List.forall_mem_cons.mpr ⟨lw_p13, List.forall_mem_cons.mpr ⟨lw_p14, List.forall_mem_cons.mpr ⟨lw_p15, fun _ h => absurd h List.not_mem_nil⟩⟩⟩⟩⟩⟩⟩⟩⟩⟩⟩⟩⟩⟩⟩⟩
theorem lw_p16 : lw_okq (⟨"SessionGate", "nextId", "()J"⟩, 19) := ⟨⟨by decide +kernel, by decide +kernel⟩, List.mem_of_getElem? (i := 24) (by decide +kernel), List.mem_of_getElem? (i := 564) (by decide +kernel), List.mem_of_getElem? (i := 565) (by decide +kernel)⟩
theorem lw_p17 : lw_okq (⟨"SessionGate", "textOf", "(I)LSessionGate$Text;"⟩, 19) := ⟨⟨by decide +kernel, by decide +kernel⟩, List.mem_of_getElem? (i := 24) (by decide +kernel), List.mem_of_getElem? (i := 590) (by decide +kernel), List.mem_of_getElem? (i := 591) (by decide +kernel)⟩
theorem lw_p18 : lw_okq (⟨"SessionGate", "openSessions", "()I"⟩, 19) := ⟨⟨by decide +kernel, by decide +kernel⟩, List.mem_of_getElem? (i := 24) (by decide +kernel), List.mem_of_getElem? (i := 675) (by decide +kernel), List.mem_of_getElem? (i := 676) (by decide +kernel)⟩
theorem lw_p19 : lw_okq (⟨"SessionGateModel", "refused", "(I)Z"⟩, 36) := ⟨⟨by decide +kernel, by decide +kernel⟩, List.mem_of_getElem? (i := 690) (by decide +kernel), List.mem_of_getElem? (i := 896) (by decide +kernel), List.mem_of_getElem? (i := 897) (by decide +kernel)⟩
theorem lw_p20 : lw_okq (⟨"SessionGateModel", "isOld", "(I)Z"⟩, 36) := ⟨⟨by decide +kernel, by decide +kernel⟩, List.mem_of_getElem? (i := 690) (by decide +kernel), List.mem_of_getElem? (i := 918) (by decide +kernel), List.mem_of_getElem? (i := 919) (by decide +kernel)⟩
theorem lw_p21 : lw_okq (⟨"SessionGateModel", "isIdle", "(I)Z"⟩, 36) := ⟨⟨by decide +kernel, by decide +kernel⟩, List.mem_of_getElem? (i := 690) (by decide +kernel), List.mem_of_getElem? (i := 922) (by decide +kernel), List.mem_of_getElem? (i := 923) (by decide +kernel)⟩
theorem lw_p22 : lw_okq (⟨"SessionGateModel", "newId", "()J"⟩, 36) := ⟨⟨by decide +kernel, by decide +kernel⟩, List.mem_of_getElem? (i := 690) (by decide +kernel), List.mem_of_getElem? (i := 926) (by decide +kernel), List.mem_of_getElem? (i := 927) (by decide +kernel)⟩
theorem lw_p23 : lw_okq (⟨"SessionGateModel", "say", "(I)V"⟩, 36) := ⟨⟨by decide +kernel, by decide +kernel⟩, List.mem_of_getElem? (i := 690) (by decide +kernel), List.mem_of_getElem? (i := 931) (by decide +kernel), List.mem_of_getElem? (i := 932) (by decide +kernel)⟩
theorem lw_p24 : lw_okq (⟨"SessionGateModel", "seal", "()V"⟩, 36) := ⟨⟨by decide +kernel, by decide +kernel⟩, List.mem_of_getElem? (i := 690) (by decide +kernel), List.mem_of_getElem? (i := 935) (by decide +kernel), List.mem_of_getElem? (i := 936) (by decide +kernel)⟩
theorem lw_p25 : lw_okq (⟨"SessionGateModel", "hashNow", "()V"⟩, 36) := ⟨⟨by decide +kernel, by decide +kernel⟩, List.mem_of_getElem? (i := 690) (by decide +kernel), List.mem_of_getElem? (i := 939) (by decide +kernel), List.mem_of_getElem? (i := 940) (by decide +kernel)⟩
theorem lw_p26 : lw_okq (⟨"SessionGateModel", "block", "(I)V"⟩, 36) := ⟨⟨by decide +kernel, by decide +kernel⟩, List.mem_of_getElem? (i := 690) (by decide +kernel), List.mem_of_getElem? (i := 943) (by decide +kernel), List.mem_of_getElem? (i := 944) (by decide +kernel)⟩
theorem lw_p27 : lw_okq (⟨"SessionGateModel", "issue", "(I)V"⟩, 36) := ⟨⟨by decide +kernel, by decide +kernel⟩, List.mem_of_getElem? (i := 690) (by decide +kernel), List.mem_of_getElem? (i := 950) (by decide +kernel), List.mem_of_getElem? (i := 951) (by decide +kernel)⟩
theorem lw_p28 : lw_okq (⟨"SessionGateModel", "body", "(IIJ)V"⟩, 36) := ⟨⟨by decide +kernel, by decide +kernel⟩, List.mem_of_getElem? (i := 690) (by decide +kernel), List.mem_of_getElem? (i := 954) (by decide +kernel), List.mem_of_getElem? (i := 955) (by decide +kernel)⟩
theorem lw_p29 : lw_okq (⟨"SessionGateModel", "sealBody", "(II)V"⟩, 36) := ⟨⟨by decide +kernel, by decide +kernel⟩, List.mem_of_getElem? (i := 690) (by decide +kernel), List.mem_of_getElem? (i := 958) (by decide +kernel), List.mem_of_getElem? (i := 959) (by decide +kernel)⟩
theorem lw_p30 : lw_okq (⟨"SessionGateModel", "takeKey", "(I)V"⟩, 36) := ⟨⟨by decide +kernel, by decide +kernel⟩, List.mem_of_getElem? (i := 690) (by decide +kernel), List.mem_of_getElem? (i := 962) (by decide +kernel), List.mem_of_getElem? (i := 963) (by decide +kernel)⟩
theorem lw_p31 : lw_okq (⟨"SessionGateModel", "codedAt", "(II)I"⟩, 36) := ⟨⟨by decide +kernel, by decide +kernel⟩, List.mem_of_getElem? (i := 690) (by decide +kernel), List.mem_of_getElem? (i := 966) (by decide +kernel), List.mem_of_getElem? (i := 967) (by decide +kernel)⟩
def lw_privs_2 : List (MethodName × Nat) := [(⟨"SessionGate", "nextId", "()J"⟩, 19), (⟨"SessionGate", "textOf", "(I)LSessionGate$Text;"⟩, 19), (⟨"SessionGate", "openSessions", "()I"⟩, 19), (⟨"SessionGateModel", "refused", "(I)Z"⟩, 36), (⟨"SessionGateModel", "isOld", "(I)Z"⟩, 36), (⟨"SessionGateModel", "isIdle", "(I)Z"⟩, 36), (⟨"SessionGateModel", "newId", "()J"⟩, 36), (⟨"SessionGateModel", "say", "(I)V"⟩, 36), (⟨"SessionGateModel", "seal", "()V"⟩, 36), (⟨"SessionGateModel", "hashNow", "()V"⟩, 36), (⟨"SessionGateModel", "block", "(I)V"⟩, 36), (⟨"SessionGateModel", "issue", "(I)V"⟩, 36), (⟨"SessionGateModel", "body", "(IIJ)V"⟩, 36), (⟨"SessionGateModel", "sealBody", "(II)V"⟩, 36), (⟨"SessionGateModel", "takeKey", "(I)V"⟩, 36), (⟨"SessionGateModel", "codedAt", "(II)I"⟩, 36)]
theorem lw_r2 : ∀ q ∈ lw_privs_2, lw_okq q := List.forall_mem_cons.mpr ⟨lw_p16, List.forall_mem_cons.mpr ⟨lw_p17, List.forall_mem_cons.mpr ⟨lw_p18, List.forall_mem_cons.mpr ⟨lw_p19, List.forall_mem_cons.mpr ⟨lw_p20, List.forall_mem_cons.mpr ⟨lw_p21, List.forall_mem_cons.mpr ⟨lw_p22, List.forall_mem_cons.mpr ⟨lw_p23, List.forall_mem_cons.mpr ⟨lw_p24, List.forall_mem_cons.mpr ⟨lw_p25, List.forall_mem_cons.mpr ⟨lw_p26, List.forall_mem_cons.mpr ⟨lw_p27, List.forall_mem_cons.mpr ⟨lw_p28, List.forall_mem_cons.mpr ⟨lw_p29, List.forall_mem_cons.mpr ⟨lw_p30, List.forall_mem_cons.mpr ⟨lw_p31, fun _ h => absurd h List.not_mem_nil⟩⟩⟩⟩⟩⟩⟩⟩⟩⟩⟩⟩⟩⟩⟩⟩
theorem lw_p32 : lw_okq (⟨"SessionGateModel", "token", "(I)V"⟩, 36) := ⟨⟨by decide +kernel, by decide +kernel⟩, List.mem_of_getElem? (i := 690) (by decide +kernel), List.mem_of_getElem? (i := 973) (by decide +kernel), List.mem_of_getElem? (i := 974) (by decide +kernel)⟩
theorem lw_p33 : lw_okq (⟨"SessionGateModel", "look", "(Z)I"⟩, 36) := ⟨⟨by decide +kernel, by decide +kernel⟩, List.mem_of_getElem? (i := 690) (by decide +kernel), List.mem_of_getElem? (i := 981) (by decide +kernel), List.mem_of_getElem? (i := 982) (by decide +kernel)⟩
theorem lw_p34 : lw_okq (⟨"SessionGateModel", "isForm", "()Z"⟩, 36) := ⟨⟨by decide +kernel, by decide +kernel⟩, List.mem_of_getElem? (i := 690) (by decide +kernel), List.mem_of_getElem? (i := 985) (by decide +kernel), List.mem_of_getElem? (i := 986) (by decide +kernel)⟩
theorem lw_p35 : lw_okq (⟨"SessionGateModel", "isLive", "(I)Z"⟩, 36) := ⟨⟨by decide +kernel, by decide +kernel⟩, List.mem_of_getElem? (i := 690) (by decide +kernel), List.mem_of_getElem? (i := 992) (by decide +kernel), List.mem_of_getElem? (i := 993) (by decide +kernel)⟩
theorem lw_p36 : lw_okq (⟨"SessionGateModel", "typed", "(III)I"⟩, 36) := ⟨⟨by decide +kernel, by decide +kernel⟩, List.mem_of_getElem? (i := 690) (by decide +kernel), List.mem_of_getElem? (i := 1011) (by decide +kernel), List.mem_of_getElem? (i := 1012) (by decide +kernel)⟩
def lw_privs_3 : List (MethodName × Nat) := [(⟨"SessionGateModel", "token", "(I)V"⟩, 36), (⟨"SessionGateModel", "look", "(Z)I"⟩, 36), (⟨"SessionGateModel", "isForm", "()Z"⟩, 36), (⟨"SessionGateModel", "isLive", "(I)Z"⟩, 36), (⟨"SessionGateModel", "typed", "(III)I"⟩, 36)]
theorem lw_r3 : ∀ q ∈ lw_privs_3, lw_okq q := List.forall_mem_cons.mpr ⟨lw_p32, List.forall_mem_cons.mpr ⟨lw_p33, List.forall_mem_cons.mpr ⟨lw_p34, List.forall_mem_cons.mpr ⟨lw_p35, List.forall_mem_cons.mpr ⟨lw_p36, fun _ h => absurd h List.not_mem_nil⟩⟩⟩⟩⟩
def lw_privs : List (MethodName × Nat) := lw_privs_1 ++ (lw_privs_2 ++ (lw_privs_3))
def lw_tbl : List Cond := k2_sels lw_privs ++ tables_1
theorem lw_privs_ok : ∀ q ∈ lw_privs, lw_okq q := by
  show ∀ q ∈ lw_privs_1 ++ (lw_privs_2 ++ (lw_privs_3)), lw_okq q
  exact List.forall_mem_append.mpr ⟨lw_r1, List.forall_mem_append.mpr ⟨lw_r2, lw_r3⟩⟩
end
section
/-! ===== BEGIN words of one list among another's, by their places ===== -/
theorem goodIn_r {big : List Cond} (ws : List Cond) (ps : List Nat) (hp : ws = ps.filterMap (fun i => big[i]?)) (h : ws.all goodWord = true) : GoodIn big ws := by
  intro w hw
  have h1 := List.all_eq_true.mp h w hw
  rw [hp] at hw
  obtain ⟨i, -, hi⟩ := List.mem_filterMap.mp hw
  have hm : w ∈ big := by first | exact List.mem_of_getElem? hi | exact List.getElem?_mem hi
  exact ⟨hm, good_of_word h1⟩
theorem goodIn_app {big a b : List Cond} (ha : GoodIn big a) (hb : GoodIn big b) : GoodIn big (a ++ b) := fun w h => (List.mem_append.mp h).elim (ha w) (hb w)
theorem goodIn_ca {big a b : List Cond} {c : Cond} (ha : GoodIn big (c :: a)) (hb : GoodIn big b) : GoodIn big (c :: (a ++ b)) := fun w h => (List.mem_cons.mp h).elim (fun e => ha w (List.mem_cons.mpr (Or.inl e))) (fun h => (List.mem_append.mp h).elim (fun h => ha w (List.mem_cons.mpr (Or.inr h))) (hb w))
theorem goodIn_sub {big ws : List Cond} (hm : ∀ w ∈ ws, w ∈ big) (h : ws.all goodWord = true) : GoodIn big ws := fun w hw => ⟨hm w hw, good_of_word (List.all_eq_true.mp h w hw)⟩
/-! ===== END ===== -/

/-! ===== BEGIN exceptions that leave a method, and their catching by the caller (launches without stack traces) ===== -/
section VXA
/-! The laws vx_back, vx_callV, vx_callS, vx_callSW, vx_throw0, vx_throwS follow proofs of the library, with one case more: JvmDerived/Free/Laws.lean (Back.of_free), Shelf42/LK1.lean (callV, callS), Shelf/KitTraced.lean (throwNew0V, throwNewS). -/
/-- where a method has thrown q: the class by its name, the cell, what was written, the world -/
def vx_T (XC : String → State → State → Prop) (st : State) (q : Addr) (t : State) (mc ms : Nat) (free : Addr → Prop) : Prop :=
  ∃ (E : String) (ce : Cell) (L : List Loc), XC E st t ∧ t.heap[q]? = some ce ∧ ce.vm = .none ∧ st.vm.findClass E = some ce.cls ∧ st.WarmedH t.vm ∧ st.sameButNew ({ t with vm := st.vm } : State) L mc ms ∧ ∀ z ∈ L, free z.base
def vx_Q (Qc : Array Value → State → Outcome → State → Prop) (XC : String → State → State → Prop) (mc ms : Nat) (free : Addr → Prop) : Array Value → State → Outcome → State → Prop := fun a st o t =>
  (Qc a st o t ∧ ∃ L, FrameEnd st o t L mc ms ∧ ∀ q ∈ L, free q.base) ∨ ∃ q, o = .threw q ∧ vx_T XC st q t mc ms free
/-- a callee that returns or throws -/
def vx_Met (l : Launch) (y : MethodName) (ws : List Cond) (rm : Room) (Pc : Array Value → State → Prop) (Qc : Array Value → State → Outcome → State → Prop) (XC : String → State → State → Prop) (mc ms : Nat) (free : Addr → Prop) : Prop :=
  MetFree l y (headSpec ws rm) Pc (fun _ _ _ _ _ => True) (vx_Q Qc XC mc ms free)
def vx_Post (XC : String → State → State → Prop) (mc ms : Nat) (free : Addr → Prop) : Pt → Array Value → Addr → Pt → Prop := fun A a q B =>
  ∃ (g : JFrame) (mk : MethodId) (t : State) (L : List Loc) (E : String) (ce : Cell), B.U.heap = t.heap ∧ B.U.vm = t.vm ∧ XC E (A.U.calling g mk a) t ∧ t.heap[q]? = some ce ∧ ce.vm = .none ∧ A.U.vm.findClass E = some ce.cls ∧ B.locs = A.locs ++ L ∧ (∀ z ∈ L, free z.base) ∧ B.cells = A.cells + mc ∧ B.slots = A.slots + ms
def vx_Back (l : Launch) (R : Room) (p : Program) (e : Env) (below : List Frame) (s : State) (sargs : Array Value) (y : MethodName) (len W9 : Nat)
    (Pre : Pt → Array Value → Prop) (Post : Pt → Array Value → Option Value → Pt → Prop) (PostX : Pt → Array Value → Addr → Pt → Prop) : Prop :=
  ∀ (m : MethodId) (meth : Method) (c : Code) (A : Pt) (g : JFrame) (ig : Instr) (mk : MethodId) (a : Array Value),
    Stand p l e R s m sargs below meth c A.U A.locs A.cells A.slots → g.method = m → g.locals.size = c.maxLocals → decode c.code g.pc = .ok (ig, len) →
    2 * g.monitorRoom + (g.stack.map fun v => v.category).sum ≤ W9 → A.U.methodNamed? y = some mk → Pre A a →
    (∃ (v : Option Value) (B : Pt), Stand p l e R s m sargs below meth c B.U B.locs B.cells B.slots ∧ Post A a v B ∧
      Steps p.tables e below (doInvoke e (A.U.setTop g) [] mk a).1 (B.U.setTop { g with pc := g.pc + len, stack := v.toList ++ g.stack })) ∨
    (∃ (q : Addr) (B : Pt), Stand p l e R s m sargs below meth c B.U B.locs B.cells B.slots ∧ PostX A a q B ∧
      Steps p.tables e below (doInvoke e (A.U.setTop g) [] mk a).1 ((B.U.setTop g).pushFrame (.throwing q)))
section Payer
variable {l : Launch} {R : Room} {p : Program} {e : Env} {below : List Frame} {s : State} {sargs : Array Value} {y : MethodName} {len W9 : Nat}
theorem vx_back {ws : List Cond} {rm : Room} {Pc : Array Value → State → Prop} {Qc : Array Value → State → Outcome → State → Prop} {XC : String → State → State → Prop} {mc ms : Nat} {free : Addr → Prop} {bytes : ByteArray} {maxL : Nat} {ret : Option FieldType}
    (hM : vx_Met l y ws rm Pc Qc XC mc ms free) (hblind : FrameBlind Pc) (hrc : rm.cells = mc) (hrs : rm.slots = ms)
    (hframes : rm.frames + 1 ≤ R.frames) (hlocals : W9 + (maxL + 11) + rm.locals ≤ R.locals)
    (hws : ∀ w ∈ ws, ∀ a' U, s.WarmedH U.vm → w.before a' U = true) (hcode : Cond.code y bytes maxL ret ∈ ws) (hinit : ∀ a' U, s.WarmedH U.vm → (Cond.initialized y.cls).before a' U = true) :
    vx_Back l R p e below s sargs y len W9 (PreOf R mc ms Pc) (PostOf Qc mc ms free) (vx_Post XC mc ms free) := by
  intro m meth c A g ig mk a X hg hsize hdg hW hn hp
  have h1 : (headSpec ws rm).pre.before a A.U = true := atoms_intro fun w hw => hws w hw _ _ X.warmed
  have h2 : (Cond.code y bytes maxL ret).before a A.U = true := hws _ hcode _ _ X.warmed
  have h3 : (Cond.initialized y.cls).before a A.U = true := hinit _ _ X.warmed
  have h4 : A.cells + (headSpec ws rm).room.cells ≤ R.cells := by rw [show (headSpec ws rm).room.cells = mc from hrc]; exact hp.1
  have h5 : A.slots + (headSpec ws rm).room.slots ≤ R.slots := by rw [show (headSpec ws rm).room.slots = ms from hrs]; exact hp.2.1
  have hPc : Pc a (A.U.calling g mk a) := hblind _ _ _ _ hp.2.2
  obtain ⟨U, Ls, c0, s0⟩ := A
  dsimp only [Pt.U, Pt.locs, Pt.cells, Pt.slots] at h1 h2 h3 h4 h5 X hn hPc ⊢
  obtain ⟨methY, cY, hmY, hcY, -, hlY, -, -, -, -⟩ := Cond.code_spec hn h2
  obtain ⟨kY, hkY, -⟩ := className_of_methodNamed hn
  have hinitY : kY.init = .initialized := Cond.initialized_spec (findClass_of_methodNamed hn) hkY h3
  have h : At U g.method c below := by rw [hg]; exact X.here
  have hlocals9 : W9 + (maxL + 11) + (headSpec ws rm).room.locals ≤ R.locals := hlocals
  have happ : (headSpec ws rm).appliesLoose y e.platform (U.calling g mk a) = true :=
    Spec.appliesLoose_calling (g := g) h hdg hn hkY hinitY
      (X.room_calling (g := g) (R' := (headSpec ws rm).room) hsize hmY hcY hframes (by rw [hlY]; omega) h4 h5) h1
  obtain ⟨mid, hmid⟩ := h.above
  have hfr : (U.setTop g).frames = (.java g :: mid) ++ below := by rw [State.frames_setTop' g h.top, hmid]; rfl
  obtain ⟨o, s₂, hsteps, -, hend, hq⟩ := Steps.callFree hM p X.admits X.cas X.clock (acts := []) hfr happ hPc trivial
  have hq' : vx_Q Qc XC mc ms free a (U.calling g mk a) o s₂ := hq
  rw [State.frames_setTop' g h.top] at hend
  obtain ⟨g₀, hg0⟩ := Option.isSome_iff_exists.mp h.top
  obtain ⟨r, hr⟩ := State.topJava?_eq_some.mp hg0
  have hr' : (({ U with heap := s₂.heap, slotsUsed := s₂.slotsUsed } : State).setVm s₂.vm).frames = .java g₀ :: r := hr
  rcases hq' with ⟨hqc, L, hfe, hL⟩ | ⟨q, rfl, E, ce, L, hx, hce, hcv, hcl, hW₂, hsm, hL⟩
  · obtain ⟨⟨v, rfl⟩, hW₂, e2, q2, q3, q4, q5, q6⟩ := id hfe
    have e3 : s₂ = ({ (U.calling g mk a).setFrames s₂.frames with heap := s₂.heap, slotsUsed := s₂.slotsUsed } : State).setVm s₂.vm := by
      have : s₂ = ({ s₂ with vm := (U.calling g mk a).vm } : State).setVm s₂.vm := rfl
      rw [e2] at this
      exact this
    obtain ⟨c₂, i₂, len₂, hc₂, hd₂, hf₂⟩ := hend
    have hW' : U.WarmedH s₂.vm := hW₂
    have hcc : c₂ = c := by
      have h1 : s₂.code? g.method = U.code? g.method := by
        rw [State.code?_eq, State.code?_eq, hW'.alike.method?]
      exact Option.some.inj (hc₂.symm.trans (h1.trans h.code))
    subst hcc
    have hlen : len₂ = len := by rw [hdg] at hd₂; cases hd₂; rfl
    subst hlen
    have hs₂ : s₂ = (({ U with heap := s₂.heap, slotsUsed := s₂.slotsUsed } : State).setVm s₂.vm).setTop { g with pc := g.pc + len₂, stack := v.toList ++ g.stack } := by
      refine e3.trans ?_
      rw [hf₂, State.calling_eq h.top, State.setFrames_setFrames, State.setTop_of_frames _ hr', hr]
      rfl
    have hsame : U.sameButNew ({ U with heap := s₂.heap, slotsUsed := s₂.slotsUsed } : State) L mc ms := by
      refine ⟨?_, q2, q3, q4, q5, q6⟩
      obtain ⟨t, ht, -⟩ := State.frames_cons hr
      show ({ U with heap := s₂.heap, slotsUsed := s₂.slotsUsed } : State) = { U.setFrames U.frames with heap := s₂.heap, slotsUsed := s₂.slotsUsed }
      rw [State.setFrames_self ht]
    subst hg
    refine Or.inl ⟨v, ⟨(({ U with heap := s₂.heap, slotsUsed := s₂.slotsUsed } : State).setVm s₂.vm), Ls ++ L, c0 + mc, s0 + ms⟩,
      ⟨X.admits, X.cas, X.clock, X.frames, X.room, X.hears, X.method, X.code, (X.here.setHeapUsed s₂.heap s₂.slotsUsed).setVm hW'.alike, X.tail, State.WarmedH.trans X.warmed hW', X.limits, X.bytes, X.same.trans (hsame.setVm s.vm)⟩,
      ⟨g, mk, s₂, L, rfl, rfl, hqc, rfl, hL, rfl, rfl⟩, ?_⟩
    show Steps p.tables e below _ ((({ U with heap := s₂.heap, slotsUsed := s₂.slotsUsed } : State).setVm s₂.vm).setTop { g with pc := g.pc + len₂, stack := v.toList ++ g.stack })
    rw [← hs₂]
    exact hsteps
  · obtain ⟨e2, q2, q3, q4, q5, q6⟩ := id hsm
    have e3 : s₂ = ({ (U.calling g mk a).setFrames s₂.frames with heap := s₂.heap, slotsUsed := s₂.slotsUsed } : State).setVm s₂.vm := by
      have : s₂ = ({ s₂ with vm := (U.calling g mk a).vm } : State).setVm s₂.vm := rfl
      rw [e2] at this
      exact this
    have hf₂ : s₂.frames = .throwing q :: .java g :: U.frames.tail := hend
    have hW' : U.WarmedH s₂.vm := hW₂
    have hs₂ : s₂ = ((({ U with heap := s₂.heap, slotsUsed := s₂.slotsUsed } : State).setVm s₂.vm).setTop g).pushFrame (.throwing q) := by
      refine e3.trans ?_
      rw [hf₂, State.calling_eq h.top, State.setFrames_setFrames, State.pushFrame, State.frames_setTop _ hr', State.setTop_of_frames _ hr', State.setFrames_setFrames, hr]
      rfl
    have hsame : U.sameButNew ({ U with heap := s₂.heap, slotsUsed := s₂.slotsUsed } : State) L mc ms := by
      refine ⟨?_, q2, q3, q4, q5, q6⟩
      obtain ⟨t, ht, -⟩ := State.frames_cons hr
      show ({ U with heap := s₂.heap, slotsUsed := s₂.slotsUsed } : State) = { U.setFrames U.frames with heap := s₂.heap, slotsUsed := s₂.slotsUsed }
      rw [State.setFrames_self ht]
    subst hg
    refine Or.inr ⟨q, ⟨(({ U with heap := s₂.heap, slotsUsed := s₂.slotsUsed } : State).setVm s₂.vm), Ls ++ L, c0 + mc, s0 + ms⟩,
      ⟨X.admits, X.cas, X.clock, X.frames, X.room, X.hears, X.method, X.code, (X.here.setHeapUsed s₂.heap s₂.slotsUsed).setVm hW'.alike, X.tail, State.WarmedH.trans X.warmed hW', X.limits, X.bytes, X.same.trans (hsame.setVm s.vm)⟩,
      ⟨g, mk, s₂, L, E, ce, rfl, rfl, hx, hce, hcv, hcl, rfl, hL, rfl, rfl⟩, ?_⟩
    show Steps p.tables e below _ (((({ U with heap := s₂.heap, slotsUsed := s₂.slotsUsed } : State).setVm s₂.vm).setTop g).pushFrame (.throwing q))
    rw [← hs₂]
    exact hsteps
end Payer
section Calls
variable {p : Program} {l : Launch} {e : Env} {R : Room} {s : State} {m : MethodId} {args : Array Value} {below : List Frame} {meth : Method} {c : Code} {T : State} {locs : List Loc} {cells slots : Nat}
theorem vx_callV (X : Stand p l e R s m args below meth c T locs cells slots) (hexec : p.tables.exec = Jvm.exec) {own C : String} {index : Nat} {y : MethodName} {bytes : ByteArray} {maxL : Nat} {ret : Option FieldType}
    (hown : s.vm.findClass own = some m.cls) (hlink : (Cond.methodLink own index y).before args s = true) (hinst : (Cond.instanceMethod y).before args s = true) (hsel : (Cond.selects C y y).before args s = true)
    (hcode : (Cond.code y bytes maxL ret).before args s = true) (hy : y.cls ≠ "java/lang/invoke/MethodHandle" ∧ y.cls ≠ "java/lang/invoke/VarHandle")
    {W9 : Nat} {Pre : Pt → Array Value → Prop} {Post : Pt → Array Value → Option Value → Pt → Prop} {PostX : Pt → Array Value → Addr → Pt → Prop} (hK : vx_Back l R p e below s args y 3 W9 Pre Post PostX)
    {b : Addr} {cellB : Cell} (hcell : T.heap[b]? = some cellB) (hobj : cellB.vm.isStatics = false) (hcls : s.vm.findClass C = some cellB.cls)
    {g : JFrame} (hg : g.method = m) (hsize : g.locals.size = c.maxLocals) {argsL rest : List Value} (hlen : ∀ sig, parseMethodDescriptor y.desc = some sig → argsL.length = sig.parameters.length)
    (hstack : g.stack = argsL.reverse ++ .ref b :: rest) (hW : 2 * g.monitorRoom + (rest.map fun v => v.category).sum ≤ W9) (hdg : decode c.code g.pc = .ok (.invokevirtual index, 3))
    (hpre : ∀ vm₁, s.WarmedH vm₁ → Pre ⟨T.setVm vm₁, locs, cells, slots⟩ (Value.ref b :: argsL).toArray) :
    (∃ (v : Option Value) (vm₁ : Vm) (B : Pt), s.WarmedH vm₁ ∧ Stand p l e R s m args below meth c B.U B.locs B.cells B.slots ∧ Post ⟨T.setVm vm₁, locs, cells, slots⟩ (Value.ref b :: argsL).toArray v B ∧
      ∀ target, Steps p.tables e below (B.U.setTop { g with pc := g.pc + 3, stack := v.toList ++ rest }) target → Steps p.tables e below (T.setTop g) target) ∨
    (∃ (q : Addr) (vm₁ : Vm) (B : Pt), s.WarmedH vm₁ ∧ Stand p l e R s m args below meth c B.U B.locs B.cells B.slots ∧ PostX ⟨T.setVm vm₁, locs, cells, slots⟩ (Value.ref b :: argsL).toArray q B ∧
      Steps p.tables e below (T.setTop g) ((B.U.setTop { g with stack := rest }).pushFrame (.throwing q))) := by
  obtain ⟨mk, methM, hnamed, hmethM, hstM, habM⟩ := Cond.instanceMethod_spec hinst
  obtain ⟨methM', cM, hmethM', -, -, -, -, -, -, hsigM⟩ := Cond.code_spec hnamed hcode
  cases hmethM.symm.trans hmethM'
  obtain ⟨c2, r2, m2, q1, q2, q3, q4, kP, hkP, hkPi⟩ := Cond.selects_spec hsel
  cases hcls.symm.trans q1
  cases (State.methodFound?_of_named hnamed hy).symm.trans q2
  cases hnamed.symm.trans q3
  have hselP : selectMethod e.platform s.vm cellB.cls mk = .method mk := by rw [Launch.admits_selectMethod X.admits]; exact q4
  obtain ⟨vm₁, X₁, hstep₁⟩ := X.invokevirtual hexec hown hlink hnamed hmethM hstM hkP hkPi hy (a := b) (cell := cellB) hcell
    (fun z h => by rw [h] at hobj; cases hobj) hselP hmethM habM hkP hkPi (g := g) hg (argsL := argsL) (rest := rest) (hlen _ hsigM) hstack hdg
  rcases hK m meth c ⟨T.setVm vm₁, locs, cells, slots⟩ { g with stack := rest } (.invokevirtual index) mk (Value.ref b :: argsL).toArray X₁ hg hsize hdg hW (X₁.named hnamed) (hpre vm₁ X₁.warmed) with ⟨v, B, X', hpost, hsteps⟩ | ⟨q, B, X', hpost, hsteps⟩
  · exact Or.inl ⟨v, vm₁, B, X₁.warmed, X', hpost, fun target h => hstep₁ _ fun acts => by rw [doInvoke_state]; exact hsteps.trans h⟩
  · exact Or.inr ⟨q, vm₁, B, X₁.warmed, X', hpost, hstep₁ _ fun acts => by rw [doInvoke_state]; exact hsteps⟩
theorem vx_callS (X : Stand p l e R s m args below meth c T locs cells slots) (hexec : p.tables.exec = Jvm.exec) {own : String} {index : Nat} {y : MethodName} {bytes : ByteArray} {maxL : Nat} {ret : Option FieldType}
    (hown : s.vm.findClass own = some m.cls) (hlink : (Cond.methodLink own index y).before args s = true) (hstat : (Cond.static y).before args s = true) (hinit : (Cond.initialized y.cls).before args s = true)
    (hcode : (Cond.code y bytes maxL ret).before args s = true) (hy : y.cls ≠ "java/lang/invoke/MethodHandle" ∧ y.cls ≠ "java/lang/invoke/VarHandle")
    {W9 : Nat} {Pre : Pt → Array Value → Prop} {Post : Pt → Array Value → Option Value → Pt → Prop} {PostX : Pt → Array Value → Addr → Pt → Prop} (hK : vx_Back l R p e below s args y 3 W9 Pre Post PostX)
    {g : JFrame} (hg : g.method = m) (hsize : g.locals.size = c.maxLocals) {argsL rest : List Value} (hlen : ∀ sig, parseMethodDescriptor y.desc = some sig → argsL.length = sig.parameters.length)
    (hstack : g.stack = argsL.reverse ++ rest) (hW : 2 * g.monitorRoom + (rest.map fun v => v.category).sum ≤ W9) (hdg : decode c.code g.pc = .ok (.invokestatic index, 3))
    (hpre : ∀ vm₁, s.WarmedH vm₁ → Pre ⟨T.setVm vm₁, locs, cells, slots⟩ argsL.toArray) :
    (∃ (v : Option Value) (vm₁ : Vm) (B : Pt), s.WarmedH vm₁ ∧ Stand p l e R s m args below meth c B.U B.locs B.cells B.slots ∧ Post ⟨T.setVm vm₁, locs, cells, slots⟩ argsL.toArray v B ∧
      ∀ target, Steps p.tables e below (B.U.setTop { g with pc := g.pc + 3, stack := v.toList ++ rest }) target → Steps p.tables e below (T.setTop g) target) ∨
    (∃ (q : Addr) (vm₁ : Vm) (B : Pt), s.WarmedH vm₁ ∧ Stand p l e R s m args below meth c B.U B.locs B.cells B.slots ∧ PostX ⟨T.setVm vm₁, locs, cells, slots⟩ argsL.toArray q B ∧
      Steps p.tables e below (T.setTop g) ((B.U.setTop { g with stack := rest }).pushFrame (.throwing q))) := by
  obtain ⟨mk, hnamed⟩ := Cond.code_named hcode
  obtain ⟨methM, cM, hmethM, -, -, -, -, -, -, hsigM⟩ := Cond.code_spec hnamed hcode
  have hstatic : methM.isStatic = true := Cond.static_spec hnamed hmethM hstat
  obtain ⟨kP, hkP, -⟩ := className_of_methodNamed hnamed
  have hinitP : kP.init = .initialized := Cond.initialized_spec (findClass_of_methodNamed hnamed) hkP hinit
  obtain ⟨vm₁, X₁, hstep₁⟩ := X.invokestatic hexec hown hlink hnamed hmethM hstatic hkP hinitP hy (g := g) hg (argsL := argsL) (rest := rest) (hlen _ hsigM) hstack hdg
  rcases hK m meth c ⟨T.setVm vm₁, locs, cells, slots⟩ { g with stack := rest } (.invokestatic index) mk argsL.toArray X₁ hg hsize hdg hW (X₁.named hnamed) (hpre vm₁ X₁.warmed) with ⟨v, B, X', hpost, hsteps⟩ | ⟨q, B, X', hpost, hsteps⟩
  · exact Or.inl ⟨v, vm₁, B, X₁.warmed, X', hpost, fun target h => hstep₁ _ fun acts => by rw [doInvoke_state]; exact hsteps.trans h⟩
  · exact Or.inr ⟨q, vm₁, B, X₁.warmed, X', hpost, hstep₁ _ fun acts => by rw [doInvoke_state]; exact hsteps⟩
end Calls
theorem vx_cls {s : State} {T : State} {vm₁ : Vm} {E : String} {k : ClassId} (hW : s.WarmedH vm₁) (h : (T.setVm vm₁).vm.findClass E = some k) : s.vm.findClass E = some k := by
  have h1 : vm₁.findClass E = some k := h
  rw [hW.alike.findClass] at h1
  exact h1
/-- the method's frame g, with q thrown over it -/
def vx_W (p : Program) (l : Launch) (e : Env) (R : Room) (s : State) (m : MethodId) (args : Array Value) (below : List Frame) (meth : Method) (c : Code) (H : Heap) (locs : List Loc) (cells slots : Nat) (Q : State → Prop) (g : JFrame) (q : Addr) : Prop :=
  ∀ T : State, T.heap = H → Stand p l e R s m args below meth c T locs cells slots → ∃ t, Steps p.tables e below ((T.setTop g).pushFrame (.throwing q)) t ∧ Q t
def vx_Run (p : Program) (l : Launch) (e : Env) (R : Room) (s : State) (m : MethodId) (args : Array Value) (below : List Frame) (meth : Method) (c : Code) (H : Heap) (locs : List Loc) (cells slots mc ms : Nat) (g : JFrame) (rest : List Value) (Qa : State → Outcome → State → Prop) (XC : String → State → State → Prop) (free : Addr → Prop) : Prop :=
  ∀ T : State, T.heap = H → Stand p l e R s m args below meth c T locs cells slots →
    (∃ (v : Option Value) (st₀ t T' : State) (L : List Loc), st₀.heap = H ∧ Stand p l e R s m args below meth c T' (locs ++ L) (cells + mc) (slots + ms) ∧ (∀ q ∈ L, free q.base) ∧ T'.heap = t.heap ∧ T'.vm = t.vm ∧ Qa st₀ (.returned v) t ∧
      Goes p e below T g T' { g with pc := g.pc + 3, stack := v.toList ++ rest }) ∨
    (∃ (q : Addr) (st₀ t T' : State) (L : List Loc) (E : String) (ce : Cell), st₀.heap = H ∧ Stand p l e R s m args below meth c T' (locs ++ L) (cells + mc) (slots + ms) ∧ (∀ z ∈ L, free z.base) ∧ T'.heap = t.heap ∧ T'.vm = t.vm ∧ XC E st₀ t ∧ t.heap[q]? = some ce ∧ ce.vm = .none ∧ s.vm.findClass E = some ce.cls ∧
      Steps p.tables e below (T.setTop g) ((T'.setTop { g with stack := rest }).pushFrame (.throwing q)))
def vx_X {S : Type} (px : S → Prop) (B : String → S → State → Prop) (A : Nat → Prop) : String → State → State → Prop := fun E st t => ∃ u : S, px u ∧ B E u t ∧ va_F A st t
section Runs
variable {p : Program} {l : Launch} {e : Env} {R : Room} {s : State} {m : MethodId} {args : Array Value} {below : List Frame} {meth : Method} {c : Code} {H : Heap} {locs : List Loc} {cells slots : Nat}
variable {y : MethodName} {bytes cc : ByteArray} {maxL nL mc ms n index : Nat} {ret : Option FieldType} {ws : List Cond} {rm : Room} {Pc : Array Value → State → Prop} {Qc : Array Value → State → Outcome → State → Prop} {XC : String → State → State → Prop} {free : Addr → Prop} {Ts : List Cond} {own C : String} {b : Addr} {As rest : List Value} {g : JFrame}
theorem vx_callBack (cb : CallB R s args own index y bytes maxL ret ws rm mc ms n) (hM : vx_Met l y ws rm Pc Qc XC mc ms free) (hbl : FrameBlind Pc) : vx_Back l R p e below s args y 3 8 (PreOf R mc ms Pc) (PostOf Qc mc ms free) (vx_Post XC mc ms free) := by
  obtain ⟨hrc, hrs, hfr, hlo, hws, hcw, -, hini, -⟩ := cb
  exact vx_back (bytes := bytes) (maxL := maxL) (ret := ret) hM hbl hrc hrs hfr hlo hws hcw (fun a' U hW => word_at hW (Or.inl (by first | rfl | simp [Cond.onTables, Cond.keeps, Cond.steady])) hini)
theorem vx_runV (S : CallFix p m c cc nL s args Ts own) (hM : vx_Met l y ws rm Pc Qc XC mc ms free) (cw : CallW R s args own C index y bytes maxL ret ws rm mc ms n) (hp : PreV s H C b Pc As)
    (hg : g.method = m) (hn : As.length = n) (hsize : g.locals.size = nL) (hstack : g.stack = As.reverse ++ .ref b :: rest) (hW : 2 * g.monitorRoom + (rest.map fun v => v.category).sum ≤ 8) (hdg : decode cc g.pc = .ok (.invokevirtual index, 3)) (hf : cells + mc ≤ R.cells ∧ slots + ms ≤ R.slots) :
    vx_Run p l e R s m args below meth c H locs cells slots mc ms g rest (Qc (Value.ref b :: As).toArray) XC free := by
  have hK : vx_Back l R p e below s args y 3 8 (PreOf R mc ms Pc) (PostOf Qc mc ms free) (vx_Post XC mc ms free) := vx_callBack cw.1 hM hp.1
  obtain ⟨⟨-, -, -, -, -, -, hcode, -, hy, hlen, hl⟩, hin, hse⟩ := cw
  obtain ⟨hx, hb, hml, ho, -⟩ := S
  obtain ⟨-, ⟨cellB, hcB, hoB, hclB⟩, hPc⟩ := hp
  intro T hT X
  rcases vx_callV X hx (C := C) (bytes := bytes) (maxL := maxL) (ret := ret) ho hl hin hse hcode hy hK (by rw [hT]; exact hcB) hoB hclB hg (hsize.trans hml.symm) (argsL := As) (rest := rest) (fun sig h => hn.trans (hlen sig h)) hstack hW (by rw [hb]; exact hdg)
    (fun vm₁ hW₁ => ⟨hf.1, hf.2, hPc (T.setVm vm₁) hT hW₁⟩) with ⟨v, vm₁, ⟨U', l2, c2, s2⟩, hW₁, X', ⟨g', mk, t, L, e1, e2, hq, h1, hL, h2, h3⟩, st⟩ | ⟨q, vm₁, ⟨U', l2, c2, s2⟩, hW₁, X', ⟨g', mk, t, L, E, ce, e1, e2, hq, hce, hcv, hcl, h1, hL, h2, h3⟩, st⟩
  · dsimp only [Pt.U, Pt.locs, Pt.cells, Pt.slots] at X' e1 e2 h1 h2 h3 st
    subst h1; subst h2; subst h3
    exact Or.inl ⟨v, (T.setVm vm₁).calling g' mk (Value.ref b :: As).toArray, t, U', L, hT, X', hL, e1, e2, hq, st⟩
  · dsimp only [Pt.U, Pt.locs, Pt.cells, Pt.slots] at X' e1 e2 h1 h2 h3 st hcl
    subst h1; subst h2; subst h3
    exact Or.inr ⟨q, (T.setVm vm₁).calling g' mk (Value.ref b :: As).toArray, t, U', L, E, ce, hT, X', hL, e1, e2, hq, hce, hcv, vx_cls hW₁ hcl, st⟩
theorem vx_runS (S : CallFix p m c cc nL s args Ts own) (hM : vx_Met l y ws rm Pc Qc XC mc ms free) (cw : CallB R s args own index y bytes maxL ret ws rm mc ms n ∧ (Cond.static y).before args s = true) (hp : PreS s H Pc As)
    (hg : g.method = m) (hn : As.length = n) (hsize : g.locals.size = nL) (hstack : g.stack = As.reverse ++ rest) (hW : 2 * g.monitorRoom + (rest.map fun v => v.category).sum ≤ 8) (hdg : decode cc g.pc = .ok (.invokestatic index, 3)) (hf : cells + mc ≤ R.cells ∧ slots + ms ≤ R.slots) :
    vx_Run p l e R s m args below meth c H locs cells slots mc ms g rest (Qc As.toArray) XC free := by
  have hK : vx_Back l R p e below s args y 3 8 (PreOf R mc ms Pc) (PostOf Qc mc ms free) (vx_Post XC mc ms free) := vx_callBack cw.1 hM hp.1
  obtain ⟨⟨-, -, -, -, -, -, hcode, hini, hy, hlen, hl⟩, hstt⟩ := cw
  obtain ⟨hx, hb, hml, ho, -⟩ := S
  intro T hT X
  rcases vx_callS X hx (bytes := bytes) (maxL := maxL) (ret := ret) ho hl hstt hini hcode hy hK hg (hsize.trans hml.symm) (argsL := As) (rest := rest) (fun sig h => hn.trans (hlen sig h)) hstack hW (by rw [hb]; exact hdg)
    (fun vm₁ hW₁ => ⟨hf.1, hf.2, hp.2 (T.setVm vm₁) hT hW₁⟩) with ⟨v, vm₁, ⟨U', l2, c2, s2⟩, hW₁, X', ⟨g', mk, t, L, e1, e2, hq, h1, hL, h2, h3⟩, st⟩ | ⟨q, vm₁, ⟨U', l2, c2, s2⟩, hW₁, X', ⟨g', mk, t, L, E, ce, e1, e2, hq, hce, hcv, hcl, h1, hL, h2, h3⟩, st⟩
  · dsimp only [Pt.U, Pt.locs, Pt.cells, Pt.slots] at X' e1 e2 h1 h2 h3 st
    subst h1; subst h2; subst h3
    exact Or.inl ⟨v, (T.setVm vm₁).calling g' mk As.toArray, t, U', L, hT, X', hL, e1, e2, hq, st⟩
  · dsimp only [Pt.U, Pt.locs, Pt.cells, Pt.slots] at X' e1 e2 h1 h2 h3 st hcl
    subst h1; subst h2; subst h3
    exact Or.inr ⟨q, (T.setVm vm₁).calling g' mk As.toArray, t, U', L, E, ce, hT, X', hL, e1, e2, hq, hce, hcv, vx_cls hW₁ hcl, st⟩
end Runs
section Rows
variable {p : Program} {l : Launch} {e : Env} {R : Room} {s : State} {m : MethodId} {args : Array Value} {below : List Frame} {meth : Method} {c : Code} {H : Heap} {locs : List Loc} {cells slots : Nat} {Q : State → Prop}
variable {mc ms : Nat} {free : Addr → Prop} {A0 A1 : Nat → Prop} {H0 : Heap} {a : Array Value} {pc : Nat} {ls : Array Slot} {st0 rest : List Value}
theorem vx_keep {st₀ t T' : State} {L : List Loc} (h0 : st₀.heap = H) (e1 : T'.heap = t.heap) (hS : va_S A0 H0 H locs) (hA : ∀ q, q < H.size → A1 q → A0 q) (hf : ∀ q, free q → A0 q) (hL : ∀ q ∈ L, free q.base) (hF : va_F A1 st₀ t) :
    H.size ≤ T'.heap.size ∧ (∀ q : Nat, q < H.size → ¬ A1 q → T'.heap[q]? = H[q]?) ∧ va_S A0 H0 T'.heap (locs ++ L) := by
  obtain ⟨hz, hk⟩ := hF
  rw [h0] at hz hk
  exact ⟨by rw [e1]; exact hz, fun q h1 h2 => by rw [e1]; exact hk q h1 h2,
    ⟨Nat.le_trans hS.1 (by rw [e1]; exact hz), fun q h1 h2 => by rw [e1, hk q (Nat.lt_of_lt_of_le h1 hS.1) (fun z => h2 (hA q (Nat.lt_of_lt_of_le h1 hS.1) z))]; exact hS.2.1 q h1 h2, fun q hq => by
      rcases List.mem_append.mp hq with h | h
      · exact hS.2.2 q h
      · exact hf _ (hL q h)⟩⟩
theorem vx_calli {S SX : Type} {post : Int32 → S → Prop} {px : SX → Prop} {B : S → State → Prop} {BX : String → SX → State → Prop} {AX : Nat → Prop} (hr : vx_Run p l e R s m args below meth c H locs cells slots mc ms (F0 m pc ls st0) rest (va_Qi post B A1 a) (vx_X px BX AX) free) (hS : va_S A0 H0 H locs) (hA : ∀ q, q < H.size → A1 q → A0 q) (hf : ∀ q, free q → A0 q) (hAX : ∀ q, q < H.size → AX q → A0 q)
    (kx : ∀ (E : String) (ce : Cell) (q9 : Addr) (u : SX) (t : State) (H1 : Heap) (locs1 : List Loc), t.heap = H1 → s.vm.Alike t.vm → px u → BX E u t → H.size ≤ H1.size → (∀ q : Nat, q < H.size → ¬ AX q → H1[q]? = H[q]?) → va_S A0 H0 H1 locs1 → H1[q9]? = some ce → ce.vm = .none → s.vm.findClass E = some ce.cls → vx_W p l e R s m args below meth c H1 locs1 (cells + mc) (slots + ms) Q (F0 m pc ls rest) q9)
    (kk : ∀ (r : Int32) (u : S) (t : State) (H1 : Heap) (locs1 : List Loc), t.heap = H1 → s.vm.Alike t.vm → post r u → B u t → H.size ≤ H1.size → (∀ q : Nat, q < H.size → ¬ A1 q → H1[q]? = H[q]?) → va_S A0 H0 H1 locs1 → W p l e R s m args below meth c H1 locs1 (cells + mc) (slots + ms) Q (F0 m (pc + 3) ls (.int r :: rest))) : W p l e R s m args below meth c H locs cells slots Q (F0 m pc ls st0) := by
  intro T hT X
  rcases hr T hT X with ⟨v, st₀, t, T', L, h0, X', hL, e1, e2, ⟨⟨r, u, hv, hp, hb⟩, hF⟩, st⟩ | ⟨q, st₀, t, T', L, E, ce, h0, X', hL, e1, e2, ⟨u, hp, hb, hF⟩, hce, hcv, hcl, st⟩
  · cases hv
    obtain ⟨k1, k2, k3⟩ := vx_keep h0 e1 hS hA hf hL hF
    obtain ⟨t2, a1, b1⟩ := kk r u t T'.heap (locs ++ L) e1.symm (by rw [← e2]; exact X'.warmed.alike) hp hb k1 k2 k3 T' rfl X'
    exact ⟨t2, st t2 a1, b1⟩
  · obtain ⟨k1, k2, k3⟩ := vx_keep h0 e1 hS hAX hf hL hF
    obtain ⟨t2, a1, b1⟩ := kx E ce q u t T'.heap (locs ++ L) e1.symm (by rw [← e2]; exact X'.warmed.alike) hp hb k1 k2 k3 (by rw [e1]; exact hce) hcv hcl T' rfl X'
    exact ⟨t2, st.trans a1, b1⟩
theorem vx_calll {S SX : Type} {post : Int64 → S → Prop} {px : SX → Prop} {B : S → State → Prop} {BX : String → SX → State → Prop} {AX : Nat → Prop} (hr : vx_Run p l e R s m args below meth c H locs cells slots mc ms (F0 m pc ls st0) rest (va_Ql post B A1 a) (vx_X px BX AX) free) (hS : va_S A0 H0 H locs) (hA : ∀ q, q < H.size → A1 q → A0 q) (hf : ∀ q, free q → A0 q) (hAX : ∀ q, q < H.size → AX q → A0 q)
    (kx : ∀ (E : String) (ce : Cell) (q9 : Addr) (u : SX) (t : State) (H1 : Heap) (locs1 : List Loc), t.heap = H1 → s.vm.Alike t.vm → px u → BX E u t → H.size ≤ H1.size → (∀ q : Nat, q < H.size → ¬ AX q → H1[q]? = H[q]?) → va_S A0 H0 H1 locs1 → H1[q9]? = some ce → ce.vm = .none → s.vm.findClass E = some ce.cls → vx_W p l e R s m args below meth c H1 locs1 (cells + mc) (slots + ms) Q (F0 m pc ls rest) q9)
    (kk : ∀ (r : Int64) (u : S) (t : State) (H1 : Heap) (locs1 : List Loc), t.heap = H1 → s.vm.Alike t.vm → post r u → B u t → H.size ≤ H1.size → (∀ q : Nat, q < H.size → ¬ A1 q → H1[q]? = H[q]?) → va_S A0 H0 H1 locs1 → W p l e R s m args below meth c H1 locs1 (cells + mc) (slots + ms) Q (F0 m (pc + 3) ls (.long r :: rest))) : W p l e R s m args below meth c H locs cells slots Q (F0 m pc ls st0) := by
  intro T hT X
  rcases hr T hT X with ⟨v, st₀, t, T', L, h0, X', hL, e1, e2, ⟨⟨r, u, hv, hp, hb⟩, hF⟩, st⟩ | ⟨q, st₀, t, T', L, E, ce, h0, X', hL, e1, e2, ⟨u, hp, hb, hF⟩, hce, hcv, hcl, st⟩
  · cases hv
    obtain ⟨k1, k2, k3⟩ := vx_keep h0 e1 hS hA hf hL hF
    obtain ⟨t2, a1, b1⟩ := kk r u t T'.heap (locs ++ L) e1.symm (by rw [← e2]; exact X'.warmed.alike) hp hb k1 k2 k3 T' rfl X'
    exact ⟨t2, st t2 a1, b1⟩
  · obtain ⟨k1, k2, k3⟩ := vx_keep h0 e1 hS hAX hf hL hF
    obtain ⟨t2, a1, b1⟩ := kx E ce q u t T'.heap (locs ++ L) e1.symm (by rw [← e2]; exact X'.warmed.alike) hp hb k1 k2 k3 (by rw [e1]; exact hce) hcv hcl T' rfl X'
    exact ⟨t2, st.trans a1, b1⟩
theorem vx_callf {S SX : Type} {post : UInt32 → S → Prop} {px : SX → Prop} {B : S → State → Prop} {BX : String → SX → State → Prop} {AX : Nat → Prop} (hr : vx_Run p l e R s m args below meth c H locs cells slots mc ms (F0 m pc ls st0) rest (va_Qf post B A1 a) (vx_X px BX AX) free) (hS : va_S A0 H0 H locs) (hA : ∀ q, q < H.size → A1 q → A0 q) (hf : ∀ q, free q → A0 q) (hAX : ∀ q, q < H.size → AX q → A0 q)
    (kx : ∀ (E : String) (ce : Cell) (q9 : Addr) (u : SX) (t : State) (H1 : Heap) (locs1 : List Loc), t.heap = H1 → s.vm.Alike t.vm → px u → BX E u t → H.size ≤ H1.size → (∀ q : Nat, q < H.size → ¬ AX q → H1[q]? = H[q]?) → va_S A0 H0 H1 locs1 → H1[q9]? = some ce → ce.vm = .none → s.vm.findClass E = some ce.cls → vx_W p l e R s m args below meth c H1 locs1 (cells + mc) (slots + ms) Q (F0 m pc ls rest) q9)
    (kk : ∀ (r : UInt32) (u : S) (t : State) (H1 : Heap) (locs1 : List Loc), t.heap = H1 → s.vm.Alike t.vm → post r u → B u t → H.size ≤ H1.size → (∀ q : Nat, q < H.size → ¬ A1 q → H1[q]? = H[q]?) → va_S A0 H0 H1 locs1 → W p l e R s m args below meth c H1 locs1 (cells + mc) (slots + ms) Q (F0 m (pc + 3) ls (.float r :: rest))) : W p l e R s m args below meth c H locs cells slots Q (F0 m pc ls st0) := by
  intro T hT X
  rcases hr T hT X with ⟨v, st₀, t, T', L, h0, X', hL, e1, e2, ⟨⟨r, u, hv, hp, hb⟩, hF⟩, st⟩ | ⟨q, st₀, t, T', L, E, ce, h0, X', hL, e1, e2, ⟨u, hp, hb, hF⟩, hce, hcv, hcl, st⟩
  · cases hv
    obtain ⟨k1, k2, k3⟩ := vx_keep h0 e1 hS hA hf hL hF
    obtain ⟨t2, a1, b1⟩ := kk r u t T'.heap (locs ++ L) e1.symm (by rw [← e2]; exact X'.warmed.alike) hp hb k1 k2 k3 T' rfl X'
    exact ⟨t2, st t2 a1, b1⟩
  · obtain ⟨k1, k2, k3⟩ := vx_keep h0 e1 hS hAX hf hL hF
    obtain ⟨t2, a1, b1⟩ := kx E ce q u t T'.heap (locs ++ L) e1.symm (by rw [← e2]; exact X'.warmed.alike) hp hb k1 k2 k3 (by rw [e1]; exact hce) hcv hcl T' rfl X'
    exact ⟨t2, st.trans a1, b1⟩
theorem vx_calld {S SX : Type} {post : UInt64 → S → Prop} {px : SX → Prop} {B : S → State → Prop} {BX : String → SX → State → Prop} {AX : Nat → Prop} (hr : vx_Run p l e R s m args below meth c H locs cells slots mc ms (F0 m pc ls st0) rest (va_Qd post B A1 a) (vx_X px BX AX) free) (hS : va_S A0 H0 H locs) (hA : ∀ q, q < H.size → A1 q → A0 q) (hf : ∀ q, free q → A0 q) (hAX : ∀ q, q < H.size → AX q → A0 q)
    (kx : ∀ (E : String) (ce : Cell) (q9 : Addr) (u : SX) (t : State) (H1 : Heap) (locs1 : List Loc), t.heap = H1 → s.vm.Alike t.vm → px u → BX E u t → H.size ≤ H1.size → (∀ q : Nat, q < H.size → ¬ AX q → H1[q]? = H[q]?) → va_S A0 H0 H1 locs1 → H1[q9]? = some ce → ce.vm = .none → s.vm.findClass E = some ce.cls → vx_W p l e R s m args below meth c H1 locs1 (cells + mc) (slots + ms) Q (F0 m pc ls rest) q9)
    (kk : ∀ (r : UInt64) (u : S) (t : State) (H1 : Heap) (locs1 : List Loc), t.heap = H1 → s.vm.Alike t.vm → post r u → B u t → H.size ≤ H1.size → (∀ q : Nat, q < H.size → ¬ A1 q → H1[q]? = H[q]?) → va_S A0 H0 H1 locs1 → W p l e R s m args below meth c H1 locs1 (cells + mc) (slots + ms) Q (F0 m (pc + 3) ls (.double r :: rest))) : W p l e R s m args below meth c H locs cells slots Q (F0 m pc ls st0) := by
  intro T hT X
  rcases hr T hT X with ⟨v, st₀, t, T', L, h0, X', hL, e1, e2, ⟨⟨r, u, hv, hp, hb⟩, hF⟩, st⟩ | ⟨q, st₀, t, T', L, E, ce, h0, X', hL, e1, e2, ⟨u, hp, hb, hF⟩, hce, hcv, hcl, st⟩
  · cases hv
    obtain ⟨k1, k2, k3⟩ := vx_keep h0 e1 hS hA hf hL hF
    obtain ⟨t2, a1, b1⟩ := kk r u t T'.heap (locs ++ L) e1.symm (by rw [← e2]; exact X'.warmed.alike) hp hb k1 k2 k3 T' rfl X'
    exact ⟨t2, st t2 a1, b1⟩
  · obtain ⟨k1, k2, k3⟩ := vx_keep h0 e1 hS hAX hf hL hF
    obtain ⟨t2, a1, b1⟩ := kx E ce q u t T'.heap (locs ++ L) e1.symm (by rw [← e2]; exact X'.warmed.alike) hp hb k1 k2 k3 (by rw [e1]; exact hce) hcv hcl T' rfl X'
    exact ⟨t2, st.trans a1, b1⟩
theorem vx_callv {S SX : Type} {post : S → Prop} {px : SX → Prop} {B : S → State → Prop} {BX : String → SX → State → Prop} {AX : Nat → Prop} (hr : vx_Run p l e R s m args below meth c H locs cells slots mc ms (F0 m pc ls st0) rest (va_Qv post B A1 a) (vx_X px BX AX) free) (hS : va_S A0 H0 H locs) (hA : ∀ q, q < H.size → A1 q → A0 q) (hf : ∀ q, free q → A0 q) (hAX : ∀ q, q < H.size → AX q → A0 q)
    (kx : ∀ (E : String) (ce : Cell) (q9 : Addr) (u : SX) (t : State) (H1 : Heap) (locs1 : List Loc), t.heap = H1 → s.vm.Alike t.vm → px u → BX E u t → H.size ≤ H1.size → (∀ q : Nat, q < H.size → ¬ AX q → H1[q]? = H[q]?) → va_S A0 H0 H1 locs1 → H1[q9]? = some ce → ce.vm = .none → s.vm.findClass E = some ce.cls → vx_W p l e R s m args below meth c H1 locs1 (cells + mc) (slots + ms) Q (F0 m pc ls rest) q9)
    (kk : ∀ (u : S) (t : State) (H1 : Heap) (locs1 : List Loc), t.heap = H1 → s.vm.Alike t.vm → post u → B u t → H.size ≤ H1.size → (∀ q : Nat, q < H.size → ¬ A1 q → H1[q]? = H[q]?) → va_S A0 H0 H1 locs1 → W p l e R s m args below meth c H1 locs1 (cells + mc) (slots + ms) Q (F0 m (pc + 3) ls (rest))) : W p l e R s m args below meth c H locs cells slots Q (F0 m pc ls st0) := by
  intro T hT X
  rcases hr T hT X with ⟨v, st₀, t, T', L, h0, X', hL, e1, e2, ⟨⟨u, hv, hp, hb⟩, hF⟩, st⟩ | ⟨q, st₀, t, T', L, E, ce, h0, X', hL, e1, e2, ⟨u, hp, hb, hF⟩, hce, hcv, hcl, st⟩
  · cases hv
    obtain ⟨k1, k2, k3⟩ := vx_keep h0 e1 hS hA hf hL hF
    obtain ⟨t2, a1, b1⟩ := kk u t T'.heap (locs ++ L) e1.symm (by rw [← e2]; exact X'.warmed.alike) hp hb k1 k2 k3 T' rfl X'
    exact ⟨t2, st t2 a1, b1⟩
  · obtain ⟨k1, k2, k3⟩ := vx_keep h0 e1 hS hAX hf hL hF
    obtain ⟨t2, a1, b1⟩ := kx E ce q u t T'.heap (locs ++ L) e1.symm (by rw [← e2]; exact X'.warmed.alike) hp hb k1 k2 k3 (by rw [e1]; exact hce) hcv hcl T' rfl X'
    exact ⟨t2, st.trans a1, b1⟩
end Rows
section Ends
variable {p : Program} {l : Launch} {e : Env} {R : Room} {s : State} {m : MethodId} {args : Array Value} {below : List Frame} {meth : Method} {c : Code} {H : Heap} {locs : List Loc} {cells slots : Nat} {Q : State → Prop}
variable {mc ms : Nat} {free : Addr → Prop} {A0 A1 : Nat → Prop} {H0 : Heap} {a : Array Value} {ls : Array Slot} {st0 rest : List Value}
variable {Qc : Array Value → State → Outcome → State → Prop} {XC : String → State → State → Prop}
/-- what a body that may throw owes at its end -/
def vx_MQ (below : List Frame) (Qc : Array Value → State → Outcome → State → Prop) (XC : String → State → State → Prop) (a : Array Value) (s : State) (mc ms : Nat) (free : Addr → Prop) : State → Prop := fun t =>
  ∃ o, t.status = .running ∧ Ended t below o ∧ vx_Q Qc XC mc ms free a s o t
theorem vx_ret {g : JFrame} {mc ms : Nat} (k : W p l e R s m args below meth c H locs cells slots (MQ below Qc args s mc ms free) g) : W p l e R s m args below meth c H locs cells slots (vx_MQ below Qc XC args s mc ms free) g := by
  intro T hT X
  obtain ⟨t, a1, o, b1, b2, b3, b4⟩ := k T hT X
  exact ⟨t, a1, o, b1, b2, Or.inl ⟨b3, b4⟩⟩
/-- not caught here: it goes on to the caller -/
theorem vx_widen {g : JFrame} {q : Addr} {k n : Nat} (h1 : cells ≤ k) (h2 : slots ≤ n) (kk : vx_W p l e R s m args below meth c H locs k n Q g q) : vx_W p l e R s m args below meth c H locs cells slots Q g q := fun T hT X => kk T hT (stand_widen X h1 h2)
theorem vx_out {pc : Nat} {E : String} {ce : Cell} {q : Addr} {mc ms : Nat} (hout : ∀ x ∈ c.exceptionTable.toList, covers x pc = false) (hlocks : meth.locks = false) (hcell : H[q]? = some ce) (hv : ce.vm = .none) (hcl : s.vm.findClass E = some ce.cls)
    (hx : ∀ t : State, t.heap = H → s.vm.Alike t.vm → XC E s t) (hf : ∀ z ∈ locs, free z.base) (hc : cells ≤ mc) (hs : slots ≤ ms) :
    vx_W p l e R s m args below meth c H locs cells slots (vx_MQ below Qc XC args s mc ms free) (F0 m pc ls rest) q := by
  intro T hT X
  obtain ⟨st1, hrun, hend, hW, hsm⟩ := X.leaveThrown q (g := F0 m pc ls rest) rfl rfl rfl hout hlocks
  have hcell9 : (T.setFrames (.throwing q :: below)).heap[q]? = some ce := by
    show T.heap[q]? = some ce
    rw [hT]; exact hcell
  exact ⟨_, st1, .threw q, hrun, hend, Or.inr ⟨q, rfl, E, ce, locs, hx _ hT hW.alike, hcell9, hv, hcl, hW, hsm.mono hc hs, hf⟩⟩
theorem vx_frame {U : State} {k n : Nat} (h : s.sameButNew ({ U with vm := s.vm } : State) locs k n) : s.heap.size ≤ U.heap.size ∧ ∀ q : Nat, q < s.heap.size → (∀ z ∈ locs, z.base ≠ q) → U.heap[q]? = s.heap[q]? := by
  obtain ⟨-, h2, -, -, -, h6⟩ := h
  refine ⟨h2, fun q hq hz => ?_⟩
  obtain ⟨c9, e1, e2, e3, e4⟩ := h6 q _ (Array.getElem?_eq_getElem hq)
  have hs : c9.slots = (s.heap[q]).slots := Array.ext_getElem? fun i => e4 i fun hm => hz _ hm rfl
  have h9 : c9 = s.heap[q] := by
    rw [hs] at e2
    exact e2
  have e5 : U.heap[q]? = some c9 := e1
  rw [e5, h9, Array.getElem?_eq_getElem hq]
/-- the words of a throw but the four that speak of the heap -/
def vx_no (w : Cond) : Bool := decide (w ≠ .isRef (.static Bundle.tN "UNASSIGNED_STACK" Bundle.steD)) && decide (w ≠ .isRef (.static Bundle.tN "SUPPRESSED_SENTINEL" Bundle.listD)) && decide (w ≠ .laysStatic Bundle.tN "UNASSIGNED_STACK" Bundle.steD) && decide (w ≠ .laysStatic Bundle.tN "SUPPRESSED_SENTINEL" Bundle.listD)
def vx_at0 (own : String) (ic : Nat) (X : String) (names : List String) : List Cond := (Bundle.ownAtoms0 own ic X names).filter vx_no
def vx_atS (own : String) (ic : Nat) (X : String) (names : List String) : List Cond := (Bundle.ownAtoms own ic X names).filter vx_no
/-- a word that the tables alone decide, or a good one -/
def vx_ot (w : Cond) : Bool := w.onTables || goodWord w
theorem vx_ot_at {args a' : Array Value} {s U : State} {w : Cond} (hW : s.WarmedH U.vm) (hvm : s.vm = U.vm) (hg : vx_ot w = true) (h : w.before args s = true) : w.before a' U = true := by
  simp only [vx_ot, Bool.or_eq_true] at hg
  rcases hg with hg | hg
  · exact va_tabs hg hvm h
  · exact word_at hW (good_of_word hg) h
/-- a list's words: the good ones out of the method's own list, the others by premises of their own -/
theorem vx_hat {args : Array Value} {s : State} {L B : List Cond} (h1 : ∀ w ∈ L.filter goodWord, w.before args s = true) (h2 : ∀ w ∈ L.filter (fun w => !goodWord w), w ∈ B) (h3 : ∀ w ∈ B, w.before args s = true) : ∀ w ∈ L, w.before args s = true := by
  intro w hw
  by_cases g : goodWord w = true
  · exact h1 w (List.mem_filter.mpr ⟨hw, g⟩)
  · refine h3 w (h2 w (List.mem_filter.mpr ⟨hw, ?_⟩))
    show (!goodWord w) = true
    cases hgw : goodWord w
    · rfl
    · exact absurd hgw g
theorem vx_c {args : Array Value} {s : State} {w : Cond} {B : List Cond} (h : w.before args s = true) (t : ∀ w ∈ B, w.before args s = true) : ∀ w' ∈ w :: B, w'.before args s = true := fun w' h' => (List.mem_cons.mp h').elim (fun e => by rw [e]; exact h) (t w')
theorem vx_n {args : Array Value} {s : State} : ∀ w ∈ ([] : List Cond), w.before args s = true := fun _ h => nomatch h
theorem vx_own {args : Array Value} {s : State} {L : List Cond} (h1 : ∀ w ∈ L.filter vx_no, w.before args s = true)
    (hU : (Cond.isRef (.static Bundle.tN "UNASSIGNED_STACK" Bundle.steD)).before args s = true) (hN : (Cond.isRef (.static Bundle.tN "SUPPRESSED_SENTINEL" Bundle.listD)).before args s = true)
    (lU : (Cond.laysStatic Bundle.tN "UNASSIGNED_STACK" Bundle.steD).before args s = true) (lN : (Cond.laysStatic Bundle.tN "SUPPRESSED_SENTINEL" Bundle.listD).before args s = true) : ∀ w ∈ L, w.before args s = true := by
  intro w hw
  by_cases e1 : w = .isRef (.static Bundle.tN "UNASSIGNED_STACK" Bundle.steD)
  · rw [e1]; exact hU
  · by_cases e2 : w = .isRef (.static Bundle.tN "SUPPRESSED_SENTINEL" Bundle.listD)
    · rw [e2]; exact hN
    · by_cases e3 : w = .laysStatic Bundle.tN "UNASSIGNED_STACK" Bundle.steD
      · rw [e3]; exact lU
      · by_cases e4 : w = .laysStatic Bundle.tN "SUPPRESSED_SENTINEL" Bundle.listD
        · rw [e4]; exact lN
        · exact h1 w (List.mem_filter.mpr ⟨hw, by unfold vx_no; rw [decide_eq_true e1, decide_eq_true e2, decide_eq_true e3, decide_eq_true e4]; rfl⟩)
/-- where a static field lies, its class's statics cell in H -/
def vx_L (C n d : String) (A : Nat → Prop) (U : State) (H : Heap) : Prop := ∃ (c : ClassId) (k : Class) (i : Nat) (f : Field) (a : Nat) (cell : Cell), U.vm.findClass C = some c ∧ U.fieldFound? C n d = some (c, k, i, f) ∧ f.isStatic = true ∧ k.statics = some a ∧ H[a]? = some cell ∧ cell.vm.isStatics = true ∧ cell.cls = c ∧ f.slot < cell.slots.size ∧ k.staticTypes[f.slot]? = some f.type ∧ ¬ A a
theorem vx_L.moved {C n d : String} {A : Nat → Prop} {u U : State} {H : Heap} (hvm : u.vm.Alike U.vm) (h : vx_L C n d A u H) : vx_L C n d A U H := by
  obtain ⟨c, k, i, f, a, cell, h1, h2, h3, h4, h5, h6, h7, h8, h9, h10⟩ := h
  obtain ⟨k', hi', he⟩ := State.fieldFound?_setVm hvm h2
  exact ⟨c, k', i, f, a, cell, by rw [hvm.findClass]; exact h1, hi', h3, by rw [he]; exact h4, h5, h6, h7, h8, by rw [he]; exact h9, h10⟩
theorem vx_L.kept {C n d : String} {A : Nat → Prop} {U : State} {H H1 : Heap} (h : vx_L C n d A U H) (hq : ∀ a : Nat, a < H.size → ¬ A a → H1[a]? = H[a]?) : vx_L C n d A U H1 := by
  obtain ⟨c, k, i, f, a, cell, h1, h2, h3, h4, h5, h6, h7, h8, h9, h10⟩ := h
  exact ⟨c, k, i, f, a, cell, h1, h2, h3, h4, by rw [hq a (Array.getElem?_eq_some_iff.mp h5).1 h10]; exact h5, h6, h7, h8, h9, h10⟩
theorem vx_L.narrow {C n d : String} {A B : Nat → Prop} {U : State} {H : Heap} (h : vx_L C n d A U H) (hAB : ∀ q, B q → A q) : vx_L C n d B U H := by
  obtain ⟨c, k, i, f, a, cell, h1, h2, h3, h4, h5, h6, h7, h8, h9, h10⟩ := h
  exact ⟨c, k, i, f, a, cell, h1, h2, h3, h4, h5, h6, h7, h8, h9, fun z => h10 (hAB _ z)⟩
theorem vx_L.word {C n d : String} {A : Nat → Prop} {s : State} {args : Array Value} (h : vx_L C n d A s s.heap) : (Cond.laysStatic C n d).before args s = true := by
  obtain ⟨c, k, i, f, a, cell, h1, h2, h3, h4, h5, h6, h7, h8, h9, -⟩ := h
  show (Cond.laysStatic C n d).holds args s none s [] = true
  exact Cond.laysStatic_of h1 h2 h3 h4 h5 h6 h7 h8 h9
/-- .. and what it holds: null or some reference -/
def vx_Zq (C n d : String) (A : Nat → Prop) (U : State) (H : Heap) : Prop := va_Zq C n d A U H ∧ vx_L C n d A U H
theorem vx_Zq.moved {C n d : String} {A : Nat → Prop} {u U : State} {H : Heap} (hvm : u.vm.Alike U.vm) (h : vx_Zq C n d A u H) : vx_Zq C n d A U H := ⟨va_Zq.moved hvm h.1, vx_L.moved hvm h.2⟩
theorem vx_Zq.kept {C n d : String} {A : Nat → Prop} {U : State} {H H1 : Heap} (h : vx_Zq C n d A U H) (hq : ∀ a : Nat, a < H.size → ¬ A a → H1[a]? = H[a]?) : vx_Zq C n d A U H1 := ⟨va_Zq.kept h.1 hq, vx_L.kept h.2 hq⟩
theorem vx_Zq.narrow {C n d : String} {A B : Nat → Prop} {U : State} {H : Heap} (h : vx_Zq C n d A U H) (hAB : ∀ q, B q → A q) : vx_Zq C n d B U H := ⟨va_Zq.narrow h.1 hAB, vx_L.narrow h.2 hAB⟩
theorem vx_Zqof {args : Array Value} {s : State} {C n d : String} {A : Nat → Prop} (hl : (Cond.laysStatic C n d).before args s = true) (hini : (Cond.initialized C).before args s = true) (h : (Cond.isRef (.static C n d)).before args s = true) (hA : ∀ a : Nat, a < s.heap.size → ¬ A a) : vx_Zq C n d A s s.heap := by
  refine ⟨va_Zqof hl hini h hA, ?_⟩
  obtain ⟨c, k, i, f, a, cell, h1, h2, h3, h4, h5, h6, h7, h8, h9⟩ := Cond.laysStatic_spec hl
  exact ⟨c, k, i, f, a, cell, h1, h2, h3, h4, h5, h6, h7, h8, h9, hA a (Array.getElem?_eq_some_iff.mp h5).1⟩
theorem vx_isRef {C n d : String} {v : Value} {A : Nat → Prop} {s : State} {args : Array Value} (h : va_Z C n d v A s s.heap) (hv : v.isRef = true) : (Cond.isRef (.static C n d)).before args s = true := by
  obtain ⟨cf, kf, fi, f, a, cell, h1, h2, h3, h4, h5, h6, h7, -⟩ := h
  have he : (Term.static C n d).eval args s none [] s = some v := by
    simp [Term.eval, State.fieldNamed?, h1, h2, h4, h5, h6, h7]
  simp only [Cond.before, Cond.holds, Cond.value, he]
  cases v <;> simp_all [Value.isRef]
theorem vx_isRefq {C n d : String} {A : Nat → Prop} {s : State} {args : Array Value} (h : va_Zq C n d A s s.heap) : (Cond.isRef (.static C n d)).before args s = true := by
  rcases h with h | ⟨t, h⟩
  · exact vx_isRef h rfl
  · exact vx_isRef h rfl
/-- the same frame, seen from here: as if the method were called anew in this heap -/
theorem vx_rebase {T : State} (X : Stand p l e R s m args below meth c T locs cells slots) {R' : Room} (hf : R'.frames ≤ R.frames) (hl : R'.locals ≤ R.locals) (hc : cells + R'.cells ≤ R.cells) (hs : slots + R'.slots ≤ R.slots) :
    Stand p l e R' ((T.setVm s.vm).setFrames (.invoking m args :: below)) m args below meth c T [] 0 0 := by
  have htop : (T.setVm s.vm).topJava?.isSome := X.here.top
  have hF : ((T.setVm s.vm).setFrames (.invoking m args :: below)).frames = .invoking m args :: below := State.frames_setFrames _ (State.cur_lt_of_top htop)
  obtain ⟨g₀, hg0⟩ := Option.isSome_iff_exists.mp htop
  obtain ⟨r, hr⟩ := State.topJava?_eq_some.mp hg0
  have hl9 : e.platform.stackLimits (T.setVm s.vm).me = e.platform.stackLimits s.me := X.limits
  have hb9 : (T.setVm s.vm).me.stackBytes = s.me.stackBytes := X.bytes
  refine ⟨X.admits, X.cas, X.clock, hF, ?_, X.hears, X.method, X.code, X.here, X.tail, X.warmed, ?_, ?_, ?_⟩
  · have h := X.room
    have hU : ((T.setVm s.vm).setFrames (.invoking m args :: below)).localsInUse = s.localsInUse := by
      rw [State.localsInUse_invoking hF (meth := meth) (c := c) X.method X.code, State.localsInUse_invoking X.frames X.method X.code]
    simp only [State.hasRoom, Bool.and_eq_true, decide_eq_true_eq] at h ⊢
    obtain ⟨⟨⟨⟨h1, h2, h3, h4, h5, h6⟩, h7⟩, h8⟩, h9⟩ := h
    rw [X.frames, List.length_cons] at h2 h3
    have q1 := X.heapSize
    have q2 := X.used
    simp only [hF, hU, List.length_cons, State.stackLimits_setFrames, State.stackBytes_setFrames, hl9, hb9]
    refine ⟨⟨⟨⟨by omega, by omega, by omega, by omega, by omega, h6⟩, ?_⟩, ?_⟩, X.book⟩
    · show T.heap.size + R'.cells ≤ e.platform.maxCells
      omega
    · show T.slotsUsed + R'.slots ≤ e.platform.maxSlots
      omega
  · rw [State.stackLimits_setFrames]; rfl
  · rw [State.stackBytes_setFrames]; rfl
  · refine ⟨?_, Nat.le_refl _, Nat.le_refl _, ?_, ?_, fun a c9 h9 => ⟨c9, h9, rfl, rfl, fun _ _ => rfl⟩⟩
    · obtain ⟨t, ht, -⟩ := State.frames_cons hr
      show T.setVm s.vm = { ((T.setVm s.vm).setFrames (.invoking m args :: below)).setFrames (T.setVm s.vm).frames with heap := T.heap, slotsUsed := T.slotsUsed }
      rw [State.setFrames_setFrames, State.setFrames_self ht]
      rfl
    · show T.slotsUsed = T.slotsUsed + ((T.heap.toList.drop T.heap.size).map (·.slots.size)).sum
      rw [List.drop_eq_nil_of_le (Nat.le_of_eq Array.length_toList)]
      rfl
    · show ((T.heap.toList.drop T.heap.size).map (·.slots.size)).sum ≤ 0
      rw [List.drop_eq_nil_of_le (Nat.le_of_eq Array.length_toList)]
      exact Nat.le_refl _
/-- 'throw new E()': new; dup; invokespecial; athrow -/
theorem vx_throw0 {cc : ByteArray} {pc : Nat} (hexec : p.tables.exec = Jvm.exec) (hb : c.code = cc) (hl : l.stackTraces = false) {own cls : String} {names : List String} {ik ic mc ms : Nat} {A : Nat → Prop}
    (hown : s.vm.findClass own = some m.cls) (hcls : Bundle.fit cls = true) (hnames : ∀ n ∈ names, Bundle.fit n = true)
    (hk : (Cond.classLink own ik cls).before args s = true) (hini : (Cond.initialized cls).before args s = true) (hat : ∀ w ∈ vx_at0 own ic cls names, w.before args s = true)
    (hgood : ∀ w ∈ Cond.classLink own ik cls :: Cond.initialized cls :: vx_at0 own ic cls names, vx_ot w = true)
    (hU : vx_Zq Bundle.tN "UNASSIGNED_STACK" Bundle.steD A s s.heap) (hN : vx_Zq Bundle.tN "SUPPRESSED_SENTINEL" Bundle.listD A s s.heap) (hS : va_S A s.heap H locs) (hsize : ls.size = c.maxLocals)
    (d0 : decode cc pc = .ok (.new ik, 3)) (d3 : decode cc (pc + 3) = .ok (.dup, 1)) (d4 : decode cc (pc + 4) = .ok (.invokespecial ic, 3)) (d7 : decode cc (pc + 7) = .ok (.athrow, 1))
    (hout : ∀ x ∈ c.exceptionTable.toList, covers x (pc + 7) = false)
    (hRframes : names.length + 3 < R.frames) (hRlocals : (rest.map fun v => v.category).sum + (13 * (names.length + 1) + 42) ≤ R.locals) (hRcells : cells + 1 ≤ R.cells) (hRslots : slots + 6 ≤ R.slots) (hlocks : meth.locks = false)
    (hx : ∀ t : State, s.vm.Alike t.vm → H.size ≤ t.heap.size → (∀ q : Nat, q < H.size → t.heap[q]? = H[q]?) → XC cls s t)
    (hf : ∀ z ∈ locs, free z.base) (hc : cells + 1 ≤ mc) (hs : slots + 6 ≤ ms) :
    W p l e R s m args below meth c H locs cells slots (vx_MQ below Qc XC args s mc ms free) (F0 m pc ls rest) := by
  intro T hT X
  have htr : e.platform.stackTraces = false := (show e.platform.stackTraces = l.stackTraces by rw [X.admits.platform]).trans hl
  have Y := vx_rebase X (R' := { frames := R.frames, locals := R.locals, cells := 1, slots := 6 }) (Nat.le_refl _) (Nat.le_refl _) hRcells hRslots
  obtain ⟨s', hA⟩ : ∃ z, z = (T.setVm s.vm).setFrames (.invoking m args :: below) := ⟨_, rfl⟩
  rw [← hA] at Y
  have hvm : s'.vm = s.vm := by rw [hA]; rfl
  have hhp : s'.heap = H := by rw [hA]; exact hT
  have hW0 : s.WarmedH s'.vm := by rw [hvm]; exact State.WarmedH.refl s
  have hat' : ∀ w ∈ vx_at0 own ic cls names, w.before args s' = true := fun w hw => vx_ot_at hW0 hvm.symm (hgood w (List.mem_cons_of_mem _ (List.mem_cons_of_mem _ hw))) (hat w hw)
  have hk' : (Cond.classLink own ik cls).before args s' = true := vx_ot_at hW0 hvm.symm (hgood _ List.mem_cons_self) hk
  have hini' : (Cond.initialized cls).before args s' = true := vx_ot_at hW0 hvm.symm (hgood _ (List.mem_cons_of_mem _ List.mem_cons_self)) hini
  have hU' : vx_Zq Bundle.tN "UNASSIGNED_STACK" Bundle.steD A s' s'.heap := by rw [hhp]; exact vx_Zq.moved hW0.alike (hU.kept hS.2.1)
  have hN' : vx_Zq Bundle.tN "SUPPRESSED_SENTINEL" Bundle.listD A s' s'.heap := by rw [hhp]; exact vx_Zq.moved hW0.alike (hN.kept hS.2.1)
  have h : ∀ w ∈ Bundle.ownAtoms0 own ic cls names, w.before args s' = true := vx_own hat' (vx_isRefq hU'.1) (vx_isRefq hN'.1) hU'.2.word hN'.2.word
  have hown' : s'.vm.findClass own = some m.cls := by rw [hvm]; exact hown
  have hins : (Cond.instantiable cls 6).before args s' = true := h _ (by simp [Bundle.ownAtoms0])
  obtain ⟨vm₁, cX, kX, hfX, hkX, -, -, X₁, st1⟩ := Y.newCold hexec (own := own) (C := cls) (index := ik) (n := 6) hown' hk' hins hini'
    (g := F0 m pc ls rest) rfl (by rw [hb]; exact d0) (Nat.le_refl _) (Nat.le_refl _)
  generalize hT1 : (T.setVm vm₁).pushCell { cls := cX, slots := kX.instanceTypes.map defaultValue, vm := .none } = T1 at X₁ st1
  have hcat : (Value.ref T.heap.size).category = 1 := rfl
  have hcellA : T1.heap[T.heap.size]? = some (freshCell cX kX) := by rw [← hT1]; exact State.heap_pushCell_size _ _
  have d3' : decode c.code (pc + 3) = .ok (.dup, 1) := by rw [hb]; exact d3
  obtain ⟨U, hsteps, hrun, hend, hW, hsame, ce, hce, hO⟩ := X₁.ctorThrow0 hexec htr (own := own) (cls := cls) (names := names) (ic := ic) hown' hcls hnames h (fun x hx => nomatch hx) hfX hkX hcellA (by rw [hhp, hT]; exact Nat.le_refl _)
    (g := { method := m, pc := pc + 4, locals := ls, stack := .ref T.heap.size :: .ref T.heap.size :: rest, locked := none }) rfl hsize rfl rfl (rest := rest) rfl
    (by rw [hb]; exact d4) (by rw [hb]; exact d7) hout hRframes (by simp only [List.map_cons, List.sum_cons, hcat]; omega) hlocks
  obtain ⟨f1, f2⟩ := vx_frame hsame
  rw [hhp] at f1 f2
  have hWs : s.WarmedH U.vm := State.WarmedH.trans hW0 hW
  have hcl : s.vm.findClass cls = some ce.cls := by
    have h9 := hO.cls
    rw [hvm] at h9
    exact h9
  have hall : s.sameButNew ({ U with vm := s.vm } : State) locs mc ms := by
    subst hA
    obtain ⟨e1, e2⟩ := hsame
    rw [State.setFrames_setFrames] at e1
    have h2 : (T.setVm s.vm).sameButNew ({ U with vm := s.vm } : State) [] (0 + 1) (0 + 6) := ⟨e1, e2⟩
    have h3 := X.same.trans h2
    rw [List.append_nil] at h3
    exact h3.mono hc hs
  refine ⟨U, ?_, .threw T.heap.size, hrun, hend, Or.inr ⟨T.heap.size, rfl, cls, ce, locs, hx U hWs.alike f1 (fun q hq => f2 q hq (fun z hz => nomatch hz)), hce, hO.vm, hcl, hWs, hall, hf⟩⟩
  refine st1 _ ?_
  show Steps p.tables e below (T1.setTop { method := m, pc := pc + 3, locals := ls, stack := .ref T.heap.size :: rest, locked := none }) _
  jvm_step X₁.here [X₁.here.top, hexec, d3', Value.category]
  exact hsteps
/-- 'throw new E("text")': new; dup; ldc; invokespecial; athrow -/
theorem vx_throwS {cc : ByteArray} {pc : Nat} (hexec : p.tables.exec = Jvm.exec) (hb : c.code = cc) (hl : l.stackTraces = false) {own cls text : String} {names : List String} {ik is ic mc ms sa : Nat} {A : Nat → Prop}
    (hown : s.vm.findClass own = some m.cls) (hcls : Bundle.fit cls = true) (hnames : ∀ n ∈ names, Bundle.fit n = true)
    (hk : (Cond.classLink own ik cls).before args s = true) (hini : (Cond.initialized cls).before args s = true) (hstr : vk_R own is text sa s) (hat : ∀ w ∈ vx_atS own ic cls names, w.before args s = true)
    (hgood : ∀ w ∈ Cond.classLink own ik cls :: Cond.initialized cls :: vx_atS own ic cls names, vx_ot w = true)
    (hU : vx_Zq Bundle.tN "UNASSIGNED_STACK" Bundle.steD A s s.heap) (hN : vx_Zq Bundle.tN "SUPPRESSED_SENTINEL" Bundle.listD A s s.heap) (hS : va_S A s.heap H locs) (hsize : ls.size = c.maxLocals)
    (d0 : decode cc pc = .ok (.new ik, 3)) (d3 : decode cc (pc + 3) = .ok (.dup, 1)) (d4 : decode cc (pc + 4) = .ok (.ldc is, 2)) (d6 : decode cc (pc + 6) = .ok (.invokespecial ic, 3)) (d9 : decode cc (pc + 9) = .ok (.athrow, 1))
    (hout : ∀ x ∈ c.exceptionTable.toList, covers x (pc + 9) = false)
    (hRframes : names.length + 3 < R.frames) (hRlocals : (rest.map fun v => v.category).sum + (13 * (names.length + 1) + 43) ≤ R.locals) (hRcells : cells + 1 ≤ R.cells) (hRslots : slots + 6 ≤ R.slots) (hlocks : meth.locks = false)
    (hx : ∀ t : State, s.vm.Alike t.vm → H.size ≤ t.heap.size → (∀ q : Nat, q < H.size → t.heap[q]? = H[q]?) → XC cls s t)
    (hf : ∀ z ∈ locs, free z.base) (hc : cells + 1 ≤ mc) (hs : slots + 6 ≤ ms) :
    W p l e R s m args below meth c H locs cells slots (vx_MQ below Qc XC args s mc ms free) (F0 m pc ls rest) := by
  intro T hT X
  have htr : e.platform.stackTraces = false := (show e.platform.stackTraces = l.stackTraces by rw [X.admits.platform]).trans hl
  have Y := vx_rebase X (R' := { frames := R.frames, locals := R.locals, cells := 1, slots := 6 }) (Nat.le_refl _) (Nat.le_refl _) hRcells hRslots
  obtain ⟨s', hA⟩ : ∃ z, z = (T.setVm s.vm).setFrames (.invoking m args :: below) := ⟨_, rfl⟩
  rw [← hA] at Y
  have hvm : s'.vm = s.vm := by rw [hA]; rfl
  have hhp : s'.heap = H := by rw [hA]; exact hT
  have hW0 : s.WarmedH s'.vm := by rw [hvm]; exact State.WarmedH.refl s
  have hat' : ∀ w ∈ vx_atS own ic cls names, w.before args s' = true := fun w hw => vx_ot_at hW0 hvm.symm (hgood w (List.mem_cons_of_mem _ (List.mem_cons_of_mem _ hw))) (hat w hw)
  have hk' : (Cond.classLink own ik cls).before args s' = true := vx_ot_at hW0 hvm.symm (hgood _ List.mem_cons_self) hk
  have hini' : (Cond.initialized cls).before args s' = true := vx_ot_at hW0 hvm.symm (hgood _ (List.mem_cons_of_mem _ List.mem_cons_self)) hini
  have hU' : vx_Zq Bundle.tN "UNASSIGNED_STACK" Bundle.steD A s' s'.heap := by rw [hhp]; exact vx_Zq.moved hW0.alike (hU.kept hS.2.1)
  have hN' : vx_Zq Bundle.tN "SUPPRESSED_SENTINEL" Bundle.listD A s' s'.heap := by rw [hhp]; exact vx_Zq.moved hW0.alike (hN.kept hS.2.1)
  have h : ∀ w ∈ Bundle.ownAtoms own ic cls names, w.before args s' = true := vx_own hat' (vx_isRefq hU'.1) (vx_isRefq hN'.1) hU'.2.word hN'.2.word
  have hown' : s'.vm.findClass own = some m.cls := by rw [hvm]; exact hown
  have hins : (Cond.instantiable cls 6).before args s' = true := h _ (by simp [Bundle.ownAtoms])
  obtain ⟨vm₁, cX, kX, hfX, hkX, -, -, X₁, st1⟩ := Y.newCold hexec (own := own) (C := cls) (index := ik) (n := 6) hown' hk' hins hini'
    (g := F0 m pc ls rest) rfl (by rw [hb]; exact d0) (Nat.le_refl _) (Nat.le_refl _)
  generalize hT1 : (T.setVm vm₁).pushCell { cls := cX, slots := kX.instanceTypes.map defaultValue, vm := .none } = T1 at X₁ st1
  have hcat : (Value.ref T.heap.size).category = 1 := rfl
  have hcellA : T1.heap[T.heap.size]? = some (freshCell cX kX) := by rw [← hT1]; exact State.heap_pushCell_size _ _
  have d3' : decode c.code (pc + 3) = .ok (.dup, 1) := by rw [hb]; exact d3
  have d4' : decode c.code (pc + 4) = .ok (.ldc is, 2) := by rw [hb]; exact d4
  have hstr' : vk_R own is text sa s' := vk_R.warm hW0 hstr
  obtain ⟨U, hsteps, hrun, hend, hW, hsame, ce, hce, hO⟩ := X₁.ctorThrowS hexec htr (own := own) (cls := cls) (names := names) (ic := ic) hown' hcls hnames h (fun x hx => nomatch hx) hfX hkX hcellA (by rw [hhp, hT]; exact Nat.le_refl _) (msg := .ref sa) rfl
    (g := { method := m, pc := pc + 6, locals := ls, stack := .ref sa :: .ref T.heap.size :: .ref T.heap.size :: rest, locked := none }) rfl hsize rfl rfl (rest := rest) rfl
    (by rw [hb]; exact d6) (by rw [hb]; exact d9) hout hRframes (by simp only [List.map_cons, List.sum_cons, hcat]; omega) hlocks
  obtain ⟨f1, f2⟩ := vx_frame hsame
  rw [hhp] at f1 f2
  have hWs : s.WarmedH U.vm := State.WarmedH.trans hW0 hW
  have hcl : s.vm.findClass cls = some ce.cls := by
    have h9 := hO.cls
    rw [hvm] at h9
    exact h9
  have hall : s.sameButNew ({ U with vm := s.vm } : State) locs mc ms := by
    subst hA
    obtain ⟨e1, e2⟩ := hsame
    rw [State.setFrames_setFrames] at e1
    have h2 : (T.setVm s.vm).sameButNew ({ U with vm := s.vm } : State) [] (0 + 1) (0 + 6) := ⟨e1, e2⟩
    have h3 := X.same.trans h2
    rw [List.append_nil] at h3
    exact h3.mono hc hs
  refine ⟨U, ?_, .threw T.heap.size, hrun, hend, Or.inr ⟨T.heap.size, rfl, cls, ce, locs, hx U hWs.alike f1 (fun q hq => f2 q hq (fun z hz => nomatch hz)), hce, hO.vm, hcl, hWs, hall, hf⟩⟩
  refine st1 _ ?_
  show Steps p.tables e below (T1.setTop { method := m, pc := pc + 3, locals := ls, stack := .ref T.heap.size :: rest, locked := none }) _
  jvm_step X₁.here [X₁.here.top, hexec, d3', Value.category]
  exact X₁.ldcString hexec (own := own) (text := text) (index := is) (a := sa) hown' hstr'.1 hstr'.2
    (g := { method := m, pc := pc + 4, locals := ls, stack := .ref T.heap.size :: .ref T.heap.size :: rest, locked := none }) rfl d4' _ hsteps
/-- 'throw new E("text")', the text by a wide index -/
theorem vx_throwSW {cc : ByteArray} {pc : Nat} (hexec : p.tables.exec = Jvm.exec) (hb : c.code = cc) (hl : l.stackTraces = false) {own cls text : String} {names : List String} {ik is ic mc ms sa : Nat} {A : Nat → Prop}
    (hown : s.vm.findClass own = some m.cls) (hcls : Bundle.fit cls = true) (hnames : ∀ n ∈ names, Bundle.fit n = true)
    (hk : (Cond.classLink own ik cls).before args s = true) (hini : (Cond.initialized cls).before args s = true) (hstr : vk_R own is text sa s) (hat : ∀ w ∈ vx_atS own ic cls names, w.before args s = true)
    (hgood : ∀ w ∈ Cond.classLink own ik cls :: Cond.initialized cls :: vx_atS own ic cls names, vx_ot w = true)
    (hU : vx_Zq Bundle.tN "UNASSIGNED_STACK" Bundle.steD A s s.heap) (hN : vx_Zq Bundle.tN "SUPPRESSED_SENTINEL" Bundle.listD A s s.heap) (hS : va_S A s.heap H locs) (hsize : ls.size = c.maxLocals)
    (d0 : decode cc pc = .ok (.new ik, 3)) (d3 : decode cc (pc + 3) = .ok (.dup, 1)) (d4 : decode cc (pc + 4) = .ok (.ldc_w is, 3)) (d7 : decode cc (pc + 7) = .ok (.invokespecial ic, 3)) (d10 : decode cc (pc + 10) = .ok (.athrow, 1))
    (hout : ∀ x ∈ c.exceptionTable.toList, covers x (pc + 10) = false)
    (hRframes : names.length + 3 < R.frames) (hRlocals : (rest.map fun v => v.category).sum + (13 * (names.length + 1) + 43) ≤ R.locals) (hRcells : cells + 1 ≤ R.cells) (hRslots : slots + 6 ≤ R.slots) (hlocks : meth.locks = false)
    (hx : ∀ t : State, s.vm.Alike t.vm → H.size ≤ t.heap.size → (∀ q : Nat, q < H.size → t.heap[q]? = H[q]?) → XC cls s t)
    (hf : ∀ z ∈ locs, free z.base) (hc : cells + 1 ≤ mc) (hs : slots + 6 ≤ ms) :
    W p l e R s m args below meth c H locs cells slots (vx_MQ below Qc XC args s mc ms free) (F0 m pc ls rest) := by
  intro T hT X
  have htr : e.platform.stackTraces = false := (show e.platform.stackTraces = l.stackTraces by rw [X.admits.platform]).trans hl
  have Y := vx_rebase X (R' := { frames := R.frames, locals := R.locals, cells := 1, slots := 6 }) (Nat.le_refl _) (Nat.le_refl _) hRcells hRslots
  obtain ⟨s', hA⟩ : ∃ z, z = (T.setVm s.vm).setFrames (.invoking m args :: below) := ⟨_, rfl⟩
  rw [← hA] at Y
  have hvm : s'.vm = s.vm := by rw [hA]; rfl
  have hhp : s'.heap = H := by rw [hA]; exact hT
  have hW0 : s.WarmedH s'.vm := by rw [hvm]; exact State.WarmedH.refl s
  have hat' : ∀ w ∈ vx_atS own ic cls names, w.before args s' = true := fun w hw => vx_ot_at hW0 hvm.symm (hgood w (List.mem_cons_of_mem _ (List.mem_cons_of_mem _ hw))) (hat w hw)
  have hk' : (Cond.classLink own ik cls).before args s' = true := vx_ot_at hW0 hvm.symm (hgood _ List.mem_cons_self) hk
  have hini' : (Cond.initialized cls).before args s' = true := vx_ot_at hW0 hvm.symm (hgood _ (List.mem_cons_of_mem _ List.mem_cons_self)) hini
  have hU' : vx_Zq Bundle.tN "UNASSIGNED_STACK" Bundle.steD A s' s'.heap := by rw [hhp]; exact vx_Zq.moved hW0.alike (hU.kept hS.2.1)
  have hN' : vx_Zq Bundle.tN "SUPPRESSED_SENTINEL" Bundle.listD A s' s'.heap := by rw [hhp]; exact vx_Zq.moved hW0.alike (hN.kept hS.2.1)
  have h : ∀ w ∈ Bundle.ownAtoms own ic cls names, w.before args s' = true := vx_own hat' (vx_isRefq hU'.1) (vx_isRefq hN'.1) hU'.2.word hN'.2.word
  have hown' : s'.vm.findClass own = some m.cls := by rw [hvm]; exact hown
  have hins : (Cond.instantiable cls 6).before args s' = true := h _ (by simp [Bundle.ownAtoms])
  obtain ⟨vm₁, cX, kX, hfX, hkX, -, -, X₁, st1⟩ := Y.newCold hexec (own := own) (C := cls) (index := ik) (n := 6) hown' hk' hins hini'
    (g := F0 m pc ls rest) rfl (by rw [hb]; exact d0) (Nat.le_refl _) (Nat.le_refl _)
  generalize hT1 : (T.setVm vm₁).pushCell { cls := cX, slots := kX.instanceTypes.map defaultValue, vm := .none } = T1 at X₁ st1
  have hcat : (Value.ref T.heap.size).category = 1 := rfl
  have hcellA : T1.heap[T.heap.size]? = some (freshCell cX kX) := by rw [← hT1]; exact State.heap_pushCell_size _ _
  have d3' : decode c.code (pc + 3) = .ok (.dup, 1) := by rw [hb]; exact d3
  have d4' : decode c.code (pc + 4) = .ok (.ldc_w is, 3) := by rw [hb]; exact d4
  have hstr' : vk_R own is text sa s' := vk_R.warm hW0 hstr
  obtain ⟨U, hsteps, hrun, hend, hW, hsame, ce, hce, hO⟩ := X₁.ctorThrowS hexec htr (own := own) (cls := cls) (names := names) (ic := ic) hown' hcls hnames h (fun x hx => nomatch hx) hfX hkX hcellA (by rw [hhp, hT]; exact Nat.le_refl _) (msg := .ref sa) rfl
    (g := { method := m, pc := pc + 7, locals := ls, stack := .ref sa :: .ref T.heap.size :: .ref T.heap.size :: rest, locked := none }) rfl hsize rfl rfl (rest := rest) rfl
    (by rw [hb]; exact d7) (by rw [hb]; exact d10) hout hRframes (by simp only [List.map_cons, List.sum_cons, hcat]; omega) hlocks
  obtain ⟨f1, f2⟩ := vx_frame hsame
  rw [hhp] at f1 f2
  have hWs : s.WarmedH U.vm := State.WarmedH.trans hW0 hW
  have hcl : s.vm.findClass cls = some ce.cls := by
    have h9 := hO.cls
    rw [hvm] at h9
    exact h9
  have hall : s.sameButNew ({ U with vm := s.vm } : State) locs mc ms := by
    subst hA
    obtain ⟨e1, e2⟩ := hsame
    rw [State.setFrames_setFrames] at e1
    have h2 : (T.setVm s.vm).sameButNew ({ U with vm := s.vm } : State) [] (0 + 1) (0 + 6) := ⟨e1, e2⟩
    have h3 := X.same.trans h2
    rw [List.append_nil] at h3
    exact h3.mono hc hs
  refine ⟨U, ?_, .threw T.heap.size, hrun, hend, Or.inr ⟨T.heap.size, rfl, cls, ce, locs, hx U hWs.alike f1 (fun q hq => f2 q hq (fun z hz => nomatch hz)), hce, hO.vm, hcl, hWs, hall, hf⟩⟩
  refine st1 _ ?_
  show Steps p.tables e below (T1.setTop { method := m, pc := pc + 3, locals := ls, stack := .ref T.heap.size :: rest, locked := none }) _
  jvm_step X₁.here [X₁.here.top, hexec, d3', Value.category]
  exact X₁.ldcStringW hexec (own := own) (text := text) (index := is) (a := sa) hown' hstr'.1 hstr'.2
    (g := { method := m, pc := pc + 4, locals := ls, stack := .ref T.heap.size :: .ref T.heap.size :: rest, locked := none }) rfl d4' _ hsteps
end Ends
section Bodies
variable {l : Launch}
theorem vx_ofW {y : MethodName} {ws ws' : List Cond} {rm : Room} {Pc : Array Value → State → Prop} {Qc : Array Value → State → Outcome → State → Prop} {XC : String → State → State → Prop} {mc ms : Nat} {free : Addr → Prop} {cc : ByteArray} {maxL : Nat} {ret : Option FieldType}
    (hy : plainName y.cls = true) (hw : ws = Cond.code y cc maxL ret :: ws')
    (body : ∀ p e s m args below meth c s₁, BodyLoose p l y (headSpec ws rm) cc maxL ret e s m args below meth c s₁ → c.maxLocals = maxL → (∀ x ∈ c.exceptionTable.toList, False) → Pc args s →
      W p l e (headSpec ws rm).room s m args below meth c s.heap [] 0 0 (vx_MQ below Qc XC args s mc ms free) (entryFrame m args maxL)) : vx_Met l y ws rm Pc Qc XC mc ms free := by
  refine MetFree.of_bodyS (code := cc) (maxLocals := maxL) (ret := ret) hy ?_ ?_
  · intro args s m h hn
    obtain ⟨meth, c, h1, h2, h3, h4, h5, h6, -, -⟩ := Cond.code_spec hn (atoms_spec (ws := ws) h _ (by rw [hw]; exact List.mem_cons_self))
    exact ⟨meth, c, h1, h2, h3, h4, h5, h6⟩
  · intro p e s m args below meth c s₁ B hml hP _
    have hh0 : s₁.heap = s.heap := by rw [B.state]; rfl
    have ht : ∀ x ∈ c.exceptionTable.toList, False := by
      obtain ⟨meth9, c9, h1, h2, -, -, -, -, h7, -⟩ := Cond.code_spec B.named (atoms_spec (ws := ws) B.pre _ (by rw [hw]; exact List.mem_cons_self))
      cases Option.some.inj (h1.symm.trans B.method)
      cases Option.some.inj (h2.symm.trans (Stand.of_body B).code)
      intro x hx
      rw [Array.isEmpty_iff.mp h7] at hx
      cases hx
    obtain ⟨t, a1, o, b1, b2, b3⟩ := body p e s m args below meth c s₁ B hml ht hP s₁ hh0 (Stand.of_body B)
    exact ⟨t, o, a1, b1, b2, b3⟩
/-- the table of a body with handlers -/
theorem vx_table {p : Program} {x y : MethodName} {S : Spec} {cc bytes : ByteArray} {maxL maxL' : Nat} {ret ret' : Option FieldType} {e : Env} {s s₁ : State} {m : MethodId} {args : Array Value} {below : List Frame} {meth : Method} {c : Code} {hh : List (Nat × Nat × Nat × Nat)}
    (B : BodyLoose p l y S cc maxL ret e s m args below meth c s₁) (h : (Cond.codeWith y bytes maxL' ret' hh).before args s = true) : c.exceptionTable.toList = tableOf hh := by
  obtain ⟨m9, meth9, c9, hn9, h1, h2, -, -, h6, -⟩ := Cond.codeWith_spec h
  cases Option.some.inj (hn9.symm.trans B.named)
  cases Option.some.inj (h1.symm.trans B.method)
  cases Option.some.inj (h2.symm.trans (Stand.of_body B).code)
  rw [← h6, table_eq]
end Bodies
end VXA
/-! ===== END ===== -/
/-! ===== BEGIN a static call of a method with an exception table ===== -/
section VXS
variable {p : Program} {l : Launch} {e : Env} {R : Room} {s : State} {m : MethodId} {args : Array Value} {below : List Frame} {meth : Method} {c : Code} {T : State} {H : Heap} {locs : List Loc} {cells slots : Nat}
abbrev vx_CSW (R : Room) (s : State) (args : Array Value) (own : String) (index : Nat) (y : MethodName) (bytes : ByteArray) (maxL : Nat) (ret : Option FieldType) (hh : List (Nat × Nat × Nat × Nat)) (ws : List Cond) (rm : Room) (mc ms n : Nat) : Prop :=
  (rm.cells = mc ∧ rm.slots = ms ∧ rm.frames + 1 ≤ R.frames ∧ 8 + (maxL + 11) + rm.locals ≤ R.locals ∧ (∀ w ∈ ws, ∀ (a' : Array Value) (U : State), s.WarmedH U.vm → w.before a' U = true) ∧ Cond.codeWith y bytes maxL ret hh ∈ ws) ∧
  (Cond.codeWith y bytes maxL ret hh).before args s = true ∧ (Cond.initialized y.cls).before args s = true ∧ (y.cls ≠ "java/lang/invoke/MethodHandle" ∧ y.cls ≠ "java/lang/invoke/VarHandle") ∧
  (∀ sig, parseMethodDescriptor y.desc = some sig → n = sig.parameters.length) ∧ (Cond.methodLink own index y).before args s = true ∧ (Cond.static y).before args s = true
theorem vx_cwSW {own : String} {index maxL mc ms : Nat} {y : MethodName} {bytes : ByteArray} {ret : Option FieldType} {hh : List (Nat × Nat × Nat × Nat)} {Ts ws ws' : List Cond} {rm : Room} (n : Nat) (ht : ∀ w ∈ Ts, w.before args s = true) (hT : GoodIn Ts (va_wsS own index y ws)) (hw : ws = Cond.codeWith y bytes maxL ret hh :: ws') (hrc : rm.cells = mc) (hrs : rm.slots = ms)
    (hd : y.cls ≠ "java/lang/invoke/MethodHandle" ∧ y.cls ≠ "java/lang/invoke/VarHandle" ∧ (parseMethodDescriptor y.desc).map (fun d => d.parameters.length) = some n) (hR : rm.frames + 1 ≤ R.frames ∧ 8 + (maxL + 11) + rm.locals ≤ R.locals) :
    vx_CSW R s args own index y bytes maxL ret hh ws rm mc ms n := by
  have ok : ∀ w ∈ va_wsS own index y ws, w.before args s = true := fun w h => ht w (hT w h).1
  have hG : GoodIn Ts ws := fun w h => hT w (by unfold va_wsS; exact List.mem_append_right _ h)
  have hc : Cond.codeWith y bytes maxL ret hh ∈ ws := by rw [hw]; exact List.mem_cons_self
  refine ⟨⟨hrc, hrs, hR.1, hR.2, pay_in ht hG, hc⟩, ht _ (hG _ hc).1, ok _ (by simp [va_wsS]), ⟨hd.1, hd.2.1⟩, fun sig h => ?_, ok _ (by simp [va_wsS]), ok _ (by simp [va_wsS])⟩
  have h2 := hd.2.2
  rw [h] at h2
  exact (Option.some.inj h2).symm
theorem vx_callSW (X : Stand p l e R s m args below meth c T locs cells slots) (hexec : p.tables.exec = Jvm.exec) {own : String} {index : Nat} {y : MethodName} {bytes : ByteArray} {maxL : Nat} {ret : Option FieldType} {hh : List (Nat × Nat × Nat × Nat)}
    (hown : s.vm.findClass own = some m.cls) (hlink : (Cond.methodLink own index y).before args s = true) (hstat : (Cond.static y).before args s = true) (hinit : (Cond.initialized y.cls).before args s = true)
    (hcode : (Cond.codeWith y bytes maxL ret hh).before args s = true) (hy : y.cls ≠ "java/lang/invoke/MethodHandle" ∧ y.cls ≠ "java/lang/invoke/VarHandle")
    {W9 : Nat} {Pre : Pt → Array Value → Prop} {Post : Pt → Array Value → Option Value → Pt → Prop} (hK : Back l R p e below s args y 3 W9 Pre Post)
    {g : JFrame} (hg : g.method = m) (hsize : g.locals.size = c.maxLocals) {argsL rest : List Value} (hlen : ∀ sig, parseMethodDescriptor y.desc = some sig → argsL.length = sig.parameters.length)
    (hstack : g.stack = argsL.reverse ++ rest) (hW : 2 * g.monitorRoom + (rest.map fun v => v.category).sum ≤ W9) (hdg : decode c.code g.pc = .ok (.invokestatic index, 3))
    (hpre : ∀ vm₁, s.WarmedH vm₁ → Pre ⟨T.setVm vm₁, locs, cells, slots⟩ argsL.toArray) :
    ∃ (v : Option Value) (vm₁ : Vm) (B : Pt), s.WarmedH vm₁ ∧ Stand p l e R s m args below meth c B.U B.locs B.cells B.slots ∧ Post ⟨T.setVm vm₁, locs, cells, slots⟩ argsL.toArray v B ∧
      ∀ target, Steps p.tables e below (B.U.setTop { g with pc := g.pc + 3, stack := v.toList ++ rest }) target → Steps p.tables e below (T.setTop g) target := by
  obtain ⟨mk, methM, cM, hnamed, hmethM, -, -, -, -, -, -, hsigM⟩ := Cond.codeWith_spec hcode
  have hstatic : methM.isStatic = true := Cond.static_spec hnamed hmethM hstat
  obtain ⟨kP, hkP, -⟩ := className_of_methodNamed hnamed
  have hinitP : kP.init = .initialized := Cond.initialized_spec (findClass_of_methodNamed hnamed) hkP hinit
  obtain ⟨vm₁, X₁, hstep₁⟩ := X.invokestatic hexec hown hlink hnamed hmethM hstatic hkP hinitP hy (g := g) hg (argsL := argsL) (rest := rest) (hlen _ hsigM) hstack hdg
  obtain ⟨v, B, X', hpost, hsteps⟩ := hK m meth c ⟨T.setVm vm₁, locs, cells, slots⟩ { g with stack := rest } (.invokestatic index) mk argsL.toArray X₁ hg hsize hdg hW (X₁.named hnamed) (hpre vm₁ X₁.warmed)
  exact ⟨v, vm₁, B, X₁.warmed, X', hpost, fun target h => hstep₁ _ fun acts => by rw [doInvoke_state]; exact hsteps.trans h⟩
theorem vx_runSW {y : MethodName} {bytes cc : ByteArray} {maxL nL mc ms n index : Nat} {ret : Option FieldType} {hh : List (Nat × Nat × Nat × Nat)} {ws : List Cond} {rm : Room} {Pc : Array Value → State → Prop} {Qc : Array Value → State → Outcome → State → Prop} {free : Addr → Prop} {Ts : List Cond} {own : String} {As rest : List Value} {g : JFrame}
    (S : CallFix p m c cc nL s args Ts own) (hM : Met l y ws rm Pc Qc mc ms free) (cw : vx_CSW R s args own index y bytes maxL ret hh ws rm mc ms n) (hp : PreS s H Pc As)
    (hg : g.method = m) (hn : As.length = n) (hsize : g.locals.size = nL) (hstack : g.stack = As.reverse ++ rest) (hW : 2 * g.monitorRoom + (rest.map fun v => v.category).sum ≤ 8) (hdg : decode cc g.pc = .ok (.invokestatic index, 3)) (hf : cells + mc ≤ R.cells ∧ slots + ms ≤ R.slots) :
    va_Run p l e R s m args below meth c H locs cells slots mc ms g rest (Qc As.toArray) (free) := by
  obtain ⟨⟨hrc, hrs, hfr, hlo, hws, hcw⟩, hcode, hini, hy, hlen, hl, hstt⟩ := cw
  have hK : Back l R p e below s args y 3 8 (PreOf R mc ms Pc) (PostOf Qc mc ms free) := va_backW (hh := hh) (bytes := bytes) (maxL := maxL) (ret := ret) hM hp.1 hrc hrs hfr hlo hws hcw (fun a' U hW => word_at hW (Or.inl (by first | rfl | simp [Cond.onTables, Cond.keeps, Cond.steady])) hini)
  obtain ⟨hx, hb, hml, ho, -⟩ := S
  intro T hT X
  obtain ⟨v, vm₁, ⟨U', l2, c2, s2⟩, hW₁, X', ⟨g', mk, t, L, e1, e2, hq, h1, hL, h2, h3⟩, st⟩ := vx_callSW X hx (hh := hh) (bytes := bytes) (maxL := maxL) (ret := ret) ho hl hstt hini hcode hy hK hg (hsize.trans hml.symm) (argsL := As) (rest := rest) (fun sig h => hn.trans (hlen sig h)) hstack hW (by rw [hb]; exact hdg)
    (fun vm₁ hW₁ => ⟨hf.1, hf.2, hp.2 (T.setVm vm₁) hT hW₁⟩)
  dsimp only [Pt.U, Pt.locs, Pt.cells, Pt.slots] at X' e1 e2 h1 h2 h3 st
  subst h1; subst h2; subst h3
  exact ⟨v, (T.setVm vm₁).calling g' mk As.toArray, t, U', L, hT, X', hL, e1, e2, hq, st⟩
/-- a thing of a world lies in the heap -/
theorem vx_lt {D : va_G} {cl : List vw_C} {ws : va_W} {H1 : Heap} (h : va_P D cl ws H1) {k : Nat} {q : Nat × va_E} (hk : ws[k]? = some q) : q.1 < H1.size := (h k q hk).lt
end VXS
/-! ===== END ===== -/
/-! ===== BEGIN methods with a table of their own: called by a name, returning or throwing ===== -/
section VXH
/-! vx_backW, vx_callVX, vx_callSX, vx_callVW, vx_runVW, vx_runVX, vx_runSX, vx_ofWH follow the same proofs as their sisters above (Free/Laws.lean, Shelf42/LK1.lean); vx_outP calls Shelf42/NT130.lean (outThrough). -/
section
variable {l : Launch} {R : Room} {p : Program} {e : Env} {below : List Frame} {s : State} {sargs : Array Value} {y : MethodName} {len W9 : Nat}
theorem vx_backW {ws : List Cond} {rm : Room} {Pc : Array Value → State → Prop} {Qc : Array Value → State → Outcome → State → Prop} {XC : String → State → State → Prop} {mc ms : Nat} {free : Addr → Prop} {bytes : ByteArray} {maxL : Nat} {ret : Option FieldType} {hh : List (Nat × Nat × Nat × Nat)}
    (hM : vx_Met l y ws rm Pc Qc XC mc ms free) (hblind : FrameBlind Pc) (hrc : rm.cells = mc) (hrs : rm.slots = ms)
    (hframes : rm.frames + 1 ≤ R.frames) (hlocals : W9 + (maxL + 11) + rm.locals ≤ R.locals)
    (hws : ∀ w ∈ ws, ∀ a' U, s.WarmedH U.vm → w.before a' U = true) (hcode : Cond.codeWith y bytes maxL ret hh ∈ ws) (hinit : ∀ a' U, s.WarmedH U.vm → (Cond.initialized y.cls).before a' U = true) :
    vx_Back l R p e below s sargs y len W9 (PreOf R mc ms Pc) (PostOf Qc mc ms free) (vx_Post XC mc ms free) := by
  intro m meth c A g ig mk a X hg hsize hdg hW hn hp
  have h1 : (headSpec ws rm).pre.before a A.U = true := atoms_intro fun w hw => hws w hw _ _ X.warmed
  have h2 : (Cond.codeWith y bytes maxL ret hh).before a A.U = true := hws _ hcode _ _ X.warmed
  have h3 : (Cond.initialized y.cls).before a A.U = true := hinit _ _ X.warmed
  have h4 : A.cells + (headSpec ws rm).room.cells ≤ R.cells := by rw [show (headSpec ws rm).room.cells = mc from hrc]; exact hp.1
  have h5 : A.slots + (headSpec ws rm).room.slots ≤ R.slots := by rw [show (headSpec ws rm).room.slots = ms from hrs]; exact hp.2.1
  have hPc : Pc a (A.U.calling g mk a) := hblind _ _ _ _ hp.2.2
  obtain ⟨U, Ls, c0, s0⟩ := A
  dsimp only [Pt.U, Pt.locs, Pt.cells, Pt.slots] at h1 h2 h3 h4 h5 X hn hPc ⊢
  obtain ⟨m9, methY, cY, hn9, hmY, hcY, -, hlY, -⟩ := Cond.codeWith_spec h2
  cases Option.some.inj (hn9.symm.trans hn)
  obtain ⟨kY, hkY, -⟩ := className_of_methodNamed hn
  have hinitY : kY.init = .initialized := Cond.initialized_spec (findClass_of_methodNamed hn) hkY h3
  have h : At U g.method c below := by rw [hg]; exact X.here
  have hlocals9 : W9 + (maxL + 11) + (headSpec ws rm).room.locals ≤ R.locals := hlocals
  have happ : (headSpec ws rm).appliesLoose y e.platform (U.calling g mk a) = true :=
    Spec.appliesLoose_calling (g := g) h hdg hn hkY hinitY
      (X.room_calling (g := g) (R' := (headSpec ws rm).room) hsize hmY hcY hframes (by rw [hlY]; omega) h4 h5) h1
  obtain ⟨mid, hmid⟩ := h.above
  have hfr : (U.setTop g).frames = (.java g :: mid) ++ below := by rw [State.frames_setTop' g h.top, hmid]; rfl
  obtain ⟨o, s₂, hsteps, -, hend, hq⟩ := Steps.callFree hM p X.admits X.cas X.clock (acts := []) hfr happ hPc trivial
  have hq' : vx_Q Qc XC mc ms free a (U.calling g mk a) o s₂ := hq
  rw [State.frames_setTop' g h.top] at hend
  obtain ⟨g₀, hg0⟩ := Option.isSome_iff_exists.mp h.top
  obtain ⟨r, hr⟩ := State.topJava?_eq_some.mp hg0
  have hr' : (({ U with heap := s₂.heap, slotsUsed := s₂.slotsUsed } : State).setVm s₂.vm).frames = .java g₀ :: r := hr
  rcases hq' with ⟨hqc, L, hfe, hL⟩ | ⟨q, rfl, E, ce, L, hx, hce, hcv, hcl, hW₂, hsm, hL⟩
  · obtain ⟨⟨v, rfl⟩, hW₂, e2, q2, q3, q4, q5, q6⟩ := id hfe
    have e3 : s₂ = ({ (U.calling g mk a).setFrames s₂.frames with heap := s₂.heap, slotsUsed := s₂.slotsUsed } : State).setVm s₂.vm := by
      have : s₂ = ({ s₂ with vm := (U.calling g mk a).vm } : State).setVm s₂.vm := rfl
      rw [e2] at this
      exact this
    obtain ⟨c₂, i₂, len₂, hc₂, hd₂, hf₂⟩ := hend
    have hW' : U.WarmedH s₂.vm := hW₂
    have hcc : c₂ = c := by
      have h1 : s₂.code? g.method = U.code? g.method := by
        rw [State.code?_eq, State.code?_eq, hW'.alike.method?]
      exact Option.some.inj (hc₂.symm.trans (h1.trans h.code))
    subst hcc
    have hlen : len₂ = len := by rw [hdg] at hd₂; cases hd₂; rfl
    subst hlen
    have hs₂ : s₂ = (({ U with heap := s₂.heap, slotsUsed := s₂.slotsUsed } : State).setVm s₂.vm).setTop { g with pc := g.pc + len₂, stack := v.toList ++ g.stack } := by
      refine e3.trans ?_
      rw [hf₂, State.calling_eq h.top, State.setFrames_setFrames, State.setTop_of_frames _ hr', hr]
      rfl
    have hsame : U.sameButNew ({ U with heap := s₂.heap, slotsUsed := s₂.slotsUsed } : State) L mc ms := by
      refine ⟨?_, q2, q3, q4, q5, q6⟩
      obtain ⟨t, ht, -⟩ := State.frames_cons hr
      show ({ U with heap := s₂.heap, slotsUsed := s₂.slotsUsed } : State) = { U.setFrames U.frames with heap := s₂.heap, slotsUsed := s₂.slotsUsed }
      rw [State.setFrames_self ht]
    subst hg
    refine Or.inl ⟨v, ⟨(({ U with heap := s₂.heap, slotsUsed := s₂.slotsUsed } : State).setVm s₂.vm), Ls ++ L, c0 + mc, s0 + ms⟩,
      ⟨X.admits, X.cas, X.clock, X.frames, X.room, X.hears, X.method, X.code, (X.here.setHeapUsed s₂.heap s₂.slotsUsed).setVm hW'.alike, X.tail, State.WarmedH.trans X.warmed hW', X.limits, X.bytes, X.same.trans (hsame.setVm s.vm)⟩,
      ⟨g, mk, s₂, L, rfl, rfl, hqc, rfl, hL, rfl, rfl⟩, ?_⟩
    show Steps p.tables e below _ ((({ U with heap := s₂.heap, slotsUsed := s₂.slotsUsed } : State).setVm s₂.vm).setTop { g with pc := g.pc + len₂, stack := v.toList ++ g.stack })
    rw [← hs₂]
    exact hsteps
  · obtain ⟨e2, q2, q3, q4, q5, q6⟩ := id hsm
    have e3 : s₂ = ({ (U.calling g mk a).setFrames s₂.frames with heap := s₂.heap, slotsUsed := s₂.slotsUsed } : State).setVm s₂.vm := by
      have : s₂ = ({ s₂ with vm := (U.calling g mk a).vm } : State).setVm s₂.vm := rfl
      rw [e2] at this
      exact this
    have hf₂ : s₂.frames = .throwing q :: .java g :: U.frames.tail := hend
    have hW' : U.WarmedH s₂.vm := hW₂
    have hs₂ : s₂ = ((({ U with heap := s₂.heap, slotsUsed := s₂.slotsUsed } : State).setVm s₂.vm).setTop g).pushFrame (.throwing q) := by
      refine e3.trans ?_
      rw [hf₂, State.calling_eq h.top, State.setFrames_setFrames, State.pushFrame, State.frames_setTop _ hr', State.setTop_of_frames _ hr', State.setFrames_setFrames, hr]
      rfl
    have hsame : U.sameButNew ({ U with heap := s₂.heap, slotsUsed := s₂.slotsUsed } : State) L mc ms := by
      refine ⟨?_, q2, q3, q4, q5, q6⟩
      obtain ⟨t, ht, -⟩ := State.frames_cons hr
      show ({ U with heap := s₂.heap, slotsUsed := s₂.slotsUsed } : State) = { U.setFrames U.frames with heap := s₂.heap, slotsUsed := s₂.slotsUsed }
      rw [State.setFrames_self ht]
    subst hg
    refine Or.inr ⟨q, ⟨(({ U with heap := s₂.heap, slotsUsed := s₂.slotsUsed } : State).setVm s₂.vm), Ls ++ L, c0 + mc, s0 + ms⟩,
      ⟨X.admits, X.cas, X.clock, X.frames, X.room, X.hears, X.method, X.code, (X.here.setHeapUsed s₂.heap s₂.slotsUsed).setVm hW'.alike, X.tail, State.WarmedH.trans X.warmed hW', X.limits, X.bytes, X.same.trans (hsame.setVm s.vm)⟩,
      ⟨g, mk, s₂, L, E, ce, rfl, rfl, hx, hce, hcv, hcl, rfl, hL, rfl, rfl⟩, ?_⟩
    show Steps p.tables e below _ (((({ U with heap := s₂.heap, slotsUsed := s₂.slotsUsed } : State).setVm s₂.vm).setTop g).pushFrame (.throwing q))
    rw [← hs₂]
    exact hsteps
end
variable {p : Program} {l : Launch} {e : Env} {R : Room} {s : State} {m : MethodId} {args : Array Value} {below : List Frame} {meth : Method} {c : Code} {T : State} {H : Heap} {locs : List Loc} {cells slots : Nat}
theorem vx_callVX (X : Stand p l e R s m args below meth c T locs cells slots) (hexec : p.tables.exec = Jvm.exec) {own C : String} {index : Nat} {y : MethodName} {bytes : ByteArray} {maxL : Nat} {ret : Option FieldType} {hh : List (Nat × Nat × Nat × Nat)}
    (hown : s.vm.findClass own = some m.cls) (hlink : (Cond.methodLink own index y).before args s = true) (hinst : (Cond.instanceMethod y).before args s = true) (hsel : (Cond.selects C y y).before args s = true)
    (hcode : (Cond.codeWith y bytes maxL ret hh).before args s = true) (hy : y.cls ≠ "java/lang/invoke/MethodHandle" ∧ y.cls ≠ "java/lang/invoke/VarHandle")
    {W9 : Nat} {Pre : Pt → Array Value → Prop} {Post : Pt → Array Value → Option Value → Pt → Prop} {PostX : Pt → Array Value → Addr → Pt → Prop} (hK : vx_Back l R p e below s args y 3 W9 Pre Post PostX)
    {b : Addr} {cellB : Cell} (hcell : T.heap[b]? = some cellB) (hobj : cellB.vm.isStatics = false) (hcls : s.vm.findClass C = some cellB.cls)
    {g : JFrame} (hg : g.method = m) (hsize : g.locals.size = c.maxLocals) {argsL rest : List Value} (hlen : ∀ sig, parseMethodDescriptor y.desc = some sig → argsL.length = sig.parameters.length)
    (hstack : g.stack = argsL.reverse ++ .ref b :: rest) (hW : 2 * g.monitorRoom + (rest.map fun v => v.category).sum ≤ W9) (hdg : decode c.code g.pc = .ok (.invokevirtual index, 3))
    (hpre : ∀ vm₁, s.WarmedH vm₁ → Pre ⟨T.setVm vm₁, locs, cells, slots⟩ (Value.ref b :: argsL).toArray) :
    (∃ (v : Option Value) (vm₁ : Vm) (B : Pt), s.WarmedH vm₁ ∧ Stand p l e R s m args below meth c B.U B.locs B.cells B.slots ∧ Post ⟨T.setVm vm₁, locs, cells, slots⟩ (Value.ref b :: argsL).toArray v B ∧
      ∀ target, Steps p.tables e below (B.U.setTop { g with pc := g.pc + 3, stack := v.toList ++ rest }) target → Steps p.tables e below (T.setTop g) target) ∨
    (∃ (q : Addr) (vm₁ : Vm) (B : Pt), s.WarmedH vm₁ ∧ Stand p l e R s m args below meth c B.U B.locs B.cells B.slots ∧ PostX ⟨T.setVm vm₁, locs, cells, slots⟩ (Value.ref b :: argsL).toArray q B ∧
      Steps p.tables e below (T.setTop g) ((B.U.setTop { g with stack := rest }).pushFrame (.throwing q))) := by
  obtain ⟨mk, methM, hnamed, hmethM, hstM, habM⟩ := Cond.instanceMethod_spec hinst
  obtain ⟨m8, methM', cM, hn8, hmethM', -, -, -, -, -, -, hsigM⟩ := Cond.codeWith_spec hcode
  cases Option.some.inj (hn8.symm.trans hnamed)
  cases hmethM.symm.trans hmethM'
  obtain ⟨c2, r2, m2, q1, q2, q3, q4, kP, hkP, hkPi⟩ := Cond.selects_spec hsel
  cases hcls.symm.trans q1
  cases (State.methodFound?_of_named hnamed hy).symm.trans q2
  cases hnamed.symm.trans q3
  have hselP : selectMethod e.platform s.vm cellB.cls mk = .method mk := by rw [Launch.admits_selectMethod X.admits]; exact q4
  obtain ⟨vm₁, X₁, hstep₁⟩ := X.invokevirtual hexec hown hlink hnamed hmethM hstM hkP hkPi hy (a := b) (cell := cellB) hcell
    (fun z h => by rw [h] at hobj; cases hobj) hselP hmethM habM hkP hkPi (g := g) hg (argsL := argsL) (rest := rest) (hlen _ hsigM) hstack hdg
  rcases hK m meth c ⟨T.setVm vm₁, locs, cells, slots⟩ { g with stack := rest } (.invokevirtual index) mk (Value.ref b :: argsL).toArray X₁ hg hsize hdg hW (X₁.named hnamed) (hpre vm₁ X₁.warmed) with ⟨v, B, X', hpost, hsteps⟩ | ⟨q, B, X', hpost, hsteps⟩
  · exact Or.inl ⟨v, vm₁, B, X₁.warmed, X', hpost, fun target h => hstep₁ _ fun acts => by rw [doInvoke_state]; exact hsteps.trans h⟩
  · exact Or.inr ⟨q, vm₁, B, X₁.warmed, X', hpost, hstep₁ _ fun acts => by rw [doInvoke_state]; exact hsteps⟩
theorem vx_callSX (X : Stand p l e R s m args below meth c T locs cells slots) (hexec : p.tables.exec = Jvm.exec) {own : String} {index : Nat} {y : MethodName} {bytes : ByteArray} {maxL : Nat} {ret : Option FieldType} {hh : List (Nat × Nat × Nat × Nat)}
    (hown : s.vm.findClass own = some m.cls) (hlink : (Cond.methodLink own index y).before args s = true) (hstat : (Cond.static y).before args s = true) (hinit : (Cond.initialized y.cls).before args s = true)
    (hcode : (Cond.codeWith y bytes maxL ret hh).before args s = true) (hy : y.cls ≠ "java/lang/invoke/MethodHandle" ∧ y.cls ≠ "java/lang/invoke/VarHandle")
    {W9 : Nat} {Pre : Pt → Array Value → Prop} {Post : Pt → Array Value → Option Value → Pt → Prop} {PostX : Pt → Array Value → Addr → Pt → Prop} (hK : vx_Back l R p e below s args y 3 W9 Pre Post PostX)
    {g : JFrame} (hg : g.method = m) (hsize : g.locals.size = c.maxLocals) {argsL rest : List Value} (hlen : ∀ sig, parseMethodDescriptor y.desc = some sig → argsL.length = sig.parameters.length)
    (hstack : g.stack = argsL.reverse ++ rest) (hW : 2 * g.monitorRoom + (rest.map fun v => v.category).sum ≤ W9) (hdg : decode c.code g.pc = .ok (.invokestatic index, 3))
    (hpre : ∀ vm₁, s.WarmedH vm₁ → Pre ⟨T.setVm vm₁, locs, cells, slots⟩ argsL.toArray) :
    (∃ (v : Option Value) (vm₁ : Vm) (B : Pt), s.WarmedH vm₁ ∧ Stand p l e R s m args below meth c B.U B.locs B.cells B.slots ∧ Post ⟨T.setVm vm₁, locs, cells, slots⟩ argsL.toArray v B ∧
      ∀ target, Steps p.tables e below (B.U.setTop { g with pc := g.pc + 3, stack := v.toList ++ rest }) target → Steps p.tables e below (T.setTop g) target) ∨
    (∃ (q : Addr) (vm₁ : Vm) (B : Pt), s.WarmedH vm₁ ∧ Stand p l e R s m args below meth c B.U B.locs B.cells B.slots ∧ PostX ⟨T.setVm vm₁, locs, cells, slots⟩ argsL.toArray q B ∧
      Steps p.tables e below (T.setTop g) ((B.U.setTop { g with stack := rest }).pushFrame (.throwing q))) := by
  obtain ⟨mk, methM, cM, hnamed, hmethM, -, -, -, -, -, -, hsigM⟩ := Cond.codeWith_spec hcode
  have hstatic : methM.isStatic = true := Cond.static_spec hnamed hmethM hstat
  obtain ⟨kP, hkP, -⟩ := className_of_methodNamed hnamed
  have hinitP : kP.init = .initialized := Cond.initialized_spec (findClass_of_methodNamed hnamed) hkP hinit
  obtain ⟨vm₁, X₁, hstep₁⟩ := X.invokestatic hexec hown hlink hnamed hmethM hstatic hkP hinitP hy (g := g) hg (argsL := argsL) (rest := rest) (hlen _ hsigM) hstack hdg
  rcases hK m meth c ⟨T.setVm vm₁, locs, cells, slots⟩ { g with stack := rest } (.invokestatic index) mk argsL.toArray X₁ hg hsize hdg hW (X₁.named hnamed) (hpre vm₁ X₁.warmed) with ⟨v, B, X', hpost, hsteps⟩ | ⟨q, B, X', hpost, hsteps⟩
  · exact Or.inl ⟨v, vm₁, B, X₁.warmed, X', hpost, fun target h => hstep₁ _ fun acts => by rw [doInvoke_state]; exact hsteps.trans h⟩
  · exact Or.inr ⟨q, vm₁, B, X₁.warmed, X', hpost, hstep₁ _ fun acts => by rw [doInvoke_state]; exact hsteps⟩
theorem vx_callVW (X : Stand p l e R s m args below meth c T locs cells slots) (hexec : p.tables.exec = Jvm.exec) {own C : String} {index : Nat} {y : MethodName} {bytes : ByteArray} {maxL : Nat} {ret : Option FieldType} {hh : List (Nat × Nat × Nat × Nat)}
    (hown : s.vm.findClass own = some m.cls) (hlink : (Cond.methodLink own index y).before args s = true) (hinst : (Cond.instanceMethod y).before args s = true) (hsel : (Cond.selects C y y).before args s = true)
    (hcode : (Cond.codeWith y bytes maxL ret hh).before args s = true) (hy : y.cls ≠ "java/lang/invoke/MethodHandle" ∧ y.cls ≠ "java/lang/invoke/VarHandle")
    {W9 : Nat} {Pre : Pt → Array Value → Prop} {Post : Pt → Array Value → Option Value → Pt → Prop} (hK : Back l R p e below s args y 3 W9 Pre Post)
    {b : Addr} {cellB : Cell} (hcell : T.heap[b]? = some cellB) (hobj : cellB.vm.isStatics = false) (hcls : s.vm.findClass C = some cellB.cls)
    {g : JFrame} (hg : g.method = m) (hsize : g.locals.size = c.maxLocals) {argsL rest : List Value} (hlen : ∀ sig, parseMethodDescriptor y.desc = some sig → argsL.length = sig.parameters.length)
    (hstack : g.stack = argsL.reverse ++ .ref b :: rest) (hW : 2 * g.monitorRoom + (rest.map fun v => v.category).sum ≤ W9) (hdg : decode c.code g.pc = .ok (.invokevirtual index, 3))
    (hpre : ∀ vm₁, s.WarmedH vm₁ → Pre ⟨T.setVm vm₁, locs, cells, slots⟩ (Value.ref b :: argsL).toArray) :
    ∃ (v : Option Value) (vm₁ : Vm) (B : Pt), s.WarmedH vm₁ ∧ Stand p l e R s m args below meth c B.U B.locs B.cells B.slots ∧ Post ⟨T.setVm vm₁, locs, cells, slots⟩ (Value.ref b :: argsL).toArray v B ∧
      ∀ target, Steps p.tables e below (B.U.setTop { g with pc := g.pc + 3, stack := v.toList ++ rest }) target → Steps p.tables e below (T.setTop g) target := by
  obtain ⟨mk, methM, hnamed, hmethM, hstM, habM⟩ := Cond.instanceMethod_spec hinst
  obtain ⟨m8, methM', cM, hn8, hmethM', -, -, -, -, -, -, hsigM⟩ := Cond.codeWith_spec hcode
  cases Option.some.inj (hn8.symm.trans hnamed)
  cases hmethM.symm.trans hmethM'
  obtain ⟨c2, r2, m2, q1, q2, q3, q4, kP, hkP, hkPi⟩ := Cond.selects_spec hsel
  cases hcls.symm.trans q1
  cases (State.methodFound?_of_named hnamed hy).symm.trans q2
  cases hnamed.symm.trans q3
  have hselP : selectMethod e.platform s.vm cellB.cls mk = .method mk := by rw [Launch.admits_selectMethod X.admits]; exact q4
  obtain ⟨vm₁, X₁, hstep₁⟩ := X.invokevirtual hexec hown hlink hnamed hmethM hstM hkP hkPi hy (a := b) (cell := cellB) hcell
    (fun z h => by rw [h] at hobj; cases hobj) hselP hmethM habM hkP hkPi (g := g) hg (argsL := argsL) (rest := rest) (hlen _ hsigM) hstack hdg
  obtain ⟨v, B, X', hpost, hsteps⟩ := hK m meth c ⟨T.setVm vm₁, locs, cells, slots⟩ { g with stack := rest } (.invokevirtual index) mk (Value.ref b :: argsL).toArray X₁ hg hsize hdg hW (X₁.named hnamed) (hpre vm₁ X₁.warmed)
  exact ⟨v, vm₁, B, X₁.warmed, X', hpost, fun target h => hstep₁ _ fun acts => by rw [doInvoke_state]; exact hsteps.trans h⟩
abbrev vx_CVW (R : Room) (s : State) (args : Array Value) (own C : String) (index : Nat) (y : MethodName) (bytes : ByteArray) (maxL : Nat) (ret : Option FieldType) (hh : List (Nat × Nat × Nat × Nat)) (ws : List Cond) (rm : Room) (mc ms n : Nat) : Prop :=
  (rm.cells = mc ∧ rm.slots = ms ∧ rm.frames + 1 ≤ R.frames ∧ 8 + (maxL + 11) + rm.locals ≤ R.locals ∧ (∀ w ∈ ws, ∀ (a' : Array Value) (U : State), s.WarmedH U.vm → w.before a' U = true) ∧ Cond.codeWith y bytes maxL ret hh ∈ ws) ∧
  (Cond.codeWith y bytes maxL ret hh).before args s = true ∧ (Cond.initialized y.cls).before args s = true ∧ (y.cls ≠ "java/lang/invoke/MethodHandle" ∧ y.cls ≠ "java/lang/invoke/VarHandle") ∧
  (∀ sig, parseMethodDescriptor y.desc = some sig → n = sig.parameters.length) ∧ (Cond.methodLink own index y).before args s = true ∧ (Cond.instanceMethod y).before args s = true ∧ (Cond.selects C y y).before args s = true
theorem vx_cwVW {own C : String} {index maxL mc ms : Nat} {y : MethodName} {bytes : ByteArray} {ret : Option FieldType} {hh : List (Nat × Nat × Nat × Nat)} {Ts ws ws' : List Cond} {rm : Room} (n : Nat) (ht : ∀ w ∈ Ts, w.before args s = true) (hT : GoodIn Ts (wsV own index C y ws)) (hw : ws = Cond.codeWith y bytes maxL ret hh :: ws') (hrc : rm.cells = mc) (hrs : rm.slots = ms)
    (hd : y.cls = C ∧ y.cls ≠ "java/lang/invoke/MethodHandle" ∧ y.cls ≠ "java/lang/invoke/VarHandle" ∧ (parseMethodDescriptor y.desc).map (fun d => d.parameters.length) = some n) (hR : rm.frames + 1 ≤ R.frames ∧ 8 + (maxL + 11) + rm.locals ≤ R.locals) :
    vx_CVW R s args own C index y bytes maxL ret hh ws rm mc ms n := by
  obtain ⟨hC, hd⟩ := hd
  subst hC
  have ok : ∀ w ∈ wsV own index y.cls y ws, w.before args s = true := fun w h => ht w (hT w h).1
  have hG : GoodIn Ts ws := fun w h => hT w (by unfold wsV; exact List.mem_append_right _ h)
  have hc : Cond.codeWith y bytes maxL ret hh ∈ ws := by rw [hw]; exact List.mem_cons_self
  refine ⟨⟨hrc, hrs, hR.1, hR.2, pay_in ht hG, hc⟩, ht _ (hG _ hc).1, ok _ (by simp [wsV]), ⟨hd.1, hd.2.1⟩, fun sig h => ?_, ok _ (by simp [wsV]), ok _ (by simp [wsV]), ok _ (by simp [wsV])⟩
  have h2 := hd.2.2
  rw [h] at h2
  exact (Option.some.inj h2).symm
theorem vx_runVW {y : MethodName} {bytes cc : ByteArray} {maxL nL mc ms n index : Nat} {ret : Option FieldType} {hh : List (Nat × Nat × Nat × Nat)} {ws : List Cond} {rm : Room} {Pc : Array Value → State → Prop} {Qc : Array Value → State → Outcome → State → Prop} {free : Addr → Prop} {Ts : List Cond} {own C : String} {b : Addr} {As rest : List Value} {g : JFrame}
    (S : CallFix p m c cc nL s args Ts own) (hM : Met l y ws rm Pc Qc mc ms free) (cw : vx_CVW R s args own C index y bytes maxL ret hh ws rm mc ms n) (hp : PreV s H C b Pc As)
    (hg : g.method = m) (hn : As.length = n) (hsize : g.locals.size = nL) (hstack : g.stack = As.reverse ++ .ref b :: rest) (hW : 2 * g.monitorRoom + (rest.map fun v => v.category).sum ≤ 8) (hdg : decode cc g.pc = .ok (.invokevirtual index, 3)) (hf : cells + mc ≤ R.cells ∧ slots + ms ≤ R.slots) :
    va_Run p l e R s m args below meth c H locs cells slots mc ms g rest (Qc (Value.ref b :: As).toArray) free := by
  obtain ⟨⟨hrc, hrs, hfr, hlo, hws, hcw⟩, hcode, hini, hy, hlen, hl, hin, hse⟩ := cw
  have hK : Back l R p e below s args y 3 8 (PreOf R mc ms Pc) (PostOf Qc mc ms free) := va_backW (hh := hh) (bytes := bytes) (maxL := maxL) (ret := ret) hM hp.1 hrc hrs hfr hlo hws hcw (fun a' U hW => word_at hW (Or.inl (by first | rfl | simp [Cond.onTables, Cond.keeps, Cond.steady])) hini)
  obtain ⟨hx, hb, hml, ho, -⟩ := S
  obtain ⟨-, ⟨cellB, hcB, hoB, hclB⟩, hPc⟩ := hp
  intro T hT X
  obtain ⟨v, vm₁, ⟨U', l2, c2, s2⟩, hW₁, X', ⟨g', mk, t, L, e1, e2, hq, h1, hL, h2, h3⟩, st⟩ := vx_callVW X hx (C := C) (hh := hh) (bytes := bytes) (maxL := maxL) (ret := ret) ho hl hin hse hcode hy hK (by rw [hT]; exact hcB) hoB hclB hg (hsize.trans hml.symm) (argsL := As) (rest := rest) (fun sig h => hn.trans (hlen sig h)) hstack hW (by rw [hb]; exact hdg)
    (fun vm₁ hW₁ => ⟨hf.1, hf.2, hPc (T.setVm vm₁) hT hW₁⟩)
  dsimp only [Pt.U, Pt.locs, Pt.cells, Pt.slots] at X' e1 e2 h1 h2 h3 st
  subst h1; subst h2; subst h3
  exact ⟨v, (T.setVm vm₁).calling g' mk (Value.ref b :: As).toArray, t, U', L, hT, X', hL, e1, e2, hq, st⟩
section
variable {y : MethodName} {bytes cc : ByteArray} {maxL nL mc ms n index : Nat} {ret : Option FieldType} {ws : List Cond} {rm : Room} {Pc : Array Value → State → Prop} {Qc : Array Value → State → Outcome → State → Prop} {XC : String → State → State → Prop} {free : Addr → Prop} {Ts : List Cond} {own C : String} {b : Addr} {As rest : List Value} {g : JFrame}
theorem vx_runVX {hh : List (Nat × Nat × Nat × Nat)} (S : CallFix p m c cc nL s args Ts own) (hM : vx_Met l y ws rm Pc Qc XC mc ms free) (cw : vx_CVW R s args own C index y bytes maxL ret hh ws rm mc ms n) (hp : PreV s H C b Pc As)
    (hg : g.method = m) (hn : As.length = n) (hsize : g.locals.size = nL) (hstack : g.stack = As.reverse ++ .ref b :: rest) (hW : 2 * g.monitorRoom + (rest.map fun v => v.category).sum ≤ 8) (hdg : decode cc g.pc = .ok (.invokevirtual index, 3)) (hf : cells + mc ≤ R.cells ∧ slots + ms ≤ R.slots) :
    vx_Run p l e R s m args below meth c H locs cells slots mc ms g rest (Qc (Value.ref b :: As).toArray) XC free := by
  obtain ⟨⟨hrc, hrs, hfr, hlo, hws, hcw⟩, hcode, hini, hy, hlen, hl, hin, hse⟩ := cw
  have hK : vx_Back l R p e below s args y 3 8 (PreOf R mc ms Pc) (PostOf Qc mc ms free) (vx_Post XC mc ms free) := vx_backW (hh := hh) (bytes := bytes) (maxL := maxL) (ret := ret) hM hp.1 hrc hrs hfr hlo hws hcw (fun a' U hW => word_at hW (Or.inl (by first | rfl | simp [Cond.onTables, Cond.keeps, Cond.steady])) hini)
  obtain ⟨hx, hb, hml, ho, -⟩ := S
  obtain ⟨-, ⟨cellB, hcB, hoB, hclB⟩, hPc⟩ := hp
  intro T hT X
  rcases vx_callVX X hx (C := C) (hh := hh) (bytes := bytes) (maxL := maxL) (ret := ret) ho hl hin hse hcode hy hK (by rw [hT]; exact hcB) hoB hclB hg (hsize.trans hml.symm) (argsL := As) (rest := rest) (fun sig h => hn.trans (hlen sig h)) hstack hW (by rw [hb]; exact hdg)
    (fun vm₁ hW₁ => ⟨hf.1, hf.2, hPc (T.setVm vm₁) hT hW₁⟩) with ⟨v, vm₁, ⟨U', l2, c2, s2⟩, hW₁, X', ⟨g', mk, t, L, e1, e2, hq, h1, hL, h2, h3⟩, st⟩ | ⟨q, vm₁, ⟨U', l2, c2, s2⟩, hW₁, X', ⟨g', mk, t, L, E, ce, e1, e2, hq, hce, hcv, hcl, h1, hL, h2, h3⟩, st⟩
  · dsimp only [Pt.U, Pt.locs, Pt.cells, Pt.slots] at X' e1 e2 h1 h2 h3 st
    subst h1; subst h2; subst h3
    exact Or.inl ⟨v, (T.setVm vm₁).calling g' mk (Value.ref b :: As).toArray, t, U', L, hT, X', hL, e1, e2, hq, st⟩
  · dsimp only [Pt.U, Pt.locs, Pt.cells, Pt.slots] at X' e1 e2 h1 h2 h3 st hcl
    subst h1; subst h2; subst h3
    exact Or.inr ⟨q, (T.setVm vm₁).calling g' mk (Value.ref b :: As).toArray, t, U', L, E, ce, hT, X', hL, e1, e2, hq, hce, hcv, vx_cls hW₁ hcl, st⟩
theorem vx_runSX {hh : List (Nat × Nat × Nat × Nat)} (S : CallFix p m c cc nL s args Ts own) (hM : vx_Met l y ws rm Pc Qc XC mc ms free) (cw : vx_CSW R s args own index y bytes maxL ret hh ws rm mc ms n) (hp : PreS s H Pc As)
    (hg : g.method = m) (hn : As.length = n) (hsize : g.locals.size = nL) (hstack : g.stack = As.reverse ++ rest) (hW : 2 * g.monitorRoom + (rest.map fun v => v.category).sum ≤ 8) (hdg : decode cc g.pc = .ok (.invokestatic index, 3)) (hf : cells + mc ≤ R.cells ∧ slots + ms ≤ R.slots) :
    vx_Run p l e R s m args below meth c H locs cells slots mc ms g rest (Qc As.toArray) XC free := by
  obtain ⟨⟨hrc, hrs, hfr, hlo, hws, hcw⟩, hcode, hini, hy, hlen, hl, hstt⟩ := cw
  have hK : vx_Back l R p e below s args y 3 8 (PreOf R mc ms Pc) (PostOf Qc mc ms free) (vx_Post XC mc ms free) := vx_backW (hh := hh) (bytes := bytes) (maxL := maxL) (ret := ret) hM hp.1 hrc hrs hfr hlo hws hcw (fun a' U hW => word_at hW (Or.inl (by first | rfl | simp [Cond.onTables, Cond.keeps, Cond.steady])) hini)
  obtain ⟨hx, hb, hml, ho, -⟩ := S
  intro T hT X
  rcases vx_callSX X hx (hh := hh) (bytes := bytes) (maxL := maxL) (ret := ret) ho hl hstt hini hcode hy hK hg (hsize.trans hml.symm) (argsL := As) (rest := rest) (fun sig h => hn.trans (hlen sig h)) hstack hW (by rw [hb]; exact hdg)
    (fun vm₁ hW₁ => ⟨hf.1, hf.2, hp.2 (T.setVm vm₁) hT hW₁⟩) with ⟨v, vm₁, ⟨U', l2, c2, s2⟩, hW₁, X', ⟨g', mk, t, L, e1, e2, hq, h1, hL, h2, h3⟩, st⟩ | ⟨q, vm₁, ⟨U', l2, c2, s2⟩, hW₁, X', ⟨g', mk, t, L, E, ce, e1, e2, hq, hce, hcv, hcl, h1, hL, h2, h3⟩, st⟩
  · dsimp only [Pt.U, Pt.locs, Pt.cells, Pt.slots] at X' e1 e2 h1 h2 h3 st
    subst h1; subst h2; subst h3
    exact Or.inl ⟨v, (T.setVm vm₁).calling g' mk As.toArray, t, U', L, hT, X', hL, e1, e2, hq, st⟩
  · dsimp only [Pt.U, Pt.locs, Pt.cells, Pt.slots] at X' e1 e2 h1 h2 h3 st hcl
    subst h1; subst h2; subst h3
    exact Or.inr ⟨q, (T.setVm vm₁).calling g' mk As.toArray, t, U', L, E, ce, hT, X', hL, e1, e2, hq, hce, hcv, vx_cls hW₁ hcl, st⟩
end
end VXH
theorem vx_ofWH {l : Launch} {y : MethodName} {ws ws' : List Cond} {rm : Room} {Pc : Array Value → State → Prop} {Qc : Array Value → State → Outcome → State → Prop} {XC : String → State → State → Prop} {mc ms : Nat} {free : Addr → Prop} {cc : ByteArray} {maxL : Nat} {ret : Option FieldType} {hh : List (Nat × Nat × Nat × Nat)}
    (hy : plainName y.cls = true) (hw : ws = Cond.codeWith y cc maxL ret hh :: ws')
    (body : ∀ p e s m args below meth c s₁, BodyLoose p l y (headSpec ws rm) cc maxL ret e s m args below meth c s₁ → c.maxLocals = maxL → Pc args s →
      W p l e (headSpec ws rm).room s m args below meth c s.heap [] 0 0 (vx_MQ below Qc XC args s mc ms free) (entryFrame m args maxL)) : vx_Met l y ws rm Pc Qc XC mc ms free := by
  refine MetFree.of_bodyS (code := cc) (maxLocals := maxL) (ret := ret) hy ?_ ?_
  · intro args s m h hn
    obtain ⟨m9, meth, c, hn9, h1, h2, h3, h4, -, h5, h6, -⟩ := Cond.codeWith_spec (atoms_spec (ws := ws) h _ (by rw [hw]; exact List.mem_cons_self))
    cases hn.symm.trans hn9
    exact ⟨meth, c, h1, h2, h3, h4, h5, h6⟩
  · intro p e s m args below meth c s₁ B hml hP _
    have hh0 : s₁.heap = s.heap := by rw [B.state]; rfl
    obtain ⟨t, a1, o, b1, b2, b3⟩ := body p e s m args below meth c s₁ B hml hP s₁ hh0 (Stand.of_body B)
    exact ⟨t, o, a1, b1, b2, b3⟩
/-! ===== END ===== -/
end
section
def RX0 : String := "SessionGate$Coder"
def TX0 : u_T := fun k => match k with
  | _ => ("", "", "", false)
def tyX0 : Nat → FieldType := fun k => match k with
  | _ => .int
abbrev wsX00 : List Cond := u_ws RX0 TX0 0
theorem nmX0 : ∀ a, a < 0 → ∀ b, b < 0 → a ≠ b → (TX0 a).2.1 ≠ (TX0 b).2.1 := by decide +kernel
theorem tyX0_ok : ∀ k, k < 0 → parseFieldDescriptor (TX0 k).2.2.1 = some (tyX0 k) := by decide +kernel
abbrev cX0_encode : ByteArray := prog_2_method_2_code
def yX0_encode : MethodName := ⟨RX0, "encode", "([IILSessionGate$Text;)V"⟩
abbrev cX0_decodeCookie : ByteArray := prog_2_method_3_code
def yX0_decodeCookie : MethodName := ⟨RX0, "decodeCookie", "(LSessionGate$Text;[I)Z"⟩
abbrev cX0_isCookieForm : ByteArray := prog_2_method_4_code
def yX0_isCookieForm : MethodName := ⟨RX0, "isCookieForm", "(LSessionGate$Text;)Z"⟩
abbrev cX0_sixBits : ByteArray := prog_2_method_5_code
def yX0_sixBits : MethodName := ⟨RX0, "sixBits", "(I)I"⟩
def RX1 : String := "SessionGate$Key"
def TX1 : u_T := fun k => match k with
  | 0 => ("SessionGate$Key", "bytes", "[I", true)
  | 1 => ("SessionGate$Key", "number", "I", false)
  | _ => ("SessionGate$Key", "replacedAt", "J", false)
def tyX1 : Nat → FieldType := fun k => match k with
  | 0 => .array .int
  | 1 => .int
  | _ => .long
abbrev wsX10 : List Cond := u_ws RX1 TX1 3
theorem nmX1 : ∀ a, a < 3 → ∀ b, b < 3 → a ≠ b → (TX1 a).2.1 ≠ (TX1 b).2.1 := by decide +kernel
theorem tyX1_ok : ∀ k, k < 3 → parseFieldDescriptor (TX1 k).2.2.1 = some (tyX1 k) := by decide +kernel
abbrev cX1_init : ByteArray := prog_3_method_1_code
def yX1_init : MethodName := ⟨RX1, "<init>", "()V"⟩
abbrev cX1_fill : ByteArray := prog_3_method_2_code
def yX1_fill : MethodName := ⟨RX1, "fill", "(IIII)V"⟩
def RX2 : String := "SessionGate$KeyRing"
def TX2 : u_T := fun k => match k with
  | 0 => ("SessionGate$KeyRing", "places", "[LSessionGate$Key;", true)
  | 1 => ("SessionGate$KeyRing", "kept", "I", false)
  | _ => ("SessionGate$KeyRing", "newestPlace", "I", false)
def tyX2 : Nat → FieldType := fun k => match k with
  | 0 => .array (.object "SessionGate$Key")
  | 1 => .int
  | _ => .int
abbrev wsX20 : List Cond := u_ws RX2 TX2 3
theorem nmX2 : ∀ a, a < 3 → ∀ b, b < 3 → a ≠ b → (TX2 a).2.1 ≠ (TX2 b).2.1 := by decide +kernel
theorem tyX2_ok : ∀ k, k < 3 → parseFieldDescriptor (TX2 k).2.2.1 = some (tyX2 k) := by decide +kernel
abbrev cX2_init : ByteArray := prog_4_method_1_code
def yX2_init : MethodName := ⟨RX2, "<init>", "()V"⟩
abbrev cX2_newest : ByteArray := prog_4_method_2_code
def yX2_newest : MethodName := ⟨RX2, "newest", "()LSessionGate$Key;"⟩
abbrev cX2_advance : ByteArray := prog_4_method_3_code
def yX2_advance : MethodName := ⟨RX2, "advance", "(J)V"⟩
abbrev cX2_isLive : ByteArray := prog_4_method_4_code
def yX2_isLive : MethodName := ⟨RX2, "isLive", "(IJJ)Z"⟩
abbrev cX2_liveKey : ByteArray := prog_4_method_5_code
def yX2_liveKey : MethodName := ⟨RX2, "liveKey", "(IJJ)LSessionGate$Key;"⟩
abbrev cX2_liveOnes : ByteArray := prog_4_method_6_code
def yX2_liveOnes : MethodName := ⟨RX2, "liveOnes", "(JJ)I"⟩
def RX3 : String := "SessionGate$Mac"
def TX3 : u_T := fun k => match k with
  | 0 => ("SessionGate$Mac", "bytes", "[I", true)
  | 1 => ("SessionGate$Mac", "blocks", "[I", true)
  | 2 => ("SessionGate$Mac", "schedule", "[I", true)
  | _ => ("SessionGate$Mac", "state", "[I", true)
def tyX3 : Nat → FieldType := fun k => match k with
  | 0 => .array .int
  | 1 => .array .int
  | 2 => .array .int
  | _ => .array .int
abbrev wsX30 : List Cond := u_ws RX3 TX3 4
theorem nmX3 : ∀ a, a < 4 → ∀ b, b < 4 → a ≠ b → (TX3 a).2.1 ≠ (TX3 b).2.1 := by decide +kernel
theorem tyX3_ok : ∀ k, k < 4 → parseFieldDescriptor (TX3 k).2.2.1 = some (tyX3 k) := by decide +kernel
abbrev cX3_init : ByteArray := prog_5_method_1_code
def yX3_init : MethodName := ⟨RX3, "<init>", "()V"⟩
abbrev cX3_compute : ByteArray := prog_5_method_2_code
def yX3_compute : MethodName := ⟨RX3, "compute", "([I[II)V"⟩
abbrev cX3_fillBlocks : ByteArray := prog_5_method_3_code
def yX3_fillBlocks : MethodName := ⟨RX3, "fillBlocks", "([II[II)V"⟩
abbrev cX3_hashBlocks : ByteArray := prog_5_method_4_code
def yX3_hashBlocks : MethodName := ⟨RX3, "hashBlocks", "()V"⟩
abbrev cX3_fillSchedule : ByteArray := prog_5_method_5_code
def yX3_fillSchedule : MethodName := ⟨RX3, "fillSchedule", "(I)V"⟩
abbrev cX3_mixSchedule : ByteArray := prog_5_method_6_code
def yX3_mixSchedule : MethodName := ⟨RX3, "mixSchedule", "()V"⟩
abbrev cX3_turn : ByteArray := prog_5_method_7_code
def yX3_turn : MethodName := ⟨RX3, "turn", "(II)I"⟩
def RX4 : String := "SessionGate$Session"
def TX4 : u_T := fun k => match k with
  | 0 => ("SessionGate$Session", "open", "Z", false)
  | 1 => ("SessionGate$Session", "owner", "I", false)
  | 2 => ("SessionGate$Session", "id", "J", false)
  | 3 => ("SessionGate$Session", "began", "J", false)
  | _ => ("SessionGate$Session", "last", "J", false)
def tyX4 : Nat → FieldType := fun k => match k with
  | 0 => .boolean
  | 1 => .int
  | 2 => .long
  | 3 => .long
  | _ => .long
abbrev wsX40 : List Cond := u_ws RX4 TX4 5
theorem nmX4 : ∀ a, a < 5 → ∀ b, b < 5 → a ≠ b → (TX4 a).2.1 ≠ (TX4 b).2.1 := by decide +kernel
theorem tyX4_ok : ∀ k, k < 5 → parseFieldDescriptor (TX4 k).2.2.1 = some (tyX4 k) := by decide +kernel
abbrev cX4_init : ByteArray := prog_6_method_1_code
def yX4_init : MethodName := ⟨RX4, "<init>", "()V"⟩
abbrev cX4_begin : ByteArray := prog_6_method_2_code
def yX4_begin : MethodName := ⟨RX4, "begin", "(IJJ)V"⟩
def RX5 : String := "SessionGate$Text"
def TX5 : u_T := fun k => match k with
  | 0 => ("SessionGate$Text", "signs", "[I", true)
  | _ => ("SessionGate$Text", "length", "I", false)
def tyX5 : Nat → FieldType := fun k => match k with
  | 0 => .array .int
  | _ => .int
abbrev wsX50 : List Cond := u_ws RX5 TX5 2
theorem nmX5 : ∀ a, a < 2 → ∀ b, b < 2 → a ≠ b → (TX5 a).2.1 ≠ (TX5 b).2.1 := by decide +kernel
theorem tyX5_ok : ∀ k, k < 2 → parseFieldDescriptor (TX5 k).2.2.1 = some (tyX5 k) := by decide +kernel
abbrev cX5_init : ByteArray := prog_7_method_1_code
def yX5_init : MethodName := ⟨RX5, "<init>", "()V"⟩
abbrev cX5_has : ByteArray := prog_7_method_2_code
def yX5_has : MethodName := ⟨RX5, "has", "(I)Z"⟩
abbrev cX5_addSign : ByteArray := prog_7_method_3_code
def yX5_addSign : MethodName := ⟨RX5, "addSign", "(I)V"⟩
abbrev cX5_addSigns : ByteArray := prog_7_method_4_code
def yX5_addSigns : MethodName := ⟨RX5, "addSigns", "(I)V"⟩
abbrev cX5_isSameAs : ByteArray := prog_7_method_5_code
def yX5_isSameAs : MethodName := ⟨RX5, "isSameAs", "(LSessionGate$Text;)Z"⟩
def RX6 : String := "SessionGate$User"
def TX6 : u_T := fun k => match k with
  | 0 => ("SessionGate$User", "told", "Z", false)
  | 1 => ("SessionGate$User", "first", "I", false)
  | _ => ("SessionGate$User", "second", "I", false)
def tyX6 : Nat → FieldType := fun k => match k with
  | 0 => .boolean
  | 1 => .int
  | _ => .int
abbrev wsX60 : List Cond := u_ws RX6 TX6 3
theorem nmX6 : ∀ a, a < 3 → ∀ b, b < 3 → a ≠ b → (TX6 a).2.1 ≠ (TX6 b).2.1 := by decide +kernel
theorem tyX6_ok : ∀ k, k < 3 → parseFieldDescriptor (TX6 k).2.2.1 = some (tyX6 k) := by decide +kernel
abbrev cX6_init : ByteArray := prog_8_method_1_code
def yX6_init : MethodName := ⟨RX6, "<init>", "()V"⟩
abbrev cX6_tell : ByteArray := prog_8_method_2_code
def yX6_tell : MethodName := ⟨RX6, "tell", "(II)V"⟩
abbrev cX6_knows : ByteArray := prog_8_method_3_code
def yX6_knows : MethodName := ⟨RX6, "knows", "(II)Z"⟩
def RX7 : String := "SessionGate"
def TX7 : u_T := fun k => match k with
  | 0 => ("SessionGate", "mac", "LSessionGate$Mac;", true)
  | 1 => ("SessionGate", "keys", "LSessionGate$KeyRing;", true)
  | 2 => ("SessionGate", "cookie", "LSessionGate$Text;", true)
  | 3 => ("SessionGate", "token", "LSessionGate$Text;", true)
  | 4 => ("SessionGate", "dueToken", "LSessionGate$Text;", true)
  | 5 => ("SessionGate", "users", "[LSessionGate$User;", true)
  | 6 => ("SessionGate", "sessions", "[LSessionGate$Session;", true)
  | 7 => ("SessionGate", "seedBytes", "[I", true)
  | 8 => ("SessionGate", "countBytes", "[I", true)
  | 9 => ("SessionGate", "cookieBytes", "[I", true)
  | 10 => ("SessionGate", "markedBody", "[I", true)
  | 11 => ("SessionGate", "now", "J", false)
  | 12 => ("SessionGate", "grace", "J", false)
  | 13 => ("SessionGate", "most", "J", false)
  | 14 => ("SessionGate", "rest", "J", false)
  | 15 => ("SessionGate", "begunSinceSeed", "I", false)
  | 16 => ("SessionGate", "letIn", "I", false)
  | 17 => ("SessionGate", "refused", "I", false)
  | _ => ("SessionGate", "renewed", "I", false)
def tyX7 : Nat → FieldType := fun k => match k with
  | 0 => .object "SessionGate$Mac"
  | 1 => .object "SessionGate$KeyRing"
  | 2 => .object "SessionGate$Text"
  | 3 => .object "SessionGate$Text"
  | 4 => .object "SessionGate$Text"
  | 5 => .array (.object "SessionGate$User")
  | 6 => .array (.object "SessionGate$Session")
  | 7 => .array .int
  | 8 => .array .int
  | 9 => .array .int
  | 10 => .array .int
  | 11 => .long
  | 12 => .long
  | 13 => .long
  | 14 => .long
  | 15 => .int
  | 16 => .int
  | 17 => .int
  | _ => .int
abbrev wsX70 : List Cond := u_ws RX7 TX7 19
theorem nmX7 : ∀ a, a < 19 → ∀ b, b < 19 → a ≠ b → (TX7 a).2.1 ≠ (TX7 b).2.1 := by decide +kernel
theorem tyX7_ok : ∀ k, k < 19 → parseFieldDescriptor (TX7 k).2.2.1 = some (tyX7 k) := by decide +kernel
abbrev cX7_init : ByteArray := prog_1_method_1_code
def yX7_init : MethodName := ⟨RX7, "<init>", "()V"⟩
abbrev cX7_seed : ByteArray := prog_1_method_2_code
def yX7_seed : MethodName := ⟨RX7, "seed", "(J)V"⟩
abbrev cX7_pass : ByteArray := prog_1_method_3_code
def yX7_pass : MethodName := ⟨RX7, "pass", "(J)J"⟩
abbrev cX7_limits : ByteArray := prog_1_method_4_code
def yX7_limits : MethodName := ⟨RX7, "limits", "(JJJ)V"⟩
abbrev cX7_change : ByteArray := prog_1_method_5_code
def yX7_change : MethodName := ⟨RX7, "change", "(IIII)I"⟩
abbrev cX7_user : ByteArray := prog_1_method_6_code
def yX7_user : MethodName := ⟨RX7, "user", "(III)V"⟩
abbrev cX7_login : ByteArray := prog_1_method_7_code
def yX7_login : MethodName := ⟨RX7, "login", "(III)I"⟩
abbrev cX7_request : ByteArray := prog_1_method_8_code
def yX7_request : MethodName := ⟨RX7, "request", "(Z)I"⟩
abbrev cX7_logout : ByteArray := prog_1_method_9_code
def yX7_logout : MethodName := ⟨RX7, "logout", "()I"⟩
abbrev cX7_revoke : ByteArray := prog_1_method_10_code
def yX7_revoke : MethodName := ⟨RX7, "revoke", "(I)I"⟩
abbrev cX7_type : ByteArray := prog_1_method_11_code
def yX7_type : MethodName := ⟨RX7, "type", "(IIIII)I"⟩
abbrev cX7_erase : ByteArray := prog_1_method_12_code
def yX7_erase : MethodName := ⟨RX7, "erase", "(I)I"⟩
abbrev cX7_put : ByteArray := prog_1_method_13_code
def yX7_put : MethodName := ⟨RX7, "put", "(III)I"⟩
abbrev cX7_sign : ByteArray := prog_1_method_14_code
def yX7_sign : MethodName := ⟨RX7, "sign", "(II)I"⟩
abbrev cX7_session : ByteArray := prog_1_method_15_code
def yX7_session : MethodName := ⟨RX7, "session", "(II)J"⟩
abbrev cX7_count : ByteArray := prog_1_method_16_code
def yX7_count : MethodName := ⟨RX7, "count", "(I)I"⟩
abbrev cX7_octet : ByteArray := prog_1_method_17_code
def yX7_octet : MethodName := ⟨RX7, "octet", "(I)I"⟩
abbrev cX7_isLimit : ByteArray := prog_1_method_18_code
def yX7_isLimit : MethodName := ⟨RX7, "isLimit", "(J)Z"⟩
abbrev cX7_isUser : ByteArray := prog_1_method_19_code
def yX7_isUser : MethodName := ⟨RX7, "isUser", "(I)Z"⟩
abbrev cX7_isText : ByteArray := prog_1_method_20_code
def yX7_isText : MethodName := ⟨RX7, "isText", "(I)Z"⟩
abbrev cX7_textOf : ByteArray := prog_1_method_21_code
def yX7_textOf : MethodName := ⟨RX7, "textOf", "(I)LSessionGate$Text;"⟩
abbrev cX7_openSessions : ByteArray := prog_1_method_22_code
def yX7_openSessions : MethodName := ⟨RX7, "openSessions", "()I"⟩
abbrev cX7_freeNumber : ByteArray := prog_1_method_23_code
def yX7_freeNumber : MethodName := ⟨RX7, "freeNumber", "()I"⟩
abbrev cX7_endStaleSessions : ByteArray := prog_1_method_24_code
def yX7_endStaleSessions : MethodName := ⟨RX7, "endStaleSessions", "()V"⟩
abbrev cX7_isOld : ByteArray := prog_1_method_25_code
def yX7_isOld : MethodName := ⟨RX7, "isOld", "(LSessionGate$Session;)Z"⟩
abbrev cX7_isIdle : ByteArray := prog_1_method_26_code
def yX7_isIdle : MethodName := ⟨RX7, "isIdle", "(LSessionGate$Session;)Z"⟩
abbrev cX7_nextId : ByteArray := prog_1_method_27_code
def yX7_nextId : MethodName := ⟨RX7, "nextId", "()J"⟩
abbrev cX7_judge : ByteArray := prog_1_method_28_code
def yX7_judge : MethodName := ⟨RX7, "judge", "(Z)I"⟩
abbrev cX7_isSealedBy : ByteArray := prog_1_method_29_code
def yX7_isSealedBy : MethodName := ⟨RX7, "isSealedBy", "(LSessionGate$Key;)Z"⟩
abbrev cX7_numberOf : ByteArray := prog_1_method_30_code
def yX7_numberOf : MethodName := ⟨RX7, "numberOf", "(IJ)I"⟩
abbrev cX7_tally : ByteArray := prog_1_method_31_code
def yX7_tally : MethodName := ⟨RX7, "tally", "(I)V"⟩
abbrev cX7_writeTexts : ByteArray := prog_1_method_32_code
def yX7_writeTexts : MethodName := ⟨RX7, "writeTexts", "(LSessionGate$Session;)V"⟩
abbrev cX7_writeToken : ByteArray := prog_1_method_33_code
def yX7_writeToken : MethodName := ⟨RX7, "writeToken", "(LSessionGate$Key;LSessionGate$Text;)V"⟩
abbrev cX7_byteOf : ByteArray := prog_1_method_34_code
def yX7_byteOf : MethodName := ⟨RX7, "byteOf", "(II)I"⟩
abbrev cX7_signsIn : ByteArray := prog_1_method_35_code
def yX7_signsIn : MethodName := ⟨RX7, "signsIn", "(I)I"⟩
abbrev cX7_writeLong : ByteArray := prog_1_method_36_code
def yX7_writeLong : MethodName := ⟨RX7, "writeLong", "(J[II)V"⟩
abbrev cX7_readLong : ByteArray := prog_1_method_37_code
def yX7_readLong : MethodName := ⟨RX7, "readLong", "([II)J"⟩
def RX8 : String := "SessionGateModel"
def TX8 : u_T := fun k => match k with
  | 0 => ("SessionGateModel", "fault", "I", false)
  | 1 => ("SessionGateModel", "round", "[I", true)
  | 2 => ("SessionGateModel", "start", "[I", true)
  | 3 => ("SessionGateModel", "state", "[I", true)
  | 4 => ("SessionGateModel", "word", "[I", true)
  | 5 => ("SessionGateModel", "message", "[I", true)
  | 6 => ("SessionGateModel", "messageSize", "I", false)
  | 7 => ("SessionGateModel", "hash", "[I", true)
  | 8 => ("SessionGateModel", "key", "[I", true)
  | 9 => ("SessionGateModel", "said", "[I", true)
  | 10 => ("SessionGateModel", "saidSize", "I", false)
  | 11 => ("SessionGateModel", "now", "J", false)
  | 12 => ("SessionGateModel", "grace", "J", false)
  | 13 => ("SessionGateModel", "most", "J", false)
  | 14 => ("SessionGateModel", "rest", "J", false)
  | 15 => ("SessionGateModel", "seed", "J", false)
  | 16 => ("SessionGateModel", "begunAll", "J", false)
  | 17 => ("SessionGateModel", "keys", "I", false)
  | 18 => ("SessionGateModel", "keyNumber", "[I", true)
  | 19 => ("SessionGateModel", "keyBytes", "[I", true)
  | 20 => ("SessionGateModel", "keyUntil", "[J", true)
  | 21 => ("SessionGateModel", "hasPassword", "[Z", true)
  | 22 => ("SessionGateModel", "passwordA", "[I", true)
  | 23 => ("SessionGateModel", "passwordB", "[I", true)
  | 24 => ("SessionGateModel", "isThere", "[Z", true)
  | 25 => ("SessionGateModel", "user", "[I", true)
  | 26 => ("SessionGateModel", "id", "[J", true)
  | 27 => ("SessionGateModel", "began", "[J", true)
  | 28 => ("SessionGateModel", "last", "[J", true)
  | 29 => ("SessionGateModel", "size", "[I", true)
  | 30 => ("SessionGateModel", "texts", "[I", true)
  | 31 => ("SessionGateModel", "raw", "[I", true)
  | 32 => ("SessionGateModel", "letIn", "I", false)
  | 33 => ("SessionGateModel", "refusedMany", "I", false)
  | 34 => ("SessionGateModel", "renewed", "I", false)
  | _ => ("SessionGateModel", "keyAt", "I", false)
def tyX8 : Nat → FieldType := fun k => match k with
  | 0 => .int
  | 1 => .array .int
  | 2 => .array .int
  | 3 => .array .int
  | 4 => .array .int
  | 5 => .array .int
  | 6 => .int
  | 7 => .array .int
  | 8 => .array .int
  | 9 => .array .int
  | 10 => .int
  | 11 => .long
  | 12 => .long
  | 13 => .long
  | 14 => .long
  | 15 => .long
  | 16 => .long
  | 17 => .int
  | 18 => .array .int
  | 19 => .array .int
  | 20 => .array .long
  | 21 => .array .boolean
  | 22 => .array .int
  | 23 => .array .int
  | 24 => .array .boolean
  | 25 => .array .int
  | 26 => .array .long
  | 27 => .array .long
  | 28 => .array .long
  | 29 => .array .int
  | 30 => .array .int
  | 31 => .array .int
  | 32 => .int
  | 33 => .int
  | 34 => .int
  | _ => .int
abbrev wsX80 : List Cond := u_ws RX8 TX8 36
theorem nmX8 : ∀ a, a < 36 → ∀ b, b < 36 → a ≠ b → (TX8 a).2.1 ≠ (TX8 b).2.1 := by decide +kernel
theorem tyX8_ok : ∀ k, k < 36 → parseFieldDescriptor (TX8 k).2.2.1 = some (tyX8 k) := by decide +kernel
abbrev cX8_init : ByteArray := prog_10_method_1_code
def yX8_init : MethodName := ⟨RX8, "<init>", "()V"⟩
abbrev cX8_thrown : ByteArray := prog_10_method_2_code
def yX8_thrown : MethodName := ⟨RX8, "thrown", "()I"⟩
abbrev cX8_refused : ByteArray := prog_10_method_3_code
def yX8_refused : MethodName := ⟨RX8, "refused", "(I)Z"⟩
abbrev cX8_isIn : ByteArray := prog_10_method_4_code
def yX8_isIn : MethodName := ⟨RX8, "isIn", "(JJJ)Z"⟩
abbrev cX8_turn : ByteArray := prog_10_method_5_code
def yX8_turn : MethodName := ⟨RX8, "turn", "(II)I"⟩
abbrev cX8_block : ByteArray := prog_10_method_6_code
def yX8_block : MethodName := ⟨RX8, "block", "(I)V"⟩
abbrev cX8_hashNow : ByteArray := prog_10_method_7_code
def yX8_hashNow : MethodName := ⟨RX8, "hashNow", "()V"⟩
abbrev cX8_seal : ByteArray := prog_10_method_8_code
def yX8_seal : MethodName := ⟨RX8, "seal", "()V"⟩
abbrev cX8_say : ByteArray := prog_10_method_9_code
def yX8_say : MethodName := ⟨RX8, "say", "(I)V"⟩
abbrev cX8_takeKey : ByteArray := prog_10_method_10_code
def yX8_takeKey : MethodName := ⟨RX8, "takeKey", "(I)V"⟩
abbrev cX8_newId : ByteArray := prog_10_method_11_code
def yX8_newId : MethodName := ⟨RX8, "newId", "()J"⟩
abbrev cX8_signOf : ByteArray := prog_10_method_12_code
def yX8_signOf : MethodName := ⟨RX8, "signOf", "(I)I"⟩
abbrev cX8_valueOf : ByteArray := prog_10_method_13_code
def yX8_valueOf : MethodName := ⟨RX8, "valueOf", "(I)I"⟩
abbrev cX8_codedAt : ByteArray := prog_10_method_14_code
def yX8_codedAt : MethodName := ⟨RX8, "codedAt", "(II)I"⟩
abbrev cX8_body : ByteArray := prog_10_method_15_code
def yX8_body : MethodName := ⟨RX8, "body", "(IIJ)V"⟩
abbrev cX8_sealBody : ByteArray := prog_10_method_16_code
def yX8_sealBody : MethodName := ⟨RX8, "sealBody", "(II)V"⟩
abbrev cX8_token : ByteArray := prog_10_method_17_code
def yX8_token : MethodName := ⟨RX8, "token", "(I)V"⟩
abbrev cX8_issue : ByteArray := prog_10_method_18_code
def yX8_issue : MethodName := ⟨RX8, "issue", "(I)V"⟩
abbrev cX8_seed : ByteArray := prog_10_method_19_code
def yX8_seed : MethodName := ⟨RX8, "seed", "(J)V"⟩
abbrev cX8_pass : ByteArray := prog_10_method_20_code
def yX8_pass : MethodName := ⟨RX8, "pass", "(J)J"⟩
abbrev cX8_limits : ByteArray := prog_10_method_21_code
def yX8_limits : MethodName := ⟨RX8, "limits", "(JJJ)V"⟩
abbrev cX8_change : ByteArray := prog_10_method_22_code
def yX8_change : MethodName := ⟨RX8, "change", "(IIII)I"⟩
abbrev cX8_isLive : ByteArray := prog_10_method_23_code
def yX8_isLive : MethodName := ⟨RX8, "isLive", "(I)Z"⟩
abbrev cX8_user : ByteArray := prog_10_method_24_code
def yX8_user : MethodName := ⟨RX8, "user", "(III)V"⟩
abbrev cX8_isOld : ByteArray := prog_10_method_25_code
def yX8_isOld : MethodName := ⟨RX8, "isOld", "(I)Z"⟩
abbrev cX8_isIdle : ByteArray := prog_10_method_26_code
def yX8_isIdle : MethodName := ⟨RX8, "isIdle", "(I)Z"⟩
abbrev cX8_login : ByteArray := prog_10_method_27_code
def yX8_login : MethodName := ⟨RX8, "login", "(III)I"⟩
abbrev cX8_isForm : ByteArray := prog_10_method_28_code
def yX8_isForm : MethodName := ⟨RX8, "isForm", "()Z"⟩
abbrev cX8_look : ByteArray := prog_10_method_29_code
def yX8_look : MethodName := ⟨RX8, "look", "(Z)I"⟩
abbrev cX8_request : ByteArray := prog_10_method_30_code
def yX8_request : MethodName := ⟨RX8, "request", "(Z)I"⟩
abbrev cX8_logout : ByteArray := prog_10_method_31_code
def yX8_logout : MethodName := ⟨RX8, "logout", "()I"⟩
abbrev cX8_revoke : ByteArray := prog_10_method_32_code
def yX8_revoke : MethodName := ⟨RX8, "revoke", "(I)I"⟩
abbrev cX8_typed : ByteArray := prog_10_method_33_code
def yX8_typed : MethodName := ⟨RX8, "typed", "(III)I"⟩
abbrev cX8_many : ByteArray := prog_10_method_34_code
def yX8_many : MethodName := ⟨RX8, "many", "(I)I"⟩
abbrev cX8_type : ByteArray := prog_10_method_35_code
def yX8_type : MethodName := ⟨RX8, "type", "(IIIII)I"⟩
abbrev cX8_erase : ByteArray := prog_10_method_36_code
def yX8_erase : MethodName := ⟨RX8, "erase", "(I)I"⟩
abbrev cX8_put : ByteArray := prog_10_method_37_code
def yX8_put : MethodName := ⟨RX8, "put", "(III)I"⟩
abbrev cX8_sign : ByteArray := prog_10_method_38_code
def yX8_sign : MethodName := ⟨RX8, "sign", "(II)I"⟩
abbrev cX8_session : ByteArray := prog_10_method_39_code
def yX8_session : MethodName := ⟨RX8, "session", "(II)J"⟩
abbrev cX8_count : ByteArray := prog_10_method_40_code
def yX8_count : MethodName := ⟨RX8, "count", "(I)I"⟩
abbrev cX8_octet : ByteArray := prog_10_method_41_code
def yX8_octet : MethodName := ⟨RX8, "octet", "(I)I"⟩
def RJ11 : String := "java/lang/Character"
def TJ11 : u_T := fun k => match k with
  | _ => ("", "", "", false)
def tyJ11 : Nat → FieldType := fun k => match k with
  | _ => .int
abbrev wsJ110 : List Cond := u_ws RJ11 TJ11 0
theorem nmJ11 : ∀ a, a < 0 → ∀ b, b < 0 → a ≠ b → (TJ11 a).2.1 ≠ (TJ11 b).2.1 := by decide +kernel
theorem tyJ11_ok : ∀ k, k < 0 → parseFieldDescriptor (TJ11 k).2.2.1 = some (tyJ11 k) := by decide +kernel
abbrev cJ11_isValidCodePoint_9a6ad : ByteArray := prog_11_method_11_code
def yJ11_isValidCodePoint_9a6ad : MethodName := ⟨RJ11, "isValidCodePoint", "(I)Z"⟩
abbrev cJ11_highSurrogate_5068e : ByteArray := prog_11_method_28_code
def yJ11_highSurrogate_5068e : MethodName := ⟨RJ11, "highSurrogate", "(I)C"⟩
abbrev cJ11_lowSurrogate_5068e : ByteArray := prog_11_method_29_code
def yJ11_lowSurrogate_5068e : MethodName := ⟨RJ11, "lowSurrogate", "(I)C"⟩
def RJ9 : String := "java/lang/Math"
def TJ9 : u_T := fun k => match k with
  | _ => ("", "", "", false)
def tyJ9 : Nat → FieldType := fun k => match k with
  | _ => .int
abbrev wsJ90 : List Cond := u_ws RJ9 TJ9 0
theorem nmJ9 : ∀ a, a < 0 → ∀ b, b < 0 → a ≠ b → (TJ9 a).2.1 ≠ (TJ9 b).2.1 := by decide +kernel
theorem tyJ9_ok : ∀ k, k < 0 → parseFieldDescriptor (TJ9 k).2.2.1 = some (tyJ9 k) := by decide +kernel
abbrev cJ9_max_7cf53 : ByteArray := prog_16_method_65_code
def yJ9_max_7cf53 : MethodName := ⟨RJ9, "max", "(II)I"⟩
abbrev cJ9_min_7cf53 : ByteArray := prog_16_method_69_code
def yJ9_min_7cf53 : MethodName := ⟨RJ9, "min", "(II)I"⟩
def RJ0 : String := "java/lang/String"
def TJ0 : u_T := fun k => match k with
  | _ => ("", "", "", false)
def tyJ0 : Nat → FieldType := fun k => match k with
  | _ => .int
abbrev wsJ00 : List Cond := u_ws RJ0 TJ0 0
theorem nmJ0 : ∀ a, a < 0 → ∀ b, b < 0 → a ≠ b → (TJ0 a).2.1 ≠ (TJ0 b).2.1 := by decide +kernel
theorem tyJ0_ok : ∀ k, k < 0 → parseFieldDescriptor (TJ0 k).2.2.1 = some (tyJ0 k) := by decide +kernel
abbrev cJ0_length_8abf5 : ByteArray := prog_18_method_54_code
def yJ0_length_8abf5 : MethodName := ⟨RJ0, "length", "()I"⟩
abbrev cJ0_charAt_5068e : ByteArray := prog_18_method_56_code
def yJ0_charAt_5068e : MethodName := ⟨RJ0, "charAt", "(I)C"⟩
abbrev cJ0_indexOf_0f7a4 : ByteArray := prog_18_method_79_code
def yJ0_indexOf_0f7a4 : MethodName := ⟨RJ0, "indexOf", "(I)I"⟩
abbrev cJ0_indexOf_7cf53 : ByteArray := prog_18_method_80_code
def yJ0_indexOf_7cf53 : MethodName := ⟨RJ0, "indexOf", "(II)I"⟩
abbrev cJ0_coder_7d493 : ByteArray := prog_18_method_152_code
def yJ0_coder_7d493 : MethodName := ⟨RJ0, "coder", "()B"⟩
abbrev cJ0_isLatin1_aae02 : ByteArray := prog_18_method_154_code
def yJ0_isLatin1_aae02 : MethodName := ⟨RJ0, "isLatin1", "()Z"⟩
abbrev cJ0_checkIndex_df160 : ByteArray := prog_18_method_155_code
def yJ0_checkIndex_df160 : MethodName := ⟨RJ0, "checkIndex", "(II)V"⟩
abbrev cJ0_checkBoundsBeginEnd_23922 : ByteArray := prog_18_method_158_code
def yJ0_checkBoundsBeginEnd_23922 : MethodName := ⟨RJ0, "checkBoundsBeginEnd", "(III)V"⟩
def RJ1 : String := "java/lang/StringLatin1"
def TJ1 : u_T := fun k => match k with
  | _ => ("", "", "", false)
def tyJ1 : Nat → FieldType := fun k => match k with
  | _ => .int
abbrev wsJ10 : List Cond := u_ws RJ1 TJ1 0
theorem nmJ1 : ∀ a, a < 0 → ∀ b, b < 0 → a ≠ b → (TJ1 a).2.1 ≠ (TJ1 b).2.1 := by decide +kernel
theorem tyJ1_ok : ∀ k, k < 0 → parseFieldDescriptor (TJ1 k).2.2.1 = some (tyJ1 k) := by decide +kernel
abbrev cJ1_charAt_3b067 : ByteArray := prog_19_method_2_code
def yJ1_charAt_3b067 : MethodName := ⟨RJ1, "charAt", "([BI)C"⟩
abbrev cJ1_canEncode_9a6ad : ByteArray := prog_19_method_4_code
def yJ1_canEncode_9a6ad : MethodName := ⟨RJ1, "canEncode", "(I)Z"⟩
abbrev cJ1_indexOf_4cfef : ByteArray := prog_19_method_22_code
def yJ1_indexOf_4cfef : MethodName := ⟨RJ1, "indexOf", "([BIII)I"⟩
abbrev cJ1_indexOfChar_4cfef : ByteArray := prog_19_method_23_code
def yJ1_indexOfChar_4cfef : MethodName := ⟨RJ1, "indexOfChar", "([BIII)I"⟩
def RJ2 : String := "java/lang/StringUTF16"
def TJ2 : u_T := fun k => match k with
  | _ => ("", "", "", false)
def tyJ2 : Nat → FieldType := fun k => match k with
  | _ => .int
abbrev wsJ20 : List Cond := u_ws RJ2 TJ2 0
theorem nmJ2 : ∀ a, a < 0 → ∀ b, b < 0 → a ≠ b → (TJ2 a).2.1 ≠ (TJ2 b).2.1 := by decide +kernel
theorem tyJ2_ok : ∀ k, k < 0 → parseFieldDescriptor (TJ2 k).2.2.1 = some (tyJ2 k) := by decide +kernel
abbrev cJ2_getChar_3b067 : ByteArray := prog_20_method_5_code
def yJ2_getChar_3b067 : MethodName := ⟨RJ2, "getChar", "([BI)C"⟩
abbrev cJ2_length_9d52b : ByteArray := prog_20_method_6_code
def yJ2_length_9d52b : MethodName := ⟨RJ2, "length", "([B)I"⟩
abbrev cJ2_indexOf_4cfef : ByteArray := prog_20_method_40_code
def yJ2_indexOf_4cfef : MethodName := ⟨RJ2, "indexOf", "([BIII)I"⟩
abbrev cJ2_indexOfChar_4cfef : ByteArray := prog_20_method_47_code
def yJ2_indexOfChar_4cfef : MethodName := ⟨RJ2, "indexOfChar", "([BIII)I"⟩
abbrev cJ2_indexOfCharUnsafe_4cfef : ByteArray := prog_20_method_48_code
def yJ2_indexOfCharUnsafe_4cfef : MethodName := ⟨RJ2, "indexOfCharUnsafe", "([BIII)I"⟩
abbrev cJ2_indexOfSupplementary_4cfef : ByteArray := prog_20_method_49_code
def yJ2_indexOfSupplementary_4cfef : MethodName := ⟨RJ2, "indexOfSupplementary", "([BIII)I"⟩
abbrev cJ2_charAt_3b067 : ByteArray := prog_20_method_83_code
def yJ2_charAt_3b067 : MethodName := ⟨RJ2, "charAt", "([BI)C"⟩
abbrev cJ2_checkIndex_2214a : ByteArray := prog_20_method_91_code
def yJ2_checkIndex_2214a : MethodName := ⟨RJ2, "checkIndex", "(I[B)V"⟩
abbrev cJ2_checkBoundsBeginEnd_d044e : ByteArray := prog_20_method_93_code
def yJ2_checkBoundsBeginEnd_d044e : MethodName := ⟨RJ2, "checkBoundsBeginEnd", "(II[B)V"⟩
def RJ10 : String := "java/lang/System"
def TJ10 : u_T := fun k => match k with
  | _ => ("", "", "", false)
def tyJ10 : Nat → FieldType := fun k => match k with
  | _ => .int
abbrev wsJ100 : List Cond := u_ws RJ10 TJ10 0
theorem nmJ10 : ∀ a, a < 0 → ∀ b, b < 0 → a ≠ b → (TJ10 a).2.1 ≠ (TJ10 b).2.1 := by decide +kernel
theorem tyJ10_ok : ∀ k, k < 0 → parseFieldDescriptor (TJ10 k).2.2.1 = some (tyJ10 k) := by decide +kernel
def RJ3 : String := "jdk/internal/util/Preconditions"
def TJ3 : u_T := fun k => match k with
  | _ => ("", "", "", false)
def tyJ3 : Nat → FieldType := fun k => match k with
  | _ => .int
abbrev wsJ30 : List Cond := u_ws RJ3 TJ3 0
theorem nmJ3 : ∀ a, a < 0 → ∀ b, b < 0 → a ≠ b → (TJ3 a).2.1 ≠ (TJ3 b).2.1 := by decide +kernel
theorem tyJ3_ok : ∀ k, k < 0 → parseFieldDescriptor (TJ3 k).2.2.1 = some (tyJ3 k) := by decide +kernel
abbrev cJ3_checkIndex_8e157 : ByteArray := prog_23_method_11_code
def yJ3_checkIndex_8e157 : MethodName := ⟨RJ3, "checkIndex", "(IILjava/util/function/BiFunction;)I"⟩
abbrev cJ3_checkFromToIndex_8c36e : ByteArray := prog_23_method_12_code
def yJ3_checkFromToIndex_8c36e : MethodName := ⟨RJ3, "checkFromToIndex", "(IIILjava/util/function/BiFunction;)I"⟩
def RL : String := "SessionGateLaw"
abbrev cL_pass : ByteArray := method_3_code
def yL_pass : MethodName := ⟨RL, "pass", "(LSessionGate;J[J)I"⟩
abbrev cL_limits : ByteArray := method_4_code
def yL_limits : MethodName := ⟨RL, "limits", "(LSessionGate;JJJ)I"⟩
abbrev cL_user : ByteArray := method_5_code
def yL_user : MethodName := ⟨RL, "user", "(LSessionGate;III)I"⟩
abbrev cL_login : ByteArray := method_6_code
def yL_login : MethodName := ⟨RL, "login", "(LSessionGate;III[J)I"⟩
abbrev cL_revoke : ByteArray := method_7_code
def yL_revoke : MethodName := ⟨RL, "revoke", "(LSessionGate;I[J)I"⟩
abbrev cL_type : ByteArray := method_8_code
def yL_type : MethodName := ⟨RL, "type", "(LSessionGate;IIIII[J)I"⟩
abbrev cL_erase : ByteArray := method_9_code
def yL_erase : MethodName := ⟨RL, "erase", "(LSessionGate;I[J)I"⟩
abbrev cL_put : ByteArray := method_10_code
def yL_put : MethodName := ⟨RL, "put", "(LSessionGate;III[J)I"⟩
abbrev cL_sign : ByteArray := method_11_code
def yL_sign : MethodName := ⟨RL, "sign", "(LSessionGate;II[J)I"⟩
abbrev cL_session : ByteArray := method_12_code
def yL_session : MethodName := ⟨RL, "session", "(LSessionGate;II[J)I"⟩
abbrev cL_count : ByteArray := method_13_code
def yL_count : MethodName := ⟨RL, "count", "(LSessionGate;I[J)I"⟩
abbrev cL_octet : ByteArray := method_14_code
def yL_octet : MethodName := ⟨RL, "octet", "(LSessionGate;I[J)I"⟩
abbrev cL_law : ByteArray := code
def yL_law : MethodName := ⟨RL, "law", "([I)Z"⟩
def wsL_law0_r1 : List Cond := [Cond.classLink RL 8 RX7, Cond.instantiable RX7 19, Cond.initialized RX7, Cond.classLink RL 60 RX8, Cond.instantiable RX8 36, Cond.initialized RX8, Cond.arrayClass .long, Cond.constantLong RL 63 (4294967295), Cond.methodLink RL 59 yX7_init, Cond.instanceMethod yX7_init, Cond.code yX7_init cX7_init 2 none, Cond.methodLink RX7 1 objectInit, Cond.instanceMethod objectInit, Cond.code objectInit ⟨#[0xb1]⟩ 1 none, Cond.classLink RX7 7 RX3, Cond.instantiable RX3 4, Cond.initialized RX3, Cond.fieldLink RX7 10 "SessionGate" "mac" "LSessionGate$Mac;", Cond.classLink RX7 16 RX2, Cond.instantiable RX2 3, Cond.initialized RX2, Cond.fieldLink RX7 19 "SessionGate" "keys" "LSessionGate$KeyRing;", Cond.classLink RX7 23 RX5, Cond.instantiable RX5 2]
def wsL_law0_r2 : List Cond := [Cond.initialized RX5, Cond.fieldLink RX7 26 "SessionGate" "cookie" "LSessionGate$Text;", Cond.fieldLink RX7 30 "SessionGate" "token" "LSessionGate$Text;", Cond.fieldLink RX7 33 "SessionGate" "dueToken" "LSessionGate$Text;", Cond.classLink RX7 36 RX6, Cond.fieldLink RX7 38 "SessionGate" "users" "[LSessionGate$User;", Cond.classLink RX7 42 RX4, Cond.fieldLink RX7 44 "SessionGate" "sessions" "[LSessionGate$Session;", Cond.arrayClass .int, Cond.fieldLink RX7 48 "SessionGate" "seedBytes" "[I", Cond.fieldLink RX7 52 "SessionGate" "countBytes" "[I", Cond.fieldLink RX7 55 "SessionGate" "cookieBytes" "[I", Cond.fieldLink RX7 58 "SessionGate" "markedBody" "[I", Cond.fieldLink RX7 61 "SessionGate" "now" "J", Cond.constantLong RX7 65 (1000000), Cond.fieldLink RX7 67 "SessionGate" "grace" "J", Cond.fieldLink RX7 70 "SessionGate" "most" "J", Cond.fieldLink RX7 73 "SessionGate" "rest" "J", Cond.fieldLink RX7 76 "SessionGate" "begunSinceSeed" "I", Cond.fieldLink RX7 80 "SessionGate" "letIn" "I", Cond.fieldLink RX7 83 "SessionGate" "refused" "I", Cond.fieldLink RX7 86 "SessionGate" "renewed" "I", Cond.instantiable RX6 3, Cond.initialized RX6]
def wsL_law0_r3 : List Cond := [Cond.instantiable RX4 5, Cond.initialized RX4, Cond.instanceMethod yX3_init, Cond.code yX3_init cX3_init 1 none, Cond.methodLink RX3 1 objectInit, Cond.fieldLink RX3 9 "SessionGate$Mac" "bytes" "[I", Cond.fieldLink RX3 13 "SessionGate$Mac" "blocks" "[I", Cond.fieldLink RX3 16 "SessionGate$Mac" "schedule" "[I", Cond.fieldLink RX3 19 "SessionGate$Mac" "state" "[I", Cond.methodLink RX7 18 yX2_init, Cond.instanceMethod yX2_init, Cond.code yX2_init cX2_init 2 none, Cond.methodLink RX2 1 objectInit, Cond.classLink RX2 9 RX1, Cond.fieldLink RX2 11 "SessionGate$KeyRing" "places" "[LSessionGate$Key;", Cond.fieldLink RX2 15 "SessionGate$KeyRing" "kept" "I", Cond.fieldLink RX2 19 "SessionGate$KeyRing" "newestPlace" "I", Cond.instantiable RX1 3, Cond.initialized RX1, Cond.instanceMethod yX1_init, Cond.code yX1_init cX1_init 1 none, Cond.methodLink RX1 1 objectInit, Cond.fieldLink RX1 9 "SessionGate$Key" "bytes" "[I", Cond.fieldLink RX1 13 "SessionGate$Key" "number" "I"]
def wsL_law0_r4 : List Cond := [Cond.fieldLink RX1 17 "SessionGate$Key" "replacedAt" "J", Cond.instanceMethod yX5_init, Cond.code yX5_init cX5_init 1 none, Cond.methodLink RX5 3 objectInit, Cond.fieldLink RX5 9 "SessionGate$Text" "signs" "[I", Cond.fieldLink RX5 15 "SessionGate$Text" "length" "I", Cond.instanceMethod yX6_init, Cond.code yX6_init cX6_init 1 none, Cond.methodLink RX6 1 objectInit, Cond.fieldLink RX6 7 "SessionGate$User" "told" "Z", Cond.fieldLink RX6 13 "SessionGate$User" "first" "I", Cond.fieldLink RX6 17 "SessionGate$User" "second" "I", Cond.instanceMethod yX4_init, Cond.code yX4_init cX4_init 1 none, Cond.methodLink RX4 1 objectInit, Cond.fieldLink RX4 7 "SessionGate$Session" "open" "Z", Cond.fieldLink RX4 13 "SessionGate$Session" "owner" "I", Cond.fieldLink RX4 17 "SessionGate$Session" "id" "J", Cond.fieldLink RX4 21 "SessionGate$Session" "began" "J", Cond.fieldLink RX4 24 "SessionGate$Session" "last" "J", Cond.methodLink RL 62 yX8_init, Cond.instanceMethod yX8_init, Cond.code yX8_init cX8_init 1 none, Cond.methodLink RX8 1 objectInit]
def wsL_law0_r5 : List Cond := [Cond.constant RX8 7 (1116352408), Cond.constant RX8 8 (1899447441), Cond.constant RX8 9 (-1245643825), Cond.constant RX8 10 (-373957723), Cond.constant RX8 11 (961987163), Cond.constant RX8 12 (1508970993), Cond.constant RX8 13 (-1841331548), Cond.constant RX8 14 (-1424204075), Cond.constant RX8 15 (-670586216), Cond.constant RX8 16 (310598401), Cond.constant RX8 17 (607225278), Cond.constant RX8 18 (1426881987), Cond.constant RX8 19 (1925078388), Cond.constant RX8 20 (-2132889090), Cond.constant RX8 21 (-1680079193), Cond.constant RX8 22 (-1046744716), Cond.constant RX8 23 (-459576895), Cond.constant RX8 24 (-272742522), Cond.constant RX8 25 (264347078), Cond.constant RX8 26 (604807628), Cond.constant RX8 27 (770255983), Cond.constant RX8 28 (1249150122), Cond.constant RX8 29 (1555081692), Cond.constant RX8 30 (1996064986)]
def wsL_law0_r6 : List Cond := [Cond.constant RX8 31 (-1740746414), Cond.constant RX8 32 (-1473132947), Cond.constant RX8 33 (-1341970488), Cond.constant RX8 34 (-1084653625), Cond.constant RX8 35 (-958395405), Cond.constant RX8 36 (-710438585), Cond.constant RX8 37 (113926993), Cond.constant RX8 38 (338241895), Cond.constant RX8 39 (666307205), Cond.constant RX8 40 (773529912), Cond.constant RX8 41 (1294757372), Cond.constant RX8 42 (1396182291), Cond.constant RX8 43 (1695183700), Cond.constant RX8 44 (1986661051), Cond.constant RX8 45 (-2117940946), Cond.constant RX8 46 (-1838011259), Cond.constant RX8 47 (-1564481375), Cond.constant RX8 48 (-1474664885), Cond.constant RX8 49 (-1035236496), Cond.constant RX8 50 (-949202525), Cond.constant RX8 51 (-778901479), Cond.constant RX8 52 (-694614492), Cond.constant RX8 53 (-200395387), Cond.constant RX8 54 (275423344)]
def wsL_law0_r7 : List Cond := [Cond.constant RX8 55 (430227734), Cond.constant RX8 56 (506948616), Cond.constant RX8 57 (659060556), Cond.constant RX8 58 (883997877), Cond.constant RX8 59 (958139571), Cond.constant RX8 60 (1322822218), Cond.constant RX8 61 (1537002063), Cond.constant RX8 62 (1747873779), Cond.constant RX8 63 (1955562222), Cond.constant RX8 64 (2024104815), Cond.constant RX8 65 (-2067236844), Cond.constant RX8 66 (-1933114872), Cond.constant RX8 67 (-1866530822), Cond.constant RX8 68 (-1538233109), Cond.constant RX8 69 (-1090935817), Cond.constant RX8 70 (-965641998), Cond.fieldLink RX8 71 "SessionGateModel" "round" "[I", Cond.constant RX8 77 (1779033703), Cond.constant RX8 78 (-1150833019), Cond.constant RX8 79 (1013904242), Cond.constant RX8 80 (-1521486534), Cond.constant RX8 81 (1359893119), Cond.constant RX8 82 (-1694144372), Cond.constant RX8 83 (528734635)]
def wsL_law0_r8 : List Cond := [Cond.constant RX8 84 (1541459225), Cond.fieldLink RX8 85 "SessionGateModel" "start" "[I", Cond.fieldLink RX8 88 "SessionGateModel" "state" "[I", Cond.fieldLink RX8 91 "SessionGateModel" "word" "[I", Cond.fieldLink RX8 94 "SessionGateModel" "message" "[I", Cond.fieldLink RX8 97 "SessionGateModel" "hash" "[I", Cond.fieldLink RX8 100 "SessionGateModel" "key" "[I", Cond.fieldLink RX8 103 "SessionGateModel" "said" "[I", Cond.constantLong RX8 106 (1000000), Cond.fieldLink RX8 108 "SessionGateModel" "grace" "J", Cond.fieldLink RX8 112 "SessionGateModel" "most" "J", Cond.fieldLink RX8 115 "SessionGateModel" "rest" "J", Cond.fieldLink RX8 118 "SessionGateModel" "keys" "I", Cond.fieldLink RX8 122 "SessionGateModel" "keyNumber" "[I", Cond.fieldLink RX8 125 "SessionGateModel" "keyBytes" "[I", Cond.fieldLink RX8 128 "SessionGateModel" "keyUntil" "[J", Cond.arrayClass .boolean, Cond.fieldLink RX8 132 "SessionGateModel" "hasPassword" "[Z", Cond.fieldLink RX8 136 "SessionGateModel" "passwordA" "[I", Cond.fieldLink RX8 139 "SessionGateModel" "passwordB" "[I", Cond.fieldLink RX8 142 "SessionGateModel" "isThere" "[Z", Cond.fieldLink RX8 145 "SessionGateModel" "user" "[I", Cond.fieldLink RX8 148 "SessionGateModel" "id" "[J", Cond.fieldLink RX8 151 "SessionGateModel" "began" "[J"]
def wsL_law0_r9 : List Cond := [Cond.fieldLink RX8 154 "SessionGateModel" "last" "[J", Cond.fieldLink RX8 157 "SessionGateModel" "size" "[I", Cond.fieldLink RX8 160 "SessionGateModel" "texts" "[I", Cond.fieldLink RX8 163 "SessionGateModel" "raw" "[I", Cond.methodLink RL 65 yX7_seed, Cond.instanceMethod yX7_seed, Cond.selects RX7 yX7_seed yX7_seed, Cond.code yX7_seed cX7_seed 3 none, Cond.methodLink RX7 91 yX7_writeLong, Cond.static yX7_writeLong, Cond.code yX7_writeLong cX7_writeLong 5 none, Cond.methodLink RL 69 yX8_seed, Cond.instanceMethod yX8_seed, Cond.selects RX8 yX8_seed yX8_seed, Cond.code yX8_seed cX8_seed 3 none, Cond.fieldLink RX8 166 "SessionGateModel" "fault" "I", Cond.fieldLink RX8 186 "SessionGateModel" "seed" "J", Cond.fieldLink RX8 191 "SessionGateModel" "begunAll" "J", Cond.methodLink RL 70 yL_pass, Cond.static yL_pass, Cond.initialized RL, Cond.codeWith yL_pass cL_pass 5 (some .int) [(0, 8, 11, 13)], Cond.classLink RL 13 "java/lang/IllegalArgumentException", Cond.methodLink RL 7 yX7_pass]
def wsL_law0_r10 : List Cond := [Cond.instanceMethod yX7_pass, Cond.selects RX7 yX7_pass yX7_pass, Cond.code yX7_pass cX7_pass 3 (some .long), Cond.classLink RX7 97 "java/lang/IllegalArgumentException", Cond.initialized "java/lang/IllegalArgumentException", Cond.constantLong RX7 95 (10000000000), Cond.methodLink RL 75 yX8_pass, Cond.instanceMethod yX8_pass, Cond.selects RX8 yX8_pass yX8_pass, Cond.code yX8_pass cX8_pass 3 (some .long), Cond.constantLong RX8 221 (10000000000), Cond.fieldLink RX8 231 "SessionGateModel" "now" "J", Cond.methodLink RX8 223 yX8_isIn, Cond.static yX8_isIn, Cond.code yX8_isIn cX8_isIn 6 (some .boolean), Cond.methodLink RX8 227 yX8_refused, Cond.instanceMethod yX8_refused, Cond.selects RX8 yX8_refused yX8_refused, Cond.code yX8_refused cX8_refused 2 (some .boolean), Cond.methodLink RL 76 yX8_thrown, Cond.instanceMethod yX8_thrown, Cond.selects RX8 yX8_thrown yX8_thrown, Cond.code yX8_thrown cX8_thrown 1 (some .int), Cond.methodLink RL 80 yL_limits]
def wsL_law0_r11 : List Cond := [Cond.static yL_limits, Cond.codeWith yL_limits cL_limits 8 (some .int) [(0, 8, 11, 13)], Cond.methodLink RL 15 yX7_limits, Cond.instanceMethod yX7_limits, Cond.selects RX7 yX7_limits yX7_limits, Cond.code yX7_limits cX7_limits 7 none, Cond.methodLink RX7 100 yX7_isLimit, Cond.static yX7_isLimit, Cond.code yX7_isLimit cX7_isLimit 2 (some .boolean), Cond.constantLong RX7 222 (1000000000000), Cond.methodLink RL 83 yX8_limits, Cond.instanceMethod yX8_limits, Cond.selects RX8 yX8_limits yX8_limits, Cond.code yX8_limits cX8_limits 9 none, Cond.constantLong RX8 234 (1000000000000), Cond.methodLink RL 84 yX7_change, Cond.instanceMethod yX7_change, Cond.selects RX7 yX7_change yX7_change, Cond.code yX7_change cX7_change 6 (some .int), Cond.methodLink RX7 104 yX2_advance, Cond.instanceMethod yX2_advance, Cond.selects RX2 yX2_advance yX2_advance, Cond.code yX2_advance cX2_advance 4 none, Cond.methodLink RX7 108 yX2_newest]
def wsL_law0_r12 : List Cond := [Cond.instanceMethod yX2_newest, Cond.selects RX2 yX2_newest yX2_newest, Cond.code yX2_newest cX2_newest 1 (some (.object "SessionGate$Key")), Cond.methodLink RX7 112 yX1_fill, Cond.instanceMethod yX1_fill, Cond.selects RX1 yX1_fill yX1_fill, Cond.code yX1_fill cX1_fill 6 none, Cond.static yX7_byteOf, Cond.code yX7_byteOf cX7_byteOf 2 (some .int), Cond.methodLink RL 88 yX8_change, Cond.instanceMethod yX8_change, Cond.selects RX8 yX8_change yX8_change, Cond.code yX8_change cX8_change 7 (some .int), Cond.methodLink RL 89 yL_user, Cond.static yL_user, Cond.codeWith yL_user cL_user 5 (some .int) [(0, 7, 10, 13)], Cond.methodLink RL 19 yX7_user, Cond.instanceMethod yX7_user, Cond.selects RX7 yX7_user yX7_user, Cond.code yX7_user cX7_user 4 none, Cond.methodLink RX7 121 yX7_isUser, Cond.static yX7_isUser, Cond.code yX7_isUser cX7_isUser 1 (some .boolean), Cond.methodLink RX7 125 yX6_tell]
def wsL_law0_r13 : List Cond := [Cond.instanceMethod yX6_tell, Cond.selects RX6 yX6_tell yX6_tell, Cond.code yX6_tell cX6_tell 3 none, Cond.methodLink RL 92 yX8_user, Cond.instanceMethod yX8_user, Cond.selects RX8 yX8_user yX8_user, Cond.code yX8_user cX8_user 4 none, Cond.constantLong RX8 236 (7), Cond.methodLink RL 93 yL_login, Cond.static yL_login, Cond.codeWith yL_login cL_login 6 (some .int) [(0, 12, 15, 13)], Cond.methodLink RL 23 yX7_login, Cond.instanceMethod yX7_login, Cond.selects RX7 yX7_login yX7_login, Cond.code yX7_login cX7_login 5 (some .int), Cond.methodLink RX7 129 yX6_knows, Cond.instanceMethod yX6_knows, Cond.selects RX6 yX6_knows yX6_knows, Cond.code yX6_knows cX6_knows 3 (some .boolean), Cond.methodLink RX7 133 yX7_endStaleSessions, Cond.instanceMethod yX7_endStaleSessions, Cond.selects RX7 yX7_endStaleSessions yX7_endStaleSessions, Cond.code yX7_endStaleSessions cX7_endStaleSessions 2 none, Cond.methodLink RX7 224 yX7_isOld]
def wsL_law0_r14 : List Cond := [Cond.instanceMethod yX7_isOld, Cond.selects RX7 yX7_isOld yX7_isOld, Cond.code yX7_isOld cX7_isOld 2 (some .boolean), Cond.methodLink RX7 228 yX7_isIdle, Cond.instanceMethod yX7_isIdle, Cond.selects RX7 yX7_isIdle yX7_isIdle, Cond.code yX7_isIdle cX7_isIdle 2 (some .boolean), Cond.methodLink RX7 136 yX7_freeNumber, Cond.instanceMethod yX7_freeNumber, Cond.selects RX7 yX7_freeNumber yX7_freeNumber, Cond.code yX7_freeNumber cX7_freeNumber 2 (some .int), Cond.methodLink RX7 140 yX7_nextId, Cond.instanceMethod yX7_nextId, Cond.selects RX7 yX7_nextId yX7_nextId, Cond.code yX7_nextId cX7_nextId 1 (some .long), Cond.methodLink RX7 217 yX3_compute, Cond.instanceMethod yX3_compute, Cond.selects RX3 yX3_compute yX3_compute, Cond.code yX3_compute cX3_compute 4 none, Cond.methodLink RX3 22 yX3_fillBlocks, Cond.instanceMethod yX3_fillBlocks, Cond.selects RX3 yX3_fillBlocks yX3_fillBlocks, Cond.code yX3_fillBlocks cX3_fillBlocks 6 none, Cond.methodLink RX3 26 yX3_hashBlocks]
def wsL_law0_r15 : List Cond := [Cond.instanceMethod yX3_hashBlocks, Cond.selects RX3 yX3_hashBlocks yX3_hashBlocks, Cond.code yX3_hashBlocks cX3_hashBlocks 2 none, Cond.fieldLink RX3 29 "SessionGate$Mac" "START" "[I", Cond.methodLink RX3 32 arraycopyName, Cond.native arraycopyName, Cond.static arraycopyName, Cond.initialized "java/lang/System", Cond.methodLink RX3 38 yX3_fillSchedule, Cond.instanceMethod yX3_fillSchedule, Cond.selects RX3 yX3_fillSchedule yX3_fillSchedule, Cond.code yX3_fillSchedule cX3_fillSchedule 7 none, Cond.methodLink RX3 51 yX3_turn, Cond.static yX3_turn, Cond.code yX3_turn cX3_turn 2 (some .int), Cond.methodLink RX3 42 yX3_mixSchedule, Cond.instanceMethod yX3_mixSchedule, Cond.selects RX3 yX3_mixSchedule yX3_mixSchedule, Cond.code yX3_mixSchedule cX3_mixSchedule 14 none, Cond.fieldLink RX3 54 "SessionGate$Mac" "ROUNDS" "[I", Cond.methodLink RX7 231 yX7_readLong, Cond.static yX7_readLong, Cond.code yX7_readLong cX7_readLong 5 (some .long), Cond.methodLink RX7 144 yX4_begin]
def wsL_law0_r16 : List Cond := [Cond.instanceMethod yX4_begin, Cond.selects RX4 yX4_begin yX4_begin, Cond.code yX4_begin cX4_begin 6 none, Cond.methodLink RX7 148 yX7_writeTexts, Cond.instanceMethod yX7_writeTexts, Cond.selects RX7 yX7_writeTexts yX7_writeTexts, Cond.code yX7_writeTexts cX7_writeTexts 3 none, Cond.methodLink RX7 261 arraycopyName, Cond.methodLink RX7 267 yX0_encode, Cond.static yX0_encode, Cond.initialized RX0, Cond.code yX0_encode cX0_encode 9 none, Cond.methodLink RX0 19 yJ0_charAt_5068e, Cond.instanceMethod yJ0_charAt_5068e, Cond.selects RJ0 yJ0_charAt_5068e yJ0_charAt_5068e, Cond.initialized RJ0, Cond.code yJ0_charAt_5068e cJ0_charAt_5068e 2 (some .char), Cond.fieldLink RJ0 9 "java/lang/String" "value" "[B", Cond.methodLink RJ0 492 yJ0_isLatin1_aae02, Cond.instanceMethod yJ0_isLatin1_aae02, Cond.selects RJ0 yJ0_isLatin1_aae02 yJ0_isLatin1_aae02, Cond.code yJ0_isLatin1_aae02 cJ0_isLatin1_aae02 1 (some .boolean), Cond.fieldLink RJ0 38 "java/lang/String" "COMPACT_STRINGS" "Z", Cond.fieldLink RJ0 15 "java/lang/String" "coder" "B"]
def wsL_law0_r17 : List Cond := [Cond.methodLink RJ0 495 yJ1_charAt_3b067, Cond.static yJ1_charAt_3b067, Cond.initialized RJ1, Cond.code yJ1_charAt_3b067 cJ1_charAt_3b067 2 (some .char), Cond.methodLink RJ1 9 yJ0_checkIndex_df160, Cond.static yJ0_checkIndex_df160, Cond.code yJ0_checkIndex_df160 cJ0_checkIndex_df160 2 none, Cond.fieldLink RJ0 1053 "jdk/internal/util/Preconditions" "SIOOBE_FORMATTER" "Ljava/util/function/BiFunction;", Cond.methodLink RJ0 1059 yJ3_checkIndex_8e157, Cond.static yJ3_checkIndex_8e157, Cond.initialized RJ3, Cond.code yJ3_checkIndex_8e157 cJ3_checkIndex_8e157 3 (some .int), Cond.methodLink RJ0 498 yJ2_charAt_3b067, Cond.static yJ2_charAt_3b067, Cond.initialized RJ2, Cond.code yJ2_charAt_3b067 cJ2_charAt_3b067 2 (some .char), Cond.methodLink RJ2 67 yJ2_checkIndex_2214a, Cond.static yJ2_checkIndex_2214a, Cond.code yJ2_checkIndex_2214a cJ2_checkIndex_2214a 2 none, Cond.methodLink RJ2 48 yJ2_length_9d52b, Cond.static yJ2_length_9d52b, Cond.code yJ2_length_9d52b cJ2_length_9d52b 1 (some .int), Cond.methodLink RJ2 414 yJ0_checkIndex_df160, Cond.methodLink RJ2 71 yJ2_getChar_3b067]
def wsL_law0_r18 : List Cond := [Cond.static yJ2_getChar_3b067, Cond.code yJ2_getChar_3b067 cJ2_getChar_3b067 2 (some .char), Cond.fieldLink RJ2 44 "java/lang/StringUTF16" "$assertionsDisabled" "Z", Cond.fieldLink RJ2 59 "java/lang/StringUTF16" "HI_BYTE_SHIFT" "I", Cond.fieldLink RJ2 63 "java/lang/StringUTF16" "LO_BYTE_SHIFT" "I", Cond.methodLink RX0 25 yX5_addSign, Cond.instanceMethod yX5_addSign, Cond.selects RX5 yX5_addSign yX5_addSign, Cond.code yX5_addSign cX5_addSign 2 none, Cond.methodLink RX7 253 yX7_writeToken, Cond.instanceMethod yX7_writeToken, Cond.selects RX7 yX7_writeToken yX7_writeToken, Cond.code yX7_writeToken cX7_writeToken 3 none, Cond.methodLink RL 96 yX8_login, Cond.instanceMethod yX8_login, Cond.selects RX8 yX8_login yX8_login, Cond.code yX8_login cX8_login 6 (some .int), Cond.methodLink RX8 238 yX8_isOld, Cond.instanceMethod yX8_isOld, Cond.selects RX8 yX8_isOld yX8_isOld, Cond.code yX8_isOld cX8_isOld 2 (some .boolean), Cond.methodLink RX8 241 yX8_isIdle, Cond.instanceMethod yX8_isIdle, Cond.selects RX8 yX8_isIdle yX8_isIdle]
def wsL_law0_r19 : List Cond := [Cond.code yX8_isIdle cX8_isIdle 2 (some .boolean), Cond.methodLink RX8 244 yX8_newId, Cond.instanceMethod yX8_newId, Cond.selects RX8 yX8_newId yX8_newId, Cond.code yX8_newId cX8_newId 4 (some .long), Cond.constantLong RX8 189 (255), Cond.fieldLink RX8 180 "SessionGateModel" "saidSize" "I", Cond.methodLink RX8 194 yX8_say, Cond.instanceMethod yX8_say, Cond.selects RX8 yX8_say yX8_say, Cond.code yX8_say cX8_say 2 none, Cond.methodLink RX8 197 yX8_seal, Cond.instanceMethod yX8_seal, Cond.selects RX8 yX8_seal yX8_seal, Cond.code yX8_seal cX8_seal 2 none, Cond.fieldLink RX8 173 "SessionGateModel" "messageSize" "I", Cond.methodLink RX8 183 yX8_hashNow, Cond.instanceMethod yX8_hashNow, Cond.selects RX8 yX8_hashNow yX8_hashNow, Cond.code yX8_hashNow cX8_hashNow 4 none, Cond.methodLink RX8 176 yX8_block, Cond.instanceMethod yX8_block, Cond.selects RX8 yX8_block yX8_block, Cond.code yX8_block cX8_block 13 none]
def wsL_law0_r20 : List Cond := [Cond.methodLink RX8 169 yX8_turn, Cond.static yX8_turn, Cond.code yX8_turn cX8_turn 2 (some .int), Cond.methodLink RX8 248 yX8_issue, Cond.instanceMethod yX8_issue, Cond.selects RX8 yX8_issue yX8_issue, Cond.code yX8_issue cX8_issue 4 none, Cond.methodLink RX8 211 yX8_body, Cond.instanceMethod yX8_body, Cond.selects RX8 yX8_body yX8_body, Cond.code yX8_body cX8_body 6 none, Cond.methodLink RX8 207 yX8_sealBody, Cond.instanceMethod yX8_sealBody, Cond.selects RX8 yX8_sealBody yX8_sealBody, Cond.code yX8_sealBody cX8_sealBody 4 none, Cond.methodLink RX8 204 yX8_takeKey, Cond.instanceMethod yX8_takeKey, Cond.selects RX8 yX8_takeKey yX8_takeKey, Cond.code yX8_takeKey cX8_takeKey 3 none, Cond.methodLink RX8 215 yX8_codedAt, Cond.instanceMethod yX8_codedAt, Cond.selects RX8 yX8_codedAt yX8_codedAt, Cond.code yX8_codedAt cX8_codedAt 5 (some .int), Cond.methodLink RX8 200 yX8_signOf]
def wsL_law0_r21 : List Cond := [Cond.static yX8_signOf, Cond.code yX8_signOf cX8_signOf 1 (some .int), Cond.methodLink RX8 218 yX8_token, Cond.instanceMethod yX8_token, Cond.selects RX8 yX8_token yX8_token, Cond.code yX8_token cX8_token 3 none, Cond.methodLink RL 97 yX7_request, Cond.instanceMethod yX7_request, Cond.selects RX7 yX7_request yX7_request, Cond.code yX7_request cX7_request 3 (some .int), Cond.methodLink RX7 152 yX7_judge, Cond.instanceMethod yX7_judge, Cond.selects RX7 yX7_judge yX7_judge, Cond.code yX7_judge cX7_judge 4 (some .int), Cond.methodLink RX7 235 yX0_decodeCookie, Cond.static yX0_decodeCookie, Cond.code yX0_decodeCookie cX0_decodeCookie 6 (some .boolean), Cond.methodLink RX0 29 yX0_isCookieForm, Cond.static yX0_isCookieForm, Cond.code yX0_isCookieForm cX0_isCookieForm 2 (some .boolean), Cond.methodLink RX0 37 yX0_sixBits, Cond.static yX0_sixBits, Cond.code yX0_sixBits cX0_sixBits 1 (some .int), Cond.methodLink RX0 41 yJ0_indexOf_0f7a4]
def wsL_law0_r22 : List Cond := [Cond.instanceMethod yJ0_indexOf_0f7a4, Cond.selects RJ0 yJ0_indexOf_0f7a4 yJ0_indexOf_0f7a4, Cond.code yJ0_indexOf_0f7a4 cJ0_indexOf_0f7a4 2 (some .int), Cond.methodLink RJ0 633 yJ0_indexOf_7cf53, Cond.instanceMethod yJ0_indexOf_7cf53, Cond.selects RJ0 yJ0_indexOf_7cf53 yJ0_indexOf_7cf53, Cond.code yJ0_indexOf_7cf53 cJ0_indexOf_7cf53 3 (some .int), Cond.methodLink RJ0 505 yJ0_length_8abf5, Cond.instanceMethod yJ0_length_8abf5, Cond.selects RJ0 yJ0_length_8abf5 yJ0_length_8abf5, Cond.code yJ0_length_8abf5 cJ0_length_8abf5 1 (some .int), Cond.methodLink RJ0 335 yJ0_coder_7d493, Cond.instanceMethod yJ0_coder_7d493, Cond.selects RJ0 yJ0_coder_7d493 yJ0_coder_7d493, Cond.code yJ0_coder_7d493 cJ0_coder_7d493 1 (some .byte), Cond.methodLink RJ0 637 yJ1_indexOf_4cfef, Cond.static yJ1_indexOf_4cfef, Cond.code yJ1_indexOf_4cfef cJ1_indexOf_4cfef 4 (some .int), Cond.methodLink RJ1 92 Lib.Math.max.name, Cond.static Lib.Math.max.name, Cond.initialized "java/lang/Math", Cond.code Lib.Math.max.name Lib.Math.max.code 2 (some .int), Cond.methodLink RJ1 38 Lib.Math.min.name, Cond.static Lib.Math.min.name]
def wsL_law0_r23 : List Cond := [Cond.code Lib.Math.min.name Lib.Math.min.code 2 (some .int), Cond.methodLink RJ1 88 yJ1_canEncode_9a6ad, Cond.static yJ1_canEncode_9a6ad, Cond.code yJ1_canEncode_9a6ad cJ1_canEncode_9a6ad 1 (some .boolean), Cond.methodLink RJ1 95 yJ1_indexOfChar_4cfef, Cond.static yJ1_indexOfChar_4cfef, Cond.code yJ1_indexOfChar_4cfef cJ1_indexOfChar_4cfef 6 (some .int), Cond.methodLink RJ0 640 yJ2_indexOf_4cfef, Cond.static yJ2_indexOf_4cfef, Cond.code yJ2_indexOf_4cfef cJ2_indexOf_4cfef 4 (some .int), Cond.methodLink RJ2 224 Lib.Math.max.name, Cond.methodLink RJ2 183 Lib.Math.min.name, Cond.constant RJ2 227 (65536), Cond.methodLink RJ2 228 yJ2_indexOfChar_4cfef, Cond.static yJ2_indexOfChar_4cfef, Cond.code yJ2_indexOfChar_4cfef cJ2_indexOfChar_4cfef 4 (some .int), Cond.methodLink RJ2 96 yJ2_checkBoundsBeginEnd_d044e, Cond.static yJ2_checkBoundsBeginEnd_d044e, Cond.code yJ2_checkBoundsBeginEnd_d044e cJ2_checkBoundsBeginEnd_d044e 3 none, Cond.methodLink RJ2 241 yJ0_checkBoundsBeginEnd_23922, Cond.static yJ0_checkBoundsBeginEnd_23922, Cond.code yJ0_checkBoundsBeginEnd_23922 cJ0_checkBoundsBeginEnd_23922 3 none, Cond.methodLink RJ0 1062 yJ3_checkFromToIndex_8c36e, Cond.static yJ3_checkFromToIndex_8c36e]
def wsL_law0_r24 : List Cond := [Cond.code yJ3_checkFromToIndex_8c36e cJ3_checkFromToIndex_8c36e 4 (some .int), Cond.methodLink RJ2 244 yJ2_indexOfCharUnsafe_4cfef, Cond.static yJ2_indexOfCharUnsafe_4cfef, Cond.code yJ2_indexOfCharUnsafe_4cfef cJ2_indexOfCharUnsafe_4cfef 5 (some .int), Cond.methodLink RJ2 232 yJ2_indexOfSupplementary_4cfef, Cond.static yJ2_indexOfSupplementary_4cfef, Cond.code yJ2_indexOfSupplementary_4cfef cJ2_indexOfSupplementary_4cfef 7 (some .int), Cond.methodLink RJ2 164 yJ11_isValidCodePoint_9a6ad, Cond.static yJ11_isValidCodePoint_9a6ad, Cond.initialized RJ11, Cond.code yJ11_isValidCodePoint_9a6ad cJ11_isValidCodePoint_9a6ad 2 (some .boolean), Cond.methodLink RJ2 157 yJ11_highSurrogate_5068e, Cond.static yJ11_highSurrogate_5068e, Cond.code yJ11_highSurrogate_5068e cJ11_highSurrogate_5068e 1 (some .char), Cond.constant RJ11 110 (55232), Cond.methodLink RJ2 161 yJ11_lowSurrogate_5068e, Cond.static yJ11_lowSurrogate_5068e, Cond.code yJ11_lowSurrogate_5068e cJ11_lowSurrogate_5068e 1 (some .char), Cond.constant RJ11 76 (56320), Cond.methodLink RX7 241 yX2_liveKey, Cond.instanceMethod yX2_liveKey, Cond.selects RX2 yX2_liveKey yX2_liveKey, Cond.code yX2_liveKey cX2_liveKey 7 (some (.object "SessionGate$Key")), Cond.methodLink RX2 30 yX2_isLive]
def wsL_law0_r25 : List Cond := [Cond.instanceMethod yX2_isLive, Cond.selects RX2 yX2_isLive yX2_isLive, Cond.code yX2_isLive cX2_isLive 6 (some .boolean), Cond.methodLink RX7 245 yX7_isSealedBy, Cond.instanceMethod yX7_isSealedBy, Cond.selects RX7 yX7_isSealedBy yX7_isSealedBy, Cond.code yX7_isSealedBy cX7_isSealedBy 3 (some .boolean), Cond.methodLink RX7 249 yX7_numberOf, Cond.instanceMethod yX7_numberOf, Cond.selects RX7 yX7_numberOf yX7_numberOf, Cond.code yX7_numberOf cX7_numberOf 5 (some .int), Cond.methodLink RX7 257 yX5_isSameAs, Cond.instanceMethod yX5_isSameAs, Cond.selects RX5 yX5_isSameAs yX5_isSameAs, Cond.code yX5_isSameAs cX5_isSameAs 3 (some .boolean), Cond.methodLink RX7 156 yX7_tally, Cond.instanceMethod yX7_tally, Cond.selects RX7 yX7_tally yX7_tally, Cond.code yX7_tally cX7_tally 2 none, Cond.methodLink RL 101 yX8_request, Cond.instanceMethod yX8_request, Cond.selects RX8 yX8_request yX8_request, Cond.code yX8_request cX8_request 3 (some .int), Cond.fieldLink RX8 268 "SessionGateModel" "refusedMany" "I"]
def wsL_law0_r26 : List Cond := [Cond.fieldLink RX8 271 "SessionGateModel" "letIn" "I", Cond.fieldLink RX8 258 "SessionGateModel" "keyAt" "I", Cond.fieldLink RX8 274 "SessionGateModel" "renewed" "I", Cond.methodLink RX8 264 yX8_look, Cond.instanceMethod yX8_look, Cond.selects RX8 yX8_look yX8_look, Cond.code yX8_look cX8_look 7 (some .int), Cond.methodLink RX8 254 yX8_isForm, Cond.instanceMethod yX8_isForm, Cond.selects RX8 yX8_isForm yX8_isForm, Cond.code yX8_isForm cX8_isForm 5 (some .boolean), Cond.methodLink RX8 251 yX8_valueOf, Cond.static yX8_valueOf, Cond.code yX8_valueOf cX8_valueOf 1 (some .int), Cond.methodLink RX8 261 yX8_isLive, Cond.instanceMethod yX8_isLive, Cond.selects RX8 yX8_isLive yX8_isLive, Cond.code yX8_isLive cX8_isLive 2 (some .boolean), Cond.methodLink RL 102 yX7_logout, Cond.instanceMethod yX7_logout, Cond.selects RX7 yX7_logout yX7_logout, Cond.code yX7_logout cX7_logout 2 (some .int), Cond.methodLink RL 105 yX8_logout, Cond.instanceMethod yX8_logout]
def wsL_law0_r27 : List Cond := [Cond.selects RX8 yX8_logout yX8_logout, Cond.code yX8_logout cX8_logout 2 (some .int), Cond.methodLink RL 106 yL_revoke, Cond.static yL_revoke, Cond.codeWith yL_revoke cL_revoke 4 (some .int) [(0, 9, 12, 13)], Cond.methodLink RL 27 yX7_revoke, Cond.instanceMethod yX7_revoke, Cond.selects RX7 yX7_revoke yX7_revoke, Cond.code yX7_revoke cX7_revoke 4 (some .int), Cond.methodLink RL 109 yX8_revoke, Cond.instanceMethod yX8_revoke, Cond.selects RX8 yX8_revoke yX8_revoke, Cond.code yX8_revoke cX8_revoke 4 (some .int), Cond.methodLink RL 110 yL_type, Cond.static yL_type, Cond.codeWith yL_type cL_type 8 (some .int) [(0, 16, 19, 13), (0, 16, 23, 35)], Cond.classLink RL 35 "java/lang/IllegalStateException", Cond.methodLink RL 31 yX7_type, Cond.instanceMethod yX7_type, Cond.selects RX7 yX7_type yX7_type, Cond.code yX7_type cX7_type 8 (some .int), Cond.classLink RX7 184 "java/lang/IllegalStateException", Cond.initialized "java/lang/IllegalStateException", Cond.methodLink RX7 170 yX7_isText]
def wsL_law0_r28 : List Cond := [Cond.static yX7_isText, Cond.code yX7_isText cX7_isText 1 (some .boolean), Cond.methodLink RX7 173 yX7_textOf, Cond.instanceMethod yX7_textOf, Cond.selects RX7 yX7_textOf yX7_textOf, Cond.code yX7_textOf cX7_textOf 2 (some (.object "SessionGate$Text")), Cond.methodLink RX7 177 yX7_signsIn, Cond.static yX7_signsIn, Cond.code yX7_signsIn cX7_signsIn 3 (some .int), Cond.methodLink RX7 271 yX7_byteOf, Cond.methodLink RX7 187 yX5_addSigns, Cond.instanceMethod yX5_addSigns, Cond.selects RX5 yX5_addSigns yX5_addSigns, Cond.code yX5_addSigns cX5_addSigns 4 none, Cond.methodLink RX5 23 yX5_addSign, Cond.methodLink RL 113 yX8_type, Cond.instanceMethod yX8_type, Cond.selects RX8 yX8_type yX8_type, Cond.code yX8_type cX8_type 8 (some .int), Cond.methodLink RX8 277 yX8_many, Cond.static yX8_many, Cond.code yX8_many cX8_many 1 (some .int), Cond.methodLink RX8 280 yX8_typed, Cond.instanceMethod yX8_typed]
def wsL_law0_r29 : List Cond := [Cond.selects RX8 yX8_typed yX8_typed, Cond.code yX8_typed cX8_typed 7 (some .int), Cond.methodLink RL 114 yL_erase, Cond.static yL_erase, Cond.codeWith yL_erase cL_erase 4 (some .int) [(0, 9, 12, 13)], Cond.methodLink RL 37 yX7_erase, Cond.instanceMethod yX7_erase, Cond.selects RX7 yX7_erase yX7_erase, Cond.code yX7_erase cX7_erase 4 (some .int), Cond.methodLink RL 116 yX8_erase, Cond.instanceMethod yX8_erase, Cond.selects RX8 yX8_erase yX8_erase, Cond.code yX8_erase cX8_erase 3 (some .int), Cond.methodLink RL 117 yL_put, Cond.static yL_put, Cond.codeWith yL_put cL_put 6 (some .int) [(0, 12, 15, 13), (0, 12, 19, 43)], Cond.classLink RL 43 "java/lang/IndexOutOfBoundsException", Cond.methodLink RL 40 yX7_put, Cond.instanceMethod yX7_put, Cond.selects RX7 yX7_put yX7_put, Cond.code yX7_put cX7_put 6 (some .int), Cond.classLink RX7 193 "java/lang/IndexOutOfBoundsException", Cond.initialized "java/lang/IndexOutOfBoundsException", Cond.methodLink RX7 190 yX5_has]
def wsL_law0_r30 : List Cond := [Cond.instanceMethod yX5_has, Cond.selects RX5 yX5_has yX5_has, Cond.code yX5_has cX5_has 2 (some .boolean), Cond.methodLink RL 119 yX8_put, Cond.instanceMethod yX8_put, Cond.selects RX8 yX8_put yX8_put, Cond.code yX8_put cX8_put 6 (some .int), Cond.methodLink RL 120 yL_sign, Cond.static yL_sign, Cond.codeWith yL_sign cL_sign 5 (some .int) [(0, 10, 13, 13)], Cond.methodLink RL 45 yX7_sign, Cond.instanceMethod yX7_sign, Cond.selects RX7 yX7_sign yX7_sign, Cond.code yX7_sign cX7_sign 4 (some .int), Cond.methodLink RL 123 yX8_sign, Cond.instanceMethod yX8_sign, Cond.selects RX8 yX8_sign yX8_sign, Cond.code yX8_sign cX8_sign 3 (some .int), Cond.methodLink RL 124 yL_session, Cond.static yL_session, Cond.codeWith yL_session cL_session 5 (some .int) [(0, 9, 12, 13)], Cond.methodLink RL 49 yX7_session, Cond.instanceMethod yX7_session, Cond.selects RX7 yX7_session yX7_session]
def wsL_law0_r31 : List Cond := [Cond.code yX7_session cX7_session 4 (some .long), Cond.constantLong RX7 199 (-1), Cond.methodLink RL 126 yX8_session, Cond.instanceMethod yX8_session, Cond.selects RX8 yX8_session yX8_session, Cond.code yX8_session cX8_session 3 (some .long), Cond.constantLong RX8 284 (3), Cond.constantLong RX8 286 (-1), Cond.methodLink RL 127 yL_count, Cond.static yL_count, Cond.codeWith yL_count cL_count 4 (some .int) [(0, 9, 12, 13)], Cond.methodLink RL 53 yX7_count, Cond.instanceMethod yX7_count, Cond.selects RX7 yX7_count yX7_count, Cond.code yX7_count cX7_count 2 (some .int), Cond.methodLink RX7 207 yX7_openSessions, Cond.instanceMethod yX7_openSessions, Cond.selects RX7 yX7_openSessions yX7_openSessions, Cond.code yX7_openSessions cX7_openSessions 3 (some .int), Cond.methodLink RX7 210 yX2_liveOnes, Cond.instanceMethod yX2_liveOnes, Cond.selects RX2 yX2_liveOnes yX2_liveOnes, Cond.code yX2_liveOnes cX2_liveOnes 7 (some .int), Cond.methodLink RL 129 yX8_count]
def wsL_law0_r32 : List Cond := [Cond.instanceMethod yX8_count, Cond.selects RX8 yX8_count yX8_count, Cond.code yX8_count cX8_count 4 (some .int), Cond.constantLong RX8 288 (6), Cond.methodLink RL 130 yL_octet, Cond.static yL_octet, Cond.codeWith yL_octet cL_octet 4 (some .int) [(0, 9, 12, 13)], Cond.methodLink RL 56 yX7_octet, Cond.instanceMethod yX7_octet, Cond.selects RX7 yX7_octet yX7_octet, Cond.code yX7_octet cX7_octet 2 (some .int), Cond.methodLink RL 132 yX8_octet, Cond.instanceMethod yX8_octet, Cond.selects RX8 yX8_octet yX8_octet, Cond.code yX8_octet cX8_octet 3 (some .int), Cond.constantLong RX8 290 (31)]
def wsL_law0 : List Cond := (wsL_law0_r1 ++ (wsL_law0_r2 ++ (wsL_law0_r3 ++ (wsL_law0_r4 ++ (wsL_law0_r5 ++ (wsL_law0_r6 ++ (wsL_law0_r7 ++ (wsL_law0_r8 ++ (wsL_law0_r9 ++ (wsL_law0_r10 ++ (wsL_law0_r11 ++ (wsL_law0_r12 ++ (wsL_law0_r13 ++ (wsL_law0_r14 ++ (wsL_law0_r15 ++ (wsL_law0_r16 ++ (wsL_law0_r17 ++ (wsL_law0_r18 ++ (wsL_law0_r19 ++ (wsL_law0_r20 ++ (wsL_law0_r21 ++ (wsL_law0_r22 ++ (wsL_law0_r23 ++ (wsL_law0_r24 ++ (wsL_law0_r25 ++ (wsL_law0_r26 ++ (wsL_law0_r27 ++ (wsL_law0_r28 ++ (wsL_law0_r29 ++ (wsL_law0_r30 ++ (wsL_law0_r31 ++ wsL_law0_r32))))))))))))))))))))))))))))))) ++ wsX70 ++ wsX80 ++ wsX30 ++ wsX20 ++ wsX50 ++ wsX60 ++ wsX40 ++ wsX10 ++ ([] : List Cond)
def wsL_law : List Cond := wsL_law0 ++ (vx_at0 RX7 99 "java/lang/IllegalArgumentException" ["java/lang/RuntimeException", "java/lang/Exception"]).filter goodWord ++ (vx_at0 RX7 186 "java/lang/IllegalStateException" ["java/lang/RuntimeException", "java/lang/Exception"]).filter goodWord ++ (vx_at0 RX7 195 "java/lang/IndexOutOfBoundsException" ["java/lang/RuntimeException", "java/lang/Exception"]).filter goodWord
theorem inlX1 : ∀ w ∈ wsX10, w ∈ wsL_law := fun _ h => List.mem_append_left _ (List.mem_append_left _ (List.mem_append_left _ (List.mem_append_left _ (List.mem_append_right _ h))))
theorem inlX2 : ∀ w ∈ wsX20, w ∈ wsL_law := fun _ h => List.mem_append_left _ (List.mem_append_left _ (List.mem_append_left _ (List.mem_append_left _ (List.mem_append_left _ (List.mem_append_left _ (List.mem_append_left _ (List.mem_append_left _ (List.mem_append_right _ h))))))))
theorem inlX3 : ∀ w ∈ wsX30, w ∈ wsL_law := fun _ h => List.mem_append_left _ (List.mem_append_left _ (List.mem_append_left _ (List.mem_append_left _ (List.mem_append_left _ (List.mem_append_left _ (List.mem_append_left _ (List.mem_append_left _ (List.mem_append_left _ (List.mem_append_right _ h)))))))))
theorem inlX4 : ∀ w ∈ wsX40, w ∈ wsL_law := fun _ h => List.mem_append_left _ (List.mem_append_left _ (List.mem_append_left _ (List.mem_append_left _ (List.mem_append_left _ (List.mem_append_right _ h)))))
theorem inlX5 : ∀ w ∈ wsX50, w ∈ wsL_law := fun _ h => List.mem_append_left _ (List.mem_append_left _ (List.mem_append_left _ (List.mem_append_left _ (List.mem_append_left _ (List.mem_append_left _ (List.mem_append_left _ (List.mem_append_right _ h)))))))
theorem inlX6 : ∀ w ∈ wsX60, w ∈ wsL_law := fun _ h => List.mem_append_left _ (List.mem_append_left _ (List.mem_append_left _ (List.mem_append_left _ (List.mem_append_left _ (List.mem_append_left _ (List.mem_append_right _ h))))))
theorem inlX7 : ∀ w ∈ wsX70, w ∈ wsL_law := fun _ h => List.mem_append_left _ (List.mem_append_left _ (List.mem_append_left _ (List.mem_append_left _ (List.mem_append_left _ (List.mem_append_left _ (List.mem_append_left _ (List.mem_append_left _ (List.mem_append_left _ (List.mem_append_left _ (List.mem_append_left _ (List.mem_append_right _ h)))))))))))
theorem inlX8 : ∀ w ∈ wsX80, w ∈ wsL_law := fun _ h => List.mem_append_left _ (List.mem_append_left _ (List.mem_append_left _ (List.mem_append_left _ (List.mem_append_left _ (List.mem_append_left _ (List.mem_append_left _ (List.mem_append_left _ (List.mem_append_left _ (List.mem_append_left _ (List.mem_append_right _ h))))))))))
abbrev vwCl : List vw_C := [(RX1, TX1, 3), (RX2, TX2, 3), (RX3, TX3, 4), (RX4, TX4, 5), (RX5, TX5, 2), (RX6, TX6, 3), (RX7, TX7, 19), (RX8, TX8, 36)]
end
section
abbrev BIG : List Cond := wsL_law
theorem goodBIG : GoodIn BIG BIG := goodIn_sub (fun _ h => h) (by decide +kernel)
theorem bgr_1 {w : Cond} (h : w ∈ wsL_law0_r1) : w ∈ BIG := List.mem_append_left _ (List.mem_append_left _ (List.mem_append_left _ (List.mem_append_left _ (List.mem_append_left _ (List.mem_append_left _ (List.mem_append_left _ (List.mem_append_left _ (List.mem_append_left _ (List.mem_append_left _ (List.mem_append_left _ (List.mem_append_left _ (List.mem_append_left _ h))))))))))))
theorem bgr_2 {w : Cond} (h : w ∈ wsL_law0_r2) : w ∈ BIG := List.mem_append_left _ (List.mem_append_left _ (List.mem_append_left _ (List.mem_append_left _ (List.mem_append_left _ (List.mem_append_left _ (List.mem_append_left _ (List.mem_append_left _ (List.mem_append_left _ (List.mem_append_left _ (List.mem_append_left _ (List.mem_append_left _ (List.mem_append_right _ (List.mem_append_left _ h)))))))))))))
theorem bgr_3 {w : Cond} (h : w ∈ wsL_law0_r3) : w ∈ BIG := List.mem_append_left _ (List.mem_append_left _ (List.mem_append_left _ (List.mem_append_left _ (List.mem_append_left _ (List.mem_append_left _ (List.mem_append_left _ (List.mem_append_left _ (List.mem_append_left _ (List.mem_append_left _ (List.mem_append_left _ (List.mem_append_left _ (List.mem_append_right _ (List.mem_append_right _ (List.mem_append_left _ h))))))))))))))
theorem bgr_4 {w : Cond} (h : w ∈ wsL_law0_r4) : w ∈ BIG := List.mem_append_left _ (List.mem_append_left _ (List.mem_append_left _ (List.mem_append_left _ (List.mem_append_left _ (List.mem_append_left _ (List.mem_append_left _ (List.mem_append_left _ (List.mem_append_left _ (List.mem_append_left _ (List.mem_append_left _ (List.mem_append_left _ (List.mem_append_right _ (List.mem_append_right _ (List.mem_append_right _ (List.mem_append_left _ h)))))))))))))))
theorem bgr_5 {w : Cond} (h : w ∈ wsL_law0_r5) : w ∈ BIG := List.mem_append_left _ (List.mem_append_left _ (List.mem_append_left _ (List.mem_append_left _ (List.mem_append_left _ (List.mem_append_left _ (List.mem_append_left _ (List.mem_append_left _ (List.mem_append_left _ (List.mem_append_left _ (List.mem_append_left _ (List.mem_append_left _ (List.mem_append_right _ (List.mem_append_right _ (List.mem_append_right _ (List.mem_append_right _ (List.mem_append_left _ h))))))))))))))))
theorem bgr_6 {w : Cond} (h : w ∈ wsL_law0_r6) : w ∈ BIG := List.mem_append_left _ (List.mem_append_left _ (List.mem_append_left _ (List.mem_append_left _ (List.mem_append_left _ (List.mem_append_left _ (List.mem_append_left _ (List.mem_append_left _ (List.mem_append_left _ (List.mem_append_left _ (List.mem_append_left _ (List.mem_append_left _ (List.mem_append_right _ (List.mem_append_right _ (List.mem_append_right _ (List.mem_append_right _ (List.mem_append_right _ (List.mem_append_left _ h)))))))))))))))))
theorem bgr_7 {w : Cond} (h : w ∈ wsL_law0_r7) : w ∈ BIG := List.mem_append_left _ (List.mem_append_left _ (List.mem_append_left _ (List.mem_append_left _ (List.mem_append_left _ (List.mem_append_left _ (List.mem_append_left _ (List.mem_append_left _ (List.mem_append_left _ (List.mem_append_left _ (List.mem_append_left _ (List.mem_append_left _ (List.mem_append_right _ (List.mem_append_right _ (List.mem_append_right _ (List.mem_append_right _ (List.mem_append_right _ (List.mem_append_right _ (List.mem_append_left _ h))))))))))))))))))
theorem bgr_8 {w : Cond} (h : w ∈ wsL_law0_r8) : w ∈ BIG := List.mem_append_left _ (List.mem_append_left _ (List.mem_append_left _ (List.mem_append_left _ (List.mem_append_left _ (List.mem_append_left _ (List.mem_append_left _ (List.mem_append_left _ (List.mem_append_left _ (List.mem_append_left _ (List.mem_append_left _ (List.mem_append_left _ (List.mem_append_right _ (List.mem_append_right _ (List.mem_append_right _ (List.mem_append_right _ (List.mem_append_right _ (List.mem_append_right _ (List.mem_append_right _ (List.mem_append_left _ h)))))))))))))))))))
theorem bgr_9 {w : Cond} (h : w ∈ wsL_law0_r9) : w ∈ BIG := List.mem_append_left _ (List.mem_append_left _ (List.mem_append_left _ (List.mem_append_left _ (List.mem_append_left _ (List.mem_append_left _ (List.mem_append_left _ (List.mem_append_left _ (List.mem_append_left _ (List.mem_append_left _ (List.mem_append_left _ (List.mem_append_left _ (List.mem_append_right _ (List.mem_append_right _ (List.mem_append_right _ (List.mem_append_right _ (List.mem_append_right _ (List.mem_append_right _ (List.mem_append_right _ (List.mem_append_right _ (List.mem_append_left _ h))))))))))))))))))))
theorem bgr_10 {w : Cond} (h : w ∈ wsL_law0_r10) : w ∈ BIG := List.mem_append_left _ (List.mem_append_left _ (List.mem_append_left _ (List.mem_append_left _ (List.mem_append_left _ (List.mem_append_left _ (List.mem_append_left _ (List.mem_append_left _ (List.mem_append_left _ (List.mem_append_left _ (List.mem_append_left _ (List.mem_append_left _ (List.mem_append_right _ (List.mem_append_right _ (List.mem_append_right _ (List.mem_append_right _ (List.mem_append_right _ (List.mem_append_right _ (List.mem_append_right _ (List.mem_append_right _ (List.mem_append_right _ (List.mem_append_left _ h)))))))))))))))))))))
theorem bgr_11 {w : Cond} (h : w ∈ wsL_law0_r11) : w ∈ BIG := List.mem_append_left _ (List.mem_append_left _ (List.mem_append_left _ (List.mem_append_left _ (List.mem_append_left _ (List.mem_append_left _ (List.mem_append_left _ (List.mem_append_left _ (List.mem_append_left _ (List.mem_append_left _ (List.mem_append_left _ (List.mem_append_left _ (List.mem_append_right _ (List.mem_append_right _ (List.mem_append_right _ (List.mem_append_right _ (List.mem_append_right _ (List.mem_append_right _ (List.mem_append_right _ (List.mem_append_right _ (List.mem_append_right _ (List.mem_append_right _ (List.mem_append_left _ h))))))))))))))))))))))
theorem bgr_12 {w : Cond} (h : w ∈ wsL_law0_r12) : w ∈ BIG := List.mem_append_left _ (List.mem_append_left _ (List.mem_append_left _ (List.mem_append_left _ (List.mem_append_left _ (List.mem_append_left _ (List.mem_append_left _ (List.mem_append_left _ (List.mem_append_left _ (List.mem_append_left _ (List.mem_append_left _ (List.mem_append_left _ (List.mem_append_right _ (List.mem_append_right _ (List.mem_append_right _ (List.mem_append_right _ (List.mem_append_right _ (List.mem_append_right _ (List.mem_append_right _ (List.mem_append_right _ (List.mem_append_right _ (List.mem_append_right _ (List.mem_append_right _ (List.mem_append_left _ h)))))))))))))))))))))))
theorem bgr_13 {w : Cond} (h : w ∈ wsL_law0_r13) : w ∈ BIG := List.mem_append_left _ (List.mem_append_left _ (List.mem_append_left _ (List.mem_append_left _ (List.mem_append_left _ (List.mem_append_left _ (List.mem_append_left _ (List.mem_append_left _ (List.mem_append_left _ (List.mem_append_left _ (List.mem_append_left _ (List.mem_append_left _ (List.mem_append_right _ (List.mem_append_right _ (List.mem_append_right _ (List.mem_append_right _ (List.mem_append_right _ (List.mem_append_right _ (List.mem_append_right _ (List.mem_append_right _ (List.mem_append_right _ (List.mem_append_right _ (List.mem_append_right _ (List.mem_append_right _ (List.mem_append_left _ h))))))))))))))))))))))))
theorem bgr_14 {w : Cond} (h : w ∈ wsL_law0_r14) : w ∈ BIG := List.mem_append_left _ (List.mem_append_left _ (List.mem_append_left _ (List.mem_append_left _ (List.mem_append_left _ (List.mem_append_left _ (List.mem_append_left _ (List.mem_append_left _ (List.mem_append_left _ (List.mem_append_left _ (List.mem_append_left _ (List.mem_append_left _ (List.mem_append_right _ (List.mem_append_right _ (List.mem_append_right _ (List.mem_append_right _ (List.mem_append_right _ (List.mem_append_right _ (List.mem_append_right _ (List.mem_append_right _ (List.mem_append_right _ (List.mem_append_right _ (List.mem_append_right _ (List.mem_append_right _ (List.mem_append_right _ (List.mem_append_left _ h)))))))))))))))))))))))))
theorem bgr_15 {w : Cond} (h : w ∈ wsL_law0_r15) : w ∈ BIG := List.mem_append_left _ (List.mem_append_left _ (List.mem_append_left _ (List.mem_append_left _ (List.mem_append_left _ (List.mem_append_left _ (List.mem_append_left _ (List.mem_append_left _ (List.mem_append_left _ (List.mem_append_left _ (List.mem_append_left _ (List.mem_append_left _ (List.mem_append_right _ (List.mem_append_right _ (List.mem_append_right _ (List.mem_append_right _ (List.mem_append_right _ (List.mem_append_right _ (List.mem_append_right _ (List.mem_append_right _ (List.mem_append_right _ (List.mem_append_right _ (List.mem_append_right _ (List.mem_append_right _ (List.mem_append_right _ (List.mem_append_right _ (List.mem_append_left _ h))))))))))))))))))))))))))
theorem bgr_16 {w : Cond} (h : w ∈ wsL_law0_r16) : w ∈ BIG := List.mem_append_left _ (List.mem_append_left _ (List.mem_append_left _ (List.mem_append_left _ (List.mem_append_left _ (List.mem_append_left _ (List.mem_append_left _ (List.mem_append_left _ (List.mem_append_left _ (List.mem_append_left _ (List.mem_append_left _ (List.mem_append_left _ (List.mem_append_right _ (List.mem_append_right _ (List.mem_append_right _ (List.mem_append_right _ (List.mem_append_right _ (List.mem_append_right _ (List.mem_append_right _ (List.mem_append_right _ (List.mem_append_right _ (List.mem_append_right _ (List.mem_append_right _ (List.mem_append_right _ (List.mem_append_right _ (List.mem_append_right _ (List.mem_append_right _ (List.mem_append_left _ h)))))))))))))))))))))))))))
theorem bgr_17 {w : Cond} (h : w ∈ wsL_law0_r17) : w ∈ BIG := List.mem_append_left _ (List.mem_append_left _ (List.mem_append_left _ (List.mem_append_left _ (List.mem_append_left _ (List.mem_append_left _ (List.mem_append_left _ (List.mem_append_left _ (List.mem_append_left _ (List.mem_append_left _ (List.mem_append_left _ (List.mem_append_left _ (List.mem_append_right _ (List.mem_append_right _ (List.mem_append_right _ (List.mem_append_right _ (List.mem_append_right _ (List.mem_append_right _ (List.mem_append_right _ (List.mem_append_right _ (List.mem_append_right _ (List.mem_append_right _ (List.mem_append_right _ (List.mem_append_right _ (List.mem_append_right _ (List.mem_append_right _ (List.mem_append_right _ (List.mem_append_right _ (List.mem_append_left _ h))))))))))))))))))))))))))))
theorem bgr_18 {w : Cond} (h : w ∈ wsL_law0_r18) : w ∈ BIG := List.mem_append_left _ (List.mem_append_left _ (List.mem_append_left _ (List.mem_append_left _ (List.mem_append_left _ (List.mem_append_left _ (List.mem_append_left _ (List.mem_append_left _ (List.mem_append_left _ (List.mem_append_left _ (List.mem_append_left _ (List.mem_append_left _ (List.mem_append_right _ (List.mem_append_right _ (List.mem_append_right _ (List.mem_append_right _ (List.mem_append_right _ (List.mem_append_right _ (List.mem_append_right _ (List.mem_append_right _ (List.mem_append_right _ (List.mem_append_right _ (List.mem_append_right _ (List.mem_append_right _ (List.mem_append_right _ (List.mem_append_right _ (List.mem_append_right _ (List.mem_append_right _ (List.mem_append_right _ (List.mem_append_left _ h)))))))))))))))))))))))))))))
theorem bgr_19 {w : Cond} (h : w ∈ wsL_law0_r19) : w ∈ BIG := List.mem_append_left _ (List.mem_append_left _ (List.mem_append_left _ (List.mem_append_left _ (List.mem_append_left _ (List.mem_append_left _ (List.mem_append_left _ (List.mem_append_left _ (List.mem_append_left _ (List.mem_append_left _ (List.mem_append_left _ (List.mem_append_left _ (List.mem_append_right _ (List.mem_append_right _ (List.mem_append_right _ (List.mem_append_right _ (List.mem_append_right _ (List.mem_append_right _ (List.mem_append_right _ (List.mem_append_right _ (List.mem_append_right _ (List.mem_append_right _ (List.mem_append_right _ (List.mem_append_right _ (List.mem_append_right _ (List.mem_append_right _ (List.mem_append_right _ (List.mem_append_right _ (List.mem_append_right _ (List.mem_append_right _ (List.mem_append_left _ h))))))))))))))))))))))))))))))
theorem bgr_20 {w : Cond} (h : w ∈ wsL_law0_r20) : w ∈ BIG := List.mem_append_left _ (List.mem_append_left _ (List.mem_append_left _ (List.mem_append_left _ (List.mem_append_left _ (List.mem_append_left _ (List.mem_append_left _ (List.mem_append_left _ (List.mem_append_left _ (List.mem_append_left _ (List.mem_append_left _ (List.mem_append_left _ (List.mem_append_right _ (List.mem_append_right _ (List.mem_append_right _ (List.mem_append_right _ (List.mem_append_right _ (List.mem_append_right _ (List.mem_append_right _ (List.mem_append_right _ (List.mem_append_right _ (List.mem_append_right _ (List.mem_append_right _ (List.mem_append_right _ (List.mem_append_right _ (List.mem_append_right _ (List.mem_append_right _ (List.mem_append_right _ (List.mem_append_right _ (List.mem_append_right _ (List.mem_append_right _ (List.mem_append_left _ h)))))))))))))))))))))))))))))))
theorem bgr_21 {w : Cond} (h : w ∈ wsL_law0_r21) : w ∈ BIG := List.mem_append_left _ (List.mem_append_left _ (List.mem_append_left _ (List.mem_append_left _ (List.mem_append_left _ (List.mem_append_left _ (List.mem_append_left _ (List.mem_append_left _ (List.mem_append_left _ (List.mem_append_left _ (List.mem_append_left _ (List.mem_append_left _ (List.mem_append_right _ (List.mem_append_right _ (List.mem_append_right _ (List.mem_append_right _ (List.mem_append_right _ (List.mem_append_right _ (List.mem_append_right _ (List.mem_append_right _ (List.mem_append_right _ (List.mem_append_right _ (List.mem_append_right _ (List.mem_append_right _ (List.mem_append_right _ (List.mem_append_right _ (List.mem_append_right _ (List.mem_append_right _ (List.mem_append_right _ (List.mem_append_right _ (List.mem_append_right _ (List.mem_append_right _ (List.mem_append_left _ h))))))))))))))))))))))))))))))))
theorem bgr_22 {w : Cond} (h : w ∈ wsL_law0_r22) : w ∈ BIG := List.mem_append_left _ (List.mem_append_left _ (List.mem_append_left _ (List.mem_append_left _ (List.mem_append_left _ (List.mem_append_left _ (List.mem_append_left _ (List.mem_append_left _ (List.mem_append_left _ (List.mem_append_left _ (List.mem_append_left _ (List.mem_append_left _ (List.mem_append_right _ (List.mem_append_right _ (List.mem_append_right _ (List.mem_append_right _ (List.mem_append_right _ (List.mem_append_right _ (List.mem_append_right _ (List.mem_append_right _ (List.mem_append_right _ (List.mem_append_right _ (List.mem_append_right _ (List.mem_append_right _ (List.mem_append_right _ (List.mem_append_right _ (List.mem_append_right _ (List.mem_append_right _ (List.mem_append_right _ (List.mem_append_right _ (List.mem_append_right _ (List.mem_append_right _ (List.mem_append_right _ (List.mem_append_left _ h)))))))))))))))))))))))))))))))))
theorem bgr_23 {w : Cond} (h : w ∈ wsL_law0_r23) : w ∈ BIG := List.mem_append_left _ (List.mem_append_left _ (List.mem_append_left _ (List.mem_append_left _ (List.mem_append_left _ (List.mem_append_left _ (List.mem_append_left _ (List.mem_append_left _ (List.mem_append_left _ (List.mem_append_left _ (List.mem_append_left _ (List.mem_append_left _ (List.mem_append_right _ (List.mem_append_right _ (List.mem_append_right _ (List.mem_append_right _ (List.mem_append_right _ (List.mem_append_right _ (List.mem_append_right _ (List.mem_append_right _ (List.mem_append_right _ (List.mem_append_right _ (List.mem_append_right _ (List.mem_append_right _ (List.mem_append_right _ (List.mem_append_right _ (List.mem_append_right _ (List.mem_append_right _ (List.mem_append_right _ (List.mem_append_right _ (List.mem_append_right _ (List.mem_append_right _ (List.mem_append_right _ (List.mem_append_right _ (List.mem_append_left _ h))))))))))))))))))))))))))))))))))
theorem bgr_24 {w : Cond} (h : w ∈ wsL_law0_r24) : w ∈ BIG := List.mem_append_left _ (List.mem_append_left _ (List.mem_append_left _ (List.mem_append_left _ (List.mem_append_left _ (List.mem_append_left _ (List.mem_append_left _ (List.mem_append_left _ (List.mem_append_left _ (List.mem_append_left _ (List.mem_append_left _ (List.mem_append_left _ (List.mem_append_right _ (List.mem_append_right _ (List.mem_append_right _ (List.mem_append_right _ (List.mem_append_right _ (List.mem_append_right _ (List.mem_append_right _ (List.mem_append_right _ (List.mem_append_right _ (List.mem_append_right _ (List.mem_append_right _ (List.mem_append_right _ (List.mem_append_right _ (List.mem_append_right _ (List.mem_append_right _ (List.mem_append_right _ (List.mem_append_right _ (List.mem_append_right _ (List.mem_append_right _ (List.mem_append_right _ (List.mem_append_right _ (List.mem_append_right _ (List.mem_append_right _ (List.mem_append_left _ h)))))))))))))))))))))))))))))))))))
theorem bgr_25 {w : Cond} (h : w ∈ wsL_law0_r25) : w ∈ BIG := List.mem_append_left _ (List.mem_append_left _ (List.mem_append_left _ (List.mem_append_left _ (List.mem_append_left _ (List.mem_append_left _ (List.mem_append_left _ (List.mem_append_left _ (List.mem_append_left _ (List.mem_append_left _ (List.mem_append_left _ (List.mem_append_left _ (List.mem_append_right _ (List.mem_append_right _ (List.mem_append_right _ (List.mem_append_right _ (List.mem_append_right _ (List.mem_append_right _ (List.mem_append_right _ (List.mem_append_right _ (List.mem_append_right _ (List.mem_append_right _ (List.mem_append_right _ (List.mem_append_right _ (List.mem_append_right _ (List.mem_append_right _ (List.mem_append_right _ (List.mem_append_right _ (List.mem_append_right _ (List.mem_append_right _ (List.mem_append_right _ (List.mem_append_right _ (List.mem_append_right _ (List.mem_append_right _ (List.mem_append_right _ (List.mem_append_right _ (List.mem_append_left _ h))))))))))))))))))))))))))))))))))))
theorem bgr_26 {w : Cond} (h : w ∈ wsL_law0_r26) : w ∈ BIG := List.mem_append_left _ (List.mem_append_left _ (List.mem_append_left _ (List.mem_append_left _ (List.mem_append_left _ (List.mem_append_left _ (List.mem_append_left _ (List.mem_append_left _ (List.mem_append_left _ (List.mem_append_left _ (List.mem_append_left _ (List.mem_append_left _ (List.mem_append_right _ (List.mem_append_right _ (List.mem_append_right _ (List.mem_append_right _ (List.mem_append_right _ (List.mem_append_right _ (List.mem_append_right _ (List.mem_append_right _ (List.mem_append_right _ (List.mem_append_right _ (List.mem_append_right _ (List.mem_append_right _ (List.mem_append_right _ (List.mem_append_right _ (List.mem_append_right _ (List.mem_append_right _ (List.mem_append_right _ (List.mem_append_right _ (List.mem_append_right _ (List.mem_append_right _ (List.mem_append_right _ (List.mem_append_right _ (List.mem_append_right _ (List.mem_append_right _ (List.mem_append_right _ (List.mem_append_left _ h)))))))))))))))))))))))))))))))))))))
theorem bgr_27 {w : Cond} (h : w ∈ wsL_law0_r27) : w ∈ BIG := List.mem_append_left _ (List.mem_append_left _ (List.mem_append_left _ (List.mem_append_left _ (List.mem_append_left _ (List.mem_append_left _ (List.mem_append_left _ (List.mem_append_left _ (List.mem_append_left _ (List.mem_append_left _ (List.mem_append_left _ (List.mem_append_left _ (List.mem_append_right _ (List.mem_append_right _ (List.mem_append_right _ (List.mem_append_right _ (List.mem_append_right _ (List.mem_append_right _ (List.mem_append_right _ (List.mem_append_right _ (List.mem_append_right _ (List.mem_append_right _ (List.mem_append_right _ (List.mem_append_right _ (List.mem_append_right _ (List.mem_append_right _ (List.mem_append_right _ (List.mem_append_right _ (List.mem_append_right _ (List.mem_append_right _ (List.mem_append_right _ (List.mem_append_right _ (List.mem_append_right _ (List.mem_append_right _ (List.mem_append_right _ (List.mem_append_right _ (List.mem_append_right _ (List.mem_append_right _ (List.mem_append_left _ h))))))))))))))))))))))))))))))))))))))
theorem bgr_28 {w : Cond} (h : w ∈ wsL_law0_r28) : w ∈ BIG := List.mem_append_left _ (List.mem_append_left _ (List.mem_append_left _ (List.mem_append_left _ (List.mem_append_left _ (List.mem_append_left _ (List.mem_append_left _ (List.mem_append_left _ (List.mem_append_left _ (List.mem_append_left _ (List.mem_append_left _ (List.mem_append_left _ (List.mem_append_right _ (List.mem_append_right _ (List.mem_append_right _ (List.mem_append_right _ (List.mem_append_right _ (List.mem_append_right _ (List.mem_append_right _ (List.mem_append_right _ (List.mem_append_right _ (List.mem_append_right _ (List.mem_append_right _ (List.mem_append_right _ (List.mem_append_right _ (List.mem_append_right _ (List.mem_append_right _ (List.mem_append_right _ (List.mem_append_right _ (List.mem_append_right _ (List.mem_append_right _ (List.mem_append_right _ (List.mem_append_right _ (List.mem_append_right _ (List.mem_append_right _ (List.mem_append_right _ (List.mem_append_right _ (List.mem_append_right _ (List.mem_append_right _ (List.mem_append_left _ h)))))))))))))))))))))))))))))))))))))))
theorem bgr_29 {w : Cond} (h : w ∈ wsL_law0_r29) : w ∈ BIG := List.mem_append_left _ (List.mem_append_left _ (List.mem_append_left _ (List.mem_append_left _ (List.mem_append_left _ (List.mem_append_left _ (List.mem_append_left _ (List.mem_append_left _ (List.mem_append_left _ (List.mem_append_left _ (List.mem_append_left _ (List.mem_append_left _ (List.mem_append_right _ (List.mem_append_right _ (List.mem_append_right _ (List.mem_append_right _ (List.mem_append_right _ (List.mem_append_right _ (List.mem_append_right _ (List.mem_append_right _ (List.mem_append_right _ (List.mem_append_right _ (List.mem_append_right _ (List.mem_append_right _ (List.mem_append_right _ (List.mem_append_right _ (List.mem_append_right _ (List.mem_append_right _ (List.mem_append_right _ (List.mem_append_right _ (List.mem_append_right _ (List.mem_append_right _ (List.mem_append_right _ (List.mem_append_right _ (List.mem_append_right _ (List.mem_append_right _ (List.mem_append_right _ (List.mem_append_right _ (List.mem_append_right _ (List.mem_append_right _ (List.mem_append_left _ h))))))))))))))))))))))))))))))))))))))))
theorem bgr_30 {w : Cond} (h : w ∈ wsL_law0_r30) : w ∈ BIG := List.mem_append_left _ (List.mem_append_left _ (List.mem_append_left _ (List.mem_append_left _ (List.mem_append_left _ (List.mem_append_left _ (List.mem_append_left _ (List.mem_append_left _ (List.mem_append_left _ (List.mem_append_left _ (List.mem_append_left _ (List.mem_append_left _ (List.mem_append_right _ (List.mem_append_right _ (List.mem_append_right _ (List.mem_append_right _ (List.mem_append_right _ (List.mem_append_right _ (List.mem_append_right _ (List.mem_append_right _ (List.mem_append_right _ (List.mem_append_right _ (List.mem_append_right _ (List.mem_append_right _ (List.mem_append_right _ (List.mem_append_right _ (List.mem_append_right _ (List.mem_append_right _ (List.mem_append_right _ (List.mem_append_right _ (List.mem_append_right _ (List.mem_append_right _ (List.mem_append_right _ (List.mem_append_right _ (List.mem_append_right _ (List.mem_append_right _ (List.mem_append_right _ (List.mem_append_right _ (List.mem_append_right _ (List.mem_append_right _ (List.mem_append_right _ (List.mem_append_left _ h)))))))))))))))))))))))))))))))))))))))))
theorem bgr_31 {w : Cond} (h : w ∈ wsL_law0_r31) : w ∈ BIG := List.mem_append_left _ (List.mem_append_left _ (List.mem_append_left _ (List.mem_append_left _ (List.mem_append_left _ (List.mem_append_left _ (List.mem_append_left _ (List.mem_append_left _ (List.mem_append_left _ (List.mem_append_left _ (List.mem_append_left _ (List.mem_append_left _ (List.mem_append_right _ (List.mem_append_right _ (List.mem_append_right _ (List.mem_append_right _ (List.mem_append_right _ (List.mem_append_right _ (List.mem_append_right _ (List.mem_append_right _ (List.mem_append_right _ (List.mem_append_right _ (List.mem_append_right _ (List.mem_append_right _ (List.mem_append_right _ (List.mem_append_right _ (List.mem_append_right _ (List.mem_append_right _ (List.mem_append_right _ (List.mem_append_right _ (List.mem_append_right _ (List.mem_append_right _ (List.mem_append_right _ (List.mem_append_right _ (List.mem_append_right _ (List.mem_append_right _ (List.mem_append_right _ (List.mem_append_right _ (List.mem_append_right _ (List.mem_append_right _ (List.mem_append_right _ (List.mem_append_right _ (List.mem_append_left _ h))))))))))))))))))))))))))))))))))))))))))
theorem bgr_32 {w : Cond} (h : w ∈ wsL_law0_r32) : w ∈ BIG := List.mem_append_left _ (List.mem_append_left _ (List.mem_append_left _ (List.mem_append_left _ (List.mem_append_left _ (List.mem_append_left _ (List.mem_append_left _ (List.mem_append_left _ (List.mem_append_left _ (List.mem_append_left _ (List.mem_append_left _ (List.mem_append_left _ (List.mem_append_right _ (List.mem_append_right _ (List.mem_append_right _ (List.mem_append_right _ (List.mem_append_right _ (List.mem_append_right _ (List.mem_append_right _ (List.mem_append_right _ (List.mem_append_right _ (List.mem_append_right _ (List.mem_append_right _ (List.mem_append_right _ (List.mem_append_right _ (List.mem_append_right _ (List.mem_append_right _ (List.mem_append_right _ (List.mem_append_right _ (List.mem_append_right _ (List.mem_append_right _ (List.mem_append_right _ (List.mem_append_right _ (List.mem_append_right _ (List.mem_append_right _ (List.mem_append_right _ (List.mem_append_right _ (List.mem_append_right _ (List.mem_append_right _ (List.mem_append_right _ (List.mem_append_right _ (List.mem_append_right _ (List.mem_append_right _ (h)))))))))))))))))))))))))))))))))))))))))))
theorem bg_1_0 : (Cond.classLink RL 8 RX7) ∈ BIG := bgr_1 (List.mem_of_getElem? (i := 0) rfl)
theorem bg_1_1 : (Cond.instantiable RX7 19) ∈ BIG := bgr_1 (List.mem_of_getElem? (i := 1) rfl)
theorem bg_1_2 : (Cond.initialized RX7) ∈ BIG := bgr_1 (List.mem_of_getElem? (i := 2) rfl)
theorem bg_1_3 : (Cond.classLink RL 60 RX8) ∈ BIG := bgr_1 (List.mem_of_getElem? (i := 3) rfl)
theorem bg_1_4 : (Cond.instantiable RX8 36) ∈ BIG := bgr_1 (List.mem_of_getElem? (i := 4) rfl)
theorem bg_1_5 : (Cond.initialized RX8) ∈ BIG := bgr_1 (List.mem_of_getElem? (i := 5) rfl)
theorem bg_1_6 : (Cond.arrayClass .long) ∈ BIG := bgr_1 (List.mem_of_getElem? (i := 6) rfl)
theorem bg_1_7 : (Cond.constantLong RL 63 (4294967295)) ∈ BIG := bgr_1 (List.mem_of_getElem? (i := 7) rfl)
theorem bg_1_8 : (Cond.methodLink RL 59 yX7_init) ∈ BIG := bgr_1 (List.mem_of_getElem? (i := 8) rfl)
theorem bg_1_9 : (Cond.instanceMethod yX7_init) ∈ BIG := bgr_1 (List.mem_of_getElem? (i := 9) rfl)
theorem bg_1_10 : (Cond.code yX7_init cX7_init 2 none) ∈ BIG := bgr_1 (List.mem_of_getElem? (i := 10) rfl)
theorem bg_1_11 : (Cond.methodLink RX7 1 objectInit) ∈ BIG := bgr_1 (List.mem_of_getElem? (i := 11) rfl)
theorem bg_1_12 : (Cond.instanceMethod objectInit) ∈ BIG := bgr_1 (List.mem_of_getElem? (i := 12) rfl)
theorem bg_1_13 : (Cond.code objectInit ⟨#[0xb1]⟩ 1 none) ∈ BIG := bgr_1 (List.mem_of_getElem? (i := 13) rfl)
theorem bg_1_14 : (Cond.classLink RX7 7 RX3) ∈ BIG := bgr_1 (List.mem_of_getElem? (i := 14) rfl)
theorem bg_1_15 : (Cond.instantiable RX3 4) ∈ BIG := bgr_1 (List.mem_of_getElem? (i := 15) rfl)
theorem bg_1_16 : (Cond.initialized RX3) ∈ BIG := bgr_1 (List.mem_of_getElem? (i := 16) rfl)
theorem bg_1_17 : (Cond.fieldLink RX7 10 "SessionGate" "mac" "LSessionGate$Mac;") ∈ BIG := bgr_1 (List.mem_of_getElem? (i := 17) rfl)
theorem bg_1_18 : (Cond.classLink RX7 16 RX2) ∈ BIG := bgr_1 (List.mem_of_getElem? (i := 18) rfl)
theorem bg_1_19 : (Cond.instantiable RX2 3) ∈ BIG := bgr_1 (List.mem_of_getElem? (i := 19) rfl)
theorem bg_1_20 : (Cond.initialized RX2) ∈ BIG := bgr_1 (List.mem_of_getElem? (i := 20) rfl)
theorem bg_1_21 : (Cond.fieldLink RX7 19 "SessionGate" "keys" "LSessionGate$KeyRing;") ∈ BIG := bgr_1 (List.mem_of_getElem? (i := 21) rfl)
theorem bg_1_22 : (Cond.classLink RX7 23 RX5) ∈ BIG := bgr_1 (List.mem_of_getElem? (i := 22) rfl)
theorem bg_1_23 : (Cond.instantiable RX5 2) ∈ BIG := bgr_1 (List.mem_of_getElem? (i := 23) rfl)
theorem bg_2_0 : (Cond.initialized RX5) ∈ BIG := bgr_2 (List.mem_of_getElem? (i := 0) rfl)
theorem bg_2_1 : (Cond.fieldLink RX7 26 "SessionGate" "cookie" "LSessionGate$Text;") ∈ BIG := bgr_2 (List.mem_of_getElem? (i := 1) rfl)
theorem bg_2_2 : (Cond.fieldLink RX7 30 "SessionGate" "token" "LSessionGate$Text;") ∈ BIG := bgr_2 (List.mem_of_getElem? (i := 2) rfl)
theorem bg_2_3 : (Cond.fieldLink RX7 33 "SessionGate" "dueToken" "LSessionGate$Text;") ∈ BIG := bgr_2 (List.mem_of_getElem? (i := 3) rfl)
theorem bg_2_4 : (Cond.classLink RX7 36 RX6) ∈ BIG := bgr_2 (List.mem_of_getElem? (i := 4) rfl)
theorem bg_2_5 : (Cond.fieldLink RX7 38 "SessionGate" "users" "[LSessionGate$User;") ∈ BIG := bgr_2 (List.mem_of_getElem? (i := 5) rfl)
theorem bg_2_6 : (Cond.classLink RX7 42 RX4) ∈ BIG := bgr_2 (List.mem_of_getElem? (i := 6) rfl)
theorem bg_2_7 : (Cond.fieldLink RX7 44 "SessionGate" "sessions" "[LSessionGate$Session;") ∈ BIG := bgr_2 (List.mem_of_getElem? (i := 7) rfl)
theorem bg_2_8 : (Cond.arrayClass .int) ∈ BIG := bgr_2 (List.mem_of_getElem? (i := 8) rfl)
theorem bg_2_9 : (Cond.fieldLink RX7 48 "SessionGate" "seedBytes" "[I") ∈ BIG := bgr_2 (List.mem_of_getElem? (i := 9) rfl)
theorem bg_2_10 : (Cond.fieldLink RX7 52 "SessionGate" "countBytes" "[I") ∈ BIG := bgr_2 (List.mem_of_getElem? (i := 10) rfl)
theorem bg_2_11 : (Cond.fieldLink RX7 55 "SessionGate" "cookieBytes" "[I") ∈ BIG := bgr_2 (List.mem_of_getElem? (i := 11) rfl)
theorem bg_2_12 : (Cond.fieldLink RX7 58 "SessionGate" "markedBody" "[I") ∈ BIG := bgr_2 (List.mem_of_getElem? (i := 12) rfl)
theorem bg_2_13 : (Cond.fieldLink RX7 61 "SessionGate" "now" "J") ∈ BIG := bgr_2 (List.mem_of_getElem? (i := 13) rfl)
theorem bg_2_14 : (Cond.constantLong RX7 65 (1000000)) ∈ BIG := bgr_2 (List.mem_of_getElem? (i := 14) rfl)
theorem bg_2_15 : (Cond.fieldLink RX7 67 "SessionGate" "grace" "J") ∈ BIG := bgr_2 (List.mem_of_getElem? (i := 15) rfl)
theorem bg_2_16 : (Cond.fieldLink RX7 70 "SessionGate" "most" "J") ∈ BIG := bgr_2 (List.mem_of_getElem? (i := 16) rfl)
theorem bg_2_17 : (Cond.fieldLink RX7 73 "SessionGate" "rest" "J") ∈ BIG := bgr_2 (List.mem_of_getElem? (i := 17) rfl)
theorem bg_2_18 : (Cond.fieldLink RX7 76 "SessionGate" "begunSinceSeed" "I") ∈ BIG := bgr_2 (List.mem_of_getElem? (i := 18) rfl)
theorem bg_2_19 : (Cond.fieldLink RX7 80 "SessionGate" "letIn" "I") ∈ BIG := bgr_2 (List.mem_of_getElem? (i := 19) rfl)
theorem bg_2_20 : (Cond.fieldLink RX7 83 "SessionGate" "refused" "I") ∈ BIG := bgr_2 (List.mem_of_getElem? (i := 20) rfl)
theorem bg_2_21 : (Cond.fieldLink RX7 86 "SessionGate" "renewed" "I") ∈ BIG := bgr_2 (List.mem_of_getElem? (i := 21) rfl)
theorem bg_2_22 : (Cond.instantiable RX6 3) ∈ BIG := bgr_2 (List.mem_of_getElem? (i := 22) rfl)
theorem bg_2_23 : (Cond.initialized RX6) ∈ BIG := bgr_2 (List.mem_of_getElem? (i := 23) rfl)
theorem bg_3_0 : (Cond.instantiable RX4 5) ∈ BIG := bgr_3 (List.mem_of_getElem? (i := 0) rfl)
theorem bg_3_1 : (Cond.initialized RX4) ∈ BIG := bgr_3 (List.mem_of_getElem? (i := 1) rfl)
theorem bg_3_2 : (Cond.instanceMethod yX3_init) ∈ BIG := bgr_3 (List.mem_of_getElem? (i := 2) rfl)
theorem bg_3_3 : (Cond.code yX3_init cX3_init 1 none) ∈ BIG := bgr_3 (List.mem_of_getElem? (i := 3) rfl)
theorem bg_3_4 : (Cond.methodLink RX3 1 objectInit) ∈ BIG := bgr_3 (List.mem_of_getElem? (i := 4) rfl)
theorem bg_3_5 : (Cond.fieldLink RX3 9 "SessionGate$Mac" "bytes" "[I") ∈ BIG := bgr_3 (List.mem_of_getElem? (i := 5) rfl)
theorem bg_3_6 : (Cond.fieldLink RX3 13 "SessionGate$Mac" "blocks" "[I") ∈ BIG := bgr_3 (List.mem_of_getElem? (i := 6) rfl)
theorem bg_3_7 : (Cond.fieldLink RX3 16 "SessionGate$Mac" "schedule" "[I") ∈ BIG := bgr_3 (List.mem_of_getElem? (i := 7) rfl)
theorem bg_3_8 : (Cond.fieldLink RX3 19 "SessionGate$Mac" "state" "[I") ∈ BIG := bgr_3 (List.mem_of_getElem? (i := 8) rfl)
theorem bg_3_9 : (Cond.methodLink RX7 18 yX2_init) ∈ BIG := bgr_3 (List.mem_of_getElem? (i := 9) rfl)
theorem bg_3_10 : (Cond.instanceMethod yX2_init) ∈ BIG := bgr_3 (List.mem_of_getElem? (i := 10) rfl)
theorem bg_3_11 : (Cond.code yX2_init cX2_init 2 none) ∈ BIG := bgr_3 (List.mem_of_getElem? (i := 11) rfl)
theorem bg_3_12 : (Cond.methodLink RX2 1 objectInit) ∈ BIG := bgr_3 (List.mem_of_getElem? (i := 12) rfl)
theorem bg_3_13 : (Cond.classLink RX2 9 RX1) ∈ BIG := bgr_3 (List.mem_of_getElem? (i := 13) rfl)
theorem bg_3_14 : (Cond.fieldLink RX2 11 "SessionGate$KeyRing" "places" "[LSessionGate$Key;") ∈ BIG := bgr_3 (List.mem_of_getElem? (i := 14) rfl)
theorem bg_3_15 : (Cond.fieldLink RX2 15 "SessionGate$KeyRing" "kept" "I") ∈ BIG := bgr_3 (List.mem_of_getElem? (i := 15) rfl)
theorem bg_3_16 : (Cond.fieldLink RX2 19 "SessionGate$KeyRing" "newestPlace" "I") ∈ BIG := bgr_3 (List.mem_of_getElem? (i := 16) rfl)
theorem bg_3_17 : (Cond.instantiable RX1 3) ∈ BIG := bgr_3 (List.mem_of_getElem? (i := 17) rfl)
theorem bg_3_18 : (Cond.initialized RX1) ∈ BIG := bgr_3 (List.mem_of_getElem? (i := 18) rfl)
theorem bg_3_19 : (Cond.instanceMethod yX1_init) ∈ BIG := bgr_3 (List.mem_of_getElem? (i := 19) rfl)
theorem bg_3_20 : (Cond.code yX1_init cX1_init 1 none) ∈ BIG := bgr_3 (List.mem_of_getElem? (i := 20) rfl)
theorem bg_3_21 : (Cond.methodLink RX1 1 objectInit) ∈ BIG := bgr_3 (List.mem_of_getElem? (i := 21) rfl)
theorem bg_3_22 : (Cond.fieldLink RX1 9 "SessionGate$Key" "bytes" "[I") ∈ BIG := bgr_3 (List.mem_of_getElem? (i := 22) rfl)
theorem bg_3_23 : (Cond.fieldLink RX1 13 "SessionGate$Key" "number" "I") ∈ BIG := bgr_3 (List.mem_of_getElem? (i := 23) rfl)
theorem bg_4_0 : (Cond.fieldLink RX1 17 "SessionGate$Key" "replacedAt" "J") ∈ BIG := bgr_4 (List.mem_of_getElem? (i := 0) rfl)
theorem bg_4_1 : (Cond.instanceMethod yX5_init) ∈ BIG := bgr_4 (List.mem_of_getElem? (i := 1) rfl)
theorem bg_4_2 : (Cond.code yX5_init cX5_init 1 none) ∈ BIG := bgr_4 (List.mem_of_getElem? (i := 2) rfl)
theorem bg_4_3 : (Cond.methodLink RX5 3 objectInit) ∈ BIG := bgr_4 (List.mem_of_getElem? (i := 3) rfl)
theorem bg_4_4 : (Cond.fieldLink RX5 9 "SessionGate$Text" "signs" "[I") ∈ BIG := bgr_4 (List.mem_of_getElem? (i := 4) rfl)
theorem bg_4_5 : (Cond.fieldLink RX5 15 "SessionGate$Text" "length" "I") ∈ BIG := bgr_4 (List.mem_of_getElem? (i := 5) rfl)
theorem bg_4_6 : (Cond.instanceMethod yX6_init) ∈ BIG := bgr_4 (List.mem_of_getElem? (i := 6) rfl)
theorem bg_4_7 : (Cond.code yX6_init cX6_init 1 none) ∈ BIG := bgr_4 (List.mem_of_getElem? (i := 7) rfl)
theorem bg_4_8 : (Cond.methodLink RX6 1 objectInit) ∈ BIG := bgr_4 (List.mem_of_getElem? (i := 8) rfl)
theorem bg_4_9 : (Cond.fieldLink RX6 7 "SessionGate$User" "told" "Z") ∈ BIG := bgr_4 (List.mem_of_getElem? (i := 9) rfl)
theorem bg_4_10 : (Cond.fieldLink RX6 13 "SessionGate$User" "first" "I") ∈ BIG := bgr_4 (List.mem_of_getElem? (i := 10) rfl)
theorem bg_4_11 : (Cond.fieldLink RX6 17 "SessionGate$User" "second" "I") ∈ BIG := bgr_4 (List.mem_of_getElem? (i := 11) rfl)
theorem bg_4_12 : (Cond.instanceMethod yX4_init) ∈ BIG := bgr_4 (List.mem_of_getElem? (i := 12) rfl)
theorem bg_4_13 : (Cond.code yX4_init cX4_init 1 none) ∈ BIG := bgr_4 (List.mem_of_getElem? (i := 13) rfl)
theorem bg_4_14 : (Cond.methodLink RX4 1 objectInit) ∈ BIG := bgr_4 (List.mem_of_getElem? (i := 14) rfl)
theorem bg_4_15 : (Cond.fieldLink RX4 7 "SessionGate$Session" "open" "Z") ∈ BIG := bgr_4 (List.mem_of_getElem? (i := 15) rfl)
theorem bg_4_16 : (Cond.fieldLink RX4 13 "SessionGate$Session" "owner" "I") ∈ BIG := bgr_4 (List.mem_of_getElem? (i := 16) rfl)
theorem bg_4_17 : (Cond.fieldLink RX4 17 "SessionGate$Session" "id" "J") ∈ BIG := bgr_4 (List.mem_of_getElem? (i := 17) rfl)
theorem bg_4_18 : (Cond.fieldLink RX4 21 "SessionGate$Session" "began" "J") ∈ BIG := bgr_4 (List.mem_of_getElem? (i := 18) rfl)
theorem bg_4_19 : (Cond.fieldLink RX4 24 "SessionGate$Session" "last" "J") ∈ BIG := bgr_4 (List.mem_of_getElem? (i := 19) rfl)
theorem bg_4_20 : (Cond.methodLink RL 62 yX8_init) ∈ BIG := bgr_4 (List.mem_of_getElem? (i := 20) rfl)
theorem bg_4_21 : (Cond.instanceMethod yX8_init) ∈ BIG := bgr_4 (List.mem_of_getElem? (i := 21) rfl)
theorem bg_4_22 : (Cond.code yX8_init cX8_init 1 none) ∈ BIG := bgr_4 (List.mem_of_getElem? (i := 22) rfl)
theorem bg_4_23 : (Cond.methodLink RX8 1 objectInit) ∈ BIG := bgr_4 (List.mem_of_getElem? (i := 23) rfl)
theorem bg_5_0 : (Cond.constant RX8 7 (1116352408)) ∈ BIG := bgr_5 (List.mem_of_getElem? (i := 0) rfl)
theorem bg_5_1 : (Cond.constant RX8 8 (1899447441)) ∈ BIG := bgr_5 (List.mem_of_getElem? (i := 1) rfl)
theorem bg_5_2 : (Cond.constant RX8 9 (-1245643825)) ∈ BIG := bgr_5 (List.mem_of_getElem? (i := 2) rfl)
theorem bg_5_3 : (Cond.constant RX8 10 (-373957723)) ∈ BIG := bgr_5 (List.mem_of_getElem? (i := 3) rfl)
theorem bg_5_4 : (Cond.constant RX8 11 (961987163)) ∈ BIG := bgr_5 (List.mem_of_getElem? (i := 4) rfl)
theorem bg_5_5 : (Cond.constant RX8 12 (1508970993)) ∈ BIG := bgr_5 (List.mem_of_getElem? (i := 5) rfl)
theorem bg_5_6 : (Cond.constant RX8 13 (-1841331548)) ∈ BIG := bgr_5 (List.mem_of_getElem? (i := 6) rfl)
theorem bg_5_7 : (Cond.constant RX8 14 (-1424204075)) ∈ BIG := bgr_5 (List.mem_of_getElem? (i := 7) rfl)
theorem bg_5_8 : (Cond.constant RX8 15 (-670586216)) ∈ BIG := bgr_5 (List.mem_of_getElem? (i := 8) rfl)
theorem bg_5_9 : (Cond.constant RX8 16 (310598401)) ∈ BIG := bgr_5 (List.mem_of_getElem? (i := 9) rfl)
theorem bg_5_10 : (Cond.constant RX8 17 (607225278)) ∈ BIG := bgr_5 (List.mem_of_getElem? (i := 10) rfl)
theorem bg_5_11 : (Cond.constant RX8 18 (1426881987)) ∈ BIG := bgr_5 (List.mem_of_getElem? (i := 11) rfl)
theorem bg_5_12 : (Cond.constant RX8 19 (1925078388)) ∈ BIG := bgr_5 (List.mem_of_getElem? (i := 12) rfl)
theorem bg_5_13 : (Cond.constant RX8 20 (-2132889090)) ∈ BIG := bgr_5 (List.mem_of_getElem? (i := 13) rfl)
theorem bg_5_14 : (Cond.constant RX8 21 (-1680079193)) ∈ BIG := bgr_5 (List.mem_of_getElem? (i := 14) rfl)
theorem bg_5_15 : (Cond.constant RX8 22 (-1046744716)) ∈ BIG := bgr_5 (List.mem_of_getElem? (i := 15) rfl)
theorem bg_5_16 : (Cond.constant RX8 23 (-459576895)) ∈ BIG := bgr_5 (List.mem_of_getElem? (i := 16) rfl)
theorem bg_5_17 : (Cond.constant RX8 24 (-272742522)) ∈ BIG := bgr_5 (List.mem_of_getElem? (i := 17) rfl)
theorem bg_5_18 : (Cond.constant RX8 25 (264347078)) ∈ BIG := bgr_5 (List.mem_of_getElem? (i := 18) rfl)
theorem bg_5_19 : (Cond.constant RX8 26 (604807628)) ∈ BIG := bgr_5 (List.mem_of_getElem? (i := 19) rfl)
theorem bg_5_20 : (Cond.constant RX8 27 (770255983)) ∈ BIG := bgr_5 (List.mem_of_getElem? (i := 20) rfl)
theorem bg_5_21 : (Cond.constant RX8 28 (1249150122)) ∈ BIG := bgr_5 (List.mem_of_getElem? (i := 21) rfl)
theorem bg_5_22 : (Cond.constant RX8 29 (1555081692)) ∈ BIG := bgr_5 (List.mem_of_getElem? (i := 22) rfl)
theorem bg_5_23 : (Cond.constant RX8 30 (1996064986)) ∈ BIG := bgr_5 (List.mem_of_getElem? (i := 23) rfl)
theorem bg_6_0 : (Cond.constant RX8 31 (-1740746414)) ∈ BIG := bgr_6 (List.mem_of_getElem? (i := 0) rfl)
theorem bg_6_1 : (Cond.constant RX8 32 (-1473132947)) ∈ BIG := bgr_6 (List.mem_of_getElem? (i := 1) rfl)
theorem bg_6_2 : (Cond.constant RX8 33 (-1341970488)) ∈ BIG := bgr_6 (List.mem_of_getElem? (i := 2) rfl)
theorem bg_6_3 : (Cond.constant RX8 34 (-1084653625)) ∈ BIG := bgr_6 (List.mem_of_getElem? (i := 3) rfl)
theorem bg_6_4 : (Cond.constant RX8 35 (-958395405)) ∈ BIG := bgr_6 (List.mem_of_getElem? (i := 4) rfl)
theorem bg_6_5 : (Cond.constant RX8 36 (-710438585)) ∈ BIG := bgr_6 (List.mem_of_getElem? (i := 5) rfl)
theorem bg_6_6 : (Cond.constant RX8 37 (113926993)) ∈ BIG := bgr_6 (List.mem_of_getElem? (i := 6) rfl)
theorem bg_6_7 : (Cond.constant RX8 38 (338241895)) ∈ BIG := bgr_6 (List.mem_of_getElem? (i := 7) rfl)
theorem bg_6_8 : (Cond.constant RX8 39 (666307205)) ∈ BIG := bgr_6 (List.mem_of_getElem? (i := 8) rfl)
theorem bg_6_9 : (Cond.constant RX8 40 (773529912)) ∈ BIG := bgr_6 (List.mem_of_getElem? (i := 9) rfl)
theorem bg_6_10 : (Cond.constant RX8 41 (1294757372)) ∈ BIG := bgr_6 (List.mem_of_getElem? (i := 10) rfl)
theorem bg_6_11 : (Cond.constant RX8 42 (1396182291)) ∈ BIG := bgr_6 (List.mem_of_getElem? (i := 11) rfl)
theorem bg_6_12 : (Cond.constant RX8 43 (1695183700)) ∈ BIG := bgr_6 (List.mem_of_getElem? (i := 12) rfl)
theorem bg_6_13 : (Cond.constant RX8 44 (1986661051)) ∈ BIG := bgr_6 (List.mem_of_getElem? (i := 13) rfl)
theorem bg_6_14 : (Cond.constant RX8 45 (-2117940946)) ∈ BIG := bgr_6 (List.mem_of_getElem? (i := 14) rfl)
theorem bg_6_15 : (Cond.constant RX8 46 (-1838011259)) ∈ BIG := bgr_6 (List.mem_of_getElem? (i := 15) rfl)
theorem bg_6_16 : (Cond.constant RX8 47 (-1564481375)) ∈ BIG := bgr_6 (List.mem_of_getElem? (i := 16) rfl)
theorem bg_6_17 : (Cond.constant RX8 48 (-1474664885)) ∈ BIG := bgr_6 (List.mem_of_getElem? (i := 17) rfl)
theorem bg_6_18 : (Cond.constant RX8 49 (-1035236496)) ∈ BIG := bgr_6 (List.mem_of_getElem? (i := 18) rfl)
theorem bg_6_19 : (Cond.constant RX8 50 (-949202525)) ∈ BIG := bgr_6 (List.mem_of_getElem? (i := 19) rfl)
theorem bg_6_20 : (Cond.constant RX8 51 (-778901479)) ∈ BIG := bgr_6 (List.mem_of_getElem? (i := 20) rfl)
theorem bg_6_21 : (Cond.constant RX8 52 (-694614492)) ∈ BIG := bgr_6 (List.mem_of_getElem? (i := 21) rfl)
theorem bg_6_22 : (Cond.constant RX8 53 (-200395387)) ∈ BIG := bgr_6 (List.mem_of_getElem? (i := 22) rfl)
theorem bg_6_23 : (Cond.constant RX8 54 (275423344)) ∈ BIG := bgr_6 (List.mem_of_getElem? (i := 23) rfl)
theorem bg_7_0 : (Cond.constant RX8 55 (430227734)) ∈ BIG := bgr_7 (List.mem_of_getElem? (i := 0) rfl)
theorem bg_7_1 : (Cond.constant RX8 56 (506948616)) ∈ BIG := bgr_7 (List.mem_of_getElem? (i := 1) rfl)
theorem bg_7_2 : (Cond.constant RX8 57 (659060556)) ∈ BIG := bgr_7 (List.mem_of_getElem? (i := 2) rfl)
theorem bg_7_3 : (Cond.constant RX8 58 (883997877)) ∈ BIG := bgr_7 (List.mem_of_getElem? (i := 3) rfl)
theorem bg_7_4 : (Cond.constant RX8 59 (958139571)) ∈ BIG := bgr_7 (List.mem_of_getElem? (i := 4) rfl)
theorem bg_7_5 : (Cond.constant RX8 60 (1322822218)) ∈ BIG := bgr_7 (List.mem_of_getElem? (i := 5) rfl)
theorem bg_7_6 : (Cond.constant RX8 61 (1537002063)) ∈ BIG := bgr_7 (List.mem_of_getElem? (i := 6) rfl)
theorem bg_7_7 : (Cond.constant RX8 62 (1747873779)) ∈ BIG := bgr_7 (List.mem_of_getElem? (i := 7) rfl)
theorem bg_7_8 : (Cond.constant RX8 63 (1955562222)) ∈ BIG := bgr_7 (List.mem_of_getElem? (i := 8) rfl)
theorem bg_7_9 : (Cond.constant RX8 64 (2024104815)) ∈ BIG := bgr_7 (List.mem_of_getElem? (i := 9) rfl)
theorem bg_7_10 : (Cond.constant RX8 65 (-2067236844)) ∈ BIG := bgr_7 (List.mem_of_getElem? (i := 10) rfl)
theorem bg_7_11 : (Cond.constant RX8 66 (-1933114872)) ∈ BIG := bgr_7 (List.mem_of_getElem? (i := 11) rfl)
theorem bg_7_12 : (Cond.constant RX8 67 (-1866530822)) ∈ BIG := bgr_7 (List.mem_of_getElem? (i := 12) rfl)
theorem bg_7_13 : (Cond.constant RX8 68 (-1538233109)) ∈ BIG := bgr_7 (List.mem_of_getElem? (i := 13) rfl)
theorem bg_7_14 : (Cond.constant RX8 69 (-1090935817)) ∈ BIG := bgr_7 (List.mem_of_getElem? (i := 14) rfl)
theorem bg_7_15 : (Cond.constant RX8 70 (-965641998)) ∈ BIG := bgr_7 (List.mem_of_getElem? (i := 15) rfl)
theorem bg_7_16 : (Cond.fieldLink RX8 71 "SessionGateModel" "round" "[I") ∈ BIG := bgr_7 (List.mem_of_getElem? (i := 16) rfl)
theorem bg_7_17 : (Cond.constant RX8 77 (1779033703)) ∈ BIG := bgr_7 (List.mem_of_getElem? (i := 17) rfl)
theorem bg_7_18 : (Cond.constant RX8 78 (-1150833019)) ∈ BIG := bgr_7 (List.mem_of_getElem? (i := 18) rfl)
theorem bg_7_19 : (Cond.constant RX8 79 (1013904242)) ∈ BIG := bgr_7 (List.mem_of_getElem? (i := 19) rfl)
theorem bg_7_20 : (Cond.constant RX8 80 (-1521486534)) ∈ BIG := bgr_7 (List.mem_of_getElem? (i := 20) rfl)
theorem bg_7_21 : (Cond.constant RX8 81 (1359893119)) ∈ BIG := bgr_7 (List.mem_of_getElem? (i := 21) rfl)
theorem bg_7_22 : (Cond.constant RX8 82 (-1694144372)) ∈ BIG := bgr_7 (List.mem_of_getElem? (i := 22) rfl)
theorem bg_7_23 : (Cond.constant RX8 83 (528734635)) ∈ BIG := bgr_7 (List.mem_of_getElem? (i := 23) rfl)
theorem bg_8_0 : (Cond.constant RX8 84 (1541459225)) ∈ BIG := bgr_8 (List.mem_of_getElem? (i := 0) rfl)
theorem bg_8_1 : (Cond.fieldLink RX8 85 "SessionGateModel" "start" "[I") ∈ BIG := bgr_8 (List.mem_of_getElem? (i := 1) rfl)
theorem bg_8_2 : (Cond.fieldLink RX8 88 "SessionGateModel" "state" "[I") ∈ BIG := bgr_8 (List.mem_of_getElem? (i := 2) rfl)
theorem bg_8_3 : (Cond.fieldLink RX8 91 "SessionGateModel" "word" "[I") ∈ BIG := bgr_8 (List.mem_of_getElem? (i := 3) rfl)
theorem bg_8_4 : (Cond.fieldLink RX8 94 "SessionGateModel" "message" "[I") ∈ BIG := bgr_8 (List.mem_of_getElem? (i := 4) rfl)
theorem bg_8_5 : (Cond.fieldLink RX8 97 "SessionGateModel" "hash" "[I") ∈ BIG := bgr_8 (List.mem_of_getElem? (i := 5) rfl)
theorem bg_8_6 : (Cond.fieldLink RX8 100 "SessionGateModel" "key" "[I") ∈ BIG := bgr_8 (List.mem_of_getElem? (i := 6) rfl)
theorem bg_8_7 : (Cond.fieldLink RX8 103 "SessionGateModel" "said" "[I") ∈ BIG := bgr_8 (List.mem_of_getElem? (i := 7) rfl)
theorem bg_8_8 : (Cond.constantLong RX8 106 (1000000)) ∈ BIG := bgr_8 (List.mem_of_getElem? (i := 8) rfl)
theorem bg_8_9 : (Cond.fieldLink RX8 108 "SessionGateModel" "grace" "J") ∈ BIG := bgr_8 (List.mem_of_getElem? (i := 9) rfl)
theorem bg_8_10 : (Cond.fieldLink RX8 112 "SessionGateModel" "most" "J") ∈ BIG := bgr_8 (List.mem_of_getElem? (i := 10) rfl)
theorem bg_8_11 : (Cond.fieldLink RX8 115 "SessionGateModel" "rest" "J") ∈ BIG := bgr_8 (List.mem_of_getElem? (i := 11) rfl)
theorem bg_8_12 : (Cond.fieldLink RX8 118 "SessionGateModel" "keys" "I") ∈ BIG := bgr_8 (List.mem_of_getElem? (i := 12) rfl)
theorem bg_8_13 : (Cond.fieldLink RX8 122 "SessionGateModel" "keyNumber" "[I") ∈ BIG := bgr_8 (List.mem_of_getElem? (i := 13) rfl)
theorem bg_8_14 : (Cond.fieldLink RX8 125 "SessionGateModel" "keyBytes" "[I") ∈ BIG := bgr_8 (List.mem_of_getElem? (i := 14) rfl)
theorem bg_8_15 : (Cond.fieldLink RX8 128 "SessionGateModel" "keyUntil" "[J") ∈ BIG := bgr_8 (List.mem_of_getElem? (i := 15) rfl)
theorem bg_8_16 : (Cond.arrayClass .boolean) ∈ BIG := bgr_8 (List.mem_of_getElem? (i := 16) rfl)
theorem bg_8_17 : (Cond.fieldLink RX8 132 "SessionGateModel" "hasPassword" "[Z") ∈ BIG := bgr_8 (List.mem_of_getElem? (i := 17) rfl)
theorem bg_8_18 : (Cond.fieldLink RX8 136 "SessionGateModel" "passwordA" "[I") ∈ BIG := bgr_8 (List.mem_of_getElem? (i := 18) rfl)
theorem bg_8_19 : (Cond.fieldLink RX8 139 "SessionGateModel" "passwordB" "[I") ∈ BIG := bgr_8 (List.mem_of_getElem? (i := 19) rfl)
theorem bg_8_20 : (Cond.fieldLink RX8 142 "SessionGateModel" "isThere" "[Z") ∈ BIG := bgr_8 (List.mem_of_getElem? (i := 20) rfl)
theorem bg_8_21 : (Cond.fieldLink RX8 145 "SessionGateModel" "user" "[I") ∈ BIG := bgr_8 (List.mem_of_getElem? (i := 21) rfl)
theorem bg_8_22 : (Cond.fieldLink RX8 148 "SessionGateModel" "id" "[J") ∈ BIG := bgr_8 (List.mem_of_getElem? (i := 22) rfl)
theorem bg_8_23 : (Cond.fieldLink RX8 151 "SessionGateModel" "began" "[J") ∈ BIG := bgr_8 (List.mem_of_getElem? (i := 23) rfl)
theorem bg_9_0 : (Cond.fieldLink RX8 154 "SessionGateModel" "last" "[J") ∈ BIG := bgr_9 (List.mem_of_getElem? (i := 0) rfl)
theorem bg_9_1 : (Cond.fieldLink RX8 157 "SessionGateModel" "size" "[I") ∈ BIG := bgr_9 (List.mem_of_getElem? (i := 1) rfl)
theorem bg_9_2 : (Cond.fieldLink RX8 160 "SessionGateModel" "texts" "[I") ∈ BIG := bgr_9 (List.mem_of_getElem? (i := 2) rfl)
theorem bg_9_3 : (Cond.fieldLink RX8 163 "SessionGateModel" "raw" "[I") ∈ BIG := bgr_9 (List.mem_of_getElem? (i := 3) rfl)
theorem bg_9_4 : (Cond.methodLink RL 65 yX7_seed) ∈ BIG := bgr_9 (List.mem_of_getElem? (i := 4) rfl)
theorem bg_9_5 : (Cond.instanceMethod yX7_seed) ∈ BIG := bgr_9 (List.mem_of_getElem? (i := 5) rfl)
theorem bg_9_6 : (Cond.selects RX7 yX7_seed yX7_seed) ∈ BIG := bgr_9 (List.mem_of_getElem? (i := 6) rfl)
theorem bg_9_7 : (Cond.code yX7_seed cX7_seed 3 none) ∈ BIG := bgr_9 (List.mem_of_getElem? (i := 7) rfl)
theorem bg_9_8 : (Cond.methodLink RX7 91 yX7_writeLong) ∈ BIG := bgr_9 (List.mem_of_getElem? (i := 8) rfl)
theorem bg_9_9 : (Cond.static yX7_writeLong) ∈ BIG := bgr_9 (List.mem_of_getElem? (i := 9) rfl)
theorem bg_9_10 : (Cond.code yX7_writeLong cX7_writeLong 5 none) ∈ BIG := bgr_9 (List.mem_of_getElem? (i := 10) rfl)
theorem bg_9_11 : (Cond.methodLink RL 69 yX8_seed) ∈ BIG := bgr_9 (List.mem_of_getElem? (i := 11) rfl)
theorem bg_9_12 : (Cond.instanceMethod yX8_seed) ∈ BIG := bgr_9 (List.mem_of_getElem? (i := 12) rfl)
theorem bg_9_13 : (Cond.selects RX8 yX8_seed yX8_seed) ∈ BIG := bgr_9 (List.mem_of_getElem? (i := 13) rfl)
theorem bg_9_14 : (Cond.code yX8_seed cX8_seed 3 none) ∈ BIG := bgr_9 (List.mem_of_getElem? (i := 14) rfl)
theorem bg_9_15 : (Cond.fieldLink RX8 166 "SessionGateModel" "fault" "I") ∈ BIG := bgr_9 (List.mem_of_getElem? (i := 15) rfl)
theorem bg_9_16 : (Cond.fieldLink RX8 186 "SessionGateModel" "seed" "J") ∈ BIG := bgr_9 (List.mem_of_getElem? (i := 16) rfl)
theorem bg_9_17 : (Cond.fieldLink RX8 191 "SessionGateModel" "begunAll" "J") ∈ BIG := bgr_9 (List.mem_of_getElem? (i := 17) rfl)
theorem bg_9_18 : (Cond.methodLink RL 70 yL_pass) ∈ BIG := bgr_9 (List.mem_of_getElem? (i := 18) rfl)
theorem bg_9_19 : (Cond.static yL_pass) ∈ BIG := bgr_9 (List.mem_of_getElem? (i := 19) rfl)
theorem bg_9_20 : (Cond.initialized RL) ∈ BIG := bgr_9 (List.mem_of_getElem? (i := 20) rfl)
theorem bg_9_21 : (Cond.codeWith yL_pass cL_pass 5 (some .int) [(0, 8, 11, 13)]) ∈ BIG := bgr_9 (List.mem_of_getElem? (i := 21) rfl)
theorem bg_9_22 : (Cond.classLink RL 13 "java/lang/IllegalArgumentException") ∈ BIG := bgr_9 (List.mem_of_getElem? (i := 22) rfl)
theorem bg_9_23 : (Cond.methodLink RL 7 yX7_pass) ∈ BIG := bgr_9 (List.mem_of_getElem? (i := 23) rfl)
theorem bg_10_0 : (Cond.instanceMethod yX7_pass) ∈ BIG := bgr_10 (List.mem_of_getElem? (i := 0) rfl)
theorem bg_10_1 : (Cond.selects RX7 yX7_pass yX7_pass) ∈ BIG := bgr_10 (List.mem_of_getElem? (i := 1) rfl)
theorem bg_10_2 : (Cond.code yX7_pass cX7_pass 3 (some .long)) ∈ BIG := bgr_10 (List.mem_of_getElem? (i := 2) rfl)
theorem bg_10_3 : (Cond.classLink RX7 97 "java/lang/IllegalArgumentException") ∈ BIG := bgr_10 (List.mem_of_getElem? (i := 3) rfl)
theorem bg_10_4 : (Cond.initialized "java/lang/IllegalArgumentException") ∈ BIG := bgr_10 (List.mem_of_getElem? (i := 4) rfl)
theorem bg_10_5 : (Cond.constantLong RX7 95 (10000000000)) ∈ BIG := bgr_10 (List.mem_of_getElem? (i := 5) rfl)
theorem bg_10_6 : (Cond.methodLink RL 75 yX8_pass) ∈ BIG := bgr_10 (List.mem_of_getElem? (i := 6) rfl)
theorem bg_10_7 : (Cond.instanceMethod yX8_pass) ∈ BIG := bgr_10 (List.mem_of_getElem? (i := 7) rfl)
theorem bg_10_8 : (Cond.selects RX8 yX8_pass yX8_pass) ∈ BIG := bgr_10 (List.mem_of_getElem? (i := 8) rfl)
theorem bg_10_9 : (Cond.code yX8_pass cX8_pass 3 (some .long)) ∈ BIG := bgr_10 (List.mem_of_getElem? (i := 9) rfl)
theorem bg_10_10 : (Cond.constantLong RX8 221 (10000000000)) ∈ BIG := bgr_10 (List.mem_of_getElem? (i := 10) rfl)
theorem bg_10_11 : (Cond.fieldLink RX8 231 "SessionGateModel" "now" "J") ∈ BIG := bgr_10 (List.mem_of_getElem? (i := 11) rfl)
theorem bg_10_12 : (Cond.methodLink RX8 223 yX8_isIn) ∈ BIG := bgr_10 (List.mem_of_getElem? (i := 12) rfl)
theorem bg_10_13 : (Cond.static yX8_isIn) ∈ BIG := bgr_10 (List.mem_of_getElem? (i := 13) rfl)
theorem bg_10_14 : (Cond.code yX8_isIn cX8_isIn 6 (some .boolean)) ∈ BIG := bgr_10 (List.mem_of_getElem? (i := 14) rfl)
theorem bg_10_15 : (Cond.methodLink RX8 227 yX8_refused) ∈ BIG := bgr_10 (List.mem_of_getElem? (i := 15) rfl)
theorem bg_10_16 : (Cond.instanceMethod yX8_refused) ∈ BIG := bgr_10 (List.mem_of_getElem? (i := 16) rfl)
theorem bg_10_17 : (Cond.selects RX8 yX8_refused yX8_refused) ∈ BIG := bgr_10 (List.mem_of_getElem? (i := 17) rfl)
theorem bg_10_18 : (Cond.code yX8_refused cX8_refused 2 (some .boolean)) ∈ BIG := bgr_10 (List.mem_of_getElem? (i := 18) rfl)
theorem bg_10_19 : (Cond.methodLink RL 76 yX8_thrown) ∈ BIG := bgr_10 (List.mem_of_getElem? (i := 19) rfl)
theorem bg_10_20 : (Cond.instanceMethod yX8_thrown) ∈ BIG := bgr_10 (List.mem_of_getElem? (i := 20) rfl)
theorem bg_10_21 : (Cond.selects RX8 yX8_thrown yX8_thrown) ∈ BIG := bgr_10 (List.mem_of_getElem? (i := 21) rfl)
theorem bg_10_22 : (Cond.code yX8_thrown cX8_thrown 1 (some .int)) ∈ BIG := bgr_10 (List.mem_of_getElem? (i := 22) rfl)
theorem bg_10_23 : (Cond.methodLink RL 80 yL_limits) ∈ BIG := bgr_10 (List.mem_of_getElem? (i := 23) rfl)
theorem bg_11_0 : (Cond.static yL_limits) ∈ BIG := bgr_11 (List.mem_of_getElem? (i := 0) rfl)
theorem bg_11_1 : (Cond.codeWith yL_limits cL_limits 8 (some .int) [(0, 8, 11, 13)]) ∈ BIG := bgr_11 (List.mem_of_getElem? (i := 1) rfl)
theorem bg_11_2 : (Cond.methodLink RL 15 yX7_limits) ∈ BIG := bgr_11 (List.mem_of_getElem? (i := 2) rfl)
theorem bg_11_3 : (Cond.instanceMethod yX7_limits) ∈ BIG := bgr_11 (List.mem_of_getElem? (i := 3) rfl)
theorem bg_11_4 : (Cond.selects RX7 yX7_limits yX7_limits) ∈ BIG := bgr_11 (List.mem_of_getElem? (i := 4) rfl)
theorem bg_11_5 : (Cond.code yX7_limits cX7_limits 7 none) ∈ BIG := bgr_11 (List.mem_of_getElem? (i := 5) rfl)
theorem bg_11_6 : (Cond.methodLink RX7 100 yX7_isLimit) ∈ BIG := bgr_11 (List.mem_of_getElem? (i := 6) rfl)
theorem bg_11_7 : (Cond.static yX7_isLimit) ∈ BIG := bgr_11 (List.mem_of_getElem? (i := 7) rfl)
theorem bg_11_8 : (Cond.code yX7_isLimit cX7_isLimit 2 (some .boolean)) ∈ BIG := bgr_11 (List.mem_of_getElem? (i := 8) rfl)
theorem bg_11_9 : (Cond.constantLong RX7 222 (1000000000000)) ∈ BIG := bgr_11 (List.mem_of_getElem? (i := 9) rfl)
theorem bg_11_10 : (Cond.methodLink RL 83 yX8_limits) ∈ BIG := bgr_11 (List.mem_of_getElem? (i := 10) rfl)
theorem bg_11_11 : (Cond.instanceMethod yX8_limits) ∈ BIG := bgr_11 (List.mem_of_getElem? (i := 11) rfl)
theorem bg_11_12 : (Cond.selects RX8 yX8_limits yX8_limits) ∈ BIG := bgr_11 (List.mem_of_getElem? (i := 12) rfl)
theorem bg_11_13 : (Cond.code yX8_limits cX8_limits 9 none) ∈ BIG := bgr_11 (List.mem_of_getElem? (i := 13) rfl)
theorem bg_11_14 : (Cond.constantLong RX8 234 (1000000000000)) ∈ BIG := bgr_11 (List.mem_of_getElem? (i := 14) rfl)
theorem bg_11_15 : (Cond.methodLink RL 84 yX7_change) ∈ BIG := bgr_11 (List.mem_of_getElem? (i := 15) rfl)
theorem bg_11_16 : (Cond.instanceMethod yX7_change) ∈ BIG := bgr_11 (List.mem_of_getElem? (i := 16) rfl)
theorem bg_11_17 : (Cond.selects RX7 yX7_change yX7_change) ∈ BIG := bgr_11 (List.mem_of_getElem? (i := 17) rfl)
theorem bg_11_18 : (Cond.code yX7_change cX7_change 6 (some .int)) ∈ BIG := bgr_11 (List.mem_of_getElem? (i := 18) rfl)
theorem bg_11_19 : (Cond.methodLink RX7 104 yX2_advance) ∈ BIG := bgr_11 (List.mem_of_getElem? (i := 19) rfl)
theorem bg_11_20 : (Cond.instanceMethod yX2_advance) ∈ BIG := bgr_11 (List.mem_of_getElem? (i := 20) rfl)
theorem bg_11_21 : (Cond.selects RX2 yX2_advance yX2_advance) ∈ BIG := bgr_11 (List.mem_of_getElem? (i := 21) rfl)
theorem bg_11_22 : (Cond.code yX2_advance cX2_advance 4 none) ∈ BIG := bgr_11 (List.mem_of_getElem? (i := 22) rfl)
theorem bg_11_23 : (Cond.methodLink RX7 108 yX2_newest) ∈ BIG := bgr_11 (List.mem_of_getElem? (i := 23) rfl)
theorem bg_12_0 : (Cond.instanceMethod yX2_newest) ∈ BIG := bgr_12 (List.mem_of_getElem? (i := 0) rfl)
theorem bg_12_1 : (Cond.selects RX2 yX2_newest yX2_newest) ∈ BIG := bgr_12 (List.mem_of_getElem? (i := 1) rfl)
theorem bg_12_2 : (Cond.code yX2_newest cX2_newest 1 (some (.object "SessionGate$Key"))) ∈ BIG := bgr_12 (List.mem_of_getElem? (i := 2) rfl)
theorem bg_12_3 : (Cond.methodLink RX7 112 yX1_fill) ∈ BIG := bgr_12 (List.mem_of_getElem? (i := 3) rfl)
theorem bg_12_4 : (Cond.instanceMethod yX1_fill) ∈ BIG := bgr_12 (List.mem_of_getElem? (i := 4) rfl)
theorem bg_12_5 : (Cond.selects RX1 yX1_fill yX1_fill) ∈ BIG := bgr_12 (List.mem_of_getElem? (i := 5) rfl)
theorem bg_12_6 : (Cond.code yX1_fill cX1_fill 6 none) ∈ BIG := bgr_12 (List.mem_of_getElem? (i := 6) rfl)
theorem bg_12_7 : (Cond.static yX7_byteOf) ∈ BIG := bgr_12 (List.mem_of_getElem? (i := 7) rfl)
theorem bg_12_8 : (Cond.code yX7_byteOf cX7_byteOf 2 (some .int)) ∈ BIG := bgr_12 (List.mem_of_getElem? (i := 8) rfl)
theorem bg_12_9 : (Cond.methodLink RL 88 yX8_change) ∈ BIG := bgr_12 (List.mem_of_getElem? (i := 9) rfl)
theorem bg_12_10 : (Cond.instanceMethod yX8_change) ∈ BIG := bgr_12 (List.mem_of_getElem? (i := 10) rfl)
theorem bg_12_11 : (Cond.selects RX8 yX8_change yX8_change) ∈ BIG := bgr_12 (List.mem_of_getElem? (i := 11) rfl)
theorem bg_12_12 : (Cond.code yX8_change cX8_change 7 (some .int)) ∈ BIG := bgr_12 (List.mem_of_getElem? (i := 12) rfl)
theorem bg_12_13 : (Cond.methodLink RL 89 yL_user) ∈ BIG := bgr_12 (List.mem_of_getElem? (i := 13) rfl)
theorem bg_12_14 : (Cond.static yL_user) ∈ BIG := bgr_12 (List.mem_of_getElem? (i := 14) rfl)
theorem bg_12_15 : (Cond.codeWith yL_user cL_user 5 (some .int) [(0, 7, 10, 13)]) ∈ BIG := bgr_12 (List.mem_of_getElem? (i := 15) rfl)
theorem bg_12_16 : (Cond.methodLink RL 19 yX7_user) ∈ BIG := bgr_12 (List.mem_of_getElem? (i := 16) rfl)
theorem bg_12_17 : (Cond.instanceMethod yX7_user) ∈ BIG := bgr_12 (List.mem_of_getElem? (i := 17) rfl)
theorem bg_12_18 : (Cond.selects RX7 yX7_user yX7_user) ∈ BIG := bgr_12 (List.mem_of_getElem? (i := 18) rfl)
theorem bg_12_19 : (Cond.code yX7_user cX7_user 4 none) ∈ BIG := bgr_12 (List.mem_of_getElem? (i := 19) rfl)
theorem bg_12_20 : (Cond.methodLink RX7 121 yX7_isUser) ∈ BIG := bgr_12 (List.mem_of_getElem? (i := 20) rfl)
theorem bg_12_21 : (Cond.static yX7_isUser) ∈ BIG := bgr_12 (List.mem_of_getElem? (i := 21) rfl)
theorem bg_12_22 : (Cond.code yX7_isUser cX7_isUser 1 (some .boolean)) ∈ BIG := bgr_12 (List.mem_of_getElem? (i := 22) rfl)
theorem bg_12_23 : (Cond.methodLink RX7 125 yX6_tell) ∈ BIG := bgr_12 (List.mem_of_getElem? (i := 23) rfl)
theorem bg_13_0 : (Cond.instanceMethod yX6_tell) ∈ BIG := bgr_13 (List.mem_of_getElem? (i := 0) rfl)
theorem bg_13_1 : (Cond.selects RX6 yX6_tell yX6_tell) ∈ BIG := bgr_13 (List.mem_of_getElem? (i := 1) rfl)
theorem bg_13_2 : (Cond.code yX6_tell cX6_tell 3 none) ∈ BIG := bgr_13 (List.mem_of_getElem? (i := 2) rfl)
theorem bg_13_3 : (Cond.methodLink RL 92 yX8_user) ∈ BIG := bgr_13 (List.mem_of_getElem? (i := 3) rfl)
theorem bg_13_4 : (Cond.instanceMethod yX8_user) ∈ BIG := bgr_13 (List.mem_of_getElem? (i := 4) rfl)
theorem bg_13_5 : (Cond.selects RX8 yX8_user yX8_user) ∈ BIG := bgr_13 (List.mem_of_getElem? (i := 5) rfl)
theorem bg_13_6 : (Cond.code yX8_user cX8_user 4 none) ∈ BIG := bgr_13 (List.mem_of_getElem? (i := 6) rfl)
theorem bg_13_7 : (Cond.constantLong RX8 236 (7)) ∈ BIG := bgr_13 (List.mem_of_getElem? (i := 7) rfl)
theorem bg_13_8 : (Cond.methodLink RL 93 yL_login) ∈ BIG := bgr_13 (List.mem_of_getElem? (i := 8) rfl)
theorem bg_13_9 : (Cond.static yL_login) ∈ BIG := bgr_13 (List.mem_of_getElem? (i := 9) rfl)
theorem bg_13_10 : (Cond.codeWith yL_login cL_login 6 (some .int) [(0, 12, 15, 13)]) ∈ BIG := bgr_13 (List.mem_of_getElem? (i := 10) rfl)
theorem bg_13_11 : (Cond.methodLink RL 23 yX7_login) ∈ BIG := bgr_13 (List.mem_of_getElem? (i := 11) rfl)
theorem bg_13_12 : (Cond.instanceMethod yX7_login) ∈ BIG := bgr_13 (List.mem_of_getElem? (i := 12) rfl)
theorem bg_13_13 : (Cond.selects RX7 yX7_login yX7_login) ∈ BIG := bgr_13 (List.mem_of_getElem? (i := 13) rfl)
theorem bg_13_14 : (Cond.code yX7_login cX7_login 5 (some .int)) ∈ BIG := bgr_13 (List.mem_of_getElem? (i := 14) rfl)
theorem bg_13_15 : (Cond.methodLink RX7 129 yX6_knows) ∈ BIG := bgr_13 (List.mem_of_getElem? (i := 15) rfl)
theorem bg_13_16 : (Cond.instanceMethod yX6_knows) ∈ BIG := bgr_13 (List.mem_of_getElem? (i := 16) rfl)
theorem bg_13_17 : (Cond.selects RX6 yX6_knows yX6_knows) ∈ BIG := bgr_13 (List.mem_of_getElem? (i := 17) rfl)
theorem bg_13_18 : (Cond.code yX6_knows cX6_knows 3 (some .boolean)) ∈ BIG := bgr_13 (List.mem_of_getElem? (i := 18) rfl)
theorem bg_13_19 : (Cond.methodLink RX7 133 yX7_endStaleSessions) ∈ BIG := bgr_13 (List.mem_of_getElem? (i := 19) rfl)
theorem bg_13_20 : (Cond.instanceMethod yX7_endStaleSessions) ∈ BIG := bgr_13 (List.mem_of_getElem? (i := 20) rfl)
theorem bg_13_21 : (Cond.selects RX7 yX7_endStaleSessions yX7_endStaleSessions) ∈ BIG := bgr_13 (List.mem_of_getElem? (i := 21) rfl)
theorem bg_13_22 : (Cond.code yX7_endStaleSessions cX7_endStaleSessions 2 none) ∈ BIG := bgr_13 (List.mem_of_getElem? (i := 22) rfl)
theorem bg_13_23 : (Cond.methodLink RX7 224 yX7_isOld) ∈ BIG := bgr_13 (List.mem_of_getElem? (i := 23) rfl)
theorem bg_14_0 : (Cond.instanceMethod yX7_isOld) ∈ BIG := bgr_14 (List.mem_of_getElem? (i := 0) rfl)
theorem bg_14_1 : (Cond.selects RX7 yX7_isOld yX7_isOld) ∈ BIG := bgr_14 (List.mem_of_getElem? (i := 1) rfl)
theorem bg_14_2 : (Cond.code yX7_isOld cX7_isOld 2 (some .boolean)) ∈ BIG := bgr_14 (List.mem_of_getElem? (i := 2) rfl)
theorem bg_14_3 : (Cond.methodLink RX7 228 yX7_isIdle) ∈ BIG := bgr_14 (List.mem_of_getElem? (i := 3) rfl)
theorem bg_14_4 : (Cond.instanceMethod yX7_isIdle) ∈ BIG := bgr_14 (List.mem_of_getElem? (i := 4) rfl)
theorem bg_14_5 : (Cond.selects RX7 yX7_isIdle yX7_isIdle) ∈ BIG := bgr_14 (List.mem_of_getElem? (i := 5) rfl)
theorem bg_14_6 : (Cond.code yX7_isIdle cX7_isIdle 2 (some .boolean)) ∈ BIG := bgr_14 (List.mem_of_getElem? (i := 6) rfl)
theorem bg_14_7 : (Cond.methodLink RX7 136 yX7_freeNumber) ∈ BIG := bgr_14 (List.mem_of_getElem? (i := 7) rfl)
theorem bg_14_8 : (Cond.instanceMethod yX7_freeNumber) ∈ BIG := bgr_14 (List.mem_of_getElem? (i := 8) rfl)
theorem bg_14_9 : (Cond.selects RX7 yX7_freeNumber yX7_freeNumber) ∈ BIG := bgr_14 (List.mem_of_getElem? (i := 9) rfl)
theorem bg_14_10 : (Cond.code yX7_freeNumber cX7_freeNumber 2 (some .int)) ∈ BIG := bgr_14 (List.mem_of_getElem? (i := 10) rfl)
theorem bg_14_11 : (Cond.methodLink RX7 140 yX7_nextId) ∈ BIG := bgr_14 (List.mem_of_getElem? (i := 11) rfl)
theorem bg_14_12 : (Cond.instanceMethod yX7_nextId) ∈ BIG := bgr_14 (List.mem_of_getElem? (i := 12) rfl)
theorem bg_14_13 : (Cond.selects RX7 yX7_nextId yX7_nextId) ∈ BIG := bgr_14 (List.mem_of_getElem? (i := 13) rfl)
theorem bg_14_14 : (Cond.code yX7_nextId cX7_nextId 1 (some .long)) ∈ BIG := bgr_14 (List.mem_of_getElem? (i := 14) rfl)
theorem bg_14_15 : (Cond.methodLink RX7 217 yX3_compute) ∈ BIG := bgr_14 (List.mem_of_getElem? (i := 15) rfl)
theorem bg_14_16 : (Cond.instanceMethod yX3_compute) ∈ BIG := bgr_14 (List.mem_of_getElem? (i := 16) rfl)
theorem bg_14_17 : (Cond.selects RX3 yX3_compute yX3_compute) ∈ BIG := bgr_14 (List.mem_of_getElem? (i := 17) rfl)
theorem bg_14_18 : (Cond.code yX3_compute cX3_compute 4 none) ∈ BIG := bgr_14 (List.mem_of_getElem? (i := 18) rfl)
theorem bg_14_19 : (Cond.methodLink RX3 22 yX3_fillBlocks) ∈ BIG := bgr_14 (List.mem_of_getElem? (i := 19) rfl)
theorem bg_14_20 : (Cond.instanceMethod yX3_fillBlocks) ∈ BIG := bgr_14 (List.mem_of_getElem? (i := 20) rfl)
theorem bg_14_21 : (Cond.selects RX3 yX3_fillBlocks yX3_fillBlocks) ∈ BIG := bgr_14 (List.mem_of_getElem? (i := 21) rfl)
theorem bg_14_22 : (Cond.code yX3_fillBlocks cX3_fillBlocks 6 none) ∈ BIG := bgr_14 (List.mem_of_getElem? (i := 22) rfl)
theorem bg_14_23 : (Cond.methodLink RX3 26 yX3_hashBlocks) ∈ BIG := bgr_14 (List.mem_of_getElem? (i := 23) rfl)
theorem bg_15_0 : (Cond.instanceMethod yX3_hashBlocks) ∈ BIG := bgr_15 (List.mem_of_getElem? (i := 0) rfl)
theorem bg_15_1 : (Cond.selects RX3 yX3_hashBlocks yX3_hashBlocks) ∈ BIG := bgr_15 (List.mem_of_getElem? (i := 1) rfl)
theorem bg_15_2 : (Cond.code yX3_hashBlocks cX3_hashBlocks 2 none) ∈ BIG := bgr_15 (List.mem_of_getElem? (i := 2) rfl)
theorem bg_15_3 : (Cond.fieldLink RX3 29 "SessionGate$Mac" "START" "[I") ∈ BIG := bgr_15 (List.mem_of_getElem? (i := 3) rfl)
theorem bg_15_4 : (Cond.methodLink RX3 32 arraycopyName) ∈ BIG := bgr_15 (List.mem_of_getElem? (i := 4) rfl)
theorem bg_15_5 : (Cond.native arraycopyName) ∈ BIG := bgr_15 (List.mem_of_getElem? (i := 5) rfl)
theorem bg_15_6 : (Cond.static arraycopyName) ∈ BIG := bgr_15 (List.mem_of_getElem? (i := 6) rfl)
theorem bg_15_7 : (Cond.initialized "java/lang/System") ∈ BIG := bgr_15 (List.mem_of_getElem? (i := 7) rfl)
theorem bg_15_8 : (Cond.methodLink RX3 38 yX3_fillSchedule) ∈ BIG := bgr_15 (List.mem_of_getElem? (i := 8) rfl)
theorem bg_15_9 : (Cond.instanceMethod yX3_fillSchedule) ∈ BIG := bgr_15 (List.mem_of_getElem? (i := 9) rfl)
theorem bg_15_10 : (Cond.selects RX3 yX3_fillSchedule yX3_fillSchedule) ∈ BIG := bgr_15 (List.mem_of_getElem? (i := 10) rfl)
theorem bg_15_11 : (Cond.code yX3_fillSchedule cX3_fillSchedule 7 none) ∈ BIG := bgr_15 (List.mem_of_getElem? (i := 11) rfl)
theorem bg_15_12 : (Cond.methodLink RX3 51 yX3_turn) ∈ BIG := bgr_15 (List.mem_of_getElem? (i := 12) rfl)
theorem bg_15_13 : (Cond.static yX3_turn) ∈ BIG := bgr_15 (List.mem_of_getElem? (i := 13) rfl)
theorem bg_15_14 : (Cond.code yX3_turn cX3_turn 2 (some .int)) ∈ BIG := bgr_15 (List.mem_of_getElem? (i := 14) rfl)
theorem bg_15_15 : (Cond.methodLink RX3 42 yX3_mixSchedule) ∈ BIG := bgr_15 (List.mem_of_getElem? (i := 15) rfl)
theorem bg_15_16 : (Cond.instanceMethod yX3_mixSchedule) ∈ BIG := bgr_15 (List.mem_of_getElem? (i := 16) rfl)
theorem bg_15_17 : (Cond.selects RX3 yX3_mixSchedule yX3_mixSchedule) ∈ BIG := bgr_15 (List.mem_of_getElem? (i := 17) rfl)
theorem bg_15_18 : (Cond.code yX3_mixSchedule cX3_mixSchedule 14 none) ∈ BIG := bgr_15 (List.mem_of_getElem? (i := 18) rfl)
theorem bg_15_19 : (Cond.fieldLink RX3 54 "SessionGate$Mac" "ROUNDS" "[I") ∈ BIG := bgr_15 (List.mem_of_getElem? (i := 19) rfl)
theorem bg_15_20 : (Cond.methodLink RX7 231 yX7_readLong) ∈ BIG := bgr_15 (List.mem_of_getElem? (i := 20) rfl)
theorem bg_15_21 : (Cond.static yX7_readLong) ∈ BIG := bgr_15 (List.mem_of_getElem? (i := 21) rfl)
theorem bg_15_22 : (Cond.code yX7_readLong cX7_readLong 5 (some .long)) ∈ BIG := bgr_15 (List.mem_of_getElem? (i := 22) rfl)
theorem bg_15_23 : (Cond.methodLink RX7 144 yX4_begin) ∈ BIG := bgr_15 (List.mem_of_getElem? (i := 23) rfl)
theorem bg_16_0 : (Cond.instanceMethod yX4_begin) ∈ BIG := bgr_16 (List.mem_of_getElem? (i := 0) rfl)
theorem bg_16_1 : (Cond.selects RX4 yX4_begin yX4_begin) ∈ BIG := bgr_16 (List.mem_of_getElem? (i := 1) rfl)
theorem bg_16_2 : (Cond.code yX4_begin cX4_begin 6 none) ∈ BIG := bgr_16 (List.mem_of_getElem? (i := 2) rfl)
theorem bg_16_3 : (Cond.methodLink RX7 148 yX7_writeTexts) ∈ BIG := bgr_16 (List.mem_of_getElem? (i := 3) rfl)
theorem bg_16_4 : (Cond.instanceMethod yX7_writeTexts) ∈ BIG := bgr_16 (List.mem_of_getElem? (i := 4) rfl)
theorem bg_16_5 : (Cond.selects RX7 yX7_writeTexts yX7_writeTexts) ∈ BIG := bgr_16 (List.mem_of_getElem? (i := 5) rfl)
theorem bg_16_6 : (Cond.code yX7_writeTexts cX7_writeTexts 3 none) ∈ BIG := bgr_16 (List.mem_of_getElem? (i := 6) rfl)
theorem bg_16_7 : (Cond.methodLink RX7 261 arraycopyName) ∈ BIG := bgr_16 (List.mem_of_getElem? (i := 7) rfl)
theorem bg_16_8 : (Cond.methodLink RX7 267 yX0_encode) ∈ BIG := bgr_16 (List.mem_of_getElem? (i := 8) rfl)
theorem bg_16_9 : (Cond.static yX0_encode) ∈ BIG := bgr_16 (List.mem_of_getElem? (i := 9) rfl)
theorem bg_16_10 : (Cond.initialized RX0) ∈ BIG := bgr_16 (List.mem_of_getElem? (i := 10) rfl)
theorem bg_16_11 : (Cond.code yX0_encode cX0_encode 9 none) ∈ BIG := bgr_16 (List.mem_of_getElem? (i := 11) rfl)
theorem bg_16_12 : (Cond.methodLink RX0 19 yJ0_charAt_5068e) ∈ BIG := bgr_16 (List.mem_of_getElem? (i := 12) rfl)
theorem bg_16_13 : (Cond.instanceMethod yJ0_charAt_5068e) ∈ BIG := bgr_16 (List.mem_of_getElem? (i := 13) rfl)
theorem bg_16_14 : (Cond.selects RJ0 yJ0_charAt_5068e yJ0_charAt_5068e) ∈ BIG := bgr_16 (List.mem_of_getElem? (i := 14) rfl)
theorem bg_16_15 : (Cond.initialized RJ0) ∈ BIG := bgr_16 (List.mem_of_getElem? (i := 15) rfl)
theorem bg_16_16 : (Cond.code yJ0_charAt_5068e cJ0_charAt_5068e 2 (some .char)) ∈ BIG := bgr_16 (List.mem_of_getElem? (i := 16) rfl)
theorem bg_16_17 : (Cond.fieldLink RJ0 9 "java/lang/String" "value" "[B") ∈ BIG := bgr_16 (List.mem_of_getElem? (i := 17) rfl)
theorem bg_16_18 : (Cond.methodLink RJ0 492 yJ0_isLatin1_aae02) ∈ BIG := bgr_16 (List.mem_of_getElem? (i := 18) rfl)
theorem bg_16_19 : (Cond.instanceMethod yJ0_isLatin1_aae02) ∈ BIG := bgr_16 (List.mem_of_getElem? (i := 19) rfl)
theorem bg_16_20 : (Cond.selects RJ0 yJ0_isLatin1_aae02 yJ0_isLatin1_aae02) ∈ BIG := bgr_16 (List.mem_of_getElem? (i := 20) rfl)
theorem bg_16_21 : (Cond.code yJ0_isLatin1_aae02 cJ0_isLatin1_aae02 1 (some .boolean)) ∈ BIG := bgr_16 (List.mem_of_getElem? (i := 21) rfl)
theorem bg_16_22 : (Cond.fieldLink RJ0 38 "java/lang/String" "COMPACT_STRINGS" "Z") ∈ BIG := bgr_16 (List.mem_of_getElem? (i := 22) rfl)
theorem bg_16_23 : (Cond.fieldLink RJ0 15 "java/lang/String" "coder" "B") ∈ BIG := bgr_16 (List.mem_of_getElem? (i := 23) rfl)
theorem bg_17_0 : (Cond.methodLink RJ0 495 yJ1_charAt_3b067) ∈ BIG := bgr_17 (List.mem_of_getElem? (i := 0) rfl)
theorem bg_17_1 : (Cond.static yJ1_charAt_3b067) ∈ BIG := bgr_17 (List.mem_of_getElem? (i := 1) rfl)
theorem bg_17_2 : (Cond.initialized RJ1) ∈ BIG := bgr_17 (List.mem_of_getElem? (i := 2) rfl)
theorem bg_17_3 : (Cond.code yJ1_charAt_3b067 cJ1_charAt_3b067 2 (some .char)) ∈ BIG := bgr_17 (List.mem_of_getElem? (i := 3) rfl)
theorem bg_17_4 : (Cond.methodLink RJ1 9 yJ0_checkIndex_df160) ∈ BIG := bgr_17 (List.mem_of_getElem? (i := 4) rfl)
theorem bg_17_5 : (Cond.static yJ0_checkIndex_df160) ∈ BIG := bgr_17 (List.mem_of_getElem? (i := 5) rfl)
theorem bg_17_6 : (Cond.code yJ0_checkIndex_df160 cJ0_checkIndex_df160 2 none) ∈ BIG := bgr_17 (List.mem_of_getElem? (i := 6) rfl)
theorem bg_17_7 : (Cond.fieldLink RJ0 1053 "jdk/internal/util/Preconditions" "SIOOBE_FORMATTER" "Ljava/util/function/BiFunction;") ∈ BIG := bgr_17 (List.mem_of_getElem? (i := 7) rfl)
theorem bg_17_8 : (Cond.methodLink RJ0 1059 yJ3_checkIndex_8e157) ∈ BIG := bgr_17 (List.mem_of_getElem? (i := 8) rfl)
theorem bg_17_9 : (Cond.static yJ3_checkIndex_8e157) ∈ BIG := bgr_17 (List.mem_of_getElem? (i := 9) rfl)
theorem bg_17_10 : (Cond.initialized RJ3) ∈ BIG := bgr_17 (List.mem_of_getElem? (i := 10) rfl)
theorem bg_17_11 : (Cond.code yJ3_checkIndex_8e157 cJ3_checkIndex_8e157 3 (some .int)) ∈ BIG := bgr_17 (List.mem_of_getElem? (i := 11) rfl)
theorem bg_17_12 : (Cond.methodLink RJ0 498 yJ2_charAt_3b067) ∈ BIG := bgr_17 (List.mem_of_getElem? (i := 12) rfl)
theorem bg_17_13 : (Cond.static yJ2_charAt_3b067) ∈ BIG := bgr_17 (List.mem_of_getElem? (i := 13) rfl)
theorem bg_17_14 : (Cond.initialized RJ2) ∈ BIG := bgr_17 (List.mem_of_getElem? (i := 14) rfl)
theorem bg_17_15 : (Cond.code yJ2_charAt_3b067 cJ2_charAt_3b067 2 (some .char)) ∈ BIG := bgr_17 (List.mem_of_getElem? (i := 15) rfl)
theorem bg_17_16 : (Cond.methodLink RJ2 67 yJ2_checkIndex_2214a) ∈ BIG := bgr_17 (List.mem_of_getElem? (i := 16) rfl)
theorem bg_17_17 : (Cond.static yJ2_checkIndex_2214a) ∈ BIG := bgr_17 (List.mem_of_getElem? (i := 17) rfl)
theorem bg_17_18 : (Cond.code yJ2_checkIndex_2214a cJ2_checkIndex_2214a 2 none) ∈ BIG := bgr_17 (List.mem_of_getElem? (i := 18) rfl)
theorem bg_17_19 : (Cond.methodLink RJ2 48 yJ2_length_9d52b) ∈ BIG := bgr_17 (List.mem_of_getElem? (i := 19) rfl)
theorem bg_17_20 : (Cond.static yJ2_length_9d52b) ∈ BIG := bgr_17 (List.mem_of_getElem? (i := 20) rfl)
theorem bg_17_21 : (Cond.code yJ2_length_9d52b cJ2_length_9d52b 1 (some .int)) ∈ BIG := bgr_17 (List.mem_of_getElem? (i := 21) rfl)
theorem bg_17_22 : (Cond.methodLink RJ2 414 yJ0_checkIndex_df160) ∈ BIG := bgr_17 (List.mem_of_getElem? (i := 22) rfl)
theorem bg_17_23 : (Cond.methodLink RJ2 71 yJ2_getChar_3b067) ∈ BIG := bgr_17 (List.mem_of_getElem? (i := 23) rfl)
theorem bg_18_0 : (Cond.static yJ2_getChar_3b067) ∈ BIG := bgr_18 (List.mem_of_getElem? (i := 0) rfl)
theorem bg_18_1 : (Cond.code yJ2_getChar_3b067 cJ2_getChar_3b067 2 (some .char)) ∈ BIG := bgr_18 (List.mem_of_getElem? (i := 1) rfl)
theorem bg_18_2 : (Cond.fieldLink RJ2 44 "java/lang/StringUTF16" "$assertionsDisabled" "Z") ∈ BIG := bgr_18 (List.mem_of_getElem? (i := 2) rfl)
theorem bg_18_3 : (Cond.fieldLink RJ2 59 "java/lang/StringUTF16" "HI_BYTE_SHIFT" "I") ∈ BIG := bgr_18 (List.mem_of_getElem? (i := 3) rfl)
theorem bg_18_4 : (Cond.fieldLink RJ2 63 "java/lang/StringUTF16" "LO_BYTE_SHIFT" "I") ∈ BIG := bgr_18 (List.mem_of_getElem? (i := 4) rfl)
theorem bg_18_5 : (Cond.methodLink RX0 25 yX5_addSign) ∈ BIG := bgr_18 (List.mem_of_getElem? (i := 5) rfl)
theorem bg_18_6 : (Cond.instanceMethod yX5_addSign) ∈ BIG := bgr_18 (List.mem_of_getElem? (i := 6) rfl)
theorem bg_18_7 : (Cond.selects RX5 yX5_addSign yX5_addSign) ∈ BIG := bgr_18 (List.mem_of_getElem? (i := 7) rfl)
theorem bg_18_8 : (Cond.code yX5_addSign cX5_addSign 2 none) ∈ BIG := bgr_18 (List.mem_of_getElem? (i := 8) rfl)
theorem bg_18_9 : (Cond.methodLink RX7 253 yX7_writeToken) ∈ BIG := bgr_18 (List.mem_of_getElem? (i := 9) rfl)
theorem bg_18_10 : (Cond.instanceMethod yX7_writeToken) ∈ BIG := bgr_18 (List.mem_of_getElem? (i := 10) rfl)
theorem bg_18_11 : (Cond.selects RX7 yX7_writeToken yX7_writeToken) ∈ BIG := bgr_18 (List.mem_of_getElem? (i := 11) rfl)
theorem bg_18_12 : (Cond.code yX7_writeToken cX7_writeToken 3 none) ∈ BIG := bgr_18 (List.mem_of_getElem? (i := 12) rfl)
theorem bg_18_13 : (Cond.methodLink RL 96 yX8_login) ∈ BIG := bgr_18 (List.mem_of_getElem? (i := 13) rfl)
theorem bg_18_14 : (Cond.instanceMethod yX8_login) ∈ BIG := bgr_18 (List.mem_of_getElem? (i := 14) rfl)
theorem bg_18_15 : (Cond.selects RX8 yX8_login yX8_login) ∈ BIG := bgr_18 (List.mem_of_getElem? (i := 15) rfl)
theorem bg_18_16 : (Cond.code yX8_login cX8_login 6 (some .int)) ∈ BIG := bgr_18 (List.mem_of_getElem? (i := 16) rfl)
theorem bg_18_17 : (Cond.methodLink RX8 238 yX8_isOld) ∈ BIG := bgr_18 (List.mem_of_getElem? (i := 17) rfl)
theorem bg_18_18 : (Cond.instanceMethod yX8_isOld) ∈ BIG := bgr_18 (List.mem_of_getElem? (i := 18) rfl)
theorem bg_18_19 : (Cond.selects RX8 yX8_isOld yX8_isOld) ∈ BIG := bgr_18 (List.mem_of_getElem? (i := 19) rfl)
theorem bg_18_20 : (Cond.code yX8_isOld cX8_isOld 2 (some .boolean)) ∈ BIG := bgr_18 (List.mem_of_getElem? (i := 20) rfl)
theorem bg_18_21 : (Cond.methodLink RX8 241 yX8_isIdle) ∈ BIG := bgr_18 (List.mem_of_getElem? (i := 21) rfl)
theorem bg_18_22 : (Cond.instanceMethod yX8_isIdle) ∈ BIG := bgr_18 (List.mem_of_getElem? (i := 22) rfl)
theorem bg_18_23 : (Cond.selects RX8 yX8_isIdle yX8_isIdle) ∈ BIG := bgr_18 (List.mem_of_getElem? (i := 23) rfl)
theorem bg_19_0 : (Cond.code yX8_isIdle cX8_isIdle 2 (some .boolean)) ∈ BIG := bgr_19 (List.mem_of_getElem? (i := 0) rfl)
theorem bg_19_1 : (Cond.methodLink RX8 244 yX8_newId) ∈ BIG := bgr_19 (List.mem_of_getElem? (i := 1) rfl)
theorem bg_19_2 : (Cond.instanceMethod yX8_newId) ∈ BIG := bgr_19 (List.mem_of_getElem? (i := 2) rfl)
theorem bg_19_3 : (Cond.selects RX8 yX8_newId yX8_newId) ∈ BIG := bgr_19 (List.mem_of_getElem? (i := 3) rfl)
theorem bg_19_4 : (Cond.code yX8_newId cX8_newId 4 (some .long)) ∈ BIG := bgr_19 (List.mem_of_getElem? (i := 4) rfl)
theorem bg_19_5 : (Cond.constantLong RX8 189 (255)) ∈ BIG := bgr_19 (List.mem_of_getElem? (i := 5) rfl)
theorem bg_19_6 : (Cond.fieldLink RX8 180 "SessionGateModel" "saidSize" "I") ∈ BIG := bgr_19 (List.mem_of_getElem? (i := 6) rfl)
theorem bg_19_7 : (Cond.methodLink RX8 194 yX8_say) ∈ BIG := bgr_19 (List.mem_of_getElem? (i := 7) rfl)
theorem bg_19_8 : (Cond.instanceMethod yX8_say) ∈ BIG := bgr_19 (List.mem_of_getElem? (i := 8) rfl)
theorem bg_19_9 : (Cond.selects RX8 yX8_say yX8_say) ∈ BIG := bgr_19 (List.mem_of_getElem? (i := 9) rfl)
theorem bg_19_10 : (Cond.code yX8_say cX8_say 2 none) ∈ BIG := bgr_19 (List.mem_of_getElem? (i := 10) rfl)
theorem bg_19_11 : (Cond.methodLink RX8 197 yX8_seal) ∈ BIG := bgr_19 (List.mem_of_getElem? (i := 11) rfl)
theorem bg_19_12 : (Cond.instanceMethod yX8_seal) ∈ BIG := bgr_19 (List.mem_of_getElem? (i := 12) rfl)
theorem bg_19_13 : (Cond.selects RX8 yX8_seal yX8_seal) ∈ BIG := bgr_19 (List.mem_of_getElem? (i := 13) rfl)
theorem bg_19_14 : (Cond.code yX8_seal cX8_seal 2 none) ∈ BIG := bgr_19 (List.mem_of_getElem? (i := 14) rfl)
theorem bg_19_15 : (Cond.fieldLink RX8 173 "SessionGateModel" "messageSize" "I") ∈ BIG := bgr_19 (List.mem_of_getElem? (i := 15) rfl)
theorem bg_19_16 : (Cond.methodLink RX8 183 yX8_hashNow) ∈ BIG := bgr_19 (List.mem_of_getElem? (i := 16) rfl)
theorem bg_19_17 : (Cond.instanceMethod yX8_hashNow) ∈ BIG := bgr_19 (List.mem_of_getElem? (i := 17) rfl)
theorem bg_19_18 : (Cond.selects RX8 yX8_hashNow yX8_hashNow) ∈ BIG := bgr_19 (List.mem_of_getElem? (i := 18) rfl)
theorem bg_19_19 : (Cond.code yX8_hashNow cX8_hashNow 4 none) ∈ BIG := bgr_19 (List.mem_of_getElem? (i := 19) rfl)
theorem bg_19_20 : (Cond.methodLink RX8 176 yX8_block) ∈ BIG := bgr_19 (List.mem_of_getElem? (i := 20) rfl)
theorem bg_19_21 : (Cond.instanceMethod yX8_block) ∈ BIG := bgr_19 (List.mem_of_getElem? (i := 21) rfl)
theorem bg_19_22 : (Cond.selects RX8 yX8_block yX8_block) ∈ BIG := bgr_19 (List.mem_of_getElem? (i := 22) rfl)
theorem bg_19_23 : (Cond.code yX8_block cX8_block 13 none) ∈ BIG := bgr_19 (List.mem_of_getElem? (i := 23) rfl)
theorem bg_20_0 : (Cond.methodLink RX8 169 yX8_turn) ∈ BIG := bgr_20 (List.mem_of_getElem? (i := 0) rfl)
theorem bg_20_1 : (Cond.static yX8_turn) ∈ BIG := bgr_20 (List.mem_of_getElem? (i := 1) rfl)
theorem bg_20_2 : (Cond.code yX8_turn cX8_turn 2 (some .int)) ∈ BIG := bgr_20 (List.mem_of_getElem? (i := 2) rfl)
theorem bg_20_3 : (Cond.methodLink RX8 248 yX8_issue) ∈ BIG := bgr_20 (List.mem_of_getElem? (i := 3) rfl)
theorem bg_20_4 : (Cond.instanceMethod yX8_issue) ∈ BIG := bgr_20 (List.mem_of_getElem? (i := 4) rfl)
theorem bg_20_5 : (Cond.selects RX8 yX8_issue yX8_issue) ∈ BIG := bgr_20 (List.mem_of_getElem? (i := 5) rfl)
theorem bg_20_6 : (Cond.code yX8_issue cX8_issue 4 none) ∈ BIG := bgr_20 (List.mem_of_getElem? (i := 6) rfl)
theorem bg_20_7 : (Cond.methodLink RX8 211 yX8_body) ∈ BIG := bgr_20 (List.mem_of_getElem? (i := 7) rfl)
theorem bg_20_8 : (Cond.instanceMethod yX8_body) ∈ BIG := bgr_20 (List.mem_of_getElem? (i := 8) rfl)
theorem bg_20_9 : (Cond.selects RX8 yX8_body yX8_body) ∈ BIG := bgr_20 (List.mem_of_getElem? (i := 9) rfl)
theorem bg_20_10 : (Cond.code yX8_body cX8_body 6 none) ∈ BIG := bgr_20 (List.mem_of_getElem? (i := 10) rfl)
theorem bg_20_11 : (Cond.methodLink RX8 207 yX8_sealBody) ∈ BIG := bgr_20 (List.mem_of_getElem? (i := 11) rfl)
theorem bg_20_12 : (Cond.instanceMethod yX8_sealBody) ∈ BIG := bgr_20 (List.mem_of_getElem? (i := 12) rfl)
theorem bg_20_13 : (Cond.selects RX8 yX8_sealBody yX8_sealBody) ∈ BIG := bgr_20 (List.mem_of_getElem? (i := 13) rfl)
theorem bg_20_14 : (Cond.code yX8_sealBody cX8_sealBody 4 none) ∈ BIG := bgr_20 (List.mem_of_getElem? (i := 14) rfl)
theorem bg_20_15 : (Cond.methodLink RX8 204 yX8_takeKey) ∈ BIG := bgr_20 (List.mem_of_getElem? (i := 15) rfl)
theorem bg_20_16 : (Cond.instanceMethod yX8_takeKey) ∈ BIG := bgr_20 (List.mem_of_getElem? (i := 16) rfl)
theorem bg_20_17 : (Cond.selects RX8 yX8_takeKey yX8_takeKey) ∈ BIG := bgr_20 (List.mem_of_getElem? (i := 17) rfl)
theorem bg_20_18 : (Cond.code yX8_takeKey cX8_takeKey 3 none) ∈ BIG := bgr_20 (List.mem_of_getElem? (i := 18) rfl)
theorem bg_20_19 : (Cond.methodLink RX8 215 yX8_codedAt) ∈ BIG := bgr_20 (List.mem_of_getElem? (i := 19) rfl)
theorem bg_20_20 : (Cond.instanceMethod yX8_codedAt) ∈ BIG := bgr_20 (List.mem_of_getElem? (i := 20) rfl)
theorem bg_20_21 : (Cond.selects RX8 yX8_codedAt yX8_codedAt) ∈ BIG := bgr_20 (List.mem_of_getElem? (i := 21) rfl)
theorem bg_20_22 : (Cond.code yX8_codedAt cX8_codedAt 5 (some .int)) ∈ BIG := bgr_20 (List.mem_of_getElem? (i := 22) rfl)
theorem bg_20_23 : (Cond.methodLink RX8 200 yX8_signOf) ∈ BIG := bgr_20 (List.mem_of_getElem? (i := 23) rfl)
theorem bg_21_0 : (Cond.static yX8_signOf) ∈ BIG := bgr_21 (List.mem_of_getElem? (i := 0) rfl)
theorem bg_21_1 : (Cond.code yX8_signOf cX8_signOf 1 (some .int)) ∈ BIG := bgr_21 (List.mem_of_getElem? (i := 1) rfl)
theorem bg_21_2 : (Cond.methodLink RX8 218 yX8_token) ∈ BIG := bgr_21 (List.mem_of_getElem? (i := 2) rfl)
theorem bg_21_3 : (Cond.instanceMethod yX8_token) ∈ BIG := bgr_21 (List.mem_of_getElem? (i := 3) rfl)
theorem bg_21_4 : (Cond.selects RX8 yX8_token yX8_token) ∈ BIG := bgr_21 (List.mem_of_getElem? (i := 4) rfl)
theorem bg_21_5 : (Cond.code yX8_token cX8_token 3 none) ∈ BIG := bgr_21 (List.mem_of_getElem? (i := 5) rfl)
theorem bg_21_6 : (Cond.methodLink RL 97 yX7_request) ∈ BIG := bgr_21 (List.mem_of_getElem? (i := 6) rfl)
theorem bg_21_7 : (Cond.instanceMethod yX7_request) ∈ BIG := bgr_21 (List.mem_of_getElem? (i := 7) rfl)
theorem bg_21_8 : (Cond.selects RX7 yX7_request yX7_request) ∈ BIG := bgr_21 (List.mem_of_getElem? (i := 8) rfl)
theorem bg_21_9 : (Cond.code yX7_request cX7_request 3 (some .int)) ∈ BIG := bgr_21 (List.mem_of_getElem? (i := 9) rfl)
theorem bg_21_10 : (Cond.methodLink RX7 152 yX7_judge) ∈ BIG := bgr_21 (List.mem_of_getElem? (i := 10) rfl)
theorem bg_21_11 : (Cond.instanceMethod yX7_judge) ∈ BIG := bgr_21 (List.mem_of_getElem? (i := 11) rfl)
theorem bg_21_12 : (Cond.selects RX7 yX7_judge yX7_judge) ∈ BIG := bgr_21 (List.mem_of_getElem? (i := 12) rfl)
theorem bg_21_13 : (Cond.code yX7_judge cX7_judge 4 (some .int)) ∈ BIG := bgr_21 (List.mem_of_getElem? (i := 13) rfl)
theorem bg_21_14 : (Cond.methodLink RX7 235 yX0_decodeCookie) ∈ BIG := bgr_21 (List.mem_of_getElem? (i := 14) rfl)
theorem bg_21_15 : (Cond.static yX0_decodeCookie) ∈ BIG := bgr_21 (List.mem_of_getElem? (i := 15) rfl)
theorem bg_21_16 : (Cond.code yX0_decodeCookie cX0_decodeCookie 6 (some .boolean)) ∈ BIG := bgr_21 (List.mem_of_getElem? (i := 16) rfl)
theorem bg_21_17 : (Cond.methodLink RX0 29 yX0_isCookieForm) ∈ BIG := bgr_21 (List.mem_of_getElem? (i := 17) rfl)
theorem bg_21_18 : (Cond.static yX0_isCookieForm) ∈ BIG := bgr_21 (List.mem_of_getElem? (i := 18) rfl)
theorem bg_21_19 : (Cond.code yX0_isCookieForm cX0_isCookieForm 2 (some .boolean)) ∈ BIG := bgr_21 (List.mem_of_getElem? (i := 19) rfl)
theorem bg_21_20 : (Cond.methodLink RX0 37 yX0_sixBits) ∈ BIG := bgr_21 (List.mem_of_getElem? (i := 20) rfl)
theorem bg_21_21 : (Cond.static yX0_sixBits) ∈ BIG := bgr_21 (List.mem_of_getElem? (i := 21) rfl)
theorem bg_21_22 : (Cond.code yX0_sixBits cX0_sixBits 1 (some .int)) ∈ BIG := bgr_21 (List.mem_of_getElem? (i := 22) rfl)
theorem bg_21_23 : (Cond.methodLink RX0 41 yJ0_indexOf_0f7a4) ∈ BIG := bgr_21 (List.mem_of_getElem? (i := 23) rfl)
theorem bg_22_0 : (Cond.instanceMethod yJ0_indexOf_0f7a4) ∈ BIG := bgr_22 (List.mem_of_getElem? (i := 0) rfl)
theorem bg_22_1 : (Cond.selects RJ0 yJ0_indexOf_0f7a4 yJ0_indexOf_0f7a4) ∈ BIG := bgr_22 (List.mem_of_getElem? (i := 1) rfl)
theorem bg_22_2 : (Cond.code yJ0_indexOf_0f7a4 cJ0_indexOf_0f7a4 2 (some .int)) ∈ BIG := bgr_22 (List.mem_of_getElem? (i := 2) rfl)
theorem bg_22_3 : (Cond.methodLink RJ0 633 yJ0_indexOf_7cf53) ∈ BIG := bgr_22 (List.mem_of_getElem? (i := 3) rfl)
theorem bg_22_4 : (Cond.instanceMethod yJ0_indexOf_7cf53) ∈ BIG := bgr_22 (List.mem_of_getElem? (i := 4) rfl)
theorem bg_22_5 : (Cond.selects RJ0 yJ0_indexOf_7cf53 yJ0_indexOf_7cf53) ∈ BIG := bgr_22 (List.mem_of_getElem? (i := 5) rfl)
theorem bg_22_6 : (Cond.code yJ0_indexOf_7cf53 cJ0_indexOf_7cf53 3 (some .int)) ∈ BIG := bgr_22 (List.mem_of_getElem? (i := 6) rfl)
theorem bg_22_7 : (Cond.methodLink RJ0 505 yJ0_length_8abf5) ∈ BIG := bgr_22 (List.mem_of_getElem? (i := 7) rfl)
theorem bg_22_8 : (Cond.instanceMethod yJ0_length_8abf5) ∈ BIG := bgr_22 (List.mem_of_getElem? (i := 8) rfl)
theorem bg_22_9 : (Cond.selects RJ0 yJ0_length_8abf5 yJ0_length_8abf5) ∈ BIG := bgr_22 (List.mem_of_getElem? (i := 9) rfl)
theorem bg_22_10 : (Cond.code yJ0_length_8abf5 cJ0_length_8abf5 1 (some .int)) ∈ BIG := bgr_22 (List.mem_of_getElem? (i := 10) rfl)
theorem bg_22_11 : (Cond.methodLink RJ0 335 yJ0_coder_7d493) ∈ BIG := bgr_22 (List.mem_of_getElem? (i := 11) rfl)
theorem bg_22_12 : (Cond.instanceMethod yJ0_coder_7d493) ∈ BIG := bgr_22 (List.mem_of_getElem? (i := 12) rfl)
theorem bg_22_13 : (Cond.selects RJ0 yJ0_coder_7d493 yJ0_coder_7d493) ∈ BIG := bgr_22 (List.mem_of_getElem? (i := 13) rfl)
theorem bg_22_14 : (Cond.code yJ0_coder_7d493 cJ0_coder_7d493 1 (some .byte)) ∈ BIG := bgr_22 (List.mem_of_getElem? (i := 14) rfl)
theorem bg_22_15 : (Cond.methodLink RJ0 637 yJ1_indexOf_4cfef) ∈ BIG := bgr_22 (List.mem_of_getElem? (i := 15) rfl)
theorem bg_22_16 : (Cond.static yJ1_indexOf_4cfef) ∈ BIG := bgr_22 (List.mem_of_getElem? (i := 16) rfl)
theorem bg_22_17 : (Cond.code yJ1_indexOf_4cfef cJ1_indexOf_4cfef 4 (some .int)) ∈ BIG := bgr_22 (List.mem_of_getElem? (i := 17) rfl)
theorem bg_22_18 : (Cond.methodLink RJ1 92 Lib.Math.max.name) ∈ BIG := bgr_22 (List.mem_of_getElem? (i := 18) rfl)
theorem bg_22_19 : (Cond.static Lib.Math.max.name) ∈ BIG := bgr_22 (List.mem_of_getElem? (i := 19) rfl)
theorem bg_22_20 : (Cond.initialized "java/lang/Math") ∈ BIG := bgr_22 (List.mem_of_getElem? (i := 20) rfl)
theorem bg_22_21 : (Cond.code Lib.Math.max.name Lib.Math.max.code 2 (some .int)) ∈ BIG := bgr_22 (List.mem_of_getElem? (i := 21) rfl)
theorem bg_22_22 : (Cond.methodLink RJ1 38 Lib.Math.min.name) ∈ BIG := bgr_22 (List.mem_of_getElem? (i := 22) rfl)
theorem bg_22_23 : (Cond.static Lib.Math.min.name) ∈ BIG := bgr_22 (List.mem_of_getElem? (i := 23) rfl)
theorem bg_23_0 : (Cond.code Lib.Math.min.name Lib.Math.min.code 2 (some .int)) ∈ BIG := bgr_23 (List.mem_of_getElem? (i := 0) rfl)
theorem bg_23_1 : (Cond.methodLink RJ1 88 yJ1_canEncode_9a6ad) ∈ BIG := bgr_23 (List.mem_of_getElem? (i := 1) rfl)
theorem bg_23_2 : (Cond.static yJ1_canEncode_9a6ad) ∈ BIG := bgr_23 (List.mem_of_getElem? (i := 2) rfl)
theorem bg_23_3 : (Cond.code yJ1_canEncode_9a6ad cJ1_canEncode_9a6ad 1 (some .boolean)) ∈ BIG := bgr_23 (List.mem_of_getElem? (i := 3) rfl)
theorem bg_23_4 : (Cond.methodLink RJ1 95 yJ1_indexOfChar_4cfef) ∈ BIG := bgr_23 (List.mem_of_getElem? (i := 4) rfl)
theorem bg_23_5 : (Cond.static yJ1_indexOfChar_4cfef) ∈ BIG := bgr_23 (List.mem_of_getElem? (i := 5) rfl)
theorem bg_23_6 : (Cond.code yJ1_indexOfChar_4cfef cJ1_indexOfChar_4cfef 6 (some .int)) ∈ BIG := bgr_23 (List.mem_of_getElem? (i := 6) rfl)
theorem bg_23_7 : (Cond.methodLink RJ0 640 yJ2_indexOf_4cfef) ∈ BIG := bgr_23 (List.mem_of_getElem? (i := 7) rfl)
theorem bg_23_8 : (Cond.static yJ2_indexOf_4cfef) ∈ BIG := bgr_23 (List.mem_of_getElem? (i := 8) rfl)
theorem bg_23_9 : (Cond.code yJ2_indexOf_4cfef cJ2_indexOf_4cfef 4 (some .int)) ∈ BIG := bgr_23 (List.mem_of_getElem? (i := 9) rfl)
theorem bg_23_10 : (Cond.methodLink RJ2 224 Lib.Math.max.name) ∈ BIG := bgr_23 (List.mem_of_getElem? (i := 10) rfl)
theorem bg_23_11 : (Cond.methodLink RJ2 183 Lib.Math.min.name) ∈ BIG := bgr_23 (List.mem_of_getElem? (i := 11) rfl)
theorem bg_23_12 : (Cond.constant RJ2 227 (65536)) ∈ BIG := bgr_23 (List.mem_of_getElem? (i := 12) rfl)
theorem bg_23_13 : (Cond.methodLink RJ2 228 yJ2_indexOfChar_4cfef) ∈ BIG := bgr_23 (List.mem_of_getElem? (i := 13) rfl)
theorem bg_23_14 : (Cond.static yJ2_indexOfChar_4cfef) ∈ BIG := bgr_23 (List.mem_of_getElem? (i := 14) rfl)
theorem bg_23_15 : (Cond.code yJ2_indexOfChar_4cfef cJ2_indexOfChar_4cfef 4 (some .int)) ∈ BIG := bgr_23 (List.mem_of_getElem? (i := 15) rfl)
theorem bg_23_16 : (Cond.methodLink RJ2 96 yJ2_checkBoundsBeginEnd_d044e) ∈ BIG := bgr_23 (List.mem_of_getElem? (i := 16) rfl)
theorem bg_23_17 : (Cond.static yJ2_checkBoundsBeginEnd_d044e) ∈ BIG := bgr_23 (List.mem_of_getElem? (i := 17) rfl)
theorem bg_23_18 : (Cond.code yJ2_checkBoundsBeginEnd_d044e cJ2_checkBoundsBeginEnd_d044e 3 none) ∈ BIG := bgr_23 (List.mem_of_getElem? (i := 18) rfl)
theorem bg_23_19 : (Cond.methodLink RJ2 241 yJ0_checkBoundsBeginEnd_23922) ∈ BIG := bgr_23 (List.mem_of_getElem? (i := 19) rfl)
theorem bg_23_20 : (Cond.static yJ0_checkBoundsBeginEnd_23922) ∈ BIG := bgr_23 (List.mem_of_getElem? (i := 20) rfl)
theorem bg_23_21 : (Cond.code yJ0_checkBoundsBeginEnd_23922 cJ0_checkBoundsBeginEnd_23922 3 none) ∈ BIG := bgr_23 (List.mem_of_getElem? (i := 21) rfl)
theorem bg_23_22 : (Cond.methodLink RJ0 1062 yJ3_checkFromToIndex_8c36e) ∈ BIG := bgr_23 (List.mem_of_getElem? (i := 22) rfl)
theorem bg_23_23 : (Cond.static yJ3_checkFromToIndex_8c36e) ∈ BIG := bgr_23 (List.mem_of_getElem? (i := 23) rfl)
theorem bg_24_0 : (Cond.code yJ3_checkFromToIndex_8c36e cJ3_checkFromToIndex_8c36e 4 (some .int)) ∈ BIG := bgr_24 (List.mem_of_getElem? (i := 0) rfl)
theorem bg_24_1 : (Cond.methodLink RJ2 244 yJ2_indexOfCharUnsafe_4cfef) ∈ BIG := bgr_24 (List.mem_of_getElem? (i := 1) rfl)
theorem bg_24_2 : (Cond.static yJ2_indexOfCharUnsafe_4cfef) ∈ BIG := bgr_24 (List.mem_of_getElem? (i := 2) rfl)
theorem bg_24_3 : (Cond.code yJ2_indexOfCharUnsafe_4cfef cJ2_indexOfCharUnsafe_4cfef 5 (some .int)) ∈ BIG := bgr_24 (List.mem_of_getElem? (i := 3) rfl)
theorem bg_24_4 : (Cond.methodLink RJ2 232 yJ2_indexOfSupplementary_4cfef) ∈ BIG := bgr_24 (List.mem_of_getElem? (i := 4) rfl)
theorem bg_24_5 : (Cond.static yJ2_indexOfSupplementary_4cfef) ∈ BIG := bgr_24 (List.mem_of_getElem? (i := 5) rfl)
theorem bg_24_6 : (Cond.code yJ2_indexOfSupplementary_4cfef cJ2_indexOfSupplementary_4cfef 7 (some .int)) ∈ BIG := bgr_24 (List.mem_of_getElem? (i := 6) rfl)
theorem bg_24_7 : (Cond.methodLink RJ2 164 yJ11_isValidCodePoint_9a6ad) ∈ BIG := bgr_24 (List.mem_of_getElem? (i := 7) rfl)
theorem bg_24_8 : (Cond.static yJ11_isValidCodePoint_9a6ad) ∈ BIG := bgr_24 (List.mem_of_getElem? (i := 8) rfl)
theorem bg_24_9 : (Cond.initialized RJ11) ∈ BIG := bgr_24 (List.mem_of_getElem? (i := 9) rfl)
theorem bg_24_10 : (Cond.code yJ11_isValidCodePoint_9a6ad cJ11_isValidCodePoint_9a6ad 2 (some .boolean)) ∈ BIG := bgr_24 (List.mem_of_getElem? (i := 10) rfl)
theorem bg_24_11 : (Cond.methodLink RJ2 157 yJ11_highSurrogate_5068e) ∈ BIG := bgr_24 (List.mem_of_getElem? (i := 11) rfl)
theorem bg_24_12 : (Cond.static yJ11_highSurrogate_5068e) ∈ BIG := bgr_24 (List.mem_of_getElem? (i := 12) rfl)
theorem bg_24_13 : (Cond.code yJ11_highSurrogate_5068e cJ11_highSurrogate_5068e 1 (some .char)) ∈ BIG := bgr_24 (List.mem_of_getElem? (i := 13) rfl)
theorem bg_24_14 : (Cond.constant RJ11 110 (55232)) ∈ BIG := bgr_24 (List.mem_of_getElem? (i := 14) rfl)
theorem bg_24_15 : (Cond.methodLink RJ2 161 yJ11_lowSurrogate_5068e) ∈ BIG := bgr_24 (List.mem_of_getElem? (i := 15) rfl)
theorem bg_24_16 : (Cond.static yJ11_lowSurrogate_5068e) ∈ BIG := bgr_24 (List.mem_of_getElem? (i := 16) rfl)
theorem bg_24_17 : (Cond.code yJ11_lowSurrogate_5068e cJ11_lowSurrogate_5068e 1 (some .char)) ∈ BIG := bgr_24 (List.mem_of_getElem? (i := 17) rfl)
theorem bg_24_18 : (Cond.constant RJ11 76 (56320)) ∈ BIG := bgr_24 (List.mem_of_getElem? (i := 18) rfl)
theorem bg_24_19 : (Cond.methodLink RX7 241 yX2_liveKey) ∈ BIG := bgr_24 (List.mem_of_getElem? (i := 19) rfl)
theorem bg_24_20 : (Cond.instanceMethod yX2_liveKey) ∈ BIG := bgr_24 (List.mem_of_getElem? (i := 20) rfl)
theorem bg_24_21 : (Cond.selects RX2 yX2_liveKey yX2_liveKey) ∈ BIG := bgr_24 (List.mem_of_getElem? (i := 21) rfl)
theorem bg_24_22 : (Cond.code yX2_liveKey cX2_liveKey 7 (some (.object "SessionGate$Key"))) ∈ BIG := bgr_24 (List.mem_of_getElem? (i := 22) rfl)
theorem bg_24_23 : (Cond.methodLink RX2 30 yX2_isLive) ∈ BIG := bgr_24 (List.mem_of_getElem? (i := 23) rfl)
theorem bg_25_0 : (Cond.instanceMethod yX2_isLive) ∈ BIG := bgr_25 (List.mem_of_getElem? (i := 0) rfl)
theorem bg_25_1 : (Cond.selects RX2 yX2_isLive yX2_isLive) ∈ BIG := bgr_25 (List.mem_of_getElem? (i := 1) rfl)
theorem bg_25_2 : (Cond.code yX2_isLive cX2_isLive 6 (some .boolean)) ∈ BIG := bgr_25 (List.mem_of_getElem? (i := 2) rfl)
theorem bg_25_3 : (Cond.methodLink RX7 245 yX7_isSealedBy) ∈ BIG := bgr_25 (List.mem_of_getElem? (i := 3) rfl)
theorem bg_25_4 : (Cond.instanceMethod yX7_isSealedBy) ∈ BIG := bgr_25 (List.mem_of_getElem? (i := 4) rfl)
theorem bg_25_5 : (Cond.selects RX7 yX7_isSealedBy yX7_isSealedBy) ∈ BIG := bgr_25 (List.mem_of_getElem? (i := 5) rfl)
theorem bg_25_6 : (Cond.code yX7_isSealedBy cX7_isSealedBy 3 (some .boolean)) ∈ BIG := bgr_25 (List.mem_of_getElem? (i := 6) rfl)
theorem bg_25_7 : (Cond.methodLink RX7 249 yX7_numberOf) ∈ BIG := bgr_25 (List.mem_of_getElem? (i := 7) rfl)
theorem bg_25_8 : (Cond.instanceMethod yX7_numberOf) ∈ BIG := bgr_25 (List.mem_of_getElem? (i := 8) rfl)
theorem bg_25_9 : (Cond.selects RX7 yX7_numberOf yX7_numberOf) ∈ BIG := bgr_25 (List.mem_of_getElem? (i := 9) rfl)
theorem bg_25_10 : (Cond.code yX7_numberOf cX7_numberOf 5 (some .int)) ∈ BIG := bgr_25 (List.mem_of_getElem? (i := 10) rfl)
theorem bg_25_11 : (Cond.methodLink RX7 257 yX5_isSameAs) ∈ BIG := bgr_25 (List.mem_of_getElem? (i := 11) rfl)
theorem bg_25_12 : (Cond.instanceMethod yX5_isSameAs) ∈ BIG := bgr_25 (List.mem_of_getElem? (i := 12) rfl)
theorem bg_25_13 : (Cond.selects RX5 yX5_isSameAs yX5_isSameAs) ∈ BIG := bgr_25 (List.mem_of_getElem? (i := 13) rfl)
theorem bg_25_14 : (Cond.code yX5_isSameAs cX5_isSameAs 3 (some .boolean)) ∈ BIG := bgr_25 (List.mem_of_getElem? (i := 14) rfl)
theorem bg_25_15 : (Cond.methodLink RX7 156 yX7_tally) ∈ BIG := bgr_25 (List.mem_of_getElem? (i := 15) rfl)
theorem bg_25_16 : (Cond.instanceMethod yX7_tally) ∈ BIG := bgr_25 (List.mem_of_getElem? (i := 16) rfl)
theorem bg_25_17 : (Cond.selects RX7 yX7_tally yX7_tally) ∈ BIG := bgr_25 (List.mem_of_getElem? (i := 17) rfl)
theorem bg_25_18 : (Cond.code yX7_tally cX7_tally 2 none) ∈ BIG := bgr_25 (List.mem_of_getElem? (i := 18) rfl)
theorem bg_25_19 : (Cond.methodLink RL 101 yX8_request) ∈ BIG := bgr_25 (List.mem_of_getElem? (i := 19) rfl)
theorem bg_25_20 : (Cond.instanceMethod yX8_request) ∈ BIG := bgr_25 (List.mem_of_getElem? (i := 20) rfl)
theorem bg_25_21 : (Cond.selects RX8 yX8_request yX8_request) ∈ BIG := bgr_25 (List.mem_of_getElem? (i := 21) rfl)
theorem bg_25_22 : (Cond.code yX8_request cX8_request 3 (some .int)) ∈ BIG := bgr_25 (List.mem_of_getElem? (i := 22) rfl)
theorem bg_25_23 : (Cond.fieldLink RX8 268 "SessionGateModel" "refusedMany" "I") ∈ BIG := bgr_25 (List.mem_of_getElem? (i := 23) rfl)
theorem bg_26_0 : (Cond.fieldLink RX8 271 "SessionGateModel" "letIn" "I") ∈ BIG := bgr_26 (List.mem_of_getElem? (i := 0) rfl)
theorem bg_26_1 : (Cond.fieldLink RX8 258 "SessionGateModel" "keyAt" "I") ∈ BIG := bgr_26 (List.mem_of_getElem? (i := 1) rfl)
theorem bg_26_2 : (Cond.fieldLink RX8 274 "SessionGateModel" "renewed" "I") ∈ BIG := bgr_26 (List.mem_of_getElem? (i := 2) rfl)
theorem bg_26_3 : (Cond.methodLink RX8 264 yX8_look) ∈ BIG := bgr_26 (List.mem_of_getElem? (i := 3) rfl)
theorem bg_26_4 : (Cond.instanceMethod yX8_look) ∈ BIG := bgr_26 (List.mem_of_getElem? (i := 4) rfl)
theorem bg_26_5 : (Cond.selects RX8 yX8_look yX8_look) ∈ BIG := bgr_26 (List.mem_of_getElem? (i := 5) rfl)
theorem bg_26_6 : (Cond.code yX8_look cX8_look 7 (some .int)) ∈ BIG := bgr_26 (List.mem_of_getElem? (i := 6) rfl)
theorem bg_26_7 : (Cond.methodLink RX8 254 yX8_isForm) ∈ BIG := bgr_26 (List.mem_of_getElem? (i := 7) rfl)
theorem bg_26_8 : (Cond.instanceMethod yX8_isForm) ∈ BIG := bgr_26 (List.mem_of_getElem? (i := 8) rfl)
theorem bg_26_9 : (Cond.selects RX8 yX8_isForm yX8_isForm) ∈ BIG := bgr_26 (List.mem_of_getElem? (i := 9) rfl)
theorem bg_26_10 : (Cond.code yX8_isForm cX8_isForm 5 (some .boolean)) ∈ BIG := bgr_26 (List.mem_of_getElem? (i := 10) rfl)
theorem bg_26_11 : (Cond.methodLink RX8 251 yX8_valueOf) ∈ BIG := bgr_26 (List.mem_of_getElem? (i := 11) rfl)
theorem bg_26_12 : (Cond.static yX8_valueOf) ∈ BIG := bgr_26 (List.mem_of_getElem? (i := 12) rfl)
theorem bg_26_13 : (Cond.code yX8_valueOf cX8_valueOf 1 (some .int)) ∈ BIG := bgr_26 (List.mem_of_getElem? (i := 13) rfl)
theorem bg_26_14 : (Cond.methodLink RX8 261 yX8_isLive) ∈ BIG := bgr_26 (List.mem_of_getElem? (i := 14) rfl)
theorem bg_26_15 : (Cond.instanceMethod yX8_isLive) ∈ BIG := bgr_26 (List.mem_of_getElem? (i := 15) rfl)
theorem bg_26_16 : (Cond.selects RX8 yX8_isLive yX8_isLive) ∈ BIG := bgr_26 (List.mem_of_getElem? (i := 16) rfl)
theorem bg_26_17 : (Cond.code yX8_isLive cX8_isLive 2 (some .boolean)) ∈ BIG := bgr_26 (List.mem_of_getElem? (i := 17) rfl)
theorem bg_26_18 : (Cond.methodLink RL 102 yX7_logout) ∈ BIG := bgr_26 (List.mem_of_getElem? (i := 18) rfl)
theorem bg_26_19 : (Cond.instanceMethod yX7_logout) ∈ BIG := bgr_26 (List.mem_of_getElem? (i := 19) rfl)
theorem bg_26_20 : (Cond.selects RX7 yX7_logout yX7_logout) ∈ BIG := bgr_26 (List.mem_of_getElem? (i := 20) rfl)
theorem bg_26_21 : (Cond.code yX7_logout cX7_logout 2 (some .int)) ∈ BIG := bgr_26 (List.mem_of_getElem? (i := 21) rfl)
theorem bg_26_22 : (Cond.methodLink RL 105 yX8_logout) ∈ BIG := bgr_26 (List.mem_of_getElem? (i := 22) rfl)
theorem bg_26_23 : (Cond.instanceMethod yX8_logout) ∈ BIG := bgr_26 (List.mem_of_getElem? (i := 23) rfl)
theorem bg_27_0 : (Cond.selects RX8 yX8_logout yX8_logout) ∈ BIG := bgr_27 (List.mem_of_getElem? (i := 0) rfl)
theorem bg_27_1 : (Cond.code yX8_logout cX8_logout 2 (some .int)) ∈ BIG := bgr_27 (List.mem_of_getElem? (i := 1) rfl)
theorem bg_27_2 : (Cond.methodLink RL 106 yL_revoke) ∈ BIG := bgr_27 (List.mem_of_getElem? (i := 2) rfl)
theorem bg_27_3 : (Cond.static yL_revoke) ∈ BIG := bgr_27 (List.mem_of_getElem? (i := 3) rfl)
theorem bg_27_4 : (Cond.codeWith yL_revoke cL_revoke 4 (some .int) [(0, 9, 12, 13)]) ∈ BIG := bgr_27 (List.mem_of_getElem? (i := 4) rfl)
theorem bg_27_5 : (Cond.methodLink RL 27 yX7_revoke) ∈ BIG := bgr_27 (List.mem_of_getElem? (i := 5) rfl)
theorem bg_27_6 : (Cond.instanceMethod yX7_revoke) ∈ BIG := bgr_27 (List.mem_of_getElem? (i := 6) rfl)
theorem bg_27_7 : (Cond.selects RX7 yX7_revoke yX7_revoke) ∈ BIG := bgr_27 (List.mem_of_getElem? (i := 7) rfl)
theorem bg_27_8 : (Cond.code yX7_revoke cX7_revoke 4 (some .int)) ∈ BIG := bgr_27 (List.mem_of_getElem? (i := 8) rfl)
theorem bg_27_9 : (Cond.methodLink RL 109 yX8_revoke) ∈ BIG := bgr_27 (List.mem_of_getElem? (i := 9) rfl)
theorem bg_27_10 : (Cond.instanceMethod yX8_revoke) ∈ BIG := bgr_27 (List.mem_of_getElem? (i := 10) rfl)
theorem bg_27_11 : (Cond.selects RX8 yX8_revoke yX8_revoke) ∈ BIG := bgr_27 (List.mem_of_getElem? (i := 11) rfl)
theorem bg_27_12 : (Cond.code yX8_revoke cX8_revoke 4 (some .int)) ∈ BIG := bgr_27 (List.mem_of_getElem? (i := 12) rfl)
theorem bg_27_13 : (Cond.methodLink RL 110 yL_type) ∈ BIG := bgr_27 (List.mem_of_getElem? (i := 13) rfl)
theorem bg_27_14 : (Cond.static yL_type) ∈ BIG := bgr_27 (List.mem_of_getElem? (i := 14) rfl)
theorem bg_27_15 : (Cond.codeWith yL_type cL_type 8 (some .int) [(0, 16, 19, 13), (0, 16, 23, 35)]) ∈ BIG := bgr_27 (List.mem_of_getElem? (i := 15) rfl)
theorem bg_27_16 : (Cond.classLink RL 35 "java/lang/IllegalStateException") ∈ BIG := bgr_27 (List.mem_of_getElem? (i := 16) rfl)
theorem bg_27_17 : (Cond.methodLink RL 31 yX7_type) ∈ BIG := bgr_27 (List.mem_of_getElem? (i := 17) rfl)
theorem bg_27_18 : (Cond.instanceMethod yX7_type) ∈ BIG := bgr_27 (List.mem_of_getElem? (i := 18) rfl)
theorem bg_27_19 : (Cond.selects RX7 yX7_type yX7_type) ∈ BIG := bgr_27 (List.mem_of_getElem? (i := 19) rfl)
theorem bg_27_20 : (Cond.code yX7_type cX7_type 8 (some .int)) ∈ BIG := bgr_27 (List.mem_of_getElem? (i := 20) rfl)
theorem bg_27_21 : (Cond.classLink RX7 184 "java/lang/IllegalStateException") ∈ BIG := bgr_27 (List.mem_of_getElem? (i := 21) rfl)
theorem bg_27_22 : (Cond.initialized "java/lang/IllegalStateException") ∈ BIG := bgr_27 (List.mem_of_getElem? (i := 22) rfl)
theorem bg_27_23 : (Cond.methodLink RX7 170 yX7_isText) ∈ BIG := bgr_27 (List.mem_of_getElem? (i := 23) rfl)
theorem bg_28_0 : (Cond.static yX7_isText) ∈ BIG := bgr_28 (List.mem_of_getElem? (i := 0) rfl)
theorem bg_28_1 : (Cond.code yX7_isText cX7_isText 1 (some .boolean)) ∈ BIG := bgr_28 (List.mem_of_getElem? (i := 1) rfl)
theorem bg_28_2 : (Cond.methodLink RX7 173 yX7_textOf) ∈ BIG := bgr_28 (List.mem_of_getElem? (i := 2) rfl)
theorem bg_28_3 : (Cond.instanceMethod yX7_textOf) ∈ BIG := bgr_28 (List.mem_of_getElem? (i := 3) rfl)
theorem bg_28_4 : (Cond.selects RX7 yX7_textOf yX7_textOf) ∈ BIG := bgr_28 (List.mem_of_getElem? (i := 4) rfl)
theorem bg_28_5 : (Cond.code yX7_textOf cX7_textOf 2 (some (.object "SessionGate$Text"))) ∈ BIG := bgr_28 (List.mem_of_getElem? (i := 5) rfl)
theorem bg_28_6 : (Cond.methodLink RX7 177 yX7_signsIn) ∈ BIG := bgr_28 (List.mem_of_getElem? (i := 6) rfl)
theorem bg_28_7 : (Cond.static yX7_signsIn) ∈ BIG := bgr_28 (List.mem_of_getElem? (i := 7) rfl)
theorem bg_28_8 : (Cond.code yX7_signsIn cX7_signsIn 3 (some .int)) ∈ BIG := bgr_28 (List.mem_of_getElem? (i := 8) rfl)
theorem bg_28_9 : (Cond.methodLink RX7 271 yX7_byteOf) ∈ BIG := bgr_28 (List.mem_of_getElem? (i := 9) rfl)
theorem bg_28_10 : (Cond.methodLink RX7 187 yX5_addSigns) ∈ BIG := bgr_28 (List.mem_of_getElem? (i := 10) rfl)
theorem bg_28_11 : (Cond.instanceMethod yX5_addSigns) ∈ BIG := bgr_28 (List.mem_of_getElem? (i := 11) rfl)
theorem bg_28_12 : (Cond.selects RX5 yX5_addSigns yX5_addSigns) ∈ BIG := bgr_28 (List.mem_of_getElem? (i := 12) rfl)
theorem bg_28_13 : (Cond.code yX5_addSigns cX5_addSigns 4 none) ∈ BIG := bgr_28 (List.mem_of_getElem? (i := 13) rfl)
theorem bg_28_14 : (Cond.methodLink RX5 23 yX5_addSign) ∈ BIG := bgr_28 (List.mem_of_getElem? (i := 14) rfl)
theorem bg_28_15 : (Cond.methodLink RL 113 yX8_type) ∈ BIG := bgr_28 (List.mem_of_getElem? (i := 15) rfl)
theorem bg_28_16 : (Cond.instanceMethod yX8_type) ∈ BIG := bgr_28 (List.mem_of_getElem? (i := 16) rfl)
theorem bg_28_17 : (Cond.selects RX8 yX8_type yX8_type) ∈ BIG := bgr_28 (List.mem_of_getElem? (i := 17) rfl)
theorem bg_28_18 : (Cond.code yX8_type cX8_type 8 (some .int)) ∈ BIG := bgr_28 (List.mem_of_getElem? (i := 18) rfl)
theorem bg_28_19 : (Cond.methodLink RX8 277 yX8_many) ∈ BIG := bgr_28 (List.mem_of_getElem? (i := 19) rfl)
theorem bg_28_20 : (Cond.static yX8_many) ∈ BIG := bgr_28 (List.mem_of_getElem? (i := 20) rfl)
theorem bg_28_21 : (Cond.code yX8_many cX8_many 1 (some .int)) ∈ BIG := bgr_28 (List.mem_of_getElem? (i := 21) rfl)
theorem bg_28_22 : (Cond.methodLink RX8 280 yX8_typed) ∈ BIG := bgr_28 (List.mem_of_getElem? (i := 22) rfl)
theorem bg_28_23 : (Cond.instanceMethod yX8_typed) ∈ BIG := bgr_28 (List.mem_of_getElem? (i := 23) rfl)
theorem bg_29_0 : (Cond.selects RX8 yX8_typed yX8_typed) ∈ BIG := bgr_29 (List.mem_of_getElem? (i := 0) rfl)
theorem bg_29_1 : (Cond.code yX8_typed cX8_typed 7 (some .int)) ∈ BIG := bgr_29 (List.mem_of_getElem? (i := 1) rfl)
theorem bg_29_2 : (Cond.methodLink RL 114 yL_erase) ∈ BIG := bgr_29 (List.mem_of_getElem? (i := 2) rfl)
theorem bg_29_3 : (Cond.static yL_erase) ∈ BIG := bgr_29 (List.mem_of_getElem? (i := 3) rfl)
theorem bg_29_4 : (Cond.codeWith yL_erase cL_erase 4 (some .int) [(0, 9, 12, 13)]) ∈ BIG := bgr_29 (List.mem_of_getElem? (i := 4) rfl)
theorem bg_29_5 : (Cond.methodLink RL 37 yX7_erase) ∈ BIG := bgr_29 (List.mem_of_getElem? (i := 5) rfl)
theorem bg_29_6 : (Cond.instanceMethod yX7_erase) ∈ BIG := bgr_29 (List.mem_of_getElem? (i := 6) rfl)
theorem bg_29_7 : (Cond.selects RX7 yX7_erase yX7_erase) ∈ BIG := bgr_29 (List.mem_of_getElem? (i := 7) rfl)
theorem bg_29_8 : (Cond.code yX7_erase cX7_erase 4 (some .int)) ∈ BIG := bgr_29 (List.mem_of_getElem? (i := 8) rfl)
theorem bg_29_9 : (Cond.methodLink RL 116 yX8_erase) ∈ BIG := bgr_29 (List.mem_of_getElem? (i := 9) rfl)
theorem bg_29_10 : (Cond.instanceMethod yX8_erase) ∈ BIG := bgr_29 (List.mem_of_getElem? (i := 10) rfl)
theorem bg_29_11 : (Cond.selects RX8 yX8_erase yX8_erase) ∈ BIG := bgr_29 (List.mem_of_getElem? (i := 11) rfl)
theorem bg_29_12 : (Cond.code yX8_erase cX8_erase 3 (some .int)) ∈ BIG := bgr_29 (List.mem_of_getElem? (i := 12) rfl)
theorem bg_29_13 : (Cond.methodLink RL 117 yL_put) ∈ BIG := bgr_29 (List.mem_of_getElem? (i := 13) rfl)
theorem bg_29_14 : (Cond.static yL_put) ∈ BIG := bgr_29 (List.mem_of_getElem? (i := 14) rfl)
theorem bg_29_15 : (Cond.codeWith yL_put cL_put 6 (some .int) [(0, 12, 15, 13), (0, 12, 19, 43)]) ∈ BIG := bgr_29 (List.mem_of_getElem? (i := 15) rfl)
theorem bg_29_16 : (Cond.classLink RL 43 "java/lang/IndexOutOfBoundsException") ∈ BIG := bgr_29 (List.mem_of_getElem? (i := 16) rfl)
theorem bg_29_17 : (Cond.methodLink RL 40 yX7_put) ∈ BIG := bgr_29 (List.mem_of_getElem? (i := 17) rfl)
theorem bg_29_18 : (Cond.instanceMethod yX7_put) ∈ BIG := bgr_29 (List.mem_of_getElem? (i := 18) rfl)
theorem bg_29_19 : (Cond.selects RX7 yX7_put yX7_put) ∈ BIG := bgr_29 (List.mem_of_getElem? (i := 19) rfl)
theorem bg_29_20 : (Cond.code yX7_put cX7_put 6 (some .int)) ∈ BIG := bgr_29 (List.mem_of_getElem? (i := 20) rfl)
theorem bg_29_21 : (Cond.classLink RX7 193 "java/lang/IndexOutOfBoundsException") ∈ BIG := bgr_29 (List.mem_of_getElem? (i := 21) rfl)
theorem bg_29_22 : (Cond.initialized "java/lang/IndexOutOfBoundsException") ∈ BIG := bgr_29 (List.mem_of_getElem? (i := 22) rfl)
theorem bg_29_23 : (Cond.methodLink RX7 190 yX5_has) ∈ BIG := bgr_29 (List.mem_of_getElem? (i := 23) rfl)
theorem bg_30_0 : (Cond.instanceMethod yX5_has) ∈ BIG := bgr_30 (List.mem_of_getElem? (i := 0) rfl)
theorem bg_30_1 : (Cond.selects RX5 yX5_has yX5_has) ∈ BIG := bgr_30 (List.mem_of_getElem? (i := 1) rfl)
theorem bg_30_2 : (Cond.code yX5_has cX5_has 2 (some .boolean)) ∈ BIG := bgr_30 (List.mem_of_getElem? (i := 2) rfl)
theorem bg_30_3 : (Cond.methodLink RL 119 yX8_put) ∈ BIG := bgr_30 (List.mem_of_getElem? (i := 3) rfl)
theorem bg_30_4 : (Cond.instanceMethod yX8_put) ∈ BIG := bgr_30 (List.mem_of_getElem? (i := 4) rfl)
theorem bg_30_5 : (Cond.selects RX8 yX8_put yX8_put) ∈ BIG := bgr_30 (List.mem_of_getElem? (i := 5) rfl)
theorem bg_30_6 : (Cond.code yX8_put cX8_put 6 (some .int)) ∈ BIG := bgr_30 (List.mem_of_getElem? (i := 6) rfl)
theorem bg_30_7 : (Cond.methodLink RL 120 yL_sign) ∈ BIG := bgr_30 (List.mem_of_getElem? (i := 7) rfl)
theorem bg_30_8 : (Cond.static yL_sign) ∈ BIG := bgr_30 (List.mem_of_getElem? (i := 8) rfl)
theorem bg_30_9 : (Cond.codeWith yL_sign cL_sign 5 (some .int) [(0, 10, 13, 13)]) ∈ BIG := bgr_30 (List.mem_of_getElem? (i := 9) rfl)
theorem bg_30_10 : (Cond.methodLink RL 45 yX7_sign) ∈ BIG := bgr_30 (List.mem_of_getElem? (i := 10) rfl)
theorem bg_30_11 : (Cond.instanceMethod yX7_sign) ∈ BIG := bgr_30 (List.mem_of_getElem? (i := 11) rfl)
theorem bg_30_12 : (Cond.selects RX7 yX7_sign yX7_sign) ∈ BIG := bgr_30 (List.mem_of_getElem? (i := 12) rfl)
theorem bg_30_13 : (Cond.code yX7_sign cX7_sign 4 (some .int)) ∈ BIG := bgr_30 (List.mem_of_getElem? (i := 13) rfl)
theorem bg_30_14 : (Cond.methodLink RL 123 yX8_sign) ∈ BIG := bgr_30 (List.mem_of_getElem? (i := 14) rfl)
theorem bg_30_15 : (Cond.instanceMethod yX8_sign) ∈ BIG := bgr_30 (List.mem_of_getElem? (i := 15) rfl)
theorem bg_30_16 : (Cond.selects RX8 yX8_sign yX8_sign) ∈ BIG := bgr_30 (List.mem_of_getElem? (i := 16) rfl)
theorem bg_30_17 : (Cond.code yX8_sign cX8_sign 3 (some .int)) ∈ BIG := bgr_30 (List.mem_of_getElem? (i := 17) rfl)
theorem bg_30_18 : (Cond.methodLink RL 124 yL_session) ∈ BIG := bgr_30 (List.mem_of_getElem? (i := 18) rfl)
theorem bg_30_19 : (Cond.static yL_session) ∈ BIG := bgr_30 (List.mem_of_getElem? (i := 19) rfl)
theorem bg_30_20 : (Cond.codeWith yL_session cL_session 5 (some .int) [(0, 9, 12, 13)]) ∈ BIG := bgr_30 (List.mem_of_getElem? (i := 20) rfl)
theorem bg_30_21 : (Cond.methodLink RL 49 yX7_session) ∈ BIG := bgr_30 (List.mem_of_getElem? (i := 21) rfl)
theorem bg_30_22 : (Cond.instanceMethod yX7_session) ∈ BIG := bgr_30 (List.mem_of_getElem? (i := 22) rfl)
theorem bg_30_23 : (Cond.selects RX7 yX7_session yX7_session) ∈ BIG := bgr_30 (List.mem_of_getElem? (i := 23) rfl)
theorem bg_31_0 : (Cond.code yX7_session cX7_session 4 (some .long)) ∈ BIG := bgr_31 (List.mem_of_getElem? (i := 0) rfl)
theorem bg_31_1 : (Cond.constantLong RX7 199 (-1)) ∈ BIG := bgr_31 (List.mem_of_getElem? (i := 1) rfl)
theorem bg_31_2 : (Cond.methodLink RL 126 yX8_session) ∈ BIG := bgr_31 (List.mem_of_getElem? (i := 2) rfl)
theorem bg_31_3 : (Cond.instanceMethod yX8_session) ∈ BIG := bgr_31 (List.mem_of_getElem? (i := 3) rfl)
theorem bg_31_4 : (Cond.selects RX8 yX8_session yX8_session) ∈ BIG := bgr_31 (List.mem_of_getElem? (i := 4) rfl)
theorem bg_31_5 : (Cond.code yX8_session cX8_session 3 (some .long)) ∈ BIG := bgr_31 (List.mem_of_getElem? (i := 5) rfl)
theorem bg_31_6 : (Cond.constantLong RX8 284 (3)) ∈ BIG := bgr_31 (List.mem_of_getElem? (i := 6) rfl)
theorem bg_31_7 : (Cond.constantLong RX8 286 (-1)) ∈ BIG := bgr_31 (List.mem_of_getElem? (i := 7) rfl)
theorem bg_31_8 : (Cond.methodLink RL 127 yL_count) ∈ BIG := bgr_31 (List.mem_of_getElem? (i := 8) rfl)
theorem bg_31_9 : (Cond.static yL_count) ∈ BIG := bgr_31 (List.mem_of_getElem? (i := 9) rfl)
theorem bg_31_10 : (Cond.codeWith yL_count cL_count 4 (some .int) [(0, 9, 12, 13)]) ∈ BIG := bgr_31 (List.mem_of_getElem? (i := 10) rfl)
theorem bg_31_11 : (Cond.methodLink RL 53 yX7_count) ∈ BIG := bgr_31 (List.mem_of_getElem? (i := 11) rfl)
theorem bg_31_12 : (Cond.instanceMethod yX7_count) ∈ BIG := bgr_31 (List.mem_of_getElem? (i := 12) rfl)
theorem bg_31_13 : (Cond.selects RX7 yX7_count yX7_count) ∈ BIG := bgr_31 (List.mem_of_getElem? (i := 13) rfl)
theorem bg_31_14 : (Cond.code yX7_count cX7_count 2 (some .int)) ∈ BIG := bgr_31 (List.mem_of_getElem? (i := 14) rfl)
theorem bg_31_15 : (Cond.methodLink RX7 207 yX7_openSessions) ∈ BIG := bgr_31 (List.mem_of_getElem? (i := 15) rfl)
theorem bg_31_16 : (Cond.instanceMethod yX7_openSessions) ∈ BIG := bgr_31 (List.mem_of_getElem? (i := 16) rfl)
theorem bg_31_17 : (Cond.selects RX7 yX7_openSessions yX7_openSessions) ∈ BIG := bgr_31 (List.mem_of_getElem? (i := 17) rfl)
theorem bg_31_18 : (Cond.code yX7_openSessions cX7_openSessions 3 (some .int)) ∈ BIG := bgr_31 (List.mem_of_getElem? (i := 18) rfl)
theorem bg_31_19 : (Cond.methodLink RX7 210 yX2_liveOnes) ∈ BIG := bgr_31 (List.mem_of_getElem? (i := 19) rfl)
theorem bg_31_20 : (Cond.instanceMethod yX2_liveOnes) ∈ BIG := bgr_31 (List.mem_of_getElem? (i := 20) rfl)
theorem bg_31_21 : (Cond.selects RX2 yX2_liveOnes yX2_liveOnes) ∈ BIG := bgr_31 (List.mem_of_getElem? (i := 21) rfl)
theorem bg_31_22 : (Cond.code yX2_liveOnes cX2_liveOnes 7 (some .int)) ∈ BIG := bgr_31 (List.mem_of_getElem? (i := 22) rfl)
theorem bg_31_23 : (Cond.methodLink RL 129 yX8_count) ∈ BIG := bgr_31 (List.mem_of_getElem? (i := 23) rfl)
theorem bg_32_0 : (Cond.instanceMethod yX8_count) ∈ BIG := bgr_32 (List.mem_of_getElem? (i := 0) rfl)
theorem bg_32_1 : (Cond.selects RX8 yX8_count yX8_count) ∈ BIG := bgr_32 (List.mem_of_getElem? (i := 1) rfl)
theorem bg_32_2 : (Cond.code yX8_count cX8_count 4 (some .int)) ∈ BIG := bgr_32 (List.mem_of_getElem? (i := 2) rfl)
theorem bg_32_3 : (Cond.constantLong RX8 288 (6)) ∈ BIG := bgr_32 (List.mem_of_getElem? (i := 3) rfl)
theorem bg_32_4 : (Cond.methodLink RL 130 yL_octet) ∈ BIG := bgr_32 (List.mem_of_getElem? (i := 4) rfl)
theorem bg_32_5 : (Cond.static yL_octet) ∈ BIG := bgr_32 (List.mem_of_getElem? (i := 5) rfl)
theorem bg_32_6 : (Cond.codeWith yL_octet cL_octet 4 (some .int) [(0, 9, 12, 13)]) ∈ BIG := bgr_32 (List.mem_of_getElem? (i := 6) rfl)
theorem bg_32_7 : (Cond.methodLink RL 56 yX7_octet) ∈ BIG := bgr_32 (List.mem_of_getElem? (i := 7) rfl)
theorem bg_32_8 : (Cond.instanceMethod yX7_octet) ∈ BIG := bgr_32 (List.mem_of_getElem? (i := 8) rfl)
theorem bg_32_9 : (Cond.selects RX7 yX7_octet yX7_octet) ∈ BIG := bgr_32 (List.mem_of_getElem? (i := 9) rfl)
theorem bg_32_10 : (Cond.code yX7_octet cX7_octet 2 (some .int)) ∈ BIG := bgr_32 (List.mem_of_getElem? (i := 10) rfl)
theorem bg_32_11 : (Cond.methodLink RL 132 yX8_octet) ∈ BIG := bgr_32 (List.mem_of_getElem? (i := 11) rfl)
theorem bg_32_12 : (Cond.instanceMethod yX8_octet) ∈ BIG := bgr_32 (List.mem_of_getElem? (i := 12) rfl)
theorem bg_32_13 : (Cond.selects RX8 yX8_octet yX8_octet) ∈ BIG := bgr_32 (List.mem_of_getElem? (i := 13) rfl)
theorem bg_32_14 : (Cond.code yX8_octet cX8_octet 3 (some .int)) ∈ BIG := bgr_32 (List.mem_of_getElem? (i := 14) rfl)
theorem bg_32_15 : (Cond.constantLong RX8 290 (31)) ∈ BIG := bgr_32 (List.mem_of_getElem? (i := 15) rfl)
end
section
theorem dX0_encode_0 : decode cX0_encode 0 = .ok (.bipush 8, 2) := by decide +kernel
theorem dX0_encode_2 : decode cX0_encode 2 = .ok (.iload_n 1, 1) := by decide +kernel
theorem dX0_encode_3 : decode cX0_encode 3 = .ok (.imul, 1) := by decide +kernel
theorem dX0_encode_4 : decode cX0_encode 4 = .ok (.iconst 5, 1) := by decide +kernel
theorem dX0_encode_5 : decode cX0_encode 5 = .ok (.iadd, 1) := by decide +kernel
theorem dX0_encode_6 : decode cX0_encode 6 = .ok (.bipush 6, 2) := by decide +kernel
theorem dX0_encode_8 : decode cX0_encode 8 = .ok (.idiv, 1) := by decide +kernel
theorem dX0_encode_9 : decode cX0_encode 9 = .ok (.istore_n 3, 1) := by decide +kernel
theorem dX0_encode_10 : decode cX0_encode 10 = .ok (.aload_n 2, 1) := by decide +kernel
theorem dX0_encode_11 : decode cX0_encode 11 = .ok (.iconst 0, 1) := by decide +kernel
theorem dX0_encode_12 : decode cX0_encode 12 = .ok (.putfield 9, 3) := by decide +kernel
theorem dX0_encode_15 : decode cX0_encode 15 = .ok (.iconst 0, 1) := by decide +kernel
theorem dX0_encode_16 : decode cX0_encode 16 = .ok (.istore 4, 2) := by decide +kernel
theorem dX0_encode_18 : decode cX0_encode 18 = .ok (.iload 4, 2) := by decide +kernel
theorem dX0_encode_20 : decode cX0_encode 20 = .ok (.iload_n 3, 1) := by decide +kernel
theorem dX0_encode_21 : decode cX0_encode 21 = .ok (.if_icmp .ge 78, 3) := by decide +kernel
theorem dX0_encode_24 : decode cX0_encode 24 = .ok (.bipush 6, 2) := by decide +kernel
theorem dX0_encode_26 : decode cX0_encode 26 = .ok (.iload 4, 2) := by decide +kernel
theorem dX0_encode_28 : decode cX0_encode 28 = .ok (.imul, 1) := by decide +kernel
theorem dX0_encode_29 : decode cX0_encode 29 = .ok (.istore 5, 2) := by decide +kernel
theorem dX0_encode_31 : decode cX0_encode 31 = .ok (.iload 5, 2) := by decide +kernel
theorem dX0_encode_33 : decode cX0_encode 33 = .ok (.bipush 8, 2) := by decide +kernel
theorem dX0_encode_35 : decode cX0_encode 35 = .ok (.idiv, 1) := by decide +kernel
theorem dX0_encode_36 : decode cX0_encode 36 = .ok (.istore 6, 2) := by decide +kernel
theorem dX0_encode_38 : decode cX0_encode 38 = .ok (.iload 6, 2) := by decide +kernel
theorem dX0_encode_40 : decode cX0_encode 40 = .ok (.iconst 1, 1) := by decide +kernel
theorem dX0_encode_41 : decode cX0_encode 41 = .ok (.iadd, 1) := by decide +kernel
theorem dX0_encode_42 : decode cX0_encode 42 = .ok (.iload_n 1, 1) := by decide +kernel
theorem dX0_encode_43 : decode cX0_encode 43 = .ok (.if_icmp .ge 12, 3) := by decide +kernel
theorem dX0_encode_46 : decode cX0_encode 46 = .ok (.aload_n 0, 1) := by decide +kernel
theorem dX0_encode_47 : decode cX0_encode 47 = .ok (.iload 6, 2) := by decide +kernel
theorem dX0_encode_49 : decode cX0_encode 49 = .ok (.iconst 1, 1) := by decide +kernel
theorem dX0_encode_50 : decode cX0_encode 50 = .ok (.iadd, 1) := by decide +kernel
theorem dX0_encode_51 : decode cX0_encode 51 = .ok (.iaload, 1) := by decide +kernel
theorem dX0_encode_52 : decode cX0_encode 52 = .ok (.goto 4, 3) := by decide +kernel
theorem dX0_encode_55 : decode cX0_encode 55 = .ok (.iconst 0, 1) := by decide +kernel
theorem dX0_encode_56 : decode cX0_encode 56 = .ok (.istore 7, 2) := by decide +kernel
theorem dX0_encode_58 : decode cX0_encode 58 = .ok (.aload_n 0, 1) := by decide +kernel
theorem dX0_encode_59 : decode cX0_encode 59 = .ok (.iload 6, 2) := by decide +kernel
theorem dX0_encode_61 : decode cX0_encode 61 = .ok (.iaload, 1) := by decide +kernel
theorem dX0_encode_62 : decode cX0_encode 62 = .ok (.bipush 8, 2) := by decide +kernel
theorem dX0_encode_64 : decode cX0_encode 64 = .ok (.ishl, 1) := by decide +kernel
theorem dX0_encode_65 : decode cX0_encode 65 = .ok (.iload 7, 2) := by decide +kernel
theorem dX0_encode_67 : decode cX0_encode 67 = .ok (.ior, 1) := by decide +kernel
theorem dX0_encode_68 : decode cX0_encode 68 = .ok (.istore 8, 2) := by decide +kernel
theorem dX0_encode_70 : decode cX0_encode 70 = .ok (.aload_n 2, 1) := by decide +kernel
theorem dX0_encode_71 : decode cX0_encode 71 = .ok (.ldc 17, 2) := by decide +kernel
theorem dX0_encode_73 : decode cX0_encode 73 = .ok (.iload 8, 2) := by decide +kernel
theorem dX0_encode_75 : decode cX0_encode 75 = .ok (.bipush 10, 2) := by decide +kernel
theorem dX0_encode_77 : decode cX0_encode 77 = .ok (.iload 5, 2) := by decide +kernel
theorem dX0_encode_79 : decode cX0_encode 79 = .ok (.bipush 8, 2) := by decide +kernel
theorem dX0_encode_81 : decode cX0_encode 81 = .ok (.irem, 1) := by decide +kernel
theorem dX0_encode_82 : decode cX0_encode 82 = .ok (.isub, 1) := by decide +kernel
theorem dX0_encode_83 : decode cX0_encode 83 = .ok (.iushr, 1) := by decide +kernel
theorem dX0_encode_84 : decode cX0_encode 84 = .ok (.bipush 63, 2) := by decide +kernel
theorem dX0_encode_86 : decode cX0_encode 86 = .ok (.iand, 1) := by decide +kernel
theorem dX0_encode_87 : decode cX0_encode 87 = .ok (.invokevirtual 19, 3) := by decide +kernel
theorem dX0_encode_90 : decode cX0_encode 90 = .ok (.invokevirtual 25, 3) := by decide +kernel
theorem dX0_encode_93 : decode cX0_encode 93 = .ok (.iinc 4 1, 3) := by decide +kernel
theorem dX0_encode_96 : decode cX0_encode 96 = .ok (.goto (-78), 3) := by decide +kernel
theorem dX0_encode_99 : decode cX0_encode 99 = .ok (.return_, 1) := by decide +kernel
theorem dX0_decodeCookie_0 : decode cX0_decodeCookie 0 = .ok (.aload_n 0, 1) := by decide +kernel
theorem dX0_decodeCookie_1 : decode cX0_decodeCookie 1 = .ok (.invokestatic 29, 3) := by decide +kernel
theorem dX0_decodeCookie_4 : decode cX0_decodeCookie 4 = .ok (.ifCond .ne 5, 3) := by decide +kernel
theorem dX0_decodeCookie_7 : decode cX0_decodeCookie 7 = .ok (.iconst 0, 1) := by decide +kernel
theorem dX0_decodeCookie_8 : decode cX0_decodeCookie 8 = .ok (.ireturn, 1) := by decide +kernel
theorem dX0_decodeCookie_9 : decode cX0_decodeCookie 9 = .ok (.iconst 0, 1) := by decide +kernel
theorem dX0_decodeCookie_10 : decode cX0_decodeCookie 10 = .ok (.istore_n 2, 1) := by decide +kernel
theorem dX0_decodeCookie_11 : decode cX0_decodeCookie 11 = .ok (.iload_n 2, 1) := by decide +kernel
theorem dX0_decodeCookie_12 : decode cX0_decodeCookie 12 = .ok (.bipush 22, 2) := by decide +kernel
theorem dX0_decodeCookie_14 : decode cX0_decodeCookie 14 = .ok (.if_icmp .ge 64, 3) := by decide +kernel
theorem dX0_decodeCookie_17 : decode cX0_decodeCookie 17 = .ok (.bipush 8, 2) := by decide +kernel
theorem dX0_decodeCookie_19 : decode cX0_decodeCookie 19 = .ok (.iload_n 2, 1) := by decide +kernel
theorem dX0_decodeCookie_20 : decode cX0_decodeCookie 20 = .ok (.imul, 1) := by decide +kernel
theorem dX0_decodeCookie_21 : decode cX0_decodeCookie 21 = .ok (.istore_n 3, 1) := by decide +kernel
theorem dX0_decodeCookie_22 : decode cX0_decodeCookie 22 = .ok (.iload_n 3, 1) := by decide +kernel
theorem dX0_decodeCookie_23 : decode cX0_decodeCookie 23 = .ok (.bipush 6, 2) := by decide +kernel
theorem dX0_decodeCookie_25 : decode cX0_decodeCookie 25 = .ok (.idiv, 1) := by decide +kernel
theorem dX0_decodeCookie_26 : decode cX0_decodeCookie 26 = .ok (.istore 4, 2) := by decide +kernel
theorem dX0_decodeCookie_28 : decode cX0_decodeCookie 28 = .ok (.aload_n 0, 1) := by decide +kernel
theorem dX0_decodeCookie_29 : decode cX0_decodeCookie 29 = .ok (.getfield 33, 3) := by decide +kernel
theorem dX0_decodeCookie_32 : decode cX0_decodeCookie 32 = .ok (.iload 4, 2) := by decide +kernel
theorem dX0_decodeCookie_34 : decode cX0_decodeCookie 34 = .ok (.iaload, 1) := by decide +kernel
theorem dX0_decodeCookie_35 : decode cX0_decodeCookie 35 = .ok (.invokestatic 37, 3) := by decide +kernel
theorem dX0_decodeCookie_38 : decode cX0_decodeCookie 38 = .ok (.bipush 6, 2) := by decide +kernel
theorem dX0_decodeCookie_40 : decode cX0_decodeCookie 40 = .ok (.ishl, 1) := by decide +kernel
theorem dX0_decodeCookie_41 : decode cX0_decodeCookie 41 = .ok (.aload_n 0, 1) := by decide +kernel
theorem dX0_decodeCookie_42 : decode cX0_decodeCookie 42 = .ok (.getfield 33, 3) := by decide +kernel
theorem dX0_decodeCookie_45 : decode cX0_decodeCookie 45 = .ok (.iload 4, 2) := by decide +kernel
theorem dX0_decodeCookie_47 : decode cX0_decodeCookie 47 = .ok (.iconst 1, 1) := by decide +kernel
theorem dX0_decodeCookie_48 : decode cX0_decodeCookie 48 = .ok (.iadd, 1) := by decide +kernel
theorem dX0_decodeCookie_49 : decode cX0_decodeCookie 49 = .ok (.iaload, 1) := by decide +kernel
theorem dX0_decodeCookie_50 : decode cX0_decodeCookie 50 = .ok (.invokestatic 37, 3) := by decide +kernel
theorem dX0_decodeCookie_53 : decode cX0_decodeCookie 53 = .ok (.ior, 1) := by decide +kernel
theorem dX0_decodeCookie_54 : decode cX0_decodeCookie 54 = .ok (.istore 5, 2) := by decide +kernel
theorem dX0_decodeCookie_56 : decode cX0_decodeCookie 56 = .ok (.aload_n 1, 1) := by decide +kernel
theorem dX0_decodeCookie_57 : decode cX0_decodeCookie 57 = .ok (.iload_n 2, 1) := by decide +kernel
theorem dX0_decodeCookie_58 : decode cX0_decodeCookie 58 = .ok (.iload 5, 2) := by decide +kernel
theorem dX0_decodeCookie_60 : decode cX0_decodeCookie 60 = .ok (.iconst 4, 1) := by decide +kernel
theorem dX0_decodeCookie_61 : decode cX0_decodeCookie 61 = .ok (.iload_n 3, 1) := by decide +kernel
theorem dX0_decodeCookie_62 : decode cX0_decodeCookie 62 = .ok (.bipush 6, 2) := by decide +kernel
theorem dX0_decodeCookie_64 : decode cX0_decodeCookie 64 = .ok (.irem, 1) := by decide +kernel
theorem dX0_decodeCookie_65 : decode cX0_decodeCookie 65 = .ok (.isub, 1) := by decide +kernel
theorem dX0_decodeCookie_66 : decode cX0_decodeCookie 66 = .ok (.iushr, 1) := by decide +kernel
theorem dX0_decodeCookie_67 : decode cX0_decodeCookie 67 = .ok (.sipush 255, 3) := by decide +kernel
theorem dX0_decodeCookie_70 : decode cX0_decodeCookie 70 = .ok (.iand, 1) := by decide +kernel
theorem dX0_decodeCookie_71 : decode cX0_decodeCookie 71 = .ok (.iastore, 1) := by decide +kernel
theorem dX0_decodeCookie_72 : decode cX0_decodeCookie 72 = .ok (.iinc 2 1, 3) := by decide +kernel
theorem dX0_decodeCookie_75 : decode cX0_decodeCookie 75 = .ok (.goto (-64), 3) := by decide +kernel
theorem dX0_decodeCookie_78 : decode cX0_decodeCookie 78 = .ok (.iconst 1, 1) := by decide +kernel
theorem dX0_decodeCookie_79 : decode cX0_decodeCookie 79 = .ok (.ireturn, 1) := by decide +kernel
theorem dX0_isCookieForm_0 : decode cX0_isCookieForm 0 = .ok (.aload_n 0, 1) := by decide +kernel
theorem dX0_isCookieForm_1 : decode cX0_isCookieForm 1 = .ok (.getfield 9, 3) := by decide +kernel
theorem dX0_isCookieForm_4 : decode cX0_isCookieForm 4 = .ok (.bipush 30, 2) := by decide +kernel
theorem dX0_isCookieForm_6 : decode cX0_isCookieForm 6 = .ok (.if_icmp .eq 5, 3) := by decide +kernel
theorem dX0_isCookieForm_9 : decode cX0_isCookieForm 9 = .ok (.iconst 0, 1) := by decide +kernel
theorem dX0_isCookieForm_10 : decode cX0_isCookieForm 10 = .ok (.ireturn, 1) := by decide +kernel
theorem dX0_isCookieForm_11 : decode cX0_isCookieForm 11 = .ok (.iconst 0, 1) := by decide +kernel
theorem dX0_isCookieForm_12 : decode cX0_isCookieForm 12 = .ok (.istore_n 1, 1) := by decide +kernel
theorem dX0_isCookieForm_13 : decode cX0_isCookieForm 13 = .ok (.iload_n 1, 1) := by decide +kernel
theorem dX0_isCookieForm_14 : decode cX0_isCookieForm 14 = .ok (.bipush 30, 2) := by decide +kernel
theorem dX0_isCookieForm_16 : decode cX0_isCookieForm 16 = .ok (.if_icmp .ge 23, 3) := by decide +kernel
theorem dX0_isCookieForm_19 : decode cX0_isCookieForm 19 = .ok (.aload_n 0, 1) := by decide +kernel
theorem dX0_isCookieForm_20 : decode cX0_isCookieForm 20 = .ok (.getfield 33, 3) := by decide +kernel
theorem dX0_isCookieForm_23 : decode cX0_isCookieForm 23 = .ok (.iload_n 1, 1) := by decide +kernel
theorem dX0_isCookieForm_24 : decode cX0_isCookieForm 24 = .ok (.iaload, 1) := by decide +kernel
theorem dX0_isCookieForm_25 : decode cX0_isCookieForm 25 = .ok (.invokestatic 37, 3) := by decide +kernel
theorem dX0_isCookieForm_28 : decode cX0_isCookieForm 28 = .ok (.ifCond .ge 5, 3) := by decide +kernel
theorem dX0_isCookieForm_31 : decode cX0_isCookieForm 31 = .ok (.iconst 0, 1) := by decide +kernel
theorem dX0_isCookieForm_32 : decode cX0_isCookieForm 32 = .ok (.ireturn, 1) := by decide +kernel
theorem dX0_isCookieForm_33 : decode cX0_isCookieForm 33 = .ok (.iinc 1 1, 3) := by decide +kernel
theorem dX0_isCookieForm_36 : decode cX0_isCookieForm 36 = .ok (.goto (-23), 3) := by decide +kernel
theorem dX0_isCookieForm_39 : decode cX0_isCookieForm 39 = .ok (.aload_n 0, 1) := by decide +kernel
theorem dX0_isCookieForm_40 : decode cX0_isCookieForm 40 = .ok (.getfield 33, 3) := by decide +kernel
theorem dX0_isCookieForm_43 : decode cX0_isCookieForm 43 = .ok (.bipush 29, 2) := by decide +kernel
theorem dX0_isCookieForm_45 : decode cX0_isCookieForm 45 = .ok (.iaload, 1) := by decide +kernel
theorem dX0_isCookieForm_46 : decode cX0_isCookieForm 46 = .ok (.invokestatic 37, 3) := by decide +kernel
theorem dX0_isCookieForm_49 : decode cX0_isCookieForm 49 = .ok (.bipush 15, 2) := by decide +kernel
theorem dX0_isCookieForm_51 : decode cX0_isCookieForm 51 = .ok (.iand, 1) := by decide +kernel
theorem dX0_isCookieForm_52 : decode cX0_isCookieForm 52 = .ok (.ifCond .ne 7, 3) := by decide +kernel
theorem dX0_isCookieForm_55 : decode cX0_isCookieForm 55 = .ok (.iconst 1, 1) := by decide +kernel
theorem dX0_isCookieForm_56 : decode cX0_isCookieForm 56 = .ok (.goto 4, 3) := by decide +kernel
theorem dX0_isCookieForm_59 : decode cX0_isCookieForm 59 = .ok (.iconst 0, 1) := by decide +kernel
theorem dX0_isCookieForm_60 : decode cX0_isCookieForm 60 = .ok (.ireturn, 1) := by decide +kernel
theorem dX0_sixBits_0 : decode cX0_sixBits 0 = .ok (.ldc 17, 2) := by decide +kernel
theorem dX0_sixBits_2 : decode cX0_sixBits 2 = .ok (.iload_n 0, 1) := by decide +kernel
theorem dX0_sixBits_3 : decode cX0_sixBits 3 = .ok (.i2c, 1) := by decide +kernel
theorem dX0_sixBits_4 : decode cX0_sixBits 4 = .ok (.invokevirtual 41, 3) := by decide +kernel
theorem dX0_sixBits_7 : decode cX0_sixBits 7 = .ok (.ireturn, 1) := by decide +kernel
theorem dX1_init_0 : decode cX1_init 0 = .ok (.aload_n 0, 1) := by decide +kernel
theorem dX1_init_1 : decode cX1_init 1 = .ok (.invokespecial 1, 3) := by decide +kernel
theorem dX1_init_4 : decode cX1_init 4 = .ok (.aload_n 0, 1) := by decide +kernel
theorem dX1_init_5 : decode cX1_init 5 = .ok (.bipush 16, 2) := by decide +kernel
theorem dX1_init_7 : decode cX1_init 7 = .ok (.newarray .int, 2) := by decide +kernel
theorem dX1_init_9 : decode cX1_init 9 = .ok (.putfield 9, 3) := by decide +kernel
theorem dX1_init_12 : decode cX1_init 12 = .ok (.aload_n 0, 1) := by decide +kernel
theorem dX1_init_13 : decode cX1_init 13 = .ok (.iconst 0, 1) := by decide +kernel
theorem dX1_init_14 : decode cX1_init 14 = .ok (.putfield 13, 3) := by decide +kernel
theorem dX1_init_17 : decode cX1_init 17 = .ok (.aload_n 0, 1) := by decide +kernel
theorem dX1_init_18 : decode cX1_init 18 = .ok (.lconst 0, 1) := by decide +kernel
theorem dX1_init_19 : decode cX1_init 19 = .ok (.putfield 17, 3) := by decide +kernel
theorem dX1_init_22 : decode cX1_init 22 = .ok (.return_, 1) := by decide +kernel
theorem dX1_fill_0 : decode cX1_fill 0 = .ok (.iconst 0, 1) := by decide +kernel
theorem dX1_fill_1 : decode cX1_fill 1 = .ok (.istore 5, 2) := by decide +kernel
theorem dX1_fill_3 : decode cX1_fill 3 = .ok (.iload 5, 2) := by decide +kernel
theorem dX1_fill_5 : decode cX1_fill 5 = .ok (.iconst 4, 1) := by decide +kernel
theorem dX1_fill_6 : decode cX1_fill 6 = .ok (.if_icmp .ge 70, 3) := by decide +kernel
theorem dX1_fill_9 : decode cX1_fill 9 = .ok (.aload_n 0, 1) := by decide +kernel
theorem dX1_fill_10 : decode cX1_fill 10 = .ok (.getfield 9, 3) := by decide +kernel
theorem dX1_fill_13 : decode cX1_fill 13 = .ok (.iload 5, 2) := by decide +kernel
theorem dX1_fill_15 : decode cX1_fill 15 = .ok (.iload_n 1, 1) := by decide +kernel
theorem dX1_fill_16 : decode cX1_fill 16 = .ok (.iload 5, 2) := by decide +kernel
theorem dX1_fill_18 : decode cX1_fill 18 = .ok (.invokestatic 21, 3) := by decide +kernel
theorem dX1_fill_21 : decode cX1_fill 21 = .ok (.iastore, 1) := by decide +kernel
theorem dX1_fill_22 : decode cX1_fill 22 = .ok (.aload_n 0, 1) := by decide +kernel
theorem dX1_fill_23 : decode cX1_fill 23 = .ok (.getfield 9, 3) := by decide +kernel
theorem dX1_fill_26 : decode cX1_fill 26 = .ok (.iconst 4, 1) := by decide +kernel
theorem dX1_fill_27 : decode cX1_fill 27 = .ok (.iload 5, 2) := by decide +kernel
theorem dX1_fill_29 : decode cX1_fill 29 = .ok (.iadd, 1) := by decide +kernel
theorem dX1_fill_30 : decode cX1_fill 30 = .ok (.iload_n 2, 1) := by decide +kernel
theorem dX1_fill_31 : decode cX1_fill 31 = .ok (.iload 5, 2) := by decide +kernel
theorem dX1_fill_33 : decode cX1_fill 33 = .ok (.invokestatic 21, 3) := by decide +kernel
theorem dX1_fill_36 : decode cX1_fill 36 = .ok (.iastore, 1) := by decide +kernel
theorem dX1_fill_37 : decode cX1_fill 37 = .ok (.aload_n 0, 1) := by decide +kernel
theorem dX1_fill_38 : decode cX1_fill 38 = .ok (.getfield 9, 3) := by decide +kernel
theorem dX1_fill_41 : decode cX1_fill 41 = .ok (.bipush 8, 2) := by decide +kernel
theorem dX1_fill_43 : decode cX1_fill 43 = .ok (.iload 5, 2) := by decide +kernel
theorem dX1_fill_45 : decode cX1_fill 45 = .ok (.iadd, 1) := by decide +kernel
theorem dX1_fill_46 : decode cX1_fill 46 = .ok (.iload_n 3, 1) := by decide +kernel
theorem dX1_fill_47 : decode cX1_fill 47 = .ok (.iload 5, 2) := by decide +kernel
theorem dX1_fill_49 : decode cX1_fill 49 = .ok (.invokestatic 21, 3) := by decide +kernel
theorem dX1_fill_52 : decode cX1_fill 52 = .ok (.iastore, 1) := by decide +kernel
theorem dX1_fill_53 : decode cX1_fill 53 = .ok (.aload_n 0, 1) := by decide +kernel
theorem dX1_fill_54 : decode cX1_fill 54 = .ok (.getfield 9, 3) := by decide +kernel
theorem dX1_fill_57 : decode cX1_fill 57 = .ok (.bipush 12, 2) := by decide +kernel
theorem dX1_fill_59 : decode cX1_fill 59 = .ok (.iload 5, 2) := by decide +kernel
theorem dX1_fill_61 : decode cX1_fill 61 = .ok (.iadd, 1) := by decide +kernel
theorem dX1_fill_62 : decode cX1_fill 62 = .ok (.iload 4, 2) := by decide +kernel
theorem dX1_fill_64 : decode cX1_fill 64 = .ok (.iload 5, 2) := by decide +kernel
theorem dX1_fill_66 : decode cX1_fill 66 = .ok (.invokestatic 21, 3) := by decide +kernel
theorem dX1_fill_69 : decode cX1_fill 69 = .ok (.iastore, 1) := by decide +kernel
theorem dX1_fill_70 : decode cX1_fill 70 = .ok (.iinc 5 1, 3) := by decide +kernel
theorem dX1_fill_73 : decode cX1_fill 73 = .ok (.goto (-70), 3) := by decide +kernel
theorem dX1_fill_76 : decode cX1_fill 76 = .ok (.return_, 1) := by decide +kernel
theorem dX2_init_0 : decode cX2_init 0 = .ok (.aload_n 0, 1) := by decide +kernel
theorem dX2_init_1 : decode cX2_init 1 = .ok (.invokespecial 1, 3) := by decide +kernel
theorem dX2_init_4 : decode cX2_init 4 = .ok (.aload_n 0, 1) := by decide +kernel
theorem dX2_init_5 : decode cX2_init 5 = .ok (.iconst 4, 1) := by decide +kernel
theorem dX2_init_6 : decode cX2_init 6 = .ok (.anewarray 9, 3) := by decide +kernel
theorem dX2_init_9 : decode cX2_init 9 = .ok (.putfield 11, 3) := by decide +kernel
theorem dX2_init_12 : decode cX2_init 12 = .ok (.aload_n 0, 1) := by decide +kernel
theorem dX2_init_13 : decode cX2_init 13 = .ok (.iconst 1, 1) := by decide +kernel
theorem dX2_init_14 : decode cX2_init 14 = .ok (.putfield 15, 3) := by decide +kernel
theorem dX2_init_17 : decode cX2_init 17 = .ok (.aload_n 0, 1) := by decide +kernel
theorem dX2_init_18 : decode cX2_init 18 = .ok (.iconst 0, 1) := by decide +kernel
theorem dX2_init_19 : decode cX2_init 19 = .ok (.putfield 19, 3) := by decide +kernel
theorem dX2_init_22 : decode cX2_init 22 = .ok (.iconst 0, 1) := by decide +kernel
theorem dX2_init_23 : decode cX2_init 23 = .ok (.istore_n 1, 1) := by decide +kernel
theorem dX2_init_24 : decode cX2_init 24 = .ok (.iload_n 1, 1) := by decide +kernel
theorem dX2_init_25 : decode cX2_init 25 = .ok (.iconst 4, 1) := by decide +kernel
theorem dX2_init_26 : decode cX2_init 26 = .ok (.if_icmp .ge 22, 3) := by decide +kernel
theorem dX2_init_29 : decode cX2_init 29 = .ok (.aload_n 0, 1) := by decide +kernel
theorem dX2_init_30 : decode cX2_init 30 = .ok (.getfield 11, 3) := by decide +kernel
theorem dX2_init_33 : decode cX2_init 33 = .ok (.iload_n 1, 1) := by decide +kernel
theorem dX2_init_34 : decode cX2_init 34 = .ok (.new 9, 3) := by decide +kernel
theorem dX2_init_37 : decode cX2_init 37 = .ok (.dup, 1) := by decide +kernel
theorem dX2_init_38 : decode cX2_init 38 = .ok (.invokespecial 22, 3) := by decide +kernel
theorem dX2_init_41 : decode cX2_init 41 = .ok (.aastore, 1) := by decide +kernel
theorem dX2_init_42 : decode cX2_init 42 = .ok (.iinc 1 1, 3) := by decide +kernel
theorem dX2_init_45 : decode cX2_init 45 = .ok (.goto (-21), 3) := by decide +kernel
theorem dX2_init_48 : decode cX2_init 48 = .ok (.return_, 1) := by decide +kernel
theorem dX2_newest_0 : decode cX2_newest 0 = .ok (.aload_n 0, 1) := by decide +kernel
theorem dX2_newest_1 : decode cX2_newest 1 = .ok (.getfield 11, 3) := by decide +kernel
theorem dX2_newest_4 : decode cX2_newest 4 = .ok (.aload_n 0, 1) := by decide +kernel
theorem dX2_newest_5 : decode cX2_newest 5 = .ok (.getfield 19, 3) := by decide +kernel
theorem dX2_newest_8 : decode cX2_newest 8 = .ok (.aaload, 1) := by decide +kernel
theorem dX2_newest_9 : decode cX2_newest 9 = .ok (.areturn, 1) := by decide +kernel
theorem dX2_advance_0 : decode cX2_advance 0 = .ok (.aload_n 0, 1) := by decide +kernel
theorem dX2_advance_1 : decode cX2_advance 1 = .ok (.getfield 11, 3) := by decide +kernel
theorem dX2_advance_4 : decode cX2_advance 4 = .ok (.aload_n 0, 1) := by decide +kernel
theorem dX2_advance_5 : decode cX2_advance 5 = .ok (.getfield 19, 3) := by decide +kernel
theorem dX2_advance_8 : decode cX2_advance 8 = .ok (.aaload, 1) := by decide +kernel
theorem dX2_advance_9 : decode cX2_advance 9 = .ok (.astore_n 3, 1) := by decide +kernel
theorem dX2_advance_10 : decode cX2_advance 10 = .ok (.aload_n 3, 1) := by decide +kernel
theorem dX2_advance_11 : decode cX2_advance 11 = .ok (.lload_n 1, 1) := by decide +kernel
theorem dX2_advance_12 : decode cX2_advance 12 = .ok (.putfield 23, 3) := by decide +kernel
theorem dX2_advance_15 : decode cX2_advance 15 = .ok (.aload_n 0, 1) := by decide +kernel
theorem dX2_advance_16 : decode cX2_advance 16 = .ok (.aload_n 0, 1) := by decide +kernel
theorem dX2_advance_17 : decode cX2_advance 17 = .ok (.getfield 19, 3) := by decide +kernel
theorem dX2_advance_20 : decode cX2_advance 20 = .ok (.iconst 1, 1) := by decide +kernel
theorem dX2_advance_21 : decode cX2_advance 21 = .ok (.iadd, 1) := by decide +kernel
theorem dX2_advance_22 : decode cX2_advance 22 = .ok (.iconst 4, 1) := by decide +kernel
theorem dX2_advance_23 : decode cX2_advance 23 = .ok (.irem, 1) := by decide +kernel
theorem dX2_advance_24 : decode cX2_advance 24 = .ok (.putfield 19, 3) := by decide +kernel
theorem dX2_advance_27 : decode cX2_advance 27 = .ok (.aload_n 0, 1) := by decide +kernel
theorem dX2_advance_28 : decode cX2_advance 28 = .ok (.getfield 11, 3) := by decide +kernel
theorem dX2_advance_31 : decode cX2_advance 31 = .ok (.aload_n 0, 1) := by decide +kernel
theorem dX2_advance_32 : decode cX2_advance 32 = .ok (.getfield 19, 3) := by decide +kernel
theorem dX2_advance_35 : decode cX2_advance 35 = .ok (.aaload, 1) := by decide +kernel
theorem dX2_advance_36 : decode cX2_advance 36 = .ok (.aload_n 3, 1) := by decide +kernel
theorem dX2_advance_37 : decode cX2_advance 37 = .ok (.getfield 27, 3) := by decide +kernel
theorem dX2_advance_40 : decode cX2_advance 40 = .ok (.iconst 1, 1) := by decide +kernel
theorem dX2_advance_41 : decode cX2_advance 41 = .ok (.iadd, 1) := by decide +kernel
theorem dX2_advance_42 : decode cX2_advance 42 = .ok (.sipush 255, 3) := by decide +kernel
theorem dX2_advance_45 : decode cX2_advance 45 = .ok (.iand, 1) := by decide +kernel
theorem dX2_advance_46 : decode cX2_advance 46 = .ok (.putfield 27, 3) := by decide +kernel
theorem dX2_advance_49 : decode cX2_advance 49 = .ok (.aload_n 0, 1) := by decide +kernel
theorem dX2_advance_50 : decode cX2_advance 50 = .ok (.getfield 15, 3) := by decide +kernel
theorem dX2_advance_53 : decode cX2_advance 53 = .ok (.iconst 4, 1) := by decide +kernel
theorem dX2_advance_54 : decode cX2_advance 54 = .ok (.if_icmp .ge 13, 3) := by decide +kernel
theorem dX2_advance_57 : decode cX2_advance 57 = .ok (.aload_n 0, 1) := by decide +kernel
theorem dX2_advance_58 : decode cX2_advance 58 = .ok (.dup, 1) := by decide +kernel
theorem dX2_advance_59 : decode cX2_advance 59 = .ok (.getfield 15, 3) := by decide +kernel
theorem dX2_advance_62 : decode cX2_advance 62 = .ok (.iconst 1, 1) := by decide +kernel
theorem dX2_advance_63 : decode cX2_advance 63 = .ok (.iadd, 1) := by decide +kernel
theorem dX2_advance_64 : decode cX2_advance 64 = .ok (.putfield 15, 3) := by decide +kernel
theorem dX2_advance_67 : decode cX2_advance 67 = .ok (.return_, 1) := by decide +kernel
theorem dX2_isLive_0 : decode cX2_isLive 0 = .ok (.iload_n 1, 1) := by decide +kernel
theorem dX2_isLive_1 : decode cX2_isLive 1 = .ok (.aload_n 0, 1) := by decide +kernel
theorem dX2_isLive_2 : decode cX2_isLive 2 = .ok (.getfield 15, 3) := by decide +kernel
theorem dX2_isLive_5 : decode cX2_isLive 5 = .ok (.if_icmp .lt 5, 3) := by decide +kernel
theorem dX2_isLive_8 : decode cX2_isLive 8 = .ok (.iconst 0, 1) := by decide +kernel
theorem dX2_isLive_9 : decode cX2_isLive 9 = .ok (.ireturn, 1) := by decide +kernel
theorem dX2_isLive_10 : decode cX2_isLive 10 = .ok (.iload_n 1, 1) := by decide +kernel
theorem dX2_isLive_11 : decode cX2_isLive 11 = .ok (.aload_n 0, 1) := by decide +kernel
theorem dX2_isLive_12 : decode cX2_isLive 12 = .ok (.getfield 19, 3) := by decide +kernel
theorem dX2_isLive_15 : decode cX2_isLive 15 = .ok (.if_icmp .eq 20, 3) := by decide +kernel
theorem dX2_isLive_18 : decode cX2_isLive 18 = .ok (.lload_n 2, 1) := by decide +kernel
theorem dX2_isLive_19 : decode cX2_isLive 19 = .ok (.aload_n 0, 1) := by decide +kernel
theorem dX2_isLive_20 : decode cX2_isLive 20 = .ok (.getfield 11, 3) := by decide +kernel
theorem dX2_isLive_23 : decode cX2_isLive 23 = .ok (.iload_n 1, 1) := by decide +kernel
theorem dX2_isLive_24 : decode cX2_isLive 24 = .ok (.aaload, 1) := by decide +kernel
theorem dX2_isLive_25 : decode cX2_isLive 25 = .ok (.getfield 23, 3) := by decide +kernel
theorem dX2_isLive_28 : decode cX2_isLive 28 = .ok (.lsub, 1) := by decide +kernel
theorem dX2_isLive_29 : decode cX2_isLive 29 = .ok (.lload 4, 2) := by decide +kernel
theorem dX2_isLive_31 : decode cX2_isLive 31 = .ok (.lcmp, 1) := by decide +kernel
theorem dX2_isLive_32 : decode cX2_isLive 32 = .ok (.ifCond .ge 7, 3) := by decide +kernel
theorem dX2_isLive_35 : decode cX2_isLive 35 = .ok (.iconst 1, 1) := by decide +kernel
theorem dX2_isLive_36 : decode cX2_isLive 36 = .ok (.goto 4, 3) := by decide +kernel
theorem dX2_isLive_39 : decode cX2_isLive 39 = .ok (.iconst 0, 1) := by decide +kernel
theorem dX2_isLive_40 : decode cX2_isLive 40 = .ok (.ireturn, 1) := by decide +kernel
theorem dX2_liveKey_0 : decode cX2_liveKey 0 = .ok (.iconst 0, 1) := by decide +kernel
theorem dX2_liveKey_1 : decode cX2_liveKey 1 = .ok (.istore 6, 2) := by decide +kernel
theorem dX2_liveKey_3 : decode cX2_liveKey 3 = .ok (.iload 6, 2) := by decide +kernel
theorem dX2_liveKey_5 : decode cX2_liveKey 5 = .ok (.iconst 4, 1) := by decide +kernel
theorem dX2_liveKey_6 : decode cX2_liveKey 6 = .ok (.if_icmp .ge 43, 3) := by decide +kernel
theorem dX2_liveKey_9 : decode cX2_liveKey 9 = .ok (.aload_n 0, 1) := by decide +kernel
theorem dX2_liveKey_10 : decode cX2_liveKey 10 = .ok (.iload 6, 2) := by decide +kernel
theorem dX2_liveKey_12 : decode cX2_liveKey 12 = .ok (.lload_n 2, 1) := by decide +kernel
theorem dX2_liveKey_13 : decode cX2_liveKey 13 = .ok (.lload 4, 2) := by decide +kernel
theorem dX2_liveKey_15 : decode cX2_liveKey 15 = .ok (.invokevirtual 30, 3) := by decide +kernel
theorem dX2_liveKey_18 : decode cX2_liveKey 18 = .ok (.ifCond .eq 25, 3) := by decide +kernel
theorem dX2_liveKey_21 : decode cX2_liveKey 21 = .ok (.aload_n 0, 1) := by decide +kernel
theorem dX2_liveKey_22 : decode cX2_liveKey 22 = .ok (.getfield 11, 3) := by decide +kernel
theorem dX2_liveKey_25 : decode cX2_liveKey 25 = .ok (.iload 6, 2) := by decide +kernel
theorem dX2_liveKey_27 : decode cX2_liveKey 27 = .ok (.aaload, 1) := by decide +kernel
theorem dX2_liveKey_28 : decode cX2_liveKey 28 = .ok (.getfield 27, 3) := by decide +kernel
theorem dX2_liveKey_31 : decode cX2_liveKey 31 = .ok (.iload_n 1, 1) := by decide +kernel
theorem dX2_liveKey_32 : decode cX2_liveKey 32 = .ok (.if_icmp .ne 11, 3) := by decide +kernel
theorem dX2_liveKey_35 : decode cX2_liveKey 35 = .ok (.aload_n 0, 1) := by decide +kernel
theorem dX2_liveKey_36 : decode cX2_liveKey 36 = .ok (.getfield 11, 3) := by decide +kernel
theorem dX2_liveKey_39 : decode cX2_liveKey 39 = .ok (.iload 6, 2) := by decide +kernel
theorem dX2_liveKey_41 : decode cX2_liveKey 41 = .ok (.aaload, 1) := by decide +kernel
theorem dX2_liveKey_42 : decode cX2_liveKey 42 = .ok (.areturn, 1) := by decide +kernel
theorem dX2_liveKey_43 : decode cX2_liveKey 43 = .ok (.iinc 6 1, 3) := by decide +kernel
theorem dX2_liveKey_46 : decode cX2_liveKey 46 = .ok (.goto (-43), 3) := by decide +kernel
theorem dX2_liveKey_49 : decode cX2_liveKey 49 = .ok (.aconst_null, 1) := by decide +kernel
theorem dX2_liveKey_50 : decode cX2_liveKey 50 = .ok (.areturn, 1) := by decide +kernel
theorem dX2_liveOnes_0 : decode cX2_liveOnes 0 = .ok (.iconst 0, 1) := by decide +kernel
theorem dX2_liveOnes_1 : decode cX2_liveOnes 1 = .ok (.istore 5, 2) := by decide +kernel
theorem dX2_liveOnes_3 : decode cX2_liveOnes 3 = .ok (.iconst 0, 1) := by decide +kernel
theorem dX2_liveOnes_4 : decode cX2_liveOnes 4 = .ok (.istore 6, 2) := by decide +kernel
theorem dX2_liveOnes_6 : decode cX2_liveOnes 6 = .ok (.iload 6, 2) := by decide +kernel
theorem dX2_liveOnes_8 : decode cX2_liveOnes 8 = .ok (.iconst 4, 1) := by decide +kernel
theorem dX2_liveOnes_9 : decode cX2_liveOnes 9 = .ok (.if_icmp .ge 23, 3) := by decide +kernel
theorem dX2_liveOnes_12 : decode cX2_liveOnes 12 = .ok (.aload_n 0, 1) := by decide +kernel
theorem dX2_liveOnes_13 : decode cX2_liveOnes 13 = .ok (.iload 6, 2) := by decide +kernel
theorem dX2_liveOnes_15 : decode cX2_liveOnes 15 = .ok (.lload_n 1, 1) := by decide +kernel
theorem dX2_liveOnes_16 : decode cX2_liveOnes 16 = .ok (.lload_n 3, 1) := by decide +kernel
theorem dX2_liveOnes_17 : decode cX2_liveOnes 17 = .ok (.invokevirtual 30, 3) := by decide +kernel
theorem dX2_liveOnes_20 : decode cX2_liveOnes 20 = .ok (.ifCond .eq 6, 3) := by decide +kernel
theorem dX2_liveOnes_23 : decode cX2_liveOnes 23 = .ok (.iinc 5 1, 3) := by decide +kernel
theorem dX2_liveOnes_26 : decode cX2_liveOnes 26 = .ok (.iinc 6 1, 3) := by decide +kernel
theorem dX2_liveOnes_29 : decode cX2_liveOnes 29 = .ok (.goto (-23), 3) := by decide +kernel
theorem dX2_liveOnes_32 : decode cX2_liveOnes 32 = .ok (.iload 5, 2) := by decide +kernel
theorem dX2_liveOnes_34 : decode cX2_liveOnes 34 = .ok (.ireturn, 1) := by decide +kernel
theorem dX3_init_0 : decode cX3_init 0 = .ok (.aload_n 0, 1) := by decide +kernel
theorem dX3_init_1 : decode cX3_init 1 = .ok (.invokespecial 1, 3) := by decide +kernel
theorem dX3_init_4 : decode cX3_init 4 = .ok (.aload_n 0, 1) := by decide +kernel
theorem dX3_init_5 : decode cX3_init 5 = .ok (.bipush 32, 2) := by decide +kernel
theorem dX3_init_7 : decode cX3_init 7 = .ok (.newarray .int, 2) := by decide +kernel
theorem dX3_init_9 : decode cX3_init 9 = .ok (.putfield 9, 3) := by decide +kernel
theorem dX3_init_12 : decode cX3_init 12 = .ok (.aload_n 0, 1) := by decide +kernel
theorem dX3_init_13 : decode cX3_init 13 = .ok (.sipush 128, 3) := by decide +kernel
theorem dX3_init_16 : decode cX3_init 16 = .ok (.newarray .int, 2) := by decide +kernel
theorem dX3_init_18 : decode cX3_init 18 = .ok (.putfield 13, 3) := by decide +kernel
theorem dX3_init_21 : decode cX3_init 21 = .ok (.aload_n 0, 1) := by decide +kernel
theorem dX3_init_22 : decode cX3_init 22 = .ok (.bipush 64, 2) := by decide +kernel
theorem dX3_init_24 : decode cX3_init 24 = .ok (.newarray .int, 2) := by decide +kernel
theorem dX3_init_26 : decode cX3_init 26 = .ok (.putfield 16, 3) := by decide +kernel
theorem dX3_init_29 : decode cX3_init 29 = .ok (.aload_n 0, 1) := by decide +kernel
theorem dX3_init_30 : decode cX3_init 30 = .ok (.bipush 8, 2) := by decide +kernel
theorem dX3_init_32 : decode cX3_init 32 = .ok (.newarray .int, 2) := by decide +kernel
theorem dX3_init_34 : decode cX3_init 34 = .ok (.putfield 19, 3) := by decide +kernel
theorem dX3_init_37 : decode cX3_init 37 = .ok (.return_, 1) := by decide +kernel
theorem dX3_compute_0 : decode cX3_compute 0 = .ok (.aload_n 0, 1) := by decide +kernel
theorem dX3_compute_1 : decode cX3_compute 1 = .ok (.aload_n 1, 1) := by decide +kernel
theorem dX3_compute_2 : decode cX3_compute 2 = .ok (.bipush 54, 2) := by decide +kernel
theorem dX3_compute_4 : decode cX3_compute 4 = .ok (.aload_n 2, 1) := by decide +kernel
theorem dX3_compute_5 : decode cX3_compute 5 = .ok (.iload_n 3, 1) := by decide +kernel
theorem dX3_compute_6 : decode cX3_compute 6 = .ok (.invokevirtual 22, 3) := by decide +kernel
theorem dX3_compute_9 : decode cX3_compute 9 = .ok (.aload_n 0, 1) := by decide +kernel
theorem dX3_compute_10 : decode cX3_compute 10 = .ok (.invokevirtual 26, 3) := by decide +kernel
theorem dX3_compute_13 : decode cX3_compute 13 = .ok (.aload_n 0, 1) := by decide +kernel
theorem dX3_compute_14 : decode cX3_compute 14 = .ok (.aload_n 1, 1) := by decide +kernel
theorem dX3_compute_15 : decode cX3_compute 15 = .ok (.bipush 92, 2) := by decide +kernel
theorem dX3_compute_17 : decode cX3_compute 17 = .ok (.aload_n 0, 1) := by decide +kernel
theorem dX3_compute_18 : decode cX3_compute 18 = .ok (.getfield 9, 3) := by decide +kernel
theorem dX3_compute_21 : decode cX3_compute 21 = .ok (.bipush 32, 2) := by decide +kernel
theorem dX3_compute_23 : decode cX3_compute 23 = .ok (.invokevirtual 22, 3) := by decide +kernel
theorem dX3_compute_26 : decode cX3_compute 26 = .ok (.aload_n 0, 1) := by decide +kernel
theorem dX3_compute_27 : decode cX3_compute 27 = .ok (.invokevirtual 26, 3) := by decide +kernel
theorem dX3_compute_30 : decode cX3_compute 30 = .ok (.return_, 1) := by decide +kernel
theorem dX3_fillBlocks_0 : decode cX3_fillBlocks 0 = .ok (.iconst 0, 1) := by decide +kernel
theorem dX3_fillBlocks_1 : decode cX3_fillBlocks 1 = .ok (.istore 5, 2) := by decide +kernel
theorem dX3_fillBlocks_3 : decode cX3_fillBlocks 3 = .ok (.iload 5, 2) := by decide +kernel
theorem dX3_fillBlocks_5 : decode cX3_fillBlocks 5 = .ok (.bipush 64, 2) := by decide +kernel
theorem dX3_fillBlocks_7 : decode cX3_fillBlocks 7 = .ok (.if_icmp .ge 33, 3) := by decide +kernel
theorem dX3_fillBlocks_10 : decode cX3_fillBlocks 10 = .ok (.aload_n 0, 1) := by decide +kernel
theorem dX3_fillBlocks_11 : decode cX3_fillBlocks 11 = .ok (.getfield 13, 3) := by decide +kernel
theorem dX3_fillBlocks_14 : decode cX3_fillBlocks 14 = .ok (.iload 5, 2) := by decide +kernel
theorem dX3_fillBlocks_16 : decode cX3_fillBlocks 16 = .ok (.iload 5, 2) := by decide +kernel
theorem dX3_fillBlocks_18 : decode cX3_fillBlocks 18 = .ok (.aload_n 1, 1) := by decide +kernel
theorem dX3_fillBlocks_19 : decode cX3_fillBlocks 19 = .ok (.arraylength, 1) := by decide +kernel
theorem dX3_fillBlocks_20 : decode cX3_fillBlocks 20 = .ok (.if_icmp .ge 10, 3) := by decide +kernel
theorem dX3_fillBlocks_23 : decode cX3_fillBlocks 23 = .ok (.aload_n 1, 1) := by decide +kernel
theorem dX3_fillBlocks_24 : decode cX3_fillBlocks 24 = .ok (.iload 5, 2) := by decide +kernel
theorem dX3_fillBlocks_26 : decode cX3_fillBlocks 26 = .ok (.iaload, 1) := by decide +kernel
theorem dX3_fillBlocks_27 : decode cX3_fillBlocks 27 = .ok (.goto 4, 3) := by decide +kernel
theorem dX3_fillBlocks_30 : decode cX3_fillBlocks 30 = .ok (.iconst 0, 1) := by decide +kernel
theorem dX3_fillBlocks_31 : decode cX3_fillBlocks 31 = .ok (.iload_n 2, 1) := by decide +kernel
theorem dX3_fillBlocks_32 : decode cX3_fillBlocks 32 = .ok (.ixor, 1) := by decide +kernel
theorem dX3_fillBlocks_33 : decode cX3_fillBlocks 33 = .ok (.iastore, 1) := by decide +kernel
theorem dX3_fillBlocks_34 : decode cX3_fillBlocks 34 = .ok (.iinc 5 1, 3) := by decide +kernel
theorem dX3_fillBlocks_37 : decode cX3_fillBlocks 37 = .ok (.goto (-34), 3) := by decide +kernel
theorem dX3_fillBlocks_40 : decode cX3_fillBlocks 40 = .ok (.iconst 0, 1) := by decide +kernel
theorem dX3_fillBlocks_41 : decode cX3_fillBlocks 41 = .ok (.istore 5, 2) := by decide +kernel
theorem dX3_fillBlocks_43 : decode cX3_fillBlocks 43 = .ok (.iload 5, 2) := by decide +kernel
theorem dX3_fillBlocks_45 : decode cX3_fillBlocks 45 = .ok (.bipush 64, 2) := by decide +kernel
theorem dX3_fillBlocks_47 : decode cX3_fillBlocks 47 = .ok (.if_icmp .ge 34, 3) := by decide +kernel
theorem dX3_fillBlocks_50 : decode cX3_fillBlocks 50 = .ok (.aload_n 0, 1) := by decide +kernel
theorem dX3_fillBlocks_51 : decode cX3_fillBlocks 51 = .ok (.getfield 13, 3) := by decide +kernel
theorem dX3_fillBlocks_54 : decode cX3_fillBlocks 54 = .ok (.bipush 64, 2) := by decide +kernel
theorem dX3_fillBlocks_56 : decode cX3_fillBlocks 56 = .ok (.iload 5, 2) := by decide +kernel
theorem dX3_fillBlocks_58 : decode cX3_fillBlocks 58 = .ok (.iadd, 1) := by decide +kernel
theorem dX3_fillBlocks_59 : decode cX3_fillBlocks 59 = .ok (.iload 5, 2) := by decide +kernel
theorem dX3_fillBlocks_61 : decode cX3_fillBlocks 61 = .ok (.iload 4, 2) := by decide +kernel
theorem dX3_fillBlocks_63 : decode cX3_fillBlocks 63 = .ok (.if_icmp .ge 10, 3) := by decide +kernel
theorem dX3_fillBlocks_66 : decode cX3_fillBlocks 66 = .ok (.aload_n 3, 1) := by decide +kernel
theorem dX3_fillBlocks_67 : decode cX3_fillBlocks 67 = .ok (.iload 5, 2) := by decide +kernel
theorem dX3_fillBlocks_69 : decode cX3_fillBlocks 69 = .ok (.iaload, 1) := by decide +kernel
theorem dX3_fillBlocks_70 : decode cX3_fillBlocks 70 = .ok (.goto 4, 3) := by decide +kernel
theorem dX3_fillBlocks_73 : decode cX3_fillBlocks 73 = .ok (.iconst 0, 1) := by decide +kernel
theorem dX3_fillBlocks_74 : decode cX3_fillBlocks 74 = .ok (.iastore, 1) := by decide +kernel
theorem dX3_fillBlocks_75 : decode cX3_fillBlocks 75 = .ok (.iinc 5 1, 3) := by decide +kernel
theorem dX3_fillBlocks_78 : decode cX3_fillBlocks 78 = .ok (.goto (-35), 3) := by decide +kernel
theorem dX3_fillBlocks_81 : decode cX3_fillBlocks 81 = .ok (.aload_n 0, 1) := by decide +kernel
theorem dX3_fillBlocks_82 : decode cX3_fillBlocks 82 = .ok (.getfield 13, 3) := by decide +kernel
theorem dX3_fillBlocks_85 : decode cX3_fillBlocks 85 = .ok (.bipush 64, 2) := by decide +kernel
theorem dX3_fillBlocks_87 : decode cX3_fillBlocks 87 = .ok (.iload 4, 2) := by decide +kernel
theorem dX3_fillBlocks_89 : decode cX3_fillBlocks 89 = .ok (.iadd, 1) := by decide +kernel
theorem dX3_fillBlocks_90 : decode cX3_fillBlocks 90 = .ok (.sipush 128, 3) := by decide +kernel
theorem dX3_fillBlocks_93 : decode cX3_fillBlocks 93 = .ok (.iastore, 1) := by decide +kernel
theorem dX3_fillBlocks_94 : decode cX3_fillBlocks 94 = .ok (.bipush 8, 2) := by decide +kernel
theorem dX3_fillBlocks_96 : decode cX3_fillBlocks 96 = .ok (.bipush 64, 2) := by decide +kernel
theorem dX3_fillBlocks_98 : decode cX3_fillBlocks 98 = .ok (.iload 4, 2) := by decide +kernel
theorem dX3_fillBlocks_100 : decode cX3_fillBlocks 100 = .ok (.iadd, 1) := by decide +kernel
theorem dX3_fillBlocks_101 : decode cX3_fillBlocks 101 = .ok (.imul, 1) := by decide +kernel
theorem dX3_fillBlocks_102 : decode cX3_fillBlocks 102 = .ok (.istore 5, 2) := by decide +kernel
theorem dX3_fillBlocks_104 : decode cX3_fillBlocks 104 = .ok (.aload_n 0, 1) := by decide +kernel
theorem dX3_fillBlocks_105 : decode cX3_fillBlocks 105 = .ok (.getfield 13, 3) := by decide +kernel
theorem dX3_fillBlocks_108 : decode cX3_fillBlocks 108 = .ok (.bipush 126, 2) := by decide +kernel
theorem dX3_fillBlocks_110 : decode cX3_fillBlocks 110 = .ok (.iload 5, 2) := by decide +kernel
theorem dX3_fillBlocks_112 : decode cX3_fillBlocks 112 = .ok (.bipush 8, 2) := by decide +kernel
theorem dX3_fillBlocks_114 : decode cX3_fillBlocks 114 = .ok (.iushr, 1) := by decide +kernel
theorem dX3_fillBlocks_115 : decode cX3_fillBlocks 115 = .ok (.iastore, 1) := by decide +kernel
theorem dX3_fillBlocks_116 : decode cX3_fillBlocks 116 = .ok (.aload_n 0, 1) := by decide +kernel
theorem dX3_fillBlocks_117 : decode cX3_fillBlocks 117 = .ok (.getfield 13, 3) := by decide +kernel
theorem dX3_fillBlocks_120 : decode cX3_fillBlocks 120 = .ok (.bipush 127, 2) := by decide +kernel
theorem dX3_fillBlocks_122 : decode cX3_fillBlocks 122 = .ok (.iload 5, 2) := by decide +kernel
theorem dX3_fillBlocks_124 : decode cX3_fillBlocks 124 = .ok (.sipush 255, 3) := by decide +kernel
theorem dX3_fillBlocks_127 : decode cX3_fillBlocks 127 = .ok (.iand, 1) := by decide +kernel
theorem dX3_fillBlocks_128 : decode cX3_fillBlocks 128 = .ok (.iastore, 1) := by decide +kernel
theorem dX3_fillBlocks_129 : decode cX3_fillBlocks 129 = .ok (.return_, 1) := by decide +kernel
theorem dX3_hashBlocks_0 : decode cX3_hashBlocks 0 = .ok (.getstatic 29, 3) := by decide +kernel
theorem dX3_hashBlocks_3 : decode cX3_hashBlocks 3 = .ok (.iconst 0, 1) := by decide +kernel
theorem dX3_hashBlocks_4 : decode cX3_hashBlocks 4 = .ok (.aload_n 0, 1) := by decide +kernel
theorem dX3_hashBlocks_5 : decode cX3_hashBlocks 5 = .ok (.getfield 19, 3) := by decide +kernel
theorem dX3_hashBlocks_8 : decode cX3_hashBlocks 8 = .ok (.iconst 0, 1) := by decide +kernel
theorem dX3_hashBlocks_9 : decode cX3_hashBlocks 9 = .ok (.aload_n 0, 1) := by decide +kernel
theorem dX3_hashBlocks_10 : decode cX3_hashBlocks 10 = .ok (.getfield 19, 3) := by decide +kernel
theorem dX3_hashBlocks_13 : decode cX3_hashBlocks 13 = .ok (.arraylength, 1) := by decide +kernel
theorem dX3_hashBlocks_14 : decode cX3_hashBlocks 14 = .ok (.invokestatic 32, 3) := by decide +kernel
theorem dX3_hashBlocks_17 : decode cX3_hashBlocks 17 = .ok (.aload_n 0, 1) := by decide +kernel
theorem dX3_hashBlocks_18 : decode cX3_hashBlocks 18 = .ok (.iconst 0, 1) := by decide +kernel
theorem dX3_hashBlocks_19 : decode cX3_hashBlocks 19 = .ok (.invokevirtual 38, 3) := by decide +kernel
theorem dX3_hashBlocks_22 : decode cX3_hashBlocks 22 = .ok (.aload_n 0, 1) := by decide +kernel
theorem dX3_hashBlocks_23 : decode cX3_hashBlocks 23 = .ok (.invokevirtual 42, 3) := by decide +kernel
theorem dX3_hashBlocks_26 : decode cX3_hashBlocks 26 = .ok (.aload_n 0, 1) := by decide +kernel
theorem dX3_hashBlocks_27 : decode cX3_hashBlocks 27 = .ok (.bipush 64, 2) := by decide +kernel
theorem dX3_hashBlocks_29 : decode cX3_hashBlocks 29 = .ok (.invokevirtual 38, 3) := by decide +kernel
theorem dX3_hashBlocks_32 : decode cX3_hashBlocks 32 = .ok (.aload_n 0, 1) := by decide +kernel
theorem dX3_hashBlocks_33 : decode cX3_hashBlocks 33 = .ok (.invokevirtual 42, 3) := by decide +kernel
theorem dX3_hashBlocks_36 : decode cX3_hashBlocks 36 = .ok (.iconst 0, 1) := by decide +kernel
theorem dX3_hashBlocks_37 : decode cX3_hashBlocks 37 = .ok (.istore_n 1, 1) := by decide +kernel
theorem dX3_hashBlocks_38 : decode cX3_hashBlocks 38 = .ok (.iload_n 1, 1) := by decide +kernel
theorem dX3_hashBlocks_39 : decode cX3_hashBlocks 39 = .ok (.bipush 32, 2) := by decide +kernel
theorem dX3_hashBlocks_41 : decode cX3_hashBlocks 41 = .ok (.if_icmp .ge 29, 3) := by decide +kernel
theorem dX3_hashBlocks_44 : decode cX3_hashBlocks 44 = .ok (.aload_n 0, 1) := by decide +kernel
theorem dX3_hashBlocks_45 : decode cX3_hashBlocks 45 = .ok (.getfield 9, 3) := by decide +kernel
theorem dX3_hashBlocks_48 : decode cX3_hashBlocks 48 = .ok (.iload_n 1, 1) := by decide +kernel
theorem dX3_hashBlocks_49 : decode cX3_hashBlocks 49 = .ok (.aload_n 0, 1) := by decide +kernel
theorem dX3_hashBlocks_50 : decode cX3_hashBlocks 50 = .ok (.getfield 19, 3) := by decide +kernel
theorem dX3_hashBlocks_53 : decode cX3_hashBlocks 53 = .ok (.iload_n 1, 1) := by decide +kernel
theorem dX3_hashBlocks_54 : decode cX3_hashBlocks 54 = .ok (.iconst 4, 1) := by decide +kernel
theorem dX3_hashBlocks_55 : decode cX3_hashBlocks 55 = .ok (.idiv, 1) := by decide +kernel
theorem dX3_hashBlocks_56 : decode cX3_hashBlocks 56 = .ok (.iaload, 1) := by decide +kernel
theorem dX3_hashBlocks_57 : decode cX3_hashBlocks 57 = .ok (.iload_n 1, 1) := by decide +kernel
theorem dX3_hashBlocks_58 : decode cX3_hashBlocks 58 = .ok (.iconst 4, 1) := by decide +kernel
theorem dX3_hashBlocks_59 : decode cX3_hashBlocks 59 = .ok (.irem, 1) := by decide +kernel
theorem dX3_hashBlocks_60 : decode cX3_hashBlocks 60 = .ok (.invokestatic 45, 3) := by decide +kernel
theorem dX3_hashBlocks_63 : decode cX3_hashBlocks 63 = .ok (.iastore, 1) := by decide +kernel
theorem dX3_hashBlocks_64 : decode cX3_hashBlocks 64 = .ok (.iinc 1 1, 3) := by decide +kernel
theorem dX3_hashBlocks_67 : decode cX3_hashBlocks 67 = .ok (.goto (-29), 3) := by decide +kernel
theorem dX3_hashBlocks_70 : decode cX3_hashBlocks 70 = .ok (.return_, 1) := by decide +kernel
theorem dX3_fillSchedule_0 : decode cX3_fillSchedule 0 = .ok (.iconst 0, 1) := by decide +kernel
theorem dX3_fillSchedule_1 : decode cX3_fillSchedule 1 = .ok (.istore_n 2, 1) := by decide +kernel
theorem dX3_fillSchedule_2 : decode cX3_fillSchedule 2 = .ok (.iload_n 2, 1) := by decide +kernel
theorem dX3_fillSchedule_3 : decode cX3_fillSchedule 3 = .ok (.bipush 16, 2) := by decide +kernel
theorem dX3_fillSchedule_5 : decode cX3_fillSchedule 5 = .ok (.if_icmp .ge 63, 3) := by decide +kernel
theorem dX3_fillSchedule_8 : decode cX3_fillSchedule 8 = .ok (.iload_n 1, 1) := by decide +kernel
theorem dX3_fillSchedule_9 : decode cX3_fillSchedule 9 = .ok (.iconst 4, 1) := by decide +kernel
theorem dX3_fillSchedule_10 : decode cX3_fillSchedule 10 = .ok (.iload_n 2, 1) := by decide +kernel
theorem dX3_fillSchedule_11 : decode cX3_fillSchedule 11 = .ok (.imul, 1) := by decide +kernel
theorem dX3_fillSchedule_12 : decode cX3_fillSchedule 12 = .ok (.iadd, 1) := by decide +kernel
theorem dX3_fillSchedule_13 : decode cX3_fillSchedule 13 = .ok (.istore_n 3, 1) := by decide +kernel
theorem dX3_fillSchedule_14 : decode cX3_fillSchedule 14 = .ok (.aload_n 0, 1) := by decide +kernel
theorem dX3_fillSchedule_15 : decode cX3_fillSchedule 15 = .ok (.getfield 16, 3) := by decide +kernel
theorem dX3_fillSchedule_18 : decode cX3_fillSchedule 18 = .ok (.iload_n 2, 1) := by decide +kernel
theorem dX3_fillSchedule_19 : decode cX3_fillSchedule 19 = .ok (.aload_n 0, 1) := by decide +kernel
theorem dX3_fillSchedule_20 : decode cX3_fillSchedule 20 = .ok (.getfield 13, 3) := by decide +kernel
theorem dX3_fillSchedule_23 : decode cX3_fillSchedule 23 = .ok (.iload_n 3, 1) := by decide +kernel
theorem dX3_fillSchedule_24 : decode cX3_fillSchedule 24 = .ok (.iaload, 1) := by decide +kernel
theorem dX3_fillSchedule_25 : decode cX3_fillSchedule 25 = .ok (.bipush 24, 2) := by decide +kernel
theorem dX3_fillSchedule_27 : decode cX3_fillSchedule 27 = .ok (.ishl, 1) := by decide +kernel
theorem dX3_fillSchedule_28 : decode cX3_fillSchedule 28 = .ok (.aload_n 0, 1) := by decide +kernel
theorem dX3_fillSchedule_29 : decode cX3_fillSchedule 29 = .ok (.getfield 13, 3) := by decide +kernel
theorem dX3_fillSchedule_32 : decode cX3_fillSchedule 32 = .ok (.iload_n 3, 1) := by decide +kernel
theorem dX3_fillSchedule_33 : decode cX3_fillSchedule 33 = .ok (.iconst 1, 1) := by decide +kernel
theorem dX3_fillSchedule_34 : decode cX3_fillSchedule 34 = .ok (.iadd, 1) := by decide +kernel
theorem dX3_fillSchedule_35 : decode cX3_fillSchedule 35 = .ok (.iaload, 1) := by decide +kernel
theorem dX3_fillSchedule_36 : decode cX3_fillSchedule 36 = .ok (.bipush 16, 2) := by decide +kernel
theorem dX3_fillSchedule_38 : decode cX3_fillSchedule 38 = .ok (.ishl, 1) := by decide +kernel
theorem dX3_fillSchedule_39 : decode cX3_fillSchedule 39 = .ok (.ior, 1) := by decide +kernel
theorem dX3_fillSchedule_40 : decode cX3_fillSchedule 40 = .ok (.aload_n 0, 1) := by decide +kernel
theorem dX3_fillSchedule_41 : decode cX3_fillSchedule 41 = .ok (.getfield 13, 3) := by decide +kernel
theorem dX3_fillSchedule_44 : decode cX3_fillSchedule 44 = .ok (.iload_n 3, 1) := by decide +kernel
theorem dX3_fillSchedule_45 : decode cX3_fillSchedule 45 = .ok (.iconst 2, 1) := by decide +kernel
theorem dX3_fillSchedule_46 : decode cX3_fillSchedule 46 = .ok (.iadd, 1) := by decide +kernel
theorem dX3_fillSchedule_47 : decode cX3_fillSchedule 47 = .ok (.iaload, 1) := by decide +kernel
theorem dX3_fillSchedule_48 : decode cX3_fillSchedule 48 = .ok (.bipush 8, 2) := by decide +kernel
theorem dX3_fillSchedule_50 : decode cX3_fillSchedule 50 = .ok (.ishl, 1) := by decide +kernel
theorem dX3_fillSchedule_51 : decode cX3_fillSchedule 51 = .ok (.ior, 1) := by decide +kernel
theorem dX3_fillSchedule_52 : decode cX3_fillSchedule 52 = .ok (.aload_n 0, 1) := by decide +kernel
theorem dX3_fillSchedule_53 : decode cX3_fillSchedule 53 = .ok (.getfield 13, 3) := by decide +kernel
theorem dX3_fillSchedule_56 : decode cX3_fillSchedule 56 = .ok (.iload_n 3, 1) := by decide +kernel
theorem dX3_fillSchedule_57 : decode cX3_fillSchedule 57 = .ok (.iconst 3, 1) := by decide +kernel
theorem dX3_fillSchedule_58 : decode cX3_fillSchedule 58 = .ok (.iadd, 1) := by decide +kernel
theorem dX3_fillSchedule_59 : decode cX3_fillSchedule 59 = .ok (.iaload, 1) := by decide +kernel
theorem dX3_fillSchedule_60 : decode cX3_fillSchedule 60 = .ok (.ior, 1) := by decide +kernel
theorem dX3_fillSchedule_61 : decode cX3_fillSchedule 61 = .ok (.iastore, 1) := by decide +kernel
theorem dX3_fillSchedule_62 : decode cX3_fillSchedule 62 = .ok (.iinc 2 1, 3) := by decide +kernel
theorem dX3_fillSchedule_65 : decode cX3_fillSchedule 65 = .ok (.goto (-63), 3) := by decide +kernel
theorem dX3_fillSchedule_68 : decode cX3_fillSchedule 68 = .ok (.bipush 16, 2) := by decide +kernel
theorem dX3_fillSchedule_70 : decode cX3_fillSchedule 70 = .ok (.istore_n 2, 1) := by decide +kernel
theorem dX3_fillSchedule_71 : decode cX3_fillSchedule 71 = .ok (.iload_n 2, 1) := by decide +kernel
theorem dX3_fillSchedule_72 : decode cX3_fillSchedule 72 = .ok (.bipush 64, 2) := by decide +kernel
theorem dX3_fillSchedule_74 : decode cX3_fillSchedule 74 = .ok (.if_icmp .ge 102, 3) := by decide +kernel
theorem dX3_fillSchedule_77 : decode cX3_fillSchedule 77 = .ok (.aload_n 0, 1) := by decide +kernel
theorem dX3_fillSchedule_78 : decode cX3_fillSchedule 78 = .ok (.getfield 16, 3) := by decide +kernel
theorem dX3_fillSchedule_81 : decode cX3_fillSchedule 81 = .ok (.iload_n 2, 1) := by decide +kernel
theorem dX3_fillSchedule_82 : decode cX3_fillSchedule 82 = .ok (.iconst 2, 1) := by decide +kernel
theorem dX3_fillSchedule_83 : decode cX3_fillSchedule 83 = .ok (.isub, 1) := by decide +kernel
theorem dX3_fillSchedule_84 : decode cX3_fillSchedule 84 = .ok (.iaload, 1) := by decide +kernel
theorem dX3_fillSchedule_85 : decode cX3_fillSchedule 85 = .ok (.istore_n 3, 1) := by decide +kernel
theorem dX3_fillSchedule_86 : decode cX3_fillSchedule 86 = .ok (.aload_n 0, 1) := by decide +kernel
theorem dX3_fillSchedule_87 : decode cX3_fillSchedule 87 = .ok (.getfield 16, 3) := by decide +kernel
theorem dX3_fillSchedule_90 : decode cX3_fillSchedule 90 = .ok (.iload_n 2, 1) := by decide +kernel
theorem dX3_fillSchedule_91 : decode cX3_fillSchedule 91 = .ok (.bipush 15, 2) := by decide +kernel
theorem dX3_fillSchedule_93 : decode cX3_fillSchedule 93 = .ok (.isub, 1) := by decide +kernel
theorem dX3_fillSchedule_94 : decode cX3_fillSchedule 94 = .ok (.iaload, 1) := by decide +kernel
theorem dX3_fillSchedule_95 : decode cX3_fillSchedule 95 = .ok (.istore 4, 2) := by decide +kernel
theorem dX3_fillSchedule_97 : decode cX3_fillSchedule 97 = .ok (.iload_n 3, 1) := by decide +kernel
theorem dX3_fillSchedule_98 : decode cX3_fillSchedule 98 = .ok (.bipush 17, 2) := by decide +kernel
theorem dX3_fillSchedule_100 : decode cX3_fillSchedule 100 = .ok (.invokestatic 51, 3) := by decide +kernel
theorem dX3_fillSchedule_103 : decode cX3_fillSchedule 103 = .ok (.iload_n 3, 1) := by decide +kernel
theorem dX3_fillSchedule_104 : decode cX3_fillSchedule 104 = .ok (.bipush 19, 2) := by decide +kernel
theorem dX3_fillSchedule_106 : decode cX3_fillSchedule 106 = .ok (.invokestatic 51, 3) := by decide +kernel
theorem dX3_fillSchedule_109 : decode cX3_fillSchedule 109 = .ok (.ixor, 1) := by decide +kernel
theorem dX3_fillSchedule_110 : decode cX3_fillSchedule 110 = .ok (.iload_n 3, 1) := by decide +kernel
theorem dX3_fillSchedule_111 : decode cX3_fillSchedule 111 = .ok (.bipush 10, 2) := by decide +kernel
theorem dX3_fillSchedule_113 : decode cX3_fillSchedule 113 = .ok (.iushr, 1) := by decide +kernel
theorem dX3_fillSchedule_114 : decode cX3_fillSchedule 114 = .ok (.ixor, 1) := by decide +kernel
theorem dX3_fillSchedule_115 : decode cX3_fillSchedule 115 = .ok (.istore 5, 2) := by decide +kernel
theorem dX3_fillSchedule_117 : decode cX3_fillSchedule 117 = .ok (.iload 4, 2) := by decide +kernel
theorem dX3_fillSchedule_119 : decode cX3_fillSchedule 119 = .ok (.bipush 7, 2) := by decide +kernel
theorem dX3_fillSchedule_121 : decode cX3_fillSchedule 121 = .ok (.invokestatic 51, 3) := by decide +kernel
theorem dX3_fillSchedule_124 : decode cX3_fillSchedule 124 = .ok (.iload 4, 2) := by decide +kernel
theorem dX3_fillSchedule_126 : decode cX3_fillSchedule 126 = .ok (.bipush 18, 2) := by decide +kernel
theorem dX3_fillSchedule_128 : decode cX3_fillSchedule 128 = .ok (.invokestatic 51, 3) := by decide +kernel
theorem dX3_fillSchedule_131 : decode cX3_fillSchedule 131 = .ok (.ixor, 1) := by decide +kernel
theorem dX3_fillSchedule_132 : decode cX3_fillSchedule 132 = .ok (.iload 4, 2) := by decide +kernel
theorem dX3_fillSchedule_134 : decode cX3_fillSchedule 134 = .ok (.iconst 3, 1) := by decide +kernel
theorem dX3_fillSchedule_135 : decode cX3_fillSchedule 135 = .ok (.iushr, 1) := by decide +kernel
theorem dX3_fillSchedule_136 : decode cX3_fillSchedule 136 = .ok (.ixor, 1) := by decide +kernel
theorem dX3_fillSchedule_137 : decode cX3_fillSchedule 137 = .ok (.istore 6, 2) := by decide +kernel
theorem dX3_fillSchedule_139 : decode cX3_fillSchedule 139 = .ok (.aload_n 0, 1) := by decide +kernel
theorem dX3_fillSchedule_140 : decode cX3_fillSchedule 140 = .ok (.getfield 16, 3) := by decide +kernel
theorem dX3_fillSchedule_143 : decode cX3_fillSchedule 143 = .ok (.iload_n 2, 1) := by decide +kernel
theorem dX3_fillSchedule_144 : decode cX3_fillSchedule 144 = .ok (.iload 5, 2) := by decide +kernel
theorem dX3_fillSchedule_146 : decode cX3_fillSchedule 146 = .ok (.aload_n 0, 1) := by decide +kernel
theorem dX3_fillSchedule_147 : decode cX3_fillSchedule 147 = .ok (.getfield 16, 3) := by decide +kernel
theorem dX3_fillSchedule_150 : decode cX3_fillSchedule 150 = .ok (.iload_n 2, 1) := by decide +kernel
theorem dX3_fillSchedule_151 : decode cX3_fillSchedule 151 = .ok (.bipush 7, 2) := by decide +kernel
theorem dX3_fillSchedule_153 : decode cX3_fillSchedule 153 = .ok (.isub, 1) := by decide +kernel
theorem dX3_fillSchedule_154 : decode cX3_fillSchedule 154 = .ok (.iaload, 1) := by decide +kernel
theorem dX3_fillSchedule_155 : decode cX3_fillSchedule 155 = .ok (.iadd, 1) := by decide +kernel
theorem dX3_fillSchedule_156 : decode cX3_fillSchedule 156 = .ok (.iload 6, 2) := by decide +kernel
theorem dX3_fillSchedule_158 : decode cX3_fillSchedule 158 = .ok (.iadd, 1) := by decide +kernel
theorem dX3_fillSchedule_159 : decode cX3_fillSchedule 159 = .ok (.aload_n 0, 1) := by decide +kernel
theorem dX3_fillSchedule_160 : decode cX3_fillSchedule 160 = .ok (.getfield 16, 3) := by decide +kernel
theorem dX3_fillSchedule_163 : decode cX3_fillSchedule 163 = .ok (.iload_n 2, 1) := by decide +kernel
theorem dX3_fillSchedule_164 : decode cX3_fillSchedule 164 = .ok (.bipush 16, 2) := by decide +kernel
theorem dX3_fillSchedule_166 : decode cX3_fillSchedule 166 = .ok (.isub, 1) := by decide +kernel
theorem dX3_fillSchedule_167 : decode cX3_fillSchedule 167 = .ok (.iaload, 1) := by decide +kernel
theorem dX3_fillSchedule_168 : decode cX3_fillSchedule 168 = .ok (.iadd, 1) := by decide +kernel
theorem dX3_fillSchedule_169 : decode cX3_fillSchedule 169 = .ok (.iastore, 1) := by decide +kernel
theorem dX3_fillSchedule_170 : decode cX3_fillSchedule 170 = .ok (.iinc 2 1, 3) := by decide +kernel
theorem dX3_fillSchedule_173 : decode cX3_fillSchedule 173 = .ok (.goto (-102), 3) := by decide +kernel
theorem dX3_fillSchedule_176 : decode cX3_fillSchedule 176 = .ok (.return_, 1) := by decide +kernel
theorem dX3_mixSchedule_0 : decode cX3_mixSchedule 0 = .ok (.aload_n 0, 1) := by decide +kernel
theorem dX3_mixSchedule_1 : decode cX3_mixSchedule 1 = .ok (.getfield 19, 3) := by decide +kernel
theorem dX3_mixSchedule_4 : decode cX3_mixSchedule 4 = .ok (.iconst 0, 1) := by decide +kernel
theorem dX3_mixSchedule_5 : decode cX3_mixSchedule 5 = .ok (.iaload, 1) := by decide +kernel
theorem dX3_mixSchedule_6 : decode cX3_mixSchedule 6 = .ok (.istore_n 1, 1) := by decide +kernel
theorem dX3_mixSchedule_7 : decode cX3_mixSchedule 7 = .ok (.aload_n 0, 1) := by decide +kernel
theorem dX3_mixSchedule_8 : decode cX3_mixSchedule 8 = .ok (.getfield 19, 3) := by decide +kernel
theorem dX3_mixSchedule_11 : decode cX3_mixSchedule 11 = .ok (.iconst 1, 1) := by decide +kernel
theorem dX3_mixSchedule_12 : decode cX3_mixSchedule 12 = .ok (.iaload, 1) := by decide +kernel
theorem dX3_mixSchedule_13 : decode cX3_mixSchedule 13 = .ok (.istore_n 2, 1) := by decide +kernel
theorem dX3_mixSchedule_14 : decode cX3_mixSchedule 14 = .ok (.aload_n 0, 1) := by decide +kernel
theorem dX3_mixSchedule_15 : decode cX3_mixSchedule 15 = .ok (.getfield 19, 3) := by decide +kernel
theorem dX3_mixSchedule_18 : decode cX3_mixSchedule 18 = .ok (.iconst 2, 1) := by decide +kernel
theorem dX3_mixSchedule_19 : decode cX3_mixSchedule 19 = .ok (.iaload, 1) := by decide +kernel
theorem dX3_mixSchedule_20 : decode cX3_mixSchedule 20 = .ok (.istore_n 3, 1) := by decide +kernel
theorem dX3_mixSchedule_21 : decode cX3_mixSchedule 21 = .ok (.aload_n 0, 1) := by decide +kernel
theorem dX3_mixSchedule_22 : decode cX3_mixSchedule 22 = .ok (.getfield 19, 3) := by decide +kernel
theorem dX3_mixSchedule_25 : decode cX3_mixSchedule 25 = .ok (.iconst 3, 1) := by decide +kernel
theorem dX3_mixSchedule_26 : decode cX3_mixSchedule 26 = .ok (.iaload, 1) := by decide +kernel
theorem dX3_mixSchedule_27 : decode cX3_mixSchedule 27 = .ok (.istore 4, 2) := by decide +kernel
theorem dX3_mixSchedule_29 : decode cX3_mixSchedule 29 = .ok (.aload_n 0, 1) := by decide +kernel
theorem dX3_mixSchedule_30 : decode cX3_mixSchedule 30 = .ok (.getfield 19, 3) := by decide +kernel
theorem dX3_mixSchedule_33 : decode cX3_mixSchedule 33 = .ok (.iconst 4, 1) := by decide +kernel
theorem dX3_mixSchedule_34 : decode cX3_mixSchedule 34 = .ok (.iaload, 1) := by decide +kernel
theorem dX3_mixSchedule_35 : decode cX3_mixSchedule 35 = .ok (.istore 5, 2) := by decide +kernel
theorem dX3_mixSchedule_37 : decode cX3_mixSchedule 37 = .ok (.aload_n 0, 1) := by decide +kernel
theorem dX3_mixSchedule_38 : decode cX3_mixSchedule 38 = .ok (.getfield 19, 3) := by decide +kernel
theorem dX3_mixSchedule_41 : decode cX3_mixSchedule 41 = .ok (.iconst 5, 1) := by decide +kernel
theorem dX3_mixSchedule_42 : decode cX3_mixSchedule 42 = .ok (.iaload, 1) := by decide +kernel
theorem dX3_mixSchedule_43 : decode cX3_mixSchedule 43 = .ok (.istore 6, 2) := by decide +kernel
theorem dX3_mixSchedule_45 : decode cX3_mixSchedule 45 = .ok (.aload_n 0, 1) := by decide +kernel
theorem dX3_mixSchedule_46 : decode cX3_mixSchedule 46 = .ok (.getfield 19, 3) := by decide +kernel
theorem dX3_mixSchedule_49 : decode cX3_mixSchedule 49 = .ok (.bipush 6, 2) := by decide +kernel
theorem dX3_mixSchedule_51 : decode cX3_mixSchedule 51 = .ok (.iaload, 1) := by decide +kernel
theorem dX3_mixSchedule_52 : decode cX3_mixSchedule 52 = .ok (.istore 7, 2) := by decide +kernel
theorem dX3_mixSchedule_54 : decode cX3_mixSchedule 54 = .ok (.aload_n 0, 1) := by decide +kernel
theorem dX3_mixSchedule_55 : decode cX3_mixSchedule 55 = .ok (.getfield 19, 3) := by decide +kernel
theorem dX3_mixSchedule_58 : decode cX3_mixSchedule 58 = .ok (.bipush 7, 2) := by decide +kernel
theorem dX3_mixSchedule_60 : decode cX3_mixSchedule 60 = .ok (.iaload, 1) := by decide +kernel
theorem dX3_mixSchedule_61 : decode cX3_mixSchedule 61 = .ok (.istore 8, 2) := by decide +kernel
theorem dX3_mixSchedule_63 : decode cX3_mixSchedule 63 = .ok (.iconst 0, 1) := by decide +kernel
theorem dX3_mixSchedule_64 : decode cX3_mixSchedule 64 = .ok (.istore 9, 2) := by decide +kernel
theorem dX3_mixSchedule_66 : decode cX3_mixSchedule 66 = .ok (.iload 9, 2) := by decide +kernel
theorem dX3_mixSchedule_68 : decode cX3_mixSchedule 68 = .ok (.bipush 64, 2) := by decide +kernel
theorem dX3_mixSchedule_70 : decode cX3_mixSchedule 70 = .ok (.if_icmp .ge 139, 3) := by decide +kernel
theorem dX3_mixSchedule_73 : decode cX3_mixSchedule 73 = .ok (.iload 5, 2) := by decide +kernel
theorem dX3_mixSchedule_75 : decode cX3_mixSchedule 75 = .ok (.iload 6, 2) := by decide +kernel
theorem dX3_mixSchedule_77 : decode cX3_mixSchedule 77 = .ok (.iand, 1) := by decide +kernel
theorem dX3_mixSchedule_78 : decode cX3_mixSchedule 78 = .ok (.iload 5, 2) := by decide +kernel
theorem dX3_mixSchedule_80 : decode cX3_mixSchedule 80 = .ok (.iconst (-1), 1) := by decide +kernel
theorem dX3_mixSchedule_81 : decode cX3_mixSchedule 81 = .ok (.ixor, 1) := by decide +kernel
theorem dX3_mixSchedule_82 : decode cX3_mixSchedule 82 = .ok (.iload 7, 2) := by decide +kernel
theorem dX3_mixSchedule_84 : decode cX3_mixSchedule 84 = .ok (.iand, 1) := by decide +kernel
theorem dX3_mixSchedule_85 : decode cX3_mixSchedule 85 = .ok (.ixor, 1) := by decide +kernel
theorem dX3_mixSchedule_86 : decode cX3_mixSchedule 86 = .ok (.istore 10, 2) := by decide +kernel
theorem dX3_mixSchedule_88 : decode cX3_mixSchedule 88 = .ok (.iload_n 1, 1) := by decide +kernel
theorem dX3_mixSchedule_89 : decode cX3_mixSchedule 89 = .ok (.iload_n 2, 1) := by decide +kernel
theorem dX3_mixSchedule_90 : decode cX3_mixSchedule 90 = .ok (.iand, 1) := by decide +kernel
theorem dX3_mixSchedule_91 : decode cX3_mixSchedule 91 = .ok (.iload_n 1, 1) := by decide +kernel
theorem dX3_mixSchedule_92 : decode cX3_mixSchedule 92 = .ok (.iload_n 3, 1) := by decide +kernel
theorem dX3_mixSchedule_93 : decode cX3_mixSchedule 93 = .ok (.iand, 1) := by decide +kernel
theorem dX3_mixSchedule_94 : decode cX3_mixSchedule 94 = .ok (.ixor, 1) := by decide +kernel
theorem dX3_mixSchedule_95 : decode cX3_mixSchedule 95 = .ok (.iload_n 2, 1) := by decide +kernel
theorem dX3_mixSchedule_96 : decode cX3_mixSchedule 96 = .ok (.iload_n 3, 1) := by decide +kernel
theorem dX3_mixSchedule_97 : decode cX3_mixSchedule 97 = .ok (.iand, 1) := by decide +kernel
theorem dX3_mixSchedule_98 : decode cX3_mixSchedule 98 = .ok (.ixor, 1) := by decide +kernel
theorem dX3_mixSchedule_99 : decode cX3_mixSchedule 99 = .ok (.istore 11, 2) := by decide +kernel
theorem dX3_mixSchedule_101 : decode cX3_mixSchedule 101 = .ok (.iload 8, 2) := by decide +kernel
theorem dX3_mixSchedule_103 : decode cX3_mixSchedule 103 = .ok (.iload 5, 2) := by decide +kernel
theorem dX3_mixSchedule_105 : decode cX3_mixSchedule 105 = .ok (.bipush 6, 2) := by decide +kernel
theorem dX3_mixSchedule_107 : decode cX3_mixSchedule 107 = .ok (.invokestatic 51, 3) := by decide +kernel
theorem dX3_mixSchedule_110 : decode cX3_mixSchedule 110 = .ok (.iload 5, 2) := by decide +kernel
theorem dX3_mixSchedule_112 : decode cX3_mixSchedule 112 = .ok (.bipush 11, 2) := by decide +kernel
theorem dX3_mixSchedule_114 : decode cX3_mixSchedule 114 = .ok (.invokestatic 51, 3) := by decide +kernel
theorem dX3_mixSchedule_117 : decode cX3_mixSchedule 117 = .ok (.ixor, 1) := by decide +kernel
theorem dX3_mixSchedule_118 : decode cX3_mixSchedule 118 = .ok (.iload 5, 2) := by decide +kernel
theorem dX3_mixSchedule_120 : decode cX3_mixSchedule 120 = .ok (.bipush 25, 2) := by decide +kernel
theorem dX3_mixSchedule_122 : decode cX3_mixSchedule 122 = .ok (.invokestatic 51, 3) := by decide +kernel
theorem dX3_mixSchedule_125 : decode cX3_mixSchedule 125 = .ok (.ixor, 1) := by decide +kernel
theorem dX3_mixSchedule_126 : decode cX3_mixSchedule 126 = .ok (.iadd, 1) := by decide +kernel
theorem dX3_mixSchedule_127 : decode cX3_mixSchedule 127 = .ok (.iload 10, 2) := by decide +kernel
theorem dX3_mixSchedule_129 : decode cX3_mixSchedule 129 = .ok (.iadd, 1) := by decide +kernel
theorem dX3_mixSchedule_130 : decode cX3_mixSchedule 130 = .ok (.getstatic 54, 3) := by decide +kernel
theorem dX3_mixSchedule_133 : decode cX3_mixSchedule 133 = .ok (.iload 9, 2) := by decide +kernel
theorem dX3_mixSchedule_135 : decode cX3_mixSchedule 135 = .ok (.iaload, 1) := by decide +kernel
theorem dX3_mixSchedule_136 : decode cX3_mixSchedule 136 = .ok (.iadd, 1) := by decide +kernel
theorem dX3_mixSchedule_137 : decode cX3_mixSchedule 137 = .ok (.aload_n 0, 1) := by decide +kernel
theorem dX3_mixSchedule_138 : decode cX3_mixSchedule 138 = .ok (.getfield 16, 3) := by decide +kernel
theorem dX3_mixSchedule_141 : decode cX3_mixSchedule 141 = .ok (.iload 9, 2) := by decide +kernel
theorem dX3_mixSchedule_143 : decode cX3_mixSchedule 143 = .ok (.iaload, 1) := by decide +kernel
theorem dX3_mixSchedule_144 : decode cX3_mixSchedule 144 = .ok (.iadd, 1) := by decide +kernel
theorem dX3_mixSchedule_145 : decode cX3_mixSchedule 145 = .ok (.istore 12, 2) := by decide +kernel
theorem dX3_mixSchedule_147 : decode cX3_mixSchedule 147 = .ok (.iload_n 1, 1) := by decide +kernel
theorem dX3_mixSchedule_148 : decode cX3_mixSchedule 148 = .ok (.iconst 2, 1) := by decide +kernel
theorem dX3_mixSchedule_149 : decode cX3_mixSchedule 149 = .ok (.invokestatic 51, 3) := by decide +kernel
theorem dX3_mixSchedule_152 : decode cX3_mixSchedule 152 = .ok (.iload_n 1, 1) := by decide +kernel
theorem dX3_mixSchedule_153 : decode cX3_mixSchedule 153 = .ok (.bipush 13, 2) := by decide +kernel
theorem dX3_mixSchedule_155 : decode cX3_mixSchedule 155 = .ok (.invokestatic 51, 3) := by decide +kernel
theorem dX3_mixSchedule_158 : decode cX3_mixSchedule 158 = .ok (.ixor, 1) := by decide +kernel
theorem dX3_mixSchedule_159 : decode cX3_mixSchedule 159 = .ok (.iload_n 1, 1) := by decide +kernel
theorem dX3_mixSchedule_160 : decode cX3_mixSchedule 160 = .ok (.bipush 22, 2) := by decide +kernel
theorem dX3_mixSchedule_162 : decode cX3_mixSchedule 162 = .ok (.invokestatic 51, 3) := by decide +kernel
theorem dX3_mixSchedule_165 : decode cX3_mixSchedule 165 = .ok (.ixor, 1) := by decide +kernel
theorem dX3_mixSchedule_166 : decode cX3_mixSchedule 166 = .ok (.iload 11, 2) := by decide +kernel
theorem dX3_mixSchedule_168 : decode cX3_mixSchedule 168 = .ok (.iadd, 1) := by decide +kernel
theorem dX3_mixSchedule_169 : decode cX3_mixSchedule 169 = .ok (.istore 13, 2) := by decide +kernel
theorem dX3_mixSchedule_171 : decode cX3_mixSchedule 171 = .ok (.iload 7, 2) := by decide +kernel
theorem dX3_mixSchedule_173 : decode cX3_mixSchedule 173 = .ok (.istore 8, 2) := by decide +kernel
theorem dX3_mixSchedule_175 : decode cX3_mixSchedule 175 = .ok (.iload 6, 2) := by decide +kernel
theorem dX3_mixSchedule_177 : decode cX3_mixSchedule 177 = .ok (.istore 7, 2) := by decide +kernel
theorem dX3_mixSchedule_179 : decode cX3_mixSchedule 179 = .ok (.iload 5, 2) := by decide +kernel
theorem dX3_mixSchedule_181 : decode cX3_mixSchedule 181 = .ok (.istore 6, 2) := by decide +kernel
theorem dX3_mixSchedule_183 : decode cX3_mixSchedule 183 = .ok (.iload 4, 2) := by decide +kernel
theorem dX3_mixSchedule_185 : decode cX3_mixSchedule 185 = .ok (.iload 12, 2) := by decide +kernel
theorem dX3_mixSchedule_187 : decode cX3_mixSchedule 187 = .ok (.iadd, 1) := by decide +kernel
theorem dX3_mixSchedule_188 : decode cX3_mixSchedule 188 = .ok (.istore 5, 2) := by decide +kernel
theorem dX3_mixSchedule_190 : decode cX3_mixSchedule 190 = .ok (.iload_n 3, 1) := by decide +kernel
theorem dX3_mixSchedule_191 : decode cX3_mixSchedule 191 = .ok (.istore 4, 2) := by decide +kernel
theorem dX3_mixSchedule_193 : decode cX3_mixSchedule 193 = .ok (.iload_n 2, 1) := by decide +kernel
theorem dX3_mixSchedule_194 : decode cX3_mixSchedule 194 = .ok (.istore_n 3, 1) := by decide +kernel
theorem dX3_mixSchedule_195 : decode cX3_mixSchedule 195 = .ok (.iload_n 1, 1) := by decide +kernel
theorem dX3_mixSchedule_196 : decode cX3_mixSchedule 196 = .ok (.istore_n 2, 1) := by decide +kernel
theorem dX3_mixSchedule_197 : decode cX3_mixSchedule 197 = .ok (.iload 12, 2) := by decide +kernel
theorem dX3_mixSchedule_199 : decode cX3_mixSchedule 199 = .ok (.iload 13, 2) := by decide +kernel
theorem dX3_mixSchedule_201 : decode cX3_mixSchedule 201 = .ok (.iadd, 1) := by decide +kernel
theorem dX3_mixSchedule_202 : decode cX3_mixSchedule 202 = .ok (.istore_n 1, 1) := by decide +kernel
theorem dX3_mixSchedule_203 : decode cX3_mixSchedule 203 = .ok (.iinc 9 1, 3) := by decide +kernel
theorem dX3_mixSchedule_206 : decode cX3_mixSchedule 206 = .ok (.goto (-140), 3) := by decide +kernel
theorem dX3_mixSchedule_209 : decode cX3_mixSchedule 209 = .ok (.aload_n 0, 1) := by decide +kernel
theorem dX3_mixSchedule_210 : decode cX3_mixSchedule 210 = .ok (.getfield 19, 3) := by decide +kernel
theorem dX3_mixSchedule_213 : decode cX3_mixSchedule 213 = .ok (.iconst 0, 1) := by decide +kernel
theorem dX3_mixSchedule_214 : decode cX3_mixSchedule 214 = .ok (.dup2, 1) := by decide +kernel
theorem dX3_mixSchedule_215 : decode cX3_mixSchedule 215 = .ok (.iaload, 1) := by decide +kernel
theorem dX3_mixSchedule_216 : decode cX3_mixSchedule 216 = .ok (.iload_n 1, 1) := by decide +kernel
theorem dX3_mixSchedule_217 : decode cX3_mixSchedule 217 = .ok (.iadd, 1) := by decide +kernel
theorem dX3_mixSchedule_218 : decode cX3_mixSchedule 218 = .ok (.iastore, 1) := by decide +kernel
theorem dX3_mixSchedule_219 : decode cX3_mixSchedule 219 = .ok (.aload_n 0, 1) := by decide +kernel
theorem dX3_mixSchedule_220 : decode cX3_mixSchedule 220 = .ok (.getfield 19, 3) := by decide +kernel
theorem dX3_mixSchedule_223 : decode cX3_mixSchedule 223 = .ok (.iconst 1, 1) := by decide +kernel
theorem dX3_mixSchedule_224 : decode cX3_mixSchedule 224 = .ok (.dup2, 1) := by decide +kernel
theorem dX3_mixSchedule_225 : decode cX3_mixSchedule 225 = .ok (.iaload, 1) := by decide +kernel
theorem dX3_mixSchedule_226 : decode cX3_mixSchedule 226 = .ok (.iload_n 2, 1) := by decide +kernel
theorem dX3_mixSchedule_227 : decode cX3_mixSchedule 227 = .ok (.iadd, 1) := by decide +kernel
theorem dX3_mixSchedule_228 : decode cX3_mixSchedule 228 = .ok (.iastore, 1) := by decide +kernel
theorem dX3_mixSchedule_229 : decode cX3_mixSchedule 229 = .ok (.aload_n 0, 1) := by decide +kernel
theorem dX3_mixSchedule_230 : decode cX3_mixSchedule 230 = .ok (.getfield 19, 3) := by decide +kernel
theorem dX3_mixSchedule_233 : decode cX3_mixSchedule 233 = .ok (.iconst 2, 1) := by decide +kernel
theorem dX3_mixSchedule_234 : decode cX3_mixSchedule 234 = .ok (.dup2, 1) := by decide +kernel
theorem dX3_mixSchedule_235 : decode cX3_mixSchedule 235 = .ok (.iaload, 1) := by decide +kernel
theorem dX3_mixSchedule_236 : decode cX3_mixSchedule 236 = .ok (.iload_n 3, 1) := by decide +kernel
theorem dX3_mixSchedule_237 : decode cX3_mixSchedule 237 = .ok (.iadd, 1) := by decide +kernel
theorem dX3_mixSchedule_238 : decode cX3_mixSchedule 238 = .ok (.iastore, 1) := by decide +kernel
theorem dX3_mixSchedule_239 : decode cX3_mixSchedule 239 = .ok (.aload_n 0, 1) := by decide +kernel
theorem dX3_mixSchedule_240 : decode cX3_mixSchedule 240 = .ok (.getfield 19, 3) := by decide +kernel
theorem dX3_mixSchedule_243 : decode cX3_mixSchedule 243 = .ok (.iconst 3, 1) := by decide +kernel
theorem dX3_mixSchedule_244 : decode cX3_mixSchedule 244 = .ok (.dup2, 1) := by decide +kernel
theorem dX3_mixSchedule_245 : decode cX3_mixSchedule 245 = .ok (.iaload, 1) := by decide +kernel
theorem dX3_mixSchedule_246 : decode cX3_mixSchedule 246 = .ok (.iload 4, 2) := by decide +kernel
theorem dX3_mixSchedule_248 : decode cX3_mixSchedule 248 = .ok (.iadd, 1) := by decide +kernel
theorem dX3_mixSchedule_249 : decode cX3_mixSchedule 249 = .ok (.iastore, 1) := by decide +kernel
theorem dX3_mixSchedule_250 : decode cX3_mixSchedule 250 = .ok (.aload_n 0, 1) := by decide +kernel
theorem dX3_mixSchedule_251 : decode cX3_mixSchedule 251 = .ok (.getfield 19, 3) := by decide +kernel
theorem dX3_mixSchedule_254 : decode cX3_mixSchedule 254 = .ok (.iconst 4, 1) := by decide +kernel
theorem dX3_mixSchedule_255 : decode cX3_mixSchedule 255 = .ok (.dup2, 1) := by decide +kernel
theorem dX3_mixSchedule_256 : decode cX3_mixSchedule 256 = .ok (.iaload, 1) := by decide +kernel
theorem dX3_mixSchedule_257 : decode cX3_mixSchedule 257 = .ok (.iload 5, 2) := by decide +kernel
theorem dX3_mixSchedule_259 : decode cX3_mixSchedule 259 = .ok (.iadd, 1) := by decide +kernel
theorem dX3_mixSchedule_260 : decode cX3_mixSchedule 260 = .ok (.iastore, 1) := by decide +kernel
theorem dX3_mixSchedule_261 : decode cX3_mixSchedule 261 = .ok (.aload_n 0, 1) := by decide +kernel
theorem dX3_mixSchedule_262 : decode cX3_mixSchedule 262 = .ok (.getfield 19, 3) := by decide +kernel
theorem dX3_mixSchedule_265 : decode cX3_mixSchedule 265 = .ok (.iconst 5, 1) := by decide +kernel
theorem dX3_mixSchedule_266 : decode cX3_mixSchedule 266 = .ok (.dup2, 1) := by decide +kernel
theorem dX3_mixSchedule_267 : decode cX3_mixSchedule 267 = .ok (.iaload, 1) := by decide +kernel
theorem dX3_mixSchedule_268 : decode cX3_mixSchedule 268 = .ok (.iload 6, 2) := by decide +kernel
theorem dX3_mixSchedule_270 : decode cX3_mixSchedule 270 = .ok (.iadd, 1) := by decide +kernel
theorem dX3_mixSchedule_271 : decode cX3_mixSchedule 271 = .ok (.iastore, 1) := by decide +kernel
theorem dX3_mixSchedule_272 : decode cX3_mixSchedule 272 = .ok (.aload_n 0, 1) := by decide +kernel
theorem dX3_mixSchedule_273 : decode cX3_mixSchedule 273 = .ok (.getfield 19, 3) := by decide +kernel
theorem dX3_mixSchedule_276 : decode cX3_mixSchedule 276 = .ok (.bipush 6, 2) := by decide +kernel
theorem dX3_mixSchedule_278 : decode cX3_mixSchedule 278 = .ok (.dup2, 1) := by decide +kernel
theorem dX3_mixSchedule_279 : decode cX3_mixSchedule 279 = .ok (.iaload, 1) := by decide +kernel
theorem dX3_mixSchedule_280 : decode cX3_mixSchedule 280 = .ok (.iload 7, 2) := by decide +kernel
theorem dX3_mixSchedule_282 : decode cX3_mixSchedule 282 = .ok (.iadd, 1) := by decide +kernel
theorem dX3_mixSchedule_283 : decode cX3_mixSchedule 283 = .ok (.iastore, 1) := by decide +kernel
theorem dX3_mixSchedule_284 : decode cX3_mixSchedule 284 = .ok (.aload_n 0, 1) := by decide +kernel
theorem dX3_mixSchedule_285 : decode cX3_mixSchedule 285 = .ok (.getfield 19, 3) := by decide +kernel
theorem dX3_mixSchedule_288 : decode cX3_mixSchedule 288 = .ok (.bipush 7, 2) := by decide +kernel
theorem dX3_mixSchedule_290 : decode cX3_mixSchedule 290 = .ok (.dup2, 1) := by decide +kernel
theorem dX3_mixSchedule_291 : decode cX3_mixSchedule 291 = .ok (.iaload, 1) := by decide +kernel
theorem dX3_mixSchedule_292 : decode cX3_mixSchedule 292 = .ok (.iload 8, 2) := by decide +kernel
theorem dX3_mixSchedule_294 : decode cX3_mixSchedule 294 = .ok (.iadd, 1) := by decide +kernel
theorem dX3_mixSchedule_295 : decode cX3_mixSchedule 295 = .ok (.iastore, 1) := by decide +kernel
theorem dX3_mixSchedule_296 : decode cX3_mixSchedule 296 = .ok (.return_, 1) := by decide +kernel
theorem dX3_turn_0 : decode cX3_turn 0 = .ok (.iload_n 0, 1) := by decide +kernel
theorem dX3_turn_1 : decode cX3_turn 1 = .ok (.iload_n 1, 1) := by decide +kernel
theorem dX3_turn_2 : decode cX3_turn 2 = .ok (.iushr, 1) := by decide +kernel
theorem dX3_turn_3 : decode cX3_turn 3 = .ok (.iload_n 0, 1) := by decide +kernel
theorem dX3_turn_4 : decode cX3_turn 4 = .ok (.bipush 32, 2) := by decide +kernel
theorem dX3_turn_6 : decode cX3_turn 6 = .ok (.iload_n 1, 1) := by decide +kernel
theorem dX3_turn_7 : decode cX3_turn 7 = .ok (.isub, 1) := by decide +kernel
theorem dX3_turn_8 : decode cX3_turn 8 = .ok (.ishl, 1) := by decide +kernel
theorem dX3_turn_9 : decode cX3_turn 9 = .ok (.ior, 1) := by decide +kernel
theorem dX3_turn_10 : decode cX3_turn 10 = .ok (.ireturn, 1) := by decide +kernel
theorem dX4_init_0 : decode cX4_init 0 = .ok (.aload_n 0, 1) := by decide +kernel
theorem dX4_init_1 : decode cX4_init 1 = .ok (.invokespecial 1, 3) := by decide +kernel
theorem dX4_init_4 : decode cX4_init 4 = .ok (.aload_n 0, 1) := by decide +kernel
theorem dX4_init_5 : decode cX4_init 5 = .ok (.iconst 0, 1) := by decide +kernel
theorem dX4_init_6 : decode cX4_init 6 = .ok (.putfield 7, 3) := by decide +kernel
theorem dX4_init_9 : decode cX4_init 9 = .ok (.aload_n 0, 1) := by decide +kernel
theorem dX4_init_10 : decode cX4_init 10 = .ok (.iconst 0, 1) := by decide +kernel
theorem dX4_init_11 : decode cX4_init 11 = .ok (.putfield 13, 3) := by decide +kernel
theorem dX4_init_14 : decode cX4_init 14 = .ok (.aload_n 0, 1) := by decide +kernel
theorem dX4_init_15 : decode cX4_init 15 = .ok (.lconst 0, 1) := by decide +kernel
theorem dX4_init_16 : decode cX4_init 16 = .ok (.putfield 17, 3) := by decide +kernel
theorem dX4_init_19 : decode cX4_init 19 = .ok (.aload_n 0, 1) := by decide +kernel
theorem dX4_init_20 : decode cX4_init 20 = .ok (.lconst 0, 1) := by decide +kernel
theorem dX4_init_21 : decode cX4_init 21 = .ok (.putfield 21, 3) := by decide +kernel
theorem dX4_init_24 : decode cX4_init 24 = .ok (.aload_n 0, 1) := by decide +kernel
theorem dX4_init_25 : decode cX4_init 25 = .ok (.lconst 0, 1) := by decide +kernel
theorem dX4_init_26 : decode cX4_init 26 = .ok (.putfield 24, 3) := by decide +kernel
theorem dX4_init_29 : decode cX4_init 29 = .ok (.return_, 1) := by decide +kernel
theorem dX4_begin_0 : decode cX4_begin 0 = .ok (.aload_n 0, 1) := by decide +kernel
theorem dX4_begin_1 : decode cX4_begin 1 = .ok (.iconst 1, 1) := by decide +kernel
theorem dX4_begin_2 : decode cX4_begin 2 = .ok (.putfield 7, 3) := by decide +kernel
theorem dX4_begin_5 : decode cX4_begin 5 = .ok (.aload_n 0, 1) := by decide +kernel
theorem dX4_begin_6 : decode cX4_begin 6 = .ok (.iload_n 1, 1) := by decide +kernel
theorem dX4_begin_7 : decode cX4_begin 7 = .ok (.putfield 13, 3) := by decide +kernel
theorem dX4_begin_10 : decode cX4_begin 10 = .ok (.aload_n 0, 1) := by decide +kernel
theorem dX4_begin_11 : decode cX4_begin 11 = .ok (.lload_n 2, 1) := by decide +kernel
theorem dX4_begin_12 : decode cX4_begin 12 = .ok (.putfield 17, 3) := by decide +kernel
theorem dX4_begin_15 : decode cX4_begin 15 = .ok (.aload_n 0, 1) := by decide +kernel
theorem dX4_begin_16 : decode cX4_begin 16 = .ok (.lload 4, 2) := by decide +kernel
theorem dX4_begin_18 : decode cX4_begin 18 = .ok (.putfield 21, 3) := by decide +kernel
theorem dX4_begin_21 : decode cX4_begin 21 = .ok (.aload_n 0, 1) := by decide +kernel
theorem dX4_begin_22 : decode cX4_begin 22 = .ok (.lload 4, 2) := by decide +kernel
theorem dX4_begin_24 : decode cX4_begin 24 = .ok (.putfield 24, 3) := by decide +kernel
theorem dX4_begin_27 : decode cX4_begin 27 = .ok (.return_, 1) := by decide +kernel
theorem dX5_init_0 : decode cX5_init 0 = .ok (.aload_n 0, 1) := by decide +kernel
theorem dX5_init_1 : decode cX5_init 1 = .ok (.invokespecial 3, 3) := by decide +kernel
theorem dX5_init_4 : decode cX5_init 4 = .ok (.aload_n 0, 1) := by decide +kernel
theorem dX5_init_5 : decode cX5_init 5 = .ok (.bipush 40, 2) := by decide +kernel
theorem dX5_init_7 : decode cX5_init 7 = .ok (.newarray .int, 2) := by decide +kernel
theorem dX5_init_9 : decode cX5_init 9 = .ok (.putfield 9, 3) := by decide +kernel
theorem dX5_init_12 : decode cX5_init 12 = .ok (.aload_n 0, 1) := by decide +kernel
theorem dX5_init_13 : decode cX5_init 13 = .ok (.iconst 0, 1) := by decide +kernel
theorem dX5_init_14 : decode cX5_init 14 = .ok (.putfield 15, 3) := by decide +kernel
theorem dX5_init_17 : decode cX5_init 17 = .ok (.return_, 1) := by decide +kernel
theorem dX5_has_0 : decode cX5_has 0 = .ok (.iload_n 1, 1) := by decide +kernel
theorem dX5_has_1 : decode cX5_has 1 = .ok (.ifCond .lt 15, 3) := by decide +kernel
theorem dX5_has_4 : decode cX5_has 4 = .ok (.iload_n 1, 1) := by decide +kernel
theorem dX5_has_5 : decode cX5_has 5 = .ok (.aload_n 0, 1) := by decide +kernel
theorem dX5_has_6 : decode cX5_has 6 = .ok (.getfield 15, 3) := by decide +kernel
theorem dX5_has_9 : decode cX5_has 9 = .ok (.if_icmp .ge 7, 3) := by decide +kernel
theorem dX5_has_12 : decode cX5_has 12 = .ok (.iconst 1, 1) := by decide +kernel
theorem dX5_has_13 : decode cX5_has 13 = .ok (.goto 4, 3) := by decide +kernel
theorem dX5_has_16 : decode cX5_has 16 = .ok (.iconst 0, 1) := by decide +kernel
theorem dX5_has_17 : decode cX5_has 17 = .ok (.ireturn, 1) := by decide +kernel
theorem dX5_addSign_0 : decode cX5_addSign 0 = .ok (.aload_n 0, 1) := by decide +kernel
theorem dX5_addSign_1 : decode cX5_addSign 1 = .ok (.getfield 15, 3) := by decide +kernel
theorem dX5_addSign_4 : decode cX5_addSign 4 = .ok (.bipush 40, 2) := by decide +kernel
theorem dX5_addSign_6 : decode cX5_addSign 6 = .ok (.if_icmp .ge 23, 3) := by decide +kernel
theorem dX5_addSign_9 : decode cX5_addSign 9 = .ok (.aload_n 0, 1) := by decide +kernel
theorem dX5_addSign_10 : decode cX5_addSign 10 = .ok (.getfield 9, 3) := by decide +kernel
theorem dX5_addSign_13 : decode cX5_addSign 13 = .ok (.aload_n 0, 1) := by decide +kernel
theorem dX5_addSign_14 : decode cX5_addSign 14 = .ok (.getfield 15, 3) := by decide +kernel
theorem dX5_addSign_17 : decode cX5_addSign 17 = .ok (.iload_n 1, 1) := by decide +kernel
theorem dX5_addSign_18 : decode cX5_addSign 18 = .ok (.iastore, 1) := by decide +kernel
theorem dX5_addSign_19 : decode cX5_addSign 19 = .ok (.aload_n 0, 1) := by decide +kernel
theorem dX5_addSign_20 : decode cX5_addSign 20 = .ok (.dup, 1) := by decide +kernel
theorem dX5_addSign_21 : decode cX5_addSign 21 = .ok (.getfield 15, 3) := by decide +kernel
theorem dX5_addSign_24 : decode cX5_addSign 24 = .ok (.iconst 1, 1) := by decide +kernel
theorem dX5_addSign_25 : decode cX5_addSign 25 = .ok (.iadd, 1) := by decide +kernel
theorem dX5_addSign_26 : decode cX5_addSign 26 = .ok (.putfield 15, 3) := by decide +kernel
theorem dX5_addSign_29 : decode cX5_addSign 29 = .ok (.return_, 1) := by decide +kernel
theorem dX5_addSigns_0 : decode cX5_addSigns 0 = .ok (.iconst 0, 1) := by decide +kernel
theorem dX5_addSigns_1 : decode cX5_addSigns 1 = .ok (.istore_n 2, 1) := by decide +kernel
theorem dX5_addSigns_2 : decode cX5_addSigns 2 = .ok (.iload_n 2, 1) := by decide +kernel
theorem dX5_addSigns_3 : decode cX5_addSigns 3 = .ok (.iconst 4, 1) := by decide +kernel
theorem dX5_addSigns_4 : decode cX5_addSigns 4 = .ok (.if_icmp .ge 24, 3) := by decide +kernel
theorem dX5_addSigns_7 : decode cX5_addSigns 7 = .ok (.iload_n 1, 1) := by decide +kernel
theorem dX5_addSigns_8 : decode cX5_addSigns 8 = .ok (.iload_n 2, 1) := by decide +kernel
theorem dX5_addSigns_9 : decode cX5_addSigns 9 = .ok (.invokestatic 19, 3) := by decide +kernel
theorem dX5_addSigns_12 : decode cX5_addSigns 12 = .ok (.istore_n 3, 1) := by decide +kernel
theorem dX5_addSigns_13 : decode cX5_addSigns 13 = .ok (.iload_n 3, 1) := by decide +kernel
theorem dX5_addSigns_14 : decode cX5_addSigns 14 = .ok (.ifCond .eq 8, 3) := by decide +kernel
theorem dX5_addSigns_17 : decode cX5_addSigns 17 = .ok (.aload_n 0, 1) := by decide +kernel
theorem dX5_addSigns_18 : decode cX5_addSigns 18 = .ok (.iload_n 3, 1) := by decide +kernel
theorem dX5_addSigns_19 : decode cX5_addSigns 19 = .ok (.invokevirtual 23, 3) := by decide +kernel
theorem dX5_addSigns_22 : decode cX5_addSigns 22 = .ok (.iinc 2 1, 3) := by decide +kernel
theorem dX5_addSigns_25 : decode cX5_addSigns 25 = .ok (.goto (-23), 3) := by decide +kernel
theorem dX5_addSigns_28 : decode cX5_addSigns 28 = .ok (.return_, 1) := by decide +kernel
theorem dX5_isSameAs_0 : decode cX5_isSameAs 0 = .ok (.aload_n 0, 1) := by decide +kernel
theorem dX5_isSameAs_1 : decode cX5_isSameAs 1 = .ok (.getfield 15, 3) := by decide +kernel
theorem dX5_isSameAs_4 : decode cX5_isSameAs 4 = .ok (.aload_n 1, 1) := by decide +kernel
theorem dX5_isSameAs_5 : decode cX5_isSameAs 5 = .ok (.getfield 15, 3) := by decide +kernel
theorem dX5_isSameAs_8 : decode cX5_isSameAs 8 = .ok (.if_icmp .eq 5, 3) := by decide +kernel
theorem dX5_isSameAs_11 : decode cX5_isSameAs 11 = .ok (.iconst 0, 1) := by decide +kernel
theorem dX5_isSameAs_12 : decode cX5_isSameAs 12 = .ok (.ireturn, 1) := by decide +kernel
theorem dX5_isSameAs_13 : decode cX5_isSameAs 13 = .ok (.iconst 0, 1) := by decide +kernel
theorem dX5_isSameAs_14 : decode cX5_isSameAs 14 = .ok (.istore_n 2, 1) := by decide +kernel
theorem dX5_isSameAs_15 : decode cX5_isSameAs 15 = .ok (.iload_n 2, 1) := by decide +kernel
theorem dX5_isSameAs_16 : decode cX5_isSameAs 16 = .ok (.aload_n 0, 1) := by decide +kernel
theorem dX5_isSameAs_17 : decode cX5_isSameAs 17 = .ok (.getfield 15, 3) := by decide +kernel
theorem dX5_isSameAs_20 : decode cX5_isSameAs 20 = .ok (.if_icmp .ge 26, 3) := by decide +kernel
theorem dX5_isSameAs_23 : decode cX5_isSameAs 23 = .ok (.aload_n 0, 1) := by decide +kernel
theorem dX5_isSameAs_24 : decode cX5_isSameAs 24 = .ok (.getfield 9, 3) := by decide +kernel
theorem dX5_isSameAs_27 : decode cX5_isSameAs 27 = .ok (.iload_n 2, 1) := by decide +kernel
theorem dX5_isSameAs_28 : decode cX5_isSameAs 28 = .ok (.iaload, 1) := by decide +kernel
theorem dX5_isSameAs_29 : decode cX5_isSameAs 29 = .ok (.aload_n 1, 1) := by decide +kernel
theorem dX5_isSameAs_30 : decode cX5_isSameAs 30 = .ok (.getfield 9, 3) := by decide +kernel
theorem dX5_isSameAs_33 : decode cX5_isSameAs 33 = .ok (.iload_n 2, 1) := by decide +kernel
theorem dX5_isSameAs_34 : decode cX5_isSameAs 34 = .ok (.iaload, 1) := by decide +kernel
theorem dX5_isSameAs_35 : decode cX5_isSameAs 35 = .ok (.if_icmp .eq 5, 3) := by decide +kernel
theorem dX5_isSameAs_38 : decode cX5_isSameAs 38 = .ok (.iconst 0, 1) := by decide +kernel
theorem dX5_isSameAs_39 : decode cX5_isSameAs 39 = .ok (.ireturn, 1) := by decide +kernel
theorem dX5_isSameAs_40 : decode cX5_isSameAs 40 = .ok (.iinc 2 1, 3) := by decide +kernel
theorem dX5_isSameAs_43 : decode cX5_isSameAs 43 = .ok (.goto (-28), 3) := by decide +kernel
theorem dX5_isSameAs_46 : decode cX5_isSameAs 46 = .ok (.iconst 1, 1) := by decide +kernel
theorem dX5_isSameAs_47 : decode cX5_isSameAs 47 = .ok (.ireturn, 1) := by decide +kernel
theorem dX6_init_0 : decode cX6_init 0 = .ok (.aload_n 0, 1) := by decide +kernel
theorem dX6_init_1 : decode cX6_init 1 = .ok (.invokespecial 1, 3) := by decide +kernel
theorem dX6_init_4 : decode cX6_init 4 = .ok (.aload_n 0, 1) := by decide +kernel
theorem dX6_init_5 : decode cX6_init 5 = .ok (.iconst 0, 1) := by decide +kernel
theorem dX6_init_6 : decode cX6_init 6 = .ok (.putfield 7, 3) := by decide +kernel
theorem dX6_init_9 : decode cX6_init 9 = .ok (.aload_n 0, 1) := by decide +kernel
theorem dX6_init_10 : decode cX6_init 10 = .ok (.iconst 0, 1) := by decide +kernel
theorem dX6_init_11 : decode cX6_init 11 = .ok (.putfield 13, 3) := by decide +kernel
theorem dX6_init_14 : decode cX6_init 14 = .ok (.aload_n 0, 1) := by decide +kernel
theorem dX6_init_15 : decode cX6_init 15 = .ok (.iconst 0, 1) := by decide +kernel
theorem dX6_init_16 : decode cX6_init 16 = .ok (.putfield 17, 3) := by decide +kernel
theorem dX6_init_19 : decode cX6_init 19 = .ok (.return_, 1) := by decide +kernel
theorem dX6_tell_0 : decode cX6_tell 0 = .ok (.aload_n 0, 1) := by decide +kernel
theorem dX6_tell_1 : decode cX6_tell 1 = .ok (.iconst 1, 1) := by decide +kernel
theorem dX6_tell_2 : decode cX6_tell 2 = .ok (.putfield 7, 3) := by decide +kernel
theorem dX6_tell_5 : decode cX6_tell 5 = .ok (.aload_n 0, 1) := by decide +kernel
theorem dX6_tell_6 : decode cX6_tell 6 = .ok (.iload_n 1, 1) := by decide +kernel
theorem dX6_tell_7 : decode cX6_tell 7 = .ok (.putfield 13, 3) := by decide +kernel
theorem dX6_tell_10 : decode cX6_tell 10 = .ok (.aload_n 0, 1) := by decide +kernel
theorem dX6_tell_11 : decode cX6_tell 11 = .ok (.iload_n 2, 1) := by decide +kernel
theorem dX6_tell_12 : decode cX6_tell 12 = .ok (.putfield 17, 3) := by decide +kernel
theorem dX6_tell_15 : decode cX6_tell 15 = .ok (.return_, 1) := by decide +kernel
theorem dX6_knows_0 : decode cX6_knows 0 = .ok (.aload_n 0, 1) := by decide +kernel
theorem dX6_knows_1 : decode cX6_knows 1 = .ok (.getfield 7, 3) := by decide +kernel
theorem dX6_knows_4 : decode cX6_knows 4 = .ok (.ifCond .eq 23, 3) := by decide +kernel
theorem dX6_knows_7 : decode cX6_knows 7 = .ok (.aload_n 0, 1) := by decide +kernel
theorem dX6_knows_8 : decode cX6_knows 8 = .ok (.getfield 13, 3) := by decide +kernel
theorem dX6_knows_11 : decode cX6_knows 11 = .ok (.iload_n 1, 1) := by decide +kernel
theorem dX6_knows_12 : decode cX6_knows 12 = .ok (.if_icmp .ne 15, 3) := by decide +kernel
theorem dX6_knows_15 : decode cX6_knows 15 = .ok (.aload_n 0, 1) := by decide +kernel
theorem dX6_knows_16 : decode cX6_knows 16 = .ok (.getfield 17, 3) := by decide +kernel
theorem dX6_knows_19 : decode cX6_knows 19 = .ok (.iload_n 2, 1) := by decide +kernel
theorem dX6_knows_20 : decode cX6_knows 20 = .ok (.if_icmp .ne 7, 3) := by decide +kernel
theorem dX6_knows_23 : decode cX6_knows 23 = .ok (.iconst 1, 1) := by decide +kernel
theorem dX6_knows_24 : decode cX6_knows 24 = .ok (.goto 4, 3) := by decide +kernel
theorem dX6_knows_27 : decode cX6_knows 27 = .ok (.iconst 0, 1) := by decide +kernel
theorem dX6_knows_28 : decode cX6_knows 28 = .ok (.ireturn, 1) := by decide +kernel
theorem dJ11_isValidCodePoint_9a6ad_0 : decode cJ11_isValidCodePoint_9a6ad 0 = .ok (.iload_n 0, 1) := by decide +kernel
theorem dJ11_isValidCodePoint_9a6ad_1 : decode cJ11_isValidCodePoint_9a6ad 1 = .ok (.bipush 16, 2) := by decide +kernel
theorem dJ11_isValidCodePoint_9a6ad_3 : decode cJ11_isValidCodePoint_9a6ad 3 = .ok (.iushr, 1) := by decide +kernel
theorem dJ11_isValidCodePoint_9a6ad_4 : decode cJ11_isValidCodePoint_9a6ad 4 = .ok (.istore_n 1, 1) := by decide +kernel
theorem dJ11_isValidCodePoint_9a6ad_5 : decode cJ11_isValidCodePoint_9a6ad 5 = .ok (.iload_n 1, 1) := by decide +kernel
theorem dJ11_isValidCodePoint_9a6ad_6 : decode cJ11_isValidCodePoint_9a6ad 6 = .ok (.bipush 17, 2) := by decide +kernel
theorem dJ11_isValidCodePoint_9a6ad_8 : decode cJ11_isValidCodePoint_9a6ad 8 = .ok (.if_icmp .ge 7, 3) := by decide +kernel
theorem dJ11_isValidCodePoint_9a6ad_11 : decode cJ11_isValidCodePoint_9a6ad 11 = .ok (.iconst 1, 1) := by decide +kernel
theorem dJ11_isValidCodePoint_9a6ad_12 : decode cJ11_isValidCodePoint_9a6ad 12 = .ok (.goto 4, 3) := by decide +kernel
theorem dJ11_isValidCodePoint_9a6ad_15 : decode cJ11_isValidCodePoint_9a6ad 15 = .ok (.iconst 0, 1) := by decide +kernel
theorem dJ11_isValidCodePoint_9a6ad_16 : decode cJ11_isValidCodePoint_9a6ad 16 = .ok (.ireturn, 1) := by decide +kernel
theorem dJ11_highSurrogate_5068e_0 : decode cJ11_highSurrogate_5068e 0 = .ok (.iload_n 0, 1) := by decide +kernel
theorem dJ11_highSurrogate_5068e_1 : decode cJ11_highSurrogate_5068e 1 = .ok (.bipush 10, 2) := by decide +kernel
theorem dJ11_highSurrogate_5068e_3 : decode cJ11_highSurrogate_5068e 3 = .ok (.iushr, 1) := by decide +kernel
theorem dJ11_highSurrogate_5068e_4 : decode cJ11_highSurrogate_5068e 4 = .ok (.ldc 110, 2) := by decide +kernel
theorem dJ11_highSurrogate_5068e_6 : decode cJ11_highSurrogate_5068e 6 = .ok (.iadd, 1) := by decide +kernel
theorem dJ11_highSurrogate_5068e_7 : decode cJ11_highSurrogate_5068e 7 = .ok (.i2c, 1) := by decide +kernel
theorem dJ11_highSurrogate_5068e_8 : decode cJ11_highSurrogate_5068e 8 = .ok (.ireturn, 1) := by decide +kernel
theorem dJ11_lowSurrogate_5068e_0 : decode cJ11_lowSurrogate_5068e 0 = .ok (.iload_n 0, 1) := by decide +kernel
theorem dJ11_lowSurrogate_5068e_1 : decode cJ11_lowSurrogate_5068e 1 = .ok (.sipush 1023, 3) := by decide +kernel
theorem dJ11_lowSurrogate_5068e_4 : decode cJ11_lowSurrogate_5068e 4 = .ok (.iand, 1) := by decide +kernel
theorem dJ11_lowSurrogate_5068e_5 : decode cJ11_lowSurrogate_5068e 5 = .ok (.ldc 76, 2) := by decide +kernel
theorem dJ11_lowSurrogate_5068e_7 : decode cJ11_lowSurrogate_5068e 7 = .ok (.iadd, 1) := by decide +kernel
theorem dJ11_lowSurrogate_5068e_8 : decode cJ11_lowSurrogate_5068e 8 = .ok (.i2c, 1) := by decide +kernel
theorem dJ11_lowSurrogate_5068e_9 : decode cJ11_lowSurrogate_5068e 9 = .ok (.ireturn, 1) := by decide +kernel
theorem dJ9_max_7cf53_0 : decode cJ9_max_7cf53 0 = .ok (.iload_n 0, 1) := by decide +kernel
theorem dJ9_max_7cf53_1 : decode cJ9_max_7cf53 1 = .ok (.iload_n 1, 1) := by decide +kernel
theorem dJ9_max_7cf53_2 : decode cJ9_max_7cf53 2 = .ok (.if_icmp .lt 7, 3) := by decide +kernel
theorem dJ9_max_7cf53_5 : decode cJ9_max_7cf53 5 = .ok (.iload_n 0, 1) := by decide +kernel
theorem dJ9_max_7cf53_6 : decode cJ9_max_7cf53 6 = .ok (.goto 4, 3) := by decide +kernel
theorem dJ9_max_7cf53_9 : decode cJ9_max_7cf53 9 = .ok (.iload_n 1, 1) := by decide +kernel
theorem dJ9_max_7cf53_10 : decode cJ9_max_7cf53 10 = .ok (.ireturn, 1) := by decide +kernel
theorem dJ9_min_7cf53_0 : decode cJ9_min_7cf53 0 = .ok (.iload_n 0, 1) := by decide +kernel
theorem dJ9_min_7cf53_1 : decode cJ9_min_7cf53 1 = .ok (.iload_n 1, 1) := by decide +kernel
theorem dJ9_min_7cf53_2 : decode cJ9_min_7cf53 2 = .ok (.if_icmp .gt 7, 3) := by decide +kernel
theorem dJ9_min_7cf53_5 : decode cJ9_min_7cf53 5 = .ok (.iload_n 0, 1) := by decide +kernel
theorem dJ9_min_7cf53_6 : decode cJ9_min_7cf53 6 = .ok (.goto 4, 3) := by decide +kernel
theorem dJ9_min_7cf53_9 : decode cJ9_min_7cf53 9 = .ok (.iload_n 1, 1) := by decide +kernel
theorem dJ9_min_7cf53_10 : decode cJ9_min_7cf53 10 = .ok (.ireturn, 1) := by decide +kernel
theorem dJ0_length_8abf5_0 : decode cJ0_length_8abf5 0 = .ok (.aload_n 0, 1) := by decide +kernel
theorem dJ0_length_8abf5_1 : decode cJ0_length_8abf5 1 = .ok (.getfield 9, 3) := by decide +kernel
theorem dJ0_length_8abf5_4 : decode cJ0_length_8abf5 4 = .ok (.arraylength, 1) := by decide +kernel
theorem dJ0_length_8abf5_5 : decode cJ0_length_8abf5 5 = .ok (.aload_n 0, 1) := by decide +kernel
theorem dJ0_length_8abf5_6 : decode cJ0_length_8abf5 6 = .ok (.invokevirtual 335, 3) := by decide +kernel
theorem dJ0_length_8abf5_9 : decode cJ0_length_8abf5 9 = .ok (.ishr, 1) := by decide +kernel
theorem dJ0_length_8abf5_10 : decode cJ0_length_8abf5 10 = .ok (.ireturn, 1) := by decide +kernel
theorem dJ0_charAt_5068e_0 : decode cJ0_charAt_5068e 0 = .ok (.aload_n 0, 1) := by decide +kernel
theorem dJ0_charAt_5068e_1 : decode cJ0_charAt_5068e 1 = .ok (.invokevirtual 492, 3) := by decide +kernel
theorem dJ0_charAt_5068e_4 : decode cJ0_charAt_5068e 4 = .ok (.ifCond .eq 12, 3) := by decide +kernel
theorem dJ0_charAt_5068e_7 : decode cJ0_charAt_5068e 7 = .ok (.aload_n 0, 1) := by decide +kernel
theorem dJ0_charAt_5068e_8 : decode cJ0_charAt_5068e 8 = .ok (.getfield 9, 3) := by decide +kernel
theorem dJ0_charAt_5068e_11 : decode cJ0_charAt_5068e 11 = .ok (.iload_n 1, 1) := by decide +kernel
theorem dJ0_charAt_5068e_12 : decode cJ0_charAt_5068e 12 = .ok (.invokestatic 495, 3) := by decide +kernel
theorem dJ0_charAt_5068e_15 : decode cJ0_charAt_5068e 15 = .ok (.ireturn, 1) := by decide +kernel
theorem dJ0_charAt_5068e_16 : decode cJ0_charAt_5068e 16 = .ok (.aload_n 0, 1) := by decide +kernel
theorem dJ0_charAt_5068e_17 : decode cJ0_charAt_5068e 17 = .ok (.getfield 9, 3) := by decide +kernel
theorem dJ0_charAt_5068e_20 : decode cJ0_charAt_5068e 20 = .ok (.iload_n 1, 1) := by decide +kernel
theorem dJ0_charAt_5068e_21 : decode cJ0_charAt_5068e 21 = .ok (.invokestatic 498, 3) := by decide +kernel
theorem dJ0_charAt_5068e_24 : decode cJ0_charAt_5068e 24 = .ok (.ireturn, 1) := by decide +kernel
theorem dJ0_indexOf_0f7a4_0 : decode cJ0_indexOf_0f7a4 0 = .ok (.aload_n 0, 1) := by decide +kernel
theorem dJ0_indexOf_0f7a4_1 : decode cJ0_indexOf_0f7a4 1 = .ok (.iload_n 1, 1) := by decide +kernel
theorem dJ0_indexOf_0f7a4_2 : decode cJ0_indexOf_0f7a4 2 = .ok (.iconst 0, 1) := by decide +kernel
theorem dJ0_indexOf_0f7a4_3 : decode cJ0_indexOf_0f7a4 3 = .ok (.invokevirtual 633, 3) := by decide +kernel
theorem dJ0_indexOf_0f7a4_6 : decode cJ0_indexOf_0f7a4 6 = .ok (.ireturn, 1) := by decide +kernel
theorem dJ0_indexOf_7cf53_0 : decode cJ0_indexOf_7cf53 0 = .ok (.aload_n 0, 1) := by decide +kernel
theorem dJ0_indexOf_7cf53_1 : decode cJ0_indexOf_7cf53 1 = .ok (.invokevirtual 492, 3) := by decide +kernel
theorem dJ0_indexOf_7cf53_4 : decode cJ0_indexOf_7cf53 4 = .ok (.ifCond .eq 19, 3) := by decide +kernel
theorem dJ0_indexOf_7cf53_7 : decode cJ0_indexOf_7cf53 7 = .ok (.aload_n 0, 1) := by decide +kernel
theorem dJ0_indexOf_7cf53_8 : decode cJ0_indexOf_7cf53 8 = .ok (.getfield 9, 3) := by decide +kernel
theorem dJ0_indexOf_7cf53_11 : decode cJ0_indexOf_7cf53 11 = .ok (.iload_n 1, 1) := by decide +kernel
theorem dJ0_indexOf_7cf53_12 : decode cJ0_indexOf_7cf53 12 = .ok (.iload_n 2, 1) := by decide +kernel
theorem dJ0_indexOf_7cf53_13 : decode cJ0_indexOf_7cf53 13 = .ok (.aload_n 0, 1) := by decide +kernel
theorem dJ0_indexOf_7cf53_14 : decode cJ0_indexOf_7cf53 14 = .ok (.invokevirtual 505, 3) := by decide +kernel
theorem dJ0_indexOf_7cf53_17 : decode cJ0_indexOf_7cf53 17 = .ok (.invokestatic 637, 3) := by decide +kernel
theorem dJ0_indexOf_7cf53_20 : decode cJ0_indexOf_7cf53 20 = .ok (.goto 16, 3) := by decide +kernel
theorem dJ0_indexOf_7cf53_23 : decode cJ0_indexOf_7cf53 23 = .ok (.aload_n 0, 1) := by decide +kernel
theorem dJ0_indexOf_7cf53_24 : decode cJ0_indexOf_7cf53 24 = .ok (.getfield 9, 3) := by decide +kernel
theorem dJ0_indexOf_7cf53_27 : decode cJ0_indexOf_7cf53 27 = .ok (.iload_n 1, 1) := by decide +kernel
theorem dJ0_indexOf_7cf53_28 : decode cJ0_indexOf_7cf53 28 = .ok (.iload_n 2, 1) := by decide +kernel
theorem dJ0_indexOf_7cf53_29 : decode cJ0_indexOf_7cf53 29 = .ok (.aload_n 0, 1) := by decide +kernel
theorem dJ0_indexOf_7cf53_30 : decode cJ0_indexOf_7cf53 30 = .ok (.invokevirtual 505, 3) := by decide +kernel
theorem dJ0_indexOf_7cf53_33 : decode cJ0_indexOf_7cf53 33 = .ok (.invokestatic 640, 3) := by decide +kernel
theorem dJ0_indexOf_7cf53_36 : decode cJ0_indexOf_7cf53 36 = .ok (.ireturn, 1) := by decide +kernel
theorem dJ0_coder_7d493_0 : decode cJ0_coder_7d493 0 = .ok (.getstatic 38, 3) := by decide +kernel
theorem dJ0_coder_7d493_3 : decode cJ0_coder_7d493 3 = .ok (.ifCond .eq 10, 3) := by decide +kernel
theorem dJ0_coder_7d493_6 : decode cJ0_coder_7d493 6 = .ok (.aload_n 0, 1) := by decide +kernel
theorem dJ0_coder_7d493_7 : decode cJ0_coder_7d493 7 = .ok (.getfield 15, 3) := by decide +kernel
theorem dJ0_coder_7d493_10 : decode cJ0_coder_7d493 10 = .ok (.goto 4, 3) := by decide +kernel
theorem dJ0_coder_7d493_13 : decode cJ0_coder_7d493 13 = .ok (.iconst 1, 1) := by decide +kernel
theorem dJ0_coder_7d493_14 : decode cJ0_coder_7d493 14 = .ok (.ireturn, 1) := by decide +kernel
theorem dJ0_isLatin1_aae02_0 : decode cJ0_isLatin1_aae02 0 = .ok (.getstatic 38, 3) := by decide +kernel
theorem dJ0_isLatin1_aae02_3 : decode cJ0_isLatin1_aae02 3 = .ok (.ifCond .eq 14, 3) := by decide +kernel
theorem dJ0_isLatin1_aae02_6 : decode cJ0_isLatin1_aae02 6 = .ok (.aload_n 0, 1) := by decide +kernel
theorem dJ0_isLatin1_aae02_7 : decode cJ0_isLatin1_aae02 7 = .ok (.getfield 15, 3) := by decide +kernel
theorem dJ0_isLatin1_aae02_10 : decode cJ0_isLatin1_aae02 10 = .ok (.ifCond .ne 7, 3) := by decide +kernel
theorem dJ0_isLatin1_aae02_13 : decode cJ0_isLatin1_aae02 13 = .ok (.iconst 1, 1) := by decide +kernel
theorem dJ0_isLatin1_aae02_14 : decode cJ0_isLatin1_aae02 14 = .ok (.goto 4, 3) := by decide +kernel
theorem dJ0_isLatin1_aae02_17 : decode cJ0_isLatin1_aae02 17 = .ok (.iconst 0, 1) := by decide +kernel
theorem dJ0_isLatin1_aae02_18 : decode cJ0_isLatin1_aae02 18 = .ok (.ireturn, 1) := by decide +kernel
theorem dJ0_checkIndex_df160_0 : decode cJ0_checkIndex_df160 0 = .ok (.iload_n 0, 1) := by decide +kernel
theorem dJ0_checkIndex_df160_1 : decode cJ0_checkIndex_df160 1 = .ok (.iload_n 1, 1) := by decide +kernel
theorem dJ0_checkIndex_df160_2 : decode cJ0_checkIndex_df160 2 = .ok (.getstatic 1053, 3) := by decide +kernel
theorem dJ0_checkIndex_df160_5 : decode cJ0_checkIndex_df160 5 = .ok (.invokestatic 1059, 3) := by decide +kernel
theorem dJ0_checkIndex_df160_8 : decode cJ0_checkIndex_df160 8 = .ok (.pop, 1) := by decide +kernel
theorem dJ0_checkIndex_df160_9 : decode cJ0_checkIndex_df160 9 = .ok (.return_, 1) := by decide +kernel
theorem dJ0_checkBoundsBeginEnd_23922_0 : decode cJ0_checkBoundsBeginEnd_23922 0 = .ok (.iload_n 0, 1) := by decide +kernel
theorem dJ0_checkBoundsBeginEnd_23922_1 : decode cJ0_checkBoundsBeginEnd_23922 1 = .ok (.iload_n 1, 1) := by decide +kernel
theorem dJ0_checkBoundsBeginEnd_23922_2 : decode cJ0_checkBoundsBeginEnd_23922 2 = .ok (.iload_n 2, 1) := by decide +kernel
theorem dJ0_checkBoundsBeginEnd_23922_3 : decode cJ0_checkBoundsBeginEnd_23922 3 = .ok (.getstatic 1053, 3) := by decide +kernel
theorem dJ0_checkBoundsBeginEnd_23922_6 : decode cJ0_checkBoundsBeginEnd_23922 6 = .ok (.invokestatic 1062, 3) := by decide +kernel
theorem dJ0_checkBoundsBeginEnd_23922_9 : decode cJ0_checkBoundsBeginEnd_23922 9 = .ok (.pop, 1) := by decide +kernel
theorem dJ0_checkBoundsBeginEnd_23922_10 : decode cJ0_checkBoundsBeginEnd_23922 10 = .ok (.return_, 1) := by decide +kernel
theorem dJ1_charAt_3b067_0 : decode cJ1_charAt_3b067 0 = .ok (.iload_n 1, 1) := by decide +kernel
theorem dJ1_charAt_3b067_1 : decode cJ1_charAt_3b067 1 = .ok (.aload_n 0, 1) := by decide +kernel
theorem dJ1_charAt_3b067_2 : decode cJ1_charAt_3b067 2 = .ok (.arraylength, 1) := by decide +kernel
theorem dJ1_charAt_3b067_3 : decode cJ1_charAt_3b067 3 = .ok (.invokestatic 9, 3) := by decide +kernel
theorem dJ1_charAt_3b067_6 : decode cJ1_charAt_3b067 6 = .ok (.aload_n 0, 1) := by decide +kernel
theorem dJ1_charAt_3b067_7 : decode cJ1_charAt_3b067 7 = .ok (.iload_n 1, 1) := by decide +kernel
theorem dJ1_charAt_3b067_8 : decode cJ1_charAt_3b067 8 = .ok (.baload, 1) := by decide +kernel
theorem dJ1_charAt_3b067_9 : decode cJ1_charAt_3b067 9 = .ok (.sipush 255, 3) := by decide +kernel
theorem dJ1_charAt_3b067_12 : decode cJ1_charAt_3b067 12 = .ok (.iand, 1) := by decide +kernel
theorem dJ1_charAt_3b067_13 : decode cJ1_charAt_3b067 13 = .ok (.i2c, 1) := by decide +kernel
theorem dJ1_charAt_3b067_14 : decode cJ1_charAt_3b067 14 = .ok (.ireturn, 1) := by decide +kernel
theorem dJ1_canEncode_9a6ad_0 : decode cJ1_canEncode_9a6ad 0 = .ok (.iload_n 0, 1) := by decide +kernel
theorem dJ1_canEncode_9a6ad_1 : decode cJ1_canEncode_9a6ad 1 = .ok (.ifCond .lt 14, 3) := by decide +kernel
theorem dJ1_canEncode_9a6ad_4 : decode cJ1_canEncode_9a6ad 4 = .ok (.iload_n 0, 1) := by decide +kernel
theorem dJ1_canEncode_9a6ad_5 : decode cJ1_canEncode_9a6ad 5 = .ok (.sipush 255, 3) := by decide +kernel
theorem dJ1_canEncode_9a6ad_8 : decode cJ1_canEncode_9a6ad 8 = .ok (.if_icmp .gt 7, 3) := by decide +kernel
theorem dJ1_canEncode_9a6ad_11 : decode cJ1_canEncode_9a6ad 11 = .ok (.iconst 1, 1) := by decide +kernel
theorem dJ1_canEncode_9a6ad_12 : decode cJ1_canEncode_9a6ad 12 = .ok (.goto 4, 3) := by decide +kernel
theorem dJ1_canEncode_9a6ad_15 : decode cJ1_canEncode_9a6ad 15 = .ok (.iconst 0, 1) := by decide +kernel
theorem dJ1_canEncode_9a6ad_16 : decode cJ1_canEncode_9a6ad 16 = .ok (.ireturn, 1) := by decide +kernel
theorem dJ1_indexOf_4cfef_0 : decode cJ1_indexOf_4cfef 0 = .ok (.iload_n 1, 1) := by decide +kernel
theorem dJ1_indexOf_4cfef_1 : decode cJ1_indexOf_4cfef 1 = .ok (.invokestatic 88, 3) := by decide +kernel
theorem dJ1_indexOf_4cfef_4 : decode cJ1_indexOf_4cfef 4 = .ok (.ifCond .ne 5, 3) := by decide +kernel
theorem dJ1_indexOf_4cfef_7 : decode cJ1_indexOf_4cfef 7 = .ok (.iconst (-1), 1) := by decide +kernel
theorem dJ1_indexOf_4cfef_8 : decode cJ1_indexOf_4cfef 8 = .ok (.ireturn, 1) := by decide +kernel
theorem dJ1_indexOf_4cfef_9 : decode cJ1_indexOf_4cfef 9 = .ok (.iload_n 2, 1) := by decide +kernel
theorem dJ1_indexOf_4cfef_10 : decode cJ1_indexOf_4cfef 10 = .ok (.iconst 0, 1) := by decide +kernel
theorem dJ1_indexOf_4cfef_11 : decode cJ1_indexOf_4cfef 11 = .ok (.invokestatic 92, 3) := by decide +kernel
theorem dJ1_indexOf_4cfef_14 : decode cJ1_indexOf_4cfef 14 = .ok (.istore_n 2, 1) := by decide +kernel
theorem dJ1_indexOf_4cfef_15 : decode cJ1_indexOf_4cfef 15 = .ok (.iload_n 3, 1) := by decide +kernel
theorem dJ1_indexOf_4cfef_16 : decode cJ1_indexOf_4cfef 16 = .ok (.aload_n 0, 1) := by decide +kernel
theorem dJ1_indexOf_4cfef_17 : decode cJ1_indexOf_4cfef 17 = .ok (.arraylength, 1) := by decide +kernel
theorem dJ1_indexOf_4cfef_18 : decode cJ1_indexOf_4cfef 18 = .ok (.invokestatic 38, 3) := by decide +kernel
theorem dJ1_indexOf_4cfef_21 : decode cJ1_indexOf_4cfef 21 = .ok (.istore_n 3, 1) := by decide +kernel
theorem dJ1_indexOf_4cfef_22 : decode cJ1_indexOf_4cfef 22 = .ok (.iload_n 2, 1) := by decide +kernel
theorem dJ1_indexOf_4cfef_23 : decode cJ1_indexOf_4cfef 23 = .ok (.iload_n 3, 1) := by decide +kernel
theorem dJ1_indexOf_4cfef_24 : decode cJ1_indexOf_4cfef 24 = .ok (.if_icmp .lt 5, 3) := by decide +kernel
theorem dJ1_indexOf_4cfef_27 : decode cJ1_indexOf_4cfef 27 = .ok (.iconst (-1), 1) := by decide +kernel
theorem dJ1_indexOf_4cfef_28 : decode cJ1_indexOf_4cfef 28 = .ok (.ireturn, 1) := by decide +kernel
theorem dJ1_indexOf_4cfef_29 : decode cJ1_indexOf_4cfef 29 = .ok (.aload_n 0, 1) := by decide +kernel
theorem dJ1_indexOf_4cfef_30 : decode cJ1_indexOf_4cfef 30 = .ok (.iload_n 1, 1) := by decide +kernel
theorem dJ1_indexOf_4cfef_31 : decode cJ1_indexOf_4cfef 31 = .ok (.iload_n 2, 1) := by decide +kernel
theorem dJ1_indexOf_4cfef_32 : decode cJ1_indexOf_4cfef 32 = .ok (.iload_n 3, 1) := by decide +kernel
theorem dJ1_indexOf_4cfef_33 : decode cJ1_indexOf_4cfef 33 = .ok (.invokestatic 95, 3) := by decide +kernel
theorem dJ1_indexOf_4cfef_36 : decode cJ1_indexOf_4cfef 36 = .ok (.ireturn, 1) := by decide +kernel
theorem dJ1_indexOfChar_4cfef_0 : decode cJ1_indexOfChar_4cfef 0 = .ok (.iload_n 1, 1) := by decide +kernel
theorem dJ1_indexOfChar_4cfef_1 : decode cJ1_indexOfChar_4cfef 1 = .ok (.i2b, 1) := by decide +kernel
theorem dJ1_indexOfChar_4cfef_2 : decode cJ1_indexOfChar_4cfef 2 = .ok (.istore 4, 2) := by decide +kernel
theorem dJ1_indexOfChar_4cfef_4 : decode cJ1_indexOfChar_4cfef 4 = .ok (.iload_n 2, 1) := by decide +kernel
theorem dJ1_indexOfChar_4cfef_5 : decode cJ1_indexOfChar_4cfef 5 = .ok (.istore 5, 2) := by decide +kernel
theorem dJ1_indexOfChar_4cfef_7 : decode cJ1_indexOfChar_4cfef 7 = .ok (.iload 5, 2) := by decide +kernel
theorem dJ1_indexOfChar_4cfef_9 : decode cJ1_indexOfChar_4cfef 9 = .ok (.iload_n 3, 1) := by decide +kernel
theorem dJ1_indexOfChar_4cfef_10 : decode cJ1_indexOfChar_4cfef 10 = .ok (.if_icmp .ge 21, 3) := by decide +kernel
theorem dJ1_indexOfChar_4cfef_13 : decode cJ1_indexOfChar_4cfef 13 = .ok (.aload_n 0, 1) := by decide +kernel
theorem dJ1_indexOfChar_4cfef_14 : decode cJ1_indexOfChar_4cfef 14 = .ok (.iload 5, 2) := by decide +kernel
theorem dJ1_indexOfChar_4cfef_16 : decode cJ1_indexOfChar_4cfef 16 = .ok (.baload, 1) := by decide +kernel
theorem dJ1_indexOfChar_4cfef_17 : decode cJ1_indexOfChar_4cfef 17 = .ok (.iload 4, 2) := by decide +kernel
theorem dJ1_indexOfChar_4cfef_19 : decode cJ1_indexOfChar_4cfef 19 = .ok (.if_icmp .ne 6, 3) := by decide +kernel
theorem dJ1_indexOfChar_4cfef_22 : decode cJ1_indexOfChar_4cfef 22 = .ok (.iload 5, 2) := by decide +kernel
theorem dJ1_indexOfChar_4cfef_24 : decode cJ1_indexOfChar_4cfef 24 = .ok (.ireturn, 1) := by decide +kernel
theorem dJ1_indexOfChar_4cfef_25 : decode cJ1_indexOfChar_4cfef 25 = .ok (.iinc 5 1, 3) := by decide +kernel
theorem dJ1_indexOfChar_4cfef_28 : decode cJ1_indexOfChar_4cfef 28 = .ok (.goto (-21), 3) := by decide +kernel
theorem dJ1_indexOfChar_4cfef_31 : decode cJ1_indexOfChar_4cfef 31 = .ok (.iconst (-1), 1) := by decide +kernel
theorem dJ1_indexOfChar_4cfef_32 : decode cJ1_indexOfChar_4cfef 32 = .ok (.ireturn, 1) := by decide +kernel
theorem dJ2_getChar_3b067_0 : decode cJ2_getChar_3b067 0 = .ok (.getstatic 44, 3) := by decide +kernel
theorem dJ2_getChar_3b067_3 : decode cJ2_getChar_3b067 3 = .ok (.ifCond .ne 25, 3) := by decide +kernel
theorem dJ2_getChar_3b067_6 : decode cJ2_getChar_3b067 6 = .ok (.iload_n 1, 1) := by decide +kernel
theorem dJ2_getChar_3b067_7 : decode cJ2_getChar_3b067 7 = .ok (.ifCond .lt 11, 3) := by decide +kernel
theorem dJ2_getChar_3b067_10 : decode cJ2_getChar_3b067 10 = .ok (.iload_n 1, 1) := by decide +kernel
theorem dJ2_getChar_3b067_11 : decode cJ2_getChar_3b067 11 = .ok (.aload_n 0, 1) := by decide +kernel
theorem dJ2_getChar_3b067_12 : decode cJ2_getChar_3b067 12 = .ok (.invokestatic 48, 3) := by decide +kernel
theorem dJ2_getChar_3b067_15 : decode cJ2_getChar_3b067 15 = .ok (.if_icmp .lt 13, 3) := by decide +kernel
theorem dJ2_getChar_3b067_18 : decode cJ2_getChar_3b067 18 = .ok (.new 52, 3) := by decide +kernel
theorem dJ2_getChar_3b067_21 : decode cJ2_getChar_3b067 21 = .ok (.dup, 1) := by decide +kernel
theorem dJ2_getChar_3b067_22 : decode cJ2_getChar_3b067 22 = .ok (.ldc 54, 2) := by decide +kernel
theorem dJ2_getChar_3b067_24 : decode cJ2_getChar_3b067 24 = .ok (.invokespecial 56, 3) := by decide +kernel
theorem dJ2_getChar_3b067_27 : decode cJ2_getChar_3b067 27 = .ok (.athrow, 1) := by decide +kernel
theorem dJ2_getChar_3b067_28 : decode cJ2_getChar_3b067 28 = .ok (.iload_n 1, 1) := by decide +kernel
theorem dJ2_getChar_3b067_29 : decode cJ2_getChar_3b067 29 = .ok (.iconst 1, 1) := by decide +kernel
theorem dJ2_getChar_3b067_30 : decode cJ2_getChar_3b067 30 = .ok (.ishl, 1) := by decide +kernel
theorem dJ2_getChar_3b067_31 : decode cJ2_getChar_3b067 31 = .ok (.istore_n 1, 1) := by decide +kernel
theorem dJ2_getChar_3b067_32 : decode cJ2_getChar_3b067 32 = .ok (.aload_n 0, 1) := by decide +kernel
theorem dJ2_getChar_3b067_33 : decode cJ2_getChar_3b067 33 = .ok (.iload_n 1, 1) := by decide +kernel
theorem dJ2_getChar_3b067_34 : decode cJ2_getChar_3b067 34 = .ok (.iinc 1 1, 3) := by decide +kernel
theorem dJ2_getChar_3b067_37 : decode cJ2_getChar_3b067 37 = .ok (.baload, 1) := by decide +kernel
theorem dJ2_getChar_3b067_38 : decode cJ2_getChar_3b067 38 = .ok (.sipush 255, 3) := by decide +kernel
theorem dJ2_getChar_3b067_41 : decode cJ2_getChar_3b067 41 = .ok (.iand, 1) := by decide +kernel
theorem dJ2_getChar_3b067_42 : decode cJ2_getChar_3b067 42 = .ok (.getstatic 59, 3) := by decide +kernel
theorem dJ2_getChar_3b067_45 : decode cJ2_getChar_3b067 45 = .ok (.ishl, 1) := by decide +kernel
theorem dJ2_getChar_3b067_46 : decode cJ2_getChar_3b067 46 = .ok (.aload_n 0, 1) := by decide +kernel
theorem dJ2_getChar_3b067_47 : decode cJ2_getChar_3b067 47 = .ok (.iload_n 1, 1) := by decide +kernel
theorem dJ2_getChar_3b067_48 : decode cJ2_getChar_3b067 48 = .ok (.baload, 1) := by decide +kernel
theorem dJ2_getChar_3b067_49 : decode cJ2_getChar_3b067 49 = .ok (.sipush 255, 3) := by decide +kernel
theorem dJ2_getChar_3b067_52 : decode cJ2_getChar_3b067 52 = .ok (.iand, 1) := by decide +kernel
theorem dJ2_getChar_3b067_53 : decode cJ2_getChar_3b067 53 = .ok (.getstatic 63, 3) := by decide +kernel
theorem dJ2_getChar_3b067_56 : decode cJ2_getChar_3b067 56 = .ok (.ishl, 1) := by decide +kernel
theorem dJ2_getChar_3b067_57 : decode cJ2_getChar_3b067 57 = .ok (.ior, 1) := by decide +kernel
theorem dJ2_getChar_3b067_58 : decode cJ2_getChar_3b067 58 = .ok (.i2c, 1) := by decide +kernel
theorem dJ2_getChar_3b067_59 : decode cJ2_getChar_3b067 59 = .ok (.ireturn, 1) := by decide +kernel
theorem dJ2_length_9d52b_0 : decode cJ2_length_9d52b 0 = .ok (.aload_n 0, 1) := by decide +kernel
theorem dJ2_length_9d52b_1 : decode cJ2_length_9d52b 1 = .ok (.arraylength, 1) := by decide +kernel
theorem dJ2_length_9d52b_2 : decode cJ2_length_9d52b 2 = .ok (.iconst 1, 1) := by decide +kernel
theorem dJ2_length_9d52b_3 : decode cJ2_length_9d52b 3 = .ok (.ishr, 1) := by decide +kernel
theorem dJ2_length_9d52b_4 : decode cJ2_length_9d52b 4 = .ok (.ireturn, 1) := by decide +kernel
theorem dJ2_indexOf_4cfef_0 : decode cJ2_indexOf_4cfef 0 = .ok (.iload_n 2, 1) := by decide +kernel
theorem dJ2_indexOf_4cfef_1 : decode cJ2_indexOf_4cfef 1 = .ok (.iconst 0, 1) := by decide +kernel
theorem dJ2_indexOf_4cfef_2 : decode cJ2_indexOf_4cfef 2 = .ok (.invokestatic 224, 3) := by decide +kernel
theorem dJ2_indexOf_4cfef_5 : decode cJ2_indexOf_4cfef 5 = .ok (.istore_n 2, 1) := by decide +kernel
theorem dJ2_indexOf_4cfef_6 : decode cJ2_indexOf_4cfef 6 = .ok (.iload_n 3, 1) := by decide +kernel
theorem dJ2_indexOf_4cfef_7 : decode cJ2_indexOf_4cfef 7 = .ok (.aload_n 0, 1) := by decide +kernel
theorem dJ2_indexOf_4cfef_8 : decode cJ2_indexOf_4cfef 8 = .ok (.arraylength, 1) := by decide +kernel
theorem dJ2_indexOf_4cfef_9 : decode cJ2_indexOf_4cfef 9 = .ok (.iconst 1, 1) := by decide +kernel
theorem dJ2_indexOf_4cfef_10 : decode cJ2_indexOf_4cfef 10 = .ok (.ishr, 1) := by decide +kernel
theorem dJ2_indexOf_4cfef_11 : decode cJ2_indexOf_4cfef 11 = .ok (.invokestatic 183, 3) := by decide +kernel
theorem dJ2_indexOf_4cfef_14 : decode cJ2_indexOf_4cfef 14 = .ok (.istore_n 3, 1) := by decide +kernel
theorem dJ2_indexOf_4cfef_15 : decode cJ2_indexOf_4cfef 15 = .ok (.iload_n 2, 1) := by decide +kernel
theorem dJ2_indexOf_4cfef_16 : decode cJ2_indexOf_4cfef 16 = .ok (.iload_n 3, 1) := by decide +kernel
theorem dJ2_indexOf_4cfef_17 : decode cJ2_indexOf_4cfef 17 = .ok (.if_icmp .lt 5, 3) := by decide +kernel
theorem dJ2_indexOf_4cfef_20 : decode cJ2_indexOf_4cfef 20 = .ok (.iconst (-1), 1) := by decide +kernel
theorem dJ2_indexOf_4cfef_21 : decode cJ2_indexOf_4cfef 21 = .ok (.ireturn, 1) := by decide +kernel
theorem dJ2_indexOf_4cfef_22 : decode cJ2_indexOf_4cfef 22 = .ok (.iload_n 1, 1) := by decide +kernel
theorem dJ2_indexOf_4cfef_23 : decode cJ2_indexOf_4cfef 23 = .ok (.ldc 227, 2) := by decide +kernel
theorem dJ2_indexOf_4cfef_25 : decode cJ2_indexOf_4cfef 25 = .ok (.if_icmp .ge 11, 3) := by decide +kernel
theorem dJ2_indexOf_4cfef_28 : decode cJ2_indexOf_4cfef 28 = .ok (.aload_n 0, 1) := by decide +kernel
theorem dJ2_indexOf_4cfef_29 : decode cJ2_indexOf_4cfef 29 = .ok (.iload_n 1, 1) := by decide +kernel
theorem dJ2_indexOf_4cfef_30 : decode cJ2_indexOf_4cfef 30 = .ok (.iload_n 2, 1) := by decide +kernel
theorem dJ2_indexOf_4cfef_31 : decode cJ2_indexOf_4cfef 31 = .ok (.iload_n 3, 1) := by decide +kernel
theorem dJ2_indexOf_4cfef_32 : decode cJ2_indexOf_4cfef 32 = .ok (.invokestatic 228, 3) := by decide +kernel
theorem dJ2_indexOf_4cfef_35 : decode cJ2_indexOf_4cfef 35 = .ok (.ireturn, 1) := by decide +kernel
theorem dJ2_indexOf_4cfef_36 : decode cJ2_indexOf_4cfef 36 = .ok (.aload_n 0, 1) := by decide +kernel
theorem dJ2_indexOf_4cfef_37 : decode cJ2_indexOf_4cfef 37 = .ok (.iload_n 1, 1) := by decide +kernel
theorem dJ2_indexOf_4cfef_38 : decode cJ2_indexOf_4cfef 38 = .ok (.iload_n 2, 1) := by decide +kernel
theorem dJ2_indexOf_4cfef_39 : decode cJ2_indexOf_4cfef 39 = .ok (.iload_n 3, 1) := by decide +kernel
theorem dJ2_indexOf_4cfef_40 : decode cJ2_indexOf_4cfef 40 = .ok (.invokestatic 232, 3) := by decide +kernel
theorem dJ2_indexOf_4cfef_43 : decode cJ2_indexOf_4cfef 43 = .ok (.ireturn, 1) := by decide +kernel
theorem dJ2_indexOfChar_4cfef_0 : decode cJ2_indexOfChar_4cfef 0 = .ok (.iload_n 2, 1) := by decide +kernel
theorem dJ2_indexOfChar_4cfef_1 : decode cJ2_indexOfChar_4cfef 1 = .ok (.iload_n 3, 1) := by decide +kernel
theorem dJ2_indexOfChar_4cfef_2 : decode cJ2_indexOfChar_4cfef 2 = .ok (.aload_n 0, 1) := by decide +kernel
theorem dJ2_indexOfChar_4cfef_3 : decode cJ2_indexOfChar_4cfef 3 = .ok (.invokestatic 96, 3) := by decide +kernel
theorem dJ2_indexOfChar_4cfef_6 : decode cJ2_indexOfChar_4cfef 6 = .ok (.aload_n 0, 1) := by decide +kernel
theorem dJ2_indexOfChar_4cfef_7 : decode cJ2_indexOfChar_4cfef 7 = .ok (.iload_n 1, 1) := by decide +kernel
theorem dJ2_indexOfChar_4cfef_8 : decode cJ2_indexOfChar_4cfef 8 = .ok (.iload_n 2, 1) := by decide +kernel
theorem dJ2_indexOfChar_4cfef_9 : decode cJ2_indexOfChar_4cfef 9 = .ok (.iload_n 3, 1) := by decide +kernel
theorem dJ2_indexOfChar_4cfef_10 : decode cJ2_indexOfChar_4cfef 10 = .ok (.invokestatic 244, 3) := by decide +kernel
theorem dJ2_indexOfChar_4cfef_13 : decode cJ2_indexOfChar_4cfef 13 = .ok (.ireturn, 1) := by decide +kernel
theorem dJ2_indexOfCharUnsafe_4cfef_0 : decode cJ2_indexOfCharUnsafe_4cfef 0 = .ok (.iload_n 2, 1) := by decide +kernel
theorem dJ2_indexOfCharUnsafe_4cfef_1 : decode cJ2_indexOfCharUnsafe_4cfef 1 = .ok (.istore 4, 2) := by decide +kernel
theorem dJ2_indexOfCharUnsafe_4cfef_3 : decode cJ2_indexOfCharUnsafe_4cfef 3 = .ok (.iload 4, 2) := by decide +kernel
theorem dJ2_indexOfCharUnsafe_4cfef_5 : decode cJ2_indexOfCharUnsafe_4cfef 5 = .ok (.iload_n 3, 1) := by decide +kernel
theorem dJ2_indexOfCharUnsafe_4cfef_6 : decode cJ2_indexOfCharUnsafe_4cfef 6 = .ok (.if_icmp .ge 22, 3) := by decide +kernel
theorem dJ2_indexOfCharUnsafe_4cfef_9 : decode cJ2_indexOfCharUnsafe_4cfef 9 = .ok (.aload_n 0, 1) := by decide +kernel
theorem dJ2_indexOfCharUnsafe_4cfef_10 : decode cJ2_indexOfCharUnsafe_4cfef 10 = .ok (.iload 4, 2) := by decide +kernel
theorem dJ2_indexOfCharUnsafe_4cfef_12 : decode cJ2_indexOfCharUnsafe_4cfef 12 = .ok (.invokestatic 71, 3) := by decide +kernel
theorem dJ2_indexOfCharUnsafe_4cfef_15 : decode cJ2_indexOfCharUnsafe_4cfef 15 = .ok (.iload_n 1, 1) := by decide +kernel
theorem dJ2_indexOfCharUnsafe_4cfef_16 : decode cJ2_indexOfCharUnsafe_4cfef 16 = .ok (.if_icmp .ne 6, 3) := by decide +kernel
theorem dJ2_indexOfCharUnsafe_4cfef_19 : decode cJ2_indexOfCharUnsafe_4cfef 19 = .ok (.iload 4, 2) := by decide +kernel
theorem dJ2_indexOfCharUnsafe_4cfef_21 : decode cJ2_indexOfCharUnsafe_4cfef 21 = .ok (.ireturn, 1) := by decide +kernel
theorem dJ2_indexOfCharUnsafe_4cfef_22 : decode cJ2_indexOfCharUnsafe_4cfef 22 = .ok (.iinc 4 1, 3) := by decide +kernel
theorem dJ2_indexOfCharUnsafe_4cfef_25 : decode cJ2_indexOfCharUnsafe_4cfef 25 = .ok (.goto (-22), 3) := by decide +kernel
theorem dJ2_indexOfCharUnsafe_4cfef_28 : decode cJ2_indexOfCharUnsafe_4cfef 28 = .ok (.iconst (-1), 1) := by decide +kernel
theorem dJ2_indexOfCharUnsafe_4cfef_29 : decode cJ2_indexOfCharUnsafe_4cfef 29 = .ok (.ireturn, 1) := by decide +kernel
theorem dJ2_indexOfSupplementary_4cfef_0 : decode cJ2_indexOfSupplementary_4cfef 0 = .ok (.iload_n 1, 1) := by decide +kernel
theorem dJ2_indexOfSupplementary_4cfef_1 : decode cJ2_indexOfSupplementary_4cfef 1 = .ok (.invokestatic 164, 3) := by decide +kernel
theorem dJ2_indexOfSupplementary_4cfef_4 : decode cJ2_indexOfSupplementary_4cfef 4 = .ok (.ifCond .eq 65, 3) := by decide +kernel
theorem dJ2_indexOfSupplementary_4cfef_7 : decode cJ2_indexOfSupplementary_4cfef 7 = .ok (.iload_n 1, 1) := by decide +kernel
theorem dJ2_indexOfSupplementary_4cfef_8 : decode cJ2_indexOfSupplementary_4cfef 8 = .ok (.invokestatic 157, 3) := by decide +kernel
theorem dJ2_indexOfSupplementary_4cfef_11 : decode cJ2_indexOfSupplementary_4cfef 11 = .ok (.istore 4, 2) := by decide +kernel
theorem dJ2_indexOfSupplementary_4cfef_13 : decode cJ2_indexOfSupplementary_4cfef 13 = .ok (.iload_n 1, 1) := by decide +kernel
theorem dJ2_indexOfSupplementary_4cfef_14 : decode cJ2_indexOfSupplementary_4cfef 14 = .ok (.invokestatic 161, 3) := by decide +kernel
theorem dJ2_indexOfSupplementary_4cfef_17 : decode cJ2_indexOfSupplementary_4cfef 17 = .ok (.istore 5, 2) := by decide +kernel
theorem dJ2_indexOfSupplementary_4cfef_19 : decode cJ2_indexOfSupplementary_4cfef 19 = .ok (.iload_n 2, 1) := by decide +kernel
theorem dJ2_indexOfSupplementary_4cfef_20 : decode cJ2_indexOfSupplementary_4cfef 20 = .ok (.iload_n 3, 1) := by decide +kernel
theorem dJ2_indexOfSupplementary_4cfef_21 : decode cJ2_indexOfSupplementary_4cfef 21 = .ok (.aload_n 0, 1) := by decide +kernel
theorem dJ2_indexOfSupplementary_4cfef_22 : decode cJ2_indexOfSupplementary_4cfef 22 = .ok (.invokestatic 96, 3) := by decide +kernel
theorem dJ2_indexOfSupplementary_4cfef_25 : decode cJ2_indexOfSupplementary_4cfef 25 = .ok (.iload_n 2, 1) := by decide +kernel
theorem dJ2_indexOfSupplementary_4cfef_26 : decode cJ2_indexOfSupplementary_4cfef 26 = .ok (.istore 6, 2) := by decide +kernel
theorem dJ2_indexOfSupplementary_4cfef_28 : decode cJ2_indexOfSupplementary_4cfef 28 = .ok (.iload 6, 2) := by decide +kernel
theorem dJ2_indexOfSupplementary_4cfef_30 : decode cJ2_indexOfSupplementary_4cfef 30 = .ok (.iload_n 3, 1) := by decide +kernel
theorem dJ2_indexOfSupplementary_4cfef_31 : decode cJ2_indexOfSupplementary_4cfef 31 = .ok (.iconst 1, 1) := by decide +kernel
theorem dJ2_indexOfSupplementary_4cfef_32 : decode cJ2_indexOfSupplementary_4cfef 32 = .ok (.isub, 1) := by decide +kernel
theorem dJ2_indexOfSupplementary_4cfef_33 : decode cJ2_indexOfSupplementary_4cfef 33 = .ok (.if_icmp .ge 36, 3) := by decide +kernel
theorem dJ2_indexOfSupplementary_4cfef_36 : decode cJ2_indexOfSupplementary_4cfef 36 = .ok (.aload_n 0, 1) := by decide +kernel
theorem dJ2_indexOfSupplementary_4cfef_37 : decode cJ2_indexOfSupplementary_4cfef 37 = .ok (.iload 6, 2) := by decide +kernel
theorem dJ2_indexOfSupplementary_4cfef_39 : decode cJ2_indexOfSupplementary_4cfef 39 = .ok (.invokestatic 71, 3) := by decide +kernel
theorem dJ2_indexOfSupplementary_4cfef_42 : decode cJ2_indexOfSupplementary_4cfef 42 = .ok (.iload 4, 2) := by decide +kernel
theorem dJ2_indexOfSupplementary_4cfef_44 : decode cJ2_indexOfSupplementary_4cfef 44 = .ok (.if_icmp .ne 19, 3) := by decide +kernel
theorem dJ2_indexOfSupplementary_4cfef_47 : decode cJ2_indexOfSupplementary_4cfef 47 = .ok (.aload_n 0, 1) := by decide +kernel
theorem dJ2_indexOfSupplementary_4cfef_48 : decode cJ2_indexOfSupplementary_4cfef 48 = .ok (.iload 6, 2) := by decide +kernel
theorem dJ2_indexOfSupplementary_4cfef_50 : decode cJ2_indexOfSupplementary_4cfef 50 = .ok (.iconst 1, 1) := by decide +kernel
theorem dJ2_indexOfSupplementary_4cfef_51 : decode cJ2_indexOfSupplementary_4cfef 51 = .ok (.iadd, 1) := by decide +kernel
theorem dJ2_indexOfSupplementary_4cfef_52 : decode cJ2_indexOfSupplementary_4cfef 52 = .ok (.invokestatic 71, 3) := by decide +kernel
theorem dJ2_indexOfSupplementary_4cfef_55 : decode cJ2_indexOfSupplementary_4cfef 55 = .ok (.iload 5, 2) := by decide +kernel
theorem dJ2_indexOfSupplementary_4cfef_57 : decode cJ2_indexOfSupplementary_4cfef 57 = .ok (.if_icmp .ne 6, 3) := by decide +kernel
theorem dJ2_indexOfSupplementary_4cfef_60 : decode cJ2_indexOfSupplementary_4cfef 60 = .ok (.iload 6, 2) := by decide +kernel
theorem dJ2_indexOfSupplementary_4cfef_62 : decode cJ2_indexOfSupplementary_4cfef 62 = .ok (.ireturn, 1) := by decide +kernel
theorem dJ2_indexOfSupplementary_4cfef_63 : decode cJ2_indexOfSupplementary_4cfef 63 = .ok (.iinc 6 1, 3) := by decide +kernel
theorem dJ2_indexOfSupplementary_4cfef_66 : decode cJ2_indexOfSupplementary_4cfef 66 = .ok (.goto (-38), 3) := by decide +kernel
theorem dJ2_indexOfSupplementary_4cfef_69 : decode cJ2_indexOfSupplementary_4cfef 69 = .ok (.iconst (-1), 1) := by decide +kernel
theorem dJ2_indexOfSupplementary_4cfef_70 : decode cJ2_indexOfSupplementary_4cfef 70 = .ok (.ireturn, 1) := by decide +kernel
theorem dJ2_charAt_3b067_0 : decode cJ2_charAt_3b067 0 = .ok (.iload_n 1, 1) := by decide +kernel
theorem dJ2_charAt_3b067_1 : decode cJ2_charAt_3b067 1 = .ok (.aload_n 0, 1) := by decide +kernel
theorem dJ2_charAt_3b067_2 : decode cJ2_charAt_3b067 2 = .ok (.invokestatic 67, 3) := by decide +kernel
theorem dJ2_charAt_3b067_5 : decode cJ2_charAt_3b067 5 = .ok (.aload_n 0, 1) := by decide +kernel
theorem dJ2_charAt_3b067_6 : decode cJ2_charAt_3b067 6 = .ok (.iload_n 1, 1) := by decide +kernel
theorem dJ2_charAt_3b067_7 : decode cJ2_charAt_3b067 7 = .ok (.invokestatic 71, 3) := by decide +kernel
theorem dJ2_charAt_3b067_10 : decode cJ2_charAt_3b067 10 = .ok (.ireturn, 1) := by decide +kernel
theorem dJ2_checkIndex_2214a_0 : decode cJ2_checkIndex_2214a 0 = .ok (.iload_n 0, 1) := by decide +kernel
theorem dJ2_checkIndex_2214a_1 : decode cJ2_checkIndex_2214a 1 = .ok (.aload_n 1, 1) := by decide +kernel
theorem dJ2_checkIndex_2214a_2 : decode cJ2_checkIndex_2214a 2 = .ok (.invokestatic 48, 3) := by decide +kernel
theorem dJ2_checkIndex_2214a_5 : decode cJ2_checkIndex_2214a 5 = .ok (.invokestatic 414, 3) := by decide +kernel
theorem dJ2_checkIndex_2214a_8 : decode cJ2_checkIndex_2214a 8 = .ok (.return_, 1) := by decide +kernel
theorem dJ2_checkBoundsBeginEnd_d044e_0 : decode cJ2_checkBoundsBeginEnd_d044e 0 = .ok (.iload_n 0, 1) := by decide +kernel
theorem dJ2_checkBoundsBeginEnd_d044e_1 : decode cJ2_checkBoundsBeginEnd_d044e 1 = .ok (.iload_n 1, 1) := by decide +kernel
theorem dJ2_checkBoundsBeginEnd_d044e_2 : decode cJ2_checkBoundsBeginEnd_d044e 2 = .ok (.aload_n 2, 1) := by decide +kernel
theorem dJ2_checkBoundsBeginEnd_d044e_3 : decode cJ2_checkBoundsBeginEnd_d044e 3 = .ok (.invokestatic 48, 3) := by decide +kernel
theorem dJ2_checkBoundsBeginEnd_d044e_6 : decode cJ2_checkBoundsBeginEnd_d044e 6 = .ok (.invokestatic 241, 3) := by decide +kernel
theorem dJ2_checkBoundsBeginEnd_d044e_9 : decode cJ2_checkBoundsBeginEnd_d044e 9 = .ok (.return_, 1) := by decide +kernel
theorem dJ3_checkIndex_8e157_0 : decode cJ3_checkIndex_8e157 0 = .ok (.iload_n 0, 1) := by decide +kernel
theorem dJ3_checkIndex_8e157_1 : decode cJ3_checkIndex_8e157 1 = .ok (.ifCond .lt 8, 3) := by decide +kernel
theorem dJ3_checkIndex_8e157_4 : decode cJ3_checkIndex_8e157 4 = .ok (.iload_n 0, 1) := by decide +kernel
theorem dJ3_checkIndex_8e157_5 : decode cJ3_checkIndex_8e157 5 = .ok (.iload_n 1, 1) := by decide +kernel
theorem dJ3_checkIndex_8e157_6 : decode cJ3_checkIndex_8e157 6 = .ok (.if_icmp .lt 10, 3) := by decide +kernel
theorem dJ3_checkIndex_8e157_9 : decode cJ3_checkIndex_8e157 9 = .ok (.aload_n 2, 1) := by decide +kernel
theorem dJ3_checkIndex_8e157_10 : decode cJ3_checkIndex_8e157 10 = .ok (.iload_n 0, 1) := by decide +kernel
theorem dJ3_checkIndex_8e157_11 : decode cJ3_checkIndex_8e157 11 = .ok (.iload_n 1, 1) := by decide +kernel
theorem dJ3_checkIndex_8e157_12 : decode cJ3_checkIndex_8e157 12 = .ok (.invokestatic 95, 3) := by decide +kernel
theorem dJ3_checkIndex_8e157_15 : decode cJ3_checkIndex_8e157 15 = .ok (.athrow, 1) := by decide +kernel
theorem dJ3_checkIndex_8e157_16 : decode cJ3_checkIndex_8e157 16 = .ok (.iload_n 0, 1) := by decide +kernel
theorem dJ3_checkIndex_8e157_17 : decode cJ3_checkIndex_8e157 17 = .ok (.ireturn, 1) := by decide +kernel
theorem dJ3_checkFromToIndex_8c36e_0 : decode cJ3_checkFromToIndex_8c36e 0 = .ok (.iload_n 0, 1) := by decide +kernel
theorem dJ3_checkFromToIndex_8c36e_1 : decode cJ3_checkFromToIndex_8c36e 1 = .ok (.ifCond .lt 13, 3) := by decide +kernel
theorem dJ3_checkFromToIndex_8c36e_4 : decode cJ3_checkFromToIndex_8c36e 4 = .ok (.iload_n 0, 1) := by decide +kernel
theorem dJ3_checkFromToIndex_8c36e_5 : decode cJ3_checkFromToIndex_8c36e 5 = .ok (.iload_n 1, 1) := by decide +kernel
theorem dJ3_checkFromToIndex_8c36e_6 : decode cJ3_checkFromToIndex_8c36e 6 = .ok (.if_icmp .gt 8, 3) := by decide +kernel
theorem dJ3_checkFromToIndex_8c36e_9 : decode cJ3_checkFromToIndex_8c36e 9 = .ok (.iload_n 1, 1) := by decide +kernel
theorem dJ3_checkFromToIndex_8c36e_10 : decode cJ3_checkFromToIndex_8c36e 10 = .ok (.iload_n 2, 1) := by decide +kernel
theorem dJ3_checkFromToIndex_8c36e_11 : decode cJ3_checkFromToIndex_8c36e 11 = .ok (.if_icmp .le 11, 3) := by decide +kernel
theorem dJ3_checkFromToIndex_8c36e_14 : decode cJ3_checkFromToIndex_8c36e 14 = .ok (.aload_n 3, 1) := by decide +kernel
theorem dJ3_checkFromToIndex_8c36e_15 : decode cJ3_checkFromToIndex_8c36e 15 = .ok (.iload_n 0, 1) := by decide +kernel
theorem dJ3_checkFromToIndex_8c36e_16 : decode cJ3_checkFromToIndex_8c36e 16 = .ok (.iload_n 1, 1) := by decide +kernel
theorem dJ3_checkFromToIndex_8c36e_17 : decode cJ3_checkFromToIndex_8c36e 17 = .ok (.iload_n 2, 1) := by decide +kernel
theorem dJ3_checkFromToIndex_8c36e_18 : decode cJ3_checkFromToIndex_8c36e 18 = .ok (.invokestatic 99, 3) := by decide +kernel
theorem dJ3_checkFromToIndex_8c36e_21 : decode cJ3_checkFromToIndex_8c36e 21 = .ok (.athrow, 1) := by decide +kernel
theorem dJ3_checkFromToIndex_8c36e_22 : decode cJ3_checkFromToIndex_8c36e 22 = .ok (.iload_n 0, 1) := by decide +kernel
theorem dJ3_checkFromToIndex_8c36e_23 : decode cJ3_checkFromToIndex_8c36e 23 = .ok (.ireturn, 1) := by decide +kernel
end
section
/-! THE WORLD OF A METHOD, bundled. g: the classes' numbers, the fields' slots, the array classes, the addresses of what is given -/
abbrev GG : Type := (Nat → ClassId) × (Nat → Nat → Nat) × (Nat → ClassId) × (Nat → Nat)
abbrev gD (g : GG) : va_G := (g.1, g.2.1)
abbrev gC (g : GG) (k : Nat) : ClassId := g.2.2.1 k
abbrev gA (g : GG) (k : Nat) : Nat := g.2.2.2 k
abbrev gT (g : GG) : List (ClassId × FieldType) := [(gC g 0, .int), (gC g 1, .long), (gC g 2, .boolean), (gC g 3, .object "SessionGate$Key"), (gC g 4, .object "SessionGate$Session"), (gC g 5, .object "SessionGate$User")]
abbrev iA (g : GG) (n : Nat) (f : Nat → Int32) : va_E := .inl (gC g 0, n, .inl f)
abbrev jA (g : GG) (n : Nat) (f : Nat → Int64) : va_E := .inl (gC g 1, n, .inr (.inl f))
abbrev zA (g : GG) (n : Nat) (f : Nat → Int32) : va_E := .inl (gC g 2, n, .inl f)
abbrev rA (g : GG) (t n : Nat) (f : Nat → Option Nat) : va_E := .inl (gC g t, n, .inr (.inr (.inr (.inr f))))
/-- the nest's words -/
def nws : List Cond := [.fieldLinkNest RX7 160 "SessionGate$Session" "last" "J" "SessionGate", .fieldLinkNest RX7 163 "SessionGate$Session" "open" "Z" "SessionGate", .fieldLinkNest RX7 167 "SessionGate$Session" "owner" "I" "SessionGate", .fieldLinkNest RX7 201 "SessionGate$Session" "id" "J" "SessionGate", .fieldLinkNest RX7 204 "SessionGate$Session" "began" "J" "SessionGate", .fieldLinkNest RX7 214 "SessionGate$Key" "bytes" "[I" "SessionGate", .fieldLinkNest RX7 221 "SessionGate$Mac" "bytes" "[I" "SessionGate", .fieldLinkNest RX0 33 "SessionGate$Text" "signs" "[I" "SessionGate", .fieldLinkNest RX0 9 "SessionGate$Text" "length" "I" "SessionGate", .fieldLinkNest RX2 23 "SessionGate$Key" "replacedAt" "J" "SessionGate", .fieldLinkNest RX2 27 "SessionGate$Key" "number" "I" "SessionGate", .fieldLinkNest RX7 196 "SessionGate$Text" "signs" "[I" "SessionGate", .fieldLinkNest RX7 181 "SessionGate$Text" "length" "I" "SessionGate", .fieldLinkNest RX7 118 "SessionGate$Key" "number" "I" "SessionGate",
  .methodLinkNest RX7 25 yX5_init "SessionGate", .methodLinkNest RX7 89 yX6_init "SessionGate", .methodLinkNest RX7 9 yX3_init "SessionGate", .methodLinkNest RX7 90 yX4_init "SessionGate", .methodLinkNest RX1 21 yX7_byteOf "SessionGate", .methodLinkNest RX2 22 yX1_init "SessionGate", .methodLinkNest RX3 45 yX7_byteOf "SessionGate", .methodLinkNest RX5 19 yX7_byteOf "SessionGate"]
def nwOk : Cond → Bool
  | .fieldLinkNest _ _ _ _ _ _ => true
  | .methodLinkNest _ _ _ _ => true
  | .declares _ => true
  | .castable _ _ => true
  | _ => false
theorem nw_warm {w : Cond} (h : nwOk w = true) {s U : State} (hW : s.WarmedH U.vm) (hZ : va_Nw w s) : va_Nw w U := by
  cases w <;> first | exact va_Nw.warmF hW hZ | exact va_Nw.warmM hW hZ | exact va_Nw.warmD hW hZ | exact va_Nw.warmC hW hZ | cases h
theorem nw_tab {w : Cond} (h : nwOk w = true) : w.onTables = true := by
  cases w <;> first | rfl | cases h
theorem nws_ok : ∀ w ∈ nws, nwOk w = true := by decide +kernel
def kSTART : List Int32 := [0x6a09e667, 0xbb67ae85, 0x3c6ef372, 0xa54ff53a, 0x510e527f, 0x9b05688c, 0x1f83d9ab, 0x5be0cd19]
def kROUND : List Int32 := [0x428a2f98, 0x71374491, 0xb5c0fbcf, 0xe9b5dba5, 0x3956c25b, 0x59f111f1, 0x923f82a4, 0xab1c5ed5, 0xd807aa98, 0x12835b01, 0x243185be, 0x550c7dc3, 0x72be5d74, 0x80deb1fe, 0x9bdc06a7, 0xc19bf174, 0xe49b69c1, 0xefbe4786, 0x0fc19dc6, 0x240ca1cc, 0x2de92c6f, 0x4a7484aa, 0x5cb0a9dc, 0x76f988da, 0x983e5152, 0xa831c66d, 0xb00327c8, 0xbf597fc7, 0xc6e00bf3, 0xd5a79147, 0x06ca6351, 0x14292967, 0x27b70a85, 0x2e1b2138, 0x4d2c6dfc, 0x53380d13, 0x650a7354, 0x766a0abb, 0x81c2c92e, 0x92722c85, 0xa2bfe8a1, 0xa81a664b, 0xc24b8b70, 0xc76c51a3, 0xd192e819, 0xd6990624, 0xf40e3585, 0x106aa070, 0x19a4c116, 0x1e376c08, 0x2748774c, 0x34b0bcb5, 0x391c0cb3, 0x4ed8aa4a, 0x5b9cca4f, 0x682e6ff3, 0x748f82ee, 0x78a5636f, 0x84c87814, 0x8cc70208, 0x90befffa, 0xa4506ceb, 0xbef9a3f7, 0xc67178f2]
def kALPH : List Int32 := [65, 66, 67, 68, 69, 70, 71, 72, 73, 74, 75, 76, 77, 78, 79, 80, 81, 82, 83, 84, 85, 86, 87, 88, 89, 90, 97, 98, 99, 100, 101, 102, 103, 104, 105, 106, 107, 108, 109, 110, 111, 112, 113, 114, 115, 116, 117, 118, 119, 120, 121, 122, 48, 49, 50, 51, 52, 53, 54, 55, 56, 57, 45, 95]
def kS (j : Nat) : Int32 := kSTART.getD j 0
def kR (j : Nat) : Int32 := kROUND.getD j 0
def kA (j : Nat) : Int32 := kALPH.getD j 0
abbrev fmtD : String := "Ljava/util/function/BiFunction;"
/-- what is given and never written: the nest's words, the tables, the alphabet, the JDK's statics -/
def EnvG (g : GG) (A : Nat → Prop) (U : State) (H : Heap) : Prop :=
  (∀ w ∈ nws, va_Nw w U) ∧
  va_Z "SessionGate$Mac" "START" "[I" (.ref (gA g 0)) A U H ∧ va_T .int (gA g 0) 8 (fun j => .int (kS j)) A U H ∧
  va_Z "SessionGate$Mac" "ROUNDS" "[I" (.ref (gA g 1)) A U H ∧ va_T .int (gA g 1) 64 (fun j => .int (kR j)) A U H ∧
  vk_R "SessionGate$Coder" 17 "ABCDEFGHIJKLMNOPQRSTUVWXYZabcdefghijklmnopqrstuvwxyz0123456789-_" (gA g 2) U ∧
  va_O "java/lang/String" (gA g 2) A U H ∧ va_OF "java/lang/String" "value" "[B" (.ref (gA g 3)) (gA g 2) A U H ∧ va_OF "java/lang/String" "coder" "B" (.int 0) (gA g 2) A U H ∧
  va_T .byte (gA g 3) 64 (fun j => .int (kA j)) A U H ∧ va_Z "java/lang/String" "COMPACT_STRINGS" "Z" (.int 1) A U H ∧
  va_Zq "jdk/internal/util/Preconditions" "SIOOBE_FORMATTER" fmtD A U H ∧
  vx_Zq Bundle.tN "UNASSIGNED_STACK" Bundle.steD A U H ∧ vx_Zq Bundle.tN "SUPPRESSED_SENTINEL" Bundle.listD A U H
theorem EnvG.kept {g : GG} {A : Nat → Prop} {U : State} {H H1 : Heap} (h : EnvG g A U H) (hq : ∀ a : Nat, a < H.size → ¬ A a → H1[a]? = H[a]?) : EnvG g A U H1 := by
  obtain ⟨h0, h1, h2, h3, h4, h5, h6, h7, h8, h9, h10, h11, h12, h13⟩ := h
  exact ⟨h0, h1.kept hq, h2.kept hq, h3.kept hq, h4.kept hq, h5, h6.kept hq, h7.kept hq, h8.kept hq, h9.kept hq, h10.kept hq, h11.kept hq, h12.kept hq, h13.kept hq⟩
theorem EnvG.narrow {g : GG} {A B : Nat → Prop} {U : State} {H : Heap} (h : EnvG g A U H) (hq : ∀ q, B q → A q) : EnvG g B U H := by
  obtain ⟨h0, h1, h2, h3, h4, h5, h6, h7, h8, h9, h10, h11, h12, h13⟩ := h
  exact ⟨h0, h1.narrow hq, h2.narrow hq, h3.narrow hq, h4.narrow hq, h5, h6.narrow hq, h7.narrow hq, h8.narrow hq, h9.narrow hq, h10.narrow hq, h11.narrow hq, h12.narrow hq, h13.narrow hq⟩
theorem EnvG.moved {g : GG} {A : Nat → Prop} {s U : State} {H : Heap} (h : EnvG g A s H) (hW : s.WarmedH U.vm) : EnvG g A U H := by
  obtain ⟨h0, h1, h2, h3, h4, h5, h6, h7, h8, h9, h10, h11, h12, h13⟩ := h
  have hv := hW.alike
  exact ⟨fun w hw => nw_warm (nws_ok w hw) hW (h0 w hw), h1.moved hv, h2.moved hv, h3.moved hv, h4.moved hv, h5.warm hW, h6.moved hv, h7.moved hv, h8.moved hv, h9.moved hv, h10.moved hv, h11.moved hv, h12.moved hv, h13.moved hv⟩
theorem EnvG.same {g : GG} {A : Nat → Prop} {s U : State} {H : Heap} (h : EnvG g A s H) (hW : U.vm = s.vm) : EnvG g A U H := by
  obtain ⟨h0, h1, h2, h3, h4, h5, h6, h7, h8, h9, h10, h11, h12, h13⟩ := h
  have hv : s.vm.Alike U.vm := by rw [hW]; exact Vm.Alike.refl s.vm
  exact ⟨fun w hw => va_Nw.same (nw_tab (nws_ok w hw)) hW.symm (h0 w hw), h1.moved hv, h2.moved hv, h3.moved hv, h4.moved hv, h5.same hW, h6.moved hv, h7.moved hv, h8.moved hv, h9.moved hv, h10.moved hv, h11.moved hv, h12.moved hv, h13.moved hv⟩
/-- a method's start over the cells WS -/
def CP (g : GG) (WS : va_W) (sz : Nat) : State → Prop := fun U => U.heap.size = sz ∧ va_P (gD g) vwCl WS U.heap ∧ va_K (gD g) vwCl (gT g) U ∧ va_D (fun _ => True) WS ∧ EnvG g (va_A WS sz) U U.heap
/-- .. and its end -/
def CQ {S : Type} (g : GG) (WS' : S → va_W) (A : Nat → Prop) : S → State → Prop := fun u t => va_P (gD g) vwCl (WS' u) t.heap ∧ va_K (gD g) vwCl (gT g) t ∧ va_D A (WS' u)
abbrev rmm (fr lo : Nat) : Room := { frames := fr, cells := 0, slots := 0, locals := lo }
/-- a contract: a method that makes no cells -/
def Ct (g : GG) (l : Launch) (y : MethodName) (cy : ByteArray) (n : Nat) (r : Option FieldType) (fr lo : Nat) (args : List Value) (WS : va_W) (Q : (Nat → Prop) → Array Value → State → Outcome → State → Prop) : Prop :=
  ∀ sz : Nat, Met l y (Cond.code y cy n r :: BIG) (rmm fr lo) (va_Pc args (CP g WS sz)) (Q (va_A WS sz)) 0 0 (va_A WS sz)
abbrev Ri {S : Type} (g : GG) (post : Int32 → S → Prop) (WS' : S → va_W) : (Nat → Prop) → Array Value → State → Outcome → State → Prop := fun A => va_Qi post (CQ g WS' A) A
abbrev Rl {S : Type} (g : GG) (post : Int64 → S → Prop) (WS' : S → va_W) : (Nat → Prop) → Array Value → State → Outcome → State → Prop := fun A => va_Ql post (CQ g WS' A) A
abbrev Rv {S : Type} (g : GG) (post : S → Prop) (WS' : S → va_W) : (Nat → Prop) → Array Value → State → Outcome → State → Prop := fun A => va_Qv post (CQ g WS' A) A
abbrev Rq {S : Type} (g : GG) (post : Option Nat → S → Prop) (WS' : S → va_W) : (Nat → Prop) → Array Value → State → Outcome → State → Prop := fun A => va_Qq post (CQ g WS' A) A
/-- all that a walk knows of the heap -/
def Wd (g : GG) (s : State) (A : Nat → Prop) (H : Heap) (locs : List Loc) (ws : va_W) : Prop :=
  va_K (gD g) vwCl (gT g) s ∧ va_P (gD g) vwCl ws H ∧ va_D A ws ∧ va_S A s.heap H locs ∧ EnvG g A s s.heap ∧ ∀ q, s.heap.size ≤ q → A q
/-- cells of a world replaced, by their places -/
def sA : va_W → List Nat → va_W → va_W
  | ws, p :: ps, c :: cs => sA (ws.set p c) ps cs
  | ws, _, _ => ws
theorem sA_get : ∀ (ps : List Nat) (cs ws : va_W) (k : Nat) (q : Nat × va_E), cs.length = ps.length → (sA ws ps cs)[k]? = some q → (∃ j : Nat, ps[j]? = some k ∧ cs[j]? = some q) ∨ (k ∉ ps ∧ ws[k]? = some q) := by
  intro ps
  induction ps with
  | nil =>
    intro cs ws k q hl h
    refine Or.inr ⟨List.not_mem_nil, ?_⟩
    cases cs with
    | nil => exact h
    | cons c cs => exact h
  | cons p ps ih =>
    intro cs ws k q hl h
    cases cs with
    | nil => cases hl
    | cons c cs =>
      rcases ih cs (ws.set p c) k q (Nat.succ.inj hl) h with ⟨j, h1, h2⟩ | ⟨h1, h2⟩
      · exact Or.inl ⟨j + 1, h1, h2⟩
      · by_cases e : p = k
        · subst e
          rw [List.getElem?_set_self' ] at h2
          cases hw : ws[p]? with
          | none => rw [hw] at h2; cases h2
          | some z => rw [hw] at h2; exact Or.inl ⟨0, rfl, h2⟩
        · rw [List.getElem?_set_ne e] at h2
          exact Or.inr ⟨fun hm => (List.mem_cons.mp hm).elim (fun z => e z.symm) h1, h2⟩
theorem va_joinS {A0 : Nat → Prop} {D : va_G} {cl : List vw_C} {ws wc w1 : va_W} {H H1 : Heap} (hP : va_P D cl ws H) (hD : va_D A0 ws) (ps : List Nat) (hC : ps.map (fun i => ws[i]?) = wc.map some)
    (hk : ∀ q : Nat, q < H.size → ¬ va_A wc H.size q → H1[q]? = H[q]?) (hP1 : va_P D cl w1 H1) (ha : w1.map Prod.fst = wc.map Prod.fst) : va_P D cl (sA ws ps w1) H1 ∧ va_D A0 (sA ws ps w1) := by
  have hlen : wc.length = ps.length := by have := congrArg List.length hC; simpa using this.symm
  have hlen1 : w1.length = ps.length := by have := congrArg List.length ha; simp at this; omega
  have hat : ∀ (j i : Nat), ps[j]? = some i → ∃ z, wc[j]? = some z ∧ ws[i]? = some z := by
    intro j i hj
    have h1 : (ps.map (fun i => ws[i]?))[j]? = some (ws[i]?) := by simp [hj]
    rw [hC] at h1
    simp only [List.getElem?_map] at h1
    cases hw : wc[j]? with
    | none => rw [hw] at h1; cases h1
    | some z => rw [hw] at h1; exact ⟨z, rfl, (Option.some.inj h1).symm⟩
  have hadr : ∀ (j : Nat) (q : Nat × va_E), w1[j]? = some q → ∃ e, wc[j]? = some (q.1, e) := by
    intro j q hj
    have h1 : (w1.map Prod.fst)[j]? = some q.1 := by simp [hj]
    rw [ha] at h1
    simp only [List.getElem?_map] at h1
    cases hw : wc[j]? with
    | none => rw [hw] at h1; cases h1
    | some z => rw [hw] at h1; exact ⟨z.2, by have := Option.some.inj h1; rw [← this]⟩
  have hold : ∀ (k : Nat) (q : Nat × va_E), (sA ws ps w1)[k]? = some q → ∃ e, ws[k]? = some (q.1, e) := by
    intro k q hk
    rcases sA_get ps w1 ws k q hlen1 hk with ⟨j, h1, h2⟩ | ⟨-, h2⟩
    · obtain ⟨e, he⟩ := hadr j q h2
      obtain ⟨z, hz1, hz2⟩ := hat j k h1
      rw [he] at hz1
      exact ⟨e, by rw [hz2, ← hz1]⟩
    · exact ⟨q.2, h2⟩
  refine ⟨?_, ?_, ?_⟩
  · intro k q hq
    rcases sA_get ps w1 ws k q hlen1 hq with ⟨j, h1, h2⟩ | ⟨h1, h2⟩
    · exact hP1 j q h2
    · have hv := hP k q h2
      refine va_at.kept hv (hk _ (va_at.lt hv) ?_)
      rintro (⟨j, e, hj⟩ | hge)
      · have hjl : j < ps.length := by rw [← hlen]; exact (List.getElem?_eq_some_iff.mp hj).1
        obtain ⟨z, hz1, hz2⟩ := hat j ps[j] (List.getElem?_eq_getElem hjl)
        rw [hj] at hz1
        have e1 := hD.1 k ps[j] q z h2 hz2 (by rw [← Option.some.inj hz1])
        exact h1 (by rw [e1]; exact List.getElem_mem hjl)
      · exact absurd (va_at.lt hv) (Nat.not_lt.mpr hge)
  · intro i j p q hi hj e
    obtain ⟨e1, h1⟩ := hold i p hi
    obtain ⟨e2, h2⟩ := hold j q hj
    exact hD.1 i j _ _ h1 h2 e
  · intro k q hq
    obtain ⟨e1, h1⟩ := hold k q hq
    exact hD.2 k (q.1, e1) h1
theorem goodOf {ws : List Cond} (h : ∀ w ∈ ws, w ∈ BIG) : GoodIn BIG ws := fun w hw => goodBIG w (h w hw)
theorem goodC {y : MethodName} {cy : ByteArray} {n : Nat} {r : Option FieldType} (h5 : Cond.code y cy n r ∈ BIG) : GoodIn BIG (Cond.code y cy n r :: BIG) := goodOf (fun w hw => (List.mem_cons.mp hw).elim (fun e => e ▸ h5) id)
theorem goodV {own C : String} {idx : Nat} {y : MethodName} {cy : ByteArray} {n : Nat} {r : Option FieldType} (h1 : Cond.methodLink own idx y ∈ BIG) (h2 : Cond.instanceMethod y ∈ BIG) (h3 : Cond.selects C y y ∈ BIG) (h4 : Cond.initialized C ∈ BIG) (h5 : Cond.code y cy n r ∈ BIG) : GoodIn BIG (wsV own idx C y (Cond.code y cy n r :: BIG)) := by
  refine goodOf (fun w hw => ?_)
  rcases List.mem_append.mp hw with h | h
  · simp only [List.mem_cons, List.not_mem_nil, or_false] at h
    rcases h with rfl | rfl | rfl | rfl <;> assumption
  · exact (goodC h5 w h).1
theorem goodS {own : String} {idx : Nat} {y : MethodName} {cy : ByteArray} {n : Nat} {r : Option FieldType} (h1 : Cond.methodLink own idx y ∈ BIG) (h2 : Cond.static y ∈ BIG) (h4 : Cond.initialized y.cls ∈ BIG) (h5 : Cond.code y cy n r ∈ BIG) : GoodIn BIG (va_wsS own idx y (Cond.code y cy n r :: BIG)) := by
  refine goodOf (fun w hw => ?_)
  rcases List.mem_append.mp hw with h | h
  · simp only [List.mem_cons, List.not_mem_nil, or_false] at h
    rcases h with rfl | rfl | rfl <;> assumption
  · exact (goodC h5 w h).1
end
